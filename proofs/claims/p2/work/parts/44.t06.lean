/-! a value comes out, and the memory stays well (by program: wip/p2gen) -/
theorem t_case_15 {z : Zt} {F : Nat} {L : Nat} {xs : Nat → Int32} {i : Int32} {g : Mem} (hF : 4294967296 < F) (hx : HX L i) (hIg : Inv z g) : T (sp_case_15 F L xs i g) (fun r => ∃ g9, r = .inl g9 ∧ Inv z g9) := by
  unfold sp_case_15
  refine T.rxU hx.1 (fun v1 => ?_)
  refine T.callB (t_Law_die hIg) (fun v2 h1 => ?_)
  refine T.rxU hx.1 (fun v3 => ?_)
  refine T.callB (t_Model_die hF h1.2) (fun v4 h2 => ?_)
  exact T.some' (show ∃ g9, (Sum.inl v4.2 : Mem ⊕ Unit) = .inl g9 ∧ Inv z g9 from ⟨_, rfl, h2.2⟩)
theorem t_case_16 {z : Zt} {F : Nat} {L : Nat} {xs : Nat → Int32} {i : Int32} {g : Mem} (hF : 4294967296 < F) (hx : HX L i) (hIg : Inv z g) : T (sp_case_16 F L xs i g) (fun r => ∃ g9, r = .inl g9 ∧ Inv z g9) := by
  unfold sp_case_16
  refine T.callB (t_Hall_undo hIg) (fun v1 h1 => ?_)
  refine T.callB (t_Model_undo hF h1.2) (fun v2 h2 => ?_)
  exact T.some' (show ∃ g9, (Sum.inl v2.2 : Mem ⊕ Unit) = .inl g9 ∧ Inv z g9 from ⟨_, rfl, h2.2⟩)
theorem t_case_17 {z : Zt} {F : Nat} {L : Nat} {xs : Nat → Int32} {i : Int32} {g : Mem} (hF : 4294967296 < F) (hx : HX L i) (hIg : Inv z g) : T (sp_case_17 F L xs i g) (fun r => ∃ g9, r = .inl g9 ∧ Inv z g9) := by
  unfold sp_case_17
  refine T.rxU hx.1 (fun v1 => ?_)
  refine T.callB (t_Law_law hF hIg) (fun v2 h1 => ?_)
  refine T.rxU hx.1 (fun v3 => ?_)
  refine T.callB (t_Model_law hF h1.2) (fun v4 h2 => ?_)
  exact T.some' (show ∃ g9, (Sum.inl v4.2 : Mem ⊕ Unit) = .inl g9 ∧ Inv z g9 from ⟨_, rfl, h2.2⟩)
theorem t_case_18 {z : Zt} {F : Nat} {L : Nat} {xs : Nat → Int32} {i : Int32} {g : Mem} (hF : 4294967296 < F) (hx : HX L i) (hIg : Inv z g) : T (sp_case_18 F L xs i g) (fun r => ∃ g9, r = .inl g9 ∧ Inv z g9) := by
  unfold sp_case_18
  refine T.callB (t_Hall_rivals hF hIg) (fun v1 h1 => ?_)
  refine T.callB (t_Model_rivals hF hIg) (fun v2 h2 => ?_)
  exact T.some' (show ∃ g9, (Sum.inl v2.2 : Mem ⊕ Unit) = .inl g9 ∧ Inv z g9 from ⟨_, rfl, h2.2⟩)
theorem t_case_19 {z : Zt} {F : Nat} {L : Nat} {xs : Nat → Int32} {i : Int32} {g : Mem} (hF : 4294967296 < F) (hx : HX L i) (hIg : Inv z g) : T (sp_case_19 F L xs i g) (fun r => ∃ g9, r = .inl g9 ∧ Inv z g9) := by
  unfold sp_case_19
  refine T.rxU hx.1 (fun v1 => ?_)
  refine T.callB (t_Law_owed hF hIg) (fun v2 h1 => ?_)
  refine T.rxU hx.1 (fun v3 => ?_)
  refine T.callB (t_Model_owed hF h1.2) (fun v4 h2 => ?_)
  exact T.some' (show ∃ g9, (Sum.inl v4.2 : Mem ⊕ Unit) = .inl g9 ∧ Inv z g9 from ⟨_, rfl, h2.2⟩)
theorem t_case_20 {z : Zt} {F : Nat} {L : Nat} {xs : Nat → Int32} {i : Int32} {g : Mem} (hF : 4294967296 < F) (hx : HX L i) (hIg : Inv z g) : T (sp_case_20 F L xs i g) (fun r => ∃ g9, r = .inl g9 ∧ Inv z g9) := by
  unfold sp_case_20
  refine T.callB (t_Hall_cover hF hIg) (fun v1 h1 => ?_)
  refine T.callB (t_Model_cover hF h1.2) (fun v2 h2 => ?_)
  exact T.some' (show ∃ g9, (Sum.inl v2.2 : Mem ⊕ Unit) = .inl g9 ∧ Inv z g9 from ⟨_, rfl, h2.2⟩)
theorem t_case_21 {z : Zt} {F : Nat} {L : Nat} {xs : Nat → Int32} {i : Int32} {g : Mem} (hF : 4294967296 < F) (hx : HX L i) (hIg : Inv z g) : T (sp_case_21 F L xs i g) (fun r => ∃ g9, r = .inl g9 ∧ Inv z g9) := by
  unfold sp_case_21
  refine T.callB (t_Hall_alone hF hIg) (fun v1 h1 => ?_)
  refine T.callB (t_Model_alone hF hIg) (fun v2 h2 => ?_)
  exact T.some' (show ∃ g9, (Sum.inl v2.2 : Mem ⊕ Unit) = .inl g9 ∧ Inv z g9 from ⟨_, rfl, h2.2⟩)
theorem t_case_22 {z : Zt} {F : Nat} {L : Nat} {xs : Nat → Int32} {i : Int32} {g : Mem} (hF : 4294967296 < F) (hx : HX L i) (hIg : Inv z g) : T (sp_case_22 F L xs i g) (fun r => ∃ g9, r = .inl g9 ∧ Inv z g9) := by
  unfold sp_case_22
  refine T.rxU hx.1 (fun v1 => ?_)
  refine T.callB (t_Law_barbers hF hIg) (fun v2 h1 => ?_)
  refine T.rxU hx.1 (fun v3 => ?_)
  refine T.callB (t_Model_barbers hF h1.2) (fun v4 h2 => ?_)
  exact T.some' (show ∃ g9, (Sum.inl v4.2 : Mem ⊕ Unit) = .inl g9 ∧ Inv z g9 from ⟨_, rfl, h2.2⟩)
theorem t_case_23 {z : Zt} {F : Nat} {L : Nat} {xs : Nat → Int32} {i : Int32} {g : Mem} (hF : 4294967296 < F) (hx : HX L i) (hIg : Inv z g) : T (sp_case_23 F L xs i g) (fun r => ∃ g9, r = .inl g9 ∧ Inv z g9) := by
  unfold sp_case_23
  refine T.rxU hx.1 (fun v1 => ?_)
  refine T.callB (t_Law_shortest hF hIg) (fun v2 h1 => ?_)
  refine T.rxU hx.1 (fun v3 => ?_)
  refine T.callB (t_Model_shortest hF h1.2) (fun v4 h2 => ?_)
  exact T.some' (show ∃ g9, (Sum.inl v4.2 : Mem ⊕ Unit) = .inl g9 ∧ Inv z g9 from ⟨_, rfl, h2.2⟩)
theorem t_case_24 {z : Zt} {F : Nat} {L : Nat} {xs : Nat → Int32} {i : Int32} {g : Mem} (hF : 4294967296 < F) (hx : HX L i) (hIg : Inv z g) : T (sp_case_24 F L xs i g) (fun r => ∃ g9, r = .inl g9 ∧ Inv z g9) := by
  unfold sp_case_24
  refine T.rxU hx.1 (fun v1 => ?_)
  refine T.rxU hx.2.1 (fun v2 => ?_)
  refine T.rxU hx.2.2.1 (fun v3 => ?_)
  refine T.callB (t_Law_amnesty hF hIg) (fun v4 h1 => ?_)
  refine T.rxU hx.1 (fun v5 => ?_)
  refine T.rxU hx.2.1 (fun v6 => ?_)
  refine T.rxU hx.2.2.1 (fun v7 => ?_)
  refine T.callB (t_Model_amnesty hF h1.2) (fun v8 h2 => ?_)
  exact T.some' (show ∃ g9, (Sum.inl v8.2 : Mem ⊕ Unit) = .inl g9 ∧ Inv z g9 from ⟨_, rfl, h2.2⟩)
theorem t_case_25 {z : Zt} {F : Nat} {L : Nat} {xs : Nat → Int32} {i : Int32} {g : Mem} (hF : 4294967296 < F) (hx : HX L i) (hIg : Inv z g) : T (sp_case_25 F L xs i g) (fun r => ∃ g9, r = .inl g9 ∧ Inv z g9) := by
  unfold sp_case_25
  refine T.rxU hx.1 (fun v1 => ?_)
  refine T.rxU hx.2.1 (fun v2 => ?_)
  refine T.callB (t_Law_week hF hIg) (fun v3 h1 => ?_)
  refine T.rxU hx.1 (fun v4 => ?_)
  refine T.rxU hx.2.1 (fun v5 => ?_)
  refine T.callB (t_Model_week hF h1.2) (fun v6 h2 => ?_)
  exact T.some' (show ∃ g9, (Sum.inl v6.2 : Mem ⊕ Unit) = .inl g9 ∧ Inv z g9 from ⟨_, rfl, h2.2⟩)
theorem t_case_26 {z : Zt} {F : Nat} {L : Nat} {xs : Nat → Int32} {i : Int32} {g : Mem} (hF : 4294967296 < F) (hx : HX L i) (hIg : Inv z g) : T (sp_case_26 F L xs i g) (fun r => ∃ g9, r = .inl g9 ∧ Inv z g9) := by
  unfold sp_case_26
  refine T.rxU hx.1 (fun v1 => ?_)
  refine T.rxU hx.2.1 (fun v2 => ?_)
  refine T.callB (t_Law_oldest hF hIg) (fun v3 h1 => ?_)
  refine T.rxU hx.1 (fun v4 => ?_)
  refine T.rxU hx.2.1 (fun v5 => ?_)
  refine T.callB (t_Model_oldest hF h1.2) (fun v6 h2 => ?_)
  exact T.some' (show ∃ g9, (Sum.inl v6.2 : Mem ⊕ Unit) = .inl g9 ∧ Inv z g9 from ⟨_, rfl, h2.2⟩)
theorem t_case_27 {z : Zt} {F : Nat} {L : Nat} {xs : Nat → Int32} {i : Int32} {g : Mem} (hF : 4294967296 < F) (hx : HX L i) (hIg : Inv z g) : T (sp_case_27 F L xs i g) (fun r => ∃ g9, r = .inl g9 ∧ Inv z g9) := by
  unfold sp_case_27
  refine T.rxU hx.1 (fun v1 => ?_)
  refine T.callB (t_Law_believed hF hIg) (fun v2 h1 => ?_)
  refine T.rxU hx.1 (fun v3 => ?_)
  refine T.callB (t_Model_believed hF h1.2) (fun v4 h2 => ?_)
  exact T.some' (show ∃ g9, (Sum.inl v4.2 : Mem ⊕ Unit) = .inl g9 ∧ Inv z g9 from ⟨_, rfl, h2.2⟩)
theorem t_case_28 {z : Zt} {F : Nat} {L : Nat} {xs : Nat → Int32} {i : Int32} {g : Mem} (hF : 4294967296 < F) (hx : HX L i) (hIg : Inv z g) : T (sp_case_28 F L xs i g) (fun r => ∃ g9, r = .inl g9 ∧ Inv z g9) := by
  unfold sp_case_28
  refine T.rxU hx.1 (fun v1 => ?_)
  refine T.callB (t_Law_until hIg) (fun v2 h1 => ?_)
  refine T.rxU hx.1 (fun v3 => ?_)
  refine T.callB (t_Model_until h1.2) (fun v4 h2 => ?_)
  exact T.some' (show ∃ g9, (Sum.inl v4.2 : Mem ⊕ Unit) = .inl g9 ∧ Inv z g9 from ⟨_, rfl, h2.2⟩)
theorem t_case_29 {z : Zt} {F : Nat} {L : Nat} {xs : Nat → Int32} {i : Int32} {g : Mem} (hF : 4294967296 < F) (hx : HX L i) (hIg : Inv z g) : T (sp_case_29 F L xs i g) (fun r => ∃ g9, r = .inl g9 ∧ Inv z g9) := by
  unfold sp_case_29
  refine T.rxU hx.1 (fun v1 => ?_)
  refine T.callB (t_Law_doomed hF hIg) (fun v2 h1 => ?_)
  refine T.rxU hx.1 (fun v3 => ?_)
  refine T.callB (t_Model_doomed hF h1.2) (fun v4 h2 => ?_)
  exact T.some' (show ∃ g9, (Sum.inl v4.2 : Mem ⊕ Unit) = .inl g9 ∧ Inv z g9 from ⟨_, rfl, h2.2⟩)
theorem t_case_30 {z : Zt} {F : Nat} {L : Nat} {xs : Nat → Int32} {i : Int32} {g : Mem} (hF : 4294967296 < F) (hx : HX L i) (hIg : Inv z g) : T (sp_case_30 F L xs i g) (fun r => ∃ g9, r = .inl g9 ∧ Inv z g9) := by
  unfold sp_case_30
  refine T.callB (t_Hall_safest hF hIg) (fun v1 h1 => ?_)
  refine T.callB (t_Model_safest hF hIg) (fun v2 h2 => ?_)
  exact T.some' (show ∃ g9, (Sum.inl v2.2 : Mem ⊕ Unit) = .inl g9 ∧ Inv z g9 from ⟨_, rfl, h2.2⟩)
theorem t_case_31 {z : Zt} {F : Nat} {L : Nat} {xs : Nat → Int32} {i : Int32} {g : Mem} (hF : 4294967296 < F) (hx : HX L i) (hIg : Inv z g) : T (sp_case_31 F L xs i g) (fun r => ∃ g9, r = .inl g9 ∧ Inv z g9) := by
  unfold sp_case_31
  refine T.rxU hx.1 (fun v1 => ?_)
  refine T.callB (t_Law_heir hF hIg) (fun v2 h1 => ?_)
  refine T.rxU hx.1 (fun v3 => ?_)
  refine T.callB (t_Model_heir hF h1.2) (fun v4 h2 => ?_)
  exact T.some' (show ∃ g9, (Sum.inl v4.2 : Mem ⊕ Unit) = .inl g9 ∧ Inv z g9 from ⟨_, rfl, h2.2⟩)
theorem t_case_32 {z : Zt} {F : Nat} {L : Nat} {xs : Nat → Int32} {i : Int32} {g : Mem} (hF : 4294967296 < F) (hx : HX L i) (hIg : Inv z g) : T (sp_case_32 F L xs i g) (fun r => ∃ g9, r = .inl g9 ∧ Inv z g9) := by
  unfold sp_case_32
  refine T.rxU hx.1 (fun v1 => ?_)
  refine T.callB (t_Law_lice hF hIg) (fun v2 h1 => ?_)
  refine T.rxU hx.1 (fun v3 => ?_)
  refine T.callB (t_Model_lice hF h1.2) (fun v4 h2 => ?_)
  exact T.some' (show ∃ g9, (Sum.inl v4.2 : Mem ⊕ Unit) = .inl g9 ∧ Inv z g9 from ⟨_, rfl, h2.2⟩)
theorem t_case_33 {z : Zt} {F : Nat} {L : Nat} {xs : Nat → Int32} {i : Int32} {g : Mem} (hF : 4294967296 < F) (hx : HX L i) (hIg : Inv z g) : T (sp_case_33 F L xs i g) (fun r => ∃ g9, r = .inl g9 ∧ Inv z g9) := by
  unfold sp_case_33
  refine T.rxU hx.1 (fun v1 => ?_)
  refine T.rxU hx.2.1 (fun v2 => ?_)
  refine T.cond (fun c1 => ?_) (fun c1 => ?_)
  · have f2 : B 0 0 (v2) := B.eql c1 (B.any v2) (show B 0 0 (0 : Int32) from ⟨by decide, by decide⟩) (by decide)
    refine T.callB (t_Law_see hIg) (fun v4 h3 => ?_)
    refine T.rxU hx.1 (fun v5 => ?_)
    refine T.rxU hx.2.1 (fun v6 => ?_)
    refine T.cond (fun c4 => ?_) (fun c4 => ?_)
    · have f5 : B 0 0 (v6) := B.eql c4 (B.any v6) (show B 0 0 (0 : Int32) from ⟨by decide, by decide⟩) (by decide)
      refine T.callB (t_Model_see h3.2) (fun v8 h6 => ?_)
      exact T.some' (show ∃ g9, (Sum.inl v8.2 : Mem ⊕ Unit) = .inl g9 ∧ Inv z g9 from ⟨_, rfl, h6.2⟩)
    · refine T.callB (t_Model_see h3.2) (fun v9 h7 => ?_)
      exact T.some' (show ∃ g9, (Sum.inl v9.2 : Mem ⊕ Unit) = .inl g9 ∧ Inv z g9 from ⟨_, rfl, h7.2⟩)
  · refine T.callB (t_Law_see hIg) (fun v10 h8 => ?_)
    refine T.rxU hx.1 (fun v11 => ?_)
    refine T.rxU hx.2.1 (fun v12 => ?_)
    refine T.cond (fun c9 => ?_) (fun c9 => ?_)
    · have f10 : B 0 0 (v12) := B.eql c9 (B.any v12) (show B 0 0 (0 : Int32) from ⟨by decide, by decide⟩) (by decide)
      refine T.callB (t_Model_see h8.2) (fun v14 h11 => ?_)
      exact T.some' (show ∃ g9, (Sum.inl v14.2 : Mem ⊕ Unit) = .inl g9 ∧ Inv z g9 from ⟨_, rfl, h11.2⟩)
    · refine T.callB (t_Model_see h8.2) (fun v15 h12 => ?_)
      exact T.some' (show ∃ g9, (Sum.inl v15.2 : Mem ⊕ Unit) = .inl g9 ∧ Inv z g9 from ⟨_, rfl, h12.2⟩)
theorem t_case_34 {z : Zt} {F : Nat} {L : Nat} {xs : Nat → Int32} {i : Int32} {g : Mem} (hF : 4294967296 < F) (hx : HX L i) (hIg : Inv z g) : T (sp_case_34 F L xs i g) (fun r => ∃ g9, r = .inl g9 ∧ Inv z g9) := by
  unfold sp_case_34
  refine T.rxU hx.1 (fun v1 => ?_)
  refine T.rxU hx.2.1 (fun v2 => ?_)
  refine T.callB (t_Law_ate hF hIg) (fun v3 h1 => ?_)
  refine T.rxU hx.1 (fun v4 => ?_)
  refine T.rxU hx.2.1 (fun v5 => ?_)
  refine T.callB (t_Model_ate hF h1.2) (fun v6 h2 => ?_)
  exact T.some' (show ∃ g9, (Sum.inl v6.2 : Mem ⊕ Unit) = .inl g9 ∧ Inv z g9 from ⟨_, rfl, h2.2⟩)
theorem t_case_35 {z : Zt} {F : Nat} {L : Nat} {xs : Nat → Int32} {i : Int32} {g : Mem} (hF : 4294967296 < F) (hx : HX L i) (hIg : Inv z g) : T (sp_case_35 F L xs i g) (fun r => ∃ g9, r = .inl g9 ∧ Inv z g9) := by
  unfold sp_case_35
  refine T.callB (t_Hall_forget hIg) (fun v1 h1 => ?_)
  refine T.callB (t_Model_forget h1.2) (fun v2 h2 => ?_)
  exact T.some' (show ∃ g9, (Sum.inl v2.2 : Mem ⊕ Unit) = .inl g9 ∧ Inv z g9 from ⟨_, rfl, h2.2⟩)
theorem t_case_36 {z : Zt} {F : Nat} {L : Nat} {xs : Nat → Int32} {i : Int32} {g : Mem} (hF : 4294967296 < F) (hx : HX L i) (hIg : Inv z g) : T (sp_case_36 F L xs i g) (fun r => ∃ g9, r = .inl g9 ∧ Inv z g9) := by
  unfold sp_case_36
  refine T.rxU hx.1 (fun v1 => ?_)
  refine T.callB (t_Law_game hF hIg) (fun v2 h1 => ?_)
  refine T.rxU hx.1 (fun v3 => ?_)
  refine T.callB (t_Model_game hF h1.2) (fun v4 h2 => ?_)
  exact T.some' (show ∃ g9, (Sum.inl v4.2 : Mem ⊕ Unit) = .inl g9 ∧ Inv z g9 from ⟨_, rfl, h2.2⟩)
theorem t_case_37 {z : Zt} {F : Nat} {L : Nat} {xs : Nat → Int32} {i : Int32} {g : Mem} (hF : 4294967296 < F) (hx : HX L i) (hIg : Inv z g) : T (sp_case_37 F L xs i g) (fun r => ∃ g9, r = .inl g9 ∧ Inv z g9) := by
  unfold sp_case_37
  refine T.rxU hx.1 (fun v1 => ?_)
  refine T.rxU hx.2.1 (fun v2 => ?_)
  refine T.rxU hx.2.2.1 (fun v3 => ?_)
  refine T.callB (t_Law_season hF hIg) (fun v4 h1 => ?_)
  refine T.rxU hx.1 (fun v5 => ?_)
  refine T.rxU hx.2.1 (fun v6 => ?_)
  refine T.rxU hx.2.2.1 (fun v7 => ?_)
  refine T.callB (t_Model_season hF h1.2) (fun v8 h2 => ?_)
  exact T.some' (show ∃ g9, (Sum.inl v8.2 : Mem ⊕ Unit) = .inl g9 ∧ Inv z g9 from ⟨_, rfl, h2.2⟩)
theorem t_case_38 {z : Zt} {F : Nat} {L : Nat} {xs : Nat → Int32} {i : Int32} {g : Mem} (hF : 4294967296 < F) (hx : HX L i) (hIg : Inv z g) : T (sp_case_38 F L xs i g) (fun r => ∃ g9, r = .inl g9 ∧ Inv z g9) := by
  unfold sp_case_38
  refine T.callB (t_Hall_image hIg) (fun v1 h1 => ?_)
  refine T.callB (t_Model_image hF h1) (fun v2 h2 => ?_)
  exact T.some' (show ∃ g9, (Sum.inl v2 : Mem ⊕ Unit) = .inl g9 ∧ Inv z g9 from ⟨_, rfl, h2⟩)
theorem t_case_39 {z : Zt} {F : Nat} {L : Nat} {xs : Nat → Int32} {i : Int32} {g : Mem} (hF : 4294967296 < F) (hx : HX L i) (hIg : Inv z g) : T (sp_case_39 F L xs i g) (fun r => ∃ g9, r = .inl g9 ∧ Inv z g9) := by
  unfold sp_case_39
  refine T.callB (t_Hall_restore hIg) (fun v1 h1 => ?_)
  refine T.callB (t_Model_restore hF h1.2) (fun v2 h2 => ?_)
  exact T.some' (show ∃ g9, (Sum.inl v2.2 : Mem ⊕ Unit) = .inl g9 ∧ Inv z g9 from ⟨_, rfl, h2.2⟩)
