/-! feed and archive in the law; the switch; between calls -/
theorem t_Law_archive {t1 t2 : Int32} {f : Nat → Int32} {F : Nat} {p1 : Int32} {g : Mem} (hF : 4294967296 < F) (ht : B 0 700 t1) (hI : Inv (t1, t2, f) g) : T (sp_Law_archive F p1 g) (fun r => (0 ≤ p1.toInt ∧ p1.toInt ≤ t1.toInt → ∃ f', Inv (0, t2, f') r.2) ∧ (¬ (0 ≤ p1.toInt ∧ p1.toInt ≤ t1.toInt) → Inv (t1, t2, f) r.2)) := by
  unfold sp_Law_archive
  refine T.callB (t_Hall_archive hF ht hI) (fun r2 h2 => ?_)
  rcases r2 with v1 | e9
  · have h3 : (0 ≤ p1.toInt ∧ p1.toInt ≤ t1.toInt) ∧ ∃ f', Inv (0, t2, f') v1.2 := h2
    dsimp only
    obtain ⟨h4, f', h5⟩ := h3
    exact T.wrI (I := fun m => Inv (0, t2, f') m) (by decide) (h5.fra rfl) (fun g3 h6 => T.some' ⟨fun _ => ⟨f', h6⟩, fun h => absurd h4 h⟩)
  · have h3 : e9 = 0 ∧ ¬ (0 ≤ p1.toInt ∧ p1.toInt ≤ t1.toInt) := h2
    obtain ⟨h4, h5⟩ := h3
    subst h4
    dsimp only
    exact T.some' ⟨fun h => absurd h h5, fun _ => hI⟩
/-- between two calls of the law: both tapes have the same length -/
def LI (g : Mem) : Prop := ∃ (t : Int32) (f : Nat → Int32), B 0 700 t ∧ Inv (t, t, f) g
theorem t_case_0 {F L : Nat} {xs : Nat → Int32} {i : Int32} {g : Mem} (hF : 4294967296 < F) (hx : HX L i) (h : LI g) : T (sp_case_0 F L xs i g) (fun r => ∃ g9, r = .inl g9 ∧ LI g9) := by
  obtain ⟨t, f, ht, hI⟩ := h
  unfold sp_case_0
  refine T.rxB hx.1 (T.rxB hx.2.1 (T.rxB hx.2.2.1 (T.rxB hx.2.2.2.1 (T.rxB hx.2.2.2.2 ?_))))
  refine T.callB (t_Hall_feed hF ht hI) (fun v6 h6 => ?_)
  refine T.rxB hx.1 (T.rxB hx.2.1 (T.rxB hx.2.2.1 (T.rxB hx.2.2.2.1 (T.rxB hx.2.2.2.2 ?_))))
  by_cases c : t + 20 ≤ 700
  · obtain ⟨e6, i6⟩ := h6.1 c
    refine T.callB (t_Model_feed hF ht i6) (fun v12 h12 => ?_)
    obtain ⟨e12, i12⟩ := h12.1 c
    refine T.pos (by rw [e6, e12]) (T.some' ⟨_, rfl, t + 20, f, ?_, i12⟩)
    have t20 : (t + 20).toInt = t.toInt + 20 := tapeB (i := 20) ht (by decide) (by decide)
    have c' := ile.mp c
    rw [show (700 : Int32).toInt = 700 from by decide] at c'
    exact ⟨by rw [t20]; have := ht.1; omega, c'⟩
  · obtain ⟨e6, i6⟩ := h6.2 c
    refine T.callB (t_Model_feed hF ht i6) (fun v12 h12 => ?_)
    obtain ⟨e12, i12⟩ := h12.2 c
    exact T.pos (by rw [e6, e12]) (T.some' ⟨_, rfl, t, f, ht, i12⟩)
theorem t_case_1 {F L : Nat} {xs : Nat → Int32} {i : Int32} {g : Mem} (hF : 4294967296 < F) (hx : HX L i) (h : LI g) : T (sp_case_1 F L xs i g) (fun r => ∃ g9, r = .inl g9 ∧ LI g9) := by
  obtain ⟨t, f, ht, hI⟩ := h
  unfold sp_case_1
  refine T.rxB hx.1 ?_
  refine T.callB (t_Law_archive hF ht hI) (fun v2 h2 => ?_)
  refine T.rxB hx.1 ?_
  by_cases c : 0 ≤ (xs (i + 1).toNatClampNeg).toInt ∧ (xs (i + 1).toNatClampNeg).toInt ≤ t.toInt
  · obtain ⟨f', i2⟩ := h2.1 c
    exact T.callB (t_Model_archive hF ht i2) (fun v4 h4 => T.some' ⟨_, rfl, 0, f', ⟨by decide, by decide⟩, h4.1 c⟩)
  · have i2 := h2.2 c
    exact T.callB (t_Model_archive hF ht i2) (fun v4 h4 => T.some' ⟨_, rfl, t, f, ht, h4.2 c⟩)
theorem LI.of {r : Option (Mem ⊕ Unit)} {g : Mem} (h : LI g) (k : ∀ z, Inv z g → T r (fun r => ∃ g9, r = .inl g9 ∧ Inv z g9)) : T r (fun r => ∃ g9, r = .inl g9 ∧ LI g9) := by
  obtain ⟨t, f, ht, hI⟩ := h
  exact T.mono (k _ hI) (fun r hr => by
    obtain ⟨g9, e, h9⟩ := hr
    exact ⟨g9, e, t, f, ht, h9⟩)
theorem t_sw {F L : Nat} {xs : Nat → Int32} {i c : Int32} {g : Mem} (hF : 4294967296 < F) (hx : HX L i) (h : LI g) : T (sp_sw F L xs i g c) (fun r => ∃ g9, r = .inl g9 ∧ LI g9) := by
  unfold sp_sw
  refine T.cond (fun _ => t_case_0 hF hx h) (fun _ => ?_)
  refine T.cond (fun _ => t_case_1 hF hx h) (fun _ => ?_)
  refine T.cond (fun _ => h.of (fun z hI => t_case_2 hF hx hI)) (fun _ => ?_)
  refine T.cond (fun _ => h.of (fun z hI => t_case_3 hF hx hI)) (fun _ => ?_)
  refine T.cond (fun _ => h.of (fun z hI => t_case_4 hF hx hI)) (fun _ => ?_)
  refine T.cond (fun _ => h.of (fun z hI => t_case_5 hF hx hI)) (fun _ => ?_)
  refine T.cond (fun _ => h.of (fun z hI => t_case_6 hF hx hI)) (fun _ => ?_)
  refine T.cond (fun _ => h.of (fun z hI => t_case_7 hF hx hI)) (fun _ => ?_)
  refine T.cond (fun _ => h.of (fun z hI => t_case_8 hF hx hI)) (fun _ => ?_)
  refine T.cond (fun _ => h.of (fun z hI => t_case_9 hF hx hI)) (fun _ => ?_)
  refine T.cond (fun _ => h.of (fun z hI => t_case_10 hF hx hI)) (fun _ => ?_)
  refine T.cond (fun _ => h.of (fun z hI => t_case_11 hF hx hI)) (fun _ => ?_)
  refine T.cond (fun _ => h.of (fun z hI => t_case_12 hF hx hI)) (fun _ => ?_)
  refine T.cond (fun _ => h.of (fun z hI => t_case_13 hF hx hI)) (fun _ => ?_)
  refine T.cond (fun _ => h.of (fun z hI => t_case_14 hF hx hI)) (fun _ => ?_)
  refine T.cond (fun _ => h.of (fun z hI => t_case_15 hF hx hI)) (fun _ => ?_)
  refine T.cond (fun _ => h.of (fun z hI => t_case_16 hF hx hI)) (fun _ => ?_)
  refine T.cond (fun _ => h.of (fun z hI => t_case_17 hF hx hI)) (fun _ => ?_)
  refine T.cond (fun _ => h.of (fun z hI => t_case_18 hF hx hI)) (fun _ => ?_)
  refine T.cond (fun _ => h.of (fun z hI => t_case_19 hF hx hI)) (fun _ => ?_)
  refine T.cond (fun _ => h.of (fun z hI => t_case_20 hF hx hI)) (fun _ => ?_)
  refine T.cond (fun _ => h.of (fun z hI => t_case_21 hF hx hI)) (fun _ => ?_)
  refine T.cond (fun _ => h.of (fun z hI => t_case_22 hF hx hI)) (fun _ => ?_)
  refine T.cond (fun _ => h.of (fun z hI => t_case_23 hF hx hI)) (fun _ => ?_)
  refine T.cond (fun _ => h.of (fun z hI => t_case_24 hF hx hI)) (fun _ => ?_)
  refine T.cond (fun _ => h.of (fun z hI => t_case_25 hF hx hI)) (fun _ => ?_)
  refine T.cond (fun _ => h.of (fun z hI => t_case_26 hF hx hI)) (fun _ => ?_)
  refine T.cond (fun _ => h.of (fun z hI => t_case_27 hF hx hI)) (fun _ => ?_)
  refine T.cond (fun _ => h.of (fun z hI => t_case_28 hF hx hI)) (fun _ => ?_)
  refine T.cond (fun _ => h.of (fun z hI => t_case_29 hF hx hI)) (fun _ => ?_)
  refine T.cond (fun _ => h.of (fun z hI => t_case_30 hF hx hI)) (fun _ => ?_)
  refine T.cond (fun _ => h.of (fun z hI => t_case_31 hF hx hI)) (fun _ => ?_)
  refine T.cond (fun _ => h.of (fun z hI => t_case_32 hF hx hI)) (fun _ => ?_)
  refine T.cond (fun _ => h.of (fun z hI => t_case_33 hF hx hI)) (fun _ => ?_)
  refine T.cond (fun _ => h.of (fun z hI => t_case_34 hF hx hI)) (fun _ => ?_)
  refine T.cond (fun _ => h.of (fun z hI => t_case_35 hF hx hI)) (fun _ => ?_)
  refine T.cond (fun _ => h.of (fun z hI => t_case_36 hF hx hI)) (fun _ => ?_)
  refine T.cond (fun _ => h.of (fun z hI => t_case_37 hF hx hI)) (fun _ => ?_)
  refine T.cond (fun _ => h.of (fun z hI => t_case_38 hF hx hI)) (fun _ => ?_)
  refine T.cond (fun _ => h.of (fun z hI => t_case_39 hF hx hI)) (fun _ => ?_)
  exact T.some' ⟨_, rfl, h⟩
