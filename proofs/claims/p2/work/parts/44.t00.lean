/-! a value comes out, and the memory stays well (by program: wip/p2gen) -/
theorem t_JInteger_bitCount {p0 : Int32} {g : Mem}  : T (sp_JInteger_bitCount p0 g) (fun r => B (-2147483648) 2147483647 r) := by
  unfold sp_JInteger_bitCount
  refine T.soU (fun v1 => ?_)
  refine T.soU (fun v2 => ?_)
  exact T.some' (show B (-2147483648) 2147483647 ((v2 + (ush v2 16)) &&& 63) from (B.any ((v2 + (ush v2 16)) &&& 63)))
theorem t_JMath_min {p0 : Int32} {p1 : Int32} {g : Mem}  : T (sp_JMath_min p0 p1 g) (fun r => B (-2147483648) 2147483647 r) := by
  unfold sp_JMath_min
  refine T.cond (fun c1 => ?_) (fun c1 => ?_)
  · have f2 : B (-2147483648) 2147483646 (p1) := B.ltl c1 (B.any p1) (B.any p0) (by decide)
    have f3 : B (-2147483647) 2147483647 (p0) := B.ltr c1 (B.any p1) (B.any p0) (by decide)
    exact T.some' (show B (-2147483648) 2147483647 p1 from (B.any p1))
  · exact T.some' (show B (-2147483648) 2147483647 p0 from (B.any p0))
theorem t_JArrays_fill {z : Zt} {F q0 q0n : Nat} {p1 : Int32} {g : Mem} (hF : 4294967296 < F) (hq : freeP q0 = true) (hn : q0n < 2147483648) (hI : Inv z g) : T (sp_JArrays_fill F q0 q0n p1 g) (fun r => Inv z r) := by
  unfold sp_JArrays_fill
  have h0 : B 0 0 (0 : Int32) := ⟨by decide, by decide⟩
  refine T.callB (T.lpc (J := fun s => B 0 q0n s.1 ∧ Inv z s.2) (Q := fun x => Inv z x) (fun s => s.1) 0 q0n ⟨Or.inr (by decide), by omega⟩ (fun s h => h.1) (fun s h => ?_) F _ ⟨h0.wk ⟨by omega, by omega⟩, hI⟩ hF) (fun x hx => T.some' hx)
  unfold st_JArrays_fill_5
  refine T.cond (fun c => T.some' h.2) (fun c => ?_)
  have f : B 0 ((q0n : Int) - 1) s.1 := B.nler c (ofB hn) h.1 ⟨by omega, by omega⟩
  have h1 : B 1 1 (1 : Int32) := ⟨by decide, by decide⟩
  refine T.wrB (B.ib f ⟨by omega, by omega⟩) (T.some' (show (B 0 q0n (s.1 + 1) ∧ Inv z _) ∧ s.1 + 1 = s.1 + 1 from ⟨⟨B.add f h1 ⟨by omega, by omega, by omega, by omega⟩, h.2.fra hq⟩, rfl⟩))
theorem t_Rule_clear {z : Zt} {ru : Nat} {g : Mem} (hru : UP ru) (hIg : Inv z g) : T (sp_Rule_clear ru g) (fun r => Inv z r) := by
  unfold sp_Rule_clear
  have hM1 : Inv z (mset g ru 3 0) := hIg.p_rmany hru (B.wk (show B 0 0 (0 : Int32) from ⟨by decide, by decide⟩) (by decide))
  exact T.some' (show Inv z (mset g ru 3 0) from hM1)
theorem t_Roll_clear {z : Zt} {ro : Nat} {g : Mem} (hro : RP ro) (hIg : Inv z g) : T (sp_Roll_clear ro g) (fun r => Inv z r) := by
  unfold sp_Roll_clear
  have hM2 : Inv z (mset g ro 0 0) := hIg.p_monks hro (B.wk (show B 0 0 (0 : Int32) from ⟨by decide, by decide⟩) (by decide))
  have hM3 : Inv z (mset (mset g ro 0 0) ro 1 40) := hM2.fre hro.f1
  have hM4 : Inv z (mset (mset (mset g ro 0 0) ro 1 40) ro 2 60) := hM3.fre hro.f2
  have hM5 : Inv z (mset (mset (mset (mset g ro 0 0) ro 1 40) ro 2 60) ro 3 3) := hM4.fre hro.f3
  refine T.callB (t_Rule_clear hro.u hM5) (fun v1 h1 => ?_)
  exact T.some' (show Inv z v1 from h1)
theorem t_Rule_take {z : Zt} {ru : Nat} {o0ru : Nat} {g : Mem} (hru : UP ru) (ho0ru : UP o0ru) (hIg : Inv z g) : T (sp_Rule_take ru o0ru g) (fun r => Inv z r) := by
  unfold sp_Rule_take
  have hM1 : Inv z (mset g ru 3 (g o0ru 3)) := hIg.p_rmany hru (hIg.rmany ho0ru)
  have b3 : B 0 700 ((mset g ru 3 (g o0ru 3)) ru 3) := B.mset_s (hIg.rmany ho0ru)
  refine T.cyI (I := fun m => Inv z m) (B.cp (show B 0 0 (0 : Int32) from ⟨by decide, by decide⟩) (show B 0 0 (0 : Int32) from ⟨by decide, by decide⟩) b3 (by decide)) (hM1.frr hru.a1) (fun g1 h2 => ?_)
  exact T.some' (show Inv z g1 from h2)
theorem t_Roll_take {z : Zt} {ro : Nat} {o0ro : Nat} {g : Mem} (hro : RP ro) (ho0ro : RP o0ro) (hIg : Inv z g) : T (sp_Roll_take ro o0ro g) (fun r => Inv z r) := by
  unfold sp_Roll_take
  have hM1 : Inv z (mset g ro 0 (g o0ro 0)) := hIg.p_monks hro (hIg.monks ho0ro)
  have hM2 : Inv z (mset (mset g ro 0 (g o0ro 0)) ro 1 ((mset g ro 0 (g o0ro 0)) o0ro 1)) := hM1.fre hro.f1
  have hM3 : Inv z (mset (mset (mset g ro 0 (g o0ro 0)) ro 1 ((mset g ro 0 (g o0ro 0)) o0ro 1)) ro 2 ((mset (mset g ro 0 (g o0ro 0)) ro 1 ((mset g ro 0 (g o0ro 0)) o0ro 1)) o0ro 2)) := hM2.fre hro.f2
  have hM4 : Inv z (mset (mset (mset (mset g ro 0 (g o0ro 0)) ro 1 ((mset g ro 0 (g o0ro 0)) o0ro 1)) ro 2 ((mset (mset g ro 0 (g o0ro 0)) ro 1 ((mset g ro 0 (g o0ro 0)) o0ro 1)) o0ro 2)) ro 3 ((mset (mset (mset g ro 0 (g o0ro 0)) ro 1 ((mset g ro 0 (g o0ro 0)) o0ro 1)) ro 2 ((mset (mset g ro 0 (g o0ro 0)) ro 1 ((mset g ro 0 (g o0ro 0)) o0ro 1)) o0ro 2)) o0ro 3)) := hM3.fre hro.f3
  refine T.cyI (I := fun m => Inv z m) (B.cp (show B 0 0 (0 : Int32) from ⟨by decide, by decide⟩) (show B 0 0 (0 : Int32) from ⟨by decide, by decide⟩) (show B 6 6 (6 : Int32) from ⟨by decide, by decide⟩) (by decide)) (hM4.frr hro.a1) (fun g1 h5 => ?_)
  refine T.cyI (I := fun m => Inv z m) (B.cp (show B 0 0 (0 : Int32) from ⟨by decide, by decide⟩) (show B 0 0 (0 : Int32) from ⟨by decide, by decide⟩) (show B 6 6 (6 : Int32) from ⟨by decide, by decide⟩) (by decide)) (h5.frr hro.a2) (fun g2 h6 => ?_)
  refine T.cyI (I := fun m => Inv z m) (B.cp (show B 0 0 (0 : Int32) from ⟨by decide, by decide⟩) (show B 0 0 (0 : Int32) from ⟨by decide, by decide⟩) (show B 192 192 (Int32.ofNat 192) from ⟨by decide, by decide⟩) (by decide)) (h6.cellsR hro (CE_cp (h6.ce ho0ro) (h6.ce hro) rfl)) (fun g3 h7 => ?_)
  refine T.callB (t_Rule_take hro.u ho0ro.u h7) (fun v4 h8 => ?_)
  exact T.some' (show Inv z v4 from h8)
theorem t_Roll_cell {z : Zt} {ro : Nat} {p0 p1 : Int32} {g : Mem} (hro : RP ro) (hp0 : B 0 23 p0) (hp1 : B 0 7 p1) (hI : Inv z g) : T (sp_Roll_cell ro p0 p1 g) (fun r => B (-2147483648) 2147483647 r) := by
  unfold sp_Roll_cell
  exact T.rdU (B.ib (idxR hp0 hp1).1 (by decide)) (fun v => T.some' (B.any v))
theorem t_Roll_cell1 {z : Zt} {ro : Nat} {p0 : Int32} {g : Mem} (hro : RP ro) (hp0 : B 0 23 p0) (hI : Inv z g) : T (sp_Roll_cell ro p0 1 g) (fun r => B 0 5 r) := by
  have h1 : B 0 7 (1 : Int32) := ⟨by decide, by decide⟩
  have hi := idxR hp0 h1
  have e1 : (1 : Int32).toInt = 1 := by decide
  unfold sp_Roll_cell
  refine T.rdB (B.ib hi.1 (by decide)) (T.some' (hI.ce hro _ ?_))
  have := hi.2
  have := hp0.1
  omega
theorem t_Roll_put {z : Zt} {ro : Nat} {p0 p1 p2 : Int32} {g : Mem} (hro : RP ro) (hp0 : B 0 23 p0) (hp1 : B 0 0 p1 ∨ B 2 7 p1) (hI : Inv z g) : T (sp_Roll_put ro p0 p1 p2 g) (fun r => Inv z r) := by
  have hc : B 0 7 p1 := by
    rcases hp1 with h | h
    · exact h.wk (by decide)
    · exact h.wk (by decide)
  have hi := idxR hp0 hc
  unfold sp_Roll_put
  refine T.wrB (B.ib hi.1 (by decide)) (T.some' ?_)
  refine hI.cellsR hro (CE_up (hI.ce hro) (fun hj => ?_))
  exfalso
  have h2 := hi.2
  have := hp0.1
  rcases hp1 with h | h
  · have := h.1; have := h.2; omega
  · have := h.1; have := h.2; omega
theorem t_Roll_put1 {z : Zt} {ro : Nat} {p0 p2 : Int32} {g : Mem} (hro : RP ro) (hp0 : B 0 23 p0) (hp2 : B 0 5 p2) (hI : Inv z g) : T (sp_Roll_put ro p0 1 p2 g) (fun r => Inv z r) := by
  have hc : B 0 7 (1 : Int32) := ⟨by decide, by decide⟩
  unfold sp_Roll_put
  refine T.wrB (B.ib (idxR hp0 hc).1 (by decide)) (T.some' ?_)
  exact hI.cellsR hro (CE_up (hI.ce hro) (fun _ => hp2))
theorem t_Roll_longest {z : Zt} {ro : Nat} {p0 : Int32} {g : Mem} (hro : RP ro) (hp0 : B 0 5 p0) (hIg : Inv z g) : T (sp_Roll_longest ro p0 g) (fun r => B (-2147483648) 2147483647 r) := by
  unfold sp_Roll_longest
  refine T.rdU (B.ib hp0 (by decide)) (fun v1 => ?_)
  refine T.cond (fun c1 => ?_) (fun c1 => ?_)
  · have f2 : B 1 1 (v1) := B.eql c1 (B.any v1) (show B 1 1 (1 : Int32) from ⟨by decide, by decide⟩) (by decide)
    refine T.callB (t_JMath_min ) (fun v3 h3 => ?_)
    exact T.some' (show B (-2147483648) 2147483647 v3 from (B.any v3))
  · refine T.cond (fun c4 => ?_) (fun c4 => ?_)
    · have f5 : B 2 2 (v1) := B.eql c4 (B.any v1) (show B 2 2 (2 : Int32) from ⟨by decide, by decide⟩) (by decide)
      exact T.some' (show B (-2147483648) 2147483647 (0 : Int32) from (B.any (0 : Int32)))
    · exact T.some' (show B (-2147483648) 2147483647 (g ro 1) from (B.any (g ro 1)))
theorem t_Rule_isNone {z : Zt} {ru : Nat} {g : Mem} (hru : UP ru) (hIg : Inv z g) : T (sp_Rule_isNone ru g) (fun r => B 0 1 r) := by
  unfold sp_Rule_isNone
  refine T.cond (fun c1 => ?_) (fun c1 => ?_)
  · have f2 : B 0 0 (g ru 3) := B.eql c1 (hIg.rmany hru) (show B 0 0 (0 : Int32) from ⟨by decide, by decide⟩) (by decide)
    exact T.some' (show B 0 1 (1 : Int32) from (B.wk (show B 1 1 (1 : Int32) from ⟨by decide, by decide⟩) (by decide)))
  · have f3 : B 1 700 (g ru 3) := B.nelo c1 (hIg.rmany hru) (show B 0 0 (0 : Int32) from ⟨by decide, by decide⟩) (by decide)
    exact T.some' (show B 0 1 (0 : Int32) from (B.wk (show B 0 0 (0 : Int32) from ⟨by decide, by decide⟩) (by decide)))
theorem t_Rule_add {z : Zt} {ru : Nat} {p0 : Int32} {g : Mem} (hru : UP ru) (hIg : Inv z g) : T (sp_Rule_add ru p0 g) (fun r => Inv z r) := by
  unfold sp_Rule_add
  refine T.cond (fun c1 => ?_) (fun c1 => ?_)
  · have f2 : B 700 700 (g ru 3) := B.ler c1 (show B 700 700 (700 : Int32) from ⟨by decide, by decide⟩) (hIg.rmany hru) (by decide)
    exact T.some' (show Inv z g from hIg)
  · have f3 : B 0 699 (g ru 3) := B.nler c1 (show B 700 700 (700 : Int32) from ⟨by decide, by decide⟩) (hIg.rmany hru) (by decide)
    refine T.wrI (I := fun m => Inv z m ∧ ∀ q, q ≠ (ru + 1) → m q = (g) q) (B.ib f3 (by decide)) ⟨hIg.fra hru.a1, fun q hq => mset_rowF _ _ _ hq⟩ (fun g2 h4 => ?_)
    have k5 : B 0 699 (g2 ru 3) := by rw [h4.2 ru (by omega)]; exact f3
    have b6 : B 1 700 ((g2 ru 3) + 1) := B.add k5 (show B 1 1 (1 : Int32) from ⟨by decide, by decide⟩) (by decide)
    have hM7 : Inv z (mset g2 ru 3 ((g2 ru 3) + 1)) := h4.1.p_rmany hru (B.wk b6 (by decide))
    exact T.some' (show Inv z (mset g2 ru 3 ((g2 ru 3) + 1)) from hM7)
theorem t_Rule_truth {p0 : Int32} {g : Mem} (hp0 : B 0 1 p0) : T (sp_Rule_truth p0 g) (fun r => B 0 1 r) := by
  unfold sp_Rule_truth
  refine T.cond (fun c1 => ?_) (fun c1 => ?_)
  · have f2 : B 0 0 (p0) := B.eql c1 hp0 (show B 0 0 (0 : Int32) from ⟨by decide, by decide⟩) (by decide)
    exact T.some' (show B 0 1 (0 : Int32) from (B.wk (show B 0 0 (0 : Int32) from ⟨by decide, by decide⟩) (by decide)))
  · have f3 : B 1 1 (p0) := B.nelo c1 hp0 (show B 0 0 (0 : Int32) from ⟨by decide, by decide⟩) (by decide)
    exact T.some' (show B 0 1 (1 : Int32) from (B.wk (show B 1 1 (1 : Int32) from ⟨by decide, by decide⟩) (by decide)))
theorem t_Rule_joined {p0 : Int32} {p1 : Int32} {p2 : Int32} {g : Mem} (hp0 : B (-2147483648) (-8) p0) : T (sp_Rule_joined p0 p1 p2 g) (fun r => B (-2147483648) 2147483647 r) := by
  unfold sp_Rule_joined
  refine T.cond (fun c1 => ?_) (fun c1 => ?_)
  · have f2 : B (-19) (-19) (p0) := B.eql c1 hp0 (show B (-19) (-19) (-19 : Int32) from ⟨by decide, by decide⟩) (by decide)
    refine T.cond (fun c3 => ?_) (fun c3 => ?_)
    · have f4 : B 0 0 (p2) := B.eql c3 (B.any p2) (show B 0 0 (0 : Int32) from ⟨by decide, by decide⟩) (by decide)
      exact T.some' (show B (-2147483648) 2147483647 (0 : Int32) from (B.any (0 : Int32)))
    · refine T.dvU c3 (fun v3 => ?_)
      exact T.some' (show B (-2147483648) 2147483647 v3 from (B.any v3))
  · refine T.cond (fun c5 => ?_) (fun c5 => ?_)
    · have f6 : B (-18) (-18) (p0) := B.eql c5 hp0 (show B (-18) (-18) (-18 : Int32) from ⟨by decide, by decide⟩) (by decide)
      exact T.some' (show B (-2147483648) 2147483647 (p1 * p2) from (B.any (p1 * p2)))
    · refine T.cond (fun c7 => ?_) (fun c7 => ?_)
      · have f8 : B (-17) (-17) (p0) := B.eql c7 hp0 (show B (-17) (-17) (-17 : Int32) from ⟨by decide, by decide⟩) (by decide)
        exact T.some' (show B (-2147483648) 2147483647 (p1 - p2) from (B.any (p1 - p2)))
      · refine T.cond (fun c9 => ?_) (fun c9 => ?_)
        · have f10 : B (-16) (-16) (p0) := B.eql c9 hp0 (show B (-16) (-16) (-16 : Int32) from ⟨by decide, by decide⟩) (by decide)
          exact T.some' (show B (-2147483648) 2147483647 (p1 + p2) from (B.any (p1 + p2)))
        · refine T.cond (fun c11 => ?_) (fun c11 => ?_)
          · have f12 : B (-15) (-15) (p0) := B.eql c11 hp0 (show B (-15) (-15) (-15 : Int32) from ⟨by decide, by decide⟩) (by decide)
            refine T.cond (fun c13 => ?_) (fun c13 => ?_)
            · refine T.callB (t_Rule_truth (B.wk (show B 1 1 (1 : Int32) from ⟨by decide, by decide⟩) (by decide))) (fun v9 h14 => ?_)
              exact T.some' (show B (-2147483648) 2147483647 v9 from (B.any v9))
            · refine T.callB (t_Rule_truth (B.wk (show B 0 0 (0 : Int32) from ⟨by decide, by decide⟩) (by decide))) (fun v10 h15 => ?_)
              exact T.some' (show B (-2147483648) 2147483647 v10 from (B.any v10))
          · refine T.cond (fun c16 => ?_) (fun c16 => ?_)
            · have f17 : B (-14) (-14) (p0) := B.eql c16 hp0 (show B (-14) (-14) (-14 : Int32) from ⟨by decide, by decide⟩) (by decide)
              refine T.cond (fun c18 => ?_) (fun c18 => ?_)
              · refine T.callB (t_Rule_truth (B.wk (show B 0 0 (0 : Int32) from ⟨by decide, by decide⟩) (by decide))) (fun v13 h19 => ?_)
                exact T.some' (show B (-2147483648) 2147483647 v13 from (B.any v13))
              · have f20 : B (-2147483647) 2147483647 (p2) := B.nlel c18 (B.any p2) (B.any p1) (by decide)
                have f21 : B (-2147483648) 2147483646 (p1) := B.nler c18 (B.any p2) (B.any p1) (by decide)
                refine T.callB (t_Rule_truth (B.wk (show B 1 1 (1 : Int32) from ⟨by decide, by decide⟩) (by decide))) (fun v14 h22 => ?_)
                exact T.some' (show B (-2147483648) 2147483647 v14 from (B.any v14))
            · refine T.cond (fun c23 => ?_) (fun c23 => ?_)
              · have f24 : B (-13) (-13) (p0) := B.eql c23 hp0 (show B (-13) (-13) (-13 : Int32) from ⟨by decide, by decide⟩) (by decide)
                exact T.some' (show B (-2147483648) 2147483647 (0 : Int32) from (B.any (0 : Int32)))
              · refine T.cond (fun c25 => ?_) (fun c25 => ?_)
                · have f26 : B (-12) (-12) (p0) := B.eql c25 hp0 (show B (-12) (-12) (-12 : Int32) from ⟨by decide, by decide⟩) (by decide)
                  refine T.cond (fun c27 => ?_) (fun c27 => ?_)
                  · have f28 : B 0 0 (p1) := B.eql c27 (B.any p1) (show B 0 0 (0 : Int32) from ⟨by decide, by decide⟩) (by decide)
                    refine T.callB (t_Rule_truth (B.wk (show B 0 0 (0 : Int32) from ⟨by decide, by decide⟩) (by decide))) (fun v18 h29 => ?_)
                    exact T.some' (show B (-2147483648) 2147483647 v18 from (B.any v18))
                  · refine T.cond (fun c30 => ?_) (fun c30 => ?_)
                    · have f31 : B 0 0 (p2) := B.eql c30 (B.any p2) (show B 0 0 (0 : Int32) from ⟨by decide, by decide⟩) (by decide)
                      refine T.callB (t_Rule_truth (B.wk (show B 0 0 (0 : Int32) from ⟨by decide, by decide⟩) (by decide))) (fun v20 h32 => ?_)
                      exact T.some' (show B (-2147483648) 2147483647 v20 from (B.any v20))
                    · refine T.callB (t_Rule_truth (B.wk (show B 1 1 (1 : Int32) from ⟨by decide, by decide⟩) (by decide))) (fun v21 h33 => ?_)
                      exact T.some' (show B (-2147483648) 2147483647 v21 from (B.any v21))
                · refine T.cond (fun c34 => ?_) (fun c34 => ?_)
                  · have f35 : B (-11) (-11) (p0) := B.eql c34 hp0 (show B (-11) (-11) (-11 : Int32) from ⟨by decide, by decide⟩) (by decide)
                    refine T.cond (fun c36 => ?_) (fun c36 => ?_)
                    · have f37 : B 0 0 (p1) := B.eql c36 (B.any p1) (show B 0 0 (0 : Int32) from ⟨by decide, by decide⟩) (by decide)
                      refine T.cond (fun c38 => ?_) (fun c38 => ?_)
                      · have f39 : B 0 0 (p2) := B.eql c38 (B.any p2) (show B 0 0 (0 : Int32) from ⟨by decide, by decide⟩) (by decide)
                        refine T.callB (t_Rule_truth (B.wk (show B 0 0 (0 : Int32) from ⟨by decide, by decide⟩) (by decide))) (fun v25 h40 => ?_)
                        exact T.some' (show B (-2147483648) 2147483647 v25 from (B.any v25))
                      · refine T.callB (t_Rule_truth (B.wk (show B 1 1 (1 : Int32) from ⟨by decide, by decide⟩) (by decide))) (fun v26 h41 => ?_)
                        exact T.some' (show B (-2147483648) 2147483647 v26 from (B.any v26))
                    · refine T.callB (t_Rule_truth (B.wk (show B 1 1 (1 : Int32) from ⟨by decide, by decide⟩) (by decide))) (fun v27 h42 => ?_)
                      exact T.some' (show B (-2147483648) 2147483647 v27 from (B.any v27))
                  · exact T.some' (show B (-2147483648) 2147483647 (0 : Int32) from (B.any (0 : Int32)))
theorem t_Rule_holds_j100_4 {z : Zt} {F : Nat} {ru : Nat} {g : Mem} {m0 : Mem} {x1 : Int32} {x2 : Int32} {x3 : Int32} (hF : 4294967296 < F) (hru : UP ru) (hx1 : B 0 40 x1) (hx2 : B 0 700 x2) (hIm0 : Inv z m0) : T (sp_Rule_holds_j100_4 F ru g m0 x1 x2 x3) (LQ (J_Rule_holds_4 z) (Q_Rule_holds_4 z) (fun s => s.2.1) x2) := by
  unfold sp_Rule_holds_j100_4
  refine T.cond (fun c1 => ?_) (fun c1 => ?_)
  · have f2 : B (-7) 2147483647 (x3) := B.ler c1 (show B (-7) (-7) (-7 : Int32) from ⟨by decide, by decide⟩) (B.any x3) (by decide)
    have b3 : B 1 701 (x2 + 1) := B.add hx2 (show B 1 1 (1 : Int32) from ⟨by decide, by decide⟩) (by decide)
    exact T.some' (show J_Rule_holds_4 z (x1, x2 + 1, m0) ∧ x2 + 1 = x2 + 1 from ⟨⟨hx1, (B.wk b3 (by decide)), hIm0⟩, rfl⟩)
  · have f4 : B (-2147483648) (-8) (x3) := B.nler c1 (show B (-7) (-7) (-7 : Int32) from ⟨by decide, by decide⟩) (B.any x3) (by decide)
    refine T.cond (fun c5 => ?_) (fun c5 => ?_)
    · have f6 : B 0 1 (x1) := B.ltl c5 hx1 (show B 2 2 (2 : Int32) from ⟨by decide, by decide⟩) (by decide)
      have b7 : B 1 701 (x2 + 1) := B.add hx2 (show B 1 1 (1 : Int32) from ⟨by decide, by decide⟩) (by decide)
      exact T.some' (show J_Rule_holds_4 z (x1, x2 + 1, m0) ∧ x2 + 1 = x2 + 1 from ⟨⟨(B.wk f6 (by decide)), (B.wk b7 (by decide)), hIm0⟩, rfl⟩)
    · have f8 : B 2 40 (x1) := B.nltl c5 hx1 (show B 2 2 (2 : Int32) from ⟨by decide, by decide⟩) (by decide)
      have b9 : B 0 38 (x1 - 2) := B.sub f8 (show B 2 2 (2 : Int32) from ⟨by decide, by decide⟩) (by decide)
      refine T.rdU (B.ib b9 (by decide)) (fun v8 => ?_)
      have b10 : B 1 39 (x1 - 1) := B.sub f8 (show B 1 1 (1 : Int32) from ⟨by decide, by decide⟩) (by decide)
      refine T.rdU (B.ib b10 (by decide)) (fun v9 => ?_)
      refine T.callB (t_Rule_joined f4) (fun v10 h11 => ?_)
      refine T.wrI (I := fun m => Inv z m ∧ ∀ q, q ≠ (ru + 3) → m q = (m0) q) (B.ib b9 (by decide)) ⟨hIm0.fra hru.a3, fun q hq => mset_rowF _ _ _ hq⟩ (fun g11 h12 => ?_)
      have b13 : B 1 39 (x1 + (-1)) := B.add f8 (show B (-1) (-1) (-1 : Int32) from ⟨by decide, by decide⟩) (by decide)
      have b14 : B 1 701 (x2 + 1) := B.add hx2 (show B 1 1 (1 : Int32) from ⟨by decide, by decide⟩) (by decide)
      exact T.some' (show J_Rule_holds_4 z (x1 + (-1), x2 + 1, g11) ∧ x2 + 1 = x2 + 1 from ⟨⟨(B.wk b13 (by decide)), (B.wk b14 (by decide)), h12.1⟩, rfl⟩)
theorem t_Rule_holds_j59_4 {z : Zt} {F : Nat} {ru : Nat} {g : Mem} {m0 : Mem} {x1 : Int32} {x2 : Int32} {x3 : Int32} (hF : 4294967296 < F) (hru : UP ru) (hx1 : B 0 40 x1) (hx2 : B 0 700 x2) (hIm0 : Inv z m0) : T (sp_Rule_holds_j59_4 F ru g m0 x1 x2 x3) (LQ (J_Rule_holds_4 z) (Q_Rule_holds_4 z) (fun s => s.2.1) x2) := by
  unfold sp_Rule_holds_j59_4
  refine T.cond (fun c1 => ?_) (fun c1 => ?_)
  · have f2 : B (-13) (-13) (x3) := B.eql c1 (B.any x3) (show B (-13) (-13) (-13 : Int32) from ⟨by decide, by decide⟩) (by decide)
    refine T.cond (fun c3 => ?_) (fun c3 => ?_)
    · have f4 : B 0 0 (x1) := B.ltl c3 hx1 (show B 1 1 (1 : Int32) from ⟨by decide, by decide⟩) (by decide)
      exact t_Rule_holds_j100_4 hF hru (B.wk f4 (by decide)) hx2 hIm0
    · have f5 : B 1 40 (x1) := B.nltl c3 hx1 (show B 1 1 (1 : Int32) from ⟨by decide, by decide⟩) (by decide)
      have b6 : B 0 39 (x1 - 1) := B.sub f5 (show B 1 1 (1 : Int32) from ⟨by decide, by decide⟩) (by decide)
      refine T.rdU (B.ib b6 (by decide)) (fun v12 => ?_)
      refine T.cond (fun c7 => ?_) (fun c7 => ?_)
      · have f8 : B 0 0 (v12) := B.eql c7 (B.any v12) (show B 0 0 (0 : Int32) from ⟨by decide, by decide⟩) (by decide)
        refine T.callB (t_Rule_truth (B.wk (show B 1 1 (1 : Int32) from ⟨by decide, by decide⟩) (by decide))) (fun v14 h9 => ?_)
        refine T.wrI (I := fun m => Inv z m ∧ ∀ q, q ≠ (ru + 3) → m q = (m0) q) (B.ib b6 (by decide)) ⟨hIm0.fra hru.a3, fun q hq => mset_rowF _ _ _ hq⟩ (fun g15 h10 => ?_)
        have b11 : B 1 701 (x2 + 1) := B.add hx2 (show B 1 1 (1 : Int32) from ⟨by decide, by decide⟩) (by decide)
        exact T.some' (show J_Rule_holds_4 z (x1, x2 + 1, g15) ∧ x2 + 1 = x2 + 1 from ⟨⟨(B.wk f5 (by decide)), (B.wk b11 (by decide)), h10.1⟩, rfl⟩)
      · refine T.callB (t_Rule_truth (B.wk (show B 0 0 (0 : Int32) from ⟨by decide, by decide⟩) (by decide))) (fun v16 h12 => ?_)
        refine T.wrI (I := fun m => Inv z m ∧ ∀ q, q ≠ (ru + 3) → m q = (m0) q) (B.ib b6 (by decide)) ⟨hIm0.fra hru.a3, fun q hq => mset_rowF _ _ _ hq⟩ (fun g17 h13 => ?_)
        have b14 : B 1 701 (x2 + 1) := B.add hx2 (show B 1 1 (1 : Int32) from ⟨by decide, by decide⟩) (by decide)
        exact T.some' (show J_Rule_holds_4 z (x1, x2 + 1, g17) ∧ x2 + 1 = x2 + 1 from ⟨⟨(B.wk f5 (by decide)), (B.wk b14 (by decide)), h13.1⟩, rfl⟩)
  · exact t_Rule_holds_j100_4 hF hru hx1 hx2 hIm0
theorem t_Rule_holds_4 {z : Zt} {F : Nat} {ru : Nat} {g : Mem} {s : Int32 × Int32 × Mem} (hF : 4294967296 < F) (hru : UP ru) (hs : J_Rule_holds_4 z s) : T (st_Rule_holds_4 F ru g s) (LQ (J_Rule_holds_4 z) (Q_Rule_holds_4 z) (fun s => s.2.1) s.2.1) := by
  unfold st_Rule_holds_4
  refine T.cond (fun c1 => ?_) (fun c1 => ?_)
  · exact T.some' (show Inv z s.2.2 from hs.2.2)
  · have f2 : B 1 700 (s.2.2 ru 3) := B.nlel c1 (hs.2.2.rmany hru) hs.2.1 (by decide)
    have f3 : B 0 699 (s.2.1) := B.nler c1 (hs.2.2.rmany hru) hs.2.1 (by decide)
    refine T.rdU (B.ib f3 (by decide)) (fun v2 => ?_)
    refine T.cond (fun c4 => ?_) (fun c4 => ?_)
    · have f5 : B (-2147483648) (-8) (v2) := B.ltl c4 (B.any v2) (show B (-7) (-7) (-7 : Int32) from ⟨by decide, by decide⟩) (by decide)
      exact t_Rule_holds_j59_4 hF hru hs.1 (B.wk f3 (by decide)) hs.2.2
    · have f6 : B (-7) 2147483647 (v2) := B.nltl c4 (B.any v2) (show B (-7) (-7) (-7 : Int32) from ⟨by decide, by decide⟩) (by decide)
      refine T.cond (fun c7 => ?_) (fun c7 => ?_)
      · have f8 : B 40 40 (s.1) := B.ler c7 (show B 40 40 (40 : Int32) from ⟨by decide, by decide⟩) hs.1 (by decide)
        exact t_Rule_holds_j59_4 hF hru (B.wk f8 (by decide)) (B.wk f3 (by decide)) hs.2.2
      · have f9 : B 0 39 (s.1) := B.nler c7 (show B 40 40 (40 : Int32) from ⟨by decide, by decide⟩) hs.1 (by decide)
        refine T.cond (fun c10 => ?_) (fun c10 => ?_)
        · have f11 : B (-7) (-1) (v2) := B.ltl c10 f6 (show B 0 0 (0 : Int32) from ⟨by decide, by decide⟩) (by decide)
          have b12 : B 0 6 ((-1) - v2) := B.sub (show B (-1) (-1) (-1 : Int32) from ⟨by decide, by decide⟩) f11 (by decide)
          refine T.rdU (B.ib b12 (by decide)) (fun v20 => ?_)
          refine T.wrI (I := fun m => Inv z m ∧ ∀ q, q ≠ (ru + 3) → m q = (s.2.2) q) (B.ib f9 (by decide)) ⟨hs.2.2.fra hru.a3, fun q hq => mset_rowF _ _ _ hq⟩ (fun g21 h13 => ?_)
          have k14 : B 1 700 (g21 ru 3) := by rw [h13.2 ru (by omega)]; exact f2
          have b15 : B 1 40 (s.1 + 1) := B.add f9 (show B 1 1 (1 : Int32) from ⟨by decide, by decide⟩) (by decide)
          have b16 : B 1 700 (s.2.1 + 1) := B.add f3 (show B 1 1 (1 : Int32) from ⟨by decide, by decide⟩) (by decide)
          exact T.some' (show J_Rule_holds_4 z (s.1 + 1, s.2.1 + 1, g21) ∧ s.2.1 + 1 = s.2.1 + 1 from ⟨⟨(B.wk b15 (by decide)), (B.wk b16 (by decide)), h13.1⟩, rfl⟩)
        · have f17 : B 0 2147483647 (v2) := B.nltl c10 f6 (show B 0 0 (0 : Int32) from ⟨by decide, by decide⟩) (by decide)
          refine T.wrI (I := fun m => Inv z m ∧ ∀ q, q ≠ (ru + 3) → m q = (s.2.2) q) (B.ib f9 (by decide)) ⟨hs.2.2.fra hru.a3, fun q hq => mset_rowF _ _ _ hq⟩ (fun g22 h18 => ?_)
          have k19 : B 1 700 (g22 ru 3) := by rw [h18.2 ru (by omega)]; exact f2
          have b20 : B 1 40 (s.1 + 1) := B.add f9 (show B 1 1 (1 : Int32) from ⟨by decide, by decide⟩) (by decide)
          have b21 : B 1 700 (s.2.1 + 1) := B.add f3 (show B 1 1 (1 : Int32) from ⟨by decide, by decide⟩) (by decide)
          exact T.some' (show J_Rule_holds_4 z (s.1 + 1, s.2.1 + 1, g22) ∧ s.2.1 + 1 = s.2.1 + 1 from ⟨⟨(B.wk b20 (by decide)), (B.wk b21 (by decide)), h18.1⟩, rfl⟩)
theorem t_Rule_holds {z : Zt} {F : Nat} {ru : Nat} {g : Mem} (hF : 4294967296 < F) (hru : UP ru) (hIg : Inv z g) : T (sp_Rule_holds F ru g) (fun r => B 0 1 r.1 ∧ Inv z r.2) := by
  unfold sp_Rule_holds
  refine T.callB (T.lpc (J := J_Rule_holds_4 z) (Q := Q_Rule_holds_4 z) (fun s => s.2.1) 0 2147483647 (by decide) (fun s h => h.2.1) (fun s h => t_Rule_holds_4 hF hru h) F _ (show J_Rule_holds_4 z (0, 0, g) from ⟨(B.wk (show B 0 0 (0 : Int32) from ⟨by decide, by decide⟩) (by decide)), (B.wk (show B 0 0 (0 : Int32) from ⟨by decide, by decide⟩) (by decide)), hIg⟩) hF) (fun x23 h1 => ?_)
  have h1 : Inv z x23 := h1
  refine T.rdU (B.ib (show B 0 0 (0 : Int32) from ⟨by decide, by decide⟩) (by decide)) (fun v24 => ?_)
  refine T.cond (fun c2 => ?_) (fun c2 => ?_)
  · have f3 : B 0 0 (v24) := B.eql c2 (B.any v24) (show B 0 0 (0 : Int32) from ⟨by decide, by decide⟩) (by decide)
    exact T.some' (show B 0 1 (0 : Int32) ∧ Inv z x23 from ⟨(B.wk (show B 0 0 (0 : Int32) from ⟨by decide, by decide⟩) (by decide)), h1⟩)
  · exact T.some' (show B 0 1 (1 : Int32) ∧ Inv z x23 from ⟨(B.wk (show B 1 1 (1 : Int32) from ⟨by decide, by decide⟩) (by decide)), h1⟩)
theorem t_Hall_isWithin {p0 : Int32} {p1 : Int32} {g : Mem} (hp1 : B 0 999 p1) : T (sp_Hall_isWithin p0 p1 g) (fun r => B 0 1 r) := by
  unfold sp_Hall_isWithin
  refine T.cond (fun c1 => ?_) (fun c1 => ?_)
  · have f2 : B (-2147483648) (-1) (p0) := B.ltl c1 (B.any p0) (show B 0 0 (0 : Int32) from ⟨by decide, by decide⟩) (by decide)
    exact T.some' (show B 0 1 (0 : Int32) from (B.wk (show B 0 0 (0 : Int32) from ⟨by decide, by decide⟩) (by decide)))
  · have f3 : B 0 2147483647 (p0) := B.nltl c1 (B.any p0) (show B 0 0 (0 : Int32) from ⟨by decide, by decide⟩) (by decide)
    refine T.cond (fun c4 => ?_) (fun c4 => ?_)
    · have f5 : B 1 2147483647 (p0) := B.ltr c4 hp1 f3 (by decide)
      exact T.some' (show B 0 1 (0 : Int32) from (B.wk (show B 0 0 (0 : Int32) from ⟨by decide, by decide⟩) (by decide)))
    · have f6 : B 0 999 (p0) := B.nltr c4 hp1 f3 (by decide)
      exact T.some' (show B 0 1 (1 : Int32) from (B.wk (show B 1 1 (1 : Int32) from ⟨by decide, by decide⟩) (by decide)))
theorem t_Hall_isKind {p0 : Int32} {g : Mem}  : T (sp_Hall_isKind p0 g) (fun r => B 0 1 r) := by
  unfold sp_Hall_isKind
  refine T.callB (t_Hall_isWithin (B.wk (show B 3 3 (3 : Int32) from ⟨by decide, by decide⟩) (by decide))) (fun v1 h1 => ?_)
  refine T.blU h1 (fun v2 h2 => ?_)
  exact T.some' (show B 0 1 v2 from h2)
theorem t_Hall_isAbout {p0 : Int32} {g : Mem}  : T (sp_Hall_isAbout p0 g) (fun r => B 0 1 r) := by
  unfold sp_Hall_isAbout
  refine T.callB (t_Hall_isWithin (B.wk (show B 7 7 (7 : Int32) from ⟨by decide, by decide⟩) (by decide))) (fun v1 h1 => ?_)
  refine T.blU h1 (fun v2 h2 => ?_)
  exact T.some' (show B 0 1 v2 from h2)
theorem t_Hall_hasBit {p0 : Int32} {p1 : Int32} {g : Mem}  : T (sp_Hall_hasBit p0 p1 g) (fun r => B 0 1 r) := by
  unfold sp_Hall_hasBit
  refine T.cond (fun c1 => ?_) (fun c1 => ?_)
  · exact T.some' (show B 0 1 (0 : Int32) from (B.wk (show B 0 0 (0 : Int32) from ⟨by decide, by decide⟩) (by decide)))
  · exact T.some' (show B 0 1 (1 : Int32) from (B.wk (show B 1 1 (1 : Int32) from ⟨by decide, by decide⟩) (by decide)))
theorem t_Hair_begin {z : Zt} {F : Nat} {ha : Nat} {ro : Nat} {g : Mem} (hF : 4294967296 < F) (hha : HP ha ro) (hIg : Inv z g) : T (sp_Hair_begin F ha ro g) (fun r => Inv z r) := by
  unfold sp_Hair_begin
  have hM2 : Inv z (mset g ha 3 0) := hIg.fre hha.f3
  have hM3 : Inv z (mset (mset g ha 3 0) ha 4 0) := hM2.p_ents hha (B.wk (show B 0 0 (0 : Int32) from ⟨by decide, by decide⟩) (by decide))
  have hM4 : Inv z (mset (mset (mset g ha 3 0) ha 4 0) ha 5 0) := hM3.fre hha.f5
  have hM5 : Inv z (mset (mset (mset (mset g ha 3 0) ha 4 0) ha 5 0) ha 6 0) := hM4.fre hha.f6
  refine T.callB (t_JArrays_fill hF hha.a1 (by decide) hM5) (fun v1 h1 => ?_)
  refine T.callB (t_JArrays_fill hF hha.a2 (by decide) h1) (fun v2 h6 => ?_)
  exact T.some' (show Inv z v2 from h6)
theorem t_Hair_take {z : Zt} {ha : Nat} {ro : Nat} {o0ha : Nat} {o0ro : Nat} {g : Mem} (hha : HP ha ro) (ho0ha : HP o0ha o0ro) (hIg : Inv z g) : T (sp_Hair_take ha ro o0ha o0ro g) (fun r => Inv z r) := by
  unfold sp_Hair_take
  have hM1 : Inv z (mset g ha 3 (g o0ha 3)) := hIg.fre hha.f3
  have hM2 : Inv z (mset (mset g ha 3 (g o0ha 3)) ha 4 ((mset g ha 3 (g o0ha 3)) o0ha 4)) := hM1.p_ents hha (hM1.ents ho0ha)
  have hM3 : Inv z (mset (mset (mset g ha 3 (g o0ha 3)) ha 4 ((mset g ha 3 (g o0ha 3)) o0ha 4)) ha 5 ((mset (mset g ha 3 (g o0ha 3)) ha 4 ((mset g ha 3 (g o0ha 3)) o0ha 4)) o0ha 5)) := hM2.fre hha.f5
  have hM4 : Inv z (mset (mset (mset (mset g ha 3 (g o0ha 3)) ha 4 ((mset g ha 3 (g o0ha 3)) o0ha 4)) ha 5 ((mset (mset g ha 3 (g o0ha 3)) ha 4 ((mset g ha 3 (g o0ha 3)) o0ha 4)) o0ha 5)) ha 6 ((mset (mset (mset g ha 3 (g o0ha 3)) ha 4 ((mset g ha 3 (g o0ha 3)) o0ha 4)) ha 5 ((mset (mset g ha 3 (g o0ha 3)) ha 4 ((mset g ha 3 (g o0ha 3)) o0ha 4)) o0ha 5)) o0ha 6)) := hM3.fre hha.f6
  refine T.cyI (I := fun m => Inv z m) (B.cp (show B 0 0 (0 : Int32) from ⟨by decide, by decide⟩) (show B 0 0 (0 : Int32) from ⟨by decide, by decide⟩) (show B 6 6 (6 : Int32) from ⟨by decide, by decide⟩) (by decide)) (hM4.frr hha.a1) (fun g1 h5 => ?_)
  refine T.cyI (I := fun m => Inv z m) (B.cp (show B 0 0 (0 : Int32) from ⟨by decide, by decide⟩) (show B 0 0 (0 : Int32) from ⟨by decide, by decide⟩) (show B 6 6 (6 : Int32) from ⟨by decide, by decide⟩) (by decide)) (h5.frr hha.a2) (fun g2 h6 => ?_)
  exact T.some' (show Inv z g2 from h6)
theorem t_Hair_writeTo {z : Zt} {ha ro ac : Nat} {x : Int32} {g : Mem} (hha : HP ha ro) (hac : AP ac) (hx : B 0 39 x) (hI : Inv z g) : T (sp_Hair_writeTo ha ro (ac + 1) 640 (x * 16) g) (fun r => Inv z r ∧ ∀ q, q ≠ ac + 1 → r q = g q) := by
  obtain ⟨hb, hm⟩ := mul16 hx
  obtain ⟨a, ha1, e, ha2, ha3⟩ := hb.ex (by decide)
  have hm2 : a % 16 = 0 := by rw [e, nI_clamp ha1] at hm; exact hm
  rw [e]
  clear hm hb e
  have e1 : nI a + 1 = nI (a + 1) := nI_add a 1
  have e2 : nI a + 2 = nI (a + 2) := nI_add a 2
  have e3 : nI a + 3 = nI (a + 3) := nI_add a 3
  have e4 : nI a + 4 = nI (a + 4) := nI_add a 4
  have e5 : nI a + 4 + 6 = nI (a + 10) := by rw [e4]; exact nI_add (a + 4) 6
  have ib : ∀ k, k < 640 → inb (nI k) 640 = true := fun k hk => inb_nI hk (by decide)
  have step : ∀ (m : Mem) (k : Nat) (v : Int32), (Inv z m ∧ ∀ q, q ≠ ac + 1 → m q = g q) → k < 2 ^ 31 → (k % 16 = 1 → B 0 24 v) → (Inv z (mset m (ac + 1) (nI k).toNatClampNeg v) ∧ ∀ q, q ≠ ac + 1 → mset m (ac + 1) (nI k).toNatClampNeg v q = g q) := fun m k v hmm hk hv => by
    rw [nI_clamp hk]
    exact ⟨hmm.1.rowsR hac (RO_up (hmm.1.rows hac) hv), fun q hq => (mset_rowF m k v hq).trans (hmm.2 q hq)⟩
  have cp : ∀ (m : Mem) (k0 k : Nat), (Inv z m ∧ ∀ q, q ≠ ac + 1 → m q = g q) → k < 2 ^ 31 → (k % 16 = 4 ∨ k % 16 = 10) → (Inv z (mrow m (ac + 1) (va_cpy (m k0) (m (ac + 1)) (0 : Int32).toNatClampNeg (nI k).toNatClampNeg (6 : Int32).toNatClampNeg)) ∧ ∀ q, q ≠ ac + 1 → mrow m (ac + 1) (va_cpy (m k0) (m (ac + 1)) (0 : Int32).toNatClampNeg (nI k).toNatClampNeg (6 : Int32).toNatClampNeg) q = g q) := fun m k0 k hmm hk hv => by
    rw [nI_clamp hk]
    have e6 : (6 : Int32).toNatClampNeg = 6 := by decide
    rw [e6]
    refine ⟨hmm.1.rowsR hac (fun j hj => ?_), fun q hq => (mrow_other m _ hq).trans (hmm.2 q hq)⟩
    unfold va_cpy
    split
    · omega
    · exact hmm.1.rows hac j hj
  have h0 : B 0 0 (0 : Int32) := ⟨by decide, by decide⟩
  have h6 : B 6 6 (6 : Int32) := ⟨by decide, by decide⟩
  unfold sp_Hair_writeTo
  refine T.wrI (I := fun m => Inv z m ∧ ∀ q, q ≠ ac + 1 → m q = g q) (ib a (by omega)) (step g a _ ⟨hI, fun _ _ => rfl⟩ (by omega) (fun h => by omega)) (fun g1 h1 => ?_)
  rw [e1]
  refine T.wrI (I := fun m => Inv z m ∧ ∀ q, q ≠ ac + 1 → m q = g q) (ib (a + 1) (by omega)) (step g1 (a + 1) _ h1 (by omega) (fun _ => h1.1.ents hha)) (fun g2 h2 => ?_)
  rw [e2]
  refine T.wrI (I := fun m => Inv z m ∧ ∀ q, q ≠ ac + 1 → m q = g q) (ib (a + 2) (by omega)) (step g2 (a + 2) _ h2 (by omega) (fun h => by omega)) (fun g3 h3 => ?_)
  rw [e3]
  refine T.wrI (I := fun m => Inv z m ∧ ∀ q, q ≠ ac + 1 → m q = g q) (ib (a + 3) (by omega)) (step g3 (a + 3) _ h3 (by omega) (fun h => by omega)) (fun g4 h4 => ?_)
  rw [e5, e4]
  have hd4 : B ((a + 4 : Nat) : Int) ((a + 4 : Nat) : Int) (nI (a + 4)) := ⟨by rw [nI_toInt (by omega)]; omega, by rw [nI_toInt (by omega)]; omega⟩
  have hd10 : B ((a + 10 : Nat) : Int) ((a + 10 : Nat) : Int) (nI (a + 10)) := ⟨by rw [nI_toInt (by omega)]; omega, by rw [nI_toInt (by omega)]; omega⟩
  refine T.cyI (I := fun m => Inv z m ∧ ∀ q, q ≠ ac + 1 → m q = g q) (B.cp h0 hd4 h6 ⟨by omega, by omega, by omega, by omega, by omega⟩) (cp g4 (ha + 1) (a + 4) h4 (by omega) (by omega)) (fun g5 h5 => ?_)
  refine T.cyI (I := fun m => Inv z m ∧ ∀ q, q ≠ ac + 1 → m q = g q) (B.cp h0 hd10 h6 ⟨by omega, by omega, by omega, by omega, by omega⟩) (cp g5 (ha + 2) (a + 10) h5 (by omega) (by omega)) (fun g6 h6 => T.some' h6)
theorem t_Hair_readFrom {z : Zt} {ha ro ac : Nat} {x : Int32} {g : Mem} (hha : HP ha ro) (hac : AP ac) (hx : B 0 39 x) (hI : Inv z g) : T (sp_Hair_readFrom ha ro (ac + 1) 640 (x * 16) g) (fun r => Inv z r) := by
  obtain ⟨hb, hm⟩ := mul16 hx
  obtain ⟨a, ha1, e, ha2, ha3⟩ := hb.ex (by decide)
  have hm2 : a % 16 = 0 := by rw [e, nI_clamp ha1] at hm; exact hm
  rw [e]
  clear hm hb e
  have e1 : nI a + 1 = nI (a + 1) := nI_add a 1
  have e2 : nI a + 2 = nI (a + 2) := nI_add a 2
  have e3 : nI a + 3 = nI (a + 3) := nI_add a 3
  have e4 : nI a + 4 = nI (a + 4) := nI_add a 4
  have e5 : nI a + 4 + 6 = nI (a + 10) := by rw [e4]; exact nI_add (a + 4) 6
  have ib : ∀ k, k < 640 → inb (nI k) 640 = true := fun k hk => inb_nI hk (by decide)
  have h0 : B 0 0 (0 : Int32) := ⟨by decide, by decide⟩
  have h6 : B 6 6 (6 : Int32) := ⟨by decide, by decide⟩
  have hd4 : B ((a + 4 : Nat) : Int) ((a + 4 : Nat) : Int) (nI (a + 4)) := ⟨by rw [nI_toInt (by omega)]; omega, by rw [nI_toInt (by omega)]; omega⟩
  have hd10 : B ((a + 10 : Nat) : Int) ((a + 10 : Nat) : Int) (nI (a + 10)) := ⟨by rw [nI_toInt (by omega)]; omega, by rw [nI_toInt (by omega)]; omega⟩
  unfold sp_Hair_readFrom
  refine T.rdU (ib a (by omega)) (fun v1 => ?_)
  have i1 : Inv z (mset g ha 3 v1) := hI.fre hha.f3
  rw [e1, e2, e3, e5, e4]
  refine T.rdK (a + 1) (P := fun z => B 0 24 z) (ib (a + 1) (by omega)) (nI_clamp (by omega)) (i1.rows hac _ (by omega)) (fun v2 h2 => ?_)
  have i2 : Inv z (mset (mset g ha 3 v1) ha 4 v2) := i1.p_ents hha h2
  refine T.rdU (ib (a + 2) (by omega)) (fun v3 => ?_)
  have i3 : Inv z (mset (mset (mset g ha 3 v1) ha 4 v2) ha 5 v3) := i2.fre hha.f5
  refine T.rdU (ib (a + 3) (by omega)) (fun v4 => ?_)
  have i4 : Inv z (mset (mset (mset (mset g ha 3 v1) ha 4 v2) ha 5 v3) ha 6 v4) := i3.fre hha.f6
  refine T.cyI (I := fun m => Inv z m) (B.cp hd4 h0 h6 ⟨by omega, by omega, by omega, by omega, by omega⟩) (i4.frr hha.a1) (fun g5 h5 => ?_)
  exact T.cyI (I := fun m => Inv z m) (B.cp hd10 h0 h6 ⟨by omega, by omega, by omega, by omega, by omega⟩) (h5.frr hha.a2) (fun g6 h6 => T.some' h6)
theorem t_Hair_isDead {z : Zt} {ha : Nat} {ro : Nat} {p0 : Int32} {g : Mem} (hha : HP ha ro) (hp0 : B 0 5 p0) (hIg : Inv z g) : T (sp_Hair_isDead ha ro p0 g) (fun r => B 0 1 r) := by
  unfold sp_Hair_isDead
  refine T.rdU (B.ib hp0 (by decide)) (fun v1 => ?_)
  refine T.cond (fun c1 => ?_) (fun c1 => ?_)
  · have f2 : B (-1) (-1) (v1) := B.eql c1 (B.any v1) (show B (-1) (-1) (-1 : Int32) from ⟨by decide, by decide⟩) (by decide)
    exact T.some' (show B 0 1 (0 : Int32) from (B.wk (show B 0 0 (0 : Int32) from ⟨by decide, by decide⟩) (by decide)))
  · exact T.some' (show B 0 1 (1 : Int32) from (B.wk (show B 1 1 (1 : Int32) from ⟨by decide, by decide⟩) (by decide)))
theorem t_Hair_deadOnes_4 {z : Zt} {F : Nat} {ha : Nat} {ro : Nat} {g : Mem} {s : Int32 × Int32} (hF : 4294967296 < F) (hha : HP ha ro) (hIg : Inv z g) (hs : J_Hair_deadOnes_4 z s) : T (st_Hair_deadOnes_4 F ha ro g s) (LQ (J_Hair_deadOnes_4 z) (Q_Hair_deadOnes_4 z) (fun s => s.2) s.2) := by
  unfold st_Hair_deadOnes_4
  refine T.cond (fun c1 => ?_) (fun c1 => ?_)
  · exact T.some' (show B (-2147483648) 2147483647 s.1 from (B.any s.1))
  · have f2 : B 1 6 (g ro 0) := B.nlel c1 (hIg.monks hha.r) hs.2 (by decide)
    have f3 : B 0 5 (s.2) := B.nler c1 (hIg.monks hha.r) hs.2 (by decide)
    refine T.callB (t_Hair_isDead hha f3 hIg) (fun v2 h4 => ?_)
    refine T.cond (fun c5 => ?_) (fun c5 => ?_)
    · have f6 : B 0 0 (v2) := B.eql c5 h4 (show B 0 0 (0 : Int32) from ⟨by decide, by decide⟩) (by decide)
      have b7 : B 1 6 (s.2 + 1) := B.add f3 (show B 1 1 (1 : Int32) from ⟨by decide, by decide⟩) (by decide)
      exact T.some' (show J_Hair_deadOnes_4 z (s.1, s.2 + 1) ∧ s.2 + 1 = s.2 + 1 from ⟨⟨(B.any s.1), (B.wk b7 (by decide))⟩, rfl⟩)
    · have f8 : B 1 1 (v2) := B.nelo c5 h4 (show B 0 0 (0 : Int32) from ⟨by decide, by decide⟩) (by decide)
      have b9 : B 1 6 (s.2 + 1) := B.add f3 (show B 1 1 (1 : Int32) from ⟨by decide, by decide⟩) (by decide)
      exact T.some' (show J_Hair_deadOnes_4 z (s.1 ||| (1 <<< (s.2 &&& 31)), s.2 + 1) ∧ s.2 + 1 = s.2 + 1 from ⟨⟨(B.any (s.1 ||| (1 <<< (s.2 &&& 31)))), (B.wk b9 (by decide))⟩, rfl⟩)
theorem t_Hair_deadOnes {z : Zt} {F : Nat} {ha : Nat} {ro : Nat} {g : Mem} (hF : 4294967296 < F) (hha : HP ha ro) (hIg : Inv z g) : T (sp_Hair_deadOnes F ha ro g) (fun r => B (-2147483648) 2147483647 r) := by
  unfold sp_Hair_deadOnes
  refine T.callB (T.lpc (J := J_Hair_deadOnes_4 z) (Q := Q_Hair_deadOnes_4 z) (fun s => s.2) 0 6 (by decide) (fun s h => h.2) (fun s h => t_Hair_deadOnes_4 hF hha hIg h) F _ (show J_Hair_deadOnes_4 z (0, 0) from ⟨(B.any (0 : Int32)), (B.wk (show B 0 0 (0 : Int32) from ⟨by decide, by decide⟩) (by decide))⟩) hF) (fun x4 h1 => ?_)
  have h1 : B (-2147483648) 2147483647 x4 := h1
  exact T.some' (show B (-2147483648) 2147483647 x4 from (B.any x4))
theorem t_Hair_yearOf {z : Zt} {ha : Nat} {ro : Nat} {p0 : Int32} {g : Mem} (hha : HP ha ro) (hp0 : B 0 5 p0) (hIg : Inv z g) : T (sp_Hair_yearOf ha ro p0 g) (fun r => B (-2147483648) 2147483647 r) := by
  unfold sp_Hair_yearOf
  refine T.rdU (B.ib hp0 (by decide)) (fun v1 => ?_)
  refine T.cond (fun c1 => ?_) (fun c1 => ?_)
  · have f2 : B (-1) (-1) (v1) := B.eql c1 (B.any v1) (show B (-1) (-1) (-1 : Int32) from ⟨by decide, by decide⟩) (by decide)
    exact T.some' (show B (-2147483648) 2147483647 (g ha 3) from (B.any (g ha 3)))
  · refine T.rdU (B.ib hp0 (by decide)) (fun v3 => ?_)
    exact T.some' (show B (-2147483648) 2147483647 v3 from (B.any v3))
theorem t_Hair_ageOf {z : Zt} {ha : Nat} {ro : Nat} {p0 : Int32} {g : Mem} (hha : HP ha ro) (hp0 : B 0 5 p0) (hIg : Inv z g) : T (sp_Hair_ageOf ha ro p0 g) (fun r => B (-2147483648) 2147483647 r) := by
  unfold sp_Hair_ageOf
  refine T.rdU (B.ib hp0 (by decide)) (fun v1 => ?_)
  refine T.callB (t_Hair_yearOf hha hp0 hIg) (fun v2 h1 => ?_)
  exact T.some' (show B (-2147483648) 2147483647 (v1 + v2) from (B.any (v1 + v2)))
theorem t_Hair_isGrey {z : Zt} {ha : Nat} {ro : Nat} {p0 : Int32} {g : Mem} (hha : HP ha ro) (hp0 : B 0 5 p0) (hIg : Inv z g) : T (sp_Hair_isGrey ha ro p0 g) (fun r => B 0 1 r) := by
  unfold sp_Hair_isGrey
  refine T.callB (t_Hair_ageOf hha hp0 hIg) (fun v1 h1 => ?_)
  refine T.cond (fun c2 => ?_) (fun c2 => ?_)
  · have f3 : B (-2147483648) 2147483646 (v1) := B.ltl c2 (B.any v1) (B.any (g ro 2)) (by decide)
    have f4 : B (-2147483647) 2147483647 (g ro 2) := B.ltr c2 (B.any v1) (B.any (g ro 2)) (by decide)
    exact T.some' (show B 0 1 (0 : Int32) from (B.wk (show B 0 0 (0 : Int32) from ⟨by decide, by decide⟩) (by decide)))
  · exact T.some' (show B 0 1 (1 : Int32) from (B.wk (show B 1 1 (1 : Int32) from ⟨by decide, by decide⟩) (by decide)))
theorem t_Hair_breadths {z : Zt} {ha : Nat} {ro : Nat} {p0 : Int32} {g : Mem} (hha : HP ha ro) (hp0 : B 0 23 p0) (hIg : Inv z g) : T (sp_Hair_breadths ha ro p0 g) (fun r => B (-2147483648) 2147483647 r) := by
  unfold sp_Hair_breadths
  refine T.callB (t_Roll_cell1 hha.r hp0 hIg) (fun v1 h1 => ?_)
  refine T.callB (t_Hair_yearOf hha h1 hIg) (fun v2 h2 => ?_)
  refine T.callB (t_Roll_cell hha.r hp0 (B.wk (show B 2 2 (2 : Int32) from ⟨by decide, by decide⟩) (by decide)) hIg) (fun v3 h3 => ?_)
  exact T.some' (show B (-2147483648) 2147483647 (v2 - v3) from (B.any (v2 - v3)))
theorem t_Hair_isFull {z : Zt} {ha ro : Nat} {g : Mem} (hha : HP ha ro) (hI : Inv z g) : T (sp_Hair_isFull ha ro g) (fun r => B 0 1 r ∧ (r = 0 → B 0 23 (g ha 4))) := by
  unfold sp_Hair_isFull
  refine T.cond (fun c => T.some' ⟨b01, fun _ => B.ltl c (hI.ents hha) (show B 24 24 (24 : Int32) from ⟨by decide, by decide⟩) (by decide)⟩) (fun c => T.some' ⟨b11, fun h => absurd h (by decide)⟩)
theorem t_Hair_allThere {z : Zt} {ha : Nat} {ro : Nat} {g : Mem} (hha : HP ha ro) (hIg : Inv z g) : T (sp_Hair_allThere ha ro g) (fun r => B (-2147483648) 2147483647 r) := by
  unfold sp_Hair_allThere
  exact T.some' (show B (-2147483648) 2147483647 (((1 <<< ((g ha 4) &&& 31)) - 1) &&& ((g ha 5) ^^^ (-1))) from (B.any (((1 <<< ((g ha 4) &&& 31)) - 1) &&& ((g ha 5) ^^^ (-1)))))
theorem t_Hair_isThere {z : Zt} {ha : Nat} {ro : Nat} {p0 : Int32} {g : Mem} (hha : HP ha ro) (hp0 : B 0 23 p0) (hIg : Inv z g) : T (sp_Hair_isThere ha ro p0 g) (fun r => B 0 1 r) := by
  unfold sp_Hair_isThere
  refine T.callB (t_Hair_allThere hha hIg) (fun v1 h1 => ?_)
  refine T.callB (t_Hall_hasBit ) (fun v2 h2 => ?_)
  refine T.blU h2 (fun v3 h3 => ?_)
  exact T.some' (show B 0 1 v3 from h3)
theorem t_Hair_isKnotted {z : Zt} {ha : Nat} {ro : Nat} {p0 : Int32} {g : Mem} (hha : HP ha ro) (hp0 : B 0 23 p0) (hIg : Inv z g) : T (sp_Hair_isKnotted ha ro p0 g) (fun r => B 0 1 r) := by
  unfold sp_Hair_isKnotted
  refine T.callB (t_Hall_hasBit ) (fun v1 h1 => ?_)
  refine T.blU h1 (fun v2 h2 => ?_)
  exact T.some' (show B 0 1 v2 from h2)
theorem t_Hair_thereOf_4 {z : Zt} {F : Nat} {ha : Nat} {ro : Nat} {p0 : Int32} {g : Mem} {k1 : Int32} {s : Int32 × Int32} (hF : 4294967296 < F) (hha : HP ha ro) (hp0 : B 0 5 p0) (hk1 : B 0 5 k1) (hIg : Inv z g) (hs : J_Hair_thereOf_4 z s) : T (st_Hair_thereOf_4 F ha ro p0 g k1 s) (LQ (J_Hair_thereOf_4 z) (Q_Hair_thereOf_4 z) (fun s => s.2) s.2) := by
  unfold st_Hair_thereOf_4
  refine T.cond (fun c1 => ?_) (fun c1 => ?_)
  · exact T.some' (show B (-2147483648) 2147483647 s.1 from (B.any s.1))
  · have f2 : B 1 24 (g ha 4) := B.nlel c1 (hIg.ents hha) hs.2 (by decide)
    have f3 : B 0 23 (s.2) := B.nler c1 (hIg.ents hha) hs.2 (by decide)
    refine T.callB (t_Roll_cell1 hha.r f3 hIg) (fun v2 h4 => ?_)
    refine T.cond (fun c5 => ?_) (fun c5 => ?_)
    · have b6 : B 1 24 (s.2 + 1) := B.add f3 (show B 1 1 (1 : Int32) from ⟨by decide, by decide⟩) (by decide)
      exact T.some' (show J_Hair_thereOf_4 z (s.1 ||| (1 <<< (s.2 &&& 31)), s.2 + 1) ∧ s.2 + 1 = s.2 + 1 from ⟨⟨(B.any (s.1 ||| (1 <<< (s.2 &&& 31)))), (B.wk b6 (by decide))⟩, rfl⟩)
    · have b7 : B 1 24 (s.2 + 1) := B.add f3 (show B 1 1 (1 : Int32) from ⟨by decide, by decide⟩) (by decide)
      exact T.some' (show J_Hair_thereOf_4 z (s.1, s.2 + 1) ∧ s.2 + 1 = s.2 + 1 from ⟨⟨(B.any s.1), (B.wk b7 (by decide))⟩, rfl⟩)
theorem t_Hair_thereOf {z : Zt} {F : Nat} {ha : Nat} {ro : Nat} {p0 : Int32} {g : Mem} (hF : 4294967296 < F) (hha : HP ha ro) (hp0 : B 0 5 p0) (hIg : Inv z g) : T (sp_Hair_thereOf F ha ro p0 g) (fun r => B (-2147483648) 2147483647 r) := by
  unfold sp_Hair_thereOf
  refine T.callB (T.lpc (J := J_Hair_thereOf_4 z) (Q := Q_Hair_thereOf_4 z) (fun s => s.2) 0 24 (by decide) (fun s h => h.2) (fun s h => t_Hair_thereOf_4 hF hha hp0 hp0 hIg h) F _ (show J_Hair_thereOf_4 z (0, 0) from ⟨(B.any (0 : Int32)), (B.wk (show B 0 0 (0 : Int32) from ⟨by decide, by decide⟩) (by decide))⟩) hF) (fun x4 h1 => ?_)
  have h1 : B (-2147483648) 2147483647 x4 := h1
  exact T.some' (show B (-2147483648) 2147483647 (x4 &&& ((g ha 5) ^^^ (-1))) from (B.any (x4 &&& ((g ha 5) ^^^ (-1)))))
theorem t_Hair_recordsOf_4 {z : Zt} {F : Nat} {ha : Nat} {ro : Nat} {p0 : Int32} {g : Mem} {k1 : Int32} {s : Int32 × Int32} (hF : 4294967296 < F) (hha : HP ha ro) (hIg : Inv z g) (hs : J_Hair_recordsOf_4 z s) : T (st_Hair_recordsOf_4 F ha ro p0 g k1 s) (LQ (J_Hair_recordsOf_4 z) (Q_Hair_recordsOf_4 z) (fun s => s.2) s.2) := by
  unfold st_Hair_recordsOf_4
  refine T.cond (fun c1 => ?_) (fun c1 => ?_)
  · exact T.some' (show B (-2147483648) 2147483647 s.1 from (B.any s.1))
  · have f2 : B 1 24 (g ha 4) := B.nlel c1 (hIg.ents hha) hs.2 (by decide)
    have f3 : B 0 23 (s.2) := B.nler c1 (hIg.ents hha) hs.2 (by decide)
    refine T.callB (t_Hall_hasBit ) (fun v2 h4 => ?_)
    refine T.cond (fun c5 => ?_) (fun c5 => ?_)
    · have f6 : B 0 0 (v2) := B.eql c5 h4 (show B 0 0 (0 : Int32) from ⟨by decide, by decide⟩) (by decide)
      have b7 : B 1 24 (s.2 + 1) := B.add f3 (show B 1 1 (1 : Int32) from ⟨by decide, by decide⟩) (by decide)
      exact T.some' (show J_Hair_recordsOf_4 z (s.1, s.2 + 1) ∧ s.2 + 1 = s.2 + 1 from ⟨⟨(B.any s.1), (B.wk b7 (by decide))⟩, rfl⟩)
    · have f8 : B 1 1 (v2) := B.nelo c5 h4 (show B 0 0 (0 : Int32) from ⟨by decide, by decide⟩) (by decide)
      refine T.callB (t_Roll_cell hha.r f3 (B.wk (show B 7 7 (7 : Int32) from ⟨by decide, by decide⟩) (by decide)) hIg) (fun v4 h9 => ?_)
      have b10 : B 1 24 (s.2 + 1) := B.add f3 (show B 1 1 (1 : Int32) from ⟨by decide, by decide⟩) (by decide)
      exact T.some' (show J_Hair_recordsOf_4 z (s.1 ||| (1 <<< (v4 &&& 31)), s.2 + 1) ∧ s.2 + 1 = s.2 + 1 from ⟨⟨(B.any (s.1 ||| (1 <<< (v4 &&& 31)))), (B.wk b10 (by decide))⟩, rfl⟩)
theorem t_Hair_recordsOf {z : Zt} {F : Nat} {ha : Nat} {ro : Nat} {p0 : Int32} {g : Mem} (hF : 4294967296 < F) (hha : HP ha ro) (hIg : Inv z g) : T (sp_Hair_recordsOf F ha ro p0 g) (fun r => B (-2147483648) 2147483647 r) := by
  unfold sp_Hair_recordsOf
  refine T.callB (T.lpc (J := J_Hair_recordsOf_4 z) (Q := Q_Hair_recordsOf_4 z) (fun s => s.2) 0 24 (by decide) (fun s h => h.2) (fun s h => t_Hair_recordsOf_4 hF hha hIg h) F _ (show J_Hair_recordsOf_4 z (0, 0) from ⟨(B.any (0 : Int32)), (B.wk (show B 0 0 (0 : Int32) from ⟨by decide, by decide⟩) (by decide))⟩) hF) (fun x5 h1 => ?_)
  have h1 : B (-2147483648) 2147483647 x5 := h1
  exact T.some' (show B (-2147483648) 2147483647 x5 from (B.any x5))
theorem t_Hair_recordsThere {z : Zt} {F : Nat} {ha : Nat} {ro : Nat} {g : Mem} (hF : 4294967296 < F) (hha : HP ha ro) (hIg : Inv z g) : T (sp_Hair_recordsThere F ha ro g) (fun r => B (-2147483648) 2147483647 r) := by
  unfold sp_Hair_recordsThere
  refine T.callB (t_Hair_allThere hha hIg) (fun v1 h1 => ?_)
  refine T.callB (t_Hair_recordsOf hF hha hIg) (fun v2 h2 => ?_)
  exact T.some' (show B (-2147483648) 2147483647 v2 from (B.any v2))
theorem t_Hair_recordsHeldBy {z : Zt} {F : Nat} {ha : Nat} {ro : Nat} {p0 : Int32} {g : Mem} (hF : 4294967296 < F) (hha : HP ha ro) (hp0 : B 0 5 p0) (hIg : Inv z g) : T (sp_Hair_recordsHeldBy F ha ro p0 g) (fun r => B (-2147483648) 2147483647 r) := by
  unfold sp_Hair_recordsHeldBy
  refine T.callB (t_Hair_thereOf hF hha hp0 hIg) (fun v1 h1 => ?_)
  refine T.callB (t_Hair_recordsOf hF hha hIg) (fun v2 h2 => ?_)
  exact T.some' (show B (-2147483648) 2147483647 v2 from (B.any v2))
theorem t_Hair_monksWith_10 {z : Zt} {F : Nat} {ha : Nat} {ro : Nat} {p0 : Int32} {g : Mem} {k1 : Int32} {k2 : Int32} {s : Int32 × Int32} (hF : 4294967296 < F) (hha : HP ha ro) (hIg : Inv z g) (hs : J_Hair_monksWith_10 z s) : T (st_Hair_monksWith_10 F ha ro p0 g k1 k2 s) (LQ (J_Hair_monksWith_10 z) (Q_Hair_monksWith_10 z) (fun s => s.2) s.2) := by
  unfold st_Hair_monksWith_10
  refine T.cond (fun c1 => ?_) (fun c1 => ?_)
  · exact T.some' (show B (-2147483648) 2147483647 s.1 from (B.any s.1))
  · have f2 : B 1 24 (g ha 4) := B.nlel c1 (hIg.ents hha) hs.2 (by decide)
    have f3 : B 0 23 (s.2) := B.nler c1 (hIg.ents hha) hs.2 (by decide)
    refine T.callB (t_Hall_hasBit ) (fun v3 h4 => ?_)
    refine T.cond (fun c5 => ?_) (fun c5 => ?_)
    · have f6 : B 0 0 (v3) := B.eql c5 h4 (show B 0 0 (0 : Int32) from ⟨by decide, by decide⟩) (by decide)
      have b7 : B 1 24 (s.2 + 1) := B.add f3 (show B 1 1 (1 : Int32) from ⟨by decide, by decide⟩) (by decide)
      exact T.some' (show J_Hair_monksWith_10 z (s.1, s.2 + 1) ∧ s.2 + 1 = s.2 + 1 from ⟨⟨(B.any s.1), (B.wk b7 (by decide))⟩, rfl⟩)
    · have f8 : B 1 1 (v3) := B.nelo c5 h4 (show B 0 0 (0 : Int32) from ⟨by decide, by decide⟩) (by decide)
      refine T.callB (t_Roll_cell hha.r f3 (B.wk (show B 7 7 (7 : Int32) from ⟨by decide, by decide⟩) (by decide)) hIg) (fun v5 h9 => ?_)
      refine T.cond (fun c10 => ?_) (fun c10 => ?_)
      · refine T.callB (t_Roll_cell1 hha.r f3 hIg) (fun v7 h11 => ?_)
        have b12 : B 1 24 (s.2 + 1) := B.add f3 (show B 1 1 (1 : Int32) from ⟨by decide, by decide⟩) (by decide)
        exact T.some' (show J_Hair_monksWith_10 z (s.1 ||| (1 <<< (v7 &&& 31)), s.2 + 1) ∧ s.2 + 1 = s.2 + 1 from ⟨⟨(B.any (s.1 ||| (1 <<< (v7 &&& 31)))), (B.wk b12 (by decide))⟩, rfl⟩)
      · have b13 : B 1 24 (s.2 + 1) := B.add f3 (show B 1 1 (1 : Int32) from ⟨by decide, by decide⟩) (by decide)
        exact T.some' (show J_Hair_monksWith_10 z (s.1, s.2 + 1) ∧ s.2 + 1 = s.2 + 1 from ⟨⟨(B.any s.1), (B.wk b13 (by decide))⟩, rfl⟩)
theorem t_Hair_monksWith {z : Zt} {F : Nat} {ha : Nat} {ro : Nat} {p0 : Int32} {g : Mem} (hF : 4294967296 < F) (hha : HP ha ro) (hIg : Inv z g) : T (sp_Hair_monksWith F ha ro p0 g) (fun r => B (-2147483648) 2147483647 r) := by
  unfold sp_Hair_monksWith
  refine T.callB (t_Hair_allThere hha hIg) (fun v1 h1 => ?_)
  refine T.callB (T.lpc (J := J_Hair_monksWith_10 z) (Q := Q_Hair_monksWith_10 z) (fun s => s.2) 0 24 (by decide) (fun s h => h.2) (fun s h => t_Hair_monksWith_10 hF hha hIg h) F _ (show J_Hair_monksWith_10 z (0, 0) from ⟨(B.any (0 : Int32)), (B.wk (show B 0 0 (0 : Int32) from ⟨by decide, by decide⟩) (by decide))⟩) hF) (fun x8 h2 => ?_)
  have h2 : B (-2147483648) 2147483647 x8 := h2
  exact T.some' (show B (-2147483648) 2147483647 x8 from (B.any x8))
theorem t_Hair_holds {z : Zt} {F : Nat} {ha : Nat} {ro : Nat} {p0 : Int32} {p1 : Int32} {g : Mem} (hF : 4294967296 < F) (hha : HP ha ro) (hIg : Inv z g) : T (sp_Hair_holds F ha ro p0 p1 g) (fun r => B 0 1 r) := by
  unfold sp_Hair_holds
  refine T.callB (t_Hair_monksWith hF hha hIg) (fun v1 h1 => ?_)
  refine T.callB (t_Hall_hasBit ) (fun v2 h2 => ?_)
  refine T.blU h2 (fun v3 h3 => ?_)
  exact T.some' (show B 0 1 v3 from h3)
theorem t_Hair_recordsLostBy {z : Zt} {F : Nat} {ha : Nat} {ro : Nat} {p0 : Int32} {g : Mem} (hF : 4294967296 < F) (hha : HP ha ro) (hIg : Inv z g) : T (sp_Hair_recordsLostBy F ha ro p0 g) (fun r => B (-2147483648) 2147483647 r) := by
  unfold sp_Hair_recordsLostBy
  refine T.callB (t_Hair_allThere hha hIg) (fun v1 h1 => ?_)
  refine T.callB (t_Hair_recordsOf hF hha hIg) (fun v2 h2 => ?_)
  refine T.callB (t_Hair_recordsOf hF hha hIg) (fun v3 h3 => ?_)
  exact T.some' (show B (-2147483648) 2147483647 (v2 &&& (v3 ^^^ (-1))) from (B.any (v2 &&& (v3 ^^^ (-1)))))
theorem t_Hair_valuesOf_5 {z : Zt} {F : Nat} {ha : Nat} {ro : Nat} {p0 : Int32} {p1 : Int32} {g : Mem} {k1 : Int32} {k2 : Int32} {s : Int32 × Int32} (hF : 4294967296 < F) (hha : HP ha ro) (hp1 : B 0 1 p1) (hk2 : B 0 1 k2) (hIg : Inv z g) (hs : J_Hair_valuesOf_5 z s) : T (st_Hair_valuesOf_5 F ha ro p0 p1 g k1 k2 s) (LQ (J_Hair_valuesOf_5 z) (Q_Hair_valuesOf_5 z) (fun s => s.2) s.2) := by
  unfold st_Hair_valuesOf_5
  refine T.cond (fun c1 => ?_) (fun c1 => ?_)
  · exact T.some' (show B (-2147483648) 2147483647 s.1 from (B.any s.1))
  · have f2 : B 1 24 (g ha 4) := B.nlel c1 (hIg.ents hha) hs.2 (by decide)
    have f3 : B 0 23 (s.2) := B.nler c1 (hIg.ents hha) hs.2 (by decide)
    refine T.callB (t_Hall_hasBit ) (fun v2 h4 => ?_)
    refine T.cond (fun c5 => ?_) (fun c5 => ?_)
    · have f6 : B 0 0 (v2) := B.eql c5 h4 (show B 0 0 (0 : Int32) from ⟨by decide, by decide⟩) (by decide)
      have b7 : B 1 24 (s.2 + 1) := B.add f3 (show B 1 1 (1 : Int32) from ⟨by decide, by decide⟩) (by decide)
      exact T.some' (show J_Hair_valuesOf_5 z (s.1, s.2 + 1) ∧ s.2 + 1 = s.2 + 1 from ⟨⟨(B.any s.1), (B.wk b7 (by decide))⟩, rfl⟩)
    · have f8 : B 1 1 (v2) := B.nelo c5 h4 (show B 0 0 (0 : Int32) from ⟨by decide, by decide⟩) (by decide)
      refine T.callB (t_Roll_cell hha.r f3 (B.wk (show B 0 0 (0 : Int32) from ⟨by decide, by decide⟩) (by decide)) hIg) (fun v4 h9 => ?_)
      refine T.cond (fun c10 => ?_) (fun c10 => ?_)
      · have f11 : B 0 1 (v4) := B.eql c10 (B.any v4) hk2 (by decide)
        refine T.callB (t_Roll_cell hha.r f3 (B.wk (show B 4 4 (4 : Int32) from ⟨by decide, by decide⟩) (by decide)) hIg) (fun v6 h12 => ?_)
        have b13 : B 1 24 (s.2 + 1) := B.add f3 (show B 1 1 (1 : Int32) from ⟨by decide, by decide⟩) (by decide)
        exact T.some' (show J_Hair_valuesOf_5 z (s.1 + v6, s.2 + 1) ∧ s.2 + 1 = s.2 + 1 from ⟨⟨(B.any (s.1 + v6)), (B.wk b13 (by decide))⟩, rfl⟩)
      · have b14 : B 1 24 (s.2 + 1) := B.add f3 (show B 1 1 (1 : Int32) from ⟨by decide, by decide⟩) (by decide)
        exact T.some' (show J_Hair_valuesOf_5 z (s.1, s.2 + 1) ∧ s.2 + 1 = s.2 + 1 from ⟨⟨(B.any s.1), (B.wk b14 (by decide))⟩, rfl⟩)
theorem t_Hair_valuesOf {z : Zt} {F : Nat} {ha : Nat} {ro : Nat} {p0 : Int32} {p1 : Int32} {g : Mem} (hF : 4294967296 < F) (hha : HP ha ro) (hp1 : B 0 1 p1) (hIg : Inv z g) : T (sp_Hair_valuesOf F ha ro p0 p1 g) (fun r => B (-2147483648) 2147483647 r) := by
  unfold sp_Hair_valuesOf
  refine T.callB (T.lpc (J := J_Hair_valuesOf_5 z) (Q := Q_Hair_valuesOf_5 z) (fun s => s.2) 0 24 (by decide) (fun s h => h.2) (fun s h => t_Hair_valuesOf_5 hF hha hp1 hp1 hIg h) F _ (show J_Hair_valuesOf_5 z (0, 0) from ⟨(B.any (0 : Int32)), (B.wk (show B 0 0 (0 : Int32) from ⟨by decide, by decide⟩) (by decide))⟩) hF) (fun x7 h1 => ?_)
  have h1 : B (-2147483648) 2147483647 x7 := h1
  exact T.some' (show B (-2147483648) 2147483647 x7 from (B.any x7))
theorem t_Hair_between_13 {z : Zt} {F : Nat} {ha : Nat} {ro : Nat} {p0 : Int32} {p1 : Int32} {p2 : Int32} {g : Mem} {k2 : Int32} {k3 : Int32} {k4 : Int32} {s : Int32 × Int32} (hF : 4294967296 < F) (hha : HP ha ro) (hp0 : B 0 5 p0) (hIg : Inv z g) (hs : J_Hair_between_13 z s) : T (st_Hair_between_13 F ha ro p0 p1 p2 g k2 k3 k4 s) (LQ (J_Hair_between_13 z) (Q_Hair_between_13 z) (fun s => s.2) s.2) := by
  unfold st_Hair_between_13
  refine T.cond (fun c1 => ?_) (fun c1 => ?_)
  · exact T.some' (show B (-2147483648) 2147483647 s.1 from (B.any s.1))
  · have f2 : B 1 24 (g ha 4) := B.nlel c1 (hIg.ents hha) hs.2 (by decide)
    have f3 : B 0 23 (s.2) := B.nler c1 (hIg.ents hha) hs.2 (by decide)
    refine T.callB (t_Hair_breadths hha f3 hIg) (fun v3 h4 => ?_)
    refine T.callB (t_Hall_hasBit ) (fun v4 h5 => ?_)
    refine T.cond (fun c6 => ?_) (fun c6 => ?_)
    · have f7 : B 0 0 (v4) := B.eql c6 h5 (show B 0 0 (0 : Int32) from ⟨by decide, by decide⟩) (by decide)
      have b8 : B 1 24 (s.2 + 1) := B.add f3 (show B 1 1 (1 : Int32) from ⟨by decide, by decide⟩) (by decide)
      exact T.some' (show J_Hair_between_13 z (s.1, s.2 + 1) ∧ s.2 + 1 = s.2 + 1 from ⟨⟨(B.any s.1), (B.wk b8 (by decide))⟩, rfl⟩)
    · have f9 : B 1 1 (v4) := B.nelo c6 h5 (show B 0 0 (0 : Int32) from ⟨by decide, by decide⟩) (by decide)
      refine T.cond (fun c10 => ?_) (fun c10 => ?_)
      · have f11 : B (-2147483648) 2147483646 (v3) := B.ltl c10 (B.any v3) (B.any k2) (by decide)
        have f12 : B (-2147483647) 2147483647 (k2) := B.ltr c10 (B.any v3) (B.any k2) (by decide)
        have b13 : B 1 24 (s.2 + 1) := B.add f3 (show B 1 1 (1 : Int32) from ⟨by decide, by decide⟩) (by decide)
        exact T.some' (show J_Hair_between_13 z (s.1, s.2 + 1) ∧ s.2 + 1 = s.2 + 1 from ⟨⟨(B.any s.1), (B.wk b13 (by decide))⟩, rfl⟩)
      · refine T.cond (fun c14 => ?_) (fun c14 => ?_)
        · have f15 : B (-2147483648) 2147483646 (k3) := B.ltl c14 (B.any k3) (B.any v3) (by decide)
          have f16 : B (-2147483647) 2147483647 (v3) := B.ltr c14 (B.any k3) (B.any v3) (by decide)
          have b17 : B 1 24 (s.2 + 1) := B.add f3 (show B 1 1 (1 : Int32) from ⟨by decide, by decide⟩) (by decide)
          exact T.some' (show J_Hair_between_13 z (s.1, s.2 + 1) ∧ s.2 + 1 = s.2 + 1 from ⟨⟨(B.any s.1), (B.wk b17 (by decide))⟩, rfl⟩)
        · have b18 : B 1 24 (s.2 + 1) := B.add f3 (show B 1 1 (1 : Int32) from ⟨by decide, by decide⟩) (by decide)
          exact T.some' (show J_Hair_between_13 z (s.1 ||| (1 <<< (s.2 &&& 31)), s.2 + 1) ∧ s.2 + 1 = s.2 + 1 from ⟨⟨(B.any (s.1 ||| (1 <<< (s.2 &&& 31)))), (B.wk b18 (by decide))⟩, rfl⟩)
theorem t_Hair_between {z : Zt} {F : Nat} {ha : Nat} {ro : Nat} {p0 : Int32} {p1 : Int32} {p2 : Int32} {g : Mem} (hF : 4294967296 < F) (hha : HP ha ro) (hp0 : B 0 5 p0) (hIg : Inv z g) : T (sp_Hair_between F ha ro p0 p1 p2 g) (fun r => B (-2147483648) 2147483647 r) := by
  unfold sp_Hair_between
  refine T.callB (t_Hair_thereOf hF hha hp0 hIg) (fun v1 h1 => ?_)
  refine T.callB (T.lpc (J := J_Hair_between_13 z) (Q := Q_Hair_between_13 z) (fun s => s.2) 0 24 (by decide) (fun s h => h.2) (fun s h => t_Hair_between_13 hF hha hp0 hIg h) F _ (show J_Hair_between_13 z (0, 0) from ⟨(B.any (0 : Int32)), (B.wk (show B 0 0 (0 : Int32) from ⟨by decide, by decide⟩) (by decide))⟩) hF) (fun x8 h2 => ?_)
  have h2 : B (-2147483648) 2147483647 x8 := h2
  exact T.some' (show B (-2147483648) 2147483647 x8 from (B.any x8))
theorem t_Hair_beyond {z : Zt} {F : Nat} {ha : Nat} {ro : Nat} {p0 : Int32} {p1 : Int32} {g : Mem} (hF : 4294967296 < F) (hha : HP ha ro) (hp0 : B 0 5 p0) (hIg : Inv z g) : T (sp_Hair_beyond F ha ro p0 p1 g) (fun r => B (-2147483648) 2147483647 r) := by
  unfold sp_Hair_beyond
  refine T.callB (t_Hair_between hF hha hp0 hIg) (fun v1 h1 => ?_)
  exact T.some' (show B (-2147483648) 2147483647 v1 from (B.any v1))
theorem t_Hair_eatable {z : Zt} {F : Nat} {ha : Nat} {ro : Nat} {p0 : Int32} {p1 : Int32} {p2 : Int32} {g : Mem} (hF : 4294967296 < F) (hha : HP ha ro) (hp0 : B 0 5 p0) (hIg : Inv z g) : T (sp_Hair_eatable F ha ro p0 p1 p2 g) (fun r => B (-2147483648) 2147483647 r) := by
  unfold sp_Hair_eatable
  refine T.rdU (B.ib hp0 (by decide)) (fun v1 => ?_)
  refine T.cond (fun c1 => ?_) (fun c1 => ?_)
  · have f2 : B 3 3 (v1) := B.eql c1 (B.any v1) (show B 3 3 (3 : Int32) from ⟨by decide, by decide⟩) (by decide)
    exact T.some' (show B (-2147483648) 2147483647 (0 : Int32) from (B.any (0 : Int32)))
  · refine T.callB (t_Hair_between hF hha hp0 hIg) (fun v3 h3 => ?_)
    exact T.some' (show B (-2147483648) 2147483647 (v3 &&& ((g ha 6) ^^^ (-1))) from (B.any (v3 &&& ((g ha 6) ^^^ (-1)))))
theorem t_Hair_lose {z : Zt} {ha : Nat} {ro : Nat} {p0 : Int32} {g : Mem} (hha : HP ha ro) (hIg : Inv z g) : T (sp_Hair_lose ha ro p0 g) (fun r => B (-2147483648) 2147483647 r.1 ∧ Inv z r.2) := by
  unfold sp_Hair_lose
  refine T.callB (t_JInteger_bitCount ) (fun v1 h1 => ?_)
  have hM2 : Inv z (mset g ha 5 ((g ha 5) ||| p0)) := hIg.fre hha.f5
  exact T.some' (show B (-2147483648) 2147483647 v1 ∧ Inv z (mset g ha 5 ((g ha 5) ||| p0)) from ⟨(B.any v1), hM2⟩)
theorem t_Hair_shaveTo {z : Zt} {F : Nat} {ha : Nat} {ro : Nat} {p0 : Int32} {p1 : Int32} {g : Mem} (hF : 4294967296 < F) (hha : HP ha ro) (hp0 : B 0 5 p0) (hp1 : B 0 2147483646 p1) (hIg : Inv z g) : T (sp_Hair_shaveTo F ha ro p0 p1 g) (fun r => B (-2147483648) 2147483647 r.1 ∧ Inv z r.2) := by
  unfold sp_Hair_shaveTo
  refine T.wrI (I := fun m => Inv z m ∧ ∀ q, q ≠ (ha + 1) → m q = (g) q) (B.ib hp0 (by decide)) ⟨hIg.fra hha.a1, fun q hq => mset_rowF _ _ _ hq⟩ (fun g1 h1 => ?_)
  refine T.callB (t_Hair_beyond hF hha hp0 h1.1) (fun v2 h2 => ?_)
  refine T.callB (t_Hair_lose hha h1.1) (fun v3 h3 => ?_)
  exact T.some' (show B (-2147483648) 2147483647 v3.1 ∧ Inv z v3.2 from ⟨(B.any v3.1), h3.2⟩)
theorem t_Hair_tie {z : Zt} {ha : Nat} {ro : Nat} {p0 : Int32} {g : Mem} (hha : HP ha ro) (hIg : Inv z g) : T (sp_Hair_tie ha ro p0 g) (fun r => Inv z r) := by
  unfold sp_Hair_tie
  have hM1 : Inv z (mset g ha 6 ((g ha 6) ||| (1 <<< (p0 &&& 31)))) := hIg.fre hha.f6
  exact T.some' (show Inv z (mset g ha 6 ((g ha 6) ||| (1 <<< (p0 &&& 31)))) from hM1)
theorem t_Hair_pass_12 {z : Zt} {F : Nat} {ha : Nat} {ro : Nat} {p0 : Int32} {g : Mem} {k1 : Int32} {s : Int32 × Mem} (hF : 4294967296 < F) (hha : HP ha ro) (hp0 : B 1 30 p0) (hk1 : B 1 30 k1) (hs : J_Hair_pass_12 z s) : T (st_Hair_pass_12 F ha ro p0 g k1 s) (LQ (J_Hair_pass_12 z) (Q_Hair_pass_12 z) (fun s => s.1) s.1) := by
  unfold st_Hair_pass_12
  refine T.cond (fun c1 => ?_) (fun c1 => ?_)
  · exact T.some' (show Inv z s.2 from hs.2)
  · have f2 : B 1 6 (s.2 ro 0) := B.nlel c1 (hs.2.monks hha.r) hs.1 (by decide)
    have f3 : B 0 5 (s.1) := B.nler c1 (hs.2.monks hha.r) hs.1 (by decide)
    refine T.callB (t_Hair_isDead hha f3 hs.2) (fun v2 h4 => ?_)
    refine T.cond (fun c5 => ?_) (fun c5 => ?_)
    · have f6 : B 0 0 (v2) := B.eql c5 h4 (show B 0 0 (0 : Int32) from ⟨by decide, by decide⟩) (by decide)
      refine T.rdU (B.ib f3 (by decide)) (fun v4 => ?_)
      refine T.callB (t_Roll_longest hha.r f3 hs.2) (fun v5 h7 => ?_)
      refine T.callB (t_JMath_min ) (fun v6 h8 => ?_)
      refine T.wrI (I := fun m => Inv z m ∧ ∀ q, q ≠ (ha + 1) → m q = (s.2) q) (B.ib f3 (by decide)) ⟨hs.2.fra hha.a1, fun q hq => mset_rowF _ _ _ hq⟩ (fun g7 h9 => ?_)
      refine T.rdU (B.ib f3 (by decide)) (fun v8 => ?_)
      refine T.callB (t_Hair_beyond hF hha f3 h9.1) (fun v9 h10 => ?_)
      refine T.callB (t_Hair_lose hha h9.1) (fun v10 h11 => ?_)
      have b12 : B 1 6 (s.1 + 1) := B.add f3 (show B 1 1 (1 : Int32) from ⟨by decide, by decide⟩) (by decide)
      exact T.some' (show J_Hair_pass_12 z (s.1 + 1, v10.2) ∧ s.1 + 1 = s.1 + 1 from ⟨⟨(B.wk b12 (by decide)), h11.2⟩, rfl⟩)
    · have f13 : B 1 1 (v2) := B.nelo c5 h4 (show B 0 0 (0 : Int32) from ⟨by decide, by decide⟩) (by decide)
      have b14 : B 1 6 (s.1 + 1) := B.add f3 (show B 1 1 (1 : Int32) from ⟨by decide, by decide⟩) (by decide)
      exact T.some' (show J_Hair_pass_12 z (s.1 + 1, s.2) ∧ s.1 + 1 = s.1 + 1 from ⟨⟨(B.wk b14 (by decide)), hs.2⟩, rfl⟩)
theorem t_Hair_pass {z : Zt} {F : Nat} {ha : Nat} {ro : Nat} {p0 : Int32} {g : Mem} (hF : 4294967296 < F) (hha : HP ha ro) (hp0 : B 1 30 p0) (hIg : Inv z g) : T (sp_Hair_pass F ha ro p0 g) (fun r => Inv z r) := by
  unfold sp_Hair_pass
  have hM1 : Inv z (mset g ha 3 ((g ha 3) + p0)) := hIg.fre hha.f3
  refine T.callB (T.lpc (J := J_Hair_pass_12 z) (Q := Q_Hair_pass_12 z) (fun s => s.1) 0 6 (by decide) (fun s h => h.1) (fun s h => t_Hair_pass_12 hF hha hp0 hp0 h) F _ (show J_Hair_pass_12 z (0, mset g ha 3 ((g ha 3) + p0)) from ⟨(B.wk (show B 0 0 (0 : Int32) from ⟨by decide, by decide⟩) (by decide)), hM1⟩) hF) (fun x11 h2 => ?_)
  have h2 : Inv z x11 := h2
  exact T.some' (show Inv z x11 from h2)
theorem t_Hair_settle {z : Zt} {ha : Nat} {ro : Nat} {p0 : Int32} {p1 : Int32} {g : Mem} (hha : HP ha ro) (hp0 : B 0 23 p0) (hp1 : B 0 5 p1) (hIg : Inv z g) : T (sp_Hair_settle ha ro p0 p1 g) (fun r => Inv z r) := by
  unfold sp_Hair_settle
  have b2 : B 1 24 (p0 + 1) := B.add hp0 (show B 1 1 (1 : Int32) from ⟨by decide, by decide⟩) (by decide)
  have hM3 : Inv z (mset g ha 4 (p0 + 1)) := hIg.p_ents hha (B.wk b2 (by decide))
  have hM4 : Inv z (mset (mset g ha 4 (p0 + 1)) ha 6 (((mset g ha 4 (p0 + 1)) ha 6) &&& ((1 <<< (p0 &&& 31)) ^^^ (-1)))) := hM3.fre hha.f6
  have hM5 : Inv z (mset (mset (mset g ha 4 (p0 + 1)) ha 6 (((mset g ha 4 (p0 + 1)) ha 6) &&& ((1 <<< (p0 &&& 31)) ^^^ (-1)))) ha 5 (((mset (mset g ha 4 (p0 + 1)) ha 6 (((mset g ha 4 (p0 + 1)) ha 6) &&& ((1 <<< (p0 &&& 31)) ^^^ (-1)))) ha 5) &&& ((1 <<< (p0 &&& 31)) ^^^ (-1)))) := hM4.fre hha.f5
  refine T.callB (t_Hair_breadths hha hp0 hM5) (fun v1 h1 => ?_)
  refine T.rdU (B.ib hp1 (by decide)) (fun v2 => ?_)
  refine T.cond (fun c6 => ?_) (fun c6 => ?_)
  · exact T.some' (show Inv z (mset (mset (mset g ha 4 (p0 + 1)) ha 6 (((mset g ha 4 (p0 + 1)) ha 6) &&& ((1 <<< (p0 &&& 31)) ^^^ (-1)))) ha 5 (((mset (mset g ha 4 (p0 + 1)) ha 6 (((mset g ha 4 (p0 + 1)) ha 6) &&& ((1 <<< (p0 &&& 31)) ^^^ (-1)))) ha 5) &&& ((1 <<< (p0 &&& 31)) ^^^ (-1)))) from hM5)
  · have f7 : B (-2147483647) 2147483647 (v1) := B.nlel c6 (B.any v1) (B.any v2) (by decide)
    have f8 : B (-2147483648) 2147483646 (v2) := B.nler c6 (B.any v1) (B.any v2) (by decide)
    have hM9 : Inv z (mset (mset (mset (mset g ha 4 (p0 + 1)) ha 6 (((mset g ha 4 (p0 + 1)) ha 6) &&& ((1 <<< (p0 &&& 31)) ^^^ (-1)))) ha 5 (((mset (mset g ha 4 (p0 + 1)) ha 6 (((mset g ha 4 (p0 + 1)) ha 6) &&& ((1 <<< (p0 &&& 31)) ^^^ (-1)))) ha 5) &&& ((1 <<< (p0 &&& 31)) ^^^ (-1)))) ha 5 (((mset (mset (mset g ha 4 (p0 + 1)) ha 6 (((mset g ha 4 (p0 + 1)) ha 6) &&& ((1 <<< (p0 &&& 31)) ^^^ (-1)))) ha 5 (((mset (mset g ha 4 (p0 + 1)) ha 6 (((mset g ha 4 (p0 + 1)) ha 6) &&& ((1 <<< (p0 &&& 31)) ^^^ (-1)))) ha 5) &&& ((1 <<< (p0 &&& 31)) ^^^ (-1)))) ha 5) ||| (1 <<< (p0 &&& 31)))) := hM5.fre hha.f5
    exact T.some' (show Inv z (mset (mset (mset (mset g ha 4 (p0 + 1)) ha 6 (((mset g ha 4 (p0 + 1)) ha 6) &&& ((1 <<< (p0 &&& 31)) ^^^ (-1)))) ha 5 (((mset (mset g ha 4 (p0 + 1)) ha 6 (((mset g ha 4 (p0 + 1)) ha 6) &&& ((1 <<< (p0 &&& 31)) ^^^ (-1)))) ha 5) &&& ((1 <<< (p0 &&& 31)) ^^^ (-1)))) ha 5 (((mset (mset (mset g ha 4 (p0 + 1)) ha 6 (((mset g ha 4 (p0 + 1)) ha 6) &&& ((1 <<< (p0 &&& 31)) ^^^ (-1)))) ha 5 (((mset (mset g ha 4 (p0 + 1)) ha 6 (((mset g ha 4 (p0 + 1)) ha 6) &&& ((1 <<< (p0 &&& 31)) ^^^ (-1)))) ha 5) &&& ((1 <<< (p0 &&& 31)) ^^^ (-1)))) ha 5) ||| (1 <<< (p0 &&& 31)))) from hM9)
theorem t_Hair_braidIn {z : Zt} {ha : Nat} {ro : Nat} {p0 : Int32} {p1 : Int32} {p2 : Int32} {p3 : Int32} {p4 : Int32} {g : Mem} (hha : HP ha ro) (hp0 : B 0 5 p0) (hIg : Inv z g) (hc0 : B 0 23 (g ha 4)) : T (sp_Hair_braidIn ha ro p0 p1 p2 p3 p4 g) (fun r => B 0 23 r.1 ∧ Inv z r.2) := by
  unfold sp_Hair_braidIn
  refine T.callB (t_Roll_put hha.r hc0 (Or.inl ⟨by decide, by decide⟩) hIg) (fun v1 h1 => ?_)
  refine T.callB (t_Roll_put1 hha.r hc0 hp0 h1) (fun v2 h2 => ?_)
  refine T.callB (t_Roll_put hha.r hc0 (Or.inr ⟨by decide, by decide⟩) h2) (fun v3 h3 => ?_)
  refine T.callB (t_Roll_put hha.r hc0 (Or.inr ⟨by decide, by decide⟩) h3) (fun v4 h4 => ?_)
  refine T.callB (t_Roll_put hha.r hc0 (Or.inr ⟨by decide, by decide⟩) h4) (fun v5 h5 => ?_)
  refine T.callB (t_Roll_put hha.r hc0 (Or.inr ⟨by decide, by decide⟩) h5) (fun v6 h6 => ?_)
  refine T.callB (t_Roll_put hha.r hc0 (Or.inr ⟨by decide, by decide⟩) h6) (fun v7 h7 => ?_)
  refine T.callB (t_Hair_settle hha hc0 hp0 h7) (fun v8 h8 => ?_)
  exact T.some' (show B 0 23 (g ha 4) ∧ Inv z v8 from ⟨hc0, h8⟩)
theorem t_Hair_copyInto {z : Zt} {ha ro : Nat} {p0 p1 p2 : Int32} {g : Mem} (hha : HP ha ro) (hp0 : B 0 23 p0) (hp1 : B 0 5 p1) (hI : Inv z g) (hc : B 0 23 (g ha 4)) : T (sp_Hair_copyInto ha ro p0 p1 p2 g) (fun r => B (-2147483648) 2147483647 r.1 ∧ Inv z r.2) := by
  unfold sp_Hair_copyInto
  have h8 : B 8 8 (8 : Int32) := ⟨by decide, by decide⟩
  have e8 : (8 : Int32).toInt = 8 := by decide
  have b0 : B 0 184 (p0 * 8) := B.mul hp0 h8 (by decide)
  have b1 : B 0 184 (g ha 4 * 8) := B.mul hc h8 (by decide)
  have n0 := b0.nat (by decide)
  have n1 := b1.nat (by decide)
  rw [B.mul_eq hp0 h8 (by decide), e8] at n0
  rw [B.mul_eq hc h8 (by decide), e8] at n1
  have i1 := hI.cellsR hha.r (CE_cp (sp := p0 * 8) (dp := g ha 4 * 8) (m := 8) (hI.ce hha.r) (hI.ce hha.r) (by omega))
  refine T.cyI (I := fun m => Inv z m) (B.cp b0 b1 h8 (by decide)) i1 (fun g1 h1 => ?_)
  refine T.callB (t_Roll_put1 hha.r hc hp1 h1) (fun v2 h2 => ?_)
  refine T.callB (t_Roll_put hha.r hc (Or.inr ⟨by decide, by decide⟩) h2) (fun v3 h3 => ?_)
  exact T.callB (t_Hair_settle hha hc hp1 h3) (fun v4 h4 => T.some' ⟨B.any _, h4⟩)
theorem t_Acts_keep_j37 {z : Zt} {ac o0ha o0ro : Nat} {g m0 : Mem} (hac : AP ac) (hha : HP o0ha o0ro) (hI : Inv z m0) (hc : B 0 39 (m0 ac 1)) : T (sp_Acts_keep_j37 ac o0ha o0ro g m0) (fun r => Inv z r ∧ ∀ q, q ≠ ac → q ≠ ac + 1 → r q = m0 q) := by
  unfold sp_Acts_keep_j37
  refine T.callB (t_Hair_writeTo hha hac hc hI) (fun v hv => T.some' ?_)
  have e : v ac 1 = m0 ac 1 := by rw [hv.2 ac (by omega)]
  have h1 : B 1 1 (1 : Int32) := ⟨by decide, by decide⟩
  refine ⟨hv.1.p_amany hac ?_, fun q h2 h3 => (mset_rowF v 1 _ h2).trans (hv.2 q h3)⟩
  rw [e]
  exact B.add hc h1 (by decide)
theorem t_Acts_keep {z : Zt} {ac o0ha o0ro : Nat} {g : Mem} (hac : AP ac) (hha : HP o0ha o0ro) (hI : Inv z g) : T (sp_Acts_keep ac o0ha o0ro g) (fun r => Inv z r ∧ ∀ q, q ≠ ac → q ≠ ac + 1 → r q = g q) := by
  unfold sp_Acts_keep
  refine T.cond (fun c => ?_) (fun c => ?_)
  · exact t_Acts_keep_j37 hac hha hI (B.ltl c (hI.amany hac) (show B 40 40 (40 : Int32) from ⟨by decide, by decide⟩) (by decide))
  · refine T.cyB (B.cp (show B 16 16 (16 : Int32) from ⟨by decide, by decide⟩) (show B 0 0 (0 : Int32) from ⟨by decide, by decide⟩) (show B 624 624 (Int32.ofNat 640 - 16) from ⟨by decide, by decide⟩) (by decide)) ?_
    have i1 := hI.rowsR hac (RO_cp (sp := 16) (dp := 0) (m := Int32.ofNat 640 - 16) (hI.rows hac) (hI.rows hac) rfl)
    have i2 := i1.p_amany hac (show B 0 40 (39 : Int32) from ⟨by decide, by decide⟩)
    refine T.mono (t_Acts_keep_j37 hac hha i2 (B.mset_s (show B 0 39 (39 : Int32) from ⟨by decide, by decide⟩))) (fun r hr => ⟨hr.1, fun q h2 h3 => ?_⟩)
    rw [hr.2 q h2 h3, mset_rowF _ _ _ h2, mrow_other _ _ h3]
theorem t_Acts_takeBack {z : Zt} {ac : Nat} {o0ha : Nat} {o0ro : Nat} {g : Mem} (hac : AP ac) (ho0ha : HP o0ha o0ro) (hIg : Inv z g) : T (sp_Acts_takeBack ac o0ha o0ro g) (fun r => Inv z r) := by
  unfold sp_Acts_takeBack
  refine T.cond (fun c1 => ?_) (fun c1 => ?_)
  · have f2 : B 0 0 (g ac 1) := B.lel c1 (hIg.amany hac) (show B 0 0 (0 : Int32) from ⟨by decide, by decide⟩) (by decide)
    exact T.some' (show Inv z g from hIg)
  · have f3 : B 1 40 (g ac 1) := B.nlel c1 (hIg.amany hac) (show B 0 0 (0 : Int32) from ⟨by decide, by decide⟩) (by decide)
    have b5 : B 0 39 ((g ac 1) - 1) := B.sub f3 (show B 1 1 (1 : Int32) from ⟨by decide, by decide⟩) (by decide)
    have b6 : B 0 39 ((mset g ac 1 ((g ac 1) - 1)) ac 1) := B.mset_s b5
    have hM7 : Inv z (mset g ac 1 ((g ac 1) - 1)) := hIg.p_amany hac (B.wk b5 (by decide))
    refine T.callB (t_Hair_readFrom ho0ha hac b6 hM7) (fun v2 h4 => ?_)
    exact T.some' (show Inv z v2 from h4)
theorem t_Acts_take {z : Zt} {ac : Nat} {o0ac : Nat} {g : Mem} (hac : AP ac) (ho0ac : AP o0ac) (hIg : Inv z g) : T (sp_Acts_take ac o0ac g) (fun r => Inv z r) := by
  unfold sp_Acts_take
  have hM1 : Inv z (mset g ac 1 (g o0ac 1)) := hIg.p_amany hac (hIg.amany ho0ac)
  have b3 : B 0 40 ((mset g ac 1 (g o0ac 1)) ac 1) := B.mset_s (hIg.amany ho0ac)
  have b4 : B 0 640 (((mset g ac 1 (g o0ac 1)) ac 1) * 16) := B.mul b3 (show B 16 16 (16 : Int32) from ⟨by decide, by decide⟩) (by decide)
  refine T.cyI (I := fun m => Inv z m) (B.cp (show B 0 0 (0 : Int32) from ⟨by decide, by decide⟩) (show B 0 0 (0 : Int32) from ⟨by decide, by decide⟩) b4 (by decide)) (hM1.rowsR hac (RO_cp (hM1.rows ho0ac) (hM1.rows hac) rfl)) (fun g1 h2 => ?_)
  exact T.some' (show Inv z g1 from h2)
theorem t_Seen_take {z : Zt} {se : Nat} {o0se : Nat} {g : Mem} (hse : SP se) (ho0se : SP o0se) (hIg : Inv z g) : T (sp_Seen_take se o0se g) (fun r => Inv z r) := by
  unfold sp_Seen_take
  have hM1 : Inv z (mset g se 2 (g o0se 2)) := hIg.p_smany hse (hIg.smany ho0se)
  refine T.cyI (I := fun m => Inv z m) (B.cp (show B 0 0 (0 : Int32) from ⟨by decide, by decide⟩) (show B 0 0 (0 : Int32) from ⟨by decide, by decide⟩) (show B 8 8 (8 : Int32) from ⟨by decide, by decide⟩) (by decide)) (hM1.frr hse.a1) (fun g1 h2 => ?_)
  refine T.cyI (I := fun m => Inv z m) (B.cp (show B 0 0 (0 : Int32) from ⟨by decide, by decide⟩) (show B 0 0 (0 : Int32) from ⟨by decide, by decide⟩) (show B 8 8 (8 : Int32) from ⟨by decide, by decide⟩) (by decide)) (h2.frr hse.a2) (fun g2 h3 => ?_)
  exact T.some' (show Inv z g2 from h3)
theorem t_Seen_add {z : Zt} {se : Nat} {p0 : Int32} {p1 : Int32} {g : Mem} (hse : SP se) (hp0 : B 0 23 p0) (hIg : Inv z g) : T (sp_Seen_add se p0 p1 g) (fun r => Inv z r) := by
  unfold sp_Seen_add
  refine T.cond (fun c1 => ?_) (fun c1 => ?_)
  · have f2 : B 8 8 (g se 2) := B.ler c1 (show B 8 8 (8 : Int32) from ⟨by decide, by decide⟩) (hIg.smany hse) (by decide)
    exact T.some' (show Inv z g from hIg)
  · have f3 : B 0 7 (g se 2) := B.nler c1 (show B 8 8 (8 : Int32) from ⟨by decide, by decide⟩) (hIg.smany hse) (by decide)
    refine T.wrI (I := fun m => Inv z m ∧ ∀ q, q ≠ (se + 1) → m q = (g) q) (B.ib f3 (by decide)) ⟨hIg.fra hse.a1, fun q hq => mset_rowF _ _ _ hq⟩ (fun g2 h4 => ?_)
    have k5 : B 0 7 (g2 se 2) := by rw [h4.2 se (by omega)]; exact f3
    refine T.cond (fun c6 => ?_) (fun c6 => ?_)
    · have f7 : B 0 0 (p1) := B.eql c6 (B.any p1) (show B 0 0 (0 : Int32) from ⟨by decide, by decide⟩) (by decide)
      refine T.wrI (I := fun m => Inv z m ∧ ∀ q, q ≠ (se + 2) → m q = (g2) q) (B.ib k5 (by decide)) ⟨h4.1.fra hse.a2, fun q hq => mset_rowF _ _ _ hq⟩ (fun g4 h8 => ?_)
      have k9 : B 0 7 (g4 se 2) := by rw [h8.2 se (by omega)]; exact k5
      have b10 : B 1 8 ((g4 se 2) + 1) := B.add k9 (show B 1 1 (1 : Int32) from ⟨by decide, by decide⟩) (by decide)
      have hM11 : Inv z (mset g4 se 2 ((g4 se 2) + 1)) := h8.1.p_smany hse (B.wk b10 (by decide))
      exact T.some' (show Inv z (mset g4 se 2 ((g4 se 2) + 1)) from hM11)
    · refine T.wrI (I := fun m => Inv z m ∧ ∀ q, q ≠ (se + 2) → m q = (g2) q) (B.ib k5 (by decide)) ⟨h4.1.fra hse.a2, fun q hq => mset_rowF _ _ _ hq⟩ (fun g5 h12 => ?_)
      have k13 : B 0 7 (g5 se 2) := by rw [h12.2 se (by omega)]; exact k5
      have b14 : B 1 8 ((g5 se 2) + 1) := B.add k13 (show B 1 1 (1 : Int32) from ⟨by decide, by decide⟩) (by decide)
      have hM15 : Inv z (mset g5 se 2 ((g5 se 2) + 1)) := h12.1.p_smany hse (B.wk b14 (by decide))
      exact T.some' (show Inv z (mset g5 se 2 ((g5 se 2) + 1)) from hM15)
theorem t_Seen_wouldBeSo_12 {z : Zt} {F : Nat} {se : Nat} {o0ha : Nat} {o0ro : Nat} {p1 : Int32} {g : Mem} {k3 : Int32} {s : Int32} (hF : 4294967296 < F) (hse : SP se) (ho0ha : HP o0ha o0ro) (hIg : Inv z g) (hs : J_Seen_wouldBeSo_12 z s) : T (st_Seen_wouldBeSo_12 F se o0ha o0ro p1 g k3 s) (LQ (J_Seen_wouldBeSo_12 z) (Q_Seen_wouldBeSo_12 z) (fun s => s) s) := by
  unfold st_Seen_wouldBeSo_12
  refine T.cond (fun c1 => ?_) (fun c1 => ?_)
  · exact T.some' (show True from trivial)
  · have f2 : B 1 8 (g se 2) := B.nlel c1 (hIg.smany hse) hs (by decide)
    have f3 : B 0 7 (s) := B.nler c1 (hIg.smany hse) hs (by decide)
    refine T.rdU (B.ib f3 (by decide)) (fun v3 => ?_)
    refine T.rdU (B.ib f3 (by decide)) (fun v4 => ?_)
    refine T.cond (fun c4 => ?_) (fun c4 => ?_)
    · have b5 : B 1 8 (s + 1) := B.add f3 (show B 1 1 (1 : Int32) from ⟨by decide, by decide⟩) (by decide)
      exact T.some' (show J_Seen_wouldBeSo_12 z (s + 1) ∧ s + 1 = s + 1 from ⟨(B.wk b5 (by decide)), rfl⟩)
    · exact T.some' (show True from trivial)
theorem t_Seen_wouldBeSo {z : Zt} {F : Nat} {se : Nat} {o0ha : Nat} {o0ro : Nat} {p1 : Int32} {g : Mem} (hF : 4294967296 < F) (hse : SP se) (ho0ha : HP o0ha o0ro) (hIg : Inv z g) : T (sp_Seen_wouldBeSo F se o0ha o0ro p1 g) (fun r => B 0 1 r) := by
  unfold sp_Seen_wouldBeSo
  refine T.callB (t_Hair_allThere ho0ha hIg) (fun v1 h1 => ?_)
  refine T.callB (T.lpc (J := J_Seen_wouldBeSo_12 z) (Q := Q_Seen_wouldBeSo_12 z) (fun s => s) 0 8 (by decide) (fun s h => h) (fun s h => t_Seen_wouldBeSo_12 hF hse ho0ha hIg h) F _ (show J_Seen_wouldBeSo_12 z (0 : Int32) from (B.wk (show B 0 0 (0 : Int32) from ⟨by decide, by decide⟩) (by decide))) hF) (fun x6 h2 => ?_)
  rcases x6 with x7 | x8
  · dsimp only
    exact T.some' (show B 0 1 (0 : Int32) from (B.wk (show B 0 0 (0 : Int32) from ⟨by decide, by decide⟩) (by decide)))
  · dsimp only
    exact T.some' (show B 0 1 (1 : Int32) from (B.wk (show B 1 1 (1 : Int32) from ⟨by decide, by decide⟩) (by decide)))
theorem t_Seen_waysToEat_16 {z : Zt} {F : Nat} {se : Nat} {o0ha : Nat} {o0ro : Nat} {p1 : Int32} {g : Mem} {k2 : Int32} {k4 : Int32} {s : Int32 × Int32} (hF : 4294967296 < F) (hse : SP se) (ho0ha : HP o0ha o0ro) (hp1 : B 0 5 p1) (hk2 : B 0 5 k2) (hk4 : B 0 20 k4) (hIg : Inv z g) (hs : J_Seen_waysToEat_16 z s) : T (st_Seen_waysToEat_16 F se o0ha o0ro p1 g k2 k4 s) (LQ (J_Seen_waysToEat_16 z) (Q_Seen_waysToEat_16 z) (fun s => s.2) s.2) := by
  unfold st_Seen_waysToEat_16
  refine T.cond (fun c1 => ?_) (fun c1 => ?_)
  · have f2 : B 21 21 (s.2) := B.ltr c1 (show B 20 20 (20 : Int32) from ⟨by decide, by decide⟩) hs.2 (by decide)
    exact T.some' (show B (-2147483648) 2147483647 s.1 from (B.any s.1))
  · have f3 : B 0 20 (s.2) := B.nltr c1 (show B 20 20 (20 : Int32) from ⟨by decide, by decide⟩) hs.2 (by decide)
    refine T.callB (t_Hair_eatable hF ho0ha hk2 hIg) (fun v3 h4 => ?_)
    refine T.callB (t_Seen_wouldBeSo hF hse ho0ha hIg) (fun v4 h5 => ?_)
    refine T.cond (fun c6 => ?_) (fun c6 => ?_)
    · have f7 : B 0 0 (v4) := B.eql c6 h5 (show B 0 0 (0 : Int32) from ⟨by decide, by decide⟩) (by decide)
      have b8 : B 1 21 (s.2 + 1) := B.add f3 (show B 1 1 (1 : Int32) from ⟨by decide, by decide⟩) (by decide)
      exact T.some' (show J_Seen_waysToEat_16 z (s.1, s.2 + 1) ∧ s.2 + 1 = s.2 + 1 from ⟨⟨(B.any s.1), (B.wk b8 (by decide))⟩, rfl⟩)
    · have f9 : B 1 1 (v4) := B.nelo c6 h5 (show B 0 0 (0 : Int32) from ⟨by decide, by decide⟩) (by decide)
      have b10 : B 1 21 (s.2 + 1) := B.add f3 (show B 1 1 (1 : Int32) from ⟨by decide, by decide⟩) (by decide)
      exact T.some' (show J_Seen_waysToEat_16 z (s.1 + 1, s.2 + 1) ∧ s.2 + 1 = s.2 + 1 from ⟨⟨(B.any (s.1 + 1)), (B.wk b10 (by decide))⟩, rfl⟩)
theorem t_Seen_waysToEat_5 {z : Zt} {F : Nat} {se : Nat} {o0ha : Nat} {o0ro : Nat} {p1 : Int32} {g : Mem} {k2 : Int32} {s : Int32 × Int32} (hF : 4294967296 < F) (hse : SP se) (ho0ha : HP o0ha o0ro) (hp1 : B 0 5 p1) (hk2 : B 0 5 k2) (hIg : Inv z g) (hs : J_Seen_waysToEat_5 z s) : T (st_Seen_waysToEat_5 F se o0ha o0ro p1 g k2 s) (LQ (J_Seen_waysToEat_5 z) (Q_Seen_waysToEat_5 z) (fun s => s.2) s.2) := by
  unfold st_Seen_waysToEat_5
  refine T.cond (fun c1 => ?_) (fun c1 => ?_)
  · have f2 : B 21 21 (s.2) := B.ltr c1 (show B 20 20 (20 : Int32) from ⟨by decide, by decide⟩) hs.2 (by decide)
    exact T.some' (show B (-2147483648) 2147483647 s.1 from (B.any s.1))
  · have f3 : B 0 20 (s.2) := B.nltr c1 (show B 20 20 (20 : Int32) from ⟨by decide, by decide⟩) hs.2 (by decide)
    refine T.callB (T.lpc (J := J_Seen_waysToEat_16 z) (Q := Q_Seen_waysToEat_16 z) (fun s => s.2) 0 21 (by decide) (fun s h => h.2) (fun s h => t_Seen_waysToEat_16 hF hse ho0ha hp1 hk2 f3 hIg h) F _ (show J_Seen_waysToEat_16 z (s.1, s.2) from ⟨(B.any s.1), (B.wk f3 (by decide))⟩) hF) (fun x6 h4 => ?_)
    have h4 : B (-2147483648) 2147483647 x6 := h4
    have b5 : B 1 21 (s.2 + 1) := B.add f3 (show B 1 1 (1 : Int32) from ⟨by decide, by decide⟩) (by decide)
    exact T.some' (show J_Seen_waysToEat_5 z (x6, s.2 + 1) ∧ s.2 + 1 = s.2 + 1 from ⟨⟨(B.any x6), (B.wk b5 (by decide))⟩, rfl⟩)
theorem t_Seen_waysToEat {z : Zt} {F : Nat} {se : Nat} {o0ha : Nat} {o0ro : Nat} {p1 : Int32} {g : Mem} (hF : 4294967296 < F) (hse : SP se) (ho0ha : HP o0ha o0ro) (hp1 : B 0 5 p1) (hIg : Inv z g) : T (sp_Seen_waysToEat F se o0ha o0ro p1 g) (fun r => B (-2147483648) 2147483647 r) := by
  unfold sp_Seen_waysToEat
  refine T.callB (T.lpc (J := J_Seen_waysToEat_5 z) (Q := Q_Seen_waysToEat_5 z) (fun s => s.2) 0 21 (by decide) (fun s h => h.2) (fun s h => t_Seen_waysToEat_5 hF hse ho0ha hp1 hp1 hIg h) F _ (show J_Seen_waysToEat_5 z (0, 0) from ⟨(B.any (0 : Int32)), (B.wk (show B 0 0 (0 : Int32) from ⟨by decide, by decide⟩) (by decide))⟩) hF) (fun x7 h1 => ?_)
  have h1 : B (-2147483648) 2147483647 x7 := h1
  exact T.some' (show B (-2147483648) 2147483647 x7 from (B.any x7))
theorem t_Seen_firstToEat_11 {z : Zt} {F : Nat} {se : Nat} {o0ha : Nat} {o0ro : Nat} {p1 : Int32} {g : Mem} {k2 : Int32} {k3 : Int32} {s : Int32} (hF : 4294967296 < F) (hse : SP se) (ho0ha : HP o0ha o0ro) (hp1 : B 0 5 p1) (hk2 : B 0 5 k2) (hk3 : B 0 20 k3) (hIg : Inv z g) (hs : J_Seen_firstToEat_11 z s) : T (st_Seen_firstToEat_11 F se o0ha o0ro p1 g k2 k3 s) (LQ (J_Seen_firstToEat_11 z) (Q_Seen_firstToEat_11 z) (fun s => s) s) := by
  unfold st_Seen_firstToEat_11
  refine T.cond (fun c1 => ?_) (fun c1 => ?_)
  · have f2 : B 21 21 (s) := B.ltr c1 (show B 20 20 (20 : Int32) from ⟨by decide, by decide⟩) hs (by decide)
    exact T.some' (show True from trivial)
  · have f3 : B 0 20 (s) := B.nltr c1 (show B 20 20 (20 : Int32) from ⟨by decide, by decide⟩) hs (by decide)
    refine T.callB (t_Hair_eatable hF ho0ha hk2 hIg) (fun v3 h4 => ?_)
    refine T.callB (t_Seen_wouldBeSo hF hse ho0ha hIg) (fun v4 h5 => ?_)
    refine T.cond (fun c6 => ?_) (fun c6 => ?_)
    · have f7 : B 0 0 (v4) := B.eql c6 h5 (show B 0 0 (0 : Int32) from ⟨by decide, by decide⟩) (by decide)
      have b8 : B 1 21 (s + 1) := B.add f3 (show B 1 1 (1 : Int32) from ⟨by decide, by decide⟩) (by decide)
      exact T.some' (show J_Seen_firstToEat_11 z (s + 1) ∧ s + 1 = s + 1 from ⟨(B.wk b8 (by decide)), rfl⟩)
    · have f9 : B 1 1 (v4) := B.nelo c6 h5 (show B 0 0 (0 : Int32) from ⟨by decide, by decide⟩) (by decide)
      exact T.some' (show B 0 20 s from f3)
theorem t_Seen_firstToEat_2 {z : Zt} {F : Nat} {se : Nat} {o0ha : Nat} {o0ro : Nat} {p1 : Int32} {g : Mem} {k2 : Int32} {s : Int32} (hF : 4294967296 < F) (hse : SP se) (ho0ha : HP o0ha o0ro) (hp1 : B 0 5 p1) (hk2 : B 0 5 k2) (hIg : Inv z g) (hs : J_Seen_firstToEat_2 z s) : T (st_Seen_firstToEat_2 F se o0ha o0ro p1 g k2 s) (LQ (J_Seen_firstToEat_2 z) (Q_Seen_firstToEat_2 z) (fun s => s) s) := by
  unfold st_Seen_firstToEat_2
  refine T.cond (fun c1 => ?_) (fun c1 => ?_)
  · have f2 : B 21 21 (s) := B.ltr c1 (show B 20 20 (20 : Int32) from ⟨by decide, by decide⟩) hs (by decide)
    exact T.some' (show True from trivial)
  · have f3 : B 0 20 (s) := B.nltr c1 (show B 20 20 (20 : Int32) from ⟨by decide, by decide⟩) hs (by decide)
    refine T.callB (T.lpc (J := J_Seen_firstToEat_11 z) (Q := Q_Seen_firstToEat_11 z) (fun s => s) 0 21 (by decide) (fun s h => h) (fun s h => t_Seen_firstToEat_11 hF hse ho0ha hp1 hk2 f3 hIg h) F _ (show J_Seen_firstToEat_11 z s from (B.wk f3 (by decide))) hF) (fun x6 h4 => ?_)
    rcases x6 with x7 | x8
    · have h4 : B 0 20 x7 := h4
      dsimp only
      exact T.some' (show B 0 20 s ∧ B (-2147483648) 2147483647 x7 from ⟨f3, (B.any x7)⟩)
    · dsimp only
      have b5 : B 1 21 (s + 1) := B.add f3 (show B 1 1 (1 : Int32) from ⟨by decide, by decide⟩) (by decide)
      exact T.some' (show J_Seen_firstToEat_2 z (s + 1) ∧ s + 1 = s + 1 from ⟨(B.wk b5 (by decide)), rfl⟩)
theorem t_Seen_firstToEat {z : Zt} {F : Nat} {se : Nat} {o0ha : Nat} {o0ro : Nat} {p1 : Int32} {g : Mem} (hF : 4294967296 < F) (hse : SP se) (ho0ha : HP o0ha o0ro) (hp1 : B 0 5 p1) (hIg : Inv z g) : T (sp_Seen_firstToEat F se o0ha o0ro p1 g) (fun r => B (-2147483648) 2147483647 r) := by
  unfold sp_Seen_firstToEat
  refine T.callB (T.lpc (J := J_Seen_firstToEat_2 z) (Q := Q_Seen_firstToEat_2 z) (fun s => s) 0 21 (by decide) (fun s h => h) (fun s h => t_Seen_firstToEat_2 hF hse ho0ha hp1 hp1 hIg h) F _ (show J_Seen_firstToEat_2 z (0 : Int32) from (B.wk (show B 0 0 (0 : Int32) from ⟨by decide, by decide⟩) (by decide))) hF) (fun x9 h1 => ?_)
  rcases x9 with x10 | x11
  · have h1 : B 0 20 x10.1 ∧ B (-2147483648) 2147483647 x10.2 := h1
    dsimp only
    exact T.some' (show B (-2147483648) 2147483647 ((100 * x10.1) + x10.2) from (B.any ((100 * x10.1) + x10.2)))
  · dsimp only
    exact T.some' (show B (-2147483648) 2147483647 (-1 : Int32) from (B.any (-1 : Int32)))
theorem t_Game_couple {p0 : Int32} {p1 : Int32} {g : Mem} (hp0 : B 0 5 p0) (hp1 : B 0 5 p1) : T (sp_Game_couple p0 p1 g) (fun r => B 0 35 r) := by
  unfold sp_Game_couple
  have b1 : B 0 30 (p0 * 6) := B.mul hp0 (show B 6 6 (6 : Int32) from ⟨by decide, by decide⟩) (by decide)
  have b2 : B 0 35 ((p0 * 6) + p1) := B.add b1 hp1 (by decide)
  exact T.some' (show B 0 35 ((p0 * 6) + p1) from b2)
theorem t_Game_tellGains_2 {z : Zt} {F : Nat} {g : Mem} {s : Int32 × Mem} (hF : 4294967296 < F) (hs : J_Game_tellGains_2 z s) : T (st_Game_tellGains_2 F g s) (LQ (J_Game_tellGains_2 z) (Q_Game_tellGains_2 z) (fun s => s.1) s.1) := by
  unfold st_Game_tellGains_2
  refine T.cond (fun c1 => ?_) (fun c1 => ?_)
  · exact T.some' (show Inv z s.2 from hs.2)
  · have f2 : B 1 6 (s.2 15 0) := B.nlel c1 (hs.2.monks RP15) hs.1 (by decide)
    have f3 : B 0 5 (s.1) := B.nler c1 (hs.2.monks RP15) hs.1 (by decide)
    refine T.callB (t_Hair_beyond hF HP23 f3 hs.2) (fun v2 h4 => ?_)
    refine T.wrI (I := fun m => Inv z m ∧ ∀ q, q ≠ 46 → m q = (s.2) q) (B.ib f3 (by decide)) ⟨hs.2.fra rfl, fun q hq => mset_rowF _ _ _ hq⟩ (fun g3 h5 => ?_)
    have k6 : B 1 6 (g3 15 0) := by rw [h5.2 15 (by decide)]; exact f2
    have b7 : B 1 6 (s.1 + 1) := B.add f3 (show B 1 1 (1 : Int32) from ⟨by decide, by decide⟩) (by decide)
    exact T.some' (show J_Game_tellGains_2 z (s.1 + 1, g3) ∧ s.1 + 1 = s.1 + 1 from ⟨⟨(B.wk b7 (by decide)), h5.1⟩, rfl⟩)
theorem t_Game_tellGains_49 {z : Zt} {F : Nat} {g : Mem} {k1 : Int32} {s : Int32 × Mem} (hF : 4294967296 < F) (hk1 : B 0 5 k1) (hs : J_Game_tellGains_49 z s) : T (st_Game_tellGains_49 F g k1 s) (LQ (J_Game_tellGains_49 z) (Q_Game_tellGains_49 z) (fun s => s.1) s.1) := by
  unfold st_Game_tellGains_49
  refine T.cond (fun c1 => ?_) (fun c1 => ?_)
  · exact T.some' (show Inv z s.2 from hs.2)
  · have f2 : B 1 6 (s.2 15 0) := B.nlel c1 (hs.2.monks RP15) hs.1 (by decide)
    have f3 : B 0 5 (s.1) := B.nler c1 (hs.2.monks RP15) hs.1 (by decide)
    refine T.rdU (B.ib hk1 (by decide)) (fun v7 => ?_)
    refine T.rdU (B.ib f3 (by decide)) (fun v8 => ?_)
    refine T.callB (t_Hair_recordsLostBy hF HP23 hs.2) (fun v9 h4 => ?_)
    refine T.callB (t_Game_couple hk1 f3) (fun v10 h5 => ?_)
    refine T.callB (t_Hair_valuesOf hF HP23 (B.wk (show B 0 0 (0 : Int32) from ⟨by decide, by decide⟩) (by decide)) hs.2) (fun v11 h6 => ?_)
    refine T.wrI (I := fun m => Inv z m ∧ ∀ q, q ≠ 47 → m q = (s.2) q) (B.ib h5 (by decide)) ⟨hs.2.fra rfl, fun q hq => mset_rowF _ _ _ hq⟩ (fun g12 h7 => ?_)
    have k8 : B 1 6 (g12 15 0) := by rw [h7.2 15 (by decide)]; exact f2
    refine T.callB (t_Game_couple hk1 f3) (fun v13 h9 => ?_)
    refine T.callB (t_Hair_valuesOf hF HP23 (B.wk (show B 1 1 (1 : Int32) from ⟨by decide, by decide⟩) (by decide)) h7.1) (fun v14 h10 => ?_)
    refine T.wrI (I := fun m => Inv z m ∧ ∀ q, q ≠ 48 → m q = (g12) q) (B.ib h9 (by decide)) ⟨h7.1.fra rfl, fun q hq => mset_rowF _ _ _ hq⟩ (fun g15 h11 => ?_)
    have k12 : B 1 6 (g15 15 0) := by rw [h11.2 15 (by decide)]; exact k8
    have b13 : B 1 6 (s.1 + 1) := B.add f3 (show B 1 1 (1 : Int32) from ⟨by decide, by decide⟩) (by decide)
    exact T.some' (show J_Game_tellGains_49 z (s.1 + 1, g15) ∧ s.1 + 1 = s.1 + 1 from ⟨⟨(B.wk b13 (by decide)), h11.1⟩, rfl⟩)
theorem t_Game_tellGains_36 {z : Zt} {F : Nat} {g : Mem} {s : Int32 × Mem} (hF : 4294967296 < F) (hs : J_Game_tellGains_36 z s) : T (st_Game_tellGains_36 F g s) (LQ (J_Game_tellGains_36 z) (Q_Game_tellGains_36 z) (fun s => s.1) s.1) := by
  unfold st_Game_tellGains_36
  refine T.cond (fun c1 => ?_) (fun c1 => ?_)
  · exact T.some' (show Inv z s.2 from hs.2)
  · have f2 : B 1 6 (s.2 15 0) := B.nlel c1 (hs.2.monks RP15) hs.1 (by decide)
    have f3 : B 0 5 (s.1) := B.nler c1 (hs.2.monks RP15) hs.1 (by decide)
    refine T.callB (T.lpc (J := J_Game_tellGains_49 z) (Q := Q_Game_tellGains_49 z) (fun s => s.1) 0 6 (by decide) (fun s h => h.1) (fun s h => t_Game_tellGains_49 hF f3 h) F _ (show J_Game_tellGains_49 z (0, s.2) from ⟨(B.wk (show B 0 0 (0 : Int32) from ⟨by decide, by decide⟩) (by decide)), hs.2⟩) hF) (fun x16 h4 => ?_)
    have h4 : Inv z x16 := h4
    have b5 : B 1 6 (s.1 + 1) := B.add f3 (show B 1 1 (1 : Int32) from ⟨by decide, by decide⟩) (by decide)
    exact T.some' (show J_Game_tellGains_36 z (s.1 + 1, x16) ∧ s.1 + 1 = s.1 + 1 from ⟨⟨(B.wk b5 (by decide)), h4⟩, rfl⟩)
theorem t_Game_tellGains {z : Zt} {F : Nat} {g : Mem} (hF : 4294967296 < F) (hIg : Inv z g) : T (sp_Game_tellGains F g) (fun r => Inv z r) := by
  unfold sp_Game_tellGains
  refine T.callB (T.lpc (J := J_Game_tellGains_2 z) (Q := Q_Game_tellGains_2 z) (fun s => s.1) 0 6 (by decide) (fun s h => h.1) (fun s h => t_Game_tellGains_2 hF h) F _ (show J_Game_tellGains_2 z (0, g) from ⟨(B.wk (show B 0 0 (0 : Int32) from ⟨by decide, by decide⟩) (by decide)), hIg⟩) hF) (fun x4 h1 => ?_)
  have h1 : Inv z x4 := h1
  refine T.callB (T.lpc (J := J_Game_tellGains_36 z) (Q := Q_Game_tellGains_36 z) (fun s => s.1) 0 6 (by decide) (fun s h => h.1) (fun s h => t_Game_tellGains_36 hF h) F _ (show J_Game_tellGains_36 z (0, x4) from ⟨(B.wk (show B 0 0 (0 : Int32) from ⟨by decide, by decide⟩) (by decide)), h1⟩) hF) (fun x17 h2 => ?_)
  have h2 : Inv z x17 := h2
  exact T.some' (show Inv z x17 from h2)
theorem t_Game_isShavable {z : Zt} {p0 : Int32} {g : Mem} (hp0 : B 0 5 p0) (hIg : Inv z g) : T (sp_Game_isShavable p0 g) (fun r => B 0 1 r) := by
  unfold sp_Game_isShavable
  refine T.rdU (B.ib hp0 (by decide)) (fun v1 => ?_)
  refine T.cond (fun c1 => ?_) (fun c1 => ?_)
  · have f2 : B 3 3 (v1) := B.eql c1 (B.any v1) (show B 3 3 (3 : Int32) from ⟨by decide, by decide⟩) (by decide)
    exact T.some' (show B 0 1 (0 : Int32) from (B.wk (show B 0 0 (0 : Int32) from ⟨by decide, by decide⟩) (by decide)))
  · exact T.some' (show B 0 1 (1 : Int32) from (B.wk (show B 1 1 (1 : Int32) from ⟨by decide, by decide⟩) (by decide)))
theorem t_Game_rests_20 {z : Zt} {F : Nat} {p0 : Int32} {p1 : Int32} {g : Mem} {k1 : Int32} {k2 : Int32} {s : Int32} (hF : 4294967296 < F) (hp0 : B 0 5 p0) (hp1 : B 0 5 p1) (hk1 : B 0 5 k1) (hk2 : B 0 5 k2) (hIg : Inv z g) (hs : J_Game_rests_20 z s) : T (st_Game_rests_20 F p0 p1 g k1 k2 s) (LQ (J_Game_rests_20 z) (Q_Game_rests_20 z) (fun s => s) s) := by
  unfold st_Game_rests_20
  refine T.cond (fun c1 => ?_) (fun c1 => ?_)
  · exact T.some' (show True from trivial)
  · have f2 : B 1 6 (g 15 0) := B.nlel c1 (hIg.monks RP15) hs (by decide)
    have f3 : B 0 5 (s) := B.nler c1 (hIg.monks RP15) hs (by decide)
    refine T.callB (t_Game_isShavable f3 hIg) (fun v6 h4 => ?_)
    refine T.cond (fun c5 => ?_) (fun c5 => ?_)
    · have f6 : B 0 0 (v6) := B.eql c5 h4 (show B 0 0 (0 : Int32) from ⟨by decide, by decide⟩) (by decide)
      have b7 : B 1 6 (s + 1) := B.add f3 (show B 1 1 (1 : Int32) from ⟨by decide, by decide⟩) (by decide)
      exact T.some' (show J_Game_rests_20 z (s + 1) ∧ s + 1 = s + 1 from ⟨(B.wk b7 (by decide)), rfl⟩)
    · have f8 : B 1 1 (v6) := B.nelo c5 h4 (show B 0 0 (0 : Int32) from ⟨by decide, by decide⟩) (by decide)
      refine T.callB (t_Game_couple f3 hk2) (fun v8 h9 => ?_)
      refine T.rdU (B.ib h9 (by decide)) (fun v9 => ?_)
      refine T.callB (t_Game_couple hk1 hk2) (fun v10 h10 => ?_)
      refine T.rdU (B.ib h10 (by decide)) (fun v11 => ?_)
      refine T.cond (fun c11 => ?_) (fun c11 => ?_)
      · have f12 : B (-2147483648) 2147483646 (v11) := B.ltl c11 (B.any v11) (B.any v9) (by decide)
        have f13 : B (-2147483647) 2147483647 (v9) := B.ltr c11 (B.any v11) (B.any v9) (by decide)
        exact T.some' (show True from trivial)
      · refine T.callB (t_Game_couple hk1 f3) (fun v13 h14 => ?_)
        refine T.rdU (B.ib h14 (by decide)) (fun v14 => ?_)
        refine T.callB (t_Game_couple hk1 hk2) (fun v15 h15 => ?_)
        refine T.rdU (B.ib h15 (by decide)) (fun v16 => ?_)
        refine T.cond (fun c16 => ?_) (fun c16 => ?_)
        · have b17 : B 1 6 (s + 1) := B.add f3 (show B 1 1 (1 : Int32) from ⟨by decide, by decide⟩) (by decide)
          exact T.some' (show J_Game_rests_20 z (s + 1) ∧ s + 1 = s + 1 from ⟨(B.wk b17 (by decide)), rfl⟩)
        · have f18 : B (-2147483647) 2147483647 (v14) := B.nlel c16 (B.any v14) (B.any v16) (by decide)
          have f19 : B (-2147483648) 2147483646 (v16) := B.nler c16 (B.any v14) (B.any v16) (by decide)
          exact T.some' (show True from trivial)
theorem t_Game_rests {z : Zt} {F : Nat} {p0 : Int32} {p1 : Int32} {g : Mem} (hF : 4294967296 < F) (hp0 : B 0 5 p0) (hp1 : B 0 5 p1) (hIg : Inv z g) : T (sp_Game_rests F p0 p1 g) (fun r => B 0 1 r) := by
  unfold sp_Game_rests
  refine T.callB (t_Game_isShavable hp0 hIg) (fun v1 h1 => ?_)
  refine T.cond (fun c2 => ?_) (fun c2 => ?_)
  · have f3 : B 0 0 (v1) := B.eql c2 h1 (show B 0 0 (0 : Int32) from ⟨by decide, by decide⟩) (by decide)
    exact T.some' (show B 0 1 (0 : Int32) from (B.wk (show B 0 0 (0 : Int32) from ⟨by decide, by decide⟩) (by decide)))
  · have f4 : B 1 1 (v1) := B.nelo c2 h1 (show B 0 0 (0 : Int32) from ⟨by decide, by decide⟩) (by decide)
    refine T.callB (t_Game_isShavable hp1 hIg) (fun v3 h5 => ?_)
    refine T.cond (fun c6 => ?_) (fun c6 => ?_)
    · have f7 : B 0 0 (v3) := B.eql c6 h5 (show B 0 0 (0 : Int32) from ⟨by decide, by decide⟩) (by decide)
      exact T.some' (show B 0 1 (0 : Int32) from (B.wk (show B 0 0 (0 : Int32) from ⟨by decide, by decide⟩) (by decide)))
    · have f8 : B 1 1 (v3) := B.nelo c6 h5 (show B 0 0 (0 : Int32) from ⟨by decide, by decide⟩) (by decide)
      refine T.callB (T.lpc (J := J_Game_rests_20 z) (Q := Q_Game_rests_20 z) (fun s => s) 0 6 (by decide) (fun s h => h) (fun s h => t_Game_rests_20 hF hp0 hp1 hp0 hp1 hIg h) F _ (show J_Game_rests_20 z (0 : Int32) from (B.wk (show B 0 0 (0 : Int32) from ⟨by decide, by decide⟩) (by decide))) hF) (fun x18 h9 => ?_)
      rcases x18 with x19 | x20
      · dsimp only
        exact T.some' (show B 0 1 (0 : Int32) from (B.wk (show B 0 0 (0 : Int32) from ⟨by decide, by decide⟩) (by decide)))
      · dsimp only
        exact T.some' (show B 0 1 (1 : Int32) from (B.wk (show B 1 1 (1 : Int32) from ⟨by decide, by decide⟩) (by decide)))
theorem t_Game_resting_17 {z : Zt} {F : Nat} {g : Mem} {k2 : Int32} {s : Int32 × Int32} (hF : 4294967296 < F) (hk2 : B 0 5 k2) (hIg : Inv z g) (hs : J_Game_resting_17 z s) : T (st_Game_resting_17 F g k2 s) (LQ (J_Game_resting_17 z) (Q_Game_resting_17 z) (fun s => s.2) s.2) := by
  unfold st_Game_resting_17
  refine T.cond (fun c1 => ?_) (fun c1 => ?_)
  · exact T.some' (show B (-2147483648) 2147483647 s.1 from (B.any s.1))
  · have f2 : B 1 6 (g 15 0) := B.nlel c1 (hIg.monks RP15) hs.2 (by decide)
    have f3 : B 0 5 (s.2) := B.nler c1 (hIg.monks RP15) hs.2 (by decide)
    refine T.callB (t_Game_rests hF hk2 f3 hIg) (fun v3 h4 => ?_)
    refine T.cond (fun c5 => ?_) (fun c5 => ?_)
    · have f6 : B 0 0 (v3) := B.eql c5 h4 (show B 0 0 (0 : Int32) from ⟨by decide, by decide⟩) (by decide)
      have b7 : B 1 6 (s.2 + 1) := B.add f3 (show B 1 1 (1 : Int32) from ⟨by decide, by decide⟩) (by decide)
      exact T.some' (show J_Game_resting_17 z (s.1, s.2 + 1) ∧ s.2 + 1 = s.2 + 1 from ⟨⟨(B.any s.1), (B.wk b7 (by decide))⟩, rfl⟩)
    · have f8 : B 1 1 (v3) := B.nelo c5 h4 (show B 0 0 (0 : Int32) from ⟨by decide, by decide⟩) (by decide)
      have b9 : B 1 6 (s.2 + 1) := B.add f3 (show B 1 1 (1 : Int32) from ⟨by decide, by decide⟩) (by decide)
      exact T.some' (show J_Game_resting_17 z (s.1 + 1, s.2 + 1) ∧ s.2 + 1 = s.2 + 1 from ⟨⟨(B.any (s.1 + 1)), (B.wk b9 (by decide))⟩, rfl⟩)
theorem t_Game_resting_4 {z : Zt} {F : Nat} {g : Mem} {s : Int32 × Int32} (hF : 4294967296 < F) (hIg : Inv z g) (hs : J_Game_resting_4 z s) : T (st_Game_resting_4 F g s) (LQ (J_Game_resting_4 z) (Q_Game_resting_4 z) (fun s => s.2) s.2) := by
  unfold st_Game_resting_4
  refine T.cond (fun c1 => ?_) (fun c1 => ?_)
  · exact T.some' (show B (-2147483648) 2147483647 s.1 from (B.any s.1))
  · have f2 : B 1 6 (g 15 0) := B.nlel c1 (hIg.monks RP15) hs.2 (by decide)
    have f3 : B 0 5 (s.2) := B.nler c1 (hIg.monks RP15) hs.2 (by decide)
    refine T.callB (T.lpc (J := J_Game_resting_17 z) (Q := Q_Game_resting_17 z) (fun s => s.2) 0 6 (by decide) (fun s h => h.2) (fun s h => t_Game_resting_17 hF f3 hIg h) F _ (show J_Game_resting_17 z (s.1, 0) from ⟨(B.any s.1), (B.wk (show B 0 0 (0 : Int32) from ⟨by decide, by decide⟩) (by decide))⟩) hF) (fun x5 h4 => ?_)
    have h4 : B (-2147483648) 2147483647 x5 := h4
    have b5 : B 1 6 (s.2 + 1) := B.add f3 (show B 1 1 (1 : Int32) from ⟨by decide, by decide⟩) (by decide)
    exact T.some' (show J_Game_resting_4 z (x5, s.2 + 1) ∧ s.2 + 1 = s.2 + 1 from ⟨⟨(B.any x5), (B.wk b5 (by decide))⟩, rfl⟩)
theorem t_Game_resting {z : Zt} {F : Nat} {g : Mem} (hF : 4294967296 < F) (hIg : Inv z g) : T (sp_Game_resting F g) (fun r => B (-2147483648) 2147483647 r) := by
  unfold sp_Game_resting
  refine T.callB (T.lpc (J := J_Game_resting_4 z) (Q := Q_Game_resting_4 z) (fun s => s.2) 0 6 (by decide) (fun s h => h.2) (fun s h => t_Game_resting_4 hF hIg h) F _ (show J_Game_resting_4 z (0, 0) from ⟨(B.any (0 : Int32)), (B.wk (show B 0 0 (0 : Int32) from ⟨by decide, by decide⟩) (by decide))⟩) hF) (fun x6 h1 => ?_)
  have h1 : B (-2147483648) 2147483647 x6 := h1
  exact T.some' (show B (-2147483648) 2147483647 x6 from (B.any x6))
theorem t_Game_firstResting_15 {z : Zt} {F : Nat} {g : Mem} {k1 : Int32} {s : Int32} (hF : 4294967296 < F) (hk1 : B 0 5 k1) (hIg : Inv z g) (hs : J_Game_firstResting_15 z s) : T (st_Game_firstResting_15 F g k1 s) (LQ (J_Game_firstResting_15 z) (Q_Game_firstResting_15 z) (fun s => s) s) := by
  unfold st_Game_firstResting_15
  refine T.cond (fun c1 => ?_) (fun c1 => ?_)
  · exact T.some' (show True from trivial)
  · have f2 : B 1 6 (g 15 0) := B.nlel c1 (hIg.monks RP15) hs (by decide)
    have f3 : B 0 5 (s) := B.nler c1 (hIg.monks RP15) hs (by decide)
    refine T.callB (t_Game_rests hF hk1 f3 hIg) (fun v3 h4 => ?_)
    refine T.cond (fun c5 => ?_) (fun c5 => ?_)
    · have f6 : B 0 0 (v3) := B.eql c5 h4 (show B 0 0 (0 : Int32) from ⟨by decide, by decide⟩) (by decide)
      have b7 : B 1 6 (s + 1) := B.add f3 (show B 1 1 (1 : Int32) from ⟨by decide, by decide⟩) (by decide)
      exact T.some' (show J_Game_firstResting_15 z (s + 1) ∧ s + 1 = s + 1 from ⟨(B.wk b7 (by decide)), rfl⟩)
    · have f8 : B 1 1 (v3) := B.nelo c5 h4 (show B 0 0 (0 : Int32) from ⟨by decide, by decide⟩) (by decide)
      exact T.some' (show B 0 5 s from f3)
theorem t_Game_firstResting_2 {z : Zt} {F : Nat} {g : Mem} {s : Int32} (hF : 4294967296 < F) (hIg : Inv z g) (hs : J_Game_firstResting_2 z s) : T (st_Game_firstResting_2 F g s) (LQ (J_Game_firstResting_2 z) (Q_Game_firstResting_2 z) (fun s => s) s) := by
  unfold st_Game_firstResting_2
  refine T.cond (fun c1 => ?_) (fun c1 => ?_)
  · exact T.some' (show True from trivial)
  · have f2 : B 1 6 (g 15 0) := B.nlel c1 (hIg.monks RP15) hs (by decide)
    have f3 : B 0 5 (s) := B.nler c1 (hIg.monks RP15) hs (by decide)
    refine T.callB (T.lpc (J := J_Game_firstResting_15 z) (Q := Q_Game_firstResting_15 z) (fun s => s) 0 6 (by decide) (fun s h => h) (fun s h => t_Game_firstResting_15 hF f3 hIg h) F _ (show J_Game_firstResting_15 z (0 : Int32) from (B.wk (show B 0 0 (0 : Int32) from ⟨by decide, by decide⟩) (by decide))) hF) (fun x5 h4 => ?_)
    rcases x5 with x6 | x7
    · have h4 : B 0 5 x6 := h4
      dsimp only
      exact T.some' (show B 0 5 s ∧ B (-2147483648) 2147483647 x6 from ⟨f3, (B.any x6)⟩)
    · dsimp only
      have b5 : B 1 6 (s + 1) := B.add f3 (show B 1 1 (1 : Int32) from ⟨by decide, by decide⟩) (by decide)
      exact T.some' (show J_Game_firstResting_2 z (s + 1) ∧ s + 1 = s + 1 from ⟨(B.wk b5 (by decide)), rfl⟩)
theorem t_Game_firstResting {z : Zt} {F : Nat} {g : Mem} (hF : 4294967296 < F) (hIg : Inv z g) : T (sp_Game_firstResting F g) (fun r => B (-2147483648) 2147483647 r) := by
  unfold sp_Game_firstResting
  refine T.callB (T.lpc (J := J_Game_firstResting_2 z) (Q := Q_Game_firstResting_2 z) (fun s => s) 0 6 (by decide) (fun s h => h) (fun s h => t_Game_firstResting_2 hF hIg h) F _ (show J_Game_firstResting_2 z (0 : Int32) from (B.wk (show B 0 0 (0 : Int32) from ⟨by decide, by decide⟩) (by decide))) hF) (fun x8 h1 => ?_)
  rcases x8 with x9 | x10
  · have h1 : B 0 5 x9.1 ∧ B (-2147483648) 2147483647 x9.2 := h1
    dsimp only
    exact T.some' (show B (-2147483648) 2147483647 ((10 * x9.1) + x9.2) from (B.any ((10 * x9.1) + x9.2)))
  · dsimp only
    exact T.some' (show B (-2147483648) 2147483647 (-1 : Int32) from (B.any (-1 : Int32)))
theorem t_Keeping_unionOf_4 {z : Zt} {F : Nat} {p0 : Int32} {g : Mem} {k1 : Int32} {s : Int32 × Int32} (hF : 4294967296 < F) (hp0 : B 0 2147483646 p0) (hk1 : B 0 2147483646 k1) (hIg : Inv z g) (hs : J_Keeping_unionOf_4 z s) : T (st_Keeping_unionOf_4 F p0 g k1 s) (LQ (J_Keeping_unionOf_4 z) (Q_Keeping_unionOf_4 z) (fun s => s.2) s.2) := by
  unfold st_Keeping_unionOf_4
  refine T.cond (fun c1 => ?_) (fun c1 => ?_)
  · exact T.some' (show B (-2147483648) 2147483647 s.1 from (B.any s.1))
  · have f2 : B 1 6 (g 15 0) := B.nlel c1 (hIg.monks RP15) hs.2 (by decide)
    have f3 : B 0 5 (s.2) := B.nler c1 (hIg.monks RP15) hs.2 (by decide)
    refine T.callB (t_Hall_hasBit ) (fun v2 h4 => ?_)
    refine T.cond (fun c5 => ?_) (fun c5 => ?_)
    · have f6 : B 0 0 (v2) := B.eql c5 h4 (show B 0 0 (0 : Int32) from ⟨by decide, by decide⟩) (by decide)
      have b7 : B 1 6 (s.2 + 1) := B.add f3 (show B 1 1 (1 : Int32) from ⟨by decide, by decide⟩) (by decide)
      exact T.some' (show J_Keeping_unionOf_4 z (s.1, s.2 + 1) ∧ s.2 + 1 = s.2 + 1 from ⟨⟨(B.any s.1), (B.wk b7 (by decide))⟩, rfl⟩)
    · have f8 : B 1 1 (v2) := B.nelo c5 h4 (show B 0 0 (0 : Int32) from ⟨by decide, by decide⟩) (by decide)
      refine T.rdU (B.ib f3 (by decide)) (fun v4 => ?_)
      have b9 : B 1 6 (s.2 + 1) := B.add f3 (show B 1 1 (1 : Int32) from ⟨by decide, by decide⟩) (by decide)
      exact T.some' (show J_Keeping_unionOf_4 z (s.1 ||| v4, s.2 + 1) ∧ s.2 + 1 = s.2 + 1 from ⟨⟨(B.any (s.1 ||| v4)), (B.wk b9 (by decide))⟩, rfl⟩)
theorem t_Keeping_unionOf {z : Zt} {F : Nat} {p0 : Int32} {g : Mem} (hF : 4294967296 < F) (hp0 : B 0 2147483646 p0) (hIg : Inv z g) : T (sp_Keeping_unionOf F p0 g) (fun r => B (-2147483648) 2147483647 r) := by
  unfold sp_Keeping_unionOf
  refine T.callB (T.lpc (J := J_Keeping_unionOf_4 z) (Q := Q_Keeping_unionOf_4 z) (fun s => s.2) 0 6 (by decide) (fun s h => h.2) (fun s h => t_Keeping_unionOf_4 hF hp0 hp0 hIg h) F _ (show J_Keeping_unionOf_4 z (0, 0) from ⟨(B.any (0 : Int32)), (B.wk (show B 0 0 (0 : Int32) from ⟨by decide, by decide⟩) (by decide))⟩) hF) (fun x5 h1 => ?_)
  have h1 : B (-2147483648) 2147483647 x5 := h1
  exact T.some' (show B (-2147483648) 2147483647 x5 from (B.any x5))
theorem t_Keeping_fewestWithAll_2 {z : Zt} {F : Nat} {g : Mem} {s : Int32 × Mem} (hF : 4294967296 < F) (hs : J_Keeping_fewestWithAll_2 z s) : T (st_Keeping_fewestWithAll_2 F g s) (LQ (J_Keeping_fewestWithAll_2 z) (Q_Keeping_fewestWithAll_2 z) (fun s => s.1) s.1) := by
  unfold st_Keeping_fewestWithAll_2
  refine T.cond (fun c1 => ?_) (fun c1 => ?_)
  · exact T.some' (show Inv z s.2 from hs.2)
  · have f2 : B 1 6 (s.2 15 0) := B.nlel c1 (hs.2.monks RP15) hs.1 (by decide)
    have f3 : B 0 5 (s.1) := B.nler c1 (hs.2.monks RP15) hs.1 (by decide)
    refine T.callB (t_Hair_recordsHeldBy hF HP23 f3 hs.2) (fun v2 h4 => ?_)
    refine T.wrI (I := fun m => Inv z m ∧ ∀ q, q ≠ 44 → m q = (s.2) q) (B.ib f3 (by decide)) ⟨hs.2.fra rfl, fun q hq => mset_rowF _ _ _ hq⟩ (fun g3 h5 => ?_)
    have k6 : B 1 6 (g3 15 0) := by rw [h5.2 15 (by decide)]; exact f2
    have b7 : B 1 6 (s.1 + 1) := B.add f3 (show B 1 1 (1 : Int32) from ⟨by decide, by decide⟩) (by decide)
    exact T.some' (show J_Keeping_fewestWithAll_2 z (s.1 + 1, g3) ∧ s.1 + 1 = s.1 + 1 from ⟨⟨(B.wk b7 (by decide)), h5.1⟩, rfl⟩)
theorem t_Keeping_fewestWithAll_58 {z : Zt} {F : Nat} {g : Mem} {k1 : Int32} {k2 : Int32} {m0 : Mem} {s : Int32 × Int32} (hF : 4294967296 < F) (hIm0 : Inv z m0) (hs : J_Keeping_fewestWithAll_58 z s) : T (st_Keeping_fewestWithAll_58 F g k1 k2 m0 s) (LQ (J_Keeping_fewestWithAll_58 z) (Q_Keeping_fewestWithAll_58 z) (fun s => s.2) s.2) := by
  unfold st_Keeping_fewestWithAll_58
  refine T.cond (fun c1 => ?_) (fun c1 => ?_)
  · exact T.some' (show B (-2147483648) 2147483647 s.1 from (B.any s.1))
  · have f2 : B 1 2147483647 (k2) := B.nlel c1 (B.any k2) hs.2 (by decide)
    have f3 : B 0 2147483646 (s.2) := B.nler c1 (B.any k2) hs.2 (by decide)
    refine T.callB (t_JInteger_bitCount ) (fun v7 h4 => ?_)
    refine T.callB (t_JInteger_bitCount ) (fun v8 h5 => ?_)
    refine T.cond (fun c6 => ?_) (fun c6 => ?_)
    · have b7 : B 1 2147483647 (s.2 + 1) := B.add f3 (show B 1 1 (1 : Int32) from ⟨by decide, by decide⟩) (by decide)
      exact T.some' (show J_Keeping_fewestWithAll_58 z (s.1, s.2 + 1) ∧ s.2 + 1 = s.2 + 1 from ⟨⟨(B.any s.1), (B.wk b7 (by decide))⟩, rfl⟩)
    · have f8 : B (-2147483647) 2147483647 (v8) := B.nlel c6 (B.any v8) (B.any v7) (by decide)
      have f9 : B (-2147483648) 2147483646 (v7) := B.nler c6 (B.any v8) (B.any v7) (by decide)
      refine T.callB (t_Keeping_unionOf hF f3 hIm0) (fun v10 h10 => ?_)
      refine T.cond (fun c11 => ?_) (fun c11 => ?_)
      · have b12 : B 1 2147483647 (s.2 + 1) := B.add f3 (show B 1 1 (1 : Int32) from ⟨by decide, by decide⟩) (by decide)
        exact T.some' (show J_Keeping_fewestWithAll_58 z (s.2, s.2 + 1) ∧ s.2 + 1 = s.2 + 1 from ⟨⟨(B.any s.2), (B.wk b12 (by decide))⟩, rfl⟩)
      · have b13 : B 1 2147483647 (s.2 + 1) := B.add f3 (show B 1 1 (1 : Int32) from ⟨by decide, by decide⟩) (by decide)
        exact T.some' (show J_Keeping_fewestWithAll_58 z (s.1, s.2 + 1) ∧ s.2 + 1 = s.2 + 1 from ⟨⟨(B.any s.1), (B.wk b13 (by decide))⟩, rfl⟩)
theorem t_Keeping_fewestWithAll {z : Zt} {F : Nat} {g : Mem} (hF : 4294967296 < F) (hIg : Inv z g) : T (sp_Keeping_fewestWithAll F g) (fun r => B (-2147483648) 2147483647 r.1 ∧ Inv z r.2) := by
  unfold sp_Keeping_fewestWithAll
  refine T.callB (T.lpc (J := J_Keeping_fewestWithAll_2 z) (Q := Q_Keeping_fewestWithAll_2 z) (fun s => s.1) 0 6 (by decide) (fun s h => h.1) (fun s h => t_Keeping_fewestWithAll_2 hF h) F _ (show J_Keeping_fewestWithAll_2 z (0, g) from ⟨(B.wk (show B 0 0 (0 : Int32) from ⟨by decide, by decide⟩) (by decide)), hIg⟩) hF) (fun x4 h1 => ?_)
  have h1 : Inv z x4 := h1
  refine T.callB (t_Hair_recordsThere hF HP23 h1) (fun v5 h2 => ?_)
  refine T.callB (T.lpc (J := J_Keeping_fewestWithAll_58 z) (Q := Q_Keeping_fewestWithAll_58 z) (fun s => s.2) 0 2147483647 (by decide) (fun s h => h.2) (fun s h => t_Keeping_fewestWithAll_58 hF h1 h) F _ (show J_Keeping_fewestWithAll_58 z ((1 <<< ((x4 15 0) &&& 31)) - 1, 0) from ⟨(B.any ((1 <<< ((x4 15 0) &&& 31)) - 1)), (B.wk (show B 0 0 (0 : Int32) from ⟨by decide, by decide⟩) (by decide))⟩) hF) (fun x12 h3 => ?_)
  have h3 : B (-2147483648) 2147483647 x12 := h3
  exact T.some' (show B (-2147483648) 2147483647 x12 ∧ Inv z x4 from ⟨(B.any x12), h1⟩)
theorem t_Keeping_heldByOne_12 {z : Zt} {F : Nat} {g : Mem} {k1 : Int32} {s : Int32 × Int32} (hF : 4294967296 < F) (hIg : Inv z g) (hs : J_Keeping_heldByOne_12 z s) : T (st_Keeping_heldByOne_12 F g k1 s) (LQ (J_Keeping_heldByOne_12 z) (Q_Keeping_heldByOne_12 z) (fun s => s.2) s.2) := by
  unfold st_Keeping_heldByOne_12
  refine T.cond (fun c1 => ?_) (fun c1 => ?_)
  · exact T.some' (show B (-2147483648) 2147483647 s.1 from (B.any s.1))
  · have f2 : B 1 24 (g 23 4) := B.nlel c1 (hIg.ents HP23) hs.2 (by decide)
    have f3 : B 0 23 (s.2) := B.nler c1 (hIg.ents HP23) hs.2 (by decide)
    refine T.callB (t_Hall_hasBit ) (fun v3 h4 => ?_)
    refine T.cond (fun c5 => ?_) (fun c5 => ?_)
    · have f6 : B 0 0 (v3) := B.eql c5 h4 (show B 0 0 (0 : Int32) from ⟨by decide, by decide⟩) (by decide)
      have b7 : B 1 24 (s.2 + 1) := B.add f3 (show B 1 1 (1 : Int32) from ⟨by decide, by decide⟩) (by decide)
      exact T.some' (show J_Keeping_heldByOne_12 z (s.1, s.2 + 1) ∧ s.2 + 1 = s.2 + 1 from ⟨⟨(B.any s.1), (B.wk b7 (by decide))⟩, rfl⟩)
    · have f8 : B 1 1 (v3) := B.nelo c5 h4 (show B 0 0 (0 : Int32) from ⟨by decide, by decide⟩) (by decide)
      refine T.callB (t_Hair_monksWith hF HP23 hIg) (fun v5 h9 => ?_)
      refine T.callB (t_JInteger_bitCount ) (fun v6 h10 => ?_)
      refine T.cond (fun c11 => ?_) (fun c11 => ?_)
      · have f12 : B 1 1 (v6) := B.eql c11 (B.any v6) (show B 1 1 (1 : Int32) from ⟨by decide, by decide⟩) (by decide)
        have b13 : B 1 24 (s.2 + 1) := B.add f3 (show B 1 1 (1 : Int32) from ⟨by decide, by decide⟩) (by decide)
        exact T.some' (show J_Keeping_heldByOne_12 z (s.1 + 1, s.2 + 1) ∧ s.2 + 1 = s.2 + 1 from ⟨⟨(B.any (s.1 + 1)), (B.wk b13 (by decide))⟩, rfl⟩)
      · have b14 : B 1 24 (s.2 + 1) := B.add f3 (show B 1 1 (1 : Int32) from ⟨by decide, by decide⟩) (by decide)
        exact T.some' (show J_Keeping_heldByOne_12 z (s.1, s.2 + 1) ∧ s.2 + 1 = s.2 + 1 from ⟨⟨(B.any s.1), (B.wk b14 (by decide))⟩, rfl⟩)
theorem t_Keeping_heldByOne {z : Zt} {F : Nat} {g : Mem} (hF : 4294967296 < F) (hIg : Inv z g) : T (sp_Keeping_heldByOne F g) (fun r => B (-2147483648) 2147483647 r) := by
  unfold sp_Keeping_heldByOne
  refine T.callB (t_Hair_recordsThere hF HP23 hIg) (fun v1 h1 => ?_)
  refine T.callB (T.lpc (J := J_Keeping_heldByOne_12 z) (Q := Q_Keeping_heldByOne_12 z) (fun s => s.2) 0 24 (by decide) (fun s h => h.2) (fun s h => t_Keeping_heldByOne_12 hF hIg h) F _ (show J_Keeping_heldByOne_12 z (0, 0) from ⟨(B.any (0 : Int32)), (B.wk (show B 0 0 (0 : Int32) from ⟨by decide, by decide⟩) (by decide))⟩) hF) (fun x8 h2 => ?_)
  have h2 : B (-2147483648) 2147483647 x8 := h2
  exact T.some' (show B (-2147483648) 2147483647 x8 from (B.any x8))
theorem t_Keeping_shavableOnes_4 {z : Zt} {F : Nat} {g : Mem} {s : Int32 × Int32 × Mem} (hF : 4294967296 < F) (hs : J_Keeping_shavableOnes_4 z s) : T (st_Keeping_shavableOnes_4 F g s) (LQ (J_Keeping_shavableOnes_4 z) (Q_Keeping_shavableOnes_4 z) (fun s => s.2.1) s.2.1) := by
  unfold st_Keeping_shavableOnes_4
  refine T.cond (fun c1 => ?_) (fun c1 => ?_)
  · exact T.some' (show B (-2147483648) 2147483647 s.1 ∧ Inv z s.2.2 from ⟨(B.any s.1), hs.2.2⟩)
  · have f2 : B 1 6 (s.2.2 15 0) := B.nlel c1 (hs.2.2.monks RP15) hs.2.1 (by decide)
    have f3 : B 0 5 (s.2.1) := B.nler c1 (hs.2.2.monks RP15) hs.2.1 (by decide)
    refine T.callB (t_Hair_beyond hF HP23 f3 hs.2.2) (fun v2 h4 => ?_)
    refine T.wrI (I := fun m => Inv z m ∧ ∀ q, q ≠ 44 → m q = (s.2.2) q) (B.ib f3 (by decide)) ⟨hs.2.2.fra rfl, fun q hq => mset_rowF _ _ _ hq⟩ (fun g3 h5 => ?_)
    have k6 : B 1 6 (g3 15 0) := by rw [h5.2 15 (by decide)]; exact f2
    refine T.rdU (B.ib f3 (by decide)) (fun v4 => ?_)
    refine T.cond (fun c7 => ?_) (fun c7 => ?_)
    · have f8 : B 3 3 (v4) := B.eql c7 (B.any v4) (show B 3 3 (3 : Int32) from ⟨by decide, by decide⟩) (by decide)
      have b9 : B 1 6 (s.2.1 + 1) := B.add f3 (show B 1 1 (1 : Int32) from ⟨by decide, by decide⟩) (by decide)
      exact T.some' (show J_Keeping_shavableOnes_4 z (s.1, s.2.1 + 1, g3) ∧ s.2.1 + 1 = s.2.1 + 1 from ⟨⟨(B.any s.1), (B.wk b9 (by decide)), h5.1⟩, rfl⟩)
    · have b10 : B 1 6 (s.2.1 + 1) := B.add f3 (show B 1 1 (1 : Int32) from ⟨by decide, by decide⟩) (by decide)
      exact T.some' (show J_Keeping_shavableOnes_4 z (s.1 ||| (1 <<< (s.2.1 &&& 31)), s.2.1 + 1, g3) ∧ s.2.1 + 1 = s.2.1 + 1 from ⟨⟨(B.any (s.1 ||| (1 <<< (s.2.1 &&& 31)))), (B.wk b10 (by decide)), h5.1⟩, rfl⟩)
