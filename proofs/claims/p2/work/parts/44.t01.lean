/-! a value comes out, and the memory stays well (by program: wip/p2gen) -/
theorem t_Keeping_shavableOnes {z : Zt} {F : Nat} {g : Mem} (hF : 4294967296 < F) (hIg : Inv z g) : T (sp_Keeping_shavableOnes F g) (fun r => B (-2147483648) 2147483647 r.1 ∧ Inv z r.2) := by
  unfold sp_Keeping_shavableOnes
  refine T.callB (T.lpc (J := J_Keeping_shavableOnes_4 z) (Q := Q_Keeping_shavableOnes_4 z) (fun s => s.2.1) 0 6 (by decide) (fun s h => h.2.1) (fun s h => t_Keeping_shavableOnes_4 hF h) F _ (show J_Keeping_shavableOnes_4 z (0, 0, g) from ⟨(B.any (0 : Int32)), (B.wk (show B 0 0 (0 : Int32) from ⟨by decide, by decide⟩) (by decide)), hIg⟩) hF) (fun x6 h1 => ?_)
  have h1 : B (-2147483648) 2147483647 x6.1 ∧ Inv z x6.2 := h1
  exact T.some' (show B (-2147483648) 2147483647 x6.1 ∧ Inv z x6.2 from ⟨(B.any x6.1), h1.2⟩)
theorem t_Keeping_worstToShave_23 {z : Zt} {F : Nat} {p0 : Int32} {g : Mem} {k2 : Int32} {k3 : Int32} {m0 : Mem} {s : Int32 × Int32 × Int32} (hF : 4294967296 < F) (hIm0 : Inv z m0) (hs : J_Keeping_worstToShave_23 z s) : T (st_Keeping_worstToShave_23 F p0 g k2 k3 m0 s) (LQ (J_Keeping_worstToShave_23 z) (Q_Keeping_worstToShave_23 z) (fun s => s.2.2) s.2.2) := by
  unfold st_Keeping_worstToShave_23
  refine T.cond (fun c1 => ?_) (fun c1 => ?_)
  · exact T.some' (show B 0 2147483647 s.1 from hs.1)
  · have f2 : B 0 2147483646 (s.2.2) := B.nler c1 (B.any (1 <<< ((m0 15 0) &&& 31))) hs.2.2 (by decide)
    refine T.cond (fun c3 => ?_) (fun c3 => ?_)
    · refine T.callB (t_JInteger_bitCount ) (fun v6 h4 => ?_)
      refine T.cond (fun c5 => ?_) (fun c5 => ?_)
      · refine T.callB (t_Keeping_unionOf hF f2 hIm0) (fun v8 h6 => ?_)
        refine T.callB (t_Hair_recordsLostBy hF HP23 hIm0) (fun v9 h7 => ?_)
        refine T.callB (t_JInteger_bitCount ) (fun v10 h8 => ?_)
        refine T.cond (fun c9 => ?_) (fun c9 => ?_)
        · have b10 : B 1 2147483647 (s.2.2 + 1) := B.add f2 (show B 1 1 (1 : Int32) from ⟨by decide, by decide⟩) (by decide)
          exact T.some' (show J_Keeping_worstToShave_23 z (s.1, s.2.1, s.2.2 + 1) ∧ s.2.2 + 1 = s.2.2 + 1 from ⟨⟨hs.1, hs.2.1, (B.wk b10 (by decide))⟩, rfl⟩)
        · have f11 : B 0 2147483647 (v10) := B.nlel c9 (B.any v10) hs.2.1 (by decide)
          have f12 : B (-1) 2147483646 (s.2.1) := B.nler c9 (B.any v10) hs.2.1 (by decide)
          have b13 : B 1 2147483647 (s.2.2 + 1) := B.add f2 (show B 1 1 (1 : Int32) from ⟨by decide, by decide⟩) (by decide)
          exact T.some' (show J_Keeping_worstToShave_23 z (s.2.2, v10, s.2.2 + 1) ∧ s.2.2 + 1 = s.2.2 + 1 from ⟨⟨(B.wk f2 (by decide)), (B.wk f11 (by decide)), (B.wk b13 (by decide))⟩, rfl⟩)
      · have b14 : B 1 2147483647 (s.2.2 + 1) := B.add f2 (show B 1 1 (1 : Int32) from ⟨by decide, by decide⟩) (by decide)
        exact T.some' (show J_Keeping_worstToShave_23 z (s.1, s.2.1, s.2.2 + 1) ∧ s.2.2 + 1 = s.2.2 + 1 from ⟨⟨hs.1, hs.2.1, (B.wk b14 (by decide))⟩, rfl⟩)
    · have b15 : B 1 2147483647 (s.2.2 + 1) := B.add f2 (show B 1 1 (1 : Int32) from ⟨by decide, by decide⟩) (by decide)
      exact T.some' (show J_Keeping_worstToShave_23 z (s.1, s.2.1, s.2.2 + 1) ∧ s.2.2 + 1 = s.2.2 + 1 from ⟨⟨hs.1, hs.2.1, (B.wk b15 (by decide))⟩, rfl⟩)
theorem t_Keeping_worstToShave {z : Zt} {F : Nat} {p0 : Int32} {g : Mem} (hF : 4294967296 < F) (hIg : Inv z g) : T (sp_Keeping_worstToShave F p0 g) (fun r => B (-2147483648) 2147483647 r.1 ∧ Inv z r.2) := by
  unfold sp_Keeping_worstToShave
  refine T.callB (t_Keeping_shavableOnes hF hIg) (fun v1 h1 => ?_)
  refine T.callB (t_JInteger_bitCount ) (fun v2 h2 => ?_)
  refine T.callB (t_JMath_min ) (fun v3 h3 => ?_)
  refine T.callB (T.lpc (J := J_Keeping_worstToShave_23 z) (Q := Q_Keeping_worstToShave_23 z) (fun s => s.2.2) 0 2147483647 (by decide) (fun s h => h.2.2) (fun s h => t_Keeping_worstToShave_23 hF h1.2 h) F _ (show J_Keeping_worstToShave_23 z (0, (-1), 0) from ⟨(B.wk (show B 0 0 (0 : Int32) from ⟨by decide, by decide⟩) (by decide)), (B.wk (show B (-1) (-1) (-1 : Int32) from ⟨by decide, by decide⟩) (by decide)), (B.wk (show B 0 0 (0 : Int32) from ⟨by decide, by decide⟩) (by decide))⟩) hF) (fun x12 h4 => ?_)
  have h4 : B 0 2147483647 x12 := h4
  exact T.some' (show B (-2147483648) 2147483647 x12 ∧ Inv z v1.2 from ⟨(B.any x12), h1.2⟩)
theorem t_Keeping_leastLength_12 {z : Zt} {F : Nat} {p0 : Int32} {g : Mem} {k1 : Int32} {k2 : Int32} {s : Int32} (hF : 4294967296 < F) (hp0 : B 0 5 p0) (hk1 : B 0 5 k1) (hIg : Inv z g) (hs : J_Keeping_leastLength_12 z s) : T (st_Keeping_leastLength_12 F p0 g k1 k2 s) (LQ (J_Keeping_leastLength_12 z) (Q_Keeping_leastLength_12 z) (fun s => s) s) := by
  unfold st_Keeping_leastLength_12
  refine T.cond (fun c1 => ?_) (fun c1 => ?_)
  · exact T.some' (show True from trivial)
  · have f2 : B 1 2147483647 (k2) := B.nlel c1 (B.any k2) hs (by decide)
    have f3 : B 0 2147483646 (s) := B.nler c1 (B.any k2) hs (by decide)
    refine T.callB (t_Hair_beyond hF HP23 hk1 hIg) (fun v3 h4 => ?_)
    refine T.callB (t_Hair_recordsLostBy hF HP23 hIg) (fun v4 h5 => ?_)
    refine T.cond (fun c6 => ?_) (fun c6 => ?_)
    · have f7 : B 0 0 (v4) := B.eql c6 (B.any v4) (show B 0 0 (0 : Int32) from ⟨by decide, by decide⟩) (by decide)
      exact T.some' (show B 0 2147483646 s from f3)
    · have b8 : B 1 2147483647 (s + 1) := B.add f3 (show B 1 1 (1 : Int32) from ⟨by decide, by decide⟩) (by decide)
      exact T.some' (show J_Keeping_leastLength_12 z (s + 1) ∧ s + 1 = s + 1 from ⟨(B.wk b8 (by decide)), rfl⟩)
theorem t_Keeping_leastLength {z : Zt} {F : Nat} {p0 : Int32} {g : Mem} (hF : 4294967296 < F) (hp0 : B 0 5 p0) (hIg : Inv z g) : T (sp_Keeping_leastLength F p0 g) (fun r => B (-2147483648) 2147483647 r) := by
  unfold sp_Keeping_leastLength
  refine T.rdU (B.ib hp0 (by decide)) (fun v1 => ?_)
  refine T.callB (T.lpc (J := J_Keeping_leastLength_12 z) (Q := Q_Keeping_leastLength_12 z) (fun s => s) 0 2147483647 (by decide) (fun s h => h) (fun s h => t_Keeping_leastLength_12 hF hp0 hp0 hIg h) F _ (show J_Keeping_leastLength_12 z (0 : Int32) from (B.wk (show B 0 0 (0 : Int32) from ⟨by decide, by decide⟩) (by decide))) hF) (fun x6 h1 => ?_)
  rcases x6 with x7 | x8
  · have h1 : B 0 2147483646 x7 := h1
    dsimp only
    exact T.some' (show B (-2147483648) 2147483647 x7 from (B.any x7))
  · dsimp only
    exact T.some' (show B (-2147483648) 2147483647 v1 from (B.any v1))
theorem t_Keeping_debtsEaten {z : Zt} {F : Nat} {p0 : Int32} {p1 : Int32} {p2 : Int32} {g : Mem} (hF : 4294967296 < F) (hp0 : B 0 5 p0) (hIg : Inv z g) : T (sp_Keeping_debtsEaten F p0 p1 p2 g) (fun r => B (-2147483648) 2147483647 r) := by
  unfold sp_Keeping_debtsEaten
  refine T.callB (t_Hair_eatable hF HP23 hp0 hIg) (fun v1 h1 => ?_)
  refine T.callB (t_Hair_recordsLostBy hF HP23 hIg) (fun v2 h2 => ?_)
  refine T.callB (t_Hair_valuesOf hF HP23 (B.wk (show B 1 1 (1 : Int32) from ⟨by decide, by decide⟩) (by decide)) hIg) (fun v3 h3 => ?_)
  exact T.some' (show B (-2147483648) 2147483647 v3 from (B.any v3))
theorem t_Keeping_bestForDebtors_8 {z : Zt} {F : Nat} {p0 : Int32} {p1 : Int32} {g : Mem} {k1 : Int32} {k2 : Int32} {s : Int32 × Int32 × Int32} (hF : 4294967296 < F) (hp0 : B 0 5 p0) (hk1 : B 0 5 k1) (hIg : Inv z g) (hs : J_Keeping_bestForDebtors_8 z s) : T (st_Keeping_bestForDebtors_8 F p0 p1 g k1 k2 s) (LQ (J_Keeping_bestForDebtors_8 z) (Q_Keeping_bestForDebtors_8 z) (fun s => s.2.2) s.2.2) := by
  unfold st_Keeping_bestForDebtors_8
  refine T.cond (fun c1 => ?_) (fun c1 => ?_)
  · have f2 : B 61 61 (s.2.2) := B.ltr c1 (show B 60 60 (60 : Int32) from ⟨by decide, by decide⟩) hs.2.2 (by decide)
    exact T.some' (show B 0 60 s.1 from hs.1)
  · have f3 : B 0 60 (s.2.2) := B.nltr c1 (show B 60 60 (60 : Int32) from ⟨by decide, by decide⟩) hs.2.2 (by decide)
    refine T.callB (t_Keeping_debtsEaten hF hk1 hIg) (fun v2 h4 => ?_)
    refine T.cond (fun c5 => ?_) (fun c5 => ?_)
    · have b6 : B 1 61 (s.2.2 + 1) := B.add f3 (show B 1 1 (1 : Int32) from ⟨by decide, by decide⟩) (by decide)
      exact T.some' (show J_Keeping_bestForDebtors_8 z (s.1, s.2.1, s.2.2 + 1) ∧ s.2.2 + 1 = s.2.2 + 1 from ⟨⟨hs.1, hs.2.1, (B.wk b6 (by decide))⟩, rfl⟩)
    · have f7 : B 0 2147483647 (v2) := B.nlel c5 (B.any v2) hs.2.1 (by decide)
      have f8 : B (-1) 2147483646 (s.2.1) := B.nler c5 (B.any v2) hs.2.1 (by decide)
      have b9 : B 1 61 (s.2.2 + 1) := B.add f3 (show B 1 1 (1 : Int32) from ⟨by decide, by decide⟩) (by decide)
      exact T.some' (show J_Keeping_bestForDebtors_8 z (s.2.2, v2, s.2.2 + 1) ∧ s.2.2 + 1 = s.2.2 + 1 from ⟨⟨f3, (B.wk f7 (by decide)), (B.wk b9 (by decide))⟩, rfl⟩)
theorem t_Keeping_bestForDebtors {z : Zt} {F : Nat} {p0 : Int32} {p1 : Int32} {g : Mem} (hF : 4294967296 < F) (hp0 : B 0 5 p0) (hIg : Inv z g) : T (sp_Keeping_bestForDebtors F p0 p1 g) (fun r => B (-2147483648) 2147483647 r) := by
  unfold sp_Keeping_bestForDebtors
  refine T.callB (T.lpc (J := J_Keeping_bestForDebtors_8 z) (Q := Q_Keeping_bestForDebtors_8 z) (fun s => s.2.2) 0 61 (by decide) (fun s h => h.2.2) (fun s h => t_Keeping_bestForDebtors_8 hF hp0 hp0 hIg h) F _ (show J_Keeping_bestForDebtors_8 z (0, (-1), 0) from ⟨(B.wk (show B 0 0 (0 : Int32) from ⟨by decide, by decide⟩) (by decide)), (B.wk (show B (-1) (-1) (-1 : Int32) from ⟨by decide, by decide⟩) (by decide)), (B.wk (show B 0 0 (0 : Int32) from ⟨by decide, by decide⟩) (by decide))⟩) hF) (fun x4 h1 => ?_)
  have h1 : B 0 60 x4 := h1
  exact T.some' (show B (-2147483648) 2147483647 x4 from (B.any x4))
theorem t_Keeping_dayOf_j30 {p0 : Int32} {g : Mem} {y0 : Int32} (hp0 : B 0 23 p0) : T (sp_Keeping_dayOf_j30 p0 g y0) (fun r => B (-2147483648) 6 r) := by
  unfold sp_Keeping_dayOf_j30
  refine T.cond (fun c1 => ?_) (fun c1 => ?_)
  · have f2 : B (-2147483648) 6 (y0) := B.lel c1 (B.any y0) (show B 6 6 (6 : Int32) from ⟨by decide, by decide⟩) (by decide)
    exact T.some' (show B (-2147483648) 6 y0 from f2)
  · have f3 : B 7 2147483647 (y0) := B.nlel c1 (B.any y0) (show B 6 6 (6 : Int32) from ⟨by decide, by decide⟩) (by decide)
    exact T.some' (show B (-2147483648) 6 (-1 : Int32) from (B.wk (show B (-1) (-1) (-1 : Int32) from ⟨by decide, by decide⟩) (by decide)))
theorem t_Keeping_dayOf {z : Zt} {p0 : Int32} {g : Mem} (hp0 : B 0 23 p0) (hIg : Inv z g) : T (sp_Keeping_dayOf p0 g) (fun r => B (-2147483648) 6 r) := by
  unfold sp_Keeping_dayOf
  refine T.cond (fun c1 => ?_) (fun c1 => ?_)
  · have f2 : B (-2147483648) 0 (g 15 3) := B.lel c1 (B.any (g 15 3)) (show B 0 0 (0 : Int32) from ⟨by decide, by decide⟩) (by decide)
    exact t_Keeping_dayOf_j30 hp0
  · have f3 : B 1 2147483647 (g 15 3) := B.nlel c1 (B.any (g 15 3)) (show B 0 0 (0 : Int32) from ⟨by decide, by decide⟩) (by decide)
    refine T.callB (t_Hair_breadths HP23 hp0 hIg) (fun v3 h4 => ?_)
    refine T.dvU (T.nz f3 (by decide)) (fun v4 => ?_)
    exact t_Keeping_dayOf_j30 hp0
theorem t_Keeping_readOn_15 {z : Zt} {F : Nat} {p0 : Int32} {p1 : Int32} {g : Mem} {k2 : Int32} {k3 : Int32} {s : Int32 × Int32} (hF : 4294967296 < F) (hp0 : B 0 5 p0) (hp1 : B (-1) 6 p1) (hk2 : B (-1) 6 k2) (hIg : Inv z g) (hs : J_Keeping_readOn_15 z s) : T (st_Keeping_readOn_15 F p0 p1 g k2 k3 s) (LQ (J_Keeping_readOn_15 z) (Q_Keeping_readOn_15 z) (fun s => s.2) s.2) := by
  unfold st_Keeping_readOn_15
  refine T.cond (fun c1 => ?_) (fun c1 => ?_)
  · exact T.some' (show B (-2147483648) 2147483647 s.1 from (B.any s.1))
  · have f2 : B 1 24 (g 23 4) := B.nlel c1 (hIg.ents HP23) hs.2 (by decide)
    have f3 : B 0 23 (s.2) := B.nler c1 (hIg.ents HP23) hs.2 (by decide)
    refine T.callB (t_Hall_hasBit ) (fun v3 h4 => ?_)
    refine T.cond (fun c5 => ?_) (fun c5 => ?_)
    · have f6 : B 0 0 (v3) := B.eql c5 h4 (show B 0 0 (0 : Int32) from ⟨by decide, by decide⟩) (by decide)
      have b7 : B 1 24 (s.2 + 1) := B.add f3 (show B 1 1 (1 : Int32) from ⟨by decide, by decide⟩) (by decide)
      exact T.some' (show J_Keeping_readOn_15 z (s.1, s.2 + 1) ∧ s.2 + 1 = s.2 + 1 from ⟨⟨(B.any s.1), (B.wk b7 (by decide))⟩, rfl⟩)
    · have f8 : B 1 1 (v3) := B.nelo c5 h4 (show B 0 0 (0 : Int32) from ⟨by decide, by decide⟩) (by decide)
      refine T.callB (t_Keeping_dayOf f3 hIg) (fun v5 h9 => ?_)
      refine T.cond (fun c10 => ?_) (fun c10 => ?_)
      · have f11 : B (-1) 6 (v5) := B.eql c10 h9 hk2 (by decide)
        have b12 : B 1 24 (s.2 + 1) := B.add f3 (show B 1 1 (1 : Int32) from ⟨by decide, by decide⟩) (by decide)
        exact T.some' (show J_Keeping_readOn_15 z (s.1 + 1, s.2 + 1) ∧ s.2 + 1 = s.2 + 1 from ⟨⟨(B.any (s.1 + 1)), (B.wk b12 (by decide))⟩, rfl⟩)
      · have b13 : B 1 24 (s.2 + 1) := B.add f3 (show B 1 1 (1 : Int32) from ⟨by decide, by decide⟩) (by decide)
        exact T.some' (show J_Keeping_readOn_15 z (s.1, s.2 + 1) ∧ s.2 + 1 = s.2 + 1 from ⟨⟨(B.any s.1), (B.wk b13 (by decide))⟩, rfl⟩)
theorem t_Keeping_readOn {z : Zt} {F : Nat} {p0 : Int32} {p1 : Int32} {g : Mem} (hF : 4294967296 < F) (hp0 : B 0 5 p0) (hp1 : B (-1) 6 p1) (hIg : Inv z g) : T (sp_Keeping_readOn F p0 p1 g) (fun r => B (-2147483648) 2147483647 r) := by
  unfold sp_Keeping_readOn
  refine T.callB (t_Hair_thereOf hF HP23 hp0 hIg) (fun v1 h1 => ?_)
  refine T.callB (T.lpc (J := J_Keeping_readOn_15 z) (Q := Q_Keeping_readOn_15 z) (fun s => s.2) 0 24 (by decide) (fun s h => h.2) (fun s h => t_Keeping_readOn_15 hF hp0 hp1 hp1 hIg h) F _ (show J_Keeping_readOn_15 z (0, 0) from ⟨(B.any (0 : Int32)), (B.wk (show B 0 0 (0 : Int32) from ⟨by decide, by decide⟩) (by decide))⟩) hF) (fun x7 h2 => ?_)
  have h2 : B (-2147483648) 2147483647 x7 := h2
  exact T.some' (show B (-2147483648) 2147483647 x7 from (B.any x7))
theorem t_Keeping_yearsLeft {z : Zt} {p0 : Int32} {g : Mem} (hp0 : B 0 23 p0) (hIg : Inv z g) : T (sp_Keeping_yearsLeft p0 g) (fun r => B (-2147483648) 2147483647 r) := by
  unfold sp_Keeping_yearsLeft
  refine T.callB (t_Roll_cell1 RP15 hp0 hIg) (fun v1 h1 => ?_)
  refine T.callB (t_Hair_isDead HP23 h1 hIg) (fun v2 h2 => ?_)
  refine T.cond (fun c3 => ?_) (fun c3 => ?_)
  · have f4 : B 0 0 (v2) := B.eql c3 h2 (show B 0 0 (0 : Int32) from ⟨by decide, by decide⟩) (by decide)
    refine T.callB (t_Roll_longest RP15 h1 hIg) (fun v4 h5 => ?_)
    refine T.callB (t_Hair_breadths HP23 hp0 hIg) (fun v5 h6 => ?_)
    exact T.some' (show B (-2147483648) 2147483647 (v4 - v5) from (B.any (v4 - v5)))
  · have f7 : B 1 1 (v2) := B.nelo c3 h2 (show B 0 0 (0 : Int32) from ⟨by decide, by decide⟩) (by decide)
    exact T.some' (show B (-2147483648) 2147483647 (-2 : Int32) from (B.any (-2 : Int32)))
theorem t_Keeping_lostWithin_4 {z : Zt} {F : Nat} {p0 : Int32} {g : Mem} {k1 : Int32} {s : Int32 × Int32} (hF : 4294967296 < F) (hIg : Inv z g) (hs : J_Keeping_lostWithin_4 z s) : T (st_Keeping_lostWithin_4 F p0 g k1 s) (LQ (J_Keeping_lostWithin_4 z) (Q_Keeping_lostWithin_4 z) (fun s => s.2) s.2) := by
  unfold st_Keeping_lostWithin_4
  refine T.cond (fun c1 => ?_) (fun c1 => ?_)
  · exact T.some' (show B (-2147483648) 2147483647 s.1 from (B.any s.1))
  · have f2 : B 1 24 (g 23 4) := B.nlel c1 (hIg.ents HP23) hs.2 (by decide)
    have f3 : B 0 23 (s.2) := B.nler c1 (hIg.ents HP23) hs.2 (by decide)
    refine T.callB (t_Keeping_yearsLeft f3 hIg) (fun v2 h4 => ?_)
    refine T.cond (fun c5 => ?_) (fun c5 => ?_)
    · have f6 : B (-2) (-2) (v2) := B.eql c5 (B.any v2) (show B (-2) (-2) (-2 : Int32) from ⟨by decide, by decide⟩) (by decide)
      have b7 : B 1 24 (s.2 + 1) := B.add f3 (show B 1 1 (1 : Int32) from ⟨by decide, by decide⟩) (by decide)
      exact T.some' (show J_Keeping_lostWithin_4 z (s.1, s.2 + 1) ∧ s.2 + 1 = s.2 + 1 from ⟨⟨(B.any s.1), (B.wk b7 (by decide))⟩, rfl⟩)
    · refine T.cond (fun c8 => ?_) (fun c8 => ?_)
      · have b9 : B 1 24 (s.2 + 1) := B.add f3 (show B 1 1 (1 : Int32) from ⟨by decide, by decide⟩) (by decide)
        exact T.some' (show J_Keeping_lostWithin_4 z (s.1, s.2 + 1) ∧ s.2 + 1 = s.2 + 1 from ⟨⟨(B.any s.1), (B.wk b9 (by decide))⟩, rfl⟩)
      · have f10 : B (-2147483647) 2147483647 (k1) := B.nlel c8 (B.any k1) (B.any v2) (by decide)
        have f11 : B (-2147483648) 2147483646 (v2) := B.nler c8 (B.any k1) (B.any v2) (by decide)
        have b12 : B 1 24 (s.2 + 1) := B.add f3 (show B 1 1 (1 : Int32) from ⟨by decide, by decide⟩) (by decide)
        exact T.some' (show J_Keeping_lostWithin_4 z (s.1 ||| (1 <<< (s.2 &&& 31)), s.2 + 1) ∧ s.2 + 1 = s.2 + 1 from ⟨⟨(B.any (s.1 ||| (1 <<< (s.2 &&& 31)))), (B.wk b12 (by decide))⟩, rfl⟩)
theorem t_Keeping_lostWithin {z : Zt} {F : Nat} {p0 : Int32} {g : Mem} (hF : 4294967296 < F) (hIg : Inv z g) : T (sp_Keeping_lostWithin F p0 g) (fun r => B (-2147483648) 2147483647 r) := by
  unfold sp_Keeping_lostWithin
  refine T.callB (T.lpc (J := J_Keeping_lostWithin_4 z) (Q := Q_Keeping_lostWithin_4 z) (fun s => s.2) 0 24 (by decide) (fun s h => h.2) (fun s h => t_Keeping_lostWithin_4 hF hIg h) F _ (show J_Keeping_lostWithin_4 z (0, 0) from ⟨(B.any (0 : Int32)), (B.wk (show B 0 0 (0 : Int32) from ⟨by decide, by decide⟩) (by decide))⟩) hF) (fun x5 h1 => ?_)
  have h1 : B (-2147483648) 2147483647 x5 := h1
  refine T.callB (t_Hair_recordsLostBy hF HP23 hIg) (fun v6 h2 => ?_)
  refine T.callB (t_JInteger_bitCount ) (fun v7 h3 => ?_)
  exact T.some' (show B (-2147483648) 2147483647 v7 from (B.any v7))
theorem t_Keeping_bestForBraiding_4 {z : Zt} {F : Nat} {g : Mem} {s : Int32 × Int32} (hF : 4294967296 < F) (hIg : Inv z g) (hs : J_Keeping_bestForBraiding_4 z s) : T (st_Keeping_bestForBraiding_4 F g s) (LQ (J_Keeping_bestForBraiding_4 z) (Q_Keeping_bestForBraiding_4 z) (fun s => s.2) s.2) := by
  unfold st_Keeping_bestForBraiding_4
  refine T.cond (fun c1 => ?_) (fun c1 => ?_)
  · exact T.some' (show B (-1) 5 s.1 from hs.1)
  · have f2 : B 1 6 (g 15 0) := B.nlel c1 (hIg.monks RP15) hs.2 (by decide)
    have f3 : B 0 5 (s.2) := B.nler c1 (hIg.monks RP15) hs.2 (by decide)
    refine T.callB (t_Hair_isDead HP23 f3 hIg) (fun v2 h4 => ?_)
    refine T.cond (fun c5 => ?_) (fun c5 => ?_)
    · have f6 : B 0 0 (v2) := B.eql c5 h4 (show B 0 0 (0 : Int32) from ⟨by decide, by decide⟩) (by decide)
      refine T.cond (fun c7 => ?_) (fun c7 => ?_)
      · have f8 : B (-1) (-1) (s.1) := B.eql c7 hs.1 (show B (-1) (-1) (-1 : Int32) from ⟨by decide, by decide⟩) (by decide)
        have b9 : B 1 6 (s.2 + 1) := B.add f3 (show B 1 1 (1 : Int32) from ⟨by decide, by decide⟩) (by decide)
        exact T.some' (show J_Keeping_bestForBraiding_4 z (s.2, s.2 + 1) ∧ s.2 + 1 = s.2 + 1 from ⟨⟨(B.wk f3 (by decide)), (B.wk b9 (by decide))⟩, rfl⟩)
      · have f10 : B 0 5 (s.1) := B.nelo c7 hs.1 (show B (-1) (-1) (-1 : Int32) from ⟨by decide, by decide⟩) (by decide)
        refine T.callB (t_Roll_longest RP15 f3 hIg) (fun v5 h11 => ?_)
        refine T.callB (t_Roll_longest RP15 f10 hIg) (fun v6 h12 => ?_)
        refine T.cond (fun c13 => ?_) (fun c13 => ?_)
        · have b14 : B 1 6 (s.2 + 1) := B.add f3 (show B 1 1 (1 : Int32) from ⟨by decide, by decide⟩) (by decide)
          exact T.some' (show J_Keeping_bestForBraiding_4 z (s.1, s.2 + 1) ∧ s.2 + 1 = s.2 + 1 from ⟨⟨(B.wk f10 (by decide)), (B.wk b14 (by decide))⟩, rfl⟩)
        · have f15 : B (-2147483647) 2147483647 (v5) := B.nlel c13 (B.any v5) (B.any v6) (by decide)
          have f16 : B (-2147483648) 2147483646 (v6) := B.nler c13 (B.any v5) (B.any v6) (by decide)
          have b17 : B 1 6 (s.2 + 1) := B.add f3 (show B 1 1 (1 : Int32) from ⟨by decide, by decide⟩) (by decide)
          exact T.some' (show J_Keeping_bestForBraiding_4 z (s.2, s.2 + 1) ∧ s.2 + 1 = s.2 + 1 from ⟨⟨(B.wk f3 (by decide)), (B.wk b17 (by decide))⟩, rfl⟩)
    · have f18 : B 1 1 (v2) := B.nelo c5 h4 (show B 0 0 (0 : Int32) from ⟨by decide, by decide⟩) (by decide)
      have b19 : B 1 6 (s.2 + 1) := B.add f3 (show B 1 1 (1 : Int32) from ⟨by decide, by decide⟩) (by decide)
      exact T.some' (show J_Keeping_bestForBraiding_4 z (s.1, s.2 + 1) ∧ s.2 + 1 = s.2 + 1 from ⟨⟨hs.1, (B.wk b19 (by decide))⟩, rfl⟩)
theorem t_Keeping_bestForBraiding {z : Zt} {F : Nat} {g : Mem} (hF : 4294967296 < F) (hIg : Inv z g) : T (sp_Keeping_bestForBraiding F g) (fun r => B (-2147483648) 2147483647 r) := by
  unfold sp_Keeping_bestForBraiding
  refine T.callB (T.lpc (J := J_Keeping_bestForBraiding_4 z) (Q := Q_Keeping_bestForBraiding_4 z) (fun s => s.2) 0 6 (by decide) (fun s h => h.2) (fun s h => t_Keeping_bestForBraiding_4 hF hIg h) F _ (show J_Keeping_bestForBraiding_4 z ((-1), 0) from ⟨(B.wk (show B (-1) (-1) (-1 : Int32) from ⟨by decide, by decide⟩) (by decide)), (B.wk (show B 0 0 (0 : Int32) from ⟨by decide, by decide⟩) (by decide))⟩) hF) (fun x8 h1 => ?_)
  have h1 : B (-1) 5 x8 := h1
  exact T.some' (show B (-2147483648) 2147483647 x8 from (B.any x8))
theorem t_Keeping_mostAlike_17 {z : Zt} {F : Nat} {p0 : Int32} {g : Mem} {k1 : Int32} {k2 : Int32} {s : Int32 × Int32 × Int32} (hF : 4294967296 < F) (hp0 : B 0 5 p0) (hk1 : B 0 5 k1) (hIg : Inv z g) (hs : J_Keeping_mostAlike_17 z s) : T (st_Keeping_mostAlike_17 F p0 g k1 k2 s) (LQ (J_Keeping_mostAlike_17 z) (Q_Keeping_mostAlike_17 z) (fun s => s.2.2) s.2.2) := by
  unfold st_Keeping_mostAlike_17
  refine T.cond (fun c1 => ?_) (fun c1 => ?_)
  · exact T.some' (show B (-1) 5 s.1 from hs.1)
  · have f2 : B 1 6 (g 15 0) := B.nlel c1 (hIg.monks RP15) hs.2.2 (by decide)
    have f3 : B 0 5 (s.2.2) := B.nler c1 (hIg.monks RP15) hs.2.2 (by decide)
    refine T.callB (t_Hair_recordsHeldBy hF HP23 f3 hIg) (fun v3 h4 => ?_)
    refine T.callB (t_JInteger_bitCount ) (fun v4 h5 => ?_)
    refine T.cond (fun c6 => ?_) (fun c6 => ?_)
    · have b7 : B 1 6 (s.2.2 + 1) := B.add f3 (show B 1 1 (1 : Int32) from ⟨by decide, by decide⟩) (by decide)
      exact T.some' (show J_Keeping_mostAlike_17 z (s.1, s.2.1, s.2.2 + 1) ∧ s.2.2 + 1 = s.2.2 + 1 from ⟨⟨hs.1, hs.2.1, (B.wk b7 (by decide))⟩, rfl⟩)
    · refine T.callB (t_Hair_isDead HP23 f3 hIg) (fun v6 h8 => ?_)
      refine T.cond (fun c9 => ?_) (fun c9 => ?_)
      · have f10 : B 0 0 (v6) := B.eql c9 h8 (show B 0 0 (0 : Int32) from ⟨by decide, by decide⟩) (by decide)
        refine T.cond (fun c11 => ?_) (fun c11 => ?_)
        · have b12 : B 1 6 (s.2.2 + 1) := B.add f3 (show B 1 1 (1 : Int32) from ⟨by decide, by decide⟩) (by decide)
          exact T.some' (show J_Keeping_mostAlike_17 z (s.1, s.2.1, s.2.2 + 1) ∧ s.2.2 + 1 = s.2.2 + 1 from ⟨⟨hs.1, hs.2.1, (B.wk b12 (by decide))⟩, rfl⟩)
        · have f13 : B 0 2147483647 (v4) := B.nlel c11 (B.any v4) hs.2.1 (by decide)
          have f14 : B (-1) 2147483646 (s.2.1) := B.nler c11 (B.any v4) hs.2.1 (by decide)
          have b15 : B 1 6 (s.2.2 + 1) := B.add f3 (show B 1 1 (1 : Int32) from ⟨by decide, by decide⟩) (by decide)
          exact T.some' (show J_Keeping_mostAlike_17 z (s.2.2, v4, s.2.2 + 1) ∧ s.2.2 + 1 = s.2.2 + 1 from ⟨⟨(B.wk f3 (by decide)), (B.wk f13 (by decide)), (B.wk b15 (by decide))⟩, rfl⟩)
      · have f16 : B 1 1 (v6) := B.nelo c9 h8 (show B 0 0 (0 : Int32) from ⟨by decide, by decide⟩) (by decide)
        have b17 : B 1 6 (s.2.2 + 1) := B.add f3 (show B 1 1 (1 : Int32) from ⟨by decide, by decide⟩) (by decide)
        exact T.some' (show J_Keeping_mostAlike_17 z (s.1, s.2.1, s.2.2 + 1) ∧ s.2.2 + 1 = s.2.2 + 1 from ⟨⟨hs.1, hs.2.1, (B.wk b17 (by decide))⟩, rfl⟩)
theorem t_Keeping_mostAlike {z : Zt} {F : Nat} {p0 : Int32} {g : Mem} (hF : 4294967296 < F) (hp0 : B 0 5 p0) (hIg : Inv z g) : T (sp_Keeping_mostAlike F p0 g) (fun r => B (-2147483648) 2147483647 r) := by
  unfold sp_Keeping_mostAlike
  refine T.callB (t_Hair_recordsHeldBy hF HP23 hp0 hIg) (fun v1 h1 => ?_)
  refine T.callB (T.lpc (J := J_Keeping_mostAlike_17 z) (Q := Q_Keeping_mostAlike_17 z) (fun s => s.2.2) 0 6 (by decide) (fun s h => h.2.2) (fun s h => t_Keeping_mostAlike_17 hF hp0 hp0 hIg h) F _ (show J_Keeping_mostAlike_17 z ((-1), (-1), 0) from ⟨(B.wk (show B (-1) (-1) (-1 : Int32) from ⟨by decide, by decide⟩) (by decide)), (B.wk (show B (-1) (-1) (-1 : Int32) from ⟨by decide, by decide⟩) (by decide)), (B.wk (show B 0 0 (0 : Int32) from ⟨by decide, by decide⟩) (by decide))⟩) hF) (fun x9 h2 => ?_)
  have h2 : B (-1) 5 x9 := h2
  exact T.some' (show B (-2147483648) 2147483647 x9 from (B.any x9))
theorem t_Keeping_audit_14 {z : Zt} {F : Nat} {p0 : Int32} {g : Mem} {k2 : Int32} {s : Int32 × Int32} (hF : 4294967296 < F) (hp0 : B 0 5 p0) (hIg : Inv z g) (hs : J_Keeping_audit_14 z s) : T (st_Keeping_audit_14 F p0 g k2 s) (LQ (J_Keeping_audit_14 z) (Q_Keeping_audit_14 z) (fun s => s.2) s.2) := by
  unfold st_Keeping_audit_14
  refine T.cond (fun c1 => ?_) (fun c1 => ?_)
  · exact T.some' (show B (-2147483648) 2147483647 s.1 from (B.any s.1))
  · have f2 : B 1 24 (g 23 4) := B.nlel c1 (hIg.ents HP23) hs.2 (by decide)
    have f3 : B 0 23 (s.2) := B.nler c1 (hIg.ents HP23) hs.2 (by decide)
    refine T.callB (t_Hall_hasBit ) (fun v3 h4 => ?_)
    refine T.cond (fun c5 => ?_) (fun c5 => ?_)
    · have f6 : B 0 0 (v3) := B.eql c5 h4 (show B 0 0 (0 : Int32) from ⟨by decide, by decide⟩) (by decide)
      have b7 : B 1 24 (s.2 + 1) := B.add f3 (show B 1 1 (1 : Int32) from ⟨by decide, by decide⟩) (by decide)
      exact T.some' (show J_Keeping_audit_14 z (s.1, s.2 + 1) ∧ s.2 + 1 = s.2 + 1 from ⟨⟨(B.any s.1), (B.wk b7 (by decide))⟩, rfl⟩)
    · have f8 : B 1 1 (v3) := B.nelo c5 h4 (show B 0 0 (0 : Int32) from ⟨by decide, by decide⟩) (by decide)
      refine T.callB (t_Roll_cell RP15 f3 (B.wk (show B 4 4 (4 : Int32) from ⟨by decide, by decide⟩) (by decide)) hIg) (fun v5 h9 => ?_)
      refine T.callB (t_Hair_breadths HP23 f3 hIg) (fun v6 h10 => ?_)
      have b11 : B 1 24 (s.2 + 1) := B.add f3 (show B 1 1 (1 : Int32) from ⟨by decide, by decide⟩) (by decide)
      exact T.some' (show J_Keeping_audit_14 z (s.1 + (v5 * (v6 + 1)), s.2 + 1) ∧ s.2 + 1 = s.2 + 1 from ⟨⟨(B.any (s.1 + (v5 * (v6 + 1)))), (B.wk b11 (by decide))⟩, rfl⟩)
theorem t_Keeping_audit {z : Zt} {F : Nat} {p0 : Int32} {g : Mem} (hF : 4294967296 < F) (hp0 : B 0 5 p0) (hIg : Inv z g) : T (sp_Keeping_audit F p0 g) (fun r => B (-2147483648) 2147483647 r) := by
  unfold sp_Keeping_audit
  refine T.callB (t_Hair_thereOf hF HP23 hp0 hIg) (fun v1 h1 => ?_)
  refine T.callB (T.lpc (J := J_Keeping_audit_14 z) (Q := Q_Keeping_audit_14 z) (fun s => s.2) 0 24 (by decide) (fun s h => h.2) (fun s h => t_Keeping_audit_14 hF hp0 hIg h) F _ (show J_Keeping_audit_14 z (0, 0) from ⟨(B.any (0 : Int32)), (B.wk (show B 0 0 (0 : Int32) from ⟨by decide, by decide⟩) (by decide))⟩) hF) (fun x7 h2 => ?_)
  have h2 : B (-2147483648) 2147483647 x7 := h2
  refine T.rmU (T.nz (show B 97 97 (97 : Int32) from ⟨by decide, by decide⟩) (by decide)) (fun v8 => ?_)
  exact T.some' (show B (-2147483648) 2147483647 v8 from (B.any v8))
theorem t_Laws_isThereOf {z : Zt} {lw : Nat} {ha : Nat} {ro : Nat} {p0 : Int32} {p1 : Int32} {p2 : Int32} {g : Mem} (hlw : LWP lw ha ro) (hp0 : B 0 23 p0) (hIg : Inv z g) : T (sp_Laws_isThereOf lw ha ro p0 p1 p2 g) (fun r => B 0 1 r) := by
  unfold sp_Laws_isThereOf
  refine T.callB (t_Hair_isThere hlw.h hp0 hIg) (fun v1 h1 => ?_)
  refine T.cond (fun c2 => ?_) (fun c2 => ?_)
  · have f3 : B 0 0 (v1) := B.eql c2 h1 (show B 0 0 (0 : Int32) from ⟨by decide, by decide⟩) (by decide)
    exact T.some' (show B 0 1 (0 : Int32) from (B.wk (show B 0 0 (0 : Int32) from ⟨by decide, by decide⟩) (by decide)))
  · have f4 : B 1 1 (v1) := B.nelo c2 h1 (show B 0 0 (0 : Int32) from ⟨by decide, by decide⟩) (by decide)
    refine T.callB (t_Roll_cell hlw.h.r hp0 (B.wk (show B 0 0 (0 : Int32) from ⟨by decide, by decide⟩) (by decide)) hIg) (fun v3 h5 => ?_)
    refine T.cond (fun c6 => ?_) (fun c6 => ?_)
    · refine T.callB (t_Roll_cell hlw.h.r hp0 (B.wk (show B 3 3 (3 : Int32) from ⟨by decide, by decide⟩) (by decide)) hIg) (fun v5 h7 => ?_)
      refine T.cond (fun c8 => ?_) (fun c8 => ?_)
      · exact T.some' (show B 0 1 (1 : Int32) from (B.wk (show B 1 1 (1 : Int32) from ⟨by decide, by decide⟩) (by decide)))
      · exact T.some' (show B 0 1 (0 : Int32) from (B.wk (show B 0 0 (0 : Int32) from ⟨by decide, by decide⟩) (by decide)))
    · exact T.some' (show B 0 1 (0 : Int32) from (B.wk (show B 0 0 (0 : Int32) from ⟨by decide, by decide⟩) (by decide)))
theorem t_Laws_standing_7 {z : Zt} {F : Nat} {lw : Nat} {ha : Nat} {ro : Nat} {p0 : Int32} {g : Mem} {k1 : Int32} {s : Int32 × Int32 × Int32} (hF : 4294967296 < F) (hlw : LWP lw ha ro) (hIg : Inv z g) (hs : J_Laws_standing_7 z s) : T (st_Laws_standing_7 F lw ha ro p0 g k1 s) (LQ (J_Laws_standing_7 z) (Q_Laws_standing_7 z) (fun s => s.2.2) s.2.2) := by
  unfold st_Laws_standing_7
  refine T.cond (fun c1 => ?_) (fun c1 => ?_)
  · exact T.some' (show B (-2147483648) 2147483647 s.2.1 from (B.any s.2.1))
  · have f2 : B 1 24 (g ha 4) := B.nlel c1 (hIg.ents hlw.h) hs.2.2 (by decide)
    have f3 : B 0 23 (s.2.2) := B.nler c1 (hIg.ents hlw.h) hs.2.2 (by decide)
    refine T.callB (t_Laws_isThereOf hlw f3 hIg) (fun v2 h4 => ?_)
    refine T.cond (fun c5 => ?_) (fun c5 => ?_)
    · have f6 : B 0 0 (v2) := B.eql c5 h4 (show B 0 0 (0 : Int32) from ⟨by decide, by decide⟩) (by decide)
      have b7 : B 1 24 (s.2.2 + 1) := B.add f3 (show B 1 1 (1 : Int32) from ⟨by decide, by decide⟩) (by decide)
      exact T.some' (show J_Laws_standing_7 z (s.1, s.2.1, s.2.2 + 1) ∧ s.2.2 + 1 = s.2.2 + 1 from ⟨⟨hs.1, (B.any s.2.1), (B.wk b7 (by decide))⟩, rfl⟩)
    · have f8 : B 1 1 (v2) := B.nelo c5 h4 (show B 0 0 (0 : Int32) from ⟨by decide, by decide⟩) (by decide)
      refine T.callB (t_Roll_cell hlw.h.r f3 (B.wk (show B 4 4 (4 : Int32) from ⟨by decide, by decide⟩) (by decide)) hIg) (fun v4 h9 => ?_)
      refine T.callB (t_Roll_cell hlw.h.r f3 (B.wk (show B 2 2 (2 : Int32) from ⟨by decide, by decide⟩) (by decide)) hIg) (fun v5 h10 => ?_)
      refine T.cond (fun c11 => ?_) (fun c11 => ?_)
      · have f12 : B (-1) (-1) (s.1) := B.eql c11 hs.1 (show B (-1) (-1) (-1 : Int32) from ⟨by decide, by decide⟩) (by decide)
        have b13 : B 1 24 (s.2.2 + 1) := B.add f3 (show B 1 1 (1 : Int32) from ⟨by decide, by decide⟩) (by decide)
        exact T.some' (show J_Laws_standing_7 z (s.2.2, v4, s.2.2 + 1) ∧ s.2.2 + 1 = s.2.2 + 1 from ⟨⟨(B.wk f3 (by decide)), (B.any v4), (B.wk b13 (by decide))⟩, rfl⟩)
      · have f14 : B 0 23 (s.1) := B.nelo c11 hs.1 (show B (-1) (-1) (-1 : Int32) from ⟨by decide, by decide⟩) (by decide)
        refine T.callB (t_Roll_cell hlw.h.r f14 (B.wk (show B 2 2 (2 : Int32) from ⟨by decide, by decide⟩) (by decide)) hIg) (fun v7 h15 => ?_)
        refine T.cond (fun c16 => ?_) (fun c16 => ?_)
        · refine T.callB (t_Roll_cell hlw.h.r f14 (B.wk (show B 2 2 (2 : Int32) from ⟨by decide, by decide⟩) (by decide)) hIg) (fun v9 h17 => ?_)
          refine T.cond (fun c18 => ?_) (fun c18 => ?_)
          · refine T.callB (t_Roll_cell hlw.h.r f14 (B.wk (show B 4 4 (4 : Int32) from ⟨by decide, by decide⟩) (by decide)) hIg) (fun v11 h19 => ?_)
            refine T.cond (fun c20 => ?_) (fun c20 => ?_)
            · have b21 : B 1 24 (s.2.2 + 1) := B.add f3 (show B 1 1 (1 : Int32) from ⟨by decide, by decide⟩) (by decide)
              exact T.some' (show J_Laws_standing_7 z (s.1, s.2.1, s.2.2 + 1) ∧ s.2.2 + 1 = s.2.2 + 1 from ⟨⟨(B.wk f14 (by decide)), (B.any s.2.1), (B.wk b21 (by decide))⟩, rfl⟩)
            · have b22 : B 1 24 (s.2.2 + 1) := B.add f3 (show B 1 1 (1 : Int32) from ⟨by decide, by decide⟩) (by decide)
              exact T.some' (show J_Laws_standing_7 z (s.1, (-2), s.2.2 + 1) ∧ s.2.2 + 1 = s.2.2 + 1 from ⟨⟨(B.wk f14 (by decide)), (B.any (-2 : Int32)), (B.wk b22 (by decide))⟩, rfl⟩)
          · have b23 : B 1 24 (s.2.2 + 1) := B.add f3 (show B 1 1 (1 : Int32) from ⟨by decide, by decide⟩) (by decide)
            exact T.some' (show J_Laws_standing_7 z (s.1, s.2.1, s.2.2 + 1) ∧ s.2.2 + 1 = s.2.2 + 1 from ⟨⟨(B.wk f14 (by decide)), (B.any s.2.1), (B.wk b23 (by decide))⟩, rfl⟩)
        · have f24 : B (-2147483647) 2147483647 (v5) := B.nlel c16 (B.any v5) (B.any v7) (by decide)
          have f25 : B (-2147483648) 2147483646 (v7) := B.nler c16 (B.any v5) (B.any v7) (by decide)
          have b26 : B 1 24 (s.2.2 + 1) := B.add f3 (show B 1 1 (1 : Int32) from ⟨by decide, by decide⟩) (by decide)
          exact T.some' (show J_Laws_standing_7 z (s.2.2, v4, s.2.2 + 1) ∧ s.2.2 + 1 = s.2.2 + 1 from ⟨⟨(B.wk f3 (by decide)), (B.any v4), (B.wk b26 (by decide))⟩, rfl⟩)
theorem t_Laws_standing {z : Zt} {F : Nat} {lw : Nat} {ha : Nat} {ro : Nat} {p0 : Int32} {g : Mem} (hF : 4294967296 < F) (hlw : LWP lw ha ro) (hIg : Inv z g) : T (sp_Laws_standing F lw ha ro p0 g) (fun r => B (-2147483648) 2147483647 r) := by
  unfold sp_Laws_standing
  refine T.callB (T.lpc (J := J_Laws_standing_7 z) (Q := Q_Laws_standing_7 z) (fun s => s.2.2) 0 24 (by decide) (fun s h => h.2.2) (fun s h => t_Laws_standing_7 hF hlw hIg h) F _ (show J_Laws_standing_7 z ((-1), (-1), 0) from ⟨(B.wk (show B (-1) (-1) (-1 : Int32) from ⟨by decide, by decide⟩) (by decide)), (B.any (-1 : Int32)), (B.wk (show B 0 0 (0 : Int32) from ⟨by decide, by decide⟩) (by decide))⟩) hF) (fun x13 h1 => ?_)
  have h1 : B (-2147483648) 2147483647 x13 := h1
  exact T.some' (show B (-2147483648) 2147483647 x13 from (B.any x13))
theorem t_Laws_differ {z : Zt} {lw : Nat} {ha : Nat} {ro : Nat} {p0 : Int32} {p1 : Int32} {g : Mem} (hlw : LWP lw ha ro) (hp0 : B 0 23 p0) (hp1 : B 0 23 p1) (hIg : Inv z g) : T (sp_Laws_differ lw ha ro p0 p1 g) (fun r => B 0 1 r) := by
  unfold sp_Laws_differ
  refine T.callB (t_Roll_cell hlw.h.r hp0 (B.wk (show B 0 0 (0 : Int32) from ⟨by decide, by decide⟩) (by decide)) hIg) (fun v1 h1 => ?_)
  refine T.cond (fun c2 => ?_) (fun c2 => ?_)
  · have f3 : B 0 0 (v1) := B.eql c2 (B.any v1) (show B 0 0 (0 : Int32) from ⟨by decide, by decide⟩) (by decide)
    refine T.callB (t_Roll_cell hlw.h.r hp1 (B.wk (show B 0 0 (0 : Int32) from ⟨by decide, by decide⟩) (by decide)) hIg) (fun v3 h4 => ?_)
    refine T.cond (fun c5 => ?_) (fun c5 => ?_)
    · have f6 : B 0 0 (v3) := B.eql c5 (B.any v3) (show B 0 0 (0 : Int32) from ⟨by decide, by decide⟩) (by decide)
      refine T.callB (t_Roll_cell hlw.h.r hp0 (B.wk (show B 3 3 (3 : Int32) from ⟨by decide, by decide⟩) (by decide)) hIg) (fun v5 h7 => ?_)
      refine T.callB (t_Roll_cell hlw.h.r hp1 (B.wk (show B 3 3 (3 : Int32) from ⟨by decide, by decide⟩) (by decide)) hIg) (fun v6 h8 => ?_)
      refine T.cond (fun c9 => ?_) (fun c9 => ?_)
      · refine T.callB (t_Roll_cell hlw.h.r hp0 (B.wk (show B 2 2 (2 : Int32) from ⟨by decide, by decide⟩) (by decide)) hIg) (fun v8 h10 => ?_)
        refine T.callB (t_Roll_cell hlw.h.r hp1 (B.wk (show B 2 2 (2 : Int32) from ⟨by decide, by decide⟩) (by decide)) hIg) (fun v9 h11 => ?_)
        refine T.cond (fun c12 => ?_) (fun c12 => ?_)
        · refine T.callB (t_Roll_cell hlw.h.r hp0 (B.wk (show B 4 4 (4 : Int32) from ⟨by decide, by decide⟩) (by decide)) hIg) (fun v11 h13 => ?_)
          refine T.callB (t_Roll_cell hlw.h.r hp1 (B.wk (show B 4 4 (4 : Int32) from ⟨by decide, by decide⟩) (by decide)) hIg) (fun v12 h14 => ?_)
          refine T.cond (fun c15 => ?_) (fun c15 => ?_)
          · exact T.some' (show B 0 1 (0 : Int32) from (B.wk (show B 0 0 (0 : Int32) from ⟨by decide, by decide⟩) (by decide)))
          · exact T.some' (show B 0 1 (1 : Int32) from (B.wk (show B 1 1 (1 : Int32) from ⟨by decide, by decide⟩) (by decide)))
        · exact T.some' (show B 0 1 (0 : Int32) from (B.wk (show B 0 0 (0 : Int32) from ⟨by decide, by decide⟩) (by decide)))
      · exact T.some' (show B 0 1 (0 : Int32) from (B.wk (show B 0 0 (0 : Int32) from ⟨by decide, by decide⟩) (by decide)))
    · exact T.some' (show B 0 1 (0 : Int32) from (B.wk (show B 0 0 (0 : Int32) from ⟨by decide, by decide⟩) (by decide)))
  · exact T.some' (show B 0 1 (0 : Int32) from (B.wk (show B 0 0 (0 : Int32) from ⟨by decide, by decide⟩) (by decide)))
theorem t_Laws_areRivals_37 {z : Zt} {F : Nat} {lw : Nat} {ha : Nat} {ro : Nat} {p0 : Int32} {p1 : Int32} {g : Mem} {k3 : Int32} {k4 : Int32} {k5 : Int32} {s : Int32} (hF : 4294967296 < F) (hlw : LWP lw ha ro) (hp0 : B 0 5 p0) (hp1 : B 1 5 p1) (hk5 : B 0 23 k5) (hIg : Inv z g) (hs : J_Laws_areRivals_37 z s) : T (st_Laws_areRivals_37 F lw ha ro p0 p1 g k3 k4 k5 s) (LQ (J_Laws_areRivals_37 z) (Q_Laws_areRivals_37 z) (fun s => s) s) := by
  unfold st_Laws_areRivals_37
  refine T.cond (fun c1 => ?_) (fun c1 => ?_)
  · exact T.some' (show True from trivial)
  · have f2 : B 1 24 (g ha 4) := B.nlel c1 (hIg.ents hlw.h) hs (by decide)
    have f3 : B 0 23 (s) := B.nler c1 (hIg.ents hlw.h) hs (by decide)
    refine T.callB (t_Hall_hasBit ) (fun v5 h4 => ?_)
    refine T.cond (fun c5 => ?_) (fun c5 => ?_)
    · have f6 : B 0 0 (v5) := B.eql c5 h4 (show B 0 0 (0 : Int32) from ⟨by decide, by decide⟩) (by decide)
      have b7 : B 1 24 (s + 1) := B.add f3 (show B 1 1 (1 : Int32) from ⟨by decide, by decide⟩) (by decide)
      exact T.some' (show J_Laws_areRivals_37 z (s + 1) ∧ s + 1 = s + 1 from ⟨(B.wk b7 (by decide)), rfl⟩)
    · have f8 : B 1 1 (v5) := B.nelo c5 h4 (show B 0 0 (0 : Int32) from ⟨by decide, by decide⟩) (by decide)
      refine T.callB (t_Hall_hasBit ) (fun v7 h9 => ?_)
      refine T.cond (fun c10 => ?_) (fun c10 => ?_)
      · have f11 : B 0 0 (v7) := B.eql c10 h9 (show B 0 0 (0 : Int32) from ⟨by decide, by decide⟩) (by decide)
        have b12 : B 1 24 (s + 1) := B.add f3 (show B 1 1 (1 : Int32) from ⟨by decide, by decide⟩) (by decide)
        exact T.some' (show J_Laws_areRivals_37 z (s + 1) ∧ s + 1 = s + 1 from ⟨(B.wk b12 (by decide)), rfl⟩)
      · have f13 : B 1 1 (v7) := B.nelo c10 h9 (show B 0 0 (0 : Int32) from ⟨by decide, by decide⟩) (by decide)
        refine T.callB (t_Laws_differ hlw hk5 f3 hIg) (fun v9 h14 => ?_)
        refine T.cond (fun c15 => ?_) (fun c15 => ?_)
        · have f16 : B 0 0 (v9) := B.eql c15 h14 (show B 0 0 (0 : Int32) from ⟨by decide, by decide⟩) (by decide)
          have b17 : B 1 24 (s + 1) := B.add f3 (show B 1 1 (1 : Int32) from ⟨by decide, by decide⟩) (by decide)
          exact T.some' (show J_Laws_areRivals_37 z (s + 1) ∧ s + 1 = s + 1 from ⟨(B.wk b17 (by decide)), rfl⟩)
        · have f18 : B 1 1 (v9) := B.nelo c15 h14 (show B 0 0 (0 : Int32) from ⟨by decide, by decide⟩) (by decide)
          exact T.some' (show True from trivial)
theorem t_Laws_areRivals_22 {z : Zt} {F : Nat} {lw : Nat} {ha : Nat} {ro : Nat} {p0 : Int32} {p1 : Int32} {g : Mem} {k3 : Int32} {k4 : Int32} {s : Int32} (hF : 4294967296 < F) (hlw : LWP lw ha ro) (hp0 : B 0 5 p0) (hp1 : B 1 5 p1) (hIg : Inv z g) (hs : J_Laws_areRivals_22 z s) : T (st_Laws_areRivals_22 F lw ha ro p0 p1 g k3 k4 s) (LQ (J_Laws_areRivals_22 z) (Q_Laws_areRivals_22 z) (fun s => s) s) := by
  unfold st_Laws_areRivals_22
  refine T.cond (fun c1 => ?_) (fun c1 => ?_)
  · exact T.some' (show True from trivial)
  · have f2 : B 1 24 (g ha 4) := B.nlel c1 (hIg.ents hlw.h) hs (by decide)
    have f3 : B 0 23 (s) := B.nler c1 (hIg.ents hlw.h) hs (by decide)
    refine T.callB (T.lpc (J := J_Laws_areRivals_37 z) (Q := Q_Laws_areRivals_37 z) (fun s => s) 0 24 (by decide) (fun s h => h) (fun s h => t_Laws_areRivals_37 hF hlw hp0 hp1 f3 hIg h) F _ (show J_Laws_areRivals_37 z (0 : Int32) from (B.wk (show B 0 0 (0 : Int32) from ⟨by decide, by decide⟩) (by decide))) hF) (fun x11 h4 => ?_)
    rcases x11 with x12 | x13
    · dsimp only
      exact T.some' (show True from trivial)
    · dsimp only
      have b5 : B 1 24 (s + 1) := B.add f3 (show B 1 1 (1 : Int32) from ⟨by decide, by decide⟩) (by decide)
      exact T.some' (show J_Laws_areRivals_22 z (s + 1) ∧ s + 1 = s + 1 from ⟨(B.wk b5 (by decide)), rfl⟩)
theorem t_Laws_areRivals {z : Zt} {F : Nat} {lw : Nat} {ha : Nat} {ro : Nat} {p0 : Int32} {p1 : Int32} {g : Mem} (hF : 4294967296 < F) (hlw : LWP lw ha ro) (hp0 : B 0 5 p0) (hp1 : B 1 5 p1) (hIg : Inv z g) : T (sp_Laws_areRivals F lw ha ro p0 p1 g) (fun r => B 0 1 r) := by
  unfold sp_Laws_areRivals
  refine T.callB (t_Hair_thereOf hF hlw.h hp0 hIg) (fun v1 h1 => ?_)
  refine T.callB (t_Hair_thereOf hF hlw.h (B.wk hp1 (by decide)) hIg) (fun v2 h2 => ?_)
  refine T.callB (T.lpc (J := J_Laws_areRivals_22 z) (Q := Q_Laws_areRivals_22 z) (fun s => s) 0 24 (by decide) (fun s h => h) (fun s h => t_Laws_areRivals_22 hF hlw hp0 hp1 hIg h) F _ (show J_Laws_areRivals_22 z (0 : Int32) from (B.wk (show B 0 0 (0 : Int32) from ⟨by decide, by decide⟩) (by decide))) hF) (fun x14 h3 => ?_)
  rcases x14 with x15 | x16
  · dsimp only
    exact T.some' (show B 0 1 (1 : Int32) from (B.wk (show B 1 1 (1 : Int32) from ⟨by decide, by decide⟩) (by decide)))
  · dsimp only
    exact T.some' (show B 0 1 (0 : Int32) from (B.wk (show B 0 0 (0 : Int32) from ⟨by decide, by decide⟩) (by decide)))
theorem t_Laws_rivalCouples_19 {z : Zt} {F : Nat} {lw : Nat} {ha : Nat} {ro : Nat} {g : Mem} {k2 : Int32} {s : Int32 × Int32} (hF : 4294967296 < F) (hlw : LWP lw ha ro) (hk2 : B 0 5 k2) (hIg : Inv z g) (hs : J_Laws_rivalCouples_19 z s) : T (st_Laws_rivalCouples_19 F lw ha ro g k2 s) (LQ (J_Laws_rivalCouples_19 z) (Q_Laws_rivalCouples_19 z) (fun s => s.2) s.2) := by
  unfold st_Laws_rivalCouples_19
  refine T.cond (fun c1 => ?_) (fun c1 => ?_)
  · exact T.some' (show B (-2147483648) 2147483647 s.1 from (B.any s.1))
  · have f2 : B 2 6 (g ro 0) := B.nlel c1 (hIg.monks hlw.h.r) hs.2 (by decide)
    have f3 : B 1 5 (s.2) := B.nler c1 (hIg.monks hlw.h.r) hs.2 (by decide)
    refine T.callB (t_Laws_areRivals hF hlw hk2 f3 hIg) (fun v3 h4 => ?_)
    refine T.cond (fun c5 => ?_) (fun c5 => ?_)
    · have f6 : B 0 0 (v3) := B.eql c5 h4 (show B 0 0 (0 : Int32) from ⟨by decide, by decide⟩) (by decide)
      have b7 : B 2 6 (s.2 + 1) := B.add f3 (show B 1 1 (1 : Int32) from ⟨by decide, by decide⟩) (by decide)
      exact T.some' (show J_Laws_rivalCouples_19 z (s.1, s.2 + 1) ∧ s.2 + 1 = s.2 + 1 from ⟨⟨(B.any s.1), (B.wk b7 (by decide))⟩, rfl⟩)
    · have f8 : B 1 1 (v3) := B.nelo c5 h4 (show B 0 0 (0 : Int32) from ⟨by decide, by decide⟩) (by decide)
      have b9 : B 2 6 (s.2 + 1) := B.add f3 (show B 1 1 (1 : Int32) from ⟨by decide, by decide⟩) (by decide)
      exact T.some' (show J_Laws_rivalCouples_19 z (s.1 + 1, s.2 + 1) ∧ s.2 + 1 = s.2 + 1 from ⟨⟨(B.any (s.1 + 1)), (B.wk b9 (by decide))⟩, rfl⟩)
theorem t_Laws_rivalCouples_4 {z : Zt} {F : Nat} {lw : Nat} {ha : Nat} {ro : Nat} {g : Mem} {s : Int32 × Int32} (hF : 4294967296 < F) (hlw : LWP lw ha ro) (hIg : Inv z g) (hs : J_Laws_rivalCouples_4 z s) : T (st_Laws_rivalCouples_4 F lw ha ro g s) (LQ (J_Laws_rivalCouples_4 z) (Q_Laws_rivalCouples_4 z) (fun s => s.2) s.2) := by
  unfold st_Laws_rivalCouples_4
  refine T.cond (fun c1 => ?_) (fun c1 => ?_)
  · exact T.some' (show B (-2147483648) 2147483647 s.1 from (B.any s.1))
  · have f2 : B 1 6 (g ro 0) := B.nlel c1 (hIg.monks hlw.h.r) hs.2 (by decide)
    have f3 : B 0 5 (s.2) := B.nler c1 (hIg.monks hlw.h.r) hs.2 (by decide)
    have b4 : B 1 6 (s.2 + 1) := B.add f3 (show B 1 1 (1 : Int32) from ⟨by decide, by decide⟩) (by decide)
    refine T.callB (T.lpc (J := J_Laws_rivalCouples_19 z) (Q := Q_Laws_rivalCouples_19 z) (fun s => s.2) 1 6 (by decide) (fun s h => h.2) (fun s h => t_Laws_rivalCouples_19 hF hlw f3 hIg h) F _ (show J_Laws_rivalCouples_19 z (s.1, s.2 + 1) from ⟨(B.any s.1), b4⟩) hF) (fun x5 h5 => ?_)
    have h5 : B (-2147483648) 2147483647 x5 := h5
    exact T.some' (show J_Laws_rivalCouples_4 z (x5, s.2 + 1) ∧ s.2 + 1 = s.2 + 1 from ⟨⟨(B.any x5), (B.wk b4 (by decide))⟩, rfl⟩)
theorem t_Laws_rivalCouples {z : Zt} {F : Nat} {lw : Nat} {ha : Nat} {ro : Nat} {g : Mem} (hF : 4294967296 < F) (hlw : LWP lw ha ro) (hIg : Inv z g) : T (sp_Laws_rivalCouples F lw ha ro g) (fun r => B (-2147483648) 2147483647 r) := by
  unfold sp_Laws_rivalCouples
  refine T.callB (T.lpc (J := J_Laws_rivalCouples_4 z) (Q := Q_Laws_rivalCouples_4 z) (fun s => s.2) 0 6 (by decide) (fun s h => h.2) (fun s h => t_Laws_rivalCouples_4 hF hlw hIg h) F _ (show J_Laws_rivalCouples_4 z (0, 0) from ⟨(B.any (0 : Int32)), (B.wk (show B 0 0 (0 : Int32) from ⟨by decide, by decide⟩) (by decide))⟩) hF) (fun x6 h1 => ?_)
  have h1 : B (-2147483648) 2147483647 x6 := h1
  exact T.some' (show B (-2147483648) 2147483647 x6 from (B.any x6))
theorem t_Laws_owing {z : Zt} {lw : Nat} {ha : Nat} {ro : Nat} {p0 : Int32} {g : Mem} (hlw : LWP lw ha ro) (hp0 : B 0 23 p0) (hIg : Inv z g) : T (sp_Laws_owing lw ha ro p0 g) (fun r => B (-2147483648) 2147483647 r) := by
  unfold sp_Laws_owing
  refine T.callB (t_Roll_cell hlw.h.r hp0 (B.wk (show B 0 0 (0 : Int32) from ⟨by decide, by decide⟩) (by decide)) hIg) (fun v1 h1 => ?_)
  refine T.cond (fun c2 => ?_) (fun c2 => ?_)
  · have f3 : B 1 1 (v1) := B.eql c2 (B.any v1) (show B 1 1 (1 : Int32) from ⟨by decide, by decide⟩) (by decide)
    refine T.callB (t_Roll_cell hlw.h.r hp0 (B.wk (show B 4 4 (4 : Int32) from ⟨by decide, by decide⟩) (by decide)) hIg) (fun v3 h4 => ?_)
    exact T.some' (show B (-2147483648) 2147483647 v3 from (B.any v3))
  · refine T.cond (fun c5 => ?_) (fun c5 => ?_)
    · have f6 : B 2 2 (v1) := B.eql c5 (B.any v1) (show B 2 2 (2 : Int32) from ⟨by decide, by decide⟩) (by decide)
      refine T.callB (t_Roll_cell hlw.h.r hp0 (B.wk (show B 4 4 (4 : Int32) from ⟨by decide, by decide⟩) (by decide)) hIg) (fun v5 h7 => ?_)
      exact T.some' (show B (-2147483648) 2147483647 (-v5) from (B.any (-v5)))
    · exact T.some' (show B (-2147483648) 2147483647 (0 : Int32) from (B.any (0 : Int32)))
theorem t_Laws_balance_j53_13 {z : Zt} {F : Nat} {lw : Nat} {ha : Nat} {ro : Nat} {p0 : Int32} {k1 : Int32} {k2 : Int32} {g : Mem} {x3 : Int32} {x4 : Int32} (hF : 4294967296 < F) (hlw : LWP lw ha ro) (hx4 : B 0 23 x4) (hIg : Inv z g) : T (sp_Laws_balance_j53_13 F lw ha ro p0 k1 k2 g x3 x4) (LQ (J_Laws_balance_13 z) (Q_Laws_balance_13 z) (fun s => s.2) x4) := by
  unfold sp_Laws_balance_j53_13
  refine T.callB (t_Laws_owing hlw hx4 hIg) (fun v6 h1 => ?_)
  have b2 : B 1 24 (x4 + 1) := B.add hx4 (show B 1 1 (1 : Int32) from ⟨by decide, by decide⟩) (by decide)
  exact T.some' (show J_Laws_balance_13 z (x3 + v6, x4 + 1) ∧ x4 + 1 = x4 + 1 from ⟨⟨(B.any (x3 + v6)), (B.wk b2 (by decide))⟩, rfl⟩)
theorem t_Laws_balance_13 {z : Zt} {F : Nat} {lw : Nat} {ha : Nat} {ro : Nat} {p0 : Int32} {g : Mem} {k1 : Int32} {k2 : Int32} {s : Int32 × Int32} (hF : 4294967296 < F) (hlw : LWP lw ha ro) (hIg : Inv z g) (hs : J_Laws_balance_13 z s) : T (st_Laws_balance_13 F lw ha ro p0 g k1 k2 s) (LQ (J_Laws_balance_13 z) (Q_Laws_balance_13 z) (fun s => s.2) s.2) := by
  unfold st_Laws_balance_13
  refine T.cond (fun c1 => ?_) (fun c1 => ?_)
  · exact T.some' (show B (-2147483648) 2147483647 s.1 from (B.any s.1))
  · have f2 : B 1 24 (g ha 4) := B.nlel c1 (hIg.ents hlw.h) hs.2 (by decide)
    have f3 : B 0 23 (s.2) := B.nler c1 (hIg.ents hlw.h) hs.2 (by decide)
    refine T.callB (t_Hall_hasBit ) (fun v3 h4 => ?_)
    refine T.cond (fun c5 => ?_) (fun c5 => ?_)
    · have f6 : B 0 0 (v3) := B.eql c5 h4 (show B 0 0 (0 : Int32) from ⟨by decide, by decide⟩) (by decide)
      have b7 : B 1 24 (s.2 + 1) := B.add f3 (show B 1 1 (1 : Int32) from ⟨by decide, by decide⟩) (by decide)
      exact T.some' (show J_Laws_balance_13 z (s.1, s.2 + 1) ∧ s.2 + 1 = s.2 + 1 from ⟨⟨(B.any s.1), (B.wk b7 (by decide))⟩, rfl⟩)
    · have f8 : B 1 1 (v3) := B.nelo c5 h4 (show B 0 0 (0 : Int32) from ⟨by decide, by decide⟩) (by decide)
      refine T.cond (fun c9 => ?_) (fun c9 => ?_)
      · have f10 : B (-1) (-1) (k1) := B.eql c9 (B.any k1) (show B (-1) (-1) (-1 : Int32) from ⟨by decide, by decide⟩) (by decide)
        exact t_Laws_balance_j53_13 hF hlw f3 hIg
      · refine T.callB (t_Roll_cell hlw.h.r f3 (B.wk (show B 3 3 (3 : Int32) from ⟨by decide, by decide⟩) (by decide)) hIg) (fun v7 h11 => ?_)
        refine T.cond (fun c12 => ?_) (fun c12 => ?_)
        · exact t_Laws_balance_j53_13 hF hlw f3 hIg
        · have b13 : B 1 24 (s.2 + 1) := B.add f3 (show B 1 1 (1 : Int32) from ⟨by decide, by decide⟩) (by decide)
          exact T.some' (show J_Laws_balance_13 z (s.1, s.2 + 1) ∧ s.2 + 1 = s.2 + 1 from ⟨⟨(B.any s.1), (B.wk b13 (by decide))⟩, rfl⟩)
theorem t_Laws_balance {z : Zt} {F : Nat} {lw : Nat} {ha : Nat} {ro : Nat} {p0 : Int32} {g : Mem} (hF : 4294967296 < F) (hlw : LWP lw ha ro) (hIg : Inv z g) : T (sp_Laws_balance F lw ha ro p0 g) (fun r => B (-2147483648) 2147483647 r) := by
  unfold sp_Laws_balance
  refine T.callB (t_Hair_recordsThere hF hlw.h hIg) (fun v1 h1 => ?_)
  refine T.callB (T.lpc (J := J_Laws_balance_13 z) (Q := Q_Laws_balance_13 z) (fun s => s.2) 0 24 (by decide) (fun s h => h.2) (fun s h => t_Laws_balance_13 hF hlw hIg h) F _ (show J_Laws_balance_13 z (0, 0) from ⟨(B.any (0 : Int32)), (B.wk (show B 0 0 (0 : Int32) from ⟨by decide, by decide⟩) (by decide))⟩) hF) (fun x9 h2 => ?_)
  have h2 : B (-2147483648) 2147483647 x9 := h2
  exact T.some' (show B (-2147483648) 2147483647 x9 from (B.any x9))
theorem t_Laws_earliest_5 {z : Zt} {F : Nat} {lw : Nat} {ha : Nat} {ro : Nat} {p0 : Int32} {p1 : Int32} {g : Mem} {k1 : Int32} {k2 : Int32} {s : Int32 × Int32} (hF : 4294967296 < F) (hlw : LWP lw ha ro) (hIg : Inv z g) (hs : J_Laws_earliest_5 z s) : T (st_Laws_earliest_5 F lw ha ro p0 p1 g k1 k2 s) (LQ (J_Laws_earliest_5 z) (Q_Laws_earliest_5 z) (fun s => s.2) s.2) := by
  unfold st_Laws_earliest_5
  refine T.cond (fun c1 => ?_) (fun c1 => ?_)
  · exact T.some' (show B (-1) 23 s.1 from hs.1)
  · have f2 : B 1 24 (g ha 4) := B.nlel c1 (hIg.ents hlw.h) hs.2 (by decide)
    have f3 : B 0 23 (s.2) := B.nler c1 (hIg.ents hlw.h) hs.2 (by decide)
    refine T.callB (t_Laws_isThereOf hlw f3 hIg) (fun v2 h4 => ?_)
    refine T.cond (fun c5 => ?_) (fun c5 => ?_)
    · have f6 : B 0 0 (v2) := B.eql c5 h4 (show B 0 0 (0 : Int32) from ⟨by decide, by decide⟩) (by decide)
      have b7 : B 1 24 (s.2 + 1) := B.add f3 (show B 1 1 (1 : Int32) from ⟨by decide, by decide⟩) (by decide)
      exact T.some' (show J_Laws_earliest_5 z (s.1, s.2 + 1) ∧ s.2 + 1 = s.2 + 1 from ⟨⟨hs.1, (B.wk b7 (by decide))⟩, rfl⟩)
    · have f8 : B 1 1 (v2) := B.nelo c5 h4 (show B 0 0 (0 : Int32) from ⟨by decide, by decide⟩) (by decide)
      refine T.cond (fun c9 => ?_) (fun c9 => ?_)
      · have f10 : B (-1) (-1) (s.1) := B.eql c9 hs.1 (show B (-1) (-1) (-1 : Int32) from ⟨by decide, by decide⟩) (by decide)
        have b11 : B 1 24 (s.2 + 1) := B.add f3 (show B 1 1 (1 : Int32) from ⟨by decide, by decide⟩) (by decide)
        exact T.some' (show J_Laws_earliest_5 z (s.2, s.2 + 1) ∧ s.2 + 1 = s.2 + 1 from ⟨⟨(B.wk f3 (by decide)), (B.wk b11 (by decide))⟩, rfl⟩)
      · have f12 : B 0 23 (s.1) := B.nelo c9 hs.1 (show B (-1) (-1) (-1 : Int32) from ⟨by decide, by decide⟩) (by decide)
        refine T.callB (t_Roll_cell hlw.h.r f3 (B.wk (show B 2 2 (2 : Int32) from ⟨by decide, by decide⟩) (by decide)) hIg) (fun v5 h13 => ?_)
        refine T.callB (t_Roll_cell hlw.h.r f12 (B.wk (show B 2 2 (2 : Int32) from ⟨by decide, by decide⟩) (by decide)) hIg) (fun v6 h14 => ?_)
        refine T.cond (fun c15 => ?_) (fun c15 => ?_)
        · have b16 : B 1 24 (s.2 + 1) := B.add f3 (show B 1 1 (1 : Int32) from ⟨by decide, by decide⟩) (by decide)
          exact T.some' (show J_Laws_earliest_5 z (s.1, s.2 + 1) ∧ s.2 + 1 = s.2 + 1 from ⟨⟨(B.wk f12 (by decide)), (B.wk b16 (by decide))⟩, rfl⟩)
        · have f17 : B (-2147483647) 2147483647 (v6) := B.nlel c15 (B.any v6) (B.any v5) (by decide)
          have f18 : B (-2147483648) 2147483646 (v5) := B.nler c15 (B.any v6) (B.any v5) (by decide)
          have b19 : B 1 24 (s.2 + 1) := B.add f3 (show B 1 1 (1 : Int32) from ⟨by decide, by decide⟩) (by decide)
          exact T.some' (show J_Laws_earliest_5 z (s.2, s.2 + 1) ∧ s.2 + 1 = s.2 + 1 from ⟨⟨(B.wk f3 (by decide)), (B.wk b19 (by decide))⟩, rfl⟩)
theorem t_Laws_earliest {z : Zt} {F : Nat} {lw : Nat} {ha : Nat} {ro : Nat} {p0 : Int32} {p1 : Int32} {g : Mem} (hF : 4294967296 < F) (hlw : LWP lw ha ro) (hIg : Inv z g) : T (sp_Laws_earliest F lw ha ro p0 p1 g) (fun r => B (-2147483648) 2147483647 r) := by
  unfold sp_Laws_earliest
  refine T.callB (T.lpc (J := J_Laws_earliest_5 z) (Q := Q_Laws_earliest_5 z) (fun s => s.2) 0 24 (by decide) (fun s h => h.2) (fun s h => t_Laws_earliest_5 hF hlw hIg h) F _ (show J_Laws_earliest_5 z ((-1), 0) from ⟨(B.wk (show B (-1) (-1) (-1 : Int32) from ⟨by decide, by decide⟩) (by decide)), (B.wk (show B 0 0 (0 : Int32) from ⟨by decide, by decide⟩) (by decide))⟩) hF) (fun x8 h1 => ?_)
  have h1 : B (-1) 23 x8 := h1
  exact T.some' (show B (-2147483648) 2147483647 x8 from (B.any x8))
theorem t_Laws_monksSaying_5 {z : Zt} {F : Nat} {lw : Nat} {ha : Nat} {ro : Nat} {p0 : Int32} {p1 : Int32} {g : Mem} {k1 : Int32} {k2 : Int32} {s : Int32 × Int32} (hF : 4294967296 < F) (hlw : LWP lw ha ro) (hIg : Inv z g) (hs : J_Laws_monksSaying_5 z s) : T (st_Laws_monksSaying_5 F lw ha ro p0 p1 g k1 k2 s) (LQ (J_Laws_monksSaying_5 z) (Q_Laws_monksSaying_5 z) (fun s => s.2) s.2) := by
  unfold st_Laws_monksSaying_5
  refine T.cond (fun c1 => ?_) (fun c1 => ?_)
  · exact T.some' (show B (-2147483648) 2147483647 s.1 from (B.any s.1))
  · have f2 : B 1 24 (g ha 4) := B.nlel c1 (hIg.ents hlw.h) hs.2 (by decide)
    have f3 : B 0 23 (s.2) := B.nler c1 (hIg.ents hlw.h) hs.2 (by decide)
    refine T.callB (t_Laws_isThereOf hlw f3 hIg) (fun v2 h4 => ?_)
    refine T.cond (fun c5 => ?_) (fun c5 => ?_)
    · have f6 : B 0 0 (v2) := B.eql c5 h4 (show B 0 0 (0 : Int32) from ⟨by decide, by decide⟩) (by decide)
      have b7 : B 1 24 (s.2 + 1) := B.add f3 (show B 1 1 (1 : Int32) from ⟨by decide, by decide⟩) (by decide)
      exact T.some' (show J_Laws_monksSaying_5 z (s.1, s.2 + 1) ∧ s.2 + 1 = s.2 + 1 from ⟨⟨(B.any s.1), (B.wk b7 (by decide))⟩, rfl⟩)
    · have f8 : B 1 1 (v2) := B.nelo c5 h4 (show B 0 0 (0 : Int32) from ⟨by decide, by decide⟩) (by decide)
      refine T.callB (t_Roll_cell hlw.h.r f3 (B.wk (show B 4 4 (4 : Int32) from ⟨by decide, by decide⟩) (by decide)) hIg) (fun v4 h9 => ?_)
      refine T.cond (fun c10 => ?_) (fun c10 => ?_)
      · refine T.callB (t_Roll_cell1 hlw.h.r f3 hIg) (fun v6 h11 => ?_)
        have b12 : B 1 24 (s.2 + 1) := B.add f3 (show B 1 1 (1 : Int32) from ⟨by decide, by decide⟩) (by decide)
        exact T.some' (show J_Laws_monksSaying_5 z (s.1 ||| (1 <<< (v6 &&& 31)), s.2 + 1) ∧ s.2 + 1 = s.2 + 1 from ⟨⟨(B.any (s.1 ||| (1 <<< (v6 &&& 31)))), (B.wk b12 (by decide))⟩, rfl⟩)
      · have b13 : B 1 24 (s.2 + 1) := B.add f3 (show B 1 1 (1 : Int32) from ⟨by decide, by decide⟩) (by decide)
        exact T.some' (show J_Laws_monksSaying_5 z (s.1, s.2 + 1) ∧ s.2 + 1 = s.2 + 1 from ⟨⟨(B.any s.1), (B.wk b13 (by decide))⟩, rfl⟩)
theorem t_Laws_monksSaying {z : Zt} {F : Nat} {lw : Nat} {ha : Nat} {ro : Nat} {p0 : Int32} {p1 : Int32} {g : Mem} (hF : 4294967296 < F) (hlw : LWP lw ha ro) (hIg : Inv z g) : T (sp_Laws_monksSaying F lw ha ro p0 p1 g) (fun r => B (-2147483648) 2147483647 r) := by
  unfold sp_Laws_monksSaying
  refine T.callB (T.lpc (J := J_Laws_monksSaying_5 z) (Q := Q_Laws_monksSaying_5 z) (fun s => s.2) 0 24 (by decide) (fun s h => h.2) (fun s h => t_Laws_monksSaying_5 hF hlw hIg h) F _ (show J_Laws_monksSaying_5 z (0, 0) from ⟨(B.any (0 : Int32)), (B.wk (show B 0 0 (0 : Int32) from ⟨by decide, by decide⟩) (by decide))⟩) hF) (fun x7 h1 => ?_)
  have h1 : B (-2147483648) 2147483647 x7 := h1
  exact T.some' (show B (-2147483648) 2147483647 x7 from (B.any x7))
theorem t_Laws_mostHeld_7 {z : Zt} {F : Nat} {lw : Nat} {ha : Nat} {ro : Nat} {p0 : Int32} {g : Mem} {k1 : Int32} {s : Int32 × Int32 × Int32} (hF : 4294967296 < F) (hlw : LWP lw ha ro) (hIg : Inv z g) (hs : J_Laws_mostHeld_7 z s) : T (st_Laws_mostHeld_7 F lw ha ro p0 g k1 s) (LQ (J_Laws_mostHeld_7 z) (Q_Laws_mostHeld_7 z) (fun s => s.2.2) s.2.2) := by
  unfold st_Laws_mostHeld_7
  refine T.cond (fun c1 => ?_) (fun c1 => ?_)
  · exact T.some' (show B (-2147483648) 2147483647 s.1 from (B.any s.1))
  · have f2 : B 1 24 (g ha 4) := B.nlel c1 (hIg.ents hlw.h) hs.2.2 (by decide)
    have f3 : B 0 23 (s.2.2) := B.nler c1 (hIg.ents hlw.h) hs.2.2 (by decide)
    refine T.callB (t_Laws_isThereOf hlw f3 hIg) (fun v2 h4 => ?_)
    refine T.cond (fun c5 => ?_) (fun c5 => ?_)
    · have f6 : B 0 0 (v2) := B.eql c5 h4 (show B 0 0 (0 : Int32) from ⟨by decide, by decide⟩) (by decide)
      have b7 : B 1 24 (s.2.2 + 1) := B.add f3 (show B 1 1 (1 : Int32) from ⟨by decide, by decide⟩) (by decide)
      exact T.some' (show J_Laws_mostHeld_7 z (s.1, s.2.1, s.2.2 + 1) ∧ s.2.2 + 1 = s.2.2 + 1 from ⟨⟨(B.any s.1), hs.2.1, (B.wk b7 (by decide))⟩, rfl⟩)
    · have f8 : B 1 1 (v2) := B.nelo c5 h4 (show B 0 0 (0 : Int32) from ⟨by decide, by decide⟩) (by decide)
      refine T.callB (t_Roll_cell hlw.h.r f3 (B.wk (show B 4 4 (4 : Int32) from ⟨by decide, by decide⟩) (by decide)) hIg) (fun v4 h9 => ?_)
      refine T.callB (t_Laws_monksSaying hF hlw hIg) (fun v5 h10 => ?_)
      refine T.callB (t_JInteger_bitCount ) (fun v6 h11 => ?_)
      refine T.cond (fun c12 => ?_) (fun c12 => ?_)
      · have f13 : B 0 2147483646 (s.2.1) := B.ltl c12 hs.2.1 (B.any v6) (by decide)
        have f14 : B 1 2147483647 (v6) := B.ltr c12 hs.2.1 (B.any v6) (by decide)
        have b15 : B 1 24 (s.2.2 + 1) := B.add f3 (show B 1 1 (1 : Int32) from ⟨by decide, by decide⟩) (by decide)
        exact T.some' (show J_Laws_mostHeld_7 z (v4, v6, s.2.2 + 1) ∧ s.2.2 + 1 = s.2.2 + 1 from ⟨⟨(B.any v4), (B.wk f14 (by decide)), (B.wk b15 (by decide))⟩, rfl⟩)
      · refine T.cond (fun c16 => ?_) (fun c16 => ?_)
        · have f17 : B 0 2147483647 (v6) := B.eql c16 (B.any v6) hs.2.1 (by decide)
          refine T.cond (fun c18 => ?_) (fun c18 => ?_)
          · have b19 : B 1 24 (s.2.2 + 1) := B.add f3 (show B 1 1 (1 : Int32) from ⟨by decide, by decide⟩) (by decide)
            exact T.some' (show J_Laws_mostHeld_7 z (s.1, s.2.1, s.2.2 + 1) ∧ s.2.2 + 1 = s.2.2 + 1 from ⟨⟨(B.any s.1), hs.2.1, (B.wk b19 (by decide))⟩, rfl⟩)
          · have f20 : B (-2147483647) 2147483647 (s.1) := B.nlel c18 (B.any s.1) (B.any v4) (by decide)
            have f21 : B (-2147483648) 2147483646 (v4) := B.nler c18 (B.any s.1) (B.any v4) (by decide)
            have b22 : B 1 24 (s.2.2 + 1) := B.add f3 (show B 1 1 (1 : Int32) from ⟨by decide, by decide⟩) (by decide)
            exact T.some' (show J_Laws_mostHeld_7 z (v4, v6, s.2.2 + 1) ∧ s.2.2 + 1 = s.2.2 + 1 from ⟨⟨(B.any v4), f17, (B.wk b22 (by decide))⟩, rfl⟩)
        · have b23 : B 1 24 (s.2.2 + 1) := B.add f3 (show B 1 1 (1 : Int32) from ⟨by decide, by decide⟩) (by decide)
          exact T.some' (show J_Laws_mostHeld_7 z (s.1, s.2.1, s.2.2 + 1) ∧ s.2.2 + 1 = s.2.2 + 1 from ⟨⟨(B.any s.1), hs.2.1, (B.wk b23 (by decide))⟩, rfl⟩)
theorem t_Laws_mostHeld {z : Zt} {F : Nat} {lw : Nat} {ha : Nat} {ro : Nat} {p0 : Int32} {g : Mem} (hF : 4294967296 < F) (hlw : LWP lw ha ro) (hIg : Inv z g) : T (sp_Laws_mostHeld F lw ha ro p0 g) (fun r => B (-2147483648) 2147483647 r) := by
  unfold sp_Laws_mostHeld
  refine T.callB (T.lpc (J := J_Laws_mostHeld_7 z) (Q := Q_Laws_mostHeld_7 z) (fun s => s.2.2) 0 24 (by decide) (fun s h => h.2.2) (fun s h => t_Laws_mostHeld_7 hF hlw hIg h) F _ (show J_Laws_mostHeld_7 z ((-1), 0, 0) from ⟨(B.any (-1 : Int32)), (B.wk (show B 0 0 (0 : Int32) from ⟨by decide, by decide⟩) (by decide)), (B.wk (show B 0 0 (0 : Int32) from ⟨by decide, by decide⟩) (by decide))⟩) hF) (fun x10 h1 => ?_)
  have h1 : B (-2147483648) 2147483647 x10 := h1
  exact T.some' (show B (-2147483648) 2147483647 x10 from (B.any x10))
theorem rm_draw {y n : Int32} {hi : Nat} (hn : B 1 hi n) (hh : hi < 2147483648) : T (rm (y &&& 32767) n) (fun v => B 0 ((hi : Int) - 1) v) := by
  obtain ⟨d, hd, rfl, h1, h2⟩ := hn.ex (by decide)
  obtain ⟨j, hj, e⟩ := pk_andE y (m := 32767) 15 rfl
  have hz : ¬ nI d = 0 := T.nz hn (Or.inl (by decide))
  unfold rm
  rw [if_neg hz, e, pk_rem (by omega) (by omega) hd]
  refine T.some' ?_
  have hl : j % d < d := Nat.mod_lt _ (by omega)
  have e9 : (nI (j % d)).toInt = ((j % d : Nat) : Int) := nI_toInt (by omega)
  exact ⟨by rw [e9]; omega, by rw [e9]; omega⟩
theorem t_Season_draw {z : Zt} {hi : Nat} {p0 : Int32} {g : Mem} (hn : B 1 hi p0) (hh : hi < 2147483648) (hI : Inv z g) : T (sp_Season_draw p0 g) (fun r => B 0 ((hi : Int) - 1) r.1 ∧ Inv z r.2) := by
  unfold sp_Season_draw
  refine T.neg (B.no_le hn (show B 0 0 (0 : Int32) from ⟨by decide, by decide⟩) (by decide)) ?_
  exact T.callB (rm_draw hn hh) (fun v hv => T.some' ⟨hv, hI.fre rfl⟩)
theorem t_Season_visit {z : Zt} {F : Nat} {p0 : Int32} {g : Mem} (hF : 4294967296 < F) (hp0 : B 0 5 p0) (hIg : Inv z g) : T (sp_Season_visit F p0 g) (fun r => Inv z r) := by
  unfold sp_Season_visit
  refine T.callB (t_Season_draw (hi := 3) (B.wk (show B 3 3 (3 : Int32) from ⟨by decide, by decide⟩) (by decide)) (by decide) hIg) (fun v1 h1 => ?_)
  refine T.cond (fun c2 => ?_) (fun c2 => ?_)
  · have f3 : B 0 0 (v1.1) := B.eql c2 h1.1 (show B 0 0 (0 : Int32) from ⟨by decide, by decide⟩) (by decide)
    refine T.callB (t_Season_draw (hi := 20) (B.wk (show B 20 20 (20 : Int32) from ⟨by decide, by decide⟩) (by decide)) (by decide) h1.2) (fun v3 h4 => ?_)
    refine T.callB (t_Hair_eatable hF HP50 hp0 h4.2) (fun v4 h5 => ?_)
    refine T.callB (t_Hair_lose HP50 h4.2) (fun v5 h6 => ?_)
    exact T.some' (show Inv z v5.2 from h6.2)
  · have f7 : B 1 2 (v1.1) := B.nelo c2 h1.1 (show B 0 0 (0 : Int32) from ⟨by decide, by decide⟩) (by decide)
    refine T.cond (fun c8 => ?_) (fun c8 => ?_)
    · have f9 : B 1 1 (v1.1) := B.eql c8 f7 (show B 1 1 (1 : Int32) from ⟨by decide, by decide⟩) (by decide)
      refine T.callB (t_Season_draw (hi := 20) (B.wk (show B 20 20 (20 : Int32) from ⟨by decide, by decide⟩) (by decide)) (by decide) h1.2) (fun v7 h10 => ?_)
      refine T.rdU (B.ib hp0 (by decide)) (fun v8 => ?_)
      refine T.cond (fun c11 => ?_) (fun c11 => ?_)
      · have f12 : B (-2147483648) 19 (v8) := B.lel c11 (B.any v8) h10.1 (by decide)
        exact T.some' (show Inv z v7.2 from h10.2)
      · have f13 : B 1 2147483647 (v8) := B.nlel c11 (B.any v8) h10.1 (by decide)
        refine T.callB (t_Hair_shaveTo hF HP50 hp0 (B.wk h10.1 (by decide)) h10.2) (fun v10 h14 => ?_)
        exact T.some' (show Inv z v10.2 from h14.2)
    · have f15 : B 2 2 (v1.1) := B.nelo c8 f7 (show B 1 1 (1 : Int32) from ⟨by decide, by decide⟩) (by decide)
      exact T.some' (show Inv z v1.2 from h1.2)
theorem t_Season_run_j67_21 {z : Zt} {F : Nat} {o0ha : Nat} {o0ro : Nat} {p1 : Int32} {p2 : Int32} {k3 : Int32} {g : Mem} {m0 : Mem} {x4 : Int32} {x5 : Int32} (hF : 4294967296 < F) (ho0ha : HP o0ha o0ro) (hk3 : B 1 2147483647 k3) (hx4 : B 0 2147483646 x4) (hIm0 : Inv z m0) : T (sp_Season_run_j67_21 F o0ha o0ro p1 p2 k3 g m0 x4 x5) (LQ (J_Season_run_21 z) (Q_Season_run_21 z) (fun s => s.1) x4) := by
  unfold sp_Season_run_j67_21
  refine T.callB (t_Hair_pass hF HP50 (B.wk (show B 1 1 (1 : Int32) from ⟨by decide, by decide⟩) (by decide)) hIm0) (fun v5 h1 => ?_)
  refine T.callB (t_Hair_recordsThere hF HP50 h1) (fun v6 h2 => ?_)
  refine T.cond (fun c3 => ?_) (fun c3 => ?_)
  · have b4 : B 1 2147483647 (x4 + 1) := B.add hx4 (show B 1 1 (1 : Int32) from ⟨by decide, by decide⟩) (by decide)
    exact T.some' (show J_Season_run_21 z (x4 + 1, v5) ∧ x4 + 1 = x4 + 1 from ⟨⟨(B.wk b4 (by decide)), h1⟩, rfl⟩)
  · have b5 : B 1 2147483647 (x4 + 1) := B.add hx4 (show B 1 1 (1 : Int32) from ⟨by decide, by decide⟩) (by decide)
    have hM6 : Inv z (mset v5 49 3 ((v5 49 3) + 1)) := h1.fre rfl
    exact T.some' (show J_Season_run_21 z (x4 + 1, mset v5 49 3 ((v5 49 3) + 1)) ∧ x4 + 1 = x4 + 1 from ⟨⟨(B.wk b5 (by decide)), hM6⟩, rfl⟩)
theorem t_Season_run_21 {z : Zt} {F : Nat} {o0ha : Nat} {o0ro : Nat} {p1 : Int32} {p2 : Int32} {g : Mem} {k3 : Int32} {s : Int32 × Mem} (hF : 4294967296 < F) (ho0ha : HP o0ha o0ro) (hs : J_Season_run_21 z s) : T (st_Season_run_21 F o0ha o0ro p1 p2 g k3 s) (LQ (J_Season_run_21 z) (Q_Season_run_21 z) (fun s => s.1) s.1) := by
  unfold st_Season_run_21
  refine T.cond (fun c1 => ?_) (fun c1 => ?_)
  · exact T.some' (show Inv z s.2 from hs.2)
  · have f2 : B 1 2147483647 (k3) := B.nlel c1 (B.any k3) hs.1 (by decide)
    have f3 : B 0 2147483646 (s.1) := B.nler c1 (B.any k3) hs.1 (by decide)
    refine T.callB (t_Hair_recordsThere hF HP50 hs.2) (fun v3 h4 => ?_)
    refine T.cond (fun c5 => ?_) (fun c5 => ?_)
    · have f6 : B 0 0 (s.2 15 0) := B.lel c5 (hs.2.monks RP15) (show B 0 0 (0 : Int32) from ⟨by decide, by decide⟩) (by decide)
      exact t_Season_run_j67_21 hF ho0ha f2 f3 hs.2
    · have f7 : B 1 6 (s.2 15 0) := B.nlel c5 (hs.2.monks RP15) (show B 0 0 (0 : Int32) from ⟨by decide, by decide⟩) (by decide)
      refine T.callB (t_Season_draw (hi := 6) f7 (by decide) hs.2) (fun v8 h8 => ?_)
      refine T.callB (t_Season_visit hF h8.1 h8.2) (fun v9 h9 => ?_)
      exact t_Season_run_j67_21 hF ho0ha f2 f3 h9
theorem t_Season_run {z : Zt} {F : Nat} {o0ha : Nat} {o0ro : Nat} {p1 : Int32} {p2 : Int32} {g : Mem} (hF : 4294967296 < F) (ho0ha : HP o0ha o0ro) (hIg : Inv z g) : T (sp_Season_run F o0ha o0ro p1 p2 g) (fun r => Inv z r) := by
  unfold sp_Season_run
  refine T.callB (t_Hair_take HP50 ho0ha hIg) (fun v1 h1 => ?_)
  have hM2 : Inv z (mset v1 49 2 p1) := h1.fre rfl
  have hM3 : Inv z (mset (mset v1 49 2 p1) 49 3 0) := hM2.fre rfl
  refine T.callB (T.lpc (J := J_Season_run_21 z) (Q := Q_Season_run_21 z) (fun s => s.1) 0 2147483647 (by decide) (fun s h => h.1) (fun s h => t_Season_run_21 hF ho0ha h) F _ (show J_Season_run_21 z (0, mset (mset v1 49 2 p1) 49 3 0) from ⟨(B.wk (show B 0 0 (0 : Int32) from ⟨by decide, by decide⟩) (by decide)), hM3⟩) hF) (fun x10 h4 => ?_)
  have h4 : Inv z x10 := h4
  exact T.some' (show Inv z x10 from h4)
theorem t_Reader_isBlank {p0 : Int32} {g : Mem}  : T (sp_Reader_isBlank p0 g) (fun r => B 0 1 r) := by
  unfold sp_Reader_isBlank
  refine T.cond (fun c1 => ?_) (fun c1 => ?_)
  · have f2 : B 32 32 (p0) := B.eql c1 (B.any p0) (show B 32 32 (32 : Int32) from ⟨by decide, by decide⟩) (by decide)
    exact T.some' (show B 0 1 (1 : Int32) from (B.wk (show B 1 1 (1 : Int32) from ⟨by decide, by decide⟩) (by decide)))
  · refine T.cond (fun c3 => ?_) (fun c3 => ?_)
    · have f4 : B 10 10 (p0) := B.eql c3 (B.any p0) (show B 10 10 (10 : Int32) from ⟨by decide, by decide⟩) (by decide)
      exact T.some' (show B 0 1 (1 : Int32) from (B.wk (show B 1 1 (1 : Int32) from ⟨by decide, by decide⟩) (by decide)))
    · exact T.some' (show B 0 1 (0 : Int32) from (B.wk (show B 0 0 (0 : Int32) from ⟨by decide, by decide⟩) (by decide)))
theorem t_Reader_isLetter {p0 : Int32} {g : Mem}  : T (sp_Reader_isLetter p0 g) (fun r => B 0 1 r) := by
  unfold sp_Reader_isLetter
  refine T.cond (fun c1 => ?_) (fun c1 => ?_)
  · have f2 : B (-2147483648) 96 (p0) := B.ltl c1 (B.any p0) (show B 97 97 (97 : Int32) from ⟨by decide, by decide⟩) (by decide)
    exact T.some' (show B 0 1 (0 : Int32) from (B.wk (show B 0 0 (0 : Int32) from ⟨by decide, by decide⟩) (by decide)))
  · have f3 : B 97 2147483647 (p0) := B.nltl c1 (B.any p0) (show B 97 97 (97 : Int32) from ⟨by decide, by decide⟩) (by decide)
    refine T.cond (fun c4 => ?_) (fun c4 => ?_)
    · have f5 : B 123 2147483647 (p0) := B.ltr c4 (show B 122 122 (122 : Int32) from ⟨by decide, by decide⟩) f3 (by decide)
      exact T.some' (show B 0 1 (0 : Int32) from (B.wk (show B 0 0 (0 : Int32) from ⟨by decide, by decide⟩) (by decide)))
    · have f6 : B 97 122 (p0) := B.nltr c4 (show B 122 122 (122 : Int32) from ⟨by decide, by decide⟩) f3 (by decide)
      exact T.some' (show B 0 1 (1 : Int32) from (B.wk (show B 1 1 (1 : Int32) from ⟨by decide, by decide⟩) (by decide)))
theorem t_Reader_takeWord {y : Int32 × Int32} {F : Nat} {g : Mem} (hF : 4294967296 < F) (hR : RIw y g) (hs : B 0 699 (g 3 4)) : T (sp_Reader_takeWord F g) (fun r => RI y r ∧ F3 g r ∧ r 3 9 = g 3 9) := by
  unfold sp_Reader_takeWord
  refine T.callB (P := fun m => RIw y m ∧ F3 g m ∧ m 3 9 = g 3 9) (T.lpc (J := fun s => B 0 700 s.1 ∧ RIw y s.2 ∧ F3 g s.2 ∧ s.2 3 9 = g 3 9) (Q := fun m => RIw y m ∧ F3 g m ∧ m 3 9 = g 3 9) (fun s => s.1) 0 700 (by decide) (fun s h => h.1) (fun s h => ?_) F _ ⟨hs.wk (by decide), hR, F3.rf, rfl⟩ hF) (fun m hm => ?_)
  · obtain ⟨h1, h2, h3, h4⟩ := h
    unfold st_Reader_takeWord_5
    refine T.cond (fun c => T.some' ⟨h2, h3, h4⟩) (fun c => ?_)
    have b : B 0 699 s.1 := B.nler c h2.2.1 h1 (by decide)
    refine T.rdU (B.ib b (by decide)) (fun v2 => ?_)
    refine T.callB t_Reader_isLetter (fun v3 _ => ?_)
    refine T.cond (fun c2 => T.some' ⟨h2, h3, h4⟩) (fun c2 => ?_)
    have b1 : B 0 700 (s.1 + 1) := B.add b (show B 1 1 (1 : Int32) from ⟨by decide, by decide⟩) (by decide)
    refine T.some' (show (B 0 700 (s.1 + 1) ∧ RIw y _ ∧ F3 g _ ∧ mset s.2 3 5 (s.1 + 1) 3 9 = g 3 9) ∧ s.1 + 1 = s.1 + 1 from ⟨⟨b1, ?_, h3.ms, by rw [m3, if_neg (by decide)]; exact h4⟩, rfl⟩)
    obtain ⟨k1, k2, k3⟩ := h2.2
    exact h2.set ⟨by rw [u_o (by decide)]; exact k1, by rw [u_o (by decide)]; exact k2, by rw [u_s]; exact b1⟩
  · obtain ⟨h1, h2, h3⟩ := hm
    unfold sp_Reader_takeWord_j38
    have i0 : RI y (mset m 3 6 100) := h1.tok (by decide)
    have s0 : mset m 3 6 100 3 4 = m 3 4 := by rw [m3, if_neg (by decide)]
    refine T.callB (P := fun m => RI y m ∧ F3 g m ∧ m 3 9 = g 3 9) (T.lpc (J := fun s => B 101 (101 + s.2.2.2.1.toInt) s.1 ∧ B 0 (700 + s.2.2.2.1.toInt) s.2.1 ∧ B 0 117 s.2.2.2.1 ∧ RI y s.2.2.2.2 ∧ F3 g s.2.2.2.2 ∧ s.2.2.2.2 3 9 = g 3 9) (Q := fun m => RI y m ∧ F3 g m ∧ m 3 9 = g 3 9) (fun s => s.2.2.2.1) 0 117 (by decide) (fun s h => h.2.2.1) (fun s h => ?_) F _ ⟨(show B 101 (101 + (0 : Int32).toInt) (101 : Int32) from ⟨by decide, by decide⟩), ?_, (show B 0 117 (0 : Int32) from ⟨by decide, by decide⟩), i0, h2.ms, by rw [m3, if_neg (by decide)]; exact h3⟩ hF) (fun m hm => T.some' hm)
    · obtain ⟨q1, q2, q3, q4, q5, q6⟩ := h
      unfold st_Reader_takeWord_57
      refine T.cond (fun c => T.some' ⟨q4, q5, q6⟩) (fun c => ?_)
      have hl : B 117 117 (slen 1) := ⟨by decide, by decide⟩
      have b : B 0 116 s.2.2.2.1 := B.nler c hl q3 (by decide)
      have e1 : (s.2.2.2.1 + 1).toInt = s.2.2.2.1.toInt + 1 := B.add_eq b (show B 1 1 (1 : Int32) from ⟨by decide, by decide⟩) (by decide)
      have bn : B 0 117 (s.2.2.2.1 + 1) := B.add b (show B 1 1 (1 : Int32) from ⟨by decide, by decide⟩) (by decide)
      have b7 : B 0 816 s.2.1 := ⟨q2.1, by have := q2.2; have := b.2; omega⟩
      have e2 : (s.2.1 + 1).toInt = s.2.1.toInt + 1 := B.add_eq b7 (show B 1 1 (1 : Int32) from ⟨by decide, by decide⟩) (by decide)
      have b1 : B 101 217 s.1 := ⟨q1.1, by have := q1.2; have := b.2; omega⟩
      have e3 : (s.1 + 1).toInt = s.1.toInt + 1 := B.add_eq b1 (show B 1 1 (1 : Int32) from ⟨by decide, by decide⟩) (by decide)
      have ix : inb s.2.2.2.1 (lenL.getD 1 0) = true := B.ib b ⟨by decide, by decide⟩
      have hj : ∀ (m' : Mem), RI y m' → F3 g m' → m' 3 9 = g 3 9 → T (sp_Reader_takeWord_j135_57 F g m' s.1 s.2.2.2.1) (LQ (fun s => B 101 (101 + s.2.2.2.1.toInt) s.1 ∧ B 0 (700 + s.2.2.2.1.toInt) s.2.1 ∧ B 0 117 s.2.2.2.1 ∧ RI y s.2.2.2.2 ∧ F3 g s.2.2.2.2 ∧ s.2.2.2.2 3 9 = g 3 9) (fun m => RI y m ∧ F3 g m ∧ m 3 9 = g 3 9) (fun s => s.2.2.2.1) s.2.2.2.1) := fun m' r1 r2 r3 => by
        unfold sp_Reader_takeWord_j135_57
        refine T.some' (show (B 101 (101 + (s.2.2.2.1 + 1).toInt) (s.1 + 1) ∧ B 0 (700 + (s.2.2.2.1 + 1).toInt) (m' 3 4) ∧ B 0 117 (s.2.2.2.1 + 1) ∧ RI y m' ∧ F3 g m' ∧ m' 3 9 = g 3 9) ∧ s.2.2.2.1 + 1 = s.2.2.2.1 + 1 from ⟨⟨?_, ?_, bn, r1, r2, r3⟩, rfl⟩)
        · exact ⟨by rw [e3]; have := q1.1; omega, by rw [e3, e1]; have := q1.2; omega⟩
        · have := r1.2.2.1
          exact ⟨this.1, by rw [e1]; have := this.2; have := b.1; omega⟩
      have hk : ∀ (t : Int32), T (some (Sum.inl (s.1, s.2.1 + 1, t, s.2.2.2.1 + 1, s.2.2.2.2))) (LQ (fun s => B 101 (101 + s.2.2.2.1.toInt) s.1 ∧ B 0 (700 + s.2.2.2.1.toInt) s.2.1 ∧ B 0 117 s.2.2.2.1 ∧ RI y s.2.2.2.2 ∧ F3 g s.2.2.2.2 ∧ s.2.2.2.2 3 9 = g 3 9) (fun m => RI y m ∧ F3 g m ∧ m 3 9 = g 3 9) (fun s => s.2.2.2.1) s.2.2.2.1) := fun t => by
        refine T.some' (show (B 101 (101 + (s.2.2.2.1 + 1).toInt) s.1 ∧ B 0 (700 + (s.2.2.2.1 + 1).toInt) (s.2.1 + 1) ∧ B 0 117 (s.2.2.2.1 + 1) ∧ RI y s.2.2.2.2 ∧ F3 g s.2.2.2.2 ∧ s.2.2.2.2 3 9 = g 3 9) ∧ s.2.2.2.1 + 1 = s.2.2.2.1 + 1 from ⟨⟨?_, ?_, bn, q4, q5, q6⟩, rfl⟩)
        · exact ⟨q1.1, by rw [e1]; have := q1.2; omega⟩
        · exact ⟨by rw [e2]; have := q2.1; omega, by rw [e2, e1]; have := q2.2; omega⟩
      unfold sch
      rw [if_pos ix]
      refine T.soU (fun v7 => ?_)
      refine T.cond (fun c2 => ?_) (fun c2 => ?_)
      · refine T.cond (fun c3 => hj _ q4 q5 q6) (fun c3 => ?_)
        refine T.cond (fun c4 => ?_) (fun c4 => hj _ q4 q5 q6)
        refine hj _ ?_ q5.ms (by rw [m3, if_neg (by decide)]; exact q6)
        obtain ⟨k1, k2, k3, k4⟩ := q4.2
        refine q4.set ⟨by rw [u_o (by decide)]; exact k1, by rw [u_o (by decide)]; exact k2, by rw [u_o (by decide)]; exact k3, fun e => ?_⟩
        rw [u_s] at e
        have := b1.1
        rw [e] at this
        exact absurd this (by decide)
      · refine T.cond (fun c3 => hk 0) (fun c3 => ?_)
        refine T.cond (fun c4 => hk 0) (fun c4 => ?_)
        have b9 : B 0 699 s.2.1 := B.nler c4 q4.2.2.2.1 b7 (by decide)
        refine T.rdU (B.ib b9 (by decide)) (fun v13 => ?_)
        exact T.cond (fun c5 => hk 1) (fun c5 => hk 0)
    · show B 0 (700 + (0 : Int32).toInt) (mset m 3 6 100 3 4)
      rw [s0]
      exact h1.2.2.1
theorem t_Reader_isDigitX {p0 : Int32} {g : Mem} : T (sp_Reader_isDigit p0 g) (fun r => B 0 1 r ∧ (¬ r = 0 → B 48 57 p0)) := by
  unfold sp_Reader_isDigit
  refine T.cond (fun c => T.some' ⟨b01, fun h => absurd rfl h⟩) (fun c => ?_)
  refine T.cond (fun c2 => T.some' ⟨b01, fun h => absurd rfl h⟩) (fun c2 => T.some' ⟨b11, fun _ => ?_⟩)
  have h1 : B 48 2147483647 p0 := B.nltl c (B.any p0) (show B 48 48 (48 : Int32) from ⟨by decide, by decide⟩) (by decide)
  exact B.nltr c2 (show B 57 57 (57 : Int32) from ⟨by decide, by decide⟩) h1 (by decide)
theorem t_Reader_isDigit {p0 : Int32} {g : Mem}  : T (sp_Reader_isDigit p0 g) (fun r => B 0 1 r) := by
  unfold sp_Reader_isDigit
  refine T.cond (fun c1 => ?_) (fun c1 => ?_)
  · have f2 : B (-2147483648) 47 (p0) := B.ltl c1 (B.any p0) (show B 48 48 (48 : Int32) from ⟨by decide, by decide⟩) (by decide)
    exact T.some' (show B 0 1 (0 : Int32) from (B.wk (show B 0 0 (0 : Int32) from ⟨by decide, by decide⟩) (by decide)))
  · have f3 : B 48 2147483647 (p0) := B.nltl c1 (B.any p0) (show B 48 48 (48 : Int32) from ⟨by decide, by decide⟩) (by decide)
    refine T.cond (fun c4 => ?_) (fun c4 => ?_)
    · have f5 : B 58 2147483647 (p0) := B.ltr c4 (show B 57 57 (57 : Int32) from ⟨by decide, by decide⟩) f3 (by decide)
      exact T.some' (show B 0 1 (0 : Int32) from (B.wk (show B 0 0 (0 : Int32) from ⟨by decide, by decide⟩) (by decide)))
    · have f6 : B 48 57 (p0) := B.nltr c4 (show B 57 57 (57 : Int32) from ⟨by decide, by decide⟩) f3 (by decide)
      exact T.some' (show B 0 1 (1 : Int32) from (B.wk (show B 1 1 (1 : Int32) from ⟨by decide, by decide⟩) (by decide)))
def DG (S i n : Int) : Prop := (i = S → n = 0) ∧ (i = S + 1 → 0 ≤ n ∧ n ≤ 9) ∧ (i = S + 2 → 0 ≤ n ∧ n ≤ 99) ∧ (i = S + 3 → 0 ≤ n ∧ n ≤ 999) ∧ (i = S + 4 → 0 ≤ n ∧ n ≤ 9999)
def DI (y : Int32 × Int32) (g : Mem) (s : Int32 × Mem) : Prop := (B 0 700 s.1 ∧ (g 3 4).toInt ≤ s.1.toInt) ∧ Inv (y.1, y.2, s.2 3) s.2 ∧ B 0 700 (s.2 3 3) ∧ s.2 3 4 = g 3 4 ∧ s.2 3 5 = s.1 ∧ F3 g s.2 ∧ s.2 3 9 = g 3 9 ∧ DG (g 3 4).toInt s.1.toInt (s.2 3 7).toInt
theorem t_Reader_takeDigits {y : Int32 × Int32} {F : Nat} {g : Mem} (hF : 4294967296 < F) (hR : RIw y g) (hs : B 0 699 (g 3 4)) (he : g 3 5 = g 3 4) : T (sp_Reader_takeDigits F g) (fun r => RI y r ∧ F3 g r ∧ r 3 9 = g 3 9) := by
  unfold sp_Reader_takeDigits
  have i0 : DI y g (mset g 3 7 0 3 4, mset g 3 7 0) := by
    have e4 : mset g 3 7 0 3 4 = g 3 4 := by rw [m3, if_neg (by decide)]
    have e7 : mset g 3 7 0 3 7 = 0 := by rw [m3, if_pos rfl]
    refine ⟨⟨by rw [e4]; exact hs.wk (by decide), by rw [e4]; exact Int.le_refl _⟩, ?_, by show B 0 700 (mset g 3 7 0 3 3); rw [m3, if_neg (by decide)]; exact hR.2.1, e4, by show mset g 3 7 0 3 5 = mset g 3 7 0 3 4; rw [e4, m3, if_neg (by decide)]; exact he, F3.rf.ms, by show mset g 3 7 0 3 9 = g 3 9; rw [m3, if_neg (by decide)], ?_⟩
    · show Inv (y.1, y.2, mset g 3 7 0 3) (mset g 3 7 0)
      rw [show mset g 3 7 0 3 = upd (g 3) 7 0 from mrow_self g 3 _]
      exact hR.1.set3
    · show DG (g 3 4).toInt (mset g 3 7 0 3 4).toInt (mset g 3 7 0 3 7).toInt
      rw [e4, e7]
      have e0 : (0 : Int32).toInt = 0 := by decide
      rw [e0]
      refine ⟨fun _ => rfl, fun h => by omega, fun h => by omega, fun h => by omega, fun h => by omega⟩
  refine T.callB (P := fun m => ∃ i, DI y g (i, m)) (T.lpc (J := DI y g) (Q := fun m => ∃ i, DI y g (i, m)) (fun s => s.1) 0 700 (by decide) (fun s h => h.1.1) (fun s h => ?_) F _ i0 hF) (fun m hm => ?_)
  · obtain ⟨⟨h1, h0⟩, h2, h3, h4, h5, h6, h7, h8⟩ := id h
    unfold st_Reader_takeDigits_10
    refine T.cond (fun c => T.some' (show ∃ i, DI y g (i, s.2) from ⟨s.1, h⟩)) (fun c => ?_)
    have b : B 0 699 s.1 := B.nler c h3 h1 (by decide)
    refine T.rdB (B.ib b (by decide)) ?_
    refine T.callB t_Reader_isDigitX (fun v3 hv3 => ?_)
    refine T.cond (fun c2 => T.some' (show ∃ i, DI y g (i, s.2) from ⟨s.1, h⟩)) (fun c2 => ?_)
    have bd := hv3.2 c2
    refine T.rdB (B.ib b (by decide)) ?_
    have e1 : (s.1 + 1).toInt = s.1.toInt + 1 := B.add_eq b (show B 1 1 (1 : Int32) from ⟨by decide, by decide⟩) (by decide)
    have b1 : B 0 700 (s.1 + 1) := B.add b (show B 1 1 (1 : Int32) from ⟨by decide, by decide⟩) (by decide)
    refine T.some' (show DI y g (s.1 + 1, _) ∧ s.1 + 1 = s.1 + 1 from ⟨⟨⟨b1, by rw [e1]; omega⟩, ?_, ?_, ?_, ?_, h6.ms.ms, ?_, ?_⟩, rfl⟩)
    · show Inv (y.1, y.2, mset (mset s.2 3 7 (s.2 3 7 * 10 + s.2 1 s.1.toNatClampNeg - 48)) 3 5 (s.1 + 1) 3) (mset (mset s.2 3 7 (s.2 3 7 * 10 + s.2 1 s.1.toNatClampNeg - 48)) 3 5 (s.1 + 1))
      rw [show ∀ (m : Mem) (k : Nat) (x : Int32), mset m 3 k x 3 = upd (m 3) k x from fun m k x => mrow_self m 3 _]
      exact Inv.set3 (Inv.set3 h2)
    · show B 0 700 (mset (mset s.2 3 7 (s.2 3 7 * 10 + s.2 1 s.1.toNatClampNeg - 48)) 3 5 (s.1 + 1) 3 3)
      rw [m3, if_neg (by decide), m3, if_neg (by decide)]
      exact h3
    · show mset (mset s.2 3 7 (s.2 3 7 * 10 + s.2 1 s.1.toNatClampNeg - 48)) 3 5 (s.1 + 1) 3 4 = g 3 4
      rw [m3, if_neg (by decide), m3, if_neg (by decide)]
      exact h4
    · show mset (mset s.2 3 7 (s.2 3 7 * 10 + s.2 1 s.1.toNatClampNeg - 48)) 3 5 (s.1 + 1) 3 5 = s.1 + 1
      rw [m3, if_pos rfl]
    · show mset (mset s.2 3 7 (s.2 3 7 * 10 + s.2 1 s.1.toNatClampNeg - 48)) 3 5 (s.1 + 1) 3 9 = g 3 9
      rw [m3, if_neg (by decide), m3, if_neg (by decide)]
      exact h7
    · show DG (g 3 4).toInt (s.1 + 1).toInt (mset (mset s.2 3 7 (s.2 3 7 * 10 + s.2 1 s.1.toNatClampNeg - 48)) 3 5 (s.1 + 1) 3 7).toInt
      rw [m3, if_neg (by decide), m3, if_pos rfl, e1]
      have key : ∀ (u : Int), 0 ≤ (s.2 3 7).toInt → (s.2 3 7).toInt ≤ u → u ≤ 999 → 0 ≤ (s.2 3 7 * 10 + s.2 1 s.1.toNatClampNeg - 48).toInt ∧ (s.2 3 7 * 10 + s.2 1 s.1.toNatClampNeg - 48).toInt ≤ u * 10 + 9 := fun u u1 u2 u3 => by
        have n0 : B 0 999 (s.2 3 7) := ⟨u1, by omega⟩
        have t10 : B 10 10 (10 : Int32) := ⟨by decide, by decide⟩
        have t48 : B 48 48 (48 : Int32) := ⟨by decide, by decide⟩
        have m1 : B 0 9990 (s.2 3 7 * 10) := B.mul n0 t10 (by decide)
        have m2 : B 48 10047 (s.2 3 7 * 10 + s.2 1 s.1.toNatClampNeg) := B.add m1 bd (by decide)
        have q1 := B.mul_eq n0 t10 (by decide)
        have q2 := B.add_eq m1 bd (by decide)
        have q3 := B.sub_eq m2 t48 (by decide)
        have q4 : (10 : Int32).toInt = 10 := by decide
        have q5 : (48 : Int32).toInt = 48 := by decide
        rw [q3, q2, q1, q4, q5]
        have := bd.1
        have := bd.2
        omega
      obtain ⟨d0, d1, d2, d3, d4⟩ := h8
      refine ⟨fun e => by omega, fun e => ?_, fun e => ?_, fun e => ?_, fun e => ?_⟩
      · have z := d0 (by omega)
        have := key 0 (by omega) (by omega) (by omega)
        omega
      · have z := d1 (by omega)
        have := key 9 (by omega) (by omega) (by omega)
        omega
      · have z := d2 (by omega)
        have := key 99 (by omega) (by omega) (by omega)
        omega
      · have z := d3 (by omega)
        have := key 999 (by omega) (by omega) (by omega)
        omega
  · obtain ⟨i, ⟨h1, h0⟩, h2, h3, h4, h5, h6, h7, h8⟩ := hm
    dsimp only at h1 h0 h2 h3 h4 h5 h6 h7 h8
    unfold sp_Reader_takeDigits_j64
    have fin : ∀ (t : Int32), (t = 3 → 0 ≤ (m 3 7).toInt) → RI y (mset m 3 6 t) ∧ F3 g (mset m 3 6 t) ∧ mset m 3 6 t 3 9 = g 3 9 := fun t ht => by
      refine ⟨⟨?_, ?_⟩, h6.ms, by rw [m3, if_neg (by decide)]; exact h7⟩
      · rw [show mset m 3 6 t 3 = upd (m 3) 6 t from mrow_self m 3 _]
        exact h2.set3
      · rw [show mset m 3 6 t 3 = upd (m 3) 6 t from mrow_self m 3 _]
        refine ⟨by rw [u_o (by decide)]; exact h3, by rw [u_o (by decide), h4]; exact hs.wk (by decide), by rw [u_o (by decide), h5]; exact h1, fun e => ?_⟩
        rw [u_s] at e
        rw [u_o (by decide)]
        exact ht e
    refine T.cond (fun c => T.some' (fin 3 (fun _ => ?_))) (fun c => T.some' (fin 4 (fun e => absurd e (by decide))))
    have e9 : (m 3 5 - m 3 4).toInt = i.toInt - (g 3 4).toInt := by
      rw [h5, h4]
      exact B.sub_eq h1 hs (by decide)
    have c' := ile.mp c
    have e4 : (4 : Int32).toInt = 4 := by decide
    rw [e9, e4] at c'
    obtain ⟨d0, d1, d2, d3, d4⟩ := h8
    have h10 : i.toInt = (g 3 4).toInt ∨ i.toInt = (g 3 4).toInt + 1 ∨ i.toInt = (g 3 4).toInt + 2 ∨ i.toInt = (g 3 4).toInt + 3 ∨ i.toInt = (g 3 4).toInt + 4 := by omega
    rcases h10 with h | h | h | h | h
    · have := d0 h; omega
    · exact (d1 h).1
    · exact (d2 h).1
    · exact (d3 h).1
    · exact (d4 h).1
theorem t_Reader_isSignX {p0 : Int32} {g : Mem} : T (sp_Reader_isSign p0 g) (fun r => B 0 1 r ∧ (¬ r = 0 → B 40 61 p0)) := by
  unfold sp_Reader_isSign
  refine T.cond (fun c => T.some' ⟨b11, fun _ => by rw [c]; exact ⟨by decide, by decide⟩⟩) (fun _ => ?_)
  refine T.cond (fun c => T.some' ⟨b11, fun _ => by rw [c]; exact ⟨by decide, by decide⟩⟩) (fun _ => ?_)
  refine T.cond (fun c => T.some' ⟨b11, fun _ => by rw [c]; exact ⟨by decide, by decide⟩⟩) (fun _ => ?_)
  refine T.cond (fun c => T.some' ⟨b11, fun _ => by rw [c]; exact ⟨by decide, by decide⟩⟩) (fun _ => ?_)
  refine T.cond (fun c => T.some' ⟨b01, fun h => absurd rfl h⟩) (fun _ => ?_)
  refine T.cond (fun c => T.some' ⟨b11, fun _ => by rw [c]; exact ⟨by decide, by decide⟩⟩) (fun _ => ?_)
  refine T.cond (fun c => T.some' ⟨b01, fun h => absurd rfl h⟩) (fun _ => ?_)
  refine T.cond (fun c => T.some' ⟨b11, fun _ => by rw [c]; exact ⟨by decide, by decide⟩⟩) (fun _ => ?_)
  refine T.cond (fun c => T.some' ⟨b01, fun h => absurd rfl h⟩) (fun _ => ?_)
  refine T.cond (fun c => T.some' ⟨b01, fun h => absurd rfl h⟩) (fun _ => ?_)
  refine T.cond (fun c => T.some' ⟨b01, fun h => absurd rfl h⟩) (fun _ => ?_)
  refine T.cond (fun c => T.some' ⟨b01, fun h => absurd rfl h⟩) (fun _ => ?_)
  refine T.cond (fun c => T.some' ⟨b01, fun h => absurd rfl h⟩) (fun _ => ?_)
  refine T.cond (fun c => T.some' ⟨b01, fun h => absurd rfl h⟩) (fun _ => ?_)
  refine T.cond (fun c => T.some' ⟨b01, fun h => absurd rfl h⟩) (fun _ => ?_)
  refine T.cond (fun c => T.some' ⟨b01, fun h => absurd rfl h⟩) (fun _ => ?_)
  refine T.cond (fun c => T.some' ⟨b01, fun h => absurd rfl h⟩) (fun _ => ?_)
  refine T.cond (fun c => T.some' ⟨b01, fun h => absurd rfl h⟩) (fun _ => ?_)
  refine T.cond (fun c => T.some' ⟨b01, fun h => absurd rfl h⟩) (fun _ => ?_)
  refine T.cond (fun c => T.some' ⟨b11, fun _ => by rw [c]; exact ⟨by decide, by decide⟩⟩) (fun _ => ?_)
  refine T.cond (fun c => T.some' ⟨b11, fun _ => by rw [c]; exact ⟨by decide, by decide⟩⟩) (fun _ => ?_)
  refine T.cond (fun c => T.some' ⟨b11, fun _ => by rw [c]; exact ⟨by decide, by decide⟩⟩) (fun _ => ?_)
  exact T.some' ⟨b01, fun h => absurd rfl h⟩
theorem t_Reader_isSign {p0 : Int32} {g : Mem}  : T (sp_Reader_isSign p0 g) (fun r => B 0 1 r) := by
  unfold sp_Reader_isSign
  refine T.cond (fun c1 => ?_) (fun c1 => ?_)
  · have f2 : B 40 40 (p0) := B.eql c1 (B.any p0) (show B 40 40 (40 : Int32) from ⟨by decide, by decide⟩) (by decide)
    exact T.some' (show B 0 1 (1 : Int32) from (B.wk (show B 1 1 (1 : Int32) from ⟨by decide, by decide⟩) (by decide)))
  · refine T.cond (fun c3 => ?_) (fun c3 => ?_)
    · have f4 : B 41 41 (p0) := B.eql c3 (B.any p0) (show B 41 41 (41 : Int32) from ⟨by decide, by decide⟩) (by decide)
      exact T.some' (show B 0 1 (1 : Int32) from (B.wk (show B 1 1 (1 : Int32) from ⟨by decide, by decide⟩) (by decide)))
    · refine T.cond (fun c5 => ?_) (fun c5 => ?_)
      · have f6 : B 42 42 (p0) := B.eql c5 (B.any p0) (show B 42 42 (42 : Int32) from ⟨by decide, by decide⟩) (by decide)
        exact T.some' (show B 0 1 (1 : Int32) from (B.wk (show B 1 1 (1 : Int32) from ⟨by decide, by decide⟩) (by decide)))
      · refine T.cond (fun c7 => ?_) (fun c7 => ?_)
        · have f8 : B 43 43 (p0) := B.eql c7 (B.any p0) (show B 43 43 (43 : Int32) from ⟨by decide, by decide⟩) (by decide)
          exact T.some' (show B 0 1 (1 : Int32) from (B.wk (show B 1 1 (1 : Int32) from ⟨by decide, by decide⟩) (by decide)))
        · refine T.cond (fun c9 => ?_) (fun c9 => ?_)
          · have f10 : B 44 44 (p0) := B.eql c9 (B.any p0) (show B 44 44 (44 : Int32) from ⟨by decide, by decide⟩) (by decide)
            exact T.some' (show B 0 1 (0 : Int32) from (B.wk (show B 0 0 (0 : Int32) from ⟨by decide, by decide⟩) (by decide)))
          · refine T.cond (fun c11 => ?_) (fun c11 => ?_)
            · have f12 : B 45 45 (p0) := B.eql c11 (B.any p0) (show B 45 45 (45 : Int32) from ⟨by decide, by decide⟩) (by decide)
              exact T.some' (show B 0 1 (1 : Int32) from (B.wk (show B 1 1 (1 : Int32) from ⟨by decide, by decide⟩) (by decide)))
            · refine T.cond (fun c13 => ?_) (fun c13 => ?_)
              · have f14 : B 46 46 (p0) := B.eql c13 (B.any p0) (show B 46 46 (46 : Int32) from ⟨by decide, by decide⟩) (by decide)
                exact T.some' (show B 0 1 (0 : Int32) from (B.wk (show B 0 0 (0 : Int32) from ⟨by decide, by decide⟩) (by decide)))
              · refine T.cond (fun c15 => ?_) (fun c15 => ?_)
                · have f16 : B 47 47 (p0) := B.eql c15 (B.any p0) (show B 47 47 (47 : Int32) from ⟨by decide, by decide⟩) (by decide)
                  exact T.some' (show B 0 1 (1 : Int32) from (B.wk (show B 1 1 (1 : Int32) from ⟨by decide, by decide⟩) (by decide)))
                · refine T.cond (fun c17 => ?_) (fun c17 => ?_)
                  · have f18 : B 48 48 (p0) := B.eql c17 (B.any p0) (show B 48 48 (48 : Int32) from ⟨by decide, by decide⟩) (by decide)
                    exact T.some' (show B 0 1 (0 : Int32) from (B.wk (show B 0 0 (0 : Int32) from ⟨by decide, by decide⟩) (by decide)))
                  · refine T.cond (fun c19 => ?_) (fun c19 => ?_)
                    · have f20 : B 49 49 (p0) := B.eql c19 (B.any p0) (show B 49 49 (49 : Int32) from ⟨by decide, by decide⟩) (by decide)
                      exact T.some' (show B 0 1 (0 : Int32) from (B.wk (show B 0 0 (0 : Int32) from ⟨by decide, by decide⟩) (by decide)))
                    · refine T.cond (fun c21 => ?_) (fun c21 => ?_)
                      · have f22 : B 50 50 (p0) := B.eql c21 (B.any p0) (show B 50 50 (50 : Int32) from ⟨by decide, by decide⟩) (by decide)
                        exact T.some' (show B 0 1 (0 : Int32) from (B.wk (show B 0 0 (0 : Int32) from ⟨by decide, by decide⟩) (by decide)))
                      · refine T.cond (fun c23 => ?_) (fun c23 => ?_)
                        · have f24 : B 51 51 (p0) := B.eql c23 (B.any p0) (show B 51 51 (51 : Int32) from ⟨by decide, by decide⟩) (by decide)
                          exact T.some' (show B 0 1 (0 : Int32) from (B.wk (show B 0 0 (0 : Int32) from ⟨by decide, by decide⟩) (by decide)))
                        · refine T.cond (fun c25 => ?_) (fun c25 => ?_)
                          · have f26 : B 52 52 (p0) := B.eql c25 (B.any p0) (show B 52 52 (52 : Int32) from ⟨by decide, by decide⟩) (by decide)
                            exact T.some' (show B 0 1 (0 : Int32) from (B.wk (show B 0 0 (0 : Int32) from ⟨by decide, by decide⟩) (by decide)))
                          · refine T.cond (fun c27 => ?_) (fun c27 => ?_)
                            · have f28 : B 53 53 (p0) := B.eql c27 (B.any p0) (show B 53 53 (53 : Int32) from ⟨by decide, by decide⟩) (by decide)
                              exact T.some' (show B 0 1 (0 : Int32) from (B.wk (show B 0 0 (0 : Int32) from ⟨by decide, by decide⟩) (by decide)))
                            · refine T.cond (fun c29 => ?_) (fun c29 => ?_)
                              · have f30 : B 54 54 (p0) := B.eql c29 (B.any p0) (show B 54 54 (54 : Int32) from ⟨by decide, by decide⟩) (by decide)
                                exact T.some' (show B 0 1 (0 : Int32) from (B.wk (show B 0 0 (0 : Int32) from ⟨by decide, by decide⟩) (by decide)))
                              · refine T.cond (fun c31 => ?_) (fun c31 => ?_)
                                · have f32 : B 55 55 (p0) := B.eql c31 (B.any p0) (show B 55 55 (55 : Int32) from ⟨by decide, by decide⟩) (by decide)
                                  exact T.some' (show B 0 1 (0 : Int32) from (B.wk (show B 0 0 (0 : Int32) from ⟨by decide, by decide⟩) (by decide)))
                                · refine T.cond (fun c33 => ?_) (fun c33 => ?_)
                                  · have f34 : B 56 56 (p0) := B.eql c33 (B.any p0) (show B 56 56 (56 : Int32) from ⟨by decide, by decide⟩) (by decide)
                                    exact T.some' (show B 0 1 (0 : Int32) from (B.wk (show B 0 0 (0 : Int32) from ⟨by decide, by decide⟩) (by decide)))
                                  · refine T.cond (fun c35 => ?_) (fun c35 => ?_)
                                    · have f36 : B 57 57 (p0) := B.eql c35 (B.any p0) (show B 57 57 (57 : Int32) from ⟨by decide, by decide⟩) (by decide)
                                      exact T.some' (show B 0 1 (0 : Int32) from (B.wk (show B 0 0 (0 : Int32) from ⟨by decide, by decide⟩) (by decide)))
                                    · refine T.cond (fun c37 => ?_) (fun c37 => ?_)
                                      · have f38 : B 58 58 (p0) := B.eql c37 (B.any p0) (show B 58 58 (58 : Int32) from ⟨by decide, by decide⟩) (by decide)
                                        exact T.some' (show B 0 1 (0 : Int32) from (B.wk (show B 0 0 (0 : Int32) from ⟨by decide, by decide⟩) (by decide)))
                                      · refine T.cond (fun c39 => ?_) (fun c39 => ?_)
                                        · have f40 : B 59 59 (p0) := B.eql c39 (B.any p0) (show B 59 59 (59 : Int32) from ⟨by decide, by decide⟩) (by decide)
                                          exact T.some' (show B 0 1 (1 : Int32) from (B.wk (show B 1 1 (1 : Int32) from ⟨by decide, by decide⟩) (by decide)))
                                        · refine T.cond (fun c41 => ?_) (fun c41 => ?_)
                                          · have f42 : B 60 60 (p0) := B.eql c41 (B.any p0) (show B 60 60 (60 : Int32) from ⟨by decide, by decide⟩) (by decide)
                                            exact T.some' (show B 0 1 (1 : Int32) from (B.wk (show B 1 1 (1 : Int32) from ⟨by decide, by decide⟩) (by decide)))
                                          · refine T.cond (fun c43 => ?_) (fun c43 => ?_)
                                            · have f44 : B 61 61 (p0) := B.eql c43 (B.any p0) (show B 61 61 (61 : Int32) from ⟨by decide, by decide⟩) (by decide)
                                              exact T.some' (show B 0 1 (1 : Int32) from (B.wk (show B 1 1 (1 : Int32) from ⟨by decide, by decide⟩) (by decide)))
                                            · exact T.some' (show B 0 1 (0 : Int32) from (B.wk (show B 0 0 (0 : Int32) from ⟨by decide, by decide⟩) (by decide)))
theorem t_Reader_advance_j46 {y : Int32 × Int32} {F : Nat} {g m0 : Mem} (hF : 4294967296 < F) (hR : RIw y m0) : T (sp_Reader_advance_j46 F g m0) (fun r => RI y r ∧ F3 m0 r ∧ r 3 9 = m0 3 9) := by
  have i1 : RIw y (mset m0 3 5 (m0 3 4)) := by
    obtain ⟨k1, k2, k3⟩ := hR.2
    exact hR.set ⟨by rw [u_o (by decide)]; exact k1, by rw [u_o (by decide)]; exact k2, by rw [u_s]; exact k2⟩
  have f1 : F3 m0 (mset m0 3 5 (m0 3 4)) := F3.rf.ms
  have n1 : mset m0 3 5 (m0 3 4) 3 9 = m0 3 9 := by rw [m3, if_neg (by decide)]
  have s1 : mset m0 3 5 (m0 3 4) 3 5 = mset m0 3 5 (m0 3 4) 3 4 := by rw [m3, if_pos rfl, m3, if_neg (by decide)]
  unfold sp_Reader_advance_j46
  generalize mset m0 3 5 (m0 3 4) = m at i1 f1 n1 s1 ⊢
  have tok : ∀ (t : Int32), ¬ t = 3 → B 0 699 (m 3 4) → RI y (mset (mset m 3 6 t) 3 5 (mset m 3 6 t 3 4 + 1)) ∧ F3 m0 (mset (mset m 3 6 t) 3 5 (mset m 3 6 t 3 4 + 1)) ∧ mset (mset m 3 6 t) 3 5 (mset m 3 6 t 3 4 + 1) 3 9 = m0 3 9 := fun t ht hb => by
    have e4 : mset m 3 6 t 3 4 = m 3 4 := by rw [m3, if_neg (by decide)]
    rw [e4]
    have b1 : B 0 700 (m 3 4 + 1) := B.add hb (show B 1 1 (1 : Int32) from ⟨by decide, by decide⟩) (by decide)
    refine ⟨?_, f1.ms.ms, by rw [m3, if_neg (by decide), m3, if_neg (by decide)]; exact n1⟩
    have j1 : RI y (mset m 3 6 t) := i1.tok ht
    obtain ⟨q1, q2, q3, q4⟩ := j1.2
    refine j1.set ⟨by rw [u_o (by decide)]; exact q1, by rw [u_o (by decide)]; exact q2, by rw [u_s]; exact b1, fun e => ?_⟩
    rw [u_o (by decide)] at e ⊢
    exact q4 e
  refine T.cond (fun c => ?_) (fun c => ?_)
  · have hb : B 0 699 (m 3 4) := B.ltl c i1.2.2.1 i1.2.1 (by decide)
    have ib := B.ib (n := 700) hb (by decide)
    refine T.rdB ib ?_
    refine T.callB t_Reader_isLetter (fun v8 _ => ?_)
    refine T.cond (fun c2 => ?_) (fun c2 => ?_)
    · refine T.rdB ib ?_
      refine T.callB t_Reader_isDigitX (fun v11 _ => ?_)
      refine T.cond (fun c3 => ?_) (fun c3 => ?_)
      · refine T.rdB ib ?_
        refine T.callB t_Reader_isSignX (fun v14 h14 => ?_)
        refine T.cond (fun c4 => T.some' (tok 2 (by decide) hb)) (fun c4 => ?_)
        refine T.rdB ib (T.some' (tok _ (fun e => ?_) hb))
        have := (h14.2 c4).1
        rw [e] at this
        exact absurd this (by decide)
      · refine T.callB (t_Reader_takeDigits hF i1 hb s1) (fun v17 h17 => T.some' ⟨h17.1, f1.tr h17.2.1, h17.2.2.trans n1⟩)
    · exact T.callB (t_Reader_takeWord hF i1 hb) (fun v18 h18 => T.some' ⟨h18.1, f1.tr h18.2.1, h18.2.2.trans n1⟩)
  · exact T.some' ⟨i1.tok (by decide), f1.ms, by rw [m3, if_neg (by decide)]; exact n1⟩
theorem t_Reader_advanceW {y : Int32 × Int32} {F : Nat} {g : Mem} (hF : 4294967296 < F) (hI : Inv (y.1, y.2, g 3) g) (b3 : B 0 700 (g 3 3)) (b5 : B 0 700 (g 3 5)) : T (sp_Reader_advance F g) (fun r => RI y r ∧ F3 g r ∧ r 3 9 = g 3 9) := by
  unfold sp_Reader_advance
  have e5 : mset g 3 4 (g 3 5) 3 5 = g 3 5 := by rw [m3, if_neg (by decide)]
  have i0 : RIw y (mset g 3 4 (g 3 5)) := by
    refine ⟨hI.ms3, ?_⟩
    rw [show mset g 3 4 (g 3 5) 3 = upd (g 3) 4 (g 3 5) from mrow_self g 3 _]
    exact ⟨by rw [u_o (by decide)]; exact b3, by rw [u_s]; exact b5, by rw [u_o (by decide)]; exact b5⟩
  have up4 : ∀ (m : Mem) (x : Int32), RIw y m → B 0 700 x → RIw y (mset m 3 4 x) := fun m x hm hx => by
    obtain ⟨k1, k2, k3⟩ := hm.2
    exact hm.set ⟨by rw [u_o (by decide)]; exact k1, by rw [u_s]; exact hx, by rw [u_o (by decide)]; exact k3⟩
  refine T.callB (P := fun m => RIw y m ∧ F3 g m ∧ m 3 9 = g 3 9) (T.lpc (J := fun s => B 0 700 s.1 ∧ RIw y s.2 ∧ F3 g s.2 ∧ s.2 3 9 = g 3 9) (Q := fun m => RIw y m ∧ F3 g m ∧ m 3 9 = g 3 9) (fun s => s.1) 0 700 (by decide) (fun s h => h.1) (fun s h => ?_) F _ ⟨by show B 0 700 (mset g 3 4 (g 3 5) 3 5); rw [e5]; exact b5, i0, F3.rf.ms, by show mset g 3 4 (g 3 5) 3 9 = _; rw [m3, if_neg (by decide)]⟩ hF) (fun m hm => ?_)
  · obtain ⟨h1, h2, h3, h4⟩ := h
    unfold st_Reader_advance_13
    refine T.cond (fun c => T.some' ⟨h2, h3, h4⟩) (fun c => ?_)
    have b : B 0 699 s.1 := B.nler c h2.2.1 h1 (by decide)
    refine T.rdU (B.ib b (by decide)) (fun v2 => ?_)
    refine T.callB t_Reader_isBlank (fun v3 _ => ?_)
    refine T.cond (fun c2 => T.some' ⟨h2, h3, h4⟩) (fun c2 => ?_)
    have b1 : B 0 700 (s.1 + 1) := B.add b (show B 1 1 (1 : Int32) from ⟨by decide, by decide⟩) (by decide)
    exact T.some' (show (B 0 700 (s.1 + 1) ∧ RIw y _ ∧ F3 g _ ∧ mset s.2 3 4 (s.1 + 1) 3 9 = g 3 9) ∧ s.1 + 1 = s.1 + 1 from ⟨⟨b1, up4 _ _ h2 b1, h3.ms, by rw [m3, if_neg (by decide)]; exact h4⟩, rfl⟩)
  · exact T.mono (t_Reader_advance_j46 hF hm.1) (fun r hr => ⟨hr.1, hm.2.1.tr hr.2.1, hr.2.2.trans hm.2.2⟩)
theorem t_Reader_advance {y : Int32 × Int32} {F : Nat} {g : Mem} (hF : 4294967296 < F) (hR : RI y g) : T (sp_Reader_advance F g) (fun r => RI y r ∧ F3 g r ∧ r 3 9 = g 3 9) := t_Reader_advanceW hF hR.1 hR.2.1 hR.2.2.2.1
theorem t_Reader_fail {y : Int32 × Int32} {p0 : Int32} {g : Mem} (hp : ¬ p0 = 0) (hR : RI y g) : T (sp_Reader_fail p0 g) (fun r => RI y r ∧ F3 g r ∧ ¬ r 3 9 = 0) := by
  unfold sp_Reader_fail
  refine T.cond (fun c => T.some' ⟨(hR.f3 (by decide)).f3 (by decide), F3.rf.ms.ms, by rw [m3, if_neg (by decide), m3, if_pos rfl]; exact hp⟩) (fun c => T.some' ⟨hR, F3.rf, c⟩)
theorem t_Reader_needNumber {y : Int32 × Int32} {g : Mem} (hR : RI y g) : T (sp_Reader_needNumber g) (fun r => RI y r ∧ F3 g r ∧ (r 3 9 = 0 → 0 ≤ (r 3 7).toInt)) := by
  unfold sp_Reader_needNumber
  refine T.cond (fun c => T.callB (t_Reader_fail (by decide) hR) (fun v hv => T.some' ⟨hv.1, hv.2.1, fun h => absurd h hv.2.2⟩)) (fun c => ?_)
  refine T.cond (fun c2 => T.some' ⟨hR, F3.rf, fun _ => hR.2.2.2.2 c2⟩) (fun c2 => T.callB (t_Reader_fail (by decide) hR) (fun v hv => T.some' ⟨hv.1, hv.2.1, fun h => absurd h hv.2.2⟩))
theorem t_Reader_expect {y : Int32 × Int32} {F : Nat} {p0 : Int32} {g : Mem} (hF : 4294967296 < F) (hp0 : B 41 60 p0) (hIg : RI y g) : T (sp_Reader_expect F p0 g) (fun r => RI y r) := by
  unfold sp_Reader_expect
  refine T.cond (fun c1 => ?_) (fun c1 => ?_)
  · have f2 : B 0 0 (g 3 9) := B.eql c1 (B.any (g 3 9)) (show B 0 0 (0 : Int32) from ⟨by decide, by decide⟩) (by decide)
    refine T.cond (fun c3 => ?_) (fun c3 => ?_)
    · have f4 : B 41 60 (g 3 6) := B.eql c3 (B.any (g 3 6)) hp0 (by decide)
      refine T.callB (t_Reader_advance hF hIg) (fun v3 h5 => ?_)
      exact T.some' (show RI y v3 from h5.1)
    · refine T.callB (t_Reader_fail (by decide) hIg) (fun v4 h6 => ?_)
      exact T.some' (show RI y v4 from h6.1)
  · exact T.some' (show RI y g from hIg)
theorem t_Reader_canBegin {z : Zt} {g : Mem} (hIg : Inv z g) : T (sp_Reader_canBegin g) (fun r => B 0 1 r) := by
  unfold sp_Reader_canBegin
  refine T.cond (fun c1 => ?_) (fun c1 => ?_)
  · have f2 : B 3 3 (g 3 6) := B.eql c1 (B.any (g 3 6)) (show B 3 3 (3 : Int32) from ⟨by decide, by decide⟩) (by decide)
    exact T.some' (show B 0 1 (1 : Int32) from (B.wk (show B 1 1 (1 : Int32) from ⟨by decide, by decide⟩) (by decide)))
  · refine T.cond (fun c3 => ?_) (fun c3 => ?_)
    · have f4 : B 4 4 (g 3 6) := B.eql c3 (B.any (g 3 6)) (show B 4 4 (4 : Int32) from ⟨by decide, by decide⟩) (by decide)
      exact T.some' (show B 0 1 (1 : Int32) from (B.wk (show B 1 1 (1 : Int32) from ⟨by decide, by decide⟩) (by decide)))
    · refine T.cond (fun c5 => ?_) (fun c5 => ?_)
      · have f6 : B 100 2147483647 (g 3 6) := B.ler c5 (show B 100 100 (100 : Int32) from ⟨by decide, by decide⟩) (B.any (g 3 6)) (by decide)
        exact T.some' (show B 0 1 (1 : Int32) from (B.wk (show B 1 1 (1 : Int32) from ⟨by decide, by decide⟩) (by decide)))
      · have f7 : B (-2147483648) 99 (g 3 6) := B.nler c5 (show B 100 100 (100 : Int32) from ⟨by decide, by decide⟩) (B.any (g 3 6)) (by decide)
        refine T.cond (fun c8 => ?_) (fun c8 => ?_)
        · have f9 : B 40 40 (g 3 6) := B.eql c8 f7 (show B 40 40 (40 : Int32) from ⟨by decide, by decide⟩) (by decide)
          exact T.some' (show B 0 1 (1 : Int32) from (B.wk (show B 1 1 (1 : Int32) from ⟨by decide, by decide⟩) (by decide)))
        · exact T.some' (show B 0 1 (0 : Int32) from (B.wk (show B 0 0 (0 : Int32) from ⟨by decide, by decide⟩) (by decide)))
theorem t_Reader_readPart_j101 {y : Int32 × Int32} {d : Int} {F : Nat} {E : Int32 → Mem → Option Mem} {nE : Nat} {p0 : Int32} {g : Mem} {m0 : Mem} (hF : 4294967296 < F) (hd : 0 ≤ d) (hE : ∀ (q : Int32) (m : Mem), B (d + 1) 7 q → RI y m → T (E q m) (fun r => RI y r)) (hp0 : B d 6 p0) (hIm0 : RI y m0) : T (sp_Reader_readPart_j101 F E nE p0 g m0) (fun r => RI y r) := by
  unfold sp_Reader_readPart_j101
  refine T.cond (fun c1 => ?_) (fun c1 => ?_)
  · have f2 : B (-2147483648) 99 (m0 3 6) := B.ltl c1 (B.any (m0 3 6)) (show B 100 100 (100 : Int32) from ⟨by decide, by decide⟩) (by decide)
    refine T.callB (t_Reader_needNumber hIm0) (fun v10 h3 => ?_)
    refine T.cond (fun c4 => ?_) (fun c4 => ?_)
    · have f5 : B 0 0 (v10 3 9) := B.eql c4 (B.any (v10 3 9)) (show B 0 0 (0 : Int32) from ⟨by decide, by decide⟩) (by decide)
      refine T.callB (t_Rule_add UP8 h3.1.1) (fun v12 h6 => ?_)
      refine T.callB (t_Reader_advance hF (h3.1.keep h6)) (fun v13 h7 => ?_)
      exact T.some' (show RI y v13 from h7.1)
    · exact T.some' (show RI y v10 from h3.1)
  · have f8 : B 100 2147483647 (m0 3 6) := B.nltl c1 (B.any (m0 3 6)) (show B 100 100 (100 : Int32) from ⟨by decide, by decide⟩) (by decide)
    refine T.callB (t_Reader_fail (by decide) hIm0) (fun v14 h9 => ?_)
    exact T.some' (show RI y v14 from h9.1)
theorem t_Reader_readPart {y : Int32 × Int32} {d : Int} {F : Nat} {E : Int32 → Mem → Option Mem} {nE : Nat} {p0 : Int32} {g : Mem} (hF : 4294967296 < F) (hd : 0 ≤ d) (hE : ∀ (q : Int32) (m : Mem), B (d + 1) 7 q → RI y m → T (E q m) (fun r => RI y r)) (hp0 : B d 6 p0) (hIg : RI y g) : T (sp_Reader_readPart F E nE p0 g) (fun r => RI y r) := by
  unfold sp_Reader_readPart
  refine T.cond (fun c1 => ?_) (fun c1 => ?_)
  · have f2 : B 40 40 (g 3 6) := B.eql c1 (B.any (g 3 6)) (show B 40 40 (40 : Int32) from ⟨by decide, by decide⟩) (by decide)
    refine T.callB (t_Reader_advance hF hIg) (fun v2 h3 => ?_)
    refine T.callB (hE _ _ (B.add hp0 (show B 1 1 (1 : Int32) from ⟨by decide, by decide⟩) ⟨by omega, by omega, by omega, by omega⟩) h3.1) (fun v3 h4 => ?_)
    refine T.callB (t_Reader_expect hF (B.wk (show B 41 41 (41 : Int32) from ⟨by decide, by decide⟩) (by decide)) h4) (fun v4 h5 => ?_)
    exact T.some' (show RI y v4 from h5)
  · refine T.cond (fun c6 => ?_) (fun c6 => ?_)
    · have f7 : B 111 111 (g 3 6) := B.eql c6 (B.any (g 3 6)) (show B 111 111 (111 : Int32) from ⟨by decide, by decide⟩) (by decide)
      refine T.callB (t_Rule_add UP8 hIg.1) (fun v6 h8 => ?_)
      refine T.callB (t_Reader_advance hF (hIg.keep h8)) (fun v7 h9 => ?_)
      exact T.some' (show RI y v7 from h9.1)
    · refine T.cond (fun c10 => ?_) (fun c10 => ?_)
      · have f11 : B (-2147483648) 118 (g 3 6) := B.ltl c10 (B.any (g 3 6)) (show B 119 119 (119 : Int32) from ⟨by decide, by decide⟩) (by decide)
        exact t_Reader_readPart_j101 hF hd hE hp0 hIg
      · have f12 : B 119 2147483647 (g 3 6) := B.nltl c10 (B.any (g 3 6)) (show B 119 119 (119 : Int32) from ⟨by decide, by decide⟩) (by decide)
        refine T.cond (fun c13 => ?_) (fun c13 => ?_)
        · have f14 : B 125 2147483647 (g 3 6) := B.ltr c13 (show B 124 124 (124 : Int32) from ⟨by decide, by decide⟩) f12 (by decide)
          exact t_Reader_readPart_j101 hF hd hE hp0 hIg
        · have f15 : B 119 124 (g 3 6) := B.nltr c13 (show B 124 124 (124 : Int32) from ⟨by decide, by decide⟩) f12 (by decide)
          refine T.callB (t_Rule_add UP8 hIg.1) (fun v16 h16 => ?_)
          refine T.callB (t_Reader_advance hF (hIg.keep h16)) (fun v17 h17 => ?_)
          exact T.some' (show RI y v17 from h17.1)
theorem t_Reader_readProduct_j55_7 {y : Int32 × Int32} {d : Int} {F : Nat} {E : Int32 → Mem → Option Mem} {nE : Nat} {p0 : Int32} {k1 : Int32} {g : Mem} {m0 : Mem} {x2 : Int32} {y0 : Int32} (hF : 4294967296 < F) (hd : 0 ≤ d) (hE : ∀ (q : Int32) (m : Mem), B (d + 1) 7 q → RI y m → T (E q m) (fun r => RI y r)) (hp0 : B d 6 p0) (hk1 : B d 6 k1) (hx2 : B 0 700 x2) (hy0 : B (-60) (-18) y0) (hIm0 : RI y m0) : T (sp_Reader_readProduct_j55_7 F E nE p0 k1 g m0 x2 y0) (LQ (J_Reader_readProduct_7 y) (Q_Reader_readProduct_7 y) (fun s => s.1) x2) := by
  unfold sp_Reader_readProduct_j55_7
  refine T.callB (t_Reader_advance hF hIm0) (fun v6 h1 => ?_)
  refine T.callB (t_Reader_readPart hF hd hE hk1 h1.1) (fun v7 h2 => ?_)
  refine T.callB (t_Rule_add UP8 h2.1) (fun v8 h3 => ?_)
  have b4 : B 1 701 (x2 + 1) := B.add hx2 (show B 1 1 (1 : Int32) from ⟨by decide, by decide⟩) (by decide)
  exact T.some' (show J_Reader_readProduct_7 y (x2 + 1, v8) ∧ x2 + 1 = x2 + 1 from ⟨⟨(B.wk b4 (by decide)), (h2.keep h3)⟩, rfl⟩)
theorem t_Reader_readProduct_j39_7 {y : Int32 × Int32} {d : Int} {F : Nat} {E : Int32 → Mem → Option Mem} {nE : Nat} {p0 : Int32} {k1 : Int32} {g : Mem} {m0 : Mem} {x2 : Int32} (hF : 4294967296 < F) (hd : 0 ≤ d) (hE : ∀ (q : Int32) (m : Mem), B (d + 1) 7 q → RI y m → T (E q m) (fun r => RI y r)) (hp0 : B d 6 p0) (hk1 : B d 6 k1) (hx2 : B 0 700 x2) (hIm0 : RI y m0) : T (sp_Reader_readProduct_j39_7 F E nE p0 k1 g m0 x2) (LQ (J_Reader_readProduct_7 y) (Q_Reader_readProduct_7 y) (fun s => s.1) x2) := by
  unfold sp_Reader_readProduct_j39_7
  refine T.cond (fun c1 => ?_) (fun c1 => ?_)
  · have f2 : B 42 42 (m0 3 6) := B.eql c1 (B.any (m0 3 6)) (show B 42 42 (42 : Int32) from ⟨by decide, by decide⟩) (by decide)
    exact t_Reader_readProduct_j55_7 hF hd hE hp0 hk1 hx2 (B.wk (show B (-18) (-18) (-18 : Int32) from ⟨by decide, by decide⟩) (by decide)) hIm0
  · exact t_Reader_readProduct_j55_7 hF hd hE hp0 hk1 hx2 (B.wk (show B (-19) (-19) (-19 : Int32) from ⟨by decide, by decide⟩) (by decide)) hIm0
theorem t_Reader_readProduct_7 {y : Int32 × Int32} {d : Int} {F : Nat} {E : Int32 → Mem → Option Mem} {nE : Nat} {p0 : Int32} {g : Mem} {k1 : Int32} {s : Int32 × Mem} (hF : 4294967296 < F) (hd : 0 ≤ d) (hE : ∀ (q : Int32) (m : Mem), B (d + 1) 7 q → RI y m → T (E q m) (fun r => RI y r)) (hp0 : B d 6 p0) (hk1 : B d 6 k1) (hs : J_Reader_readProduct_7 y s) : T (st_Reader_readProduct_7 F E nE p0 g k1 s) (LQ (J_Reader_readProduct_7 y) (Q_Reader_readProduct_7 y) (fun s => s.1) s.1) := by
  unfold st_Reader_readProduct_7
  refine T.cond (fun c1 => ?_) (fun c1 => ?_)
  · have f2 : B 700 2147483647 (s.1) := B.ler c1 (show B 700 700 (700 : Int32) from ⟨by decide, by decide⟩) hs.1 (by decide)
    exact T.some' (show RI y s.2 from hs.2)
  · have f3 : B 0 699 (s.1) := B.nler c1 (show B 700 700 (700 : Int32) from ⟨by decide, by decide⟩) hs.1 (by decide)
    refine T.cond (fun c4 => ?_) (fun c4 => ?_)
    · have f5 : B 0 0 (s.2 3 9) := B.eql c4 (B.any (s.2 3 9)) (show B 0 0 (0 : Int32) from ⟨by decide, by decide⟩) (by decide)
      refine T.cond (fun c6 => ?_) (fun c6 => ?_)
      · have f7 : B 42 42 (s.2 3 6) := B.eql c6 (B.any (s.2 3 6)) (show B 42 42 (42 : Int32) from ⟨by decide, by decide⟩) (by decide)
        exact t_Reader_readProduct_j39_7 hF hd hE hp0 hk1 (B.wk f3 (by decide)) hs.2
      · refine T.cond (fun c8 => ?_) (fun c8 => ?_)
        · have f9 : B 47 47 (s.2 3 6) := B.eql c8 (B.any (s.2 3 6)) (show B 47 47 (47 : Int32) from ⟨by decide, by decide⟩) (by decide)
          exact t_Reader_readProduct_j39_7 hF hd hE hp0 hk1 (B.wk f3 (by decide)) hs.2
        · exact T.some' (show RI y s.2 from hs.2)
    · exact T.some' (show RI y s.2 from hs.2)
theorem t_Reader_readProduct {y : Int32 × Int32} {d : Int} {F : Nat} {E : Int32 → Mem → Option Mem} {nE : Nat} {p0 : Int32} {g : Mem} (hF : 4294967296 < F) (hd : 0 ≤ d) (hE : ∀ (q : Int32) (m : Mem), B (d + 1) 7 q → RI y m → T (E q m) (fun r => RI y r)) (hp0 : B d 6 p0) (hIg : RI y g) : T (sp_Reader_readProduct F E nE p0 g) (fun r => RI y r) := by
  unfold sp_Reader_readProduct
  refine T.callB (t_Reader_readPart hF hd hE hp0 hIg) (fun v1 h1 => ?_)
  refine T.callB (T.lpc (J := J_Reader_readProduct_7 y) (Q := Q_Reader_readProduct_7 y) (fun s => s.1) 0 2147483647 (by decide) (fun s h => h.1) (fun s h => t_Reader_readProduct_7 hF hd hE hp0 hp0 h) F _ (show J_Reader_readProduct_7 y (0, v1) from ⟨(B.wk (show B 0 0 (0 : Int32) from ⟨by decide, by decide⟩) (by decide)), h1⟩) hF) (fun x10 h2 => ?_)
  have h2 : RI y x10 := h2
  exact T.some' (show RI y x10 from h2)
theorem t_Reader_readSum_j55_7 {y : Int32 × Int32} {d : Int} {F : Nat} {E : Int32 → Mem → Option Mem} {nE : Nat} {p0 : Int32} {k1 : Int32} {g : Mem} {m0 : Mem} {x2 : Int32} {y0 : Int32} (hF : 4294967296 < F) (hd : 0 ≤ d) (hE : ∀ (q : Int32) (m : Mem), B (d + 1) 7 q → RI y m → T (E q m) (fun r => RI y r)) (hp0 : B d 6 p0) (hk1 : B d 6 k1) (hx2 : B 0 700 x2) (hy0 : B (-60) (-16) y0) (hIm0 : RI y m0) : T (sp_Reader_readSum_j55_7 F E nE p0 k1 g m0 x2 y0) (LQ (J_Reader_readSum_7 y) (Q_Reader_readSum_7 y) (fun s => s.1) x2) := by
  unfold sp_Reader_readSum_j55_7
  refine T.callB (t_Reader_advance hF hIm0) (fun v6 h1 => ?_)
  refine T.callB (t_Reader_readProduct hF hd hE hk1 h1.1) (fun v7 h2 => ?_)
  refine T.callB (t_Rule_add UP8 h2.1) (fun v8 h3 => ?_)
  have b4 : B 1 701 (x2 + 1) := B.add hx2 (show B 1 1 (1 : Int32) from ⟨by decide, by decide⟩) (by decide)
  exact T.some' (show J_Reader_readSum_7 y (x2 + 1, v8) ∧ x2 + 1 = x2 + 1 from ⟨⟨(B.wk b4 (by decide)), (h2.keep h3)⟩, rfl⟩)
theorem t_Reader_readSum_j39_7 {y : Int32 × Int32} {d : Int} {F : Nat} {E : Int32 → Mem → Option Mem} {nE : Nat} {p0 : Int32} {k1 : Int32} {g : Mem} {m0 : Mem} {x2 : Int32} (hF : 4294967296 < F) (hd : 0 ≤ d) (hE : ∀ (q : Int32) (m : Mem), B (d + 1) 7 q → RI y m → T (E q m) (fun r => RI y r)) (hp0 : B d 6 p0) (hk1 : B d 6 k1) (hx2 : B 0 700 x2) (hIm0 : RI y m0) : T (sp_Reader_readSum_j39_7 F E nE p0 k1 g m0 x2) (LQ (J_Reader_readSum_7 y) (Q_Reader_readSum_7 y) (fun s => s.1) x2) := by
  unfold sp_Reader_readSum_j39_7
  refine T.cond (fun c1 => ?_) (fun c1 => ?_)
  · have f2 : B 43 43 (m0 3 6) := B.eql c1 (B.any (m0 3 6)) (show B 43 43 (43 : Int32) from ⟨by decide, by decide⟩) (by decide)
    exact t_Reader_readSum_j55_7 hF hd hE hp0 hk1 hx2 (B.wk (show B (-16) (-16) (-16 : Int32) from ⟨by decide, by decide⟩) (by decide)) hIm0
  · exact t_Reader_readSum_j55_7 hF hd hE hp0 hk1 hx2 (B.wk (show B (-17) (-17) (-17 : Int32) from ⟨by decide, by decide⟩) (by decide)) hIm0
theorem t_Reader_readSum_7 {y : Int32 × Int32} {d : Int} {F : Nat} {E : Int32 → Mem → Option Mem} {nE : Nat} {p0 : Int32} {g : Mem} {k1 : Int32} {s : Int32 × Mem} (hF : 4294967296 < F) (hd : 0 ≤ d) (hE : ∀ (q : Int32) (m : Mem), B (d + 1) 7 q → RI y m → T (E q m) (fun r => RI y r)) (hp0 : B d 6 p0) (hk1 : B d 6 k1) (hs : J_Reader_readSum_7 y s) : T (st_Reader_readSum_7 F E nE p0 g k1 s) (LQ (J_Reader_readSum_7 y) (Q_Reader_readSum_7 y) (fun s => s.1) s.1) := by
  unfold st_Reader_readSum_7
  refine T.cond (fun c1 => ?_) (fun c1 => ?_)
  · have f2 : B 700 2147483647 (s.1) := B.ler c1 (show B 700 700 (700 : Int32) from ⟨by decide, by decide⟩) hs.1 (by decide)
    exact T.some' (show RI y s.2 from hs.2)
  · have f3 : B 0 699 (s.1) := B.nler c1 (show B 700 700 (700 : Int32) from ⟨by decide, by decide⟩) hs.1 (by decide)
    refine T.cond (fun c4 => ?_) (fun c4 => ?_)
    · have f5 : B 0 0 (s.2 3 9) := B.eql c4 (B.any (s.2 3 9)) (show B 0 0 (0 : Int32) from ⟨by decide, by decide⟩) (by decide)
      refine T.cond (fun c6 => ?_) (fun c6 => ?_)
      · have f7 : B 43 43 (s.2 3 6) := B.eql c6 (B.any (s.2 3 6)) (show B 43 43 (43 : Int32) from ⟨by decide, by decide⟩) (by decide)
        exact t_Reader_readSum_j39_7 hF hd hE hp0 hk1 (B.wk f3 (by decide)) hs.2
      · refine T.cond (fun c8 => ?_) (fun c8 => ?_)
        · have f9 : B 45 45 (s.2 3 6) := B.eql c8 (B.any (s.2 3 6)) (show B 45 45 (45 : Int32) from ⟨by decide, by decide⟩) (by decide)
          exact t_Reader_readSum_j39_7 hF hd hE hp0 hk1 (B.wk f3 (by decide)) hs.2
        · exact T.some' (show RI y s.2 from hs.2)
    · exact T.some' (show RI y s.2 from hs.2)
