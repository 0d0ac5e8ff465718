/-! a value comes out, and the memory stays well (by program: wip/p2gen) -/
theorem t_Model_owedNow_j59_7 {z : Zt} {F : Nat} {p0 : Int32} {k1 : Int32} {g : Mem} {x2 : Int32} {x3 : Int32} {x4 : Int32} (hF : 4294967296 < F) (hx4 : B 0 23 x4) (hIg : Inv z g) : T (sp_Model_owedNow_j59_7 F p0 k1 g x2 x3 x4) (LQ (J_Model_owedNow_7 z) (Q_Model_owedNow_7 z) (fun s => s.2.2) x4) := by
  unfold sp_Model_owedNow_j59_7
  refine T.callB (t_Model_of hx4 (B.wk (show B 7 7 (7 : Int32) from ⟨by decide, by decide⟩) (by decide)) hIg) (fun v8 h1 => ?_)
  refine T.callB (t_Model_of hx4 (B.wk (show B 0 0 (0 : Int32) from ⟨by decide, by decide⟩) (by decide)) hIg) (fun v9 h2 => ?_)
  refine T.cond (fun c3 => ?_) (fun c3 => ?_)
  · have f4 : B 1 1 (v9) := B.eql c3 (B.any v9) (show B 1 1 (1 : Int32) from ⟨by decide, by decide⟩) (by decide)
    refine T.callB (t_Model_of hx4 (B.wk (show B 4 4 (4 : Int32) from ⟨by decide, by decide⟩) (by decide)) hIg) (fun v11 h5 => ?_)
    have b6 : B 1 24 (x4 + 1) := B.add hx4 (show B 1 1 (1 : Int32) from ⟨by decide, by decide⟩) (by decide)
    exact T.some' (show J_Model_owedNow_7 z (x2 ||| (1 <<< (v8 &&& 31)), x3 + v11, x4 + 1) ∧ x4 + 1 = x4 + 1 from ⟨⟨(B.any (x2 ||| (1 <<< (v8 &&& 31)))), (B.any (x3 + v11)), (B.wk b6 (by decide))⟩, rfl⟩)
  · refine T.callB (t_Model_of hx4 (B.wk (show B 0 0 (0 : Int32) from ⟨by decide, by decide⟩) (by decide)) hIg) (fun v12 h7 => ?_)
    refine T.cond (fun c8 => ?_) (fun c8 => ?_)
    · have f9 : B 2 2 (v12) := B.eql c8 (B.any v12) (show B 2 2 (2 : Int32) from ⟨by decide, by decide⟩) (by decide)
      refine T.callB (t_Model_of hx4 (B.wk (show B 4 4 (4 : Int32) from ⟨by decide, by decide⟩) (by decide)) hIg) (fun v14 h10 => ?_)
      have b11 : B 1 24 (x4 + 1) := B.add hx4 (show B 1 1 (1 : Int32) from ⟨by decide, by decide⟩) (by decide)
      exact T.some' (show J_Model_owedNow_7 z (x2 ||| (1 <<< (v8 &&& 31)), x3 + (-v14), x4 + 1) ∧ x4 + 1 = x4 + 1 from ⟨⟨(B.any (x2 ||| (1 <<< (v8 &&& 31)))), (B.any (x3 + (-v14))), (B.wk b11 (by decide))⟩, rfl⟩)
    · have b12 : B (-2147483648) 2147483647 (x3 + 0) := B.add (B.any x3) (show B 0 0 (0 : Int32) from ⟨by decide, by decide⟩) (by decide)
      have b13 : B 1 24 (x4 + 1) := B.add hx4 (show B 1 1 (1 : Int32) from ⟨by decide, by decide⟩) (by decide)
      exact T.some' (show J_Model_owedNow_7 z (x2 ||| (1 <<< (v8 &&& 31)), x3 + 0, x4 + 1) ∧ x4 + 1 = x4 + 1 from ⟨⟨(B.any (x2 ||| (1 <<< (v8 &&& 31)))), b12, (B.wk b13 (by decide))⟩, rfl⟩)
theorem t_Model_owedNow_7 {z : Zt} {F : Nat} {p0 : Int32} {g : Mem} {k1 : Int32} {s : Int32 × Int32 × Int32} (hF : 4294967296 < F) (hIg : Inv z g) (hs : J_Model_owedNow_7 z s) : T (st_Model_owedNow_7 F p0 g k1 s) (LQ (J_Model_owedNow_7 z) (Q_Model_owedNow_7 z) (fun s => s.2.2) s.2.2) := by
  unfold st_Model_owedNow_7
  refine T.cond (fun c1 => ?_) (fun c1 => ?_)
  · exact T.some' (show B (-2147483648) 2147483647 s.2.1 from (B.any s.2.1))
  · have f2 : B 1 24 (g 54 26) := B.nlel c1 hIg.many hs.2.2 (by decide)
    have f3 : B 0 23 (s.2.2) := B.nler c1 hIg.many hs.2.2 (by decide)
    refine T.callB (t_Model_isThere f3 hIg) (fun v2 h4 => ?_)
    refine T.cond (fun c5 => ?_) (fun c5 => ?_)
    · have f6 : B 0 0 (v2) := B.eql c5 h4 (show B 0 0 (0 : Int32) from ⟨by decide, by decide⟩) (by decide)
      have b7 : B 1 24 (s.2.2 + 1) := B.add f3 (show B 1 1 (1 : Int32) from ⟨by decide, by decide⟩) (by decide)
      exact T.some' (show J_Model_owedNow_7 z (s.1, s.2.1, s.2.2 + 1) ∧ s.2.2 + 1 = s.2.2 + 1 from ⟨⟨(B.any s.1), (B.any s.2.1), (B.wk b7 (by decide))⟩, rfl⟩)
    · have f8 : B 1 1 (v2) := B.nelo c5 h4 (show B 0 0 (0 : Int32) from ⟨by decide, by decide⟩) (by decide)
      refine T.callB (t_Model_of f3 (B.wk (show B 7 7 (7 : Int32) from ⟨by decide, by decide⟩) (by decide)) hIg) (fun v4 h9 => ?_)
      refine T.callB (t_Model_isOf ) (fun v5 h10 => ?_)
      refine T.cond (fun c11 => ?_) (fun c11 => ?_)
      · have f12 : B 0 0 (v5) := B.eql c11 h10 (show B 0 0 (0 : Int32) from ⟨by decide, by decide⟩) (by decide)
        refine T.cond (fun c13 => ?_) (fun c13 => ?_)
        · have f14 : B (-1) (-1) (k1) := B.eql c13 (B.any k1) (show B (-1) (-1) (-1 : Int32) from ⟨by decide, by decide⟩) (by decide)
          exact t_Model_owedNow_j59_7 hF f3 hIg
        · refine T.callB (t_Model_of f3 (B.wk (show B 3 3 (3 : Int32) from ⟨by decide, by decide⟩) (by decide)) hIg) (fun v15 h15 => ?_)
          refine T.cond (fun c16 => ?_) (fun c16 => ?_)
          · exact t_Model_owedNow_j59_7 hF f3 hIg
          · have b17 : B 1 24 (s.2.2 + 1) := B.add f3 (show B 1 1 (1 : Int32) from ⟨by decide, by decide⟩) (by decide)
            exact T.some' (show J_Model_owedNow_7 z (s.1, s.2.1, s.2.2 + 1) ∧ s.2.2 + 1 = s.2.2 + 1 from ⟨⟨(B.any s.1), (B.any s.2.1), (B.wk b17 (by decide))⟩, rfl⟩)
      · have f18 : B 1 1 (v5) := B.nelo c11 h10 (show B 0 0 (0 : Int32) from ⟨by decide, by decide⟩) (by decide)
        have b19 : B 1 24 (s.2.2 + 1) := B.add f3 (show B 1 1 (1 : Int32) from ⟨by decide, by decide⟩) (by decide)
        exact T.some' (show J_Model_owedNow_7 z (s.1, s.2.1, s.2.2 + 1) ∧ s.2.2 + 1 = s.2.2 + 1 from ⟨⟨(B.any s.1), (B.any s.2.1), (B.wk b19 (by decide))⟩, rfl⟩)
theorem t_Model_owedNow {z : Zt} {F : Nat} {p0 : Int32} {g : Mem} (hF : 4294967296 < F) (hIg : Inv z g) : T (sp_Model_owedNow F p0 g) (fun r => B (-2147483648) 2147483647 r) := by
  unfold sp_Model_owedNow
  refine T.callB (T.lpc (J := J_Model_owedNow_7 z) (Q := Q_Model_owedNow_7 z) (fun s => s.2.2) 0 24 (by decide) (fun s h => h.2.2) (fun s h => t_Model_owedNow_7 hF hIg h) F _ (show J_Model_owedNow_7 z (0, 0, 0) from ⟨(B.any (0 : Int32)), (B.any (0 : Int32)), (B.wk (show B 0 0 (0 : Int32) from ⟨by decide, by decide⟩) (by decide))⟩) hF) (fun x17 h1 => ?_)
  have h1 : B (-2147483648) 2147483647 x17 := h1
  exact T.some' (show B (-2147483648) 2147483647 x17 from (B.any x17))
theorem t_Model_owed {z : Zt} {F : Nat} {p0 : Int32} {g : Mem} (hF : 4294967296 < F) (hIg : Inv z g) : T (sp_Model_owed F p0 g) (fun r => B (-2147483648) 2147483647 r.1 ∧ Inv z r.2) := by
  unfold sp_Model_owed
  refine T.callB (t_Model_isAbout ) (fun v1 h1 => ?_)
  refine T.cond (fun c2 => ?_) (fun c2 => ?_)
  · have f3 : B 0 0 (v1) := B.eql c2 h1 (show B 0 0 (0 : Int32) from ⟨by decide, by decide⟩) (by decide)
    have hM5 : Inv z (mset g 54 3 0) := hIg.fre rfl
    refine T.callB (t_Model_fail hM5) (fun v3 h4 => ?_)
    exact T.some' (show B (-2147483648) 2147483647 v3.1 ∧ Inv z v3.2 from ⟨(B.any v3.1), h4.2⟩)
  · have f6 : B 1 1 (v1) := B.nelo c2 h1 (show B 0 0 (0 : Int32) from ⟨by decide, by decide⟩) (by decide)
    have hM8 : Inv z (mset g 54 3 0) := hIg.fre rfl
    refine T.callB (t_Model_owedNow hF hM8) (fun v4 h7 => ?_)
    exact T.some' (show B (-2147483648) 2147483647 v4 ∧ Inv z (mset g 54 3 0) from ⟨(B.any v4), hM8⟩)
theorem t_Model_cover_52 {z : Zt} {F : Nat} {g : Mem} {k1 : Int32} {k2 : Int32} {k3 : Int32} {m0 : Mem} {s : Int32 × Int32} (hF : 4294967296 < F) (hk1 : B (-1) 2147483647 k1) (hk3 : B 0 2147483646 k3) (hIm0 : Inv z m0) (hs : J_Model_cover_52 z s) : T (st_Model_cover_52 F g k1 k2 k3 m0 s) (LQ (J_Model_cover_52 z) (Q_Model_cover_52 z) (fun s => s.2) s.2) := by
  unfold st_Model_cover_52
  refine T.cond (fun c1 => ?_) (fun c1 => ?_)
  · exact T.some' (show B 0 1 s.1 from hs.1)
  · have f2 : B 1 24 (m0 54 26) := B.nlel c1 hIm0.many hs.2 (by decide)
    have f3 : B 0 23 (s.2) := B.nler c1 hIm0.many hs.2 (by decide)
    refine T.cond (fun c4 => ?_) (fun c4 => ?_)
    · have f5 : B 0 0 (s.1) := B.eql c4 hs.1 (show B 0 0 (0 : Int32) from ⟨by decide, by decide⟩) (by decide)
      exact T.some' (show B 0 1 s.1 from (B.wk f5 (by decide)))
    · have f6 : B 1 1 (s.1) := B.nelo c4 hs.1 (show B 0 0 (0 : Int32) from ⟨by decide, by decide⟩) (by decide)
      refine T.callB (t_Model_isOf ) (fun v7 h7 => ?_)
      refine T.cond (fun c8 => ?_) (fun c8 => ?_)
      · have f9 : B 0 0 (v7) := B.eql c8 h7 (show B 0 0 (0 : Int32) from ⟨by decide, by decide⟩) (by decide)
        have b10 : B 1 24 (s.2 + 1) := B.add f3 (show B 1 1 (1 : Int32) from ⟨by decide, by decide⟩) (by decide)
        exact T.some' (show J_Model_cover_52 z (1, s.2 + 1) ∧ s.2 + 1 = s.2 + 1 from ⟨⟨(B.wk (show B 1 1 (1 : Int32) from ⟨by decide, by decide⟩) (by decide)), (B.wk b10 (by decide))⟩, rfl⟩)
      · have f11 : B 1 1 (v7) := B.nelo c8 h7 (show B 0 0 (0 : Int32) from ⟨by decide, by decide⟩) (by decide)
        refine T.callB (t_Model_holdersOf hF hIm0) (fun v9 h12 => ?_)
        refine T.cond (fun c13 => ?_) (fun c13 => ?_)
        · have b14 : B 1 24 (s.2 + 1) := B.add f3 (show B 1 1 (1 : Int32) from ⟨by decide, by decide⟩) (by decide)
          exact T.some' (show J_Model_cover_52 z (0, s.2 + 1) ∧ s.2 + 1 = s.2 + 1 from ⟨⟨(B.wk (show B 0 0 (0 : Int32) from ⟨by decide, by decide⟩) (by decide)), (B.wk b14 (by decide))⟩, rfl⟩)
        · have b15 : B 1 24 (s.2 + 1) := B.add f3 (show B 1 1 (1 : Int32) from ⟨by decide, by decide⟩) (by decide)
          exact T.some' (show J_Model_cover_52 z (1, s.2 + 1) ∧ s.2 + 1 = s.2 + 1 from ⟨⟨(B.wk (show B 1 1 (1 : Int32) from ⟨by decide, by decide⟩) (by decide)), (B.wk b15 (by decide))⟩, rfl⟩)
theorem t_Model_cover_j99_14 {z : Zt} {F : Nat} {k2 : Int32} {m0 : Mem} {g : Mem} {x1 : Int32} {x3 : Int32} {x4 : Int32} (hF : 4294967296 < F) (hx1 : B (-1) 2147483647 x1) (hx3 : B 0 2147483646 x3) : T (sp_Model_cover_j99_14 F k2 m0 g x1 x3 x4) (LQ (J_Model_cover_14 z) (Q_Model_cover_14 z) (fun s => s.2) x3) := by
  unfold sp_Model_cover_j99_14
  refine T.cond (fun c1 => ?_) (fun c1 => ?_)
  · have f2 : B 0 0 (x4) := B.eql c1 (B.any x4) (show B 0 0 (0 : Int32) from ⟨by decide, by decide⟩) (by decide)
    have b3 : B 1 2147483647 (x3 + 1) := B.add hx3 (show B 1 1 (1 : Int32) from ⟨by decide, by decide⟩) (by decide)
    exact T.some' (show J_Model_cover_14 z (x1, x3 + 1) ∧ x3 + 1 = x3 + 1 from ⟨⟨hx1, (B.wk b3 (by decide))⟩, rfl⟩)
  · have b4 : B 1 2147483647 (x3 + 1) := B.add hx3 (show B 1 1 (1 : Int32) from ⟨by decide, by decide⟩) (by decide)
    exact T.some' (show J_Model_cover_14 z (x3, x3 + 1) ∧ x3 + 1 = x3 + 1 from ⟨⟨(B.wk hx3 (by decide)), (B.wk b4 (by decide))⟩, rfl⟩)
theorem t_Model_cover_j47_14 {z : Zt} {F : Nat} {k2 : Int32} {m0 : Mem} {g : Mem} {x1 : Int32} {x3 : Int32} {y0 : Int32} (hF : 4294967296 < F) (hx1 : B (-1) 2147483647 x1) (hx3 : B 0 2147483646 x3) (hy0 : B 0 1 y0) (hIm0 : Inv z m0) : T (sp_Model_cover_j47_14 F k2 m0 g x1 x3 y0) (LQ (J_Model_cover_14 z) (Q_Model_cover_14 z) (fun s => s.2) x3) := by
  unfold sp_Model_cover_j47_14
  refine T.callB (T.lpc (J := J_Model_cover_52 z) (Q := Q_Model_cover_52 z) (fun s => s.2) 0 24 (by decide) (fun s h => h.2) (fun s h => t_Model_cover_52 hF hx1 hx3 hIm0 h) F _ (show J_Model_cover_52 z (y0, 0) from ⟨hy0, (B.wk (show B 0 0 (0 : Int32) from ⟨by decide, by decide⟩) (by decide))⟩) hF) (fun x11 h1 => ?_)
  have h1 : B 0 1 x11 := h1
  exact t_Model_cover_j99_14 hF hx1 hx3
theorem t_Model_cover_j42_14 {z : Zt} {F : Nat} {k2 : Int32} {m0 : Mem} {g : Mem} {x1 : Int32} {x3 : Int32} (hF : 4294967296 < F) (hx1 : B (-1) 2147483647 x1) (hx3 : B 0 2147483646 x3) (hIm0 : Inv z m0) : T (sp_Model_cover_j42_14 F k2 m0 g x1 x3) (LQ (J_Model_cover_14 z) (Q_Model_cover_14 z) (fun s => s.2) x3) := by
  unfold sp_Model_cover_j42_14
  exact t_Model_cover_j47_14 hF hx1 hx3 (B.wk (show B 1 1 (1 : Int32) from ⟨by decide, by decide⟩) (by decide)) hIm0
theorem t_Model_cover_14 {z : Zt} {F : Nat} {g : Mem} {k2 : Int32} {m0 : Mem} {s : Int32 × Int32} (hF : 4294967296 < F) (hIm0 : Inv z m0) (hs : J_Model_cover_14 z s) : T (st_Model_cover_14 F g k2 m0 s) (LQ (J_Model_cover_14 z) (Q_Model_cover_14 z) (fun s => s.2) s.2) := by
  unfold st_Model_cover_14
  refine T.rdK 0 (P := fun z => B 0 6 z ∧ z = (m0) 58 0) (B.ib (show B 0 0 (0 : Int32) from ⟨by decide, by decide⟩) (by decide)) rfl ⟨hIm0.told0, rfl⟩ (fun v2 h1 => ?_)
  refine T.cond (fun c2 => ?_) (fun c2 => ?_)
  · exact T.some' (show B (-1) 2147483647 s.1 from hs.1)
  · have f3 : B 0 2147483646 (s.2) := B.nler c2 (B.any (1 <<< (v2 &&& 31))) hs.2 (by decide)
    refine T.cond (fun c4 => ?_) (fun c4 => ?_)
    · have f5 : B (-1) (-1) (s.1) := B.eql c4 hs.1 (show B (-1) (-1) (-1 : Int32) from ⟨by decide, by decide⟩) (by decide)
      exact t_Model_cover_j42_14 hF (B.wk f5 (by decide)) f3 hIm0
    · have f6 : B 0 2147483647 (s.1) := B.nelo c4 hs.1 (show B (-1) (-1) (-1 : Int32) from ⟨by decide, by decide⟩) (by decide)
      refine T.callB (t_Model_bitsOf hF) (fun v13 h7 => ?_)
      refine T.callB (t_Model_bitsOf hF) (fun v14 h8 => ?_)
      refine T.cond (fun c9 => ?_) (fun c9 => ?_)
      · exact t_Model_cover_j47_14 hF (B.wk f6 (by decide)) f3 (B.wk (show B 0 0 (0 : Int32) from ⟨by decide, by decide⟩) (by decide)) hIm0
      · have f10 : B (-2147483647) 2147483647 (v14) := B.nlel c9 (B.any v14) (B.any v13) (by decide)
        have f11 : B (-2147483648) 2147483646 (v13) := B.nler c9 (B.any v14) (B.any v13) (by decide)
        exact t_Model_cover_j42_14 hF (B.wk f6 (by decide)) f3 hIm0
theorem t_Model_cover {z : Zt} {F : Nat} {g : Mem} (hF : 4294967296 < F) (hIg : Inv z g) : T (sp_Model_cover F g) (fun r => B (-2147483648) 2147483647 r.1 ∧ Inv z r.2) := by
  unfold sp_Model_cover
  have hM2 : Inv z (mset g 54 3 0) := hIg.fre rfl
  refine T.callB (t_Model_records hF hM2) (fun v1 h1 => ?_)
  refine T.callB (T.lpc (J := J_Model_cover_14 z) (Q := Q_Model_cover_14 z) (fun s => s.2) 0 2147483647 (by decide) (fun s h => h.2) (fun s h => t_Model_cover_14 hF hM2 h) F _ (show J_Model_cover_14 z ((-1), 0) from ⟨(B.wk (show B (-1) (-1) (-1 : Int32) from ⟨by decide, by decide⟩) (by decide)), (B.wk (show B 0 0 (0 : Int32) from ⟨by decide, by decide⟩) (by decide))⟩) hF) (fun x16 h3 => ?_)
  have h3 : B (-1) 2147483647 x16 := h3
  exact T.some' (show B (-2147483648) 2147483647 x16 ∧ Inv z (mset g 54 3 0) from ⟨(B.any x16), hM2⟩)
theorem t_Model_alone_9 {z : Zt} {F : Nat} {g : Mem} {m0 : Mem} {s : Int32 × Int32} (hF : 4294967296 < F) (hIm0 : Inv z m0) (hs : J_Model_alone_9 z s) : T (st_Model_alone_9 F g m0 s) (LQ (J_Model_alone_9 z) (Q_Model_alone_9 z) (fun s => s.2) s.2) := by
  unfold st_Model_alone_9
  refine T.cond (fun c1 => ?_) (fun c1 => ?_)
  · exact T.some' (show B (-2147483648) 2147483647 s.1 from (B.any s.1))
  · have f2 : B 1 24 (m0 54 26) := B.nlel c1 hIm0.many hs.2 (by decide)
    have f3 : B 0 23 (s.2) := B.nler c1 hIm0.many hs.2 (by decide)
    refine T.callB (t_Model_holdersOf hF hIm0) (fun v2 h4 => ?_)
    refine T.callB (t_Model_bitsOf hF) (fun v3 h5 => ?_)
    refine T.cond (fun c6 => ?_) (fun c6 => ?_)
    · have f7 : B 1 1 (v3) := B.eql c6 (B.any v3) (show B 1 1 (1 : Int32) from ⟨by decide, by decide⟩) (by decide)
      have b8 : B 1 24 (s.2 + 1) := B.add f3 (show B 1 1 (1 : Int32) from ⟨by decide, by decide⟩) (by decide)
      exact T.some' (show J_Model_alone_9 z (s.1 + 1, s.2 + 1) ∧ s.2 + 1 = s.2 + 1 from ⟨⟨(B.any (s.1 + 1)), (B.wk b8 (by decide))⟩, rfl⟩)
    · have b9 : B (-2147483648) 2147483647 (s.1 + 0) := B.add (B.any s.1) (show B 0 0 (0 : Int32) from ⟨by decide, by decide⟩) (by decide)
      have b10 : B 1 24 (s.2 + 1) := B.add f3 (show B 1 1 (1 : Int32) from ⟨by decide, by decide⟩) (by decide)
      exact T.some' (show J_Model_alone_9 z (s.1 + 0, s.2 + 1) ∧ s.2 + 1 = s.2 + 1 from ⟨⟨b9, (B.wk b10 (by decide))⟩, rfl⟩)
theorem t_Model_alone {z : Zt} {F : Nat} {g : Mem} (hF : 4294967296 < F) (hIg : Inv z g) : T (sp_Model_alone F g) (fun r => B (-2147483648) 2147483647 r.1 ∧ Inv z r.2) := by
  unfold sp_Model_alone
  have hM1 : Inv z (mset g 54 3 0) := hIg.fre rfl
  refine T.callB (T.lpc (J := J_Model_alone_9 z) (Q := Q_Model_alone_9 z) (fun s => s.2) 0 24 (by decide) (fun s h => h.2) (fun s h => t_Model_alone_9 hF hM1 h) F _ (show J_Model_alone_9 z (0, 0) from ⟨(B.any (0 : Int32)), (B.wk (show B 0 0 (0 : Int32) from ⟨by decide, by decide⟩) (by decide))⟩) hF) (fun x5 h2 => ?_)
  have h2 : B (-2147483648) 2147483647 x5 := h2
  exact T.some' (show B (-2147483648) 2147483647 x5 ∧ Inv z (mset g 54 3 0) from ⟨(B.any x5), hM1⟩)
theorem t_Model_shaveNow {z : Zt} {F : Nat} {p0 : Int32} {p1 : Int32} {g : Mem} (hF : 4294967296 < F) (hp0 : B 0 5 p0) (hIg : Inv z g) : T (sp_Model_shaveNow F p0 p1 g) (fun r => Inv z r) := by
  unfold sp_Model_shaveNow
  refine T.rdU (B.ib hp0 (by decide)) (fun v1 => ?_)
  refine T.cond (fun c1 => ?_) (fun c1 => ?_)
  · have f2 : B (-2147483648) 2147483646 (p1) := B.ltl c1 (B.any p1) (B.any v1) (by decide)
    have f3 : B (-2147483647) 2147483647 (v1) := B.ltr c1 (B.any p1) (B.any v1) (by decide)
    refine T.wrI (I := fun m => Inv z m ∧ ∀ q, q ≠ 61 → m q = (g) q) (B.ib hp0 (by decide)) ⟨hIg.fra rfl, fun q hq => mset_rowF _ _ _ hq⟩ (fun g3 h4 => ?_)
    refine T.callB (t_Model_loseFar hF h4.1) (fun v4 h5 => ?_)
    exact T.some' (show Inv z v4.2 from h5.2)
  · exact T.some' (show Inv z g from hIg)
theorem t_Model_lostByRazors_16 {z : Zt} {F : Nat} {p0 : Int32} {g : Mem} {k1 : Int32} {k2 : Int32} {s : Int32 × Mem} (hF : 4294967296 < F) (hs : J_Model_lostByRazors_16 z s) : T (st_Model_lostByRazors_16 F p0 g k1 k2 s) (LQ (J_Model_lostByRazors_16 z) (Q_Model_lostByRazors_16 z) (fun s => s.1) s.1) := by
  unfold st_Model_lostByRazors_16
  refine T.rdK 0 (P := fun z => B 0 6 z ∧ z = (s.2) 58 0) (B.ib (show B 0 0 (0 : Int32) from ⟨by decide, by decide⟩) (by decide)) rfl ⟨hs.2.told0, rfl⟩ (fun v3 h1 => ?_)
  refine T.cond (fun c2 => ?_) (fun c2 => ?_)
  · exact T.some' (show Inv z s.2 from hs.2)
  · have f3 : B 1 6 (v3) := B.nlel c2 h1.1 hs.1 (by decide)
    have f4 : B 0 5 (s.1) := B.nler c2 h1.1 hs.1 (by decide)
    refine T.callB (t_Model_isOf ) (fun v5 h5 => ?_)
    refine T.cond (fun c6 => ?_) (fun c6 => ?_)
    · have f7 : B 0 0 (v5) := B.eql c6 h5 (show B 0 0 (0 : Int32) from ⟨by decide, by decide⟩) (by decide)
      have b8 : B 1 6 (s.1 + 1) := B.add f4 (show B 1 1 (1 : Int32) from ⟨by decide, by decide⟩) (by decide)
      exact T.some' (show J_Model_lostByRazors_16 z (s.1 + 1, s.2) ∧ s.1 + 1 = s.1 + 1 from ⟨⟨(B.wk b8 (by decide)), hs.2⟩, rfl⟩)
    · have f9 : B 1 1 (v5) := B.nelo c6 h5 (show B 0 0 (0 : Int32) from ⟨by decide, by decide⟩) (by decide)
      refine T.callB (t_Model_shaveNow hF f4 hs.2) (fun v7 h10 => ?_)
      have b11 : B 1 6 (s.1 + 1) := B.add f4 (show B 1 1 (1 : Int32) from ⟨by decide, by decide⟩) (by decide)
      exact T.some' (show J_Model_lostByRazors_16 z (s.1 + 1, v7) ∧ s.1 + 1 = s.1 + 1 from ⟨⟨(B.wk b11 (by decide)), h10⟩, rfl⟩)
theorem t_Model_lostByRazors {z : Zt} {F : Nat} {p0 : Int32} {g : Mem} (hF : 4294967296 < F) (hIg : Inv z g) : T (sp_Model_lostByRazors F p0 g) (fun r => B (-2147483648) 2147483647 r.1 ∧ Inv z r.2) := by
  unfold sp_Model_lostByRazors
  refine T.callB (t_Model_records hF hIg) (fun v1 h1 => ?_)
  refine T.callB (t_Model_pack (q0n := 231) hF (Or.inr (Or.inl rfl)) (by decide) (show B 0 0 (0 : Int32) from ⟨by decide, by decide⟩) rfl hIg) (fun v2 h2 => ?_)
  refine T.callB (T.lpc (J := J_Model_lostByRazors_16 z) (Q := Q_Model_lostByRazors_16 z) (fun s => s.1) 0 6 (by decide) (fun s h => h.1) (fun s h => t_Model_lostByRazors_16 hF h) F _ (show J_Model_lostByRazors_16 z (0, v2) from ⟨(B.wk (show B 0 0 (0 : Int32) from ⟨by decide, by decide⟩) (by decide)), h2.1⟩) hF) (fun x8 h3 => ?_)
  have h3 : Inv z x8 := h3
  refine T.callB (t_Model_records hF h3) (fun v9 h4 => ?_)
  refine T.callB (t_Model_unpack (q0n := 231) hF (Or.inr (Or.inl rfl)) (by decide) (show B 0 0 (0 : Int32) from ⟨by decide, by decide⟩) rfl h3) (fun v10 h5 => ?_)
  exact T.some' (show B (-2147483648) 2147483647 (v1 &&& (v9 ^^^ (-1))) ∧ Inv z v10 from ⟨(B.any (v1 &&& (v9 ^^^ (-1)))), h5⟩)
theorem t_Model_noPlaits_4 {z : Zt} {F : Nat} {g : Mem} {s : Int32 × Int32} (hF : 4294967296 < F) (hIg : Inv z g) (hs : J_Model_noPlaits_4 z s) : T (st_Model_noPlaits_4 F g s) (LQ (J_Model_noPlaits_4 z) (Q_Model_noPlaits_4 z) (fun s => s.2) s.2) := by
  unfold st_Model_noPlaits_4
  refine T.rdK 0 (P := fun z => B 0 6 z ∧ z = (g) 58 0) (B.ib (show B 0 0 (0 : Int32) from ⟨by decide, by decide⟩) (by decide)) rfl ⟨hIg.told0, rfl⟩ (fun v1 h1 => ?_)
  refine T.cond (fun c2 => ?_) (fun c2 => ?_)
  · exact T.some' (show B (-2147483648) 2147483647 s.1 from (B.any s.1))
  · have f3 : B 1 6 (v1) := B.nlel c2 h1.1 hs.2 (by decide)
    have f4 : B 0 5 (s.2) := B.nler c2 h1.1 hs.2 (by decide)
    refine T.rdU (B.ib f4 (by decide)) (fun v3 => ?_)
    refine T.cond (fun c5 => ?_) (fun c5 => ?_)
    · have f6 : B 3 3 (v3) := B.eql c5 (B.any v3) (show B 3 3 (3 : Int32) from ⟨by decide, by decide⟩) (by decide)
      have b7 : B 1 6 (s.2 + 1) := B.add f4 (show B 1 1 (1 : Int32) from ⟨by decide, by decide⟩) (by decide)
      exact T.some' (show J_Model_noPlaits_4 z (s.1 ||| 0, s.2 + 1) ∧ s.2 + 1 = s.2 + 1 from ⟨⟨(B.any (s.1 ||| 0)), (B.wk b7 (by decide))⟩, rfl⟩)
    · have b8 : B 1 6 (s.2 + 1) := B.add f4 (show B 1 1 (1 : Int32) from ⟨by decide, by decide⟩) (by decide)
      exact T.some' (show J_Model_noPlaits_4 z (s.1 ||| (1 <<< (s.2 &&& 31)), s.2 + 1) ∧ s.2 + 1 = s.2 + 1 from ⟨⟨(B.any (s.1 ||| (1 <<< (s.2 &&& 31)))), (B.wk b8 (by decide))⟩, rfl⟩)
theorem t_Model_noPlaits {z : Zt} {F : Nat} {g : Mem} (hF : 4294967296 < F) (hIg : Inv z g) : T (sp_Model_noPlaits F g) (fun r => B (-2147483648) 2147483647 r) := by
  unfold sp_Model_noPlaits
  refine T.callB (T.lpc (J := J_Model_noPlaits_4 z) (Q := Q_Model_noPlaits_4 z) (fun s => s.2) 0 6 (by decide) (fun s h => h.2) (fun s h => t_Model_noPlaits_4 hF hIg h) F _ (show J_Model_noPlaits_4 z (0, 0) from ⟨(B.any (0 : Int32)), (B.wk (show B 0 0 (0 : Int32) from ⟨by decide, by decide⟩) (by decide))⟩) hF) (fun x5 h1 => ?_)
  have h1 : B (-2147483648) 2147483647 x5 := h1
  exact T.some' (show B (-2147483648) 2147483647 x5 from (B.any x5))
theorem t_Model_barbers_43 {z : Zt} {F : Nat} {p0 : Int32} {g : Mem} {k2 : Int32} {k3 : Int32} {s : Int32 × Int32 × Mem} (hF : 4294967296 < F) (hp0 : B 0 6 p0) (hs : J_Model_barbers_43 z s) : T (st_Model_barbers_43 F p0 g k2 k3 s) (LQ (J_Model_barbers_43 z) (Q_Model_barbers_43 z) (fun s => s.2.1) s.2.1) := by
  unfold st_Model_barbers_43
  refine T.rdK 0 (P := fun z => B 0 6 z ∧ z = (s.2.2) 58 0) (B.ib (show B 0 0 (0 : Int32) from ⟨by decide, by decide⟩) (by decide)) rfl ⟨hs.2.2.told0, rfl⟩ (fun v7 h1 => ?_)
  refine T.cond (fun c2 => ?_) (fun c2 => ?_)
  · exact T.some' (show B (-1) 2147483647 s.1 ∧ Inv z s.2.2 from ⟨hs.1, hs.2.2⟩)
  · have f3 : B 0 2147483646 (s.2.1) := B.nler c2 (B.any (1 <<< (v7 &&& 31))) hs.2.1 (by decide)
    refine T.cond (fun c4 => ?_) (fun c4 => ?_)
    · refine T.callB (t_Model_bitsOf hF) (fun v10 h5 => ?_)
      refine T.cond (fun c6 => ?_) (fun c6 => ?_)
      · refine T.cond (fun c7 => ?_) (fun c7 => ?_)
        · have f8 : B (-1) (-1) (s.1) := B.eql c7 hs.1 (show B (-1) (-1) (-1 : Int32) from ⟨by decide, by decide⟩) (by decide)
          have b9 : B 1 2147483647 (s.2.1 + 1) := B.add f3 (show B 1 1 (1 : Int32) from ⟨by decide, by decide⟩) (by decide)
          exact T.some' (show J_Model_barbers_43 z (s.2.1, s.2.1 + 1, s.2.2) ∧ s.2.1 + 1 = s.2.1 + 1 from ⟨⟨(B.wk f3 (by decide)), (B.wk b9 (by decide)), hs.2.2⟩, rfl⟩)
        · have f10 : B 0 2147483647 (s.1) := B.nelo c7 hs.1 (show B (-1) (-1) (-1 : Int32) from ⟨by decide, by decide⟩) (by decide)
          refine T.callB (t_Model_lostByRazors hF hs.2.2) (fun v13 h11 => ?_)
          refine T.callB (t_Model_bitsOf hF) (fun v14 h12 => ?_)
          refine T.callB (t_Model_lostByRazors hF h11.2) (fun v15 h13 => ?_)
          refine T.callB (t_Model_bitsOf hF) (fun v16 h14 => ?_)
          refine T.cond (fun c15 => ?_) (fun c15 => ?_)
          · have b16 : B 1 2147483647 (s.2.1 + 1) := B.add f3 (show B 1 1 (1 : Int32) from ⟨by decide, by decide⟩) (by decide)
            exact T.some' (show J_Model_barbers_43 z (s.1, s.2.1 + 1, v15.2) ∧ s.2.1 + 1 = s.2.1 + 1 from ⟨⟨(B.wk f10 (by decide)), (B.wk b16 (by decide)), h13.2⟩, rfl⟩)
          · have f17 : B (-2147483647) 2147483647 (v14) := B.nlel c15 (B.any v14) (B.any v16) (by decide)
            have f18 : B (-2147483648) 2147483646 (v16) := B.nler c15 (B.any v14) (B.any v16) (by decide)
            have b19 : B 1 2147483647 (s.2.1 + 1) := B.add f3 (show B 1 1 (1 : Int32) from ⟨by decide, by decide⟩) (by decide)
            exact T.some' (show J_Model_barbers_43 z (s.2.1, s.2.1 + 1, v15.2) ∧ s.2.1 + 1 = s.2.1 + 1 from ⟨⟨(B.wk f3 (by decide)), (B.wk b19 (by decide)), h13.2⟩, rfl⟩)
      · have b20 : B 1 2147483647 (s.2.1 + 1) := B.add f3 (show B 1 1 (1 : Int32) from ⟨by decide, by decide⟩) (by decide)
        exact T.some' (show J_Model_barbers_43 z (s.1, s.2.1 + 1, s.2.2) ∧ s.2.1 + 1 = s.2.1 + 1 from ⟨⟨hs.1, (B.wk b20 (by decide)), hs.2.2⟩, rfl⟩)
    · have b21 : B 1 2147483647 (s.2.1 + 1) := B.add f3 (show B 1 1 (1 : Int32) from ⟨by decide, by decide⟩) (by decide)
      exact T.some' (show J_Model_barbers_43 z (s.1, s.2.1 + 1, s.2.2) ∧ s.2.1 + 1 = s.2.1 + 1 from ⟨⟨hs.1, (B.wk b21 (by decide)), hs.2.2⟩, rfl⟩)
theorem t_Model_barbers {z : Zt} {F : Nat} {p0 : Int32} {g : Mem} (hF : 4294967296 < F) (hIg : Inv z g) : T (sp_Model_barbers F p0 g) (fun r => B (-2147483648) 2147483647 r.1 ∧ Inv z r.2) := by
  unfold sp_Model_barbers
  refine T.callB (t_Model_isInL (a := 0) (b := 6) (by decide) (by decide)) (fun v1 h1 => ?_)
  refine T.cond (fun c2 => ?_) (fun c2 => ?_)
  · have f3 : B 0 0 (v1) := B.eql c2 h1.1 (show B 0 0 (0 : Int32) from ⟨by decide, by decide⟩) (by decide)
    have hM5 : Inv z (mset g 54 3 0) := hIg.fre rfl
    refine T.callB (t_Model_fail hM5) (fun v3 h4 => ?_)
    exact T.some' (show B (-2147483648) 2147483647 v3.1 ∧ Inv z v3.2 from ⟨(B.any v3.1), h4.2⟩)
  · have q6 : B 0 6 (p0) := h1.2 c2
    have f7 : B 1 1 (v1) := B.nelo c2 h1.1 (show B 0 0 (0 : Int32) from ⟨by decide, by decide⟩) (by decide)
    have hM9 : Inv z (mset g 54 3 0) := hIg.fre rfl
    refine T.callB (t_Model_noPlaits hF hM9) (fun v4 h8 => ?_)
    refine T.callB (t_Model_bitsOf hF) (fun v5 h10 => ?_)
    refine T.callB (t_JMath_min ) (fun v6 h11 => ?_)
    refine T.callB (T.lpc (J := J_Model_barbers_43 z) (Q := Q_Model_barbers_43 z) (fun s => s.2.1) 0 2147483647 (by decide) (fun s h => h.2.1) (fun s h => t_Model_barbers_43 hF q6 h) F _ (show J_Model_barbers_43 z ((-1), 0, mset g 54 3 0) from ⟨(B.wk (show B (-1) (-1) (-1 : Int32) from ⟨by decide, by decide⟩) (by decide)), (B.wk (show B 0 0 (0 : Int32) from ⟨by decide, by decide⟩) (by decide)), hM9⟩) hF) (fun x18 h12 => ?_)
    have h12 : B (-1) 2147483647 x18.1 ∧ Inv z x18.2 := h12
    exact T.some' (show B (-2147483648) 2147483647 x18.1 ∧ Inv z x18.2 from ⟨(B.any x18.1), h12.2⟩)
theorem t_Model_shortest {z : Zt} {F : Nat} {p0 : Int32} {g : Mem} (hF : 4294967296 < F) (hI : Inv z g) : T (sp_Model_shortest F p0 g) (fun r => B (-2147483648) 2147483647 r.1 ∧ Inv z r.2) := by
  unfold sp_Model_shortest
  have i0 : Inv z (mset g 54 3 0) := hI.fre rfl
  refine T.callB (t_Model_isMonk i0) (fun v1 h1 => ?_)
  refine T.cond (fun c => ?_) (fun c => ?_)
  · exact T.callB (t_Model_fail i0) (fun v3 h3 => T.some' ⟨B.any _, h3.2⟩)
  have hp := h1.2 c
  refine T.callB (t_Model_records hF i0) (fun v4 _ => ?_)
  refine T.callB (t_Model_pack (q0n := 231) hF (Or.inr (Or.inl rfl)) (by decide) (show B 0 (((231 : Nat) : Int) - 231) (0 : Int32) from ⟨by decide, by decide⟩) rfl i0) (fun v5 h5 => ?_)
  have hp12 : B 0 11 p0 := hp.wk (by decide)
  refine T.rdU (B.ib hp12 (by decide)) (fun v6 => T.rdU (B.ib hp12 (by decide)) (fun v7 => ?_))
  refine T.callB (P := fun x => Inv z x.2) (T.lpm (J := fun s => Inv z s.2.2) (fun s => (s.2.1.toInt + 2147483649).toNat) (fun s hs => ?_) F _ h5.1 ?_) (fun x hx => ?_)
  · unfold st_Model_shortest_50
    refine T.cond (fun c2 => T.some' hs) (fun c2 => ?_)
    refine T.callB (t_Model_shaveNow hF hp hs) (fun v9 h9 => ?_)
    refine T.callB (t_Model_records hF h9) (fun v10 _ => ?_)
    have hb : B 0 2147483647 s.2.1 := B.nltl c2 (B.any _) (show B 0 0 (0 : Int32) from ⟨by decide, by decide⟩) (by decide)
    have em : (s.2.1 + (-1)).toInt = s.2.1.toInt + (-1) := by
      have := B.add_eq hb (show B (-1) (-1) (-1 : Int32) from ⟨by decide, by decide⟩) (by decide)
      rw [this]
      rfl
    have hmu : ((s.2.1 + (-1)).toInt + 2147483649).toNat < (s.2.1.toInt + 2147483649).toNat := by
      rw [em]
      have := hb.1
      omega
    exact T.cond (fun c3 => T.some' ⟨h9, hmu⟩) (fun c3 => T.some' ⟨h9, hmu⟩)
  · have := (B.any (v7 - 1)).2
    show ((v7 - 1).toInt + 2147483649).toNat < F
    omega
  · refine T.callB (t_Model_unpack (q0n := 231) hF (Or.inr (Or.inl rfl)) (by decide) (show B 0 (((231 : Nat) : Int) - 231) (0 : Int32) from ⟨by decide, by decide⟩) rfl hx) (fun v13 h13 => T.some' ⟨B.any _, h13⟩)
theorem t_Model_forgiven_49 {z : Zt} {F : Nat} {p0 : Int32} {p1 : Int32} {p2 : Int32} {g : Mem} {m0 : Mem} {s : Int32 × Int32 × Int32} (hF : 4294967296 < F) (hp0 : B 0 5 p0) (hp1 : B 0 60 p1) (hp2 : B 0 69 p2) (hIm0 : Inv z m0) (hs : J_Model_forgiven_49 z s) : T (st_Model_forgiven_49 F p0 p1 p2 g m0 s) (LQ (J_Model_forgiven_49 z) (Q_Model_forgiven_49 z) (fun s => s.2.2) s.2.2) := by
  unfold st_Model_forgiven_49
  refine T.cond (fun c1 => ?_) (fun c1 => ?_)
  · exact T.some' (show B (-2147483648) 2147483647 s.2.1 from (B.any s.2.1))
  · have f2 : B 1 24 (m0 54 26) := B.nlel c1 hIm0.many hs.2.2 (by decide)
    have f3 : B 0 23 (s.2.2) := B.nler c1 hIm0.many hs.2.2 (by decide)
    refine T.callB (t_Model_isThere f3 hIm0) (fun v7 h4 => ?_)
    refine T.cond (fun c5 => ?_) (fun c5 => ?_)
    · have f6 : B 0 0 (v7) := B.eql c5 h4 (show B 0 0 (0 : Int32) from ⟨by decide, by decide⟩) (by decide)
      have b7 : B 1 24 (s.2.2 + 1) := B.add f3 (show B 1 1 (1 : Int32) from ⟨by decide, by decide⟩) (by decide)
      exact T.some' (show J_Model_forgiven_49 z (s.1, s.2.1, s.2.2 + 1) ∧ s.2.2 + 1 = s.2.2 + 1 from ⟨⟨(B.any s.1), (B.any s.2.1), (B.wk b7 (by decide))⟩, rfl⟩)
    · have f8 : B 1 1 (v7) := B.nelo c5 h4 (show B 0 0 (0 : Int32) from ⟨by decide, by decide⟩) (by decide)
      refine T.callB (t_Model_of f3 (B.wk (show B 0 0 (0 : Int32) from ⟨by decide, by decide⟩) (by decide)) hIm0) (fun v9 h9 => ?_)
      refine T.cond (fun c10 => ?_) (fun c10 => ?_)
      · have f11 : B 1 1 (v9) := B.eql c10 (B.any v9) (show B 1 1 (1 : Int32) from ⟨by decide, by decide⟩) (by decide)
        refine T.callB (t_Model_of f3 (B.wk (show B 7 7 (7 : Int32) from ⟨by decide, by decide⟩) (by decide)) hIm0) (fun v11 h12 => ?_)
        refine T.callB (t_Model_isOf ) (fun v12 h13 => ?_)
        refine T.cond (fun c14 => ?_) (fun c14 => ?_)
        · have f15 : B 0 0 (v12) := B.eql c14 h13 (show B 0 0 (0 : Int32) from ⟨by decide, by decide⟩) (by decide)
          have b16 : B 1 24 (s.2.2 + 1) := B.add f3 (show B 1 1 (1 : Int32) from ⟨by decide, by decide⟩) (by decide)
          exact T.some' (show J_Model_forgiven_49 z (s.1, s.2.1, s.2.2 + 1) ∧ s.2.2 + 1 = s.2.2 + 1 from ⟨⟨(B.any s.1), (B.any s.2.1), (B.wk b16 (by decide))⟩, rfl⟩)
        · have f17 : B 1 1 (v12) := B.nelo c14 h13 (show B 0 0 (0 : Int32) from ⟨by decide, by decide⟩) (by decide)
          refine T.callB (t_Model_of f3 (B.wk (show B 4 4 (4 : Int32) from ⟨by decide, by decide⟩) (by decide)) hIm0) (fun v14 h18 => ?_)
          refine T.callB (t_Model_of f3 (B.wk (show B 7 7 (7 : Int32) from ⟨by decide, by decide⟩) (by decide)) hIm0) (fun v15 h19 => ?_)
          have b20 : B 1 24 (s.2.2 + 1) := B.add f3 (show B 1 1 (1 : Int32) from ⟨by decide, by decide⟩) (by decide)
          exact T.some' (show J_Model_forgiven_49 z (s.1 &&& ((1 <<< (v15 &&& 31)) ^^^ (-1)), s.2.1 + v14, s.2.2 + 1) ∧ s.2.2 + 1 = s.2.2 + 1 from ⟨⟨(B.any (s.1 &&& ((1 <<< (v15 &&& 31)) ^^^ (-1)))), (B.any (s.2.1 + v14)), (B.wk b20 (by decide))⟩, rfl⟩)
      · have b21 : B 1 24 (s.2.2 + 1) := B.add f3 (show B 1 1 (1 : Int32) from ⟨by decide, by decide⟩) (by decide)
        exact T.some' (show J_Model_forgiven_49 z (s.1, s.2.1, s.2.2 + 1) ∧ s.2.2 + 1 = s.2.2 + 1 from ⟨⟨(B.any s.1), (B.any s.2.1), (B.wk b21 (by decide))⟩, rfl⟩)
theorem t_Model_forgiven {z : Zt} {F : Nat} {p0 : Int32} {p1 : Int32} {p2 : Int32} {g : Mem} (hF : 4294967296 < F) (hp0 : B 0 5 p0) (hp1 : B 0 60 p1) (hp2 : B 0 69 p2) (hIg : Inv z g) : T (sp_Model_forgiven F p0 p1 p2 g) (fun r => B (-2147483648) 2147483647 r.1 ∧ Inv z r.2) := by
  unfold sp_Model_forgiven
  refine T.callB (t_Model_records hF hIg) (fun v1 h1 => ?_)
  refine T.callB (t_Model_pack (q0n := 231) hF (Or.inr (Or.inl rfl)) (by decide) (show B 0 0 (0 : Int32) from ⟨by decide, by decide⟩) rfl hIg) (fun v2 h2 => ?_)
  refine T.callB (t_Model_mothsEat hF hp0 hp1 h2.1) (fun v3 h3 => ?_)
  refine T.callB (t_Model_records hF h3.2) (fun v4 h4 => ?_)
  refine T.callB (t_Model_unpack (q0n := 231) hF (Or.inr (Or.inl rfl)) (by decide) (show B 0 0 (0 : Int32) from ⟨by decide, by decide⟩) rfl h3.2) (fun v5 h5 => ?_)
  refine T.callB (T.lpc (J := J_Model_forgiven_49 z) (Q := Q_Model_forgiven_49 z) (fun s => s.2.2) 0 24 (by decide) (fun s h => h.2.2) (fun s h => t_Model_forgiven_49 hF hp0 hp1 hp2 h5 h) F _ (show J_Model_forgiven_49 z (v1 &&& (v4 ^^^ (-1)), 0, 0) from ⟨(B.any (v1 &&& (v4 ^^^ (-1)))), (B.any (0 : Int32)), (B.wk (show B 0 0 (0 : Int32) from ⟨by decide, by decide⟩) (by decide))⟩) hF) (fun x16 h6 => ?_)
  have h6 : B (-2147483648) 2147483647 x16 := h6
  exact T.some' (show B (-2147483648) 2147483647 x16 ∧ Inv z v5 from ⟨(B.any x16), h5⟩)
theorem t_Model_amnesty_55 {z : Zt} {F : Nat} {p0 : Int32} {p1 : Int32} {p2 : Int32} {g : Mem} {k1 : Int32} {k2 : Int32} {k3 : Int32} {s : Int32 × Int32 × Int32 × Mem} (hF : 4294967296 < F) (hp0 : B 0 5 p0) (hp1 : B 0 9 p1) (hp2 : B 0 1 p2) (hk1 : B 0 5 k1) (hk2 : B 0 9 k2) (hk3 : B 0 1 k3) (hs : J_Model_amnesty_55 z s) : T (st_Model_amnesty_55 F p0 p1 p2 g k1 k2 k3 s) (LQ (J_Model_amnesty_55 z) (Q_Model_amnesty_55 z) (fun s => s.2.2.1) s.2.2.1) := by
  unfold st_Model_amnesty_55
  refine T.cond (fun c1 => ?_) (fun c1 => ?_)
  · have f2 : B 61 61 (s.2.2.1) := B.ltr c1 (show B 60 60 (60 : Int32) from ⟨by decide, by decide⟩) hs.2.2.1 (by decide)
    exact T.some' (show B 0 60 s.1 ∧ B (-1) 2147483647 s.2.1 ∧ Inv z s.2.2.2 from ⟨hs.1, hs.2.1, hs.2.2.2⟩)
  · have f3 : B 0 60 (s.2.2.1) := B.nltr c1 (show B 60 60 (60 : Int32) from ⟨by decide, by decide⟩) hs.2.2.1 (by decide)
    have b5 : B 0 69 (s.2.2.1 + k2) := B.add f3 hk2 (by decide)
    refine T.callB (t_Model_forgiven hF hk1 f3 b5 hs.2.2.2) (fun v11 h4 => ?_)
    refine T.cond (fun c6 => ?_) (fun c6 => ?_)
    · have f7 : B (-1) 2147483646 (s.2.1) := B.ltl c6 hs.2.1 (B.any v11.1) (by decide)
      have f8 : B 0 2147483647 (v11.1) := B.ltr c6 hs.2.1 (B.any v11.1) (by decide)
      have b9 : B 1 61 (s.2.2.1 + 1) := B.add f3 (show B 1 1 (1 : Int32) from ⟨by decide, by decide⟩) (by decide)
      exact T.some' (show J_Model_amnesty_55 z (s.2.2.1, v11.1, s.2.2.1 + 1, v11.2) ∧ s.2.2.1 + 1 = s.2.2.1 + 1 from ⟨⟨f3, (B.wk f8 (by decide)), (B.wk b9 (by decide)), h4.2⟩, rfl⟩)
    · have b10 : B 1 61 (s.2.2.1 + 1) := B.add f3 (show B 1 1 (1 : Int32) from ⟨by decide, by decide⟩) (by decide)
      exact T.some' (show J_Model_amnesty_55 z (s.1, s.2.1, s.2.2.1 + 1, v11.2) ∧ s.2.2.1 + 1 = s.2.2.1 + 1 from ⟨⟨hs.1, hs.2.1, (B.wk b10 (by decide)), h4.2⟩, rfl⟩)
theorem t_Model_amnesty {z : Zt} {F : Nat} {p0 : Int32} {p1 : Int32} {p2 : Int32} {g : Mem} (hF : 4294967296 < F) (hIg : Inv z g) : T (sp_Model_amnesty F p0 p1 p2 g) (fun r => B (-2147483648) 2147483647 r.1 ∧ Inv z r.2) := by
  unfold sp_Model_amnesty
  have hM2 : Inv z (mset g 54 3 0) := hIg.fre rfl
  refine T.callB (t_Model_isMonk hM2) (fun v1 h1 => ?_)
  refine T.cond (fun c3 => ?_) (fun c3 => ?_)
  · have f4 : B 0 0 (v1) := B.eql c3 h1.1 (show B 0 0 (0 : Int32) from ⟨by decide, by decide⟩) (by decide)
    refine T.callB (t_Model_fail hM2) (fun v3 h5 => ?_)
    exact T.some' (show B (-2147483648) 2147483647 v3.1 ∧ Inv z v3.2 from ⟨(B.any v3.1), h5.2⟩)
  · have q6 : B 0 5 (p0) := h1.2 c3
    have f7 : B 1 1 (v1) := B.nelo c3 h1.1 (show B 0 0 (0 : Int32) from ⟨by decide, by decide⟩) (by decide)
    refine T.cond (fun c8 => ?_) (fun c8 => ?_)
    · have f9 : B (-2147483648) (-1) (p2) := B.ltl c8 (B.any p2) (show B 0 0 (0 : Int32) from ⟨by decide, by decide⟩) (by decide)
      refine T.callB (t_Model_fail hM2) (fun v5 h10 => ?_)
      exact T.some' (show B (-2147483648) 2147483647 v5.1 ∧ Inv z v5.2 from ⟨(B.any v5.1), h10.2⟩)
    · have f11 : B 0 2147483647 (p2) := B.nltl c8 (B.any p2) (show B 0 0 (0 : Int32) from ⟨by decide, by decide⟩) (by decide)
      refine T.cond (fun c12 => ?_) (fun c12 => ?_)
      · have f13 : B 0 1 (p2) := B.lel c12 f11 (show B 1 1 (1 : Int32) from ⟨by decide, by decide⟩) (by decide)
        refine T.callB (t_Model_isInL (a := 0) (b := 9) (by decide) (by decide)) (fun v7 h14 => ?_)
        refine T.cond (fun c15 => ?_) (fun c15 => ?_)
        · have f16 : B 0 0 (v7) := B.eql c15 h14.1 (show B 0 0 (0 : Int32) from ⟨by decide, by decide⟩) (by decide)
          refine T.callB (t_Model_fail hM2) (fun v9 h17 => ?_)
          exact T.some' (show B (-2147483648) 2147483647 v9.1 ∧ Inv z v9.2 from ⟨(B.any v9.1), h17.2⟩)
        · have q18 : B 0 9 (p1) := h14.2 c15
          have f19 : B 1 1 (v7) := B.nelo c15 h14.1 (show B 0 0 (0 : Int32) from ⟨by decide, by decide⟩) (by decide)
          refine T.callB (T.lpc (J := J_Model_amnesty_55 z) (Q := Q_Model_amnesty_55 z) (fun s => s.2.2.1) 0 61 (by decide) (fun s h => h.2.2.1) (fun s h => t_Model_amnesty_55 hF q6 q18 f13 q6 q18 f13 h) F _ (show J_Model_amnesty_55 z (0, (-1), 0, mset g 54 3 0) from ⟨(B.wk (show B 0 0 (0 : Int32) from ⟨by decide, by decide⟩) (by decide)), (B.wk (show B (-1) (-1) (-1 : Int32) from ⟨by decide, by decide⟩) (by decide)), (B.wk (show B 0 0 (0 : Int32) from ⟨by decide, by decide⟩) (by decide)), hM2⟩) hF) (fun x13 h20 => ?_)
          have h20 : B 0 60 x13.1 ∧ B (-1) 2147483647 x13.2.1 ∧ Inv z x13.2.2 := h20
          refine T.cond (fun c21 => ?_) (fun c21 => ?_)
          · have f22 : B 0 0 (p2) := B.eql c21 f13 (show B 0 0 (0 : Int32) from ⟨by decide, by decide⟩) (by decide)
            exact T.some' (show B (-2147483648) 2147483647 x13.2.1 ∧ Inv z x13.2.2 from ⟨(B.any x13.2.1), h20.2.2⟩)
          · have f23 : B 1 1 (p2) := B.nelo c21 f13 (show B 0 0 (0 : Int32) from ⟨by decide, by decide⟩) (by decide)
            exact T.some' (show B (-2147483648) 2147483647 x13.1 ∧ Inv z x13.2.2 from ⟨(B.any x13.1), h20.2.2⟩)
      · have f24 : B 2 2147483647 (p2) := B.nlel c12 f11 (show B 1 1 (1 : Int32) from ⟨by decide, by decide⟩) (by decide)
        refine T.callB (t_Model_fail hM2) (fun v15 h25 => ?_)
        exact T.some' (show B (-2147483648) 2147483647 v15.1 ∧ Inv z v15.2 from ⟨(B.any v15.1), h25.2⟩)
theorem t_Model_week_38 {z : Zt} {F : Nat} {p0 : Int32} {p1 : Int32} {g : Mem} {k1 : Int32} {k2 : Int32} {m0 : Mem} {s : Int32 × Int32} (hF : 4294967296 < F) (hp0 : B 0 5 p0) (hp1 : B (-1) 6 p1) (hk1 : B 0 5 k1) (hk2 : B (-1) 6 k2) (hIm0 : Inv z m0) (hs : J_Model_week_38 z s) : T (st_Model_week_38 F p0 p1 g k1 k2 m0 s) (LQ (J_Model_week_38 z) (Q_Model_week_38 z) (fun s => s.2) s.2) := by
  unfold st_Model_week_38
  refine T.cond (fun c1 => ?_) (fun c1 => ?_)
  · exact T.some' (show B (-2147483648) 2147483647 s.1 from (B.any s.1))
  · have f2 : B 1 24 (m0 54 26) := B.nlel c1 hIm0.many hs.2 (by decide)
    have f3 : B 0 23 (s.2) := B.nler c1 hIm0.many hs.2 (by decide)
    refine T.callB (t_Model_isThere f3 hIm0) (fun v8 h4 => ?_)
    refine T.cond (fun c5 => ?_) (fun c5 => ?_)
    · have f6 : B 0 0 (v8) := B.eql c5 h4 (show B 0 0 (0 : Int32) from ⟨by decide, by decide⟩) (by decide)
      have b7 : B 1 24 (s.2 + 1) := B.add f3 (show B 1 1 (1 : Int32) from ⟨by decide, by decide⟩) (by decide)
      exact T.some' (show J_Model_week_38 z (s.1, s.2 + 1) ∧ s.2 + 1 = s.2 + 1 from ⟨⟨(B.any s.1), (B.wk b7 (by decide))⟩, rfl⟩)
    · have f8 : B 1 1 (v8) := B.nelo c5 h4 (show B 0 0 (0 : Int32) from ⟨by decide, by decide⟩) (by decide)
      refine T.callB (t_Model_of1 f3 hIm0) (fun v10 h9 => ?_)
      refine T.cond (fun c10 => ?_) (fun c10 => ?_)
      · refine T.callB (t_Model_old f3 hIm0) (fun v12 h11 => ?_)
        refine T.rdK 3 (P := fun z => B 1 9 z ∧ z = (m0) 58 3) (B.ib (show B 3 3 (3 : Int32) from ⟨by decide, by decide⟩) (by decide)) rfl ⟨hIm0.told3, rfl⟩ (fun v13 h12 => ?_)
        refine T.dvU (T.nz h12.1 (by decide)) (fun v14 => ?_)
        refine T.cond (fun c13 => ?_) (fun c13 => ?_)
        · have f14 : B (-1) 6 (v14) := B.eql c13 (B.any v14) hk2 (by decide)
          have b15 : B 1 24 (s.2 + 1) := B.add f3 (show B 1 1 (1 : Int32) from ⟨by decide, by decide⟩) (by decide)
          exact T.some' (show J_Model_week_38 z (s.1 + 1, s.2 + 1) ∧ s.2 + 1 = s.2 + 1 from ⟨⟨(B.any (s.1 + 1)), (B.wk b15 (by decide))⟩, rfl⟩)
        · refine T.cond (fun c16 => ?_) (fun c16 => ?_)
          · have f17 : B (-1) (-1) (k2) := B.eql c16 hk2 (show B (-1) (-1) (-1 : Int32) from ⟨by decide, by decide⟩) (by decide)
            refine T.cond (fun c18 => ?_) (fun c18 => ?_)
            · have f19 : B (-2147483648) 6 (v14) := B.ltl c18 (B.any v14) (show B 7 7 (7 : Int32) from ⟨by decide, by decide⟩) (by decide)
              have b20 : B (-2147483648) 2147483647 (s.1 + 0) := B.add (B.any s.1) (show B 0 0 (0 : Int32) from ⟨by decide, by decide⟩) (by decide)
              have b21 : B 1 24 (s.2 + 1) := B.add f3 (show B 1 1 (1 : Int32) from ⟨by decide, by decide⟩) (by decide)
              exact T.some' (show J_Model_week_38 z (s.1 + 0, s.2 + 1) ∧ s.2 + 1 = s.2 + 1 from ⟨⟨b20, (B.wk b21 (by decide))⟩, rfl⟩)
            · have f22 : B 7 2147483647 (v14) := B.nltl c18 (B.any v14) (show B 7 7 (7 : Int32) from ⟨by decide, by decide⟩) (by decide)
              have b23 : B 1 24 (s.2 + 1) := B.add f3 (show B 1 1 (1 : Int32) from ⟨by decide, by decide⟩) (by decide)
              exact T.some' (show J_Model_week_38 z (s.1 + 1, s.2 + 1) ∧ s.2 + 1 = s.2 + 1 from ⟨⟨(B.any (s.1 + 1)), (B.wk b23 (by decide))⟩, rfl⟩)
          · have f24 : B 0 6 (k2) := B.nelo c16 hk2 (show B (-1) (-1) (-1 : Int32) from ⟨by decide, by decide⟩) (by decide)
            have b25 : B (-2147483648) 2147483647 (s.1 + 0) := B.add (B.any s.1) (show B 0 0 (0 : Int32) from ⟨by decide, by decide⟩) (by decide)
            have b26 : B 1 24 (s.2 + 1) := B.add f3 (show B 1 1 (1 : Int32) from ⟨by decide, by decide⟩) (by decide)
            exact T.some' (show J_Model_week_38 z (s.1 + 0, s.2 + 1) ∧ s.2 + 1 = s.2 + 1 from ⟨⟨b25, (B.wk b26 (by decide))⟩, rfl⟩)
      · have b27 : B 1 24 (s.2 + 1) := B.add f3 (show B 1 1 (1 : Int32) from ⟨by decide, by decide⟩) (by decide)
        exact T.some' (show J_Model_week_38 z (s.1, s.2 + 1) ∧ s.2 + 1 = s.2 + 1 from ⟨⟨(B.any s.1), (B.wk b27 (by decide))⟩, rfl⟩)
theorem t_Model_week {z : Zt} {F : Nat} {p0 : Int32} {p1 : Int32} {g : Mem} (hF : 4294967296 < F) (hIg : Inv z g) : T (sp_Model_week F p0 p1 g) (fun r => B (-2147483648) 2147483647 r.1 ∧ Inv z r.2) := by
  unfold sp_Model_week
  have hM2 : Inv z (mset g 54 3 0) := hIg.fre rfl
  refine T.callB (t_Model_isMonk hM2) (fun v1 h1 => ?_)
  refine T.cond (fun c3 => ?_) (fun c3 => ?_)
  · have f4 : B 0 0 (v1) := B.eql c3 h1.1 (show B 0 0 (0 : Int32) from ⟨by decide, by decide⟩) (by decide)
    refine T.callB (t_Model_fail hM2) (fun v3 h5 => ?_)
    exact T.some' (show B (-2147483648) 2147483647 v3.1 ∧ Inv z v3.2 from ⟨(B.any v3.1), h5.2⟩)
  · have q6 : B 0 5 (p0) := h1.2 c3
    have f7 : B 1 1 (v1) := B.nelo c3 h1.1 (show B 0 0 (0 : Int32) from ⟨by decide, by decide⟩) (by decide)
    refine T.callB (t_Model_isInL (a := (-1)) (b := 6) (by decide) (by decide)) (fun v4 h8 => ?_)
    refine T.cond (fun c9 => ?_) (fun c9 => ?_)
    · have f10 : B 0 0 (v4) := B.eql c9 h8.1 (show B 0 0 (0 : Int32) from ⟨by decide, by decide⟩) (by decide)
      refine T.callB (t_Model_fail hM2) (fun v6 h11 => ?_)
      exact T.some' (show B (-2147483648) 2147483647 v6.1 ∧ Inv z v6.2 from ⟨(B.any v6.1), h11.2⟩)
    · have q12 : B (-1) 6 (p1) := h8.2 c9
      have f13 : B 1 1 (v4) := B.nelo c9 h8.1 (show B 0 0 (0 : Int32) from ⟨by decide, by decide⟩) (by decide)
      refine T.callB (T.lpc (J := J_Model_week_38 z) (Q := Q_Model_week_38 z) (fun s => s.2) 0 24 (by decide) (fun s h => h.2) (fun s h => t_Model_week_38 hF q6 q12 q6 q12 hM2 h) F _ (show J_Model_week_38 z (0, 0) from ⟨(B.any (0 : Int32)), (B.wk (show B 0 0 (0 : Int32) from ⟨by decide, by decide⟩) (by decide))⟩) hF) (fun x18 h14 => ?_)
      have h14 : B (-2147483648) 2147483647 x18 := h14
      exact T.some' (show B (-2147483648) 2147483647 x18 ∧ Inv z (mset g 54 3 0) from ⟨(B.any x18), hM2⟩)
theorem t_Model_oldest_35 {z : Zt} {F : Nat} {p0 : Int32} {p1 : Int32} {g : Mem} {k1 : Int32} {k2 : Int32} {m0 : Mem} {s : Int32 × Int32} (hF : 4294967296 < F) (hp0 : B 0 3 p0) (hk1 : B 0 3 k1) (hIm0 : Inv z m0) (hs : J_Model_oldest_35 z s) : T (st_Model_oldest_35 F p0 p1 g k1 k2 m0 s) (LQ (J_Model_oldest_35 z) (Q_Model_oldest_35 z) (fun s => s.2) s.2) := by
  unfold st_Model_oldest_35
  refine T.cond (fun c1 => ?_) (fun c1 => ?_)
  · exact T.some' (show B (-1) 23 s.1 from hs.1)
  · have f2 : B 1 24 (m0 54 26) := B.nlel c1 hIm0.many hs.2 (by decide)
    have f3 : B 0 23 (s.2) := B.nler c1 hIm0.many hs.2 (by decide)
    refine T.callB (t_Model_isOfKind f3 hk1 hIm0) (fun v8 h4 => ?_)
    refine T.cond (fun c5 => ?_) (fun c5 => ?_)
    · have f6 : B 0 0 (v8) := B.eql c5 h4 (show B 0 0 (0 : Int32) from ⟨by decide, by decide⟩) (by decide)
      have b7 : B 1 24 (s.2 + 1) := B.add f3 (show B 1 1 (1 : Int32) from ⟨by decide, by decide⟩) (by decide)
      exact T.some' (show J_Model_oldest_35 z (s.1, s.2 + 1) ∧ s.2 + 1 = s.2 + 1 from ⟨⟨hs.1, (B.wk b7 (by decide))⟩, rfl⟩)
    · have f8 : B 1 1 (v8) := B.nelo c5 h4 (show B 0 0 (0 : Int32) from ⟨by decide, by decide⟩) (by decide)
      refine T.cond (fun c9 => ?_) (fun c9 => ?_)
      · have f10 : B (-1) (-1) (s.1) := B.eql c9 hs.1 (show B (-1) (-1) (-1 : Int32) from ⟨by decide, by decide⟩) (by decide)
        have b11 : B 1 24 (s.2 + 1) := B.add f3 (show B 1 1 (1 : Int32) from ⟨by decide, by decide⟩) (by decide)
        exact T.some' (show J_Model_oldest_35 z (s.2, s.2 + 1) ∧ s.2 + 1 = s.2 + 1 from ⟨⟨(B.wk f3 (by decide)), (B.wk b11 (by decide))⟩, rfl⟩)
      · have f12 : B 0 23 (s.1) := B.nelo c9 hs.1 (show B (-1) (-1) (-1 : Int32) from ⟨by decide, by decide⟩) (by decide)
        refine T.callB (t_Model_of f3 (B.wk (show B 2 2 (2 : Int32) from ⟨by decide, by decide⟩) (by decide)) hIm0) (fun v11 h13 => ?_)
        refine T.callB (t_Model_of f12 (B.wk (show B 2 2 (2 : Int32) from ⟨by decide, by decide⟩) (by decide)) hIm0) (fun v12 h14 => ?_)
        refine T.cond (fun c15 => ?_) (fun c15 => ?_)
        · have b16 : B 1 24 (s.2 + 1) := B.add f3 (show B 1 1 (1 : Int32) from ⟨by decide, by decide⟩) (by decide)
          exact T.some' (show J_Model_oldest_35 z (s.1, s.2 + 1) ∧ s.2 + 1 = s.2 + 1 from ⟨⟨(B.wk f12 (by decide)), (B.wk b16 (by decide))⟩, rfl⟩)
        · have f17 : B (-2147483647) 2147483647 (v12) := B.nlel c15 (B.any v12) (B.any v11) (by decide)
          have f18 : B (-2147483648) 2147483646 (v11) := B.nler c15 (B.any v12) (B.any v11) (by decide)
          have b19 : B 1 24 (s.2 + 1) := B.add f3 (show B 1 1 (1 : Int32) from ⟨by decide, by decide⟩) (by decide)
          exact T.some' (show J_Model_oldest_35 z (s.2, s.2 + 1) ∧ s.2 + 1 = s.2 + 1 from ⟨⟨(B.wk f3 (by decide)), (B.wk b19 (by decide))⟩, rfl⟩)
theorem t_Model_oldest {z : Zt} {F : Nat} {p0 : Int32} {p1 : Int32} {g : Mem} (hF : 4294967296 < F) (hIg : Inv z g) : T (sp_Model_oldest F p0 p1 g) (fun r => B (-2147483648) 2147483647 r.1 ∧ Inv z r.2) := by
  unfold sp_Model_oldest
  refine T.callB (t_Model_isInL (a := 0) (b := 3) (by decide) (by decide)) (fun v1 h1 => ?_)
  refine T.cond (fun c2 => ?_) (fun c2 => ?_)
  · have f3 : B 0 0 (v1) := B.eql c2 h1.1 (show B 0 0 (0 : Int32) from ⟨by decide, by decide⟩) (by decide)
    have hM5 : Inv z (mset g 54 3 0) := hIg.fre rfl
    refine T.callB (t_Model_fail hM5) (fun v3 h4 => ?_)
    exact T.some' (show B (-2147483648) 2147483647 v3.1 ∧ Inv z v3.2 from ⟨(B.any v3.1), h4.2⟩)
  · have q6 : B 0 3 (p0) := h1.2 c2
    have f7 : B 1 1 (v1) := B.nelo c2 h1.1 (show B 0 0 (0 : Int32) from ⟨by decide, by decide⟩) (by decide)
    refine T.callB (t_Model_isAbout ) (fun v4 h8 => ?_)
    refine T.cond (fun c9 => ?_) (fun c9 => ?_)
    · have f10 : B 0 0 (v4) := B.eql c9 h8 (show B 0 0 (0 : Int32) from ⟨by decide, by decide⟩) (by decide)
      have hM12 : Inv z (mset g 54 3 0) := hIg.fre rfl
      refine T.callB (t_Model_fail hM12) (fun v6 h11 => ?_)
      exact T.some' (show B (-2147483648) 2147483647 v6.1 ∧ Inv z v6.2 from ⟨(B.any v6.1), h11.2⟩)
    · have f13 : B 1 1 (v4) := B.nelo c9 h8 (show B 0 0 (0 : Int32) from ⟨by decide, by decide⟩) (by decide)
      have hM14 : Inv z (mset g 54 3 0) := hIg.fre rfl
      refine T.callB (T.lpc (J := J_Model_oldest_35 z) (Q := Q_Model_oldest_35 z) (fun s => s.2) 0 24 (by decide) (fun s h => h.2) (fun s h => t_Model_oldest_35 hF q6 q6 hM14 h) F _ (show J_Model_oldest_35 z ((-1), 0) from ⟨(B.wk (show B (-1) (-1) (-1 : Int32) from ⟨by decide, by decide⟩) (by decide)), (B.wk (show B 0 0 (0 : Int32) from ⟨by decide, by decide⟩) (by decide))⟩) hF) (fun x14 h15 => ?_)
      have h15 : B (-1) 23 x14 := h15
      exact T.some' (show B (-2147483648) 2147483647 x14 ∧ Inv z (mset g 54 3 0) from ⟨(B.any x14), hM14⟩)
theorem t_Model_believers_5 {z : Zt} {F : Nat} {p0 : Int32} {p1 : Int32} {g : Mem} {k1 : Int32} {k2 : Int32} {s : Int32 × Int32} (hF : 4294967296 < F) (hIg : Inv z g) (hs : J_Model_believers_5 z s) : T (st_Model_believers_5 F p0 p1 g k1 k2 s) (LQ (J_Model_believers_5 z) (Q_Model_believers_5 z) (fun s => s.2) s.2) := by
  unfold st_Model_believers_5
  refine T.cond (fun c1 => ?_) (fun c1 => ?_)
  · exact T.some' (show B (-2147483648) 2147483647 s.1 from (B.any s.1))
  · have f2 : B 1 24 (g 54 26) := B.nlel c1 hIg.many hs.2 (by decide)
    have f3 : B 0 23 (s.2) := B.nler c1 hIg.many hs.2 (by decide)
    refine T.callB (t_Model_isOfKind f3 (B.wk (show B 0 0 (0 : Int32) from ⟨by decide, by decide⟩) (by decide)) hIg) (fun v2 h4 => ?_)
    refine T.cond (fun c5 => ?_) (fun c5 => ?_)
    · have f6 : B 0 0 (v2) := B.eql c5 h4 (show B 0 0 (0 : Int32) from ⟨by decide, by decide⟩) (by decide)
      have b7 : B 1 24 (s.2 + 1) := B.add f3 (show B 1 1 (1 : Int32) from ⟨by decide, by decide⟩) (by decide)
      exact T.some' (show J_Model_believers_5 z (s.1, s.2 + 1) ∧ s.2 + 1 = s.2 + 1 from ⟨⟨(B.any s.1), (B.wk b7 (by decide))⟩, rfl⟩)
    · have f8 : B 1 1 (v2) := B.nelo c5 h4 (show B 0 0 (0 : Int32) from ⟨by decide, by decide⟩) (by decide)
      refine T.callB (t_Model_of f3 (B.wk (show B 4 4 (4 : Int32) from ⟨by decide, by decide⟩) (by decide)) hIg) (fun v4 h9 => ?_)
      refine T.cond (fun c10 => ?_) (fun c10 => ?_)
      · refine T.callB (t_Model_of1 f3 hIg) (fun v6 h11 => ?_)
        have b12 : B 1 24 (s.2 + 1) := B.add f3 (show B 1 1 (1 : Int32) from ⟨by decide, by decide⟩) (by decide)
        exact T.some' (show J_Model_believers_5 z (s.1 ||| (1 <<< (v6 &&& 31)), s.2 + 1) ∧ s.2 + 1 = s.2 + 1 from ⟨⟨(B.any (s.1 ||| (1 <<< (v6 &&& 31)))), (B.wk b12 (by decide))⟩, rfl⟩)
      · have b13 : B 1 24 (s.2 + 1) := B.add f3 (show B 1 1 (1 : Int32) from ⟨by decide, by decide⟩) (by decide)
        exact T.some' (show J_Model_believers_5 z (s.1, s.2 + 1) ∧ s.2 + 1 = s.2 + 1 from ⟨⟨(B.any s.1), (B.wk b13 (by decide))⟩, rfl⟩)
theorem t_Model_believers {z : Zt} {F : Nat} {p0 : Int32} {p1 : Int32} {g : Mem} (hF : 4294967296 < F) (hIg : Inv z g) : T (sp_Model_believers F p0 p1 g) (fun r => B (-2147483648) 2147483647 r) := by
  unfold sp_Model_believers
  refine T.callB (T.lpc (J := J_Model_believers_5 z) (Q := Q_Model_believers_5 z) (fun s => s.2) 0 24 (by decide) (fun s h => h.2) (fun s h => t_Model_believers_5 hF hIg h) F _ (show J_Model_believers_5 z (0, 0) from ⟨(B.any (0 : Int32)), (B.wk (show B 0 0 (0 : Int32) from ⟨by decide, by decide⟩) (by decide))⟩) hF) (fun x7 h1 => ?_)
  have h1 : B (-2147483648) 2147483647 x7 := h1
  refine T.callB (t_Model_bitsOf hF) (fun v8 h2 => ?_)
  exact T.some' (show B (-2147483648) 2147483647 v8 from (B.any v8))
theorem t_Model_believed_25 {z : Zt} {F : Nat} {p0 : Int32} {g : Mem} {k1 : Int32} {m0 : Mem} {s : Int32 × Int32 × Int32} (hF : 4294967296 < F) (hIm0 : Inv z m0) (hs : J_Model_believed_25 z s) : T (st_Model_believed_25 F p0 g k1 m0 s) (LQ (J_Model_believed_25 z) (Q_Model_believed_25 z) (fun s => s.2.2) s.2.2) := by
  unfold st_Model_believed_25
  refine T.cond (fun c1 => ?_) (fun c1 => ?_)
  · exact T.some' (show B (-2147483648) 2147483647 s.1 from (B.any s.1))
  · have f2 : B 1 24 (m0 54 26) := B.nlel c1 hIm0.many hs.2.2 (by decide)
    have f3 : B 0 23 (s.2.2) := B.nler c1 hIm0.many hs.2.2 (by decide)
    refine T.callB (t_Model_isOfKind f3 (B.wk (show B 0 0 (0 : Int32) from ⟨by decide, by decide⟩) (by decide)) hIm0) (fun v5 h4 => ?_)
    refine T.cond (fun c5 => ?_) (fun c5 => ?_)
    · have f6 : B 0 0 (v5) := B.eql c5 h4 (show B 0 0 (0 : Int32) from ⟨by decide, by decide⟩) (by decide)
      have b7 : B 1 24 (s.2.2 + 1) := B.add f3 (show B 1 1 (1 : Int32) from ⟨by decide, by decide⟩) (by decide)
      exact T.some' (show J_Model_believed_25 z (s.1, s.2.1, s.2.2 + 1) ∧ s.2.2 + 1 = s.2.2 + 1 from ⟨⟨(B.any s.1), hs.2.1, (B.wk b7 (by decide))⟩, rfl⟩)
    · have f8 : B 1 1 (v5) := B.nelo c5 h4 (show B 0 0 (0 : Int32) from ⟨by decide, by decide⟩) (by decide)
      refine T.callB (t_Model_of f3 (B.wk (show B 4 4 (4 : Int32) from ⟨by decide, by decide⟩) (by decide)) hIm0) (fun v7 h9 => ?_)
      refine T.callB (t_Model_believers hF hIm0) (fun v8 h10 => ?_)
      refine T.cond (fun c11 => ?_) (fun c11 => ?_)
      · have f12 : B (-2147483648) 2147483646 (v8) := B.ltl c11 (B.any v8) hs.2.1 (by decide)
        have b13 : B 1 24 (s.2.2 + 1) := B.add f3 (show B 1 1 (1 : Int32) from ⟨by decide, by decide⟩) (by decide)
        exact T.some' (show J_Model_believed_25 z (s.1, s.2.1, s.2.2 + 1) ∧ s.2.2 + 1 = s.2.2 + 1 from ⟨⟨(B.any s.1), hs.2.1, (B.wk b13 (by decide))⟩, rfl⟩)
      · have f14 : B 0 2147483647 (v8) := B.nltl c11 (B.any v8) hs.2.1 (by decide)
        refine T.cond (fun c15 => ?_) (fun c15 => ?_)
        · refine T.cond (fun c16 => ?_) (fun c16 => ?_)
          · have f17 : B (-2147483648) 2147483646 (v7) := B.ltl c16 (B.any v7) (B.any s.1) (by decide)
            have f18 : B (-2147483647) 2147483647 (s.1) := B.ltr c16 (B.any v7) (B.any s.1) (by decide)
            have b19 : B 1 24 (s.2.2 + 1) := B.add f3 (show B 1 1 (1 : Int32) from ⟨by decide, by decide⟩) (by decide)
            exact T.some' (show J_Model_believed_25 z (v7, v8, s.2.2 + 1) ∧ s.2.2 + 1 = s.2.2 + 1 from ⟨⟨(B.any v7), f14, (B.wk b19 (by decide))⟩, rfl⟩)
          · have b20 : B 1 24 (s.2.2 + 1) := B.add f3 (show B 1 1 (1 : Int32) from ⟨by decide, by decide⟩) (by decide)
            exact T.some' (show J_Model_believed_25 z (s.1, s.2.1, s.2.2 + 1) ∧ s.2.2 + 1 = s.2.2 + 1 from ⟨⟨(B.any s.1), hs.2.1, (B.wk b20 (by decide))⟩, rfl⟩)
        · have b21 : B 1 24 (s.2.2 + 1) := B.add f3 (show B 1 1 (1 : Int32) from ⟨by decide, by decide⟩) (by decide)
          exact T.some' (show J_Model_believed_25 z (v7, v8, s.2.2 + 1) ∧ s.2.2 + 1 = s.2.2 + 1 from ⟨⟨(B.any v7), f14, (B.wk b21 (by decide))⟩, rfl⟩)
theorem t_Model_believed {z : Zt} {F : Nat} {p0 : Int32} {g : Mem} (hF : 4294967296 < F) (hIg : Inv z g) : T (sp_Model_believed F p0 g) (fun r => B (-2147483648) 2147483647 r.1 ∧ Inv z r.2) := by
  unfold sp_Model_believed
  refine T.callB (t_Model_isAbout ) (fun v1 h1 => ?_)
  refine T.cond (fun c2 => ?_) (fun c2 => ?_)
  · have f3 : B 0 0 (v1) := B.eql c2 h1 (show B 0 0 (0 : Int32) from ⟨by decide, by decide⟩) (by decide)
    have hM5 : Inv z (mset g 54 3 0) := hIg.fre rfl
    refine T.callB (t_Model_fail hM5) (fun v3 h4 => ?_)
    exact T.some' (show B (-2147483648) 2147483647 v3.1 ∧ Inv z v3.2 from ⟨(B.any v3.1), h4.2⟩)
  · have f6 : B 1 1 (v1) := B.nelo c2 h1 (show B 0 0 (0 : Int32) from ⟨by decide, by decide⟩) (by decide)
    have hM7 : Inv z (mset g 54 3 0) := hIg.fre rfl
    refine T.callB (T.lpc (J := J_Model_believed_25 z) (Q := Q_Model_believed_25 z) (fun s => s.2.2) 0 24 (by decide) (fun s h => h.2.2) (fun s h => t_Model_believed_25 hF hM7 h) F _ (show J_Model_believed_25 z ((-1), 0, 0) from ⟨(B.any (-1 : Int32)), (B.wk (show B 0 0 (0 : Int32) from ⟨by decide, by decide⟩) (by decide)), (B.wk (show B 0 0 (0 : Int32) from ⟨by decide, by decide⟩) (by decide))⟩) hF) (fun x12 h8 => ?_)
    have h8 : B (-2147483648) 2147483647 x12 := h8
    exact T.some' (show B (-2147483648) 2147483647 x12 ∧ Inv z (mset g 54 3 0) from ⟨(B.any x12), hM7⟩)
theorem t_Model_until {z : Zt} {p0 : Int32} {g : Mem} (hIg : Inv z g) : T (sp_Model_until p0 g) (fun r => B (-2147483648) 2147483647 r.1 ∧ Inv z r.2) := by
  unfold sp_Model_until
  have hM2 : Inv z (mset g 54 3 0) := hIg.fre rfl
  refine T.callB (t_Model_isEntry hM2) (fun v1 h1 => ?_)
  refine T.cond (fun c3 => ?_) (fun c3 => ?_)
  · have f4 : B 0 0 (v1) := B.eql c3 h1.1 (show B 0 0 (0 : Int32) from ⟨by decide, by decide⟩) (by decide)
    refine T.callB (t_Model_fail hM2) (fun v3 h5 => ?_)
    exact T.some' (show B (-2147483648) 2147483647 v3.1 ∧ Inv z v3.2 from ⟨(B.any v3.1), h5.2⟩)
  · have q6 : B 0 23 (p0) := h1.2 c3
    have f7 : B 1 1 (v1) := B.nelo c3 h1.1 (show B 0 0 (0 : Int32) from ⟨by decide, by decide⟩) (by decide)
    refine T.callB (t_Model_of1 q6 hM2) (fun v4 h8 => ?_)
    refine T.callB (t_Model_isThere q6 hM2) (fun v5 h9 => ?_)
    refine T.cond (fun c10 => ?_) (fun c10 => ?_)
    · have f11 : B 0 0 (v5) := B.eql c10 h9 (show B 0 0 (0 : Int32) from ⟨by decide, by decide⟩) (by decide)
      exact T.some' (show B (-2147483648) 2147483647 (-1 : Int32) ∧ Inv z (mset g 54 3 0) from ⟨(B.any (-1 : Int32)), hM2⟩)
    · have f12 : B 1 1 (v5) := B.nelo c10 h9 (show B 0 0 (0 : Int32) from ⟨by decide, by decide⟩) (by decide)
      refine T.callB (t_Model_isOf ) (fun v7 h13 => ?_)
      refine T.cond (fun c14 => ?_) (fun c14 => ?_)
      · have f15 : B 0 0 (v7) := B.eql c14 h13 (show B 0 0 (0 : Int32) from ⟨by decide, by decide⟩) (by decide)
        refine T.rdU (B.ib h8 (by decide)) (fun v9 => ?_)
        refine T.rdU (B.ib (show B 1 1 (1 : Int32) from ⟨by decide, by decide⟩) (by decide)) (fun v10 => ?_)
        refine T.callB (t_Model_mayHave ) (fun v11 h16 => ?_)
        refine T.callB (t_Model_old q6 hM2) (fun v12 h17 => ?_)
        exact T.some' (show B (-2147483648) 2147483647 (v11 - v12) ∧ Inv z (mset g 54 3 0) from ⟨(B.any (v11 - v12)), hM2⟩)
      · have f18 : B 1 1 (v7) := B.nelo c14 h13 (show B 0 0 (0 : Int32) from ⟨by decide, by decide⟩) (by decide)
        exact T.some' (show B (-2147483648) 2147483647 (-2 : Int32) ∧ Inv z (mset g 54 3 0) from ⟨(B.any (-2 : Int32)), hM2⟩)
theorem t_Model_doomed_39 {z : Zt} {F : Nat} {p0 : Int32} {g : Mem} {k1 : Int32} {k2 : Int32} {s : Int32 × Mem} (hF : 4294967296 < F) (hp0 : B 0 60 p0) (hk1 : B 0 60 k1) (hs : J_Model_doomed_39 z s) : T (st_Model_doomed_39 F p0 g k1 k2 s) (LQ (J_Model_doomed_39 z) (Q_Model_doomed_39 z) (fun s => s.1) s.1) := by
  unfold st_Model_doomed_39
  refine T.cond (fun c1 => ?_) (fun c1 => ?_)
  · exact T.some' (show Inv z s.2 from hs.2)
  · have f2 : B 1 60 (k1) := B.nlel c1 hk1 hs.1 (by decide)
    have f3 : B 0 59 (s.1) := B.nler c1 hk1 hs.1 (by decide)
    refine T.callB (t_Model_yearGoes hF hs.2) (fun v7 h4 => ?_)
    have b5 : B 1 60 (s.1 + 1) := B.add f3 (show B 1 1 (1 : Int32) from ⟨by decide, by decide⟩) (by decide)
    exact T.some' (show J_Model_doomed_39 z (s.1 + 1, v7) ∧ s.1 + 1 = s.1 + 1 from ⟨⟨(B.wk b5 (by decide)), h4⟩, rfl⟩)
theorem t_Model_doomed {z : Zt} {F : Nat} {p0 : Int32} {g : Mem} (hF : 4294967296 < F) (hIg : Inv z g) : T (sp_Model_doomed F p0 g) (fun r => B (-2147483648) 2147483647 r.1 ∧ Inv z r.2) := by
  unfold sp_Model_doomed
  refine T.callB (t_Model_isInL (a := 0) (b := 60) (by decide) (by decide)) (fun v1 h1 => ?_)
  refine T.cond (fun c2 => ?_) (fun c2 => ?_)
  · have f3 : B 0 0 (v1) := B.eql c2 h1.1 (show B 0 0 (0 : Int32) from ⟨by decide, by decide⟩) (by decide)
    have hM5 : Inv z (mset g 54 3 0) := hIg.fre rfl
    refine T.callB (t_Model_fail hM5) (fun v3 h4 => ?_)
    exact T.some' (show B (-2147483648) 2147483647 v3.1 ∧ Inv z v3.2 from ⟨(B.any v3.1), h4.2⟩)
  · have q6 : B 0 60 (p0) := h1.2 c2
    have f7 : B 1 1 (v1) := B.nelo c2 h1.1 (show B 0 0 (0 : Int32) from ⟨by decide, by decide⟩) (by decide)
    have hM9 : Inv z (mset g 54 3 0) := hIg.fre rfl
    refine T.callB (t_Model_records hF hM9) (fun v4 h8 => ?_)
    refine T.callB (t_Model_pack (q0n := 231) hF (Or.inr (Or.inl rfl)) (by decide) (show B 0 0 (0 : Int32) from ⟨by decide, by decide⟩) rfl hM9) (fun v5 h10 => ?_)
    refine T.callB (T.lpc (J := J_Model_doomed_39 z) (Q := Q_Model_doomed_39 z) (fun s => s.1) 0 60 (by decide) (fun s h => h.1) (fun s h => t_Model_doomed_39 hF q6 q6 h) F _ (show J_Model_doomed_39 z (0, v5) from ⟨(B.wk (show B 0 0 (0 : Int32) from ⟨by decide, by decide⟩) (by decide)), h10.1⟩) hF) (fun x8 h11 => ?_)
    have h11 : Inv z x8 := h11
    refine T.callB (t_Model_records hF h11) (fun v9 h12 => ?_)
    refine T.callB (t_Model_unpack (q0n := 231) hF (Or.inr (Or.inl rfl)) (by decide) (show B 0 0 (0 : Int32) from ⟨by decide, by decide⟩) rfl h11) (fun v10 h13 => ?_)
    refine T.callB (t_Model_bitsOf hF) (fun v11 h14 => ?_)
    exact T.some' (show B (-2147483648) 2147483647 v11 ∧ Inv z v10 from ⟨(B.any v11), h13⟩)
theorem t_Model_safest_9 {z : Zt} {F : Nat} {g : Mem} {m0 : Mem} {s : Int32 × Int32} (hF : 4294967296 < F) (hIm0 : Inv z m0) (hs : J_Model_safest_9 z s) : T (st_Model_safest_9 F g m0 s) (LQ (J_Model_safest_9 z) (Q_Model_safest_9 z) (fun s => s.2) s.2) := by
  unfold st_Model_safest_9
  refine T.rdK 0 (P := fun z => B 0 6 z ∧ z = (m0) 58 0) (B.ib (show B 0 0 (0 : Int32) from ⟨by decide, by decide⟩) (by decide)) rfl ⟨hIm0.told0, rfl⟩ (fun v1 h1 => ?_)
  refine T.cond (fun c2 => ?_) (fun c2 => ?_)
  · exact T.some' (show B (-1) 5 s.1 from hs.1)
  · have f3 : B 1 6 (v1) := B.nlel c2 h1.1 hs.2 (by decide)
    have f4 : B 0 5 (s.2) := B.nler c2 h1.1 hs.2 (by decide)
    refine T.callB (t_Model_isOf ) (fun v3 h5 => ?_)
    refine T.cond (fun c6 => ?_) (fun c6 => ?_)
    · have f7 : B 0 0 (v3) := B.eql c6 h5 (show B 0 0 (0 : Int32) from ⟨by decide, by decide⟩) (by decide)
      refine T.cond (fun c8 => ?_) (fun c8 => ?_)
      · have f9 : B (-1) (-1) (s.1) := B.eql c8 hs.1 (show B (-1) (-1) (-1 : Int32) from ⟨by decide, by decide⟩) (by decide)
        have b10 : B 1 6 (s.2 + 1) := B.add f4 (show B 1 1 (1 : Int32) from ⟨by decide, by decide⟩) (by decide)
        exact T.some' (show J_Model_safest_9 z (s.2, s.2 + 1) ∧ s.2 + 1 = s.2 + 1 from ⟨⟨(B.wk f4 (by decide)), (B.wk b10 (by decide))⟩, rfl⟩)
      · have f11 : B 0 5 (s.1) := B.nelo c8 hs.1 (show B (-1) (-1) (-1 : Int32) from ⟨by decide, by decide⟩) (by decide)
        refine T.rdU (B.ib f4 (by decide)) (fun v6 => ?_)
        refine T.rdU (B.ib (show B 1 1 (1 : Int32) from ⟨by decide, by decide⟩) (by decide)) (fun v7 => ?_)
        refine T.callB (t_Model_mayHave ) (fun v8 h12 => ?_)
        refine T.rdU (B.ib f11 (by decide)) (fun v9 => ?_)
        refine T.rdU (B.ib (show B 1 1 (1 : Int32) from ⟨by decide, by decide⟩) (by decide)) (fun v10 => ?_)
        refine T.callB (t_Model_mayHave ) (fun v11 h13 => ?_)
        refine T.cond (fun c14 => ?_) (fun c14 => ?_)
        · have b15 : B 1 6 (s.2 + 1) := B.add f4 (show B 1 1 (1 : Int32) from ⟨by decide, by decide⟩) (by decide)
          exact T.some' (show J_Model_safest_9 z (s.1, s.2 + 1) ∧ s.2 + 1 = s.2 + 1 from ⟨⟨(B.wk f11 (by decide)), (B.wk b15 (by decide))⟩, rfl⟩)
        · have f16 : B (-2147483647) 2147483647 (v8) := B.nlel c14 (B.any v8) (B.any v11) (by decide)
          have f17 : B (-2147483648) 2147483646 (v11) := B.nler c14 (B.any v8) (B.any v11) (by decide)
          have b18 : B 1 6 (s.2 + 1) := B.add f4 (show B 1 1 (1 : Int32) from ⟨by decide, by decide⟩) (by decide)
          exact T.some' (show J_Model_safest_9 z (s.2, s.2 + 1) ∧ s.2 + 1 = s.2 + 1 from ⟨⟨(B.wk f4 (by decide)), (B.wk b18 (by decide))⟩, rfl⟩)
    · have f19 : B 1 1 (v3) := B.nelo c6 h5 (show B 0 0 (0 : Int32) from ⟨by decide, by decide⟩) (by decide)
      have b20 : B 1 6 (s.2 + 1) := B.add f4 (show B 1 1 (1 : Int32) from ⟨by decide, by decide⟩) (by decide)
      exact T.some' (show J_Model_safest_9 z (s.1, s.2 + 1) ∧ s.2 + 1 = s.2 + 1 from ⟨⟨hs.1, (B.wk b20 (by decide))⟩, rfl⟩)
theorem t_Model_safest {z : Zt} {F : Nat} {g : Mem} (hF : 4294967296 < F) (hIg : Inv z g) : T (sp_Model_safest F g) (fun r => B (-2147483648) 2147483647 r.1 ∧ Inv z r.2) := by
  unfold sp_Model_safest
  have hM1 : Inv z (mset g 54 3 0) := hIg.fre rfl
  refine T.callB (T.lpc (J := J_Model_safest_9 z) (Q := Q_Model_safest_9 z) (fun s => s.2) 0 6 (by decide) (fun s h => h.2) (fun s h => t_Model_safest_9 hF hM1 h) F _ (show J_Model_safest_9 z ((-1), 0) from ⟨(B.wk (show B (-1) (-1) (-1 : Int32) from ⟨by decide, by decide⟩) (by decide)), (B.wk (show B 0 0 (0 : Int32) from ⟨by decide, by decide⟩) (by decide))⟩) hF) (fun x13 h2 => ?_)
  have h2 : B (-1) 5 x13 := h2
  exact T.some' (show B (-2147483648) 2147483647 x13 ∧ Inv z (mset g 54 3 0) from ⟨(B.any x13), hM1⟩)
theorem t_Model_recordsOf_4 {z : Zt} {F : Nat} {p0 : Int32} {g : Mem} {k1 : Int32} {s : Int32 × Int32} (hF : 4294967296 < F) (hp0 : B 0 5 p0) (hk1 : B 0 5 k1) (hIg : Inv z g) (hs : J_Model_recordsOf_4 z s) : T (st_Model_recordsOf_4 F p0 g k1 s) (LQ (J_Model_recordsOf_4 z) (Q_Model_recordsOf_4 z) (fun s => s.2) s.2) := by
  unfold st_Model_recordsOf_4
  refine T.cond (fun c1 => ?_) (fun c1 => ?_)
  · exact T.some' (show B (-2147483648) 2147483647 s.1 from (B.any s.1))
  · have f2 : B 1 24 (g 54 26) := B.nlel c1 hIg.many hs.2 (by decide)
    have f3 : B 0 23 (s.2) := B.nler c1 hIg.many hs.2 (by decide)
    refine T.callB (t_Model_isThere f3 hIg) (fun v2 h4 => ?_)
    refine T.cond (fun c5 => ?_) (fun c5 => ?_)
    · have f6 : B 0 0 (v2) := B.eql c5 h4 (show B 0 0 (0 : Int32) from ⟨by decide, by decide⟩) (by decide)
      have b7 : B 1 24 (s.2 + 1) := B.add f3 (show B 1 1 (1 : Int32) from ⟨by decide, by decide⟩) (by decide)
      exact T.some' (show J_Model_recordsOf_4 z (s.1, s.2 + 1) ∧ s.2 + 1 = s.2 + 1 from ⟨⟨(B.any s.1), (B.wk b7 (by decide))⟩, rfl⟩)
    · have f8 : B 1 1 (v2) := B.nelo c5 h4 (show B 0 0 (0 : Int32) from ⟨by decide, by decide⟩) (by decide)
      refine T.callB (t_Model_of1 f3 hIg) (fun v4 h9 => ?_)
      refine T.cond (fun c10 => ?_) (fun c10 => ?_)
      · refine T.callB (t_Model_of f3 (B.wk (show B 7 7 (7 : Int32) from ⟨by decide, by decide⟩) (by decide)) hIg) (fun v6 h11 => ?_)
        have b12 : B 1 24 (s.2 + 1) := B.add f3 (show B 1 1 (1 : Int32) from ⟨by decide, by decide⟩) (by decide)
        exact T.some' (show J_Model_recordsOf_4 z (s.1 ||| (1 <<< (v6 &&& 31)), s.2 + 1) ∧ s.2 + 1 = s.2 + 1 from ⟨⟨(B.any (s.1 ||| (1 <<< (v6 &&& 31)))), (B.wk b12 (by decide))⟩, rfl⟩)
      · have b13 : B 1 24 (s.2 + 1) := B.add f3 (show B 1 1 (1 : Int32) from ⟨by decide, by decide⟩) (by decide)
        exact T.some' (show J_Model_recordsOf_4 z (s.1, s.2 + 1) ∧ s.2 + 1 = s.2 + 1 from ⟨⟨(B.any s.1), (B.wk b13 (by decide))⟩, rfl⟩)
theorem t_Model_recordsOf {z : Zt} {F : Nat} {p0 : Int32} {g : Mem} (hF : 4294967296 < F) (hp0 : B 0 5 p0) (hIg : Inv z g) : T (sp_Model_recordsOf F p0 g) (fun r => B (-2147483648) 2147483647 r) := by
  unfold sp_Model_recordsOf
  refine T.callB (T.lpc (J := J_Model_recordsOf_4 z) (Q := Q_Model_recordsOf_4 z) (fun s => s.2) 0 24 (by decide) (fun s h => h.2) (fun s h => t_Model_recordsOf_4 hF hp0 hp0 hIg h) F _ (show J_Model_recordsOf_4 z (0, 0) from ⟨(B.any (0 : Int32)), (B.wk (show B 0 0 (0 : Int32) from ⟨by decide, by decide⟩) (by decide))⟩) hF) (fun x7 h1 => ?_)
  have h1 : B (-2147483648) 2147483647 x7 := h1
  exact T.some' (show B (-2147483648) 2147483647 x7 from (B.any x7))
theorem t_Model_heir_30 {z : Zt} {F : Nat} {p0 : Int32} {g : Mem} {k1 : Int32} {k2 : Int32} {m0 : Mem} {s : Int32 × Int32} (hF : 4294967296 < F) (hp0 : B 0 5 p0) (hk1 : B 0 5 k1) (hIm0 : Inv z m0) (hs : J_Model_heir_30 z s) : T (st_Model_heir_30 F p0 g k1 k2 m0 s) (LQ (J_Model_heir_30 z) (Q_Model_heir_30 z) (fun s => s.2) s.2) := by
  unfold st_Model_heir_30
  refine T.rdK 0 (P := fun z => B 0 6 z ∧ z = (m0) 58 0) (B.ib (show B 0 0 (0 : Int32) from ⟨by decide, by decide⟩) (by decide)) rfl ⟨hIm0.told0, rfl⟩ (fun v5 h1 => ?_)
  refine T.cond (fun c2 => ?_) (fun c2 => ?_)
  · exact T.some' (show B (-1) 5 s.1 from hs.1)
  · have f3 : B 1 6 (v5) := B.nlel c2 h1.1 hs.2 (by decide)
    have f4 : B 0 5 (s.2) := B.nler c2 h1.1 hs.2 (by decide)
    refine T.cond (fun c5 => ?_) (fun c5 => ?_)
    · have b6 : B 1 6 (s.2 + 1) := B.add f4 (show B 1 1 (1 : Int32) from ⟨by decide, by decide⟩) (by decide)
      exact T.some' (show J_Model_heir_30 z (s.1, s.2 + 1) ∧ s.2 + 1 = s.2 + 1 from ⟨⟨hs.1, (B.wk b6 (by decide))⟩, rfl⟩)
    · refine T.callB (t_Model_isOf ) (fun v8 h7 => ?_)
      refine T.cond (fun c8 => ?_) (fun c8 => ?_)
      · have f9 : B 0 0 (v8) := B.eql c8 h7 (show B 0 0 (0 : Int32) from ⟨by decide, by decide⟩) (by decide)
        refine T.cond (fun c10 => ?_) (fun c10 => ?_)
        · have f11 : B (-1) (-1) (s.1) := B.eql c10 hs.1 (show B (-1) (-1) (-1 : Int32) from ⟨by decide, by decide⟩) (by decide)
          have b12 : B 1 6 (s.2 + 1) := B.add f4 (show B 1 1 (1 : Int32) from ⟨by decide, by decide⟩) (by decide)
          exact T.some' (show J_Model_heir_30 z (s.2, s.2 + 1) ∧ s.2 + 1 = s.2 + 1 from ⟨⟨(B.wk f4 (by decide)), (B.wk b12 (by decide))⟩, rfl⟩)
        · have f13 : B 0 5 (s.1) := B.nelo c10 hs.1 (show B (-1) (-1) (-1 : Int32) from ⟨by decide, by decide⟩) (by decide)
          refine T.callB (t_Model_recordsOf hF f4 hIm0) (fun v11 h14 => ?_)
          refine T.callB (t_Model_bitsOf hF) (fun v12 h15 => ?_)
          refine T.callB (t_Model_recordsOf hF f13 hIm0) (fun v13 h16 => ?_)
          refine T.callB (t_Model_bitsOf hF) (fun v14 h17 => ?_)
          refine T.cond (fun c18 => ?_) (fun c18 => ?_)
          · have b19 : B 1 6 (s.2 + 1) := B.add f4 (show B 1 1 (1 : Int32) from ⟨by decide, by decide⟩) (by decide)
            exact T.some' (show J_Model_heir_30 z (s.1, s.2 + 1) ∧ s.2 + 1 = s.2 + 1 from ⟨⟨(B.wk f13 (by decide)), (B.wk b19 (by decide))⟩, rfl⟩)
          · have f20 : B (-2147483647) 2147483647 (v12) := B.nlel c18 (B.any v12) (B.any v14) (by decide)
            have f21 : B (-2147483648) 2147483646 (v14) := B.nler c18 (B.any v12) (B.any v14) (by decide)
            have b22 : B 1 6 (s.2 + 1) := B.add f4 (show B 1 1 (1 : Int32) from ⟨by decide, by decide⟩) (by decide)
            exact T.some' (show J_Model_heir_30 z (s.2, s.2 + 1) ∧ s.2 + 1 = s.2 + 1 from ⟨⟨(B.wk f4 (by decide)), (B.wk b22 (by decide))⟩, rfl⟩)
      · have f23 : B 1 1 (v8) := B.nelo c8 h7 (show B 0 0 (0 : Int32) from ⟨by decide, by decide⟩) (by decide)
        have b24 : B 1 6 (s.2 + 1) := B.add f4 (show B 1 1 (1 : Int32) from ⟨by decide, by decide⟩) (by decide)
        exact T.some' (show J_Model_heir_30 z (s.1, s.2 + 1) ∧ s.2 + 1 = s.2 + 1 from ⟨⟨hs.1, (B.wk b24 (by decide))⟩, rfl⟩)
theorem t_Model_heir {z : Zt} {F : Nat} {p0 : Int32} {g : Mem} (hF : 4294967296 < F) (hIg : Inv z g) : T (sp_Model_heir F p0 g) (fun r => B (-2147483648) 2147483647 r.1 ∧ Inv z r.2) := by
  unfold sp_Model_heir
  have hM2 : Inv z (mset g 54 3 0) := hIg.fre rfl
  refine T.callB (t_Model_isMonk hM2) (fun v1 h1 => ?_)
  refine T.cond (fun c3 => ?_) (fun c3 => ?_)
  · have f4 : B 0 0 (v1) := B.eql c3 h1.1 (show B 0 0 (0 : Int32) from ⟨by decide, by decide⟩) (by decide)
    refine T.callB (t_Model_fail hM2) (fun v3 h5 => ?_)
    exact T.some' (show B (-2147483648) 2147483647 v3.1 ∧ Inv z v3.2 from ⟨(B.any v3.1), h5.2⟩)
  · have q6 : B 0 5 (p0) := h1.2 c3
    have f7 : B 1 1 (v1) := B.nelo c3 h1.1 (show B 0 0 (0 : Int32) from ⟨by decide, by decide⟩) (by decide)
    refine T.callB (t_Model_recordsOf hF q6 hM2) (fun v4 h8 => ?_)
    refine T.callB (T.lpc (J := J_Model_heir_30 z) (Q := Q_Model_heir_30 z) (fun s => s.2) 0 6 (by decide) (fun s h => h.2) (fun s h => t_Model_heir_30 hF q6 q6 hM2 h) F _ (show J_Model_heir_30 z ((-1), 0) from ⟨(B.wk (show B (-1) (-1) (-1 : Int32) from ⟨by decide, by decide⟩) (by decide)), (B.wk (show B 0 0 (0 : Int32) from ⟨by decide, by decide⟩) (by decide))⟩) hF) (fun x16 h9 => ?_)
    have h9 : B (-1) 5 x16 := h9
    exact T.some' (show B (-2147483648) 2147483647 x16 ∧ Inv z (mset g 54 3 0) from ⟨(B.any x16), hM2⟩)
theorem t_Model_lice_23 {z : Zt} {F : Nat} {p0 : Int32} {g : Mem} {k1 : Int32} {m0 : Mem} {s : Int32 × Int32} (hF : 4294967296 < F) (hp0 : B 0 5 p0) (hk1 : B 0 5 k1) (hIm0 : Inv z m0) (hs : J_Model_lice_23 z s) : T (st_Model_lice_23 F p0 g k1 m0 s) (LQ (J_Model_lice_23 z) (Q_Model_lice_23 z) (fun s => s.2) s.2) := by
  unfold st_Model_lice_23
  refine T.cond (fun c1 => ?_) (fun c1 => ?_)
  · exact T.some' (show B (-2147483648) 2147483647 s.1 from (B.any s.1))
  · have f2 : B 1 24 (m0 54 26) := B.nlel c1 hIm0.many hs.2 (by decide)
    have f3 : B 0 23 (s.2) := B.nler c1 hIm0.many hs.2 (by decide)
    refine T.callB (t_Model_isThere f3 hIm0) (fun v5 h4 => ?_)
    refine T.cond (fun c5 => ?_) (fun c5 => ?_)
    · have f6 : B 0 0 (v5) := B.eql c5 h4 (show B 0 0 (0 : Int32) from ⟨by decide, by decide⟩) (by decide)
      have b7 : B (-2147483648) 2147483647 (s.1 + 0) := B.add (B.any s.1) (show B 0 0 (0 : Int32) from ⟨by decide, by decide⟩) (by decide)
      have b8 : B 1 24 (s.2 + 1) := B.add f3 (show B 1 1 (1 : Int32) from ⟨by decide, by decide⟩) (by decide)
      exact T.some' (show J_Model_lice_23 z (s.1 + 0, s.2 + 1) ∧ s.2 + 1 = s.2 + 1 from ⟨⟨b7, (B.wk b8 (by decide))⟩, rfl⟩)
    · have f9 : B 1 1 (v5) := B.nelo c5 h4 (show B 0 0 (0 : Int32) from ⟨by decide, by decide⟩) (by decide)
      refine T.callB (t_Model_of1 f3 hIm0) (fun v7 h10 => ?_)
      refine T.cond (fun c11 => ?_) (fun c11 => ?_)
      · refine T.callB (t_Model_of f3 (B.wk (show B 4 4 (4 : Int32) from ⟨by decide, by decide⟩) (by decide)) hIm0) (fun v9 h12 => ?_)
        refine T.callB (t_Model_old f3 hIm0) (fun v10 h13 => ?_)
        have b14 : B 1 24 (s.2 + 1) := B.add f3 (show B 1 1 (1 : Int32) from ⟨by decide, by decide⟩) (by decide)
        exact T.some' (show J_Model_lice_23 z (s.1 + (v9 * (v10 + 1)), s.2 + 1) ∧ s.2 + 1 = s.2 + 1 from ⟨⟨(B.any (s.1 + (v9 * (v10 + 1)))), (B.wk b14 (by decide))⟩, rfl⟩)
      · have b15 : B (-2147483648) 2147483647 (s.1 + 0) := B.add (B.any s.1) (show B 0 0 (0 : Int32) from ⟨by decide, by decide⟩) (by decide)
        have b16 : B 1 24 (s.2 + 1) := B.add f3 (show B 1 1 (1 : Int32) from ⟨by decide, by decide⟩) (by decide)
        exact T.some' (show J_Model_lice_23 z (s.1 + 0, s.2 + 1) ∧ s.2 + 1 = s.2 + 1 from ⟨⟨b15, (B.wk b16 (by decide))⟩, rfl⟩)
theorem t_Model_lice {z : Zt} {F : Nat} {p0 : Int32} {g : Mem} (hF : 4294967296 < F) (hIg : Inv z g) : T (sp_Model_lice F p0 g) (fun r => B (-2147483648) 2147483647 r.1 ∧ Inv z r.2) := by
  unfold sp_Model_lice
  have hM2 : Inv z (mset g 54 3 0) := hIg.fre rfl
  refine T.callB (t_Model_isMonk hM2) (fun v1 h1 => ?_)
  refine T.cond (fun c3 => ?_) (fun c3 => ?_)
  · have f4 : B 0 0 (v1) := B.eql c3 h1.1 (show B 0 0 (0 : Int32) from ⟨by decide, by decide⟩) (by decide)
    refine T.callB (t_Model_fail hM2) (fun v3 h5 => ?_)
    exact T.some' (show B (-2147483648) 2147483647 v3.1 ∧ Inv z v3.2 from ⟨(B.any v3.1), h5.2⟩)
  · have q6 : B 0 5 (p0) := h1.2 c3
    have f7 : B 1 1 (v1) := B.nelo c3 h1.1 (show B 0 0 (0 : Int32) from ⟨by decide, by decide⟩) (by decide)
    refine T.callB (T.lpc (J := J_Model_lice_23 z) (Q := Q_Model_lice_23 z) (fun s => s.2) 0 24 (by decide) (fun s h => h.2) (fun s h => t_Model_lice_23 hF q6 q6 hM2 h) F _ (show J_Model_lice_23 z (0, 0) from ⟨(B.any (0 : Int32)), (B.wk (show B 0 0 (0 : Int32) from ⟨by decide, by decide⟩) (by decide))⟩) hF) (fun x11 h8 => ?_)
    have h8 : B (-2147483648) 2147483647 x11 := h8
    refine T.rmU (T.nz (show B 97 97 (97 : Int32) from ⟨by decide, by decide⟩) (by decide)) (fun v12 => ?_)
    exact T.some' (show B (-2147483648) 2147483647 v12 ∧ Inv z (mset g 54 3 0) from ⟨(B.any v12), hM2⟩)
theorem t_Model_see_j61 {z : Zt} {p0 : Int32} {p1 : Int32} {g : Mem} {m0 : Mem} {y0 : Int32} {y1 : Int32} (hp0 : B 0 23 p0) (hy0 : B 0 1 y0) (hy1 : B 0 7 y1) (hIm0 : Inv z m0) (hc0 : B 0 7 (m0 54 28)) : T (sp_Model_see_j61 p0 p1 g m0 y0 y1) (fun r => B (-2147483648) 2147483647 r.1 ∧ Inv z r.2) := by
  unfold sp_Model_see_j61
  refine T.wrI (I := fun m => Inv z m ∧ ∀ q, q ≠ 72 → m q = (m0) q) (B.ib hy1 (by decide)) ⟨hIm0.fra rfl, fun q hq => mset_rowF _ _ _ hq⟩ (fun g8 h1 => ?_)
  have k2 : B 0 7 (g8 54 28) := by rw [h1.2 54 (by decide)]; exact hc0
  have b3 : B 1 8 ((g8 54 28) + 1) := B.add k2 (show B 1 1 (1 : Int32) from ⟨by decide, by decide⟩) (by decide)
  have hM4 : Inv z (mset g8 54 28 ((g8 54 28) + 1)) := h1.1.p_seen (B.wk b3 (by decide))
  exact T.some' (show B (-2147483648) 2147483647 ((mset g8 54 28 ((g8 54 28) + 1)) 54 28) ∧ Inv z (mset g8 54 28 ((g8 54 28) + 1)) from ⟨(B.any ((mset g8 54 28 ((g8 54 28) + 1)) 54 28)), hM4⟩)
theorem t_Model_see {z : Zt} {p0 : Int32} {p1 : Int32} {g : Mem} (hIg : Inv z g) : T (sp_Model_see p0 p1 g) (fun r => B (-2147483648) 2147483647 r.1 ∧ Inv z r.2) := by
  unfold sp_Model_see
  have hM2 : Inv z (mset g 54 3 0) := hIg.fre rfl
  refine T.callB (t_Model_isEntry hM2) (fun v1 h1 => ?_)
  refine T.cond (fun c3 => ?_) (fun c3 => ?_)
  · have f4 : B 0 0 (v1) := B.eql c3 h1.1 (show B 0 0 (0 : Int32) from ⟨by decide, by decide⟩) (by decide)
    refine T.callB (t_Model_fail hM2) (fun v3 h5 => ?_)
    exact T.some' (show B (-2147483648) 2147483647 v3.1 ∧ Inv z v3.2 from ⟨(B.any v3.1), h5.2⟩)
  · have q6 : B 0 23 (p0) := h1.2 c3
    have f7 : B 1 1 (v1) := B.nelo c3 h1.1 (show B 0 0 (0 : Int32) from ⟨by decide, by decide⟩) (by decide)
    refine T.cond (fun c8 => ?_) (fun c8 => ?_)
    · have f9 : B 8 8 ((mset g 54 3 0) 54 28) := B.eql c8 hM2.seen (show B 8 8 (8 : Int32) from ⟨by decide, by decide⟩) (by decide)
      refine T.callB (t_Model_refuse (B.wk (show B 2 2 (2 : Int32) from ⟨by decide, by decide⟩) (by decide)) hM2) (fun v5 h10 => ?_)
      exact T.some' (show B (-2147483648) 2147483647 v5.1 ∧ Inv z v5.2 from ⟨(B.any v5.1), h10.2⟩)
    · have f11 : B 0 7 ((mset g 54 3 0) 54 28) := B.nehi c8 hM2.seen (show B 8 8 (8 : Int32) from ⟨by decide, by decide⟩) (by decide)
      refine T.wrI (I := fun m => Inv z m ∧ ∀ q, q ≠ 71 → m q = (mset g 54 3 0) q) (B.ib f11 (by decide)) ⟨hM2.fra rfl, fun q hq => mset_rowF _ _ _ hq⟩ (fun g6 h12 => ?_)
      have k13 : B 0 7 (g6 54 28) := by rw [h12.2 54 (by decide)]; exact f11
      refine T.cond (fun c14 => ?_) (fun c14 => ?_)
      · have f15 : B 0 0 (p1) := B.eql c14 (B.any p1) (show B 0 0 (0 : Int32) from ⟨by decide, by decide⟩) (by decide)
        exact t_Model_see_j61 q6 (B.wk (show B 0 0 (0 : Int32) from ⟨by decide, by decide⟩) (by decide)) k13 h12.1 k13
      · exact t_Model_see_j61 q6 (B.wk (show B 1 1 (1 : Int32) from ⟨by decide, by decide⟩) (by decide)) k13 h12.1 k13
theorem t_Model_isAsSeen {z : Zt} {F : Nat} {g : Mem} (hF : 4294967296 < F) (hI : Inv z g) : T (sp_Model_isAsSeen F g) (fun r => B 0 1 r) := by
  unfold sp_Model_isAsSeen
  refine T.callB (P := fun _ => True) (T.lpc (J := fun s => B 0 8 s) (Q := fun _ => True) (fun s => s) 0 8 (by decide) (fun s h => h) (fun s h => ?_) F _ (show B 0 8 (0 : Int32) from ⟨by decide, by decide⟩) hF) (fun x _ => ?_)
  · have j41 : B 0 7 s → ∀ y, T (sp_Model_isAsSeen_j41_2 F g s y) (LQ (fun s => B 0 8 s) (fun _ => True) (fun s => s) s) := fun hs y => by
      unfold sp_Model_isAsSeen_j41_2
      refine T.rdU (B.ib hs (by decide)) (fun v5 => ?_)
      exact T.cond (fun c => T.some' (show B 0 8 (s + 1) ∧ s + 1 = s + 1 from ⟨B.add hs (show B 1 1 (1 : Int32) from ⟨by decide, by decide⟩) (by decide), rfl⟩)) (fun c => T.some' (show True from trivial))
    unfold st_Model_isAsSeen_2
    refine T.cond (fun c => T.some' (show True from trivial)) (fun c => ?_)
    have hs : B 0 7 s := B.nler c hI.seen h (by decide)
    refine T.rdB (B.ib hs (by decide)) ?_
    refine T.callB (t_Model_isEntry hI) (fun v3 h3 => ?_)
    refine T.cond (fun c2 => by unfold sp_Model_isAsSeen_j40_2; exact j41 hs 0) (fun c2 => ?_)
    refine T.rdB (B.ib hs (by decide)) ?_
    refine T.callB (t_Model_isThere (h3.2 c2) hI) (fun v8 _ => ?_)
    exact T.cond (fun c3 => by unfold sp_Model_isAsSeen_j40_2; exact j41 hs 0) (fun c3 => j41 hs 1)
  · rcases x with x | x
    · exact T.some' b01
    · exact T.some' b11
theorem t_Model_ate_56 {z : Zt} {F : Nat} {p0 : Int32} {p1 : Int32} {g : Mem} {k1 : Int32} {k2 : Int32} {k5 : Int32} {s : Int32 × Int32 × Int32 × Mem} (hF : 4294967296 < F) (hp0 : B 0 5 p0) (hp1 : B 0 1 p1) (hk1 : B 0 5 k1) (hk2 : B 0 1 k2) (hk5 : B 0 20 k5) (hs : J_Model_ate_56 z s) : T (st_Model_ate_56 F p0 p1 g k1 k2 k5 s) (LQ (J_Model_ate_56 z) (Q_Model_ate_56 z) (fun s => s.2.2.1) s.2.2.1) := by
  unfold st_Model_ate_56
  refine T.cond (fun c1 => ?_) (fun c1 => ?_)
  · have f2 : B 21 21 (s.2.2.1) := B.ltr c1 (show B 20 20 (20 : Int32) from ⟨by decide, by decide⟩) hs.2.2.1 (by decide)
    exact T.some' (show B (-2147483648) 2147483647 s.1 ∧ B (-2147483648) 2147483647 s.2.1 ∧ Inv z s.2.2.2 from ⟨(B.any s.1), (B.any s.2.1), hs.2.2.2⟩)
  · have f3 : B 0 20 (s.2.2.1) := B.nltr c1 (show B 20 20 (20 : Int32) from ⟨by decide, by decide⟩) hs.2.2.1 (by decide)
    refine T.callB (t_Model_mothsEat hF hk1 (B.wk hk5 (by decide)) hs.2.2.2) (fun v10 h4 => ?_)
    refine T.callB (t_Model_isAsSeen hF h4.2) (fun v11 h5 => ?_)
    refine T.callB (t_Model_unpack (q0n := 231) hF (Or.inr (Or.inl rfl)) (by decide) (show B 0 0 (0 : Int32) from ⟨by decide, by decide⟩) rfl h4.2) (fun v12 h6 => ?_)
    refine T.cond (fun c7 => ?_) (fun c7 => ?_)
    · have f8 : B 0 0 (v11) := B.eql c7 h5 (show B 0 0 (0 : Int32) from ⟨by decide, by decide⟩) (by decide)
      have b9 : B 1 21 (s.2.2.1 + 1) := B.add f3 (show B 1 1 (1 : Int32) from ⟨by decide, by decide⟩) (by decide)
      exact T.some' (show J_Model_ate_56 z (s.1, s.2.1, s.2.2.1 + 1, v12) ∧ s.2.2.1 + 1 = s.2.2.1 + 1 from ⟨⟨(B.any s.1), (B.any s.2.1), (B.wk b9 (by decide)), h6⟩, rfl⟩)
    · have f10 : B 1 1 (v11) := B.nelo c7 h5 (show B 0 0 (0 : Int32) from ⟨by decide, by decide⟩) (by decide)
      refine T.cond (fun c11 => ?_) (fun c11 => ?_)
      · have f12 : B (-1) (-1) (s.2.1) := B.eql c11 (B.any s.2.1) (show B (-1) (-1) (-1 : Int32) from ⟨by decide, by decide⟩) (by decide)
        have b13 : B 1 21 (s.2.2.1 + 1) := B.add f3 (show B 1 1 (1 : Int32) from ⟨by decide, by decide⟩) (by decide)
        exact T.some' (show J_Model_ate_56 z (s.1 + 1, (100 * k5) + s.2.2.1, s.2.2.1 + 1, v12) ∧ s.2.2.1 + 1 = s.2.2.1 + 1 from ⟨⟨(B.any (s.1 + 1)), (B.any ((100 * k5) + s.2.2.1)), (B.wk b13 (by decide)), h6⟩, rfl⟩)
      · have b14 : B 1 21 (s.2.2.1 + 1) := B.add f3 (show B 1 1 (1 : Int32) from ⟨by decide, by decide⟩) (by decide)
        exact T.some' (show J_Model_ate_56 z (s.1 + 1, s.2.1, s.2.2.1 + 1, v12) ∧ s.2.2.1 + 1 = s.2.2.1 + 1 from ⟨⟨(B.any (s.1 + 1)), (B.any s.2.1), (B.wk b14 (by decide)), h6⟩, rfl⟩)
theorem t_Model_ate_45 {z : Zt} {F : Nat} {p0 : Int32} {p1 : Int32} {g : Mem} {k1 : Int32} {k2 : Int32} {s : Int32 × Int32 × Int32 × Mem} (hF : 4294967296 < F) (hp0 : B 0 5 p0) (hp1 : B 0 1 p1) (hk1 : B 0 5 k1) (hk2 : B 0 1 k2) (hs : J_Model_ate_45 z s) : T (st_Model_ate_45 F p0 p1 g k1 k2 s) (LQ (J_Model_ate_45 z) (Q_Model_ate_45 z) (fun s => s.2.2.1) s.2.2.1) := by
  unfold st_Model_ate_45
  refine T.cond (fun c1 => ?_) (fun c1 => ?_)
  · have f2 : B 21 21 (s.2.2.1) := B.ltr c1 (show B 20 20 (20 : Int32) from ⟨by decide, by decide⟩) hs.2.2.1 (by decide)
    exact T.some' (show B (-2147483648) 2147483647 s.1 ∧ B (-2147483648) 2147483647 s.2.1 ∧ Inv z s.2.2.2 from ⟨(B.any s.1), (B.any s.2.1), hs.2.2.2⟩)
  · have f3 : B 0 20 (s.2.2.1) := B.nltr c1 (show B 20 20 (20 : Int32) from ⟨by decide, by decide⟩) hs.2.2.1 (by decide)
    refine T.callB (T.lpc (J := J_Model_ate_56 z) (Q := Q_Model_ate_56 z) (fun s => s.2.2.1) 0 21 (by decide) (fun s h => h.2.2.1) (fun s h => t_Model_ate_56 hF hp0 hp1 hk1 hk2 f3 h) F _ (show J_Model_ate_56 z (s.1, s.2.1, s.2.2.1, s.2.2.2) from ⟨(B.any s.1), (B.any s.2.1), (B.wk f3 (by decide)), hs.2.2.2⟩) hF) (fun x15 h4 => ?_)
    have h4 : B (-2147483648) 2147483647 x15.1 ∧ B (-2147483648) 2147483647 x15.2.1 ∧ Inv z x15.2.2 := h4
    have b5 : B 1 21 (s.2.2.1 + 1) := B.add f3 (show B 1 1 (1 : Int32) from ⟨by decide, by decide⟩) (by decide)
    exact T.some' (show J_Model_ate_45 z (x15.1, x15.2.1, s.2.2.1 + 1, x15.2.2) ∧ s.2.2.1 + 1 = s.2.2.1 + 1 from ⟨⟨(B.any x15.1), (B.any x15.2.1), (B.wk b5 (by decide)), h4.2.2⟩, rfl⟩)
theorem t_Model_ate {z : Zt} {F : Nat} {p0 : Int32} {p1 : Int32} {g : Mem} (hF : 4294967296 < F) (hIg : Inv z g) : T (sp_Model_ate F p0 p1 g) (fun r => B (-2147483648) 2147483647 r.1 ∧ Inv z r.2) := by
  unfold sp_Model_ate
  have hM2 : Inv z (mset g 54 3 0) := hIg.fre rfl
  refine T.callB (t_Model_isMonk hM2) (fun v1 h1 => ?_)
  refine T.cond (fun c3 => ?_) (fun c3 => ?_)
  · have f4 : B 0 0 (v1) := B.eql c3 h1.1 (show B 0 0 (0 : Int32) from ⟨by decide, by decide⟩) (by decide)
    refine T.callB (t_Model_fail hM2) (fun v3 h5 => ?_)
    exact T.some' (show B (-2147483648) 2147483647 v3.1 ∧ Inv z v3.2 from ⟨(B.any v3.1), h5.2⟩)
  · have q6 : B 0 5 (p0) := h1.2 c3
    have f7 : B 1 1 (v1) := B.nelo c3 h1.1 (show B 0 0 (0 : Int32) from ⟨by decide, by decide⟩) (by decide)
    refine T.cond (fun c8 => ?_) (fun c8 => ?_)
    · have f9 : B (-2147483648) (-1) (p1) := B.ltl c8 (B.any p1) (show B 0 0 (0 : Int32) from ⟨by decide, by decide⟩) (by decide)
      refine T.callB (t_Model_fail hM2) (fun v5 h10 => ?_)
      exact T.some' (show B (-2147483648) 2147483647 v5.1 ∧ Inv z v5.2 from ⟨(B.any v5.1), h10.2⟩)
    · have f11 : B 0 2147483647 (p1) := B.nltl c8 (B.any p1) (show B 0 0 (0 : Int32) from ⟨by decide, by decide⟩) (by decide)
      refine T.cond (fun c12 => ?_) (fun c12 => ?_)
      · have f13 : B 0 1 (p1) := B.lel c12 f11 (show B 1 1 (1 : Int32) from ⟨by decide, by decide⟩) (by decide)
        refine T.callB (t_Model_pack (q0n := 231) hF (Or.inr (Or.inl rfl)) (by decide) (show B 0 0 (0 : Int32) from ⟨by decide, by decide⟩) rfl hM2) (fun v7 h14 => ?_)
        refine T.callB (T.lpc (J := J_Model_ate_45 z) (Q := Q_Model_ate_45 z) (fun s => s.2.2.1) 0 21 (by decide) (fun s h => h.2.2.1) (fun s h => t_Model_ate_45 hF q6 f13 q6 f13 h) F _ (show J_Model_ate_45 z (0, (-1), 0, v7) from ⟨(B.any (0 : Int32)), (B.any (-1 : Int32)), (B.wk (show B 0 0 (0 : Int32) from ⟨by decide, by decide⟩) (by decide)), h14.1⟩) hF) (fun x16 h15 => ?_)
        have h15 : B (-2147483648) 2147483647 x16.1 ∧ B (-2147483648) 2147483647 x16.2.1 ∧ Inv z x16.2.2 := h15
        refine T.cond (fun c16 => ?_) (fun c16 => ?_)
        · have f17 : B 0 0 (p1) := B.eql c16 f13 (show B 0 0 (0 : Int32) from ⟨by decide, by decide⟩) (by decide)
          exact T.some' (show B (-2147483648) 2147483647 x16.1 ∧ Inv z x16.2.2 from ⟨(B.any x16.1), h15.2.2⟩)
        · have f18 : B 1 1 (p1) := B.nelo c16 f13 (show B 0 0 (0 : Int32) from ⟨by decide, by decide⟩) (by decide)
          exact T.some' (show B (-2147483648) 2147483647 x16.2.1 ∧ Inv z x16.2.2 from ⟨(B.any x16.2.1), h15.2.2⟩)
      · have f19 : B 2 2147483647 (p1) := B.nlel c12 f11 (show B 1 1 (1 : Int32) from ⟨by decide, by decide⟩) (by decide)
        refine T.callB (t_Model_fail hM2) (fun v18 h20 => ?_)
        exact T.some' (show B (-2147483648) 2147483647 v18.1 ∧ Inv z v18.2 from ⟨(B.any v18.1), h20.2⟩)
theorem t_Model_forget {z : Zt} {g : Mem} (hIg : Inv z g) : T (sp_Model_forget g) (fun r => B (-1) 7 r.1 ∧ Inv z r.2) := by
  unfold sp_Model_forget
  refine T.cond (fun c1 => ?_) (fun c1 => ?_)
  · have hM3 : Inv z (mset g 54 3 0) := hIg.fre rfl
    have f2 : B 0 0 ((mset g 54 3 0) 54 28) := B.eql c1 hM3.seen (show B 0 0 (0 : Int32) from ⟨by decide, by decide⟩) (by decide)
    exact T.some' (show B (-1) 7 (-1 : Int32) ∧ Inv z (mset g 54 3 0) from ⟨(B.wk (show B (-1) (-1) (-1 : Int32) from ⟨by decide, by decide⟩) (by decide)), hM3⟩)
  · have hM5 : Inv z (mset g 54 3 0) := hIg.fre rfl
    have f4 : B 1 8 ((mset g 54 3 0) 54 28) := B.nelo c1 hM5.seen (show B 0 0 (0 : Int32) from ⟨by decide, by decide⟩) (by decide)
    have b6 : B 0 7 (((mset g 54 3 0) 54 28) - 1) := B.sub f4 (show B 1 1 (1 : Int32) from ⟨by decide, by decide⟩) (by decide)
    have b7 : B 0 7 ((mset (mset g 54 3 0) 54 28 (((mset g 54 3 0) 54 28) - 1)) 54 28) := B.mset_s b6
    have hM8 : Inv z (mset (mset g 54 3 0) 54 28 (((mset g 54 3 0) 54 28) - 1)) := hM5.p_seen (B.wk b6 (by decide))
    exact T.some' (show B (-1) 7 ((mset (mset g 54 3 0) 54 28 (((mset g 54 3 0) 54 28) - 1)) 54 28) ∧ Inv z (mset (mset g 54 3 0) 54 28 (((mset g 54 3 0) 54 28) - 1)) from ⟨(B.wk b7 (by decide)), hM8⟩)
theorem t_Model_gain_19 {z : Zt} {F : Nat} {p0 : Int32} {p1 : Int32} {p2 : Int32} {g : Mem} {k3 : Int32} {m0 : Mem} {s : Int32 × Int32 × Int32} (hF : 4294967296 < F) (hp0 : B 0 5 p0) (hp1 : B 0 5 p1) (hp2 : B 0 1 p2) (hk3 : B 0 1 k3) (hIm0 : Inv z m0) (hs : J_Model_gain_19 z s) : T (st_Model_gain_19 F p0 p1 p2 g k3 m0 s) (LQ (J_Model_gain_19 z) (Q_Model_gain_19 z) (fun s => s.2.2) s.2.2) := by
  unfold st_Model_gain_19
  refine T.cond (fun c1 => ?_) (fun c1 => ?_)
  · exact T.some' (show B (-2147483648) 2147483647 s.2.1 from (B.any s.2.1))
  · have f2 : B 1 24 (m0 54 26) := B.nlel c1 hIm0.many hs.2.2 (by decide)
    have f3 : B 0 23 (s.2.2) := B.nler c1 hIm0.many hs.2.2 (by decide)
    refine T.callB (t_Model_isThere f3 hIm0) (fun v3 h4 => ?_)
    refine T.cond (fun c5 => ?_) (fun c5 => ?_)
    · have f6 : B 0 0 (v3) := B.eql c5 h4 (show B 0 0 (0 : Int32) from ⟨by decide, by decide⟩) (by decide)
      have b7 : B 1 24 (s.2.2 + 1) := B.add f3 (show B 1 1 (1 : Int32) from ⟨by decide, by decide⟩) (by decide)
      exact T.some' (show J_Model_gain_19 z (s.1, s.2.1, s.2.2 + 1) ∧ s.2.2 + 1 = s.2.2 + 1 from ⟨⟨(B.any s.1), (B.any s.2.1), (B.wk b7 (by decide))⟩, rfl⟩)
    · have f8 : B 1 1 (v3) := B.nelo c5 h4 (show B 0 0 (0 : Int32) from ⟨by decide, by decide⟩) (by decide)
      refine T.callB (t_Model_of f3 (B.wk (show B 7 7 (7 : Int32) from ⟨by decide, by decide⟩) (by decide)) hIm0) (fun v5 h9 => ?_)
      refine T.callB (t_Model_isOf ) (fun v6 h10 => ?_)
      refine T.cond (fun c11 => ?_) (fun c11 => ?_)
      · have f12 : B 0 0 (v6) := B.eql c11 h10 (show B 0 0 (0 : Int32) from ⟨by decide, by decide⟩) (by decide)
        have b13 : B 1 24 (s.2.2 + 1) := B.add f3 (show B 1 1 (1 : Int32) from ⟨by decide, by decide⟩) (by decide)
        exact T.some' (show J_Model_gain_19 z (s.1, s.2.1, s.2.2 + 1) ∧ s.2.2 + 1 = s.2.2 + 1 from ⟨⟨(B.any s.1), (B.any s.2.1), (B.wk b13 (by decide))⟩, rfl⟩)
      · have f14 : B 1 1 (v6) := B.nelo c11 h10 (show B 0 0 (0 : Int32) from ⟨by decide, by decide⟩) (by decide)
        refine T.callB (t_Model_of f3 (B.wk (show B 7 7 (7 : Int32) from ⟨by decide, by decide⟩) (by decide)) hIm0) (fun v8 h15 => ?_)
        refine T.callB (t_Model_of f3 (B.wk (show B 0 0 (0 : Int32) from ⟨by decide, by decide⟩) (by decide)) hIm0) (fun v9 h16 => ?_)
        refine T.cond (fun c17 => ?_) (fun c17 => ?_)
        · have f18 : B 0 1 (v9) := B.eql c17 (B.any v9) hk3 (by decide)
          refine T.callB (t_Model_of f3 (B.wk (show B 4 4 (4 : Int32) from ⟨by decide, by decide⟩) (by decide)) hIm0) (fun v11 h19 => ?_)
          have b20 : B 1 24 (s.2.2 + 1) := B.add f3 (show B 1 1 (1 : Int32) from ⟨by decide, by decide⟩) (by decide)
          exact T.some' (show J_Model_gain_19 z (s.1 &&& ((1 <<< (v8 &&& 31)) ^^^ (-1)), s.2.1 + v11, s.2.2 + 1) ∧ s.2.2 + 1 = s.2.2 + 1 from ⟨⟨(B.any (s.1 &&& ((1 <<< (v8 &&& 31)) ^^^ (-1)))), (B.any (s.2.1 + v11)), (B.wk b20 (by decide))⟩, rfl⟩)
        · have b21 : B (-2147483648) 2147483647 (s.2.1 + 0) := B.add (B.any s.2.1) (show B 0 0 (0 : Int32) from ⟨by decide, by decide⟩) (by decide)
          have b22 : B 1 24 (s.2.2 + 1) := B.add f3 (show B 1 1 (1 : Int32) from ⟨by decide, by decide⟩) (by decide)
          exact T.some' (show J_Model_gain_19 z (s.1 &&& ((1 <<< (v8 &&& 31)) ^^^ (-1)), s.2.1 + 0, s.2.2 + 1) ∧ s.2.2 + 1 = s.2.2 + 1 from ⟨⟨(B.any (s.1 &&& ((1 <<< (v8 &&& 31)) ^^^ (-1)))), b21, (B.wk b22 (by decide))⟩, rfl⟩)
theorem t_Model_gain {z : Zt} {F : Nat} {p0 : Int32} {p1 : Int32} {p2 : Int32} {g : Mem} (hF : 4294967296 < F) (hp0 : B 0 5 p0) (hp1 : B 0 5 p1) (hp2 : B 0 1 p2) (hIg : Inv z g) : T (sp_Model_gain F p0 p1 p2 g) (fun r => B (-2147483648) 2147483647 r.1 ∧ Inv z r.2) := by
  unfold sp_Model_gain
  refine T.callB (t_Model_lostByRazors hF hIg) (fun v1 h1 => ?_)
  refine T.callB (T.lpc (J := J_Model_gain_19 z) (Q := Q_Model_gain_19 z) (fun s => s.2.2) 0 24 (by decide) (fun s h => h.2.2) (fun s h => t_Model_gain_19 hF hp0 hp1 hp2 hp2 h1.2 h) F _ (show J_Model_gain_19 z (v1.1, 0, 0) from ⟨(B.any v1.1), (B.any (0 : Int32)), (B.wk (show B 0 0 (0 : Int32) from ⟨by decide, by decide⟩) (by decide))⟩) hF) (fun x12 h2 => ?_)
  have h2 : B (-2147483648) 2147483647 x12 := h2
  exact T.some' (show B (-2147483648) 2147483647 x12 ∧ Inv z v1.2 from ⟨(B.any x12), h1.2⟩)
theorem t_Model_rests_3 {z : Zt} {F : Nat} {p0 : Int32} {p1 : Int32} {p2 : Int32} {g : Mem} {k1 : Int32} {k2 : Int32} {k3 : Int32} {s : Int32 × Mem} (hF : 4294967296 < F) (hp0 : B 0 5 p0) (hp1 : B 0 5 p1) (hk1 : B 0 5 k1) (hk2 : B 0 5 k2) (hs : J_Model_rests_3 z s) : T (st_Model_rests_3 F p0 p1 p2 g k1 k2 k3 s) (LQ (J_Model_rests_3 z) (Q_Model_rests_3 z) (fun s => s.1) s.1) := by
  unfold st_Model_rests_3
  refine T.rdK 0 (P := fun z => B 0 6 z ∧ z = (s.2) 58 0) (B.ib (show B 0 0 (0 : Int32) from ⟨by decide, by decide⟩) (by decide)) rfl ⟨hs.2.told0, rfl⟩ (fun v1 h1 => ?_)
  refine T.cond (fun c2 => ?_) (fun c2 => ?_)
  · exact T.some' (show Inv z s.2 from hs.2)
  · have f3 : B 1 6 (v1) := B.nlel c2 h1.1 hs.1 (by decide)
    have f4 : B 0 5 (s.1) := B.nler c2 h1.1 hs.1 (by decide)
    refine T.callB (t_Model_isOf ) (fun v3 h5 => ?_)
    refine T.cond (fun c6 => ?_) (fun c6 => ?_)
    · have f7 : B 0 0 (v3) := B.eql c6 h5 (show B 0 0 (0 : Int32) from ⟨by decide, by decide⟩) (by decide)
      have b8 : B 1 6 (s.1 + 1) := B.add f4 (show B 1 1 (1 : Int32) from ⟨by decide, by decide⟩) (by decide)
      exact T.some' (show J_Model_rests_3 z (s.1 + 1, s.2) ∧ s.1 + 1 = s.1 + 1 from ⟨⟨(B.wk b8 (by decide)), hs.2⟩, rfl⟩)
    · have f9 : B 1 1 (v3) := B.nelo c6 h5 (show B 0 0 (0 : Int32) from ⟨by decide, by decide⟩) (by decide)
      refine T.callB (t_Model_gain hF f4 hk2 (B.wk (show B 0 0 (0 : Int32) from ⟨by decide, by decide⟩) (by decide)) hs.2) (fun v5 h10 => ?_)
      refine T.callB (t_Model_gain hF hk1 hk2 (B.wk (show B 0 0 (0 : Int32) from ⟨by decide, by decide⟩) (by decide)) h10.2) (fun v6 h11 => ?_)
      refine T.cond (fun c12 => ?_) (fun c12 => ?_)
      · have f13 : B (-2147483648) 2147483646 (v6.1) := B.ltl c12 (B.any v6.1) (B.any v5.1) (by decide)
        have f14 : B (-2147483647) 2147483647 (v5.1) := B.ltr c12 (B.any v6.1) (B.any v5.1) (by decide)
        exact T.some' (show Inv z v6.2 from h11.2)
      · refine T.callB (t_Model_gain hF hk1 f4 (B.wk (show B 1 1 (1 : Int32) from ⟨by decide, by decide⟩) (by decide)) h11.2) (fun v8 h15 => ?_)
        refine T.callB (t_Model_gain hF hk1 hk2 (B.wk (show B 1 1 (1 : Int32) from ⟨by decide, by decide⟩) (by decide)) h15.2) (fun v9 h16 => ?_)
        refine T.cond (fun c17 => ?_) (fun c17 => ?_)
        · have b18 : B 1 6 (s.1 + 1) := B.add f4 (show B 1 1 (1 : Int32) from ⟨by decide, by decide⟩) (by decide)
          exact T.some' (show J_Model_rests_3 z (s.1 + 1, v9.2) ∧ s.1 + 1 = s.1 + 1 from ⟨⟨(B.wk b18 (by decide)), h16.2⟩, rfl⟩)
        · have f19 : B (-2147483647) 2147483647 (v8.1) := B.nlel c17 (B.any v8.1) (B.any v9.1) (by decide)
          have f20 : B (-2147483648) 2147483646 (v9.1) := B.nler c17 (B.any v8.1) (B.any v9.1) (by decide)
          exact T.some' (show Inv z v9.2 from h16.2)
theorem t_Model_rests {z : Zt} {F : Nat} {p0 : Int32} {p1 : Int32} {p2 : Int32} {g : Mem} (hF : 4294967296 < F) (hp0 : B 0 5 p0) (hp1 : B 0 5 p1) (hIg : Inv z g) : T (sp_Model_rests F p0 p1 p2 g) (fun r => B 0 1 r.1 ∧ Inv z r.2) := by
  unfold sp_Model_rests
  refine T.callB (T.lpc (J := J_Model_rests_3 z) (Q := Q_Model_rests_3 z) (fun s => s.1) 0 6 (by decide) (fun s h => h.1) (fun s h => t_Model_rests_3 hF hp0 hp1 hp0 hp1 h) F _ (show J_Model_rests_3 z (0, g) from ⟨(B.wk (show B 0 0 (0 : Int32) from ⟨by decide, by decide⟩) (by decide)), hIg⟩) hF) (fun x11 h1 => ?_)
  rcases x11 with x12 | x13
  · have h1 : Inv z x12 := h1
    dsimp only
    exact T.some' (show B 0 1 (0 : Int32) ∧ Inv z x12 from ⟨(B.wk (show B 0 0 (0 : Int32) from ⟨by decide, by decide⟩) (by decide)), h1⟩)
  · have h1 : Inv z x13 := h1
    dsimp only
    exact T.some' (show B 0 1 (1 : Int32) ∧ Inv z x13 from ⟨(B.wk (show B 1 1 (1 : Int32) from ⟨by decide, by decide⟩) (by decide)), h1⟩)
theorem t_Model_game_47 {z : Zt} {F : Nat} {p0 : Int32} {g : Mem} {k1 : Int32} {k2 : Int32} {k5 : Int32} {s : Int32 × Int32 × Int32 × Mem} (hF : 4294967296 < F) (hp0 : B 0 1 p0) (hk1 : B 0 1 k1) (hk5 : B 0 5 k5) (hs : J_Model_game_47 z s) : T (st_Model_game_47 F p0 g k1 k2 k5 s) (LQ (J_Model_game_47 z) (Q_Model_game_47 z) (fun s => s.2.2.1) s.2.2.1) := by
  unfold st_Model_game_47
  refine T.rdK 0 (P := fun z => B 0 6 z ∧ z = (s.2.2.2) 58 0) (B.ib (show B 0 0 (0 : Int32) from ⟨by decide, by decide⟩) (by decide)) rfl ⟨hs.2.2.2.told0, rfl⟩ (fun v7 h1 => ?_)
  refine T.cond (fun c2 => ?_) (fun c2 => ?_)
  · exact T.some' (show B (-2147483648) 2147483647 s.1 ∧ B (-2147483648) 2147483647 s.2.1 ∧ Inv z s.2.2.2 from ⟨(B.any s.1), (B.any s.2.1), hs.2.2.2⟩)
  · have f3 : B 1 6 (v7) := B.nlel c2 h1.1 hs.2.2.1 (by decide)
    have f4 : B 0 5 (s.2.2.1) := B.nler c2 h1.1 hs.2.2.1 (by decide)
    refine T.callB (t_Model_isOf ) (fun v9 h5 => ?_)
    refine T.cond (fun c6 => ?_) (fun c6 => ?_)
    · have f7 : B 0 0 (v9) := B.eql c6 h5 (show B 0 0 (0 : Int32) from ⟨by decide, by decide⟩) (by decide)
      have b8 : B 1 6 (s.2.2.1 + 1) := B.add f4 (show B 1 1 (1 : Int32) from ⟨by decide, by decide⟩) (by decide)
      exact T.some' (show J_Model_game_47 z (s.1, s.2.1, s.2.2.1 + 1, s.2.2.2) ∧ s.2.2.1 + 1 = s.2.2.1 + 1 from ⟨⟨(B.any s.1), (B.any s.2.1), (B.wk b8 (by decide)), hs.2.2.2⟩, rfl⟩)
    · have f9 : B 1 1 (v9) := B.nelo c6 h5 (show B 0 0 (0 : Int32) from ⟨by decide, by decide⟩) (by decide)
      refine T.callB (t_Model_isOf ) (fun v11 h10 => ?_)
      refine T.cond (fun c11 => ?_) (fun c11 => ?_)
      · have f12 : B 0 0 (v11) := B.eql c11 h10 (show B 0 0 (0 : Int32) from ⟨by decide, by decide⟩) (by decide)
        have b13 : B 1 6 (s.2.2.1 + 1) := B.add f4 (show B 1 1 (1 : Int32) from ⟨by decide, by decide⟩) (by decide)
        exact T.some' (show J_Model_game_47 z (s.1, s.2.1, s.2.2.1 + 1, s.2.2.2) ∧ s.2.2.1 + 1 = s.2.2.1 + 1 from ⟨⟨(B.any s.1), (B.any s.2.1), (B.wk b13 (by decide)), hs.2.2.2⟩, rfl⟩)
      · have f14 : B 1 1 (v11) := B.nelo c11 h10 (show B 0 0 (0 : Int32) from ⟨by decide, by decide⟩) (by decide)
        refine T.callB (t_Model_rests hF hk5 f4 hs.2.2.2) (fun v13 h15 => ?_)
        refine T.cond (fun c16 => ?_) (fun c16 => ?_)
        · have f17 : B 0 0 (v13.1) := B.eql c16 h15.1 (show B 0 0 (0 : Int32) from ⟨by decide, by decide⟩) (by decide)
          have b18 : B 1 6 (s.2.2.1 + 1) := B.add f4 (show B 1 1 (1 : Int32) from ⟨by decide, by decide⟩) (by decide)
          exact T.some' (show J_Model_game_47 z (s.1, s.2.1, s.2.2.1 + 1, v13.2) ∧ s.2.2.1 + 1 = s.2.2.1 + 1 from ⟨⟨(B.any s.1), (B.any s.2.1), (B.wk b18 (by decide)), h15.2⟩, rfl⟩)
        · have f19 : B 1 1 (v13.1) := B.nelo c16 h15.1 (show B 0 0 (0 : Int32) from ⟨by decide, by decide⟩) (by decide)
          refine T.cond (fun c20 => ?_) (fun c20 => ?_)
          · have f21 : B (-1) (-1) (s.2.1) := B.eql c20 (B.any s.2.1) (show B (-1) (-1) (-1 : Int32) from ⟨by decide, by decide⟩) (by decide)
            have b22 : B 1 6 (s.2.2.1 + 1) := B.add f4 (show B 1 1 (1 : Int32) from ⟨by decide, by decide⟩) (by decide)
            exact T.some' (show J_Model_game_47 z (s.1 + 1, (10 * k5) + s.2.2.1, s.2.2.1 + 1, v13.2) ∧ s.2.2.1 + 1 = s.2.2.1 + 1 from ⟨⟨(B.any (s.1 + 1)), (B.any ((10 * k5) + s.2.2.1)), (B.wk b22 (by decide)), h15.2⟩, rfl⟩)
          · have b23 : B 1 6 (s.2.2.1 + 1) := B.add f4 (show B 1 1 (1 : Int32) from ⟨by decide, by decide⟩) (by decide)
            exact T.some' (show J_Model_game_47 z (s.1 + 1, s.2.1, s.2.2.1 + 1, v13.2) ∧ s.2.2.1 + 1 = s.2.2.1 + 1 from ⟨⟨(B.any (s.1 + 1)), (B.any s.2.1), (B.wk b23 (by decide)), h15.2⟩, rfl⟩)
theorem t_Model_game_33 {z : Zt} {F : Nat} {p0 : Int32} {g : Mem} {k1 : Int32} {k2 : Int32} {s : Int32 × Int32 × Int32 × Mem} (hF : 4294967296 < F) (hp0 : B 0 1 p0) (hk1 : B 0 1 k1) (hs : J_Model_game_33 z s) : T (st_Model_game_33 F p0 g k1 k2 s) (LQ (J_Model_game_33 z) (Q_Model_game_33 z) (fun s => s.2.2.1) s.2.2.1) := by
  unfold st_Model_game_33
  refine T.rdK 0 (P := fun z => B 0 6 z ∧ z = (s.2.2.2) 58 0) (B.ib (show B 0 0 (0 : Int32) from ⟨by decide, by decide⟩) (by decide)) rfl ⟨hs.2.2.2.told0, rfl⟩ (fun v5 h1 => ?_)
  refine T.cond (fun c2 => ?_) (fun c2 => ?_)
  · exact T.some' (show B (-2147483648) 2147483647 s.1 ∧ B (-2147483648) 2147483647 s.2.1 ∧ Inv z s.2.2.2 from ⟨(B.any s.1), (B.any s.2.1), hs.2.2.2⟩)
  · have f3 : B 1 6 (v5) := B.nlel c2 h1.1 hs.2.2.1 (by decide)
    have f4 : B 0 5 (s.2.2.1) := B.nler c2 h1.1 hs.2.2.1 (by decide)
    refine T.callB (T.lpc (J := J_Model_game_47 z) (Q := Q_Model_game_47 z) (fun s => s.2.2.1) 0 6 (by decide) (fun s h => h.2.2.1) (fun s h => t_Model_game_47 hF hp0 hk1 f4 h) F _ (show J_Model_game_47 z (s.1, s.2.1, 0, s.2.2.2) from ⟨(B.any s.1), (B.any s.2.1), (B.wk (show B 0 0 (0 : Int32) from ⟨by decide, by decide⟩) (by decide)), hs.2.2.2⟩) hF) (fun x16 h5 => ?_)
    have h5 : B (-2147483648) 2147483647 x16.1 ∧ B (-2147483648) 2147483647 x16.2.1 ∧ Inv z x16.2.2 := h5
    have b6 : B 1 6 (s.2.2.1 + 1) := B.add f4 (show B 1 1 (1 : Int32) from ⟨by decide, by decide⟩) (by decide)
    exact T.some' (show J_Model_game_33 z (x16.1, x16.2.1, s.2.2.1 + 1, x16.2.2) ∧ s.2.2.1 + 1 = s.2.2.1 + 1 from ⟨⟨(B.any x16.1), (B.any x16.2.1), (B.wk b6 (by decide)), h5.2.2⟩, rfl⟩)
theorem t_Model_game {z : Zt} {F : Nat} {p0 : Int32} {g : Mem} (hF : 4294967296 < F) (hIg : Inv z g) : T (sp_Model_game F p0 g) (fun r => B (-2147483648) 2147483647 r.1 ∧ Inv z r.2) := by
  unfold sp_Model_game
  refine T.cond (fun c1 => ?_) (fun c1 => ?_)
  · have f2 : B (-2147483648) (-1) (p0) := B.ltl c1 (B.any p0) (show B 0 0 (0 : Int32) from ⟨by decide, by decide⟩) (by decide)
    have hM4 : Inv z (mset g 54 3 0) := hIg.fre rfl
    refine T.callB (t_Model_fail hM4) (fun v2 h3 => ?_)
    exact T.some' (show B (-2147483648) 2147483647 v2.1 ∧ Inv z v2.2 from ⟨(B.any v2.1), h3.2⟩)
  · have f5 : B 0 2147483647 (p0) := B.nltl c1 (B.any p0) (show B 0 0 (0 : Int32) from ⟨by decide, by decide⟩) (by decide)
    refine T.cond (fun c6 => ?_) (fun c6 => ?_)
    · have f7 : B 0 1 (p0) := B.lel c6 f5 (show B 1 1 (1 : Int32) from ⟨by decide, by decide⟩) (by decide)
      have hM9 : Inv z (mset g 54 3 0) := hIg.fre rfl
      refine T.callB (t_Model_noPlaits hF hM9) (fun v4 h8 => ?_)
      refine T.callB (T.lpc (J := J_Model_game_33 z) (Q := Q_Model_game_33 z) (fun s => s.2.2.1) 0 6 (by decide) (fun s h => h.2.2.1) (fun s h => t_Model_game_33 hF f7 f7 h) F _ (show J_Model_game_33 z (0, (-1), 0, mset g 54 3 0) from ⟨(B.any (0 : Int32)), (B.any (-1 : Int32)), (B.wk (show B 0 0 (0 : Int32) from ⟨by decide, by decide⟩) (by decide)), hM9⟩) hF) (fun x17 h10 => ?_)
      have h10 : B (-2147483648) 2147483647 x17.1 ∧ B (-2147483648) 2147483647 x17.2.1 ∧ Inv z x17.2.2 := h10
      refine T.cond (fun c11 => ?_) (fun c11 => ?_)
      · have f12 : B 0 0 (p0) := B.eql c11 f7 (show B 0 0 (0 : Int32) from ⟨by decide, by decide⟩) (by decide)
        exact T.some' (show B (-2147483648) 2147483647 x17.1 ∧ Inv z x17.2.2 from ⟨(B.any x17.1), h10.2.2⟩)
      · have f13 : B 1 1 (p0) := B.nelo c11 f7 (show B 0 0 (0 : Int32) from ⟨by decide, by decide⟩) (by decide)
        exact T.some' (show B (-2147483648) 2147483647 x17.2.1 ∧ Inv z x17.2.2 from ⟨(B.any x17.2.1), h10.2.2⟩)
    · have f14 : B 2 2147483647 (p0) := B.nlel c6 f5 (show B 1 1 (1 : Int32) from ⟨by decide, by decide⟩) (by decide)
      have hM16 : Inv z (mset g 54 3 0) := hIg.fre rfl
      refine T.callB (t_Model_fail hM16) (fun v19 h15 => ?_)
      exact T.some' (show B (-2147483648) 2147483647 v19.1 ∧ Inv z v19.2 from ⟨(B.any v19.1), h15.2⟩)
theorem t_Model_drawOf {z : Zt} {hi : Nat} {p0 : Int32} {g : Mem} (hn : B 1 hi p0) (hh : hi < 2147483648) (hI : Inv z g) : T (sp_Model_drawOf p0 g) (fun r => B 0 ((hi : Int) - 1) r.1 ∧ Inv z r.2) := by
  unfold sp_Model_drawOf
  exact T.callB (rm_draw hn hh) (fun v hv => T.some' ⟨hv, hI.fre rfl⟩)
theorem t_Model_season_j168_61 {z : Zt} {F : Nat} {p0 : Int32} {p1 : Int32} {p2 : Int32} {k2 : Int32} {k3 : Int32} {g : Mem} {m0 : Mem} {x4 : Int32} {x5 : Int32} {x6 : Int32} (hF : 4294967296 < F) (hp1 : B 0 40 p1) (hp2 : B 0 2 p2) (hk2 : B 1 40 k2) (hk3 : B 0 2 k3) (hx5 : B 0 39 x5) (hIm0 : Inv z m0) : T (sp_Model_season_j168_61 F p0 p1 p2 k2 k3 g m0 x4 x5 x6) (LQ (J_Model_season_61 z) (Q_Model_season_61 z) (fun s => s.2.1) x5) := by
  unfold sp_Model_season_j168_61
  refine T.callB (t_Model_yearGoes hF hIm0) (fun v19 h1 => ?_)
  refine T.callB (t_Model_records hF h1) (fun v20 h2 => ?_)
  refine T.cond (fun c3 => ?_) (fun c3 => ?_)
  · have b4 : B (-2147483648) 2147483647 (x4 + 0) := B.add (B.any x4) (show B 0 0 (0 : Int32) from ⟨by decide, by decide⟩) (by decide)
    have b5 : B 1 40 (x5 + 1) := B.add hx5 (show B 1 1 (1 : Int32) from ⟨by decide, by decide⟩) (by decide)
    exact T.some' (show J_Model_season_61 z (x4 + 0, x5 + 1, v19) ∧ x5 + 1 = x5 + 1 from ⟨⟨b4, (B.wk b5 (by decide)), h1⟩, rfl⟩)
  · have b6 : B 1 40 (x5 + 1) := B.add hx5 (show B 1 1 (1 : Int32) from ⟨by decide, by decide⟩) (by decide)
    exact T.some' (show J_Model_season_61 z (x4 + 1, x5 + 1, v19) ∧ x5 + 1 = x5 + 1 from ⟨⟨(B.any (x4 + 1)), (B.wk b6 (by decide)), h1⟩, rfl⟩)
theorem t_Model_season_j154_61 {z : Zt} {F : Nat} {p0 : Int32} {p1 : Int32} {p2 : Int32} {k2 : Int32} {k3 : Int32} {g : Mem} {m0 : Mem} {x4 : Int32} {x5 : Int32} {x6 : Int32} {x7 : Int32} {x8 : Int32} {x9 : Int32} (hF : 4294967296 < F) (hp1 : B 0 40 p1) (hp2 : B 0 2 p2) (hk2 : B 1 40 k2) (hk3 : B 0 2 k3) (hx5 : B 0 39 x5) (hx7 : B 0 5 x7) (hx8 : B 0 2 x8) (hx9 : B 0 20 x9) (hIm0 : Inv z m0) : T (sp_Model_season_j154_61 F p0 p1 p2 k2 k3 g m0 x4 x5 x6 x7 x8 x9) (LQ (J_Model_season_61 z) (Q_Model_season_61 z) (fun s => s.2.1) x5) := by
  unfold sp_Model_season_j154_61
  refine T.cond (fun c1 => ?_) (fun c1 => ?_)
  · have f2 : B 1 1 (x8) := B.eql c1 hx8 (show B 1 1 (1 : Int32) from ⟨by decide, by decide⟩) (by decide)
    refine T.callB (t_Model_shaveNow hF hx7 hIm0) (fun v18 h3 => ?_)
    exact t_Model_season_j168_61 hF hp1 hp2 hk2 hk3 hx5 h3
  · exact t_Model_season_j168_61 hF hp1 hp2 hk2 hk3 hx5 hIm0
theorem t_Model_season_j134_61 {z : Zt} {F : Nat} {p0 : Int32} {p1 : Int32} {p2 : Int32} {k2 : Int32} {k3 : Int32} {g : Mem} {m0 : Mem} {x4 : Int32} {x5 : Int32} {x6 : Int32} {x7 : Int32} {x8 : Int32} {y0 : Int32} (hF : 4294967296 < F) (hp1 : B 0 40 p1) (hp2 : B 0 2 p2) (hk2 : B 1 40 k2) (hk3 : B 0 2 k3) (hx5 : B 0 39 x5) (hx7 : B 0 5 x7) (hx8 : B 0 2 x8) (hy0 : B 0 20 y0) (hIm0 : Inv z m0) : T (sp_Model_season_j134_61 F p0 p1 p2 k2 k3 g m0 x4 x5 x6 x7 x8 y0) (LQ (J_Model_season_61 z) (Q_Model_season_61 z) (fun s => s.2.1) x5) := by
  unfold sp_Model_season_j134_61
  refine T.cond (fun c1 => ?_) (fun c1 => ?_)
  · have f2 : B 0 0 (x8) := B.eql c1 hx8 (show B 0 0 (0 : Int32) from ⟨by decide, by decide⟩) (by decide)
    refine T.callB (t_Model_mothsEat hF hx7 (B.wk hy0 (by decide)) hIm0) (fun v16 h3 => ?_)
    exact t_Model_season_j154_61 hF hp1 hp2 hk2 hk3 hx5 hx7 (B.wk f2 (by decide)) hy0 h3.2
  · have f4 : B 1 2 (x8) := B.nelo c1 hx8 (show B 0 0 (0 : Int32) from ⟨by decide, by decide⟩) (by decide)
    exact t_Model_season_j154_61 hF hp1 hp2 hk2 hk3 hx5 hx7 (B.wk f4 (by decide)) hy0 hIm0
theorem t_Model_season_j116_61 {z : Zt} {F : Nat} {p0 : Int32} {p1 : Int32} {p2 : Int32} {k2 : Int32} {k3 : Int32} {g : Mem} {m0 : Mem} {x4 : Int32} {x5 : Int32} {x6 : Int32} {x7 : Int32} {y0 : Int32} (hF : 4294967296 < F) (hp1 : B 0 40 p1) (hp2 : B 0 2 p2) (hk2 : B 1 40 k2) (hk3 : B 0 2 k3) (hx5 : B 0 39 x5) (hx7 : B 0 5 x7) (hy0 : B 0 2 y0) (hIm0 : Inv z m0) : T (sp_Model_season_j116_61 F p0 p1 p2 k2 k3 g m0 x4 x5 x6 x7 y0) (LQ (J_Model_season_61 z) (Q_Model_season_61 z) (fun s => s.2.1) x5) := by
  unfold sp_Model_season_j116_61
  refine T.cond (fun c1 => ?_) (fun c1 => ?_)
  · have f2 : B 2 2 (y0) := B.eql c1 hy0 (show B 2 2 (2 : Int32) from ⟨by decide, by decide⟩) (by decide)
    exact t_Model_season_j134_61 hF hp1 hp2 hk2 hk3 hx5 hx7 (B.wk f2 (by decide)) (B.wk (show B 0 0 (0 : Int32) from ⟨by decide, by decide⟩) (by decide)) hIm0
  · have f3 : B 0 1 (y0) := B.nehi c1 hy0 (show B 2 2 (2 : Int32) from ⟨by decide, by decide⟩) (by decide)
    refine T.callB (t_Model_drawOf (hi := 20) (B.wk (show B 20 20 (20 : Int32) from ⟨by decide, by decide⟩) (by decide)) (by decide) hIm0) (fun v22 h4 => ?_)
    exact t_Model_season_j134_61 hF hp1 hp2 hk2 hk3 hx5 hx7 (B.wk f3 (by decide)) (B.wk h4.1 (by decide)) h4.2
theorem t_Model_season_j96_61 {z : Zt} {F : Nat} {p0 : Int32} {p1 : Int32} {p2 : Int32} {k2 : Int32} {k3 : Int32} {g : Mem} {m0 : Mem} {x4 : Int32} {x5 : Int32} {x6 : Int32} {y0 : Int32} (hF : 4294967296 < F) (hp1 : B 0 40 p1) (hp2 : B 0 2 p2) (hk2 : B 1 40 k2) (hk3 : B 0 2 k3) (hx5 : B 0 39 x5) (hy0 : B 0 5 y0) (hIm0 : Inv z m0) : T (sp_Model_season_j96_61 F p0 p1 p2 k2 k3 g m0 x4 x5 x6 y0) (LQ (J_Model_season_61 z) (Q_Model_season_61 z) (fun s => s.2.1) x5) := by
  unfold sp_Model_season_j96_61
  refine T.rdK 0 (P := fun z => B 0 6 z ∧ z = (m0) 58 0) (B.ib (show B 0 0 (0 : Int32) from ⟨by decide, by decide⟩) (by decide)) rfl ⟨hIm0.told0, rfl⟩ (fun v12 h1 => ?_)
  refine T.cond (fun c2 => ?_) (fun c2 => ?_)
  · have f3 : B 0 0 (v12) := B.eql c2 h1.1 (show B 0 0 (0 : Int32) from ⟨by decide, by decide⟩) (by decide)
    exact t_Model_season_j116_61 hF hp1 hp2 hk2 hk3 hx5 hy0 (B.wk (show B 2 2 (2 : Int32) from ⟨by decide, by decide⟩) (by decide)) hIm0
  · have f4 : B 1 6 (v12) := B.nelo c2 h1.1 (show B 0 0 (0 : Int32) from ⟨by decide, by decide⟩) (by decide)
    refine T.callB (t_Model_drawOf (hi := 3) (B.wk (show B 3 3 (3 : Int32) from ⟨by decide, by decide⟩) (by decide)) (by decide) hIm0) (fun v23 h5 => ?_)
    exact t_Model_season_j116_61 hF hp1 hp2 hk2 hk3 hx5 hy0 h5.1 h5.2
theorem t_Model_season_61 {z : Zt} {F : Nat} {p0 : Int32} {p1 : Int32} {p2 : Int32} {g : Mem} {k2 : Int32} {k3 : Int32} {s : Int32 × Int32 × Mem} (hF : 4294967296 < F) (hp1 : B 0 40 p1) (hp2 : B 0 2 p2) (hk2 : B 0 40 k2) (hk3 : B 0 2 k3) (hs : J_Model_season_61 z s) : T (st_Model_season_61 F p0 p1 p2 g k2 k3 s) (LQ (J_Model_season_61 z) (Q_Model_season_61 z) (fun s => s.2.1) s.2.1) := by
  unfold st_Model_season_61
  refine T.cond (fun c1 => ?_) (fun c1 => ?_)
  · exact T.some' (show B (-2147483648) 2147483647 s.1 ∧ Inv z s.2.2 from ⟨(B.any s.1), hs.2.2⟩)
  · have f2 : B 1 40 (k2) := B.nlel c1 hk2 hs.2.1 (by decide)
    have f3 : B 0 39 (s.2.1) := B.nler c1 hk2 hs.2.1 (by decide)
    refine T.callB (t_Model_records hF hs.2.2) (fun v9 h4 => ?_)
    refine T.rdK 0 (P := fun z => B 0 6 z ∧ z = (s.2.2) 58 0) (B.ib (show B 0 0 (0 : Int32) from ⟨by decide, by decide⟩) (by decide)) rfl ⟨hs.2.2.told0, rfl⟩ (fun v10 h5 => ?_)
    refine T.cond (fun c6 => ?_) (fun c6 => ?_)
    · have f7 : B 0 0 (v10) := B.eql c6 h5.1 (show B 0 0 (0 : Int32) from ⟨by decide, by decide⟩) (by decide)
      exact t_Model_season_j96_61 hF hp1 hp2 f2 hk3 f3 (B.wk (show B 0 0 (0 : Int32) from ⟨by decide, by decide⟩) (by decide)) hs.2.2
    · have f8 : B 1 6 (v10) := B.nelo c6 h5.1 (show B 0 0 (0 : Int32) from ⟨by decide, by decide⟩) (by decide)
      refine T.rdK 0 (P := fun z => B 0 6 z ∧ z = (s.2.2) 58 0) (B.ib (show B 0 0 (0 : Int32) from ⟨by decide, by decide⟩) (by decide)) rfl ⟨hs.2.2.told0, rfl⟩ (fun v24 h9 => ?_)
      have k10 : B 1 6 v24 := by rw [h9.2, ← h5.2]; exact f8
      refine T.callB (t_Model_drawOf (hi := 6) k10 (by decide) hs.2.2) (fun v25 h11 => ?_)
      exact t_Model_season_j96_61 hF hp1 hp2 f2 hk3 f3 h11.1 h11.2
