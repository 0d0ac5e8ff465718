/-! a value comes out, and the memory stays well (by program: wip/p2gen) -/
theorem t_Reader_readSum {y : Int32 × Int32} {d : Int} {F : Nat} {E : Int32 → Mem → Option Mem} {nE : Nat} {p0 : Int32} {g : Mem} (hF : 4294967296 < F) (hd : 0 ≤ d) (hE : ∀ (q : Int32) (m : Mem), B (d + 1) 7 q → RI y m → T (E q m) (fun r => RI y r)) (hp0 : B d 6 p0) (hIg : RI y g) : T (sp_Reader_readSum F E nE p0 g) (fun r => RI y r) := by
  unfold sp_Reader_readSum
  refine T.callB (t_Reader_readProduct hF hd hE hp0 hIg) (fun v1 h1 => ?_)
  refine T.callB (T.lpc (J := J_Reader_readSum_7 y) (Q := Q_Reader_readSum_7 y) (fun s => s.1) 0 2147483647 (by decide) (fun s h => h.1) (fun s h => t_Reader_readSum_7 hF hd hE hp0 hp0 h) F _ (show J_Reader_readSum_7 y (0, v1) from ⟨(B.wk (show B 0 0 (0 : Int32) from ⟨by decide, by decide⟩) (by decide)), h1⟩) hF) (fun x10 h2 => ?_)
  have h2 : RI y x10 := h2
  exact T.some' (show RI y x10 from h2)
theorem t_Reader_readTest_j46 {y : Int32 × Int32} {d : Int} {F : Nat} {E : Int32 → Mem → Option Mem} {nE : Nat} {p0 : Int32} {g : Mem} {m0 : Mem} {x1 : Int32} {y0 : Int32} (hF : 4294967296 < F) (hd : 0 ≤ d) (hE : ∀ (q : Int32) (m : Mem), B (d + 1) 7 q → RI y m → T (E q m) (fun r => RI y r)) (hp0 : B d 6 p0) (hx1 : B d 6 x1) (hy0 : B (-60) (-14) y0) (hIm0 : RI y m0) : T (sp_Reader_readTest_j46 F E nE p0 g m0 x1 y0) (fun r => RI y r) := by
  unfold sp_Reader_readTest_j46
  refine T.callB (t_Reader_advance hF hIm0) (fun v5 h1 => ?_)
  refine T.callB (t_Reader_readSum hF hd hE hx1 h1.1) (fun v6 h2 => ?_)
  refine T.callB (t_Rule_add UP8 h2.1) (fun v7 h3 => ?_)
  exact T.some' (show RI y v7 from (h2.keep h3))
theorem t_Reader_readTest_j30 {y : Int32 × Int32} {d : Int} {F : Nat} {E : Int32 → Mem → Option Mem} {nE : Nat} {p0 : Int32} {g : Mem} {m0 : Mem} {x1 : Int32} (hF : 4294967296 < F) (hd : 0 ≤ d) (hE : ∀ (q : Int32) (m : Mem), B (d + 1) 7 q → RI y m → T (E q m) (fun r => RI y r)) (hp0 : B d 6 p0) (hx1 : B d 6 x1) (hIm0 : RI y m0) : T (sp_Reader_readTest_j30 F E nE p0 g m0 x1) (fun r => RI y r) := by
  unfold sp_Reader_readTest_j30
  refine T.cond (fun c1 => ?_) (fun c1 => ?_)
  · have f2 : B 60 60 (m0 3 6) := B.eql c1 (B.any (m0 3 6)) (show B 60 60 (60 : Int32) from ⟨by decide, by decide⟩) (by decide)
    exact t_Reader_readTest_j46 hF hd hE hp0 hx1 (B.wk (show B (-14) (-14) (-14 : Int32) from ⟨by decide, by decide⟩) (by decide)) hIm0
  · exact t_Reader_readTest_j46 hF hd hE hp0 hx1 (B.wk (show B (-15) (-15) (-15 : Int32) from ⟨by decide, by decide⟩) (by decide)) hIm0
theorem t_Reader_readTest {y : Int32 × Int32} {d : Int} {F : Nat} {E : Int32 → Mem → Option Mem} {nE : Nat} {p0 : Int32} {g : Mem} (hF : 4294967296 < F) (hd : 0 ≤ d) (hE : ∀ (q : Int32) (m : Mem), B (d + 1) 7 q → RI y m → T (E q m) (fun r => RI y r)) (hp0 : B d 6 p0) (hIg : RI y g) : T (sp_Reader_readTest F E nE p0 g) (fun r => RI y r) := by
  unfold sp_Reader_readTest
  refine T.callB (t_Reader_readSum hF hd hE hp0 hIg) (fun v1 h1 => ?_)
  refine T.cond (fun c2 => ?_) (fun c2 => ?_)
  · have f3 : B 0 0 (v1 3 9) := B.eql c2 (B.any (v1 3 9)) (show B 0 0 (0 : Int32) from ⟨by decide, by decide⟩) (by decide)
    refine T.cond (fun c4 => ?_) (fun c4 => ?_)
    · have f5 : B 60 60 (v1 3 6) := B.eql c4 (B.any (v1 3 6)) (show B 60 60 (60 : Int32) from ⟨by decide, by decide⟩) (by decide)
      exact t_Reader_readTest_j30 hF hd hE hp0 hp0 h1
    · refine T.cond (fun c6 => ?_) (fun c6 => ?_)
      · have f7 : B 61 61 (v1 3 6) := B.eql c6 (B.any (v1 3 6)) (show B 61 61 (61 : Int32) from ⟨by decide, by decide⟩) (by decide)
        exact t_Reader_readTest_j30 hF hd hE hp0 hp0 h1
      · exact T.some' (show RI y v1 from h1)
  · exact T.some' (show RI y v1 from h1)
theorem t_Reader_readNot_4 {y : Int32 × Int32} {d : Int} {F : Nat} {E : Int32 → Mem → Option Mem} {nE : Nat} {p0 : Int32} {g : Mem} {k1 : Int32} {s : Int32 × Int32 × Mem} (hF : 4294967296 < F) (hd : 0 ≤ d) (hE : ∀ (q : Int32) (m : Mem), B (d + 1) 7 q → RI y m → T (E q m) (fun r => RI y r)) (hp0 : B d 6 p0) (hk1 : B d 6 k1) (hs : J_Reader_readNot_4 y s) : T (st_Reader_readNot_4 F E nE p0 g k1 s) (LQ (J_Reader_readNot_4 y) (Q_Reader_readNot_4 y) (fun s => s.2.1) s.2.1) := by
  unfold st_Reader_readNot_4
  refine T.cond (fun c1 => ?_) (fun c1 => ?_)
  · have f2 : B 6 6 (s.2.1) := B.ler c1 (show B 6 6 (6 : Int32) from ⟨by decide, by decide⟩) hs.2.1 (by decide)
    exact T.some' (show B (-2147483648) 2147483647 s.1 ∧ RI y s.2.2 from ⟨(B.any s.1), hs.2.2⟩)
  · have f3 : B 0 5 (s.2.1) := B.nler c1 (show B 6 6 (6 : Int32) from ⟨by decide, by decide⟩) hs.2.1 (by decide)
    refine T.cond (fun c4 => ?_) (fun c4 => ?_)
    · have f5 : B 118 118 (s.2.2 3 6) := B.eql c4 (B.any (s.2.2 3 6)) (show B 118 118 (118 : Int32) from ⟨by decide, by decide⟩) (by decide)
      refine T.callB (t_Reader_advance hF hs.2.2) (fun v3 h6 => ?_)
      have b7 : B 1 6 (s.2.1 + 1) := B.add f3 (show B 1 1 (1 : Int32) from ⟨by decide, by decide⟩) (by decide)
      exact T.some' (show J_Reader_readNot_4 y (s.1 + 1, s.2.1 + 1, v3) ∧ s.2.1 + 1 = s.2.1 + 1 from ⟨⟨(B.any (s.1 + 1)), (B.wk b7 (by decide)), h6.1⟩, rfl⟩)
    · exact T.some' (show B (-2147483648) 2147483647 s.1 ∧ RI y s.2.2 from ⟨(B.any s.1), hs.2.2⟩)
theorem t_Reader_readNot_54 {y : Int32 × Int32} {d : Int} {F : Nat} {E : Int32 → Mem → Option Mem} {nE : Nat} {p0 : Int32} {g : Mem} {k2 : Int32} {s : Int32 × Mem} (hF : 4294967296 < F) (hd : 0 ≤ d) (hE : ∀ (q : Int32) (m : Mem), B (d + 1) 7 q → RI y m → T (E q m) (fun r => RI y r)) (hp0 : B d 6 p0) (hs : J_Reader_readNot_54 y s) : T (st_Reader_readNot_54 F E nE p0 g k2 s) (LQ (J_Reader_readNot_54 y) (Q_Reader_readNot_54 y) (fun s => s.1) s.1) := by
  unfold st_Reader_readNot_54
  refine T.cond (fun c1 => ?_) (fun c1 => ?_)
  · exact T.some' (show RI y s.2 from hs.2)
  · have f2 : B 1 2147483647 (k2) := B.nlel c1 (B.any k2) hs.1 (by decide)
    have f3 : B 0 2147483646 (s.1) := B.nler c1 (B.any k2) hs.1 (by decide)
    refine T.callB (t_Rule_add UP8 hs.2.1) (fun v9 h4 => ?_)
    have b5 : B 1 2147483647 (s.1 + 1) := B.add f3 (show B 1 1 (1 : Int32) from ⟨by decide, by decide⟩) (by decide)
    exact T.some' (show J_Reader_readNot_54 y (s.1 + 1, v9) ∧ s.1 + 1 = s.1 + 1 from ⟨⟨(B.wk b5 (by decide)), (hs.2.keep h4)⟩, rfl⟩)
theorem t_Reader_readNot_j32 {y : Int32 × Int32} {d : Int} {F : Nat} {E : Int32 → Mem → Option Mem} {nE : Nat} {p0 : Int32} {g : Mem} {m0 : Mem} {x1 : Int32} {x2 : Int32} (hF : 4294967296 < F) (hd : 0 ≤ d) (hE : ∀ (q : Int32) (m : Mem), B (d + 1) 7 q → RI y m → T (E q m) (fun r => RI y r)) (hp0 : B d 6 p0) (hx1 : B d 6 x1) (hIm0 : RI y m0) : T (sp_Reader_readNot_j32 F E nE p0 g m0 x1 x2) (fun r => RI y r) := by
  unfold sp_Reader_readNot_j32
  refine T.cond (fun c1 => ?_) (fun c1 => ?_)
  · have f2 : B 118 118 (m0 3 6) := B.eql c1 (B.any (m0 3 6)) (show B 118 118 (118 : Int32) from ⟨by decide, by decide⟩) (by decide)
    refine T.callB (t_Reader_fail (by decide) hIm0) (fun v6 h3 => ?_)
    exact T.some' (show RI y v6 from h3.1)
  · refine T.callB (t_Reader_readTest hF hd hE hx1 hIm0) (fun v7 h4 => ?_)
    refine T.callB (T.lpc (J := J_Reader_readNot_54 y) (Q := Q_Reader_readNot_54 y) (fun s => s.1) 0 2147483647 (by decide) (fun s h => h.1) (fun s h => t_Reader_readNot_54 hF hd hE hp0 h) F _ (show J_Reader_readNot_54 y (0, v7) from ⟨(B.wk (show B 0 0 (0 : Int32) from ⟨by decide, by decide⟩) (by decide)), h4⟩) hF) (fun x10 h5 => ?_)
    have h5 : RI y x10 := h5
    exact T.some' (show RI y x10 from h5)
theorem t_Reader_readNot {y : Int32 × Int32} {d : Int} {F : Nat} {E : Int32 → Mem → Option Mem} {nE : Nat} {p0 : Int32} {g : Mem} (hF : 4294967296 < F) (hd : 0 ≤ d) (hE : ∀ (q : Int32) (m : Mem), B (d + 1) 7 q → RI y m → T (E q m) (fun r => RI y r)) (hp0 : B d 6 p0) (hIg : RI y g) : T (sp_Reader_readNot F E nE p0 g) (fun r => RI y r) := by
  unfold sp_Reader_readNot
  refine T.callB (T.lpc (J := J_Reader_readNot_4 y) (Q := Q_Reader_readNot_4 y) (fun s => s.2.1) 0 6 (by decide) (fun s h => h.2.1) (fun s h => t_Reader_readNot_4 hF hd hE hp0 hp0 h) F _ (show J_Reader_readNot_4 y (0, 0, g) from ⟨(B.any (0 : Int32)), (B.wk (show B 0 0 (0 : Int32) from ⟨by decide, by decide⟩) (by decide)), hIg⟩) hF) (fun x4 h1 => ?_)
  have h1 : B (-2147483648) 2147483647 x4.1 ∧ RI y x4.2 := h1
  exact t_Reader_readNot_j32 hF hd hE hp0 hp0 h1.2
theorem t_Reader_readAnd_7 {y : Int32 × Int32} {d : Int} {F : Nat} {E : Int32 → Mem → Option Mem} {nE : Nat} {p0 : Int32} {g : Mem} {k1 : Int32} {s : Int32 × Mem} (hF : 4294967296 < F) (hd : 0 ≤ d) (hE : ∀ (q : Int32) (m : Mem), B (d + 1) 7 q → RI y m → T (E q m) (fun r => RI y r)) (hp0 : B d 6 p0) (hk1 : B d 6 k1) (hs : J_Reader_readAnd_7 y s) : T (st_Reader_readAnd_7 F E nE p0 g k1 s) (LQ (J_Reader_readAnd_7 y) (Q_Reader_readAnd_7 y) (fun s => s.1) s.1) := by
  unfold st_Reader_readAnd_7
  refine T.cond (fun c1 => ?_) (fun c1 => ?_)
  · have f2 : B 700 2147483647 (s.1) := B.ler c1 (show B 700 700 (700 : Int32) from ⟨by decide, by decide⟩) hs.1 (by decide)
    exact T.some' (show RI y s.2 from hs.2)
  · have f3 : B 0 699 (s.1) := B.nler c1 (show B 700 700 (700 : Int32) from ⟨by decide, by decide⟩) hs.1 (by decide)
    refine T.cond (fun c4 => ?_) (fun c4 => ?_)
    · have f5 : B 0 0 (s.2 3 9) := B.eql c4 (B.any (s.2 3 9)) (show B 0 0 (0 : Int32) from ⟨by decide, by decide⟩) (by decide)
      refine T.cond (fun c6 => ?_) (fun c6 => ?_)
      · have f7 : B 117 117 (s.2 3 6) := B.eql c6 (B.any (s.2 3 6)) (show B 117 117 (117 : Int32) from ⟨by decide, by decide⟩) (by decide)
        refine T.callB (t_Reader_advance hF hs.2) (fun v5 h8 => ?_)
        refine T.callB (t_Reader_readNot hF hd hE hk1 h8.1) (fun v6 h9 => ?_)
        refine T.callB (t_Rule_add UP8 h9.1) (fun v7 h10 => ?_)
        have b11 : B 1 700 (s.1 + 1) := B.add f3 (show B 1 1 (1 : Int32) from ⟨by decide, by decide⟩) (by decide)
        exact T.some' (show J_Reader_readAnd_7 y (s.1 + 1, v7) ∧ s.1 + 1 = s.1 + 1 from ⟨⟨(B.wk b11 (by decide)), (h9.keep h10)⟩, rfl⟩)
      · exact T.some' (show RI y s.2 from hs.2)
    · exact T.some' (show RI y s.2 from hs.2)
theorem t_Reader_readAnd {y : Int32 × Int32} {d : Int} {F : Nat} {E : Int32 → Mem → Option Mem} {nE : Nat} {p0 : Int32} {g : Mem} (hF : 4294967296 < F) (hd : 0 ≤ d) (hE : ∀ (q : Int32) (m : Mem), B (d + 1) 7 q → RI y m → T (E q m) (fun r => RI y r)) (hp0 : B d 6 p0) (hIg : RI y g) : T (sp_Reader_readAnd F E nE p0 g) (fun r => RI y r) := by
  unfold sp_Reader_readAnd
  refine T.callB (t_Reader_readNot hF hd hE hp0 hIg) (fun v1 h1 => ?_)
  refine T.callB (T.lpc (J := J_Reader_readAnd_7 y) (Q := Q_Reader_readAnd_7 y) (fun s => s.1) 0 2147483647 (by decide) (fun s h => h.1) (fun s h => t_Reader_readAnd_7 hF hd hE hp0 hp0 h) F _ (show J_Reader_readAnd_7 y (0, v1) from ⟨(B.wk (show B 0 0 (0 : Int32) from ⟨by decide, by decide⟩) (by decide)), h1⟩) hF) (fun x8 h2 => ?_)
  have h2 : RI y x8 := h2
  exact T.some' (show RI y x8 from h2)
theorem t_Reader_readExpr_30 {y : Int32 × Int32} {d : Int} {F : Nat} {E : Int32 → Mem → Option Mem} {nE : Nat} {p0 : Int32} {g : Mem} {k1 : Int32} {s : Int32 × Mem} (hF : 4294967296 < F) (hd : 0 ≤ d) (hE : ∀ (q : Int32) (m : Mem), B (d + 1) 7 q → RI y m → T (E q m) (fun r => RI y r)) (hp0 : B d 6 p0) (hk1 : B d 6 k1) (hs : J_Reader_readExpr_30 y s) : T (st_Reader_readExpr_30 F E nE p0 g k1 s) (LQ (J_Reader_readExpr_30 y) (Q_Reader_readExpr_30 y) (fun s => s.1) s.1) := by
  unfold st_Reader_readExpr_30
  refine T.cond (fun c1 => ?_) (fun c1 => ?_)
  · have f2 : B 700 2147483647 (s.1) := B.ler c1 (show B 700 700 (700 : Int32) from ⟨by decide, by decide⟩) hs.1 (by decide)
    exact T.some' (show RI y s.2 from hs.2)
  · have f3 : B 0 699 (s.1) := B.nler c1 (show B 700 700 (700 : Int32) from ⟨by decide, by decide⟩) hs.1 (by decide)
    refine T.cond (fun c4 => ?_) (fun c4 => ?_)
    · have f5 : B 0 0 (s.2 3 9) := B.eql c4 (B.any (s.2 3 9)) (show B 0 0 (0 : Int32) from ⟨by decide, by decide⟩) (by decide)
      refine T.cond (fun c6 => ?_) (fun c6 => ?_)
      · have f7 : B 116 116 (s.2 3 6) := B.eql c6 (B.any (s.2 3 6)) (show B 116 116 (116 : Int32) from ⟨by decide, by decide⟩) (by decide)
        refine T.callB (t_Reader_advance hF hs.2) (fun v6 h8 => ?_)
        refine T.callB (t_Reader_readAnd hF hd hE hk1 h8.1) (fun v7 h9 => ?_)
        refine T.callB (t_Rule_add UP8 h9.1) (fun v8 h10 => ?_)
        have b11 : B 1 700 (s.1 + 1) := B.add f3 (show B 1 1 (1 : Int32) from ⟨by decide, by decide⟩) (by decide)
        exact T.some' (show J_Reader_readExpr_30 y (s.1 + 1, v8) ∧ s.1 + 1 = s.1 + 1 from ⟨⟨(B.wk b11 (by decide)), (h9.keep h10)⟩, rfl⟩)
      · exact T.some' (show RI y s.2 from hs.2)
    · exact T.some' (show RI y s.2 from hs.2)
theorem t_Reader_readExpr {y : Int32 × Int32} {d : Int} {F : Nat} {E : Int32 → Mem → Option Mem} {nE : Nat} {p0 : Int32} {g : Mem} (hF : 4294967296 < F) (hd : 0 ≤ d) (hE : ∀ (q : Int32) (m : Mem), B (d + 1) 7 q → RI y m → T (E q m) (fun r => RI y r)) (hp0 : B d 7 p0) (hIg : RI y g) : T (sp_Reader_readExpr F E nE p0 g) (fun r => RI y r) := by
  unfold sp_Reader_readExpr
  refine T.cond (fun c1 => ?_) (fun c1 => ?_)
  · have hp0 : B d 6 p0 := B.lel c1 hp0 (show B 6 6 (6 : Int32) from ⟨by decide, by decide⟩) ⟨Int.le_refl _, by decide⟩
    refine T.callB (t_Reader_readAnd hF hd hE hp0 hIg) (fun v2 h2 => ?_)
    refine T.callB (T.lpc (J := J_Reader_readExpr_30 y) (Q := Q_Reader_readExpr_30 y) (fun s => s.1) 0 2147483647 (by decide) (fun s h => h.1) (fun s h => t_Reader_readExpr_30 hF hd hE hp0 hp0 h) F _ (show J_Reader_readExpr_30 y (0, v2) from ⟨(B.wk (show B 0 0 (0 : Int32) from ⟨by decide, by decide⟩) (by decide)), h2⟩) hF) (fun x9 h3 => ?_)
    have h3 : RI y x9 := h3
    exact T.some' (show RI y x9 from h3)
  · refine T.callB (t_Reader_canBegin hIg.1) (fun v10 h4 => ?_)
    refine T.cond (fun c5 => ?_) (fun c5 => ?_)
    · have f6 : B 0 0 (v10) := B.eql c5 h4 (show B 0 0 (0 : Int32) from ⟨by decide, by decide⟩) (by decide)
      refine T.callB (t_Reader_fail (by decide) hIg) (fun v12 h7 => ?_)
      exact T.some' (show RI y v12 from h7.1)
    · have f8 : B 1 1 (v10) := B.nelo c5 h4 (show B 0 0 (0 : Int32) from ⟨by decide, by decide⟩) (by decide)
      refine T.callB (t_Reader_fail (by decide) hIg) (fun v13 h9 => ?_)
      exact T.some' (show RI y v13 from h9.1)
theorem t_rxR {y : Int32 × Int32} {F : Nat} (hF : 4294967296 < F) : ∀ (n : Nat) (_hn : n ≤ 8) {p : Int32} {g : Mem}, B (8 - (n : Int)) 7 p → RI y g → T (rxR F n p g) (fun r => RI y r) := by
  intro n
  induction n with
  | zero =>
    intro hn p g hp hR
    exfalso
    have h1 := hp.1
    have h2 := hp.2
    omega
  | succ n ih =>
    intro hn p g hp hR
    show T (sp_Reader_readExpr F (rxR F n) (7 * n) p g) _
    exact t_Reader_readExpr (d := 7 - (n : Int)) hF (by omega) (fun q m hq hm => ih (by omega) (hq.wk ⟨by omega, by omega⟩) hm) (hp.wk ⟨by omega, by omega⟩) hR
theorem t_Reader_takenOrNone {y : Int32 × Int32} {F : Nat} {g : Mem} {lo hi : Int} (hF : 4294967296 < F) (hR : RI y g) (h0 : lo ≤ 0 ∧ 0 ≤ hi) (hn : g 3 9 = 0 → B lo hi (g 3 7)) : T (sp_Reader_takenOrNone F g) (fun r => B lo hi r.1 ∧ RI y r.2 ∧ F3 g r.2) := by
  unfold sp_Reader_takenOrNone
  have e0 : (0 : Int32).toInt = 0 := by decide
  refine T.cond (fun c => T.callB (t_Reader_advance hF hR) (fun v hv => T.some' ⟨hn c, hv.1, hv.2.1⟩)) (fun c => T.some' ⟨⟨by rw [e0]; exact h0.1, by rw [e0]; exact h0.2⟩, hR, F3.rf⟩)
theorem t_Reader_takeNumber {y : Int32 × Int32} {F : Nat} {p0 p1 : Int32} {g : Mem} {hi : Int} (hF : 4294967296 < F) (h0 : B 0 hi p0) (h1 : B 0 hi p1) (hR : RI y g) : T (sp_Reader_takeNumber F p0 p1 g) (fun r => B 0 hi r.1 ∧ RI y r.2 ∧ F3 g r.2) := by
  have hh : (0 : Int) ≤ 0 ∧ 0 ≤ hi := ⟨Int.le_refl _, Int.le_trans h1.1 h1.2⟩
  have j34 : ∀ (m : Mem), RI y m → F3 g m → T (sp_Reader_takeNumber_j34 F p0 p1 g m) (fun r => B 0 hi r.1 ∧ RI y r.2 ∧ F3 g r.2) := fun m hm hf => by
    unfold sp_Reader_takeNumber_j34
    refine T.callB (t_Reader_fail (by decide) hm) (fun v5 h5 => ?_)
    exact T.callB (t_Reader_takenOrNone hF h5.1 hh (fun e => absurd e h5.2.2)) (fun v6 h6 => T.some' ⟨h6.1, h6.2.1, hf.tr (h5.2.1.tr h6.2.2)⟩)
  have j11 : ∀ (m : Mem), RI y m → F3 g m → T (sp_Reader_takeNumber_j11 F p0 p1 g m p0 p1) (fun r => B 0 hi r.1 ∧ RI y r.2 ∧ F3 g r.2) := fun m hm hf => by
    unfold sp_Reader_takeNumber_j11
    refine T.cond (fun c => ?_) (fun c => T.callB (t_Reader_takenOrNone hF hm hh (fun e => absurd e c)) (fun v6 h6 => T.some' ⟨h6.1, h6.2.1, hf.tr h6.2.2⟩))
    refine T.cond (fun c2 => j34 m hm hf) (fun c2 => ?_)
    refine T.cond (fun c3 => ?_) (fun c3 => j34 m hm hf)
    have b1 : B 0 2147483647 (m 3 7) := B.nltl c2 (B.any _) h0 ⟨by omega, by omega⟩
    have b2 : B 0 hi (m 3 7) := B.lel c3 b1 h1 ⟨by omega, by omega⟩
    exact T.callB (t_Reader_takenOrNone hF hm hh (fun _ => b2)) (fun v6 h6 => T.some' ⟨h6.1, h6.2.1, hf.tr h6.2.2⟩)
  unfold sp_Reader_takeNumber
  exact T.cond (fun c => T.callB (t_Reader_needNumber hR) (fun v2 h2 => j11 v2 h2.1 h2.2.1)) (fun c => j11 g hR F3.rf)
theorem t_Reader_readMonk {y : Int32 × Int32} {F : Nat} {p0 : Int32} {g : Mem} (hF : 4294967296 < F) (hp0 : B 0 3 p0) (hIg : RI y g) : T (sp_Reader_readMonk F p0 g) (fun r => RI y r) := by
  unfold sp_Reader_readMonk
  refine T.cond (fun c1 => ?_) (fun c1 => ?_)
  · have f2 : B 0 5 (g 4 0) := B.ltl c1 (hIg.1.monks RP4) (show B 6 6 (6 : Int32) from ⟨by decide, by decide⟩) (by decide)
    refine T.callB (t_Reader_advance hF hIg) (fun v2 h3 => ?_)
    have k4 : B 0 5 (v2 4 0) := by rw [h3.2.1 4 (by decide)]; exact f2
    refine T.callB (t_Reader_takeNumber (hi := 99) hF ⟨by decide, by decide⟩ ⟨by decide, by decide⟩ h3.1) (fun v3 h5 => ?_)
    have k6 : B 0 5 (v3.2 4 0) := by rw [h5.2.2 4 (by decide)]; exact k4
    refine T.callB (t_Reader_takeNumber (hi := 60) hF ⟨by decide, by decide⟩ ⟨by decide, by decide⟩ h5.2.1) (fun v4 h7 => ?_)
    have k8 : B 0 5 (v4.2 4 0) := by rw [h7.2.2 4 (by decide)]; exact k6
    refine T.cond (fun c9 => ?_) (fun c9 => ?_)
    · have f10 : B 0 0 (v4.2 3 9) := B.eql c9 (B.any (v4.2 3 9)) (show B 0 0 (0 : Int32) from ⟨by decide, by decide⟩) (by decide)
      have b11 : B 1 6 ((v4.2 4 0) + 1) := B.add k8 (show B 1 1 (1 : Int32) from ⟨by decide, by decide⟩) (by decide)
      have hM12 : RI y (mset v4.2 4 0 ((v4.2 4 0) + 1)) := h7.2.1.keep (h7.2.1.1.p_monks RP4 (B.wk b11 (by decide)))
      refine T.wrI (I := fun m => RI y m ∧ ∀ q, q ≠ (4 + 1) → m q = (mset v4.2 4 0 ((v4.2 4 0) + 1)) q) (B.ib k8 (by decide)) ⟨hM12.keep (hM12.1.fra rfl), fun q hq => mset_rowF _ _ _ hq⟩ (fun g6 h13 => ?_)
      refine T.wrI (I := fun m => RI y m ∧ ∀ q, q ≠ (4 + 2) → m q = (g6) q) (B.ib k8 (by decide)) ⟨h13.1.keep (h13.1.1.fra rfl), fun q hq => mset_rowF _ _ _ hq⟩ (fun g7 h14 => ?_)
      refine T.callB (t_Roll_longest RP4 k8 h14.1.1) (fun v8 h15 => ?_)
      refine T.callB (t_JMath_min ) (fun v9 h16 => ?_)
      refine T.wrI (I := fun m => RI y m ∧ ∀ q, q ≠ (12 + 1) → m q = (g7) q) (B.ib k8 (by decide)) ⟨h14.1.keep (h14.1.1.fra rfl), fun q hq => mset_rowF _ _ _ hq⟩ (fun g10 h17 => ?_)
      exact T.some' (show RI y g10 from h17.1)
    · exact T.some' (show RI y v4.2 from h7.2.1)
  · have f18 : B 6 6 (g 4 0) := B.nltl c1 (hIg.1.monks RP4) (show B 6 6 (6 : Int32) from ⟨by decide, by decide⟩) (by decide)
    refine T.callB (t_Reader_fail (by decide) hIg) (fun v11 h19 => ?_)
    have k20 : B 6 6 (v11 4 0) := by rw [h19.2.1 4 (by decide)]; exact f18
    exact T.some' (show RI y v11 from h19.1)
theorem t_Reader_takeTold {y : Int32 × Int32} {F : Nat} {p0 : Int32} {g : Mem} {hi : Int} (hF : 4294967296 < F) (h1 : 1 ≤ hi) (h0 : B 0 hi p0) (hR : RI y g) : T (sp_Reader_takeTold F p0 g) (fun r => B 0 (hi - 1) r.1 ∧ RI y r.2 ∧ F3 g r.2) := by
  have hh : (0 : Int) ≤ 0 ∧ 0 ≤ hi - 1 := ⟨Int.le_refl _, by omega⟩
  have j11 : ∀ (m : Mem), RI y m → F3 g m → (m 3 9 = 0 → 0 ≤ (m 3 7).toInt) → T (sp_Reader_takeTold_j11 F p0 g m p0) (fun r => B 0 (hi - 1) r.1 ∧ RI y r.2 ∧ F3 g r.2) := fun m hm hf hz => by
    unfold sp_Reader_takeTold_j11
    refine T.cond (fun c => ?_) (fun c => T.callB (t_Reader_takenOrNone hF hm hh (fun e => absurd e c)) (fun v6 h6 => T.some' ⟨h6.1, h6.2.1, hf.tr h6.2.2⟩))
    refine T.cond (fun c2 => ?_) (fun c2 => ?_)
    · have b1 : B 0 2147483647 (m 3 7) := ⟨hz c, (B.any _).2⟩
      have b2 : B 0 (hi - 1) (m 3 7) := B.ltl c2 b1 h0 ⟨by omega, by omega⟩
      exact T.callB (t_Reader_takenOrNone hF hm hh (fun _ => b2)) (fun v6 h6 => T.some' ⟨h6.1, h6.2.1, hf.tr h6.2.2⟩)
    · refine T.callB (t_Reader_fail (by decide) hm) (fun v5 h5 => ?_)
      exact T.callB (t_Reader_takenOrNone hF h5.1 hh (fun e => absurd e h5.2.2)) (fun v6 h6 => T.some' ⟨h6.1, h6.2.1, hf.tr (h5.2.1.tr h6.2.2)⟩)
  unfold sp_Reader_takeTold
  exact T.cond (fun c => T.callB (t_Reader_needNumber hR) (fun v2 h2 => j11 v2 h2.1 h2.2.1 h2.2.2)) (fun c => j11 g hR F3.rf (fun e => absurd e c))
theorem t_Reader_readEntry_j113 {y : Int32 × Int32} {F : Nat} {p0 : Int32} {g : Mem} {m0 : Mem} {x6 : Int32} (hF : 4294967296 < F) (hp0 : B 0 3 p0) (hx6 : B 0 23 x6) (hIm0 : RI y m0) : T (sp_Reader_readEntry_j113 F p0 g m0 x6) (fun r => RI y r) := by
  unfold sp_Reader_readEntry_j113
  refine T.cond (fun c1 => ?_) (fun c1 => ?_)
  · have f2 : B 0 0 (m0 3 9) := B.eql c1 (B.any (m0 3 9)) (show B 0 0 (0 : Int32) from ⟨by decide, by decide⟩) (by decide)
    refine T.cond (fun c3 => ?_) (fun c3 => ?_)
    · have f4 : B 115 115 (m0 3 6) := B.eql c3 (B.any (m0 3 6)) (show B 115 115 (115 : Int32) from ⟨by decide, by decide⟩) (by decide)
      refine T.callB (t_Reader_advance hF hIm0) (fun v16 h5 => ?_)
      refine T.callB (t_Hair_tie HP12 h5.1.1) (fun v17 h6 => ?_)
      exact T.some' (show RI y v17 from (h5.1.keep h6))
    · exact T.some' (show RI y m0 from hIm0)
  · exact T.some' (show RI y m0 from hIm0)
theorem t_Reader_readEntry {y : Int32 × Int32} {F : Nat} {p0 : Int32} {g : Mem} (hF : 4294967296 < F) (hp0 : B 0 3 p0) (hIg : RI y g) : T (sp_Reader_readEntry F p0 g) (fun r => RI y r) := by
  unfold sp_Reader_readEntry
  refine T.callB (t_Hair_isFull HP12 hIg.1) (fun v1 h1 => ?_)
  refine T.cond (fun c2 => ?_) (fun c2 => ?_)
  · have q3 : B 0 23 (g 12 4) := h1.2 c2
    have f4 : B 0 0 (v1) := B.eql c2 h1.1 (show B 0 0 (0 : Int32) from ⟨by decide, by decide⟩) (by decide)
    refine T.callB (t_Reader_advance hF hIg) (fun v3 h5 => ?_)
    have k6 : B 0 23 (v3 12 4) := by rw [h5.2.1 12 (by decide)]; exact q3
    refine T.callB (t_Reader_takeTold (hi := 6) hF (by decide) (h5.1.1.monks RP4) h5.1) (fun v4 h7 => ?_)
    have k8 : B 0 23 (v4.2 12 4) := by rw [h7.2.2 12 (by decide)]; exact k6
    refine T.callB (t_Reader_takeNumber (hi := 60) hF ⟨by decide, by decide⟩ ⟨by decide, by decide⟩ h7.2.1) (fun v5 h9 => ?_)
    have k10 : B 0 23 (v5.2 12 4) := by rw [h9.2.2 12 (by decide)]; exact k8
    refine T.callB (t_Reader_takeNumber (hi := 7) hF ⟨by decide, by decide⟩ ⟨by decide, by decide⟩ h9.2.1) (fun v6 h11 => ?_)
    have k12 : B 0 23 (v6.2 12 4) := by rw [h11.2.2 12 (by decide)]; exact k10
    refine T.callB (t_Reader_takeNumber (hi := 999) hF ⟨by decide, by decide⟩ ⟨by decide, by decide⟩ h11.2.1) (fun v7 h13 => ?_)
    have k14 : B 0 23 (v7.2 12 4) := by rw [h13.2.2 12 (by decide)]; exact k12
    refine T.cond (fun c15 => ?_) (fun c15 => ?_)
    · have f16 : B 0 0 (v7.2 3 9) := B.eql c15 (B.any (v7.2 3 9)) (show B 0 0 (0 : Int32) from ⟨by decide, by decide⟩) (by decide)
      refine T.callB (t_Hair_braidIn HP12 h7.1 h13.2.1.1 k14) (fun v9 h17 => ?_)
      refine T.cond (fun c18 => ?_) (fun c18 => ?_)
      · have f19 : B 114 114 (v9.2 3 6) := B.eql c18 (B.any (v9.2 3 6)) (show B 114 114 (114 : Int32) from ⟨by decide, by decide⟩) (by decide)
        refine T.callB (t_Reader_advance hF (h13.2.1.keep h17.2)) (fun v11 h20 => ?_)
        refine T.callB (t_Reader_takeNumber (hi := 7) hF ⟨by decide, by decide⟩ ⟨by decide, by decide⟩ h20.1) (fun v12 h21 => ?_)
        refine T.callB (t_Roll_put RP4 h17.1 (Or.inr ⟨by decide, by decide⟩) h21.2.1.1) (fun v13 h22 => ?_)
        exact t_Reader_readEntry_j113 hF hp0 h17.1 (h21.2.1.keep h22)
      · exact t_Reader_readEntry_j113 hF hp0 h17.1 (h13.2.1.keep h17.2)
    · exact T.some' (show RI y v7.2 from h13.2.1)
  · have f23 : B 1 1 (v1) := B.nelo c2 h1.1 (show B 0 0 (0 : Int32) from ⟨by decide, by decide⟩) (by decide)
    refine T.callB (t_Reader_fail (by decide) hIg) (fun v18 h24 => ?_)
    exact T.some' (show RI y v18 from h24.1)
theorem t_Reader_takeCopier {y : Int32 × Int32} {F : Nat} {p0 : Int32} {g : Mem} (hF : 4294967296 < F) (hR : RI y g) : T (sp_Reader_takeCopier F p0 g) (fun r => B 0 5 r.1 ∧ RI y r.2 ∧ F3 g r.2) := by
  have hh : (0 : Int) ≤ 0 ∧ (0 : Int) ≤ 5 := by decide
  have j37 : ∀ (m : Mem), RI y m → F3 g m → (m 3 9 = 0 → B 0 5 (m 3 7)) → T (sp_Reader_takeCopier_j37 F p0 g m p0) (fun r => B 0 5 r.1 ∧ RI y r.2 ∧ F3 g r.2) := fun m hm hf hz => by
    unfold sp_Reader_takeCopier_j37
    refine T.cond (fun c => ?_) (fun c => T.callB (t_Reader_takenOrNone hF hm hh (fun e => absurd e c)) (fun v6 h6 => T.some' ⟨h6.1, h6.2.1, hf.tr h6.2.2⟩))
    refine T.callB (t_Hair_holds hF HP12 hm.1) (fun v6 _ => ?_)
    refine T.cond (fun c2 => T.callB (t_Reader_takenOrNone hF hm hh (fun e => hz e)) (fun v6 h6 => T.some' ⟨h6.1, h6.2.1, hf.tr h6.2.2⟩)) (fun c2 => ?_)
    refine T.callB (t_Reader_fail (by decide) hm) (fun v5 h5 => ?_)
    exact T.callB (t_Reader_takenOrNone hF h5.1 hh (fun e => absurd e h5.2.2)) (fun v6 h6 => T.some' ⟨h6.1, h6.2.1, hf.tr (h5.2.1.tr h6.2.2)⟩)
  have j11 : ∀ (m : Mem), RI y m → F3 g m → (m 3 9 = 0 → 0 ≤ (m 3 7).toInt) → T (sp_Reader_takeCopier_j11 F p0 g m p0) (fun r => B 0 5 r.1 ∧ RI y r.2 ∧ F3 g r.2) := fun m hm hf hz => by
    unfold sp_Reader_takeCopier_j11
    refine T.cond (fun c => ?_) (fun c => j37 m hm hf (fun e => absurd e c))
    refine T.cond (fun c2 => j37 m hm hf (fun e => B.ltl c2 (show B 0 2147483647 (m 3 7) from ⟨hz c, (B.any _).2⟩) (hm.1.monks RP4) (by decide))) (fun c2 => ?_)
    exact T.callB (t_Reader_fail (by decide) hm) (fun v5 h5 => j37 v5 h5.1 (hf.tr h5.2.1) (fun e => absurd e h5.2.2))
  unfold sp_Reader_takeCopier
  exact T.cond (fun c => T.callB (t_Reader_needNumber hR) (fun v2 h2 => j11 v2 h2.1 h2.2.1 h2.2.2)) (fun c => j11 g hR F3.rf (fun e => absurd e c))
theorem t_Reader_readCopy_j54 {y : Int32 × Int32} {F : Nat} {g : Mem} {m0 : Mem} {x1 : Int32} {y0 : Int32} (hF : 4294967296 < F) (hx1 : B 0 22 x1) (hIm0 : RI y m0) (hc0 : B 0 23 (m0 12 4)) : T (sp_Reader_readCopy_j54 F g m0 x1 y0) (fun r => RI y r) := by
  unfold sp_Reader_readCopy_j54
  refine T.callB (t_Reader_takeCopier hF hIm0) (fun v7 h1 => ?_)
  have k2 : B 0 23 (v7.2 12 4) := by rw [h1.2.2 12 (by decide)]; exact hc0
  refine T.callB (t_Reader_takeNumber (hi := 60) hF ⟨by decide, by decide⟩ ⟨by decide, by decide⟩ h1.2.1) (fun v8 h3 => ?_)
  have k4 : B 0 23 (v8.2 12 4) := by rw [h3.2.2 12 (by decide)]; exact k2
  refine T.cond (fun c5 => ?_) (fun c5 => ?_)
  · have f6 : B 0 0 (v8.2 3 9) := B.eql c5 (B.any (v8.2 3 9)) (show B 0 0 (0 : Int32) from ⟨by decide, by decide⟩) (by decide)
    refine T.callB (t_Hair_copyInto HP12 (B.wk hx1 (by decide)) h1.1 h3.2.1.1 k4) (fun v10 h7 => ?_)
    exact T.some' (show RI y v10.2 from (h3.2.1.keep h7.2))
  · exact T.some' (show RI y v8.2 from h3.2.1)
theorem t_Reader_readCopy {y : Int32 × Int32} {F : Nat} {g : Mem} (hF : 4294967296 < F) (hIg : RI y g) : T (sp_Reader_readCopy F g) (fun r => RI y r) := by
  unfold sp_Reader_readCopy
  refine T.callB (t_Hair_isFull HP12 hIg.1) (fun v1 h1 => ?_)
  refine T.cond (fun c2 => ?_) (fun c2 => ?_)
  · have q3 : B 0 23 (g 12 4) := h1.2 c2
    have f4 : B 0 0 (v1) := B.eql c2 h1.1 (show B 0 0 (0 : Int32) from ⟨by decide, by decide⟩) (by decide)
    refine T.callB (t_Reader_advance hF hIg) (fun v3 h5 => ?_)
    have k6 : B 0 23 (v3 12 4) := by rw [h5.2.1 12 (by decide)]; exact q3
    refine T.callB (t_Reader_takeTold (hi := 23) hF (by decide) k6 h5.1) (fun v4 h7 => ?_)
    have k8 : B 0 23 (v4.2 12 4) := by rw [h7.2.2 12 (by decide)]; exact k6
    refine T.cond (fun c9 => ?_) (fun c9 => ?_)
    · have f10 : B 0 0 (v4.2 3 9) := B.eql c9 (B.any (v4.2 3 9)) (show B 0 0 (0 : Int32) from ⟨by decide, by decide⟩) (by decide)
      refine T.callB (t_Roll_cell RP4 (B.wk h7.1 (by decide)) (B.wk (show B 7 7 (7 : Int32) from ⟨by decide, by decide⟩) (by decide)) h7.2.1.1) (fun v6 h11 => ?_)
      exact t_Reader_readCopy_j54 hF h7.1 h7.2.1 k8
    · exact t_Reader_readCopy_j54 hF h7.1 h7.2.1 k8
  · have f12 : B 1 1 (v1) := B.nelo c2 h1.1 (show B 0 0 (0 : Int32) from ⟨by decide, by decide⟩) (by decide)
    refine T.callB (t_Reader_fail (by decide) hIg) (fun v11 h13 => ?_)
    exact T.some' (show RI y v11 from h13.1)
theorem t_Reader_readSetting_j30 {y : Int32 × Int32} {F : Nat} {p0 : Int32} {g : Mem} {m0 : Mem} {x1 : Int32} {x2 : Int32} (hF : 4294967296 < F) (hp0 : B 110 192 p0) (hx1 : B 110 192 x1) (hIm0 : RI y m0) : T (sp_Reader_readSetting_j30 F p0 g m0 x1 x2) (fun r => RI y r) := by
  unfold sp_Reader_readSetting_j30
  refine T.cond (fun c1 => ?_) (fun c1 => ?_)
  · have hM3 : RI y (mset m0 3 8 ((m0 3 8) ||| x2)) := hIm0.f3 (by decide)
    refine T.callB (t_Reader_advance hF hM3) (fun v4 h2 => ?_)
    refine T.cond (fun c4 => ?_) (fun c4 => ?_)
    · have f5 : B 110 110 (x1) := B.eql c4 hx1 (show B 110 110 (110 : Int32) from ⟨by decide, by decide⟩) (by decide)
      refine T.callB (t_Reader_takeNumber (hi := 60) hF ⟨by decide, by decide⟩ ⟨by decide, by decide⟩ h2.1) (fun v6 h6 => ?_)
      have hM7 : RI y (mset v6.2 4 1 v6.1) := h6.2.1.keep (h6.2.1.1.fre RP4.f1)
      exact T.some' (show RI y (mset v6.2 4 1 v6.1) from hM7)
    · have f8 : B 111 192 (x1) := B.nelo c4 hx1 (show B 110 110 (110 : Int32) from ⟨by decide, by decide⟩) (by decide)
      refine T.cond (fun c9 => ?_) (fun c9 => ?_)
      · have f10 : B 111 111 (x1) := B.eql c9 f8 (show B 111 111 (111 : Int32) from ⟨by decide, by decide⟩) (by decide)
        refine T.callB (t_Reader_takeNumber (hi := 99) hF ⟨by decide, by decide⟩ ⟨by decide, by decide⟩ h2.1) (fun v8 h11 => ?_)
        have hM12 : RI y (mset v8.2 4 2 v8.1) := h11.2.1.keep (h11.2.1.1.fre RP4.f2)
        exact T.some' (show RI y (mset v8.2 4 2 v8.1) from hM12)
      · have f13 : B 112 192 (x1) := B.nelo c9 f8 (show B 111 111 (111 : Int32) from ⟨by decide, by decide⟩) (by decide)
        refine T.cond (fun c14 => ?_) (fun c14 => ?_)
        · have f15 : B 112 112 (x1) := B.eql c14 f13 (show B 112 112 (112 : Int32) from ⟨by decide, by decide⟩) (by decide)
          refine T.callB (t_Reader_takeNumber (hi := 9) hF ⟨by decide, by decide⟩ ⟨by decide, by decide⟩ h2.1) (fun v10 h16 => ?_)
          have hM17 : RI y (mset v10.2 4 3 v10.1) := h16.2.1.keep (h16.2.1.1.fre RP4.f3)
          exact T.some' (show RI y (mset v10.2 4 3 v10.1) from hM17)
        · have f18 : B 113 192 (x1) := B.nelo c14 f13 (show B 112 112 (112 : Int32) from ⟨by decide, by decide⟩) (by decide)
          refine T.callB (t_rxR hF 8 (by decide) (show B (8 - 8) 7 (1 : Int32) from ⟨by decide, by decide⟩) h2.1) (fun v11 h19 => ?_)
          exact T.some' (show RI y v11 from h19)
  · refine T.callB (t_Reader_fail (by decide) hIm0) (fun v12 h20 => ?_)
    exact T.some' (show RI y v12 from h20.1)
theorem t_Reader_readSetting {y : Int32 × Int32} {F : Nat} {p0 : Int32} {g : Mem} (hF : 4294967296 < F) (hp0 : B 110 113 p0) (hIg : RI y g) : T (sp_Reader_readSetting F p0 g) (fun r => RI y r) := by
  unfold sp_Reader_readSetting
  refine T.cond (fun c1 => ?_) (fun c1 => ?_)
  · have f2 : B 110 110 (p0) := B.eql c1 hp0 (show B 110 110 (110 : Int32) from ⟨by decide, by decide⟩) (by decide)
    refine T.cond (fun c3 => ?_) (fun c3 => ?_)
    · have f4 : B 0 0 (g 4 0) := B.lel c3 (hIg.1.monks RP4) (show B 0 0 (0 : Int32) from ⟨by decide, by decide⟩) (by decide)
      exact t_Reader_readSetting_j30 hF (B.wk f2 (by decide)) (B.wk f2 (by decide)) hIg
    · have f5 : B 1 6 (g 4 0) := B.nlel c3 (hIg.1.monks RP4) (show B 0 0 (0 : Int32) from ⟨by decide, by decide⟩) (by decide)
      refine T.callB (t_Reader_fail (by decide) hIg) (fun v13 h6 => ?_)
      have k7 : B 1 6 (v13 4 0) := by rw [h6.2.1 4 (by decide)]; exact f5
      exact T.some' (show RI y v13 from h6.1)
  · have f8 : B 111 113 (p0) := B.nelo c1 hp0 (show B 110 110 (110 : Int32) from ⟨by decide, by decide⟩) (by decide)
    exact t_Reader_readSetting_j30 hF (B.wk f8 (by decide)) (B.wk f8 (by decide)) hIg
theorem t_Reader_read_j184_53 {y : Int32 × Int32} {F : Nat} {p0 : Int32} {g : Mem} {m0 : Mem} {x2 : Int32} (hF : 4294967296 < F) (hx2 : B 0 700 x2) (hIm0 : RI y m0) : T (sp_Reader_read_j184_53 F p0 g m0 x2) (LQ (J_Reader_read_53 y) (Q_Reader_read_53 y) (fun s => s.1) x2) := by
  unfold sp_Reader_read_j184_53
  refine T.callB (t_Reader_fail (by decide) hIm0) (fun v14 h1 => ?_)
  refine T.callB (t_Reader_expect hF (B.wk (show B 59 59 (59 : Int32) from ⟨by decide, by decide⟩) (by decide)) h1.1) (fun v15 h2 => ?_)
  have b3 : B 1 701 (x2 + 1) := B.add hx2 (show B 1 1 (1 : Int32) from ⟨by decide, by decide⟩) (by decide)
  exact T.some' (show J_Reader_read_53 y (x2 + 1, v15) ∧ x2 + 1 = x2 + 1 from ⟨⟨(B.wk b3 (by decide)), h2⟩, rfl⟩)
theorem t_Reader_read_j139_53 {y : Int32 × Int32} {F : Nat} {p0 : Int32} {g : Mem} {m0 : Mem} {x2 : Int32} (hF : 4294967296 < F) (hx2 : B 0 700 x2) (hIm0 : RI y m0) : T (sp_Reader_read_j139_53 F p0 g m0 x2) (LQ (J_Reader_read_53 y) (Q_Reader_read_53 y) (fun s => s.1) x2) := by
  unfold sp_Reader_read_j139_53
  refine T.cond (fun c1 => ?_) (fun c1 => ?_)
  · have f2 : B 109 109 (m0 3 6) := B.eql c1 (B.any (m0 3 6)) (show B 109 109 (109 : Int32) from ⟨by decide, by decide⟩) (by decide)
    refine T.callB (t_Reader_readCopy hF hIm0) (fun v11 h3 => ?_)
    refine T.callB (t_Reader_expect hF (B.wk (show B 59 59 (59 : Int32) from ⟨by decide, by decide⟩) (by decide)) h3) (fun v12 h4 => ?_)
    have b5 : B 1 701 (x2 + 1) := B.add hx2 (show B 1 1 (1 : Int32) from ⟨by decide, by decide⟩) (by decide)
    exact T.some' (show J_Reader_read_53 y (x2 + 1, v12) ∧ x2 + 1 = x2 + 1 from ⟨⟨(B.wk b5 (by decide)), h4⟩, rfl⟩)
  · refine T.cond (fun c6 => ?_) (fun c6 => ?_)
    · have f7 : B (-2147483648) 109 (m0 3 6) := B.ltl c6 (B.any (m0 3 6)) (show B 110 110 (110 : Int32) from ⟨by decide, by decide⟩) (by decide)
      have f8 : B (-2147483648) 108 (m0 3 6) := B.nehi c1 f7 (show B 109 109 (109 : Int32) from ⟨by decide, by decide⟩) (by decide)
      exact t_Reader_read_j184_53 hF hx2 hIm0
    · have f9 : B 110 2147483647 (m0 3 6) := B.nltl c6 (B.any (m0 3 6)) (show B 110 110 (110 : Int32) from ⟨by decide, by decide⟩) (by decide)
      refine T.cond (fun c10 => ?_) (fun c10 => ?_)
      · have f11 : B 114 2147483647 (m0 3 6) := B.ltr c10 (show B 113 113 (113 : Int32) from ⟨by decide, by decide⟩) f9 (by decide)
        exact t_Reader_read_j184_53 hF hx2 hIm0
      · have f12 : B 110 113 (m0 3 6) := B.nltr c10 (show B 113 113 (113 : Int32) from ⟨by decide, by decide⟩) f9 (by decide)
        refine T.callB (t_Reader_readSetting hF f12 hIm0) (fun v17 h13 => ?_)
        refine T.callB (t_Reader_expect hF (B.wk (show B 59 59 (59 : Int32) from ⟨by decide, by decide⟩) (by decide)) h13) (fun v18 h14 => ?_)
        have b15 : B 1 701 (x2 + 1) := B.add hx2 (show B 1 1 (1 : Int32) from ⟨by decide, by decide⟩) (by decide)
        exact T.some' (show J_Reader_read_53 y (x2 + 1, v18) ∧ x2 + 1 = x2 + 1 from ⟨⟨(B.wk b15 (by decide)), h14⟩, rfl⟩)
theorem t_Reader_read_j107_53 {y : Int32 × Int32} {F : Nat} {p0 : Int32} {g : Mem} {m0 : Mem} {x2 : Int32} (hF : 4294967296 < F) (hx2 : B 0 700 x2) (hIm0 : RI y m0) : T (sp_Reader_read_j107_53 F p0 g m0 x2) (LQ (J_Reader_read_53 y) (Q_Reader_read_53 y) (fun s => s.1) x2) := by
  unfold sp_Reader_read_j107_53
  refine T.cond (fun c1 => ?_) (fun c1 => ?_)
  · have f2 : B (-2147483648) 104 (m0 3 6) := B.ltl c1 (B.any (m0 3 6)) (show B 105 105 (105 : Int32) from ⟨by decide, by decide⟩) (by decide)
    exact t_Reader_read_j139_53 hF hx2 hIm0
  · have f3 : B 105 2147483647 (m0 3 6) := B.nltl c1 (B.any (m0 3 6)) (show B 105 105 (105 : Int32) from ⟨by decide, by decide⟩) (by decide)
    refine T.cond (fun c4 => ?_) (fun c4 => ?_)
    · have f5 : B 109 2147483647 (m0 3 6) := B.ltr c4 (show B 108 108 (108 : Int32) from ⟨by decide, by decide⟩) f3 (by decide)
      exact t_Reader_read_j139_53 hF hx2 hIm0
    · have f6 : B 105 108 (m0 3 6) := B.nltr c4 (show B 108 108 (108 : Int32) from ⟨by decide, by decide⟩) f3 (by decide)
      have b8 : B 0 3 ((m0 3 6) - 105) := B.sub f6 (show B 105 105 (105 : Int32) from ⟨by decide, by decide⟩) (by decide)
      refine T.callB (t_Reader_readEntry hF b8 hIm0) (fun v20 h7 => ?_)
      refine T.callB (t_Reader_expect hF (B.wk (show B 59 59 (59 : Int32) from ⟨by decide, by decide⟩) (by decide)) h7) (fun v21 h9 => ?_)
      have b10 : B 1 701 (x2 + 1) := B.add hx2 (show B 1 1 (1 : Int32) from ⟨by decide, by decide⟩) (by decide)
      exact T.some' (show J_Reader_read_53 y (x2 + 1, v21) ∧ x2 + 1 = x2 + 1 from ⟨⟨(B.wk b10 (by decide)), h9⟩, rfl⟩)
theorem t_Reader_read_53 {y : Int32 × Int32} {F : Nat} {p0 : Int32} {g : Mem} {s : Int32 × Mem} (hF : 4294967296 < F) (hs : J_Reader_read_53 y s) : T (st_Reader_read_53 F p0 g s) (LQ (J_Reader_read_53 y) (Q_Reader_read_53 y) (fun s => s.1) s.1) := by
  unfold st_Reader_read_53
  refine T.cond (fun c1 => ?_) (fun c1 => ?_)
  · have f2 : B 700 2147483647 (s.1) := B.ler c1 (show B 700 700 (700 : Int32) from ⟨by decide, by decide⟩) hs.1 (by decide)
    exact T.some' (show RI y s.2 from hs.2)
  · have f3 : B 0 699 (s.1) := B.nler c1 (show B 700 700 (700 : Int32) from ⟨by decide, by decide⟩) hs.1 (by decide)
    refine T.cond (fun c4 => ?_) (fun c4 => ?_)
    · have f5 : B 0 0 (s.2 3 9) := B.eql c4 (B.any (s.2 3 9)) (show B 0 0 (0 : Int32) from ⟨by decide, by decide⟩) (by decide)
      refine T.cond (fun c6 => ?_) (fun c6 => ?_)
      · have f7 : B 1 1 (s.2 3 6) := B.eql c6 (B.any (s.2 3 6)) (show B 1 1 (1 : Int32) from ⟨by decide, by decide⟩) (by decide)
        exact T.some' (show RI y s.2 from hs.2)
      · refine T.cond (fun c8 => ?_) (fun c8 => ?_)
        · have f9 : B (-2147483648) 100 (s.2 3 6) := B.ltl c8 (B.any (s.2 3 6)) (show B 101 101 (101 : Int32) from ⟨by decide, by decide⟩) (by decide)
          exact t_Reader_read_j107_53 hF (B.wk f3 (by decide)) hs.2
        · have f10 : B 101 2147483647 (s.2 3 6) := B.nltl c8 (B.any (s.2 3 6)) (show B 101 101 (101 : Int32) from ⟨by decide, by decide⟩) (by decide)
          refine T.cond (fun c11 => ?_) (fun c11 => ?_)
          · have f12 : B 105 2147483647 (s.2 3 6) := B.ltr c11 (show B 104 104 (104 : Int32) from ⟨by decide, by decide⟩) f10 (by decide)
            exact t_Reader_read_j107_53 hF (B.wk f3 (by decide)) hs.2
          · have f13 : B 101 104 (s.2 3 6) := B.nltr c11 (show B 104 104 (104 : Int32) from ⟨by decide, by decide⟩) f10 (by decide)
            have b15 : B 0 3 ((s.2 3 6) - 101) := B.sub f13 (show B 101 101 (101 : Int32) from ⟨by decide, by decide⟩) (by decide)
            refine T.callB (t_Reader_readMonk hF b15 hs.2) (fun v23 h14 => ?_)
            refine T.callB (t_Reader_expect hF (B.wk (show B 59 59 (59 : Int32) from ⟨by decide, by decide⟩) (by decide)) h14) (fun v24 h16 => ?_)
            have b17 : B 1 700 (s.1 + 1) := B.add f3 (show B 1 1 (1 : Int32) from ⟨by decide, by decide⟩) (by decide)
            exact T.some' (show J_Reader_read_53 y (s.1 + 1, v24) ∧ s.1 + 1 = s.1 + 1 from ⟨⟨(B.wk b17 (by decide)), h16⟩, rfl⟩)
    · exact T.some' (show RI y s.2 from hs.2)
theorem t_Reader_read {t1 t2 : Int32} {f : Nat → Int32} {F : Nat} {p0 : Int32} {g : Mem} (hF : 4294967296 < F) (hp : B 0 700 p0) (hI : Inv (t1, t2, f) g) : T (sp_Reader_read F p0 g) (fun r => RI (t1, t2) r) := by
  unfold sp_Reader_read
  have h7 : B 700 700 (Int32.ofNat 700) := ⟨by decide, by decide⟩
  refine T.callB (P := fun v => B 0 700 v) ?_ (fun v1 h1 => ?_)
  · unfold sp_JMath_min
    exact T.cond (fun c => T.some' (h7.wk (by decide))) (fun c => T.some' hp)
  have i5 := ((((hI.ms3 (k := 3) (x := v1)).ms3 (k := 5) (x := 0)).ms3 (k := 8) (x := 0)).ms3 (k := 9) (x := 0)).ms3 (k := 10) (x := -1)
  refine T.callB (t_Roll_clear RP4 i5) (fun v2 h2 => ?_)
  refine T.callB (t_Hair_begin hF HP12 h2) (fun v3 h3 => ?_)
  have e3 := h3.row3
  have b3 : B 0 700 (v3 3 3) := by
    rw [e3]
    show B 0 700 (mset (mset (mset (mset (mset g 3 3 v1) 3 5 0) 3 8 0) 3 9 0) 3 10 (-1) 3 3)
    rw [m3, if_neg (by decide), m3, if_neg (by decide), m3, if_neg (by decide), m3, if_neg (by decide), m3, if_pos rfl]
    exact h1
  have b5 : B 0 700 (v3 3 5) := by
    rw [e3]
    show B 0 700 (mset (mset (mset (mset (mset g 3 3 v1) 3 5 0) 3 8 0) 3 9 0) 3 10 (-1) 3 5)
    rw [m3, if_neg (by decide), m3, if_neg (by decide), m3, if_neg (by decide), m3, if_pos rfl]
    exact ⟨by decide, by decide⟩
  refine T.callB (t_Reader_advanceW (y := (t1, t2)) hF h3.re3 b3 b5) (fun v4 h4 => ?_)
  exact T.callB (T.lpc (J := J_Reader_read_53 (t1, t2)) (Q := Q_Reader_read_53 (t1, t2)) (fun s => s.1) 0 2147483647 (by decide) (fun s h => h.1) (fun s h => t_Reader_read_53 hF h) F _ (show J_Reader_read_53 (t1, t2) (0, v4) from ⟨(show B 0 2147483647 (0 : Int32) from ⟨by decide, by decide⟩), h4.1⟩) hF) (fun x hx => T.some' hx)
theorem t_Model_isLetter {p0 : Int32} {g : Mem}  : T (sp_Model_isLetter p0 g) (fun r => B 0 1 r) := by
  unfold sp_Model_isLetter
  refine T.cond (fun c1 => ?_) (fun c1 => ?_)
  · have f2 : B (-2147483648) 96 (p0) := B.ltl c1 (B.any p0) (show B 97 97 (97 : Int32) from ⟨by decide, by decide⟩) (by decide)
    exact T.some' (show B 0 1 (0 : Int32) from (B.wk (show B 0 0 (0 : Int32) from ⟨by decide, by decide⟩) (by decide)))
  · have f3 : B 97 2147483647 (p0) := B.nltl c1 (B.any p0) (show B 97 97 (97 : Int32) from ⟨by decide, by decide⟩) (by decide)
    refine T.cond (fun c4 => ?_) (fun c4 => ?_)
    · have f5 : B 123 2147483647 (p0) := B.ltr c4 (show B 122 122 (122 : Int32) from ⟨by decide, by decide⟩) f3 (by decide)
      exact T.some' (show B 0 1 (0 : Int32) from (B.wk (show B 0 0 (0 : Int32) from ⟨by decide, by decide⟩) (by decide)))
    · have f6 : B 97 122 (p0) := B.nltr c4 (show B 122 122 (122 : Int32) from ⟨by decide, by decide⟩) f3 (by decide)
      exact T.some' (show B 0 1 (1 : Int32) from (B.wk (show B 1 1 (1 : Int32) from ⟨by decide, by decide⟩) (by decide)))
theorem t_Model_isDigit {p0 : Int32} {g : Mem}  : T (sp_Model_isDigit p0 g) (fun r => B 0 1 r) := by
  unfold sp_Model_isDigit
  refine T.cond (fun c1 => ?_) (fun c1 => ?_)
  · have f2 : B (-2147483648) 47 (p0) := B.ltl c1 (B.any p0) (show B 48 48 (48 : Int32) from ⟨by decide, by decide⟩) (by decide)
    exact T.some' (show B 0 1 (0 : Int32) from (B.wk (show B 0 0 (0 : Int32) from ⟨by decide, by decide⟩) (by decide)))
  · have f3 : B 48 2147483647 (p0) := B.nltl c1 (B.any p0) (show B 48 48 (48 : Int32) from ⟨by decide, by decide⟩) (by decide)
    refine T.cond (fun c4 => ?_) (fun c4 => ?_)
    · have f5 : B 58 2147483647 (p0) := B.ltr c4 (show B 57 57 (57 : Int32) from ⟨by decide, by decide⟩) f3 (by decide)
      exact T.some' (show B 0 1 (0 : Int32) from (B.wk (show B 0 0 (0 : Int32) from ⟨by decide, by decide⟩) (by decide)))
    · have f6 : B 48 57 (p0) := B.nltr c4 (show B 57 57 (57 : Int32) from ⟨by decide, by decide⟩) f3 (by decide)
      exact T.some' (show B 0 1 (1 : Int32) from (B.wk (show B 1 1 (1 : Int32) from ⟨by decide, by decide⟩) (by decide)))
theorem t_Model_isMark {p0 : Int32} {g : Mem}  : T (sp_Model_isMark p0 g) (fun r => B 0 1 r) := by
  unfold sp_Model_isMark
  refine T.cond (fun c1 => ?_) (fun c1 => ?_)
  · have f2 : B 59 59 (p0) := B.eql c1 (B.any p0) (show B 59 59 (59 : Int32) from ⟨by decide, by decide⟩) (by decide)
    exact T.some' (show B 0 1 (1 : Int32) from (B.wk (show B 1 1 (1 : Int32) from ⟨by decide, by decide⟩) (by decide)))
  · refine T.cond (fun c3 => ?_) (fun c3 => ?_)
    · have f4 : B 40 40 (p0) := B.eql c3 (B.any p0) (show B 40 40 (40 : Int32) from ⟨by decide, by decide⟩) (by decide)
      exact T.some' (show B 0 1 (1 : Int32) from (B.wk (show B 1 1 (1 : Int32) from ⟨by decide, by decide⟩) (by decide)))
    · refine T.cond (fun c5 => ?_) (fun c5 => ?_)
      · have f6 : B 41 41 (p0) := B.eql c5 (B.any p0) (show B 41 41 (41 : Int32) from ⟨by decide, by decide⟩) (by decide)
        exact T.some' (show B 0 1 (1 : Int32) from (B.wk (show B 1 1 (1 : Int32) from ⟨by decide, by decide⟩) (by decide)))
      · refine T.cond (fun c7 => ?_) (fun c7 => ?_)
        · have f8 : B 43 43 (p0) := B.eql c7 (B.any p0) (show B 43 43 (43 : Int32) from ⟨by decide, by decide⟩) (by decide)
          exact T.some' (show B 0 1 (1 : Int32) from (B.wk (show B 1 1 (1 : Int32) from ⟨by decide, by decide⟩) (by decide)))
        · refine T.cond (fun c9 => ?_) (fun c9 => ?_)
          · have f10 : B 45 45 (p0) := B.eql c9 (B.any p0) (show B 45 45 (45 : Int32) from ⟨by decide, by decide⟩) (by decide)
            exact T.some' (show B 0 1 (1 : Int32) from (B.wk (show B 1 1 (1 : Int32) from ⟨by decide, by decide⟩) (by decide)))
          · refine T.cond (fun c11 => ?_) (fun c11 => ?_)
            · have f12 : B 42 42 (p0) := B.eql c11 (B.any p0) (show B 42 42 (42 : Int32) from ⟨by decide, by decide⟩) (by decide)
              exact T.some' (show B 0 1 (1 : Int32) from (B.wk (show B 1 1 (1 : Int32) from ⟨by decide, by decide⟩) (by decide)))
            · refine T.cond (fun c13 => ?_) (fun c13 => ?_)
              · have f14 : B 47 47 (p0) := B.eql c13 (B.any p0) (show B 47 47 (47 : Int32) from ⟨by decide, by decide⟩) (by decide)
                exact T.some' (show B 0 1 (1 : Int32) from (B.wk (show B 1 1 (1 : Int32) from ⟨by decide, by decide⟩) (by decide)))
              · refine T.cond (fun c15 => ?_) (fun c15 => ?_)
                · have f16 : B 60 60 (p0) := B.eql c15 (B.any p0) (show B 60 60 (60 : Int32) from ⟨by decide, by decide⟩) (by decide)
                  exact T.some' (show B 0 1 (1 : Int32) from (B.wk (show B 1 1 (1 : Int32) from ⟨by decide, by decide⟩) (by decide)))
                · refine T.cond (fun c17 => ?_) (fun c17 => ?_)
                  · have f18 : B 61 61 (p0) := B.eql c17 (B.any p0) (show B 61 61 (61 : Int32) from ⟨by decide, by decide⟩) (by decide)
                    exact T.some' (show B 0 1 (1 : Int32) from (B.wk (show B 1 1 (1 : Int32) from ⟨by decide, by decide⟩) (by decide)))
                  · exact T.some' (show B 0 1 (0 : Int32) from (B.wk (show B 0 0 (0 : Int32) from ⟨by decide, by decide⟩) (by decide)))
theorem t_Model_fail {z : Zt} {p0 : Int32} {g : Mem} (hIg : Inv z g) : T (sp_Model_fail p0 g) (fun r => B 0 0 r.1 ∧ Inv z r.2) := by
  unfold sp_Model_fail
  have hM1 : Inv z (mset g 54 3 p0) := hIg.fre rfl
  exact T.some' (show B 0 0 (0 : Int32) ∧ Inv z (mset g 54 3 p0) from ⟨(show B 0 0 (0 : Int32) from ⟨by decide, by decide⟩), hM1⟩)
theorem t_Model_failing {z : Zt} {p0 : Int32} {g : Mem} (hIg : Inv z g) : T (sp_Model_failing p0 g) (fun r => B 0 0 r.1 ∧ Inv z r.2) := by
  unfold sp_Model_failing
  have hM1 : Inv z (mset g 54 3 p0) := hIg.fre rfl
  exact T.some' (show B 0 0 (0 : Int32) ∧ Inv z (mset g 54 3 p0) from ⟨(show B 0 0 (0 : Int32) from ⟨by decide, by decide⟩), hM1⟩)
theorem t_Model_isIn {x a b : Int64} {g : Mem} : T (sp_Model_isIn x a b g) (fun r => B 0 1 r) := by
  rw [isIn_v]
  refine T.some' ?_
  split
  · exact b11
  · exact b01
theorem t_Model_isInL {p : Int32} {a b : Int} {a' b' : Int64} {g : Mem} (ha : a'.toInt = a) (hb : b'.toInt = b) : T (sp_Model_isIn p.toInt64 a' b' g) (fun r => B 0 1 r ∧ (¬ r = 0 → B a b p)) := by
  rw [isIn_v]
  refine T.some' ?_
  split
  · rename_i h
    refine ⟨b11, fun _ => ?_⟩
    have h1 := Int64.le_iff_toInt_le.mp h.1
    have h2 := Int64.le_iff_toInt_le.mp h.2
    rw [Int32.toInt_toInt64] at h1 h2
    exact ⟨by omega, by omega⟩
  · exact ⟨b01, fun h => absurd rfl h⟩
theorem t_Model_isIn2 {p q : Int32} {g : Mem} : T (sp_Model_isIn p.toInt64 0 q.toInt64 g) (fun r => B 0 1 r ∧ (¬ r = 0 → 0 ≤ p.toInt ∧ p.toInt ≤ q.toInt)) := by
  rw [isIn_v]
  refine T.some' ?_
  split
  · rename_i h
    refine ⟨b11, fun _ => ?_⟩
    have h1 := Int64.le_iff_toInt_le.mp h.1
    have h2 := Int64.le_iff_toInt_le.mp h.2
    rw [Int32.toInt_toInt64] at h1 h2
    rw [Int32.toInt_toInt64] at h2
    have e0 : (0 : Int64).toInt = 0 := by decide
    exact ⟨by omega, by omega⟩
  · exact ⟨b01, fun h => absurd rfl h⟩
theorem t_Model_isOf {p0 : Int32} {p1 : Int32} {g : Mem}  : T (sp_Model_isOf p0 p1 g) (fun r => B 0 1 r) := by
  unfold sp_Model_isOf
  refine T.cond (fun c1 => ?_) (fun c1 => ?_)
  · exact T.some' (show B 0 1 (1 : Int32) from (B.wk (show B 1 1 (1 : Int32) from ⟨by decide, by decide⟩) (by decide)))
  · exact T.some' (show B 0 1 (0 : Int32) from (B.wk (show B 0 0 (0 : Int32) from ⟨by decide, by decide⟩) (by decide)))
theorem t_Model_isMonk {z : Zt} {p0 : Int32} {g : Mem} (hI : Inv z g) : T (sp_Model_isMonk p0 g) (fun r => B 0 1 r ∧ (¬ r = 0 → B 0 5 p0)) := by
  unfold sp_Model_isMonk
  have h1 : B 1 1 (1 : Int32) := ⟨by decide, by decide⟩
  refine T.rdK 0 (P := fun z => B 0 6 z) (by decide) rfl hI.told0 (fun v1 hv1 => ?_)
  have hq : B (-1) 5 (v1 - 1) := B.sub hv1 h1 (by decide)
  refine T.callB t_Model_isIn2 (fun v2 hv2 => ?_)
  unfold bl
  rw [if_pos hv2.1.boo]
  refine T.some' ⟨hv2.1, fun h => ?_⟩
  have := hv2.2 h
  exact ⟨this.1, by have := hq.2; omega⟩
theorem t_Model_isEntry {z : Zt} {p0 : Int32} {g : Mem} (hI : Inv z g) : T (sp_Model_isEntry p0 g) (fun r => B 0 1 r ∧ (¬ r = 0 → B 0 23 p0)) := by
  unfold sp_Model_isEntry
  have h1 : B 1 1 (1 : Int32) := ⟨by decide, by decide⟩
  have hq : B (-1) 23 (g 54 26 - 1) := B.sub hI.many h1 (by decide)
  refine T.callB t_Model_isIn2 (fun v2 hv2 => ?_)
  unfold bl
  rw [if_pos hv2.1.boo]
  refine T.some' ⟨hv2.1, fun h => ?_⟩
  have := hv2.2 h
  exact ⟨this.1, by have := hq.2; omega⟩
theorem t_Model_isAbout {p0 : Int32} {g : Mem}  : T (sp_Model_isAbout p0 g) (fun r => B 0 1 r) := by
  unfold sp_Model_isAbout
  refine T.callB (t_Model_isInL (a := 0) (b := 7) (by decide) (by decide)) (fun v1 h1 => ?_)
  refine T.blU h1.1 (fun v2 h2 => ?_)
  exact T.some' (show B 0 1 v2 from h2)
theorem Inv.tape1 {t1 t2 x : Int32} {f : Nat → Int32} {g : Mem} (h : Inv (t1, t2, f) g) : Inv (x, t2, f) (mset g 0 1 x) := by
  obtain ⟨⟨a1, a3⟩, a2, ac, rest⟩ := h
  have hne : ∀ q, q ≠ 0 → mset g 0 1 x q = g q := fun q hq => mset_rowF g 1 x hq
  have hc0 : ∀ c ∈ cons, c.1 ≠ 0 := by decide
  refine ⟨⟨by rw [mset_get, if_pos ⟨rfl, rfl⟩], by rw [hne 3 (by decide)]; exact a3⟩, by rw [hne 54 (by decide)]; exact a2, fun c hm => by rw [hne _ (hc0 c hm)]; exact ac c hm, ?_⟩
  rw [hne 7 (by decide), hne 18 (by decide), hne 32 (by decide), hne 27 (by decide), hne 34 (by decide), hne 62 (by decide), hne 67 (by decide), hne 70 (by decide), hne 73 (by decide), hne 74 (by decide), hne 58 (by decide), hne 63 (by decide)]
  exact rest
theorem Inv.tape2 {t1 t2 x : Int32} {f : Nat → Int32} {g : Mem} (h : Inv (t1, t2, f) g) : Inv (t1, x, f) (mset g 54 12 x) := by
  obtain ⟨⟨a1, a3⟩, a2, ac, rest⟩ := h
  have hne : ∀ q, q ≠ 54 → mset g 54 12 x q = g q := fun q hq => mset_rowF g 12 x hq
  have hc0 : ∀ c ∈ cons, ¬ (c.1 = 54 ∧ c.2.1 = 12) := by decide
  refine ⟨⟨by rw [hne 0 (by decide)]; exact a1, by rw [hne 3 (by decide)]; exact a3⟩, by rw [mset_get, if_pos ⟨rfl, rfl⟩], fun c hm => by rw [mset_get, if_neg (hc0 c hm)]; exact ac c hm, ?_⟩
  rw [hne 7 (by decide), hne 18 (by decide), hne 32 (by decide), hne 27 (by decide), hne 34 (by decide), hne 62 (by decide), hne 67 (by decide), hne 70 (by decide), hne 73 (by decide), hne 74 (by decide), hne 58 (by decide), hne 63 (by decide)]
  exact rest
/-- the length of a tape, and so many bytes more -/
theorem tapeB {t : Int32} {i : Nat} {u : Int} (ht : B 0 u t) (hu : u + i ≤ 2147483647) (hi : i < 2 ^ 31) : (t + nI i).toInt = t.toInt + i := by
  have e := nI_toInt hi
  have hb : B (i : Int) (i : Int) (nI i) := ⟨by omega, by omega⟩
  rw [B.add_eq ht hb ⟨by omega, by omega⟩, e]
theorem t_Model_feed {t1 t2 : Int32} {f : Nat → Int32} {F : Nat} {p0 p1 p2 p3 p4 : Int32} {g : Mem} (hF : 4294967296 < F) (ht : B 0 700 t2) (hI : Inv (t1, t2, f) g) : T (sp_Model_feed F p0 p1 p2 p3 p4 g) (fun r => (t2 + 20 ≤ 700 → r.1 = t2 + 20 ∧ Inv (t1, t2 + 20, f) r.2) ∧ (¬ t2 + 20 ≤ 700 → r.1 = -1 ∧ Inv (t1, t2, f) r.2)) := by
  unfold sp_Model_feed
  have i0 : Inv (t1, t2, f) (mset g 54 3 0) := hI.fre rfl
  have e12 : mset g 54 3 0 54 12 = t2 := i0.2.1
  rw [e12]
  refine T.cond (fun c => ?_) (fun c => T.some' ⟨fun h => absurd h c, fun _ => ⟨rfl, i0⟩⟩)
  have t20 : (t2 + 20).toInt = t2.toInt + 20 := tapeB (i := 20) ht (by decide) (by decide)
  have c' := ile.mp c
  rw [t20, show (700 : Int32).toInt = 700 from by decide] at c'
  refine T.callB (P := fun m => Inv (t1, t2 + 20, f) m) ?_ (fun x hx => T.some' ⟨fun _ => ⟨hx.2.1, hx⟩, fun h => absurd c h⟩)
  refine T.cnt 20 (fun i s => s.1 = nI i ∧ Inv (t1, t2 + nI i, f) s.2) ?_ ?_ 20 0 _ F (by omega) ⟨rfl, ?_⟩ (by omega)
  · rintro i ⟨b, m⟩ hi ⟨hb, hm⟩
    dsimp only at hb hm
    subst hb
    have ti := tapeB (i := i) ht (by omega) (by omega)
    have j76 : ∀ (y : Int32), T (sp_Model_feed_j76_23 F p0 p1 p2 p3 p4 p0 p1 p2 p3 p4 g m (nI i) y) (fun r => (∃ s', r = .inl s' ∧ s'.1 = nI (i + 1) ∧ Inv (t1, t2 + nI (i + 1), f) s'.2) ∨ ∃ x, r = .inr x ∧ Inv (t1, t2 + 20, f) x) := fun y => by
      unfold sp_Model_feed_j76_23
      refine T.rmU (by decide) (fun v7 => ?_)
      have e1 : m 54 12 = t2 + nI i := hm.2.1
      have bi : B 0 699 (m 54 12) := by
        rw [e1]
        exact ⟨by rw [ti]; have := ht.1; omega, by rw [ti]; omega⟩
      refine T.wrI (I := fun m' => Inv (t1, t2 + nI i, f) m') (B.ib bi (by decide)) (hm.fra rfl) (fun g8 h8 => ?_)
      refine T.some' (Or.inl ⟨_, rfl, nI_1 i, ?_⟩)
      have e2 : g8 54 12 + 1 = t2 + nI (i + 1) := by
        rw [h8.2.1, ← nI_1, Int32.add_assoc]
      rw [e2]
      exact h8.tape2
    unfold st_Model_feed_23
    dsimp only
    refine T.neg (nI_ge hi (by decide)) ?_
    refine T.cond (fun _ => ?_) (fun _ => j76 _)
    refine T.cond (fun _ => ?_) (fun _ => j76 _)
    refine T.cond (fun _ => ?_) (fun _ => j76 _)
    exact T.cond (fun _ => j76 _) (fun _ => j76 _)
  · rintro ⟨b, m⟩ ⟨hb, hm⟩
    dsimp only at hb hm
    subst hb
    unfold st_Model_feed_23
    dsimp only
    exact T.pos (nI_le (Nat.le_refl _) (by decide)) (T.some' ⟨_, rfl, hm⟩)
  · show Inv (t1, t2 + nI 0, f) (mset g 54 3 0)
    rw [show t2 + nI 0 = t2 from Int32.add_zero t2]
    exact i0
theorem t_Model_mayHave {p0 : Int32} {p1 : Int32} {g : Mem}  : T (sp_Model_mayHave p0 p1 g) (fun r => B (-2147483648) 2147483647 r) := by
  unfold sp_Model_mayHave
  refine T.cond (fun c1 => ?_) (fun c1 => ?_)
  · have f2 : B 2 2 (p0) := B.eql c1 (B.any p0) (show B 2 2 (2 : Int32) from ⟨by decide, by decide⟩) (by decide)
    exact T.some' (show B (-2147483648) 2147483647 (0 : Int32) from (B.any (0 : Int32)))
  · refine T.cond (fun c3 => ?_) (fun c3 => ?_)
    · have f4 : B 1 1 (p0) := B.eql c3 (B.any p0) (show B 1 1 (1 : Int32) from ⟨by decide, by decide⟩) (by decide)
      refine T.callB (t_JMath_min ) (fun v3 h5 => ?_)
      exact T.some' (show B (-2147483648) 2147483647 v3 from (B.any v3))
    · exact T.some' (show B (-2147483648) 2147483647 p1 from (B.any p1))
theorem MIq.wr {z : Zt} {g : Mem} {p j : Nat} {x : Int32} (h : MIq z g) (hp : freeP p = true) (h54 : 54 ≠ p) : MIq z (mset g p j x) := ⟨h.1.fra hp, by rw [mset_rowF g j x h54]; exact h.2⟩
theorem MIq.en {z : Zt} {g : Mem} {j : Nat} {x : Int32} (h : MIq z g) (hx : j % 9 = 1 → B 0 5 x) : MIq z (mset g 62 j x) := ⟨h.1.enR (EN_up h.1.en hx), by rw [mset_rowF g j x (by decide)]; exact h.2⟩
theorem MIq.t58 {z : Zt} {g : Mem} {j : Nat} {x : Int32} (h : MIq z g) (hj : j = 7 ∨ j = 8 ∨ j = 9 ∨ (j = 6 ∧ B 0 6 x) ∨ (j = 10 ∧ B 0 24 x)) : MIq z (mset g 58 j x) := by
  refine ⟨?_, by rw [mset_rowF g j x (by decide)]; exact h.2⟩
  obtain ⟨o1, o2, o3, o4, o5, o6, o7⟩ := h.1.to
  have r58 : ∀ i, i ≠ j → mset g 58 j x 58 i = g 58 i := fun i hi => by rw [m58, if_neg hi]
  have r58b : mset g 58 j x 58 j = x := by rw [m58, if_pos rfl]
  refine h.1.re58 (fun q h1 _ => mset_rowF _ _ _ h1) ⟨by rw [r58 0 (by omega)]; exact o1, by rw [r58 3 (by omega)]; exact o2, by rw [r58 4 (by omega)]; exact o3, by rw [r58 5 (by omega)]; exact o4, ?_, ?_, by rw [r58 11 (by omega)]; exact o7⟩ (h.1.2.2.2.2.2.2.2.2.cong h.1.told5 (r58 5 (by omega)) (fun i _ => by rw [mset_rowF g j x (by decide)]))
  · by_cases e : 6 = j
    · subst e
      rw [r58b]
      rcases hj with h | h | h | h | h
      · omega
      · omega
      · omega
      · exact h.2
      · omega
    · rw [r58 6 e]; exact o5
  · by_cases e : 10 = j
    · subst e
      rw [r58b]
      rcases hj with h | h | h | h | h
      · omega
      · omega
      · omega
      · omega
      · exact h.2
    · rw [r58 10 e]; exact o6
/-- what a LINE of a MONK, an ENTRY, a copy leaves as it is -/
def FL (g r : Mem) : Prop := r 63 = g 63 ∧ r 58 11 = g 58 11 ∧ r 58 9 = g 58 9 ∧ r 58 5 = g 58 5
theorem FL.rf {g : Mem} : FL g g := ⟨rfl, rfl, rfl, rfl⟩
theorem FL.tr {g m r : Mem} (h : FL g m) (h' : FL m r) : FL g r := ⟨h'.1.trans h.1, h'.2.1.trans h.2.1, h'.2.2.1.trans h.2.2.1, h'.2.2.2.trans h.2.2.2⟩
theorem FM.l {g r : Mem} (h : FM g r) : FL g r := ⟨h.1 63 (by decide), by rw [h.1 58 (by decide)], by rw [h.1 58 (by decide)], by rw [h.1 58 (by decide)]⟩
theorem FL.ms {g r : Mem} {p j : Nat} {x : Int32} (h : FL g r) (h1 : 63 ≠ p) (h2 : 58 ≠ p) : FL g (mset r p j x) := by
  unfold FL
  rw [mset_rowF r j x h1, mset_rowF r j x h2]
  exact h
theorem FL.w58 {g r : Mem} {j : Nat} {x : Int32} (h : FL g r) (hj : j ≠ 11 ∧ j ≠ 9 ∧ j ≠ 5) : FL g (mset r 58 j x) := by
  unfold FL
  rw [mset_rowF r j x (by decide), m58, if_neg (by omega), m58, if_neg (by omega), m58, if_neg (by omega)]
  exact h
/-- behind a LINE's part -/
def LC (z : Zt) (g r : Mem) : Prop := MIq z r ∧ FL g r ∧ (r 54 19 = 0 → g 54 19 = 0 ∧ (g 54 17).toInt < (r 54 17).toInt)
theorem t_readMonk {z : Zt} {F : Nat} {p0 : Int32} {g : Mem} (hF : 4294967296 < F) (ht : g 54 19 = 0 → ¬ g 54 15 = 0) (h : MIq z g) : T (sp_Model_readMonk F p0 g) (LC z g) := by
  have dead : ∀ (m : Mem), MIq z m → FM g m → ¬ m 54 19 = 0 → T (sp_Model_readMonk_j17 F p0 g m p0) (LC z g) := fun m h1 h2 h3 => by
    unfold sp_Model_readMonk_j17
    exact T.neg h3 (T.some' ⟨h1, h2.l, fun e => absurd e h3⟩)
  unfold sp_Model_readMonk
  refine T.rdK 6 (P := fun q => B 0 6 q ∧ q = g 58 6) (by decide) rfl ⟨h.1.told6, rfl⟩ (fun v1 h1 => ?_)
  refine T.cond (fun c => T.callB (t_wrong (by decide) h) (fun v3 h3 => dead v3 h3.1 h3.2.1 h3.2.2)) (fun c => ?_)
  have b5 : B 0 5 (g 58 6) := by
    rw [← h1.2]
    exact B.nehi c h1.1 (show B 6 6 (6 : Int32) from ⟨by decide, by decide⟩) (by decide)
  by_cases cb : g 54 19 = 0
  · unfold sp_Model_readMonk_j17
    refine T.pos cb ?_
    refine T.callB (h.on hF) (fun v5 h5 => ?_)
    obtain ⟨m5, f5, -, l5, -⟩ := h5
    have l5 := l5 (ht cb)
    refine T.rdK 6 (P := fun q => B 0 5 q) (by decide) rfl (by rw [f5.1 58 (by decide)]; exact b5) (fun v6 b6 => ?_)
    have bi : B 6 11 (6 + v6) := B.add (show B 6 6 (6 : Int32) from ⟨by decide, by decide⟩) b6 (by decide)
    have ib := B.ib (n := 12) bi (by decide)
    refine T.wrI (I := fun m => MIq z m ∧ FL g m ∧ m 58 = g 58 ∧ m 54 = v5 54) ib ⟨m5.wr rfl (by decide), f5.l.ms (by decide) (by decide), (mset_rowF _ _ _ (by decide)).trans (f5.1 58 (by decide)), mset_rowF _ _ _ (by decide)⟩ (fun g7 h7 => ?_)
    obtain ⟨m7, l7, e7, w7⟩ := h7
    refine T.callB (t_readNumber (hi := 99) hF (by decide) (by decide) (by decide) m7) (fun v8 h8 => ?_)
    obtain ⟨b8, m8, f8, q8⟩ := h8
    refine T.wrI (I := fun m => MIq z m ∧ FL g m ∧ m 58 = g 58 ∧ m 54 = v8.2 54) ib ⟨m8.wr rfl (by decide), (l7.tr f8.l).ms (by decide) (by decide), (mset_rowF _ _ _ (by decide)).trans ((f8.1 58 (by decide)).trans e7), mset_rowF _ _ _ (by decide)⟩ (fun g9 h9 => ?_)
    obtain ⟨m9, l9, e9, w9⟩ := h9
    refine T.callB (t_readNumber (hi := 60) hF (by decide) (by decide) (by decide) m9) (fun v10 h10 => ?_)
    obtain ⟨b10, m10, f10, q10⟩ := h10
    refine T.rdU (by decide) (fun v11 => ?_)
    refine T.callB (P := fun _ => True) (T.mono t_Model_mayHave (fun _ _ => trivial)) (fun v12 _ => ?_)
    refine T.callB (P := fun _ => True) (T.mono t_JMath_min (fun _ _ => trivial)) (fun v13 _ => ?_)
    have e10 : v10.2 58 = g 58 := (f10.1 58 (by decide)).trans e9
    refine T.wrI (I := fun m => MIq z m ∧ FL g m ∧ m 58 = g 58 ∧ m 54 = v10.2 54) ib ⟨m10.wr rfl (by decide), (l9.tr f10.l).ms (by decide) (by decide), (mset_rowF _ _ _ (by decide)).trans e10, mset_rowF _ _ _ (by decide)⟩ (fun g14 h14 => ?_)
    obtain ⟨m14, l14, e14, w14⟩ := h14
    refine T.rdK 6 (P := fun q => B 0 5 q) (by decide) rfl (by rw [e14]; exact b5) (fun v15 b15 => ?_)
    refine T.wrB (by decide) (T.some' ?_)
    have b16 : B 0 6 (v15 + 1) := B.add b15 (show B 1 1 (1 : Int32) from ⟨by decide, by decide⟩) (by decide)
    refine ⟨m14.t58 (Or.inr (Or.inr (Or.inr (Or.inl ⟨rfl, b16⟩)))), l14.w58 (by decide), fun e => ?_⟩
    rw [mset_rowF _ _ _ (by decide), w14] at e ⊢
    obtain ⟨a1, a2, -⟩ := q10 e
    rw [w9] at a1 a2
    obtain ⟨c1, c2, -⟩ := q8 a1
    rw [w7] at c2
    exact ⟨cb, by omega⟩
  · exact dead g h FM.rf cb
theorem t_Model_readAt {p0 : Int32} {g : Mem}  : T (sp_Model_readAt p0 g) (fun r => B (-2147483648) 2147483647 r) := by
  unfold sp_Model_readAt
  exact T.some' (show B (-2147483648) 2147483647 (9 * (24 + p0)) from (B.any (9 * (24 + p0))))
theorem rdAt {a : Nat} {g : Mem} : sp_Model_readAt (nI a) g = some (nI (9 * (24 + a))) := by
  unfold sp_Model_readAt
  rw [show (24 : Int32) + nI a = nI (24 + a) from nI_add 24 a, show (9 : Int32) * nI (24 + a) = nI (9 * (24 + a)) from (Int32.ofNat_mul 9 (24 + a)).symm]
theorem t_anotherEntry {z : Zt} {F : Nat} {g : Mem} (hF : 4294967296 < F) (ht : g 54 19 = 0 → ¬ g 54 15 = 0) (h : MIq z g) : T (sp_Model_anotherEntry F g) (fun r => MIq z r.2 ∧ FM g r.2 ∧ ((r.1 = 0 ∧ ¬ r.2 54 19 = 0) ∨ (r.1 = 1 ∧ g 54 19 = 0 ∧ (g 54 17).toInt < (r.2 54 17).toInt ∧ B 0 23 (g 58 10)))) := by
  have dead : ∀ (m : Mem), MIq z m → FM g m → ¬ m 54 19 = 0 → T (sp_Model_anotherEntry_j17 F g m) (fun r => MIq z r.2 ∧ FM g r.2 ∧ ((r.1 = 0 ∧ ¬ r.2 54 19 = 0) ∨ (r.1 = 1 ∧ g 54 19 = 0 ∧ (g 54 17).toInt < (r.2 54 17).toInt ∧ B 0 23 (g 58 10)))) := fun m h1 h2 h3 => by
    unfold sp_Model_anotherEntry_j17
    exact T.neg h3 (T.some' ⟨h1, h2, Or.inl ⟨rfl, h3⟩⟩)
  unfold sp_Model_anotherEntry
  refine T.rdK 10 (P := fun q => B 0 24 q ∧ q = g 58 10) (by decide) rfl ⟨h.1.told10, rfl⟩ (fun v1 h1 => ?_)
  refine T.cond (fun c => T.callB (t_wrong (by decide) h) (fun v3 h3 => dead v3 h3.1 h3.2.1 h3.2.2)) (fun c => ?_)
  have b23 : B 0 23 (g 58 10) := by
    rw [← h1.2]
    exact B.nehi c h1.1 (show B 24 24 (24 : Int32) from ⟨by decide, by decide⟩) (by decide)
  by_cases cb : g 54 19 = 0
  · unfold sp_Model_anotherEntry_j17
    exact T.pos cb (T.callB (h.on hF) (fun v5 h5 => T.some' ⟨h5.1, h5.2.1, Or.inr ⟨rfl, cb, h5.2.2.2.1 (ht cb), b23⟩⟩))
  · exact dead g h FM.rf cb
/-- inside a LINE: the memory is well, the same cells stand, no FAULT is taken away, the reader goes on -/
def LD (z : Zt) (g : Mem) (m : Mem) : Prop := MIq z m ∧ FL g m ∧ m 58 = g 58 ∧ (m 54 19 = 0 → g 54 19 = 0 ∧ (g 54 17).toInt < (m 54 17).toInt)
theorem LD.en {z : Zt} {g m : Mem} {j : Nat} {x : Int32} (h : LD z g m) (hx : j % 9 = 1 → B 0 5 x) : LD z g (mset m 62 j x) := by
  refine ⟨h.1.en hx, h.2.1.ms (by decide) (by decide), (mset_rowF _ _ _ (by decide)).trans h.2.2.1, ?_⟩
  rw [mset_rowF _ _ _ (by decide)]
  exact h.2.2.2
theorem LD.fm {z : Zt} {g m r : Mem} (h : LD z g m) (hm : MIq z r) (hf : FM m r) (hb : r 54 19 = 0 → m 54 19 = 0 ∧ (m 54 17).toInt ≤ (r 54 17).toInt) : LD z g r := ⟨hm, h.2.1.tr hf.l, (hf.1 58 (by decide)).trans h.2.2.1, fun e => by
  have h1 := hb e
  have h2 := h.2.2.2 h1.1
  exact ⟨h2.1, by omega⟩⟩
theorem t_readEntry {z : Zt} {F : Nat} {p0 : Int32} {g : Mem} (hF : 4294967296 < F) (ht : g 54 19 = 0 → ¬ g 54 15 = 0) (h : MIq z g) : T (sp_Model_readEntry F p0 g) (LC z g) := by
  unfold sp_Model_readEntry
  refine T.callB (t_anotherEntry hF ht h) (fun v1 h1 => ?_)
  obtain ⟨m1, f1, w1⟩ := h1
  rcases w1 with ⟨e1, e2⟩ | ⟨e1, e2, e3, b23⟩
  · exact T.pos e1 (T.some' ⟨m1, f1.l, fun e => absurd e e2⟩)
  refine T.neg (by rw [e1]; decide) ?_
  obtain ⟨a, ha1, ha2, ha3, ha4⟩ := b23.ex (by decide)
  have d1 : LD z g v1.2 := ⟨m1, f1.l, f1.1 58 (by decide), fun _ => ⟨e2, e3⟩⟩
  have r10 : ∀ (m : Mem), m 58 = g 58 → rd m 58 12 10 = some (nI a) := fun m hm => by
    unfold rd
    rw [if_pos (by decide), show (10 : Int32).toNatClampNeg = 10 from rfl, hm, ha2]
  refine T.eqB (r10 _ d1.2.2.1) ?_
  refine T.eqB rdAt ?_
  have ci : ∀ (c : Nat), c < 9 → nI (9 * (24 + a)) + nI c = nI (9 * (24 + a) + c) ∧ inb (nI (9 * (24 + a) + c)) 432 = true ∧ (nI (9 * (24 + a) + c)).toNatClampNeg = 9 * (24 + a) + c := fun c hc => ⟨nI_add _ _, inb_nI (by omega) (by decide), nI_clamp (by omega)⟩
  have put : ∀ (m : Mem) (c : Nat) (v : Int32), c < 9 → LD z g m → (c = 1 → B 0 5 v) → LD z g (mset m 62 (nI (9 * (24 + a) + c)).toNatClampNeg v) := fun m c v hc hm hv => by
    rw [(ci c hc).2.2]
    exact hm.en (fun hj => hv (by omega))
  have num : ∀ (m : Mem) (p q : Int32) (hi : Int), 0 ≤ p.toInt → q.toInt ≤ hi → 0 ≤ hi → LD z g m → T (sp_Model_readNumber F p q m) (fun r => B 0 hi r.1 ∧ LD z g r.2) := fun m p q hi hp hq hh hm => T.mono (t_readNumber hF hp hq hh hm.1) (fun r hr => ⟨hr.1, hm.fm hr.2.1 hr.2.2.1 (fun e => by have := hr.2.2.2 e; exact ⟨this.1, by omega⟩)⟩)
  -- the last two cells, the count
  have j171 : ∀ (m : Mem), LD z g m → T (sp_Model_readEntry_j171 F p0 g m (nI (9 * (24 + a)))) (LC z g) := fun m hm => by
    unfold sp_Model_readEntry_j171
    refine T.eqB (r10 m hm.2.2.1) ?_
    rw [show nI (9 * (24 + a)) + 7 = nI (9 * (24 + a) + 7) from (ci 7 (by decide)).1, show nI (9 * (24 + a)) + 8 = nI (9 * (24 + a) + 8) from (ci 8 (by decide)).1]
    refine T.wrI (I := LD z g) (ci 7 (by decide)).2.1 (put m 7 _ (by decide) hm (fun e => by omega)) (fun g25 h25 => ?_)
    refine T.wrI (I := LD z g) (ci 8 (by decide)).2.1 (put g25 8 _ (by decide) h25 (fun e => by omega)) (fun g26 h26 => ?_)
    refine T.eqB (r10 g26 h26.2.2.1) ?_
    refine T.wrB (by decide) (T.some' ?_)
    have b1 : B 0 24 (nI a + 1) := by
      rw [nI_1]
      exact ⟨by rw [nI_toInt (by omega)]; omega, by rw [nI_toInt (by omega)]; omega⟩
    refine ⟨h26.1.t58 (Or.inr (Or.inr (Or.inr (Or.inr ⟨rfl, b1⟩)))), h26.2.1.w58 (by decide), ?_⟩
    rw [mset_rowF _ _ _ (by decide)]
    exact h26.2.2.2
  have j153 : ∀ (m : Mem) (t : Int32), LD z g m → (t = 1 → m 54 19 = 0 ∧ ¬ m 54 15 = 0) → (t = 0 ∨ t = 1) → T (sp_Model_readEntry_j153 F p0 g m (nI (9 * (24 + a))) t (nI (9 * (24 + a)) + 6)) (LC z g) := fun m t hm ht1 ht2 => by
    unfold sp_Model_readEntry_j153
    rw [show nI (9 * (24 + a)) + 6 = nI (9 * (24 + a) + 6) from (ci 6 (by decide)).1]
    refine T.wrB (ci 6 (by decide)).2.1 ?_
    have h20 := put m 6 t (by decide) hm (fun e => by omega)
    have e20 : mset m 62 (nI (9 * (24 + a) + 6)).toNatClampNeg t 54 = m 54 := mset_rowF _ _ _ (by decide)
    refine T.rdB (ci 6 (by decide)).2.1 ?_
    rw [show mset m 62 (nI (9 * (24 + a) + 6)).toNatClampNeg t 62 (nI (9 * (24 + a) + 6)).toNatClampNeg = t by rw [mset_get, if_pos ⟨rfl, rfl⟩]]
    refine T.cond (fun c => ?_) (fun c => j171 _ h20)
    refine T.callB (h20.1.on hF) (fun v23 h23 => j171 v23 (h20.fm h23.1 h23.2.1 (fun e => ⟨by rw [e20]; exact (ht1 c).1, h23.2.2.1⟩)))
  have j131 : ∀ (m : Mem), LD z g m → T (sp_Model_readEntry_j131 F p0 g m (nI (9 * (24 + a)))) (LC z g) := fun m hm => by
    unfold sp_Model_readEntry_j131
    refine T.callB (t_is hF hm.1) (fun v18 h18 => ?_)
    refine T.cond (fun c => j153 m 0 hm (fun e => absurd e (by decide)) (Or.inl rfl)) (fun c => j153 m 1 hm (fun _ => ?_) (Or.inr rfl))
    have w := h18.2 c
    exact ⟨w.1, fun e => by have h9 := w.2; rw [e] at h9; exact absurd h9 (by decide)⟩
  rw [show nI (9 * (24 + a)) + 0 = nI (9 * (24 + a) + 0) from (ci 0 (by decide)).1]
  refine T.wrI (I := LD z g) (ci 0 (by decide)).2.1 (put v1.2 0 _ (by decide) d1 (fun e => by omega)) (fun g5 h5 => ?_)
  refine T.rdK 6 (P := fun q => B 0 6 q) (by decide) rfl h5.1.1.told6 (fun v6 b6 => ?_)
  refine T.callB (P := fun r => B 0 5 r.1 ∧ LD z g r.2) (T.mono (t_readOne (hi := 6) hF b6.2 (by decide) h5.1) (fun r hr => ⟨hr.1, h5.fm hr.2.1 hr.2.2.1 (fun e => by have := hr.2.2.2 e; exact ⟨this.1, by omega⟩)⟩)) (fun v7 h7 => ?_)
  rw [show nI (9 * (24 + a)) + 1 = nI (9 * (24 + a) + 1) from (ci 1 (by decide)).1]
  refine T.wrI (I := LD z g) (ci 1 (by decide)).2.1 (put v7.2 1 _ (by decide) h7.2 (fun _ => h7.1)) (fun g8 h8 => ?_)
  refine T.callB (num g8 0 60 60 (by decide) (by decide) (by decide) h8) (fun v9 h9 => ?_)
  rw [show nI (9 * (24 + a)) + 2 = nI (9 * (24 + a) + 2) from (ci 2 (by decide)).1]
  refine T.wrI (I := LD z g) (ci 2 (by decide)).2.1 (put v9.2 2 _ (by decide) h9.2 (fun e => by omega)) (fun g10 h10 => ?_)
  refine T.callB (num g10 0 7 7 (by decide) (by decide) (by decide) h10) (fun v11 h11 => ?_)
  rw [show nI (9 * (24 + a)) + 3 = nI (9 * (24 + a) + 3) from (ci 3 (by decide)).1]
  refine T.wrI (I := LD z g) (ci 3 (by decide)).2.1 (put v11.2 3 _ (by decide) h11.2 (fun e => by omega)) (fun g12 h12 => ?_)
  refine T.callB (num g12 0 999 999 (by decide) (by decide) (by decide) h12) (fun v13 h13 => ?_)
  rw [show nI (9 * (24 + a)) + 4 = nI (9 * (24 + a) + 4) from (ci 4 (by decide)).1]
  refine T.wrI (I := LD z g) (ci 4 (by decide)).2.1 (put v13.2 4 _ (by decide) h13.2 (fun e => by omega)) (fun g14 h14 => ?_)
  rw [show nI (9 * (24 + a)) + 5 = nI (9 * (24 + a) + 5) from (ci 5 (by decide)).1]
  refine T.wrI (I := LD z g) (ci 5 (by decide)).2.1 (put g14 5 _ (by decide) h14 (fun e => by omega)) (fun g15 h15 => ?_)
  refine T.callB (t_is hF h15.1) (fun v16 h16 => ?_)
  refine T.cond (fun c => j131 g15 h15) (fun c => ?_)
  refine T.callB (h15.1.on hF) (fun v29 h29 => ?_)
  have d29 := h15.fm h29.1 h29.2.1 (fun _ => ⟨(h16.2 c).1, h29.2.2.1⟩)
  refine T.callB (num v29 0 7 7 (by decide) (by decide) (by decide) d29) (fun v30 h30 => ?_)
  exact T.wrI (I := LD z g) (ci 5 (by decide)).2.1 (put v30.2 5 _ (by decide) h30.2 (fun e => by omega)) (fun g31 h31 => j131 g31 h31)
theorem t_readCopy {z : Zt} {F : Nat} {g : Mem} (hF : 4294967296 < F) (ht : g 54 19 = 0 → ¬ g 54 15 = 0) (h : MIq z g) : T (sp_Model_readCopy F g) (LC z g) := by
  unfold sp_Model_readCopy
  refine T.callB (t_anotherEntry hF ht h) (fun v1 h1 => ?_)
  obtain ⟨m1, f1, w1⟩ := h1
  rcases w1 with ⟨e1, e2⟩ | ⟨e1, e2, e3, b23⟩
  · exact T.pos e1 (T.some' ⟨m1, f1.l, fun e => absurd e e2⟩)
  refine T.neg (by rw [e1]; decide) ?_
  obtain ⟨a, ha1, ha2, ha3, ha4⟩ := b23.ex (by decide)
  have d1 : LD z g v1.2 := ⟨m1, f1.l, f1.1 58 (by decide), fun _ => ⟨e2, e3⟩⟩
  have r10 : ∀ (m : Mem), m 58 = g 58 → rd m 58 12 10 = some (nI a) := fun m hm => by
    unfold rd
    rw [if_pos (by decide), show (10 : Int32).toNatClampNeg = 10 from rfl, hm, ha2]
  refine T.eqB (r10 _ d1.2.2.1) ?_
  refine T.callB (P := fun r => B 0 23 r.1 ∧ LD z g r.2) (T.mono (t_readOne (hi := 24) hF (by rw [nI_toInt ha1]; omega) (by decide) d1.1) (fun r hr => ⟨hr.1, d1.fm hr.2.1 hr.2.2.1 (fun e => by have := hr.2.2.2 e; exact ⟨this.1, by omega⟩)⟩)) (fun v4 h4 => ?_)
  obtain ⟨b4, d4⟩ := h4
  obtain ⟨b, hb1, hb2, hb3, hb4⟩ := b4.ex (by decide)
  rw [hb2]
  refine T.eqB rdAt ?_
  refine T.rdK 6 (P := fun q => B 0 6 q) (by decide) rfl d4.1.1.told6 (fun v6 b6 => ?_)
  refine T.callB (t_oneNow (hi := 6) b6.2 (by decide) d4.1) (fun v7 h7 => ?_)
  obtain ⟨b7, m7, f7, q7⟩ := h7
  have ci : ∀ (x c : Nat), x ≤ 23 → c < 9 → nI (9 * (24 + x)) + nI c = nI (9 * (24 + x) + c) ∧ inb (nI (9 * (24 + x) + c)) 432 = true ∧ (nI (9 * (24 + x) + c)).toNatClampNeg = 9 * (24 + x) + c := fun x c hx hc => ⟨nI_add _ _, inb_nI (by omega) (by decide), nI_clamp (by omega)⟩
  refine T.callB (P := fun m => MIq z m ∧ FM v7.2 m ∧ (m 54 19 = 0 → m = v7.2)) ?_ (fun x19 h19 => ?_)
  · refine T.lpc (J := fun s => B 0 24 s.1 ∧ MIq z s.2 ∧ FM v7.2 s.2 ∧ (s.2 54 19 = 0 → s.2 = v7.2)) (fun s => s.1) 0 24 (by decide) (fun s h => h.1) (fun s hs => ?_) F _ ⟨(show B 0 24 (0 : Int32) from ⟨by decide, by decide⟩), m7, FM.rf, fun _ => rfl⟩ hF
    obtain ⟨s1, s2, s3, s4⟩ := hs
    unfold st_Model_readCopy_37
    refine T.rdK 10 (P := fun q => B 0 24 q) (by decide) rfl s2.1.told10 (fun v8 b8 => ?_)
    refine T.cond (fun c => T.some' ⟨s2, s3, s4⟩) (fun c => ?_)
    have bs : B 0 23 s.1 := B.nler c b8 s1 (by decide)
    have bn : B 0 24 (s.1 + 1) := B.add bs (show B 1 1 (1 : Int32) from ⟨by decide, by decide⟩) (by decide)
    refine T.cond (fun c2 => ?_) (fun c2 => T.some' ⟨s2, s3, s4⟩)
    obtain ⟨x, hx1, hx2, hx3, hx4⟩ := bs.ex (by decide)
    have same : T (some (Sum.inl (s.1 + 1, s.2))) (LQ (fun s => B 0 24 s.1 ∧ MIq z s.2 ∧ FM v7.2 s.2 ∧ (s.2 54 19 = 0 → s.2 = v7.2)) (fun m => MIq z m ∧ FM v7.2 m ∧ (m 54 19 = 0 → m = v7.2)) (fun s => s.1) s.1) := T.some' (show (B 0 24 (s.1 + 1) ∧ MIq z s.2 ∧ FM v7.2 s.2 ∧ (s.2 54 19 = 0 → s.2 = v7.2)) ∧ s.1 + 1 = s.1 + 1 from ⟨⟨bn, s2, s3, s4⟩, rfl⟩)
    refine T.eqB (by rw [hx2]; exact rdAt) ?_
    rw [show nI (9 * (24 + x)) + 7 = nI (9 * (24 + x) + 7) from (ci x 7 (by omega) (by decide)).1, show nI (9 * (24 + b)) + 7 = nI (9 * (24 + b) + 7) from (ci b 7 (by omega) (by decide)).1]
    refine T.rdU (ci x 7 (by omega) (by decide)).2.1 (fun v12 => T.rdU (ci b 7 (by omega) (by decide)).2.1 (fun v13 => ?_))
    refine T.cond (fun c3 => ?_) (fun c3 => same)
    refine T.eqB (by rw [hx2]; exact rdAt) ?_
    rw [show nI (9 * (24 + x)) + 1 = nI (9 * (24 + x) + 1) from (ci x 1 (by omega) (by decide)).1]
    refine T.rdU (ci x 1 (by omega) (by decide)).2.1 (fun v16 => ?_)
    refine T.cond (fun c4 => ?_) (fun c4 => same)
    exact T.callB (t_wrong (by decide) s2) (fun v18 h18 => T.some' (show (B 0 24 (s.1 + 1) ∧ MIq z v18 ∧ FM v7.2 v18 ∧ (v18 54 19 = 0 → v18 = v7.2)) ∧ s.1 + 1 = s.1 + 1 from ⟨⟨bn, h18.1, s3.tr h18.2.1, fun e => absurd e h18.2.2⟩, rfl⟩))
  · obtain ⟨m19, f19, q19⟩ := h19
    have d19 : LD z g x19 := d4.fm m19 (f7.tr f19) (fun e => by
      have e9 := q19 e
      rw [e9] at e
      have w := q7 e
      exact ⟨w.1, by rw [e9, w.2.2.1]; exact Int.le_refl _⟩)
    have j116 : ∀ (m : Mem), LD z g m → T (sp_Model_readCopy_j116 F g m (nI (9 * (24 + b))) v7.1) (LC z g) := fun m hm => by
      unfold sp_Model_readCopy_j116
      refine T.callB (P := fun r => B 0 60 r.1 ∧ LD z g r.2) (T.mono (t_readNumber (hi := 60) hF (by decide) (by decide) (by decide) hm.1) (fun r hr => ⟨hr.1, hm.fm hr.2.1 hr.2.2.1 (fun e => by have := hr.2.2.2 e; exact ⟨this.1, by omega⟩)⟩)) (fun v22 h22 => ?_)
      obtain ⟨-, d22⟩ := h22
      refine T.cond (fun c => ?_) (fun c => T.some' ⟨d22.1, d22.2.1, d22.2.2.2⟩)
      refine T.eqB (r10 _ d22.2.2.1) ?_
      refine T.eqB rdAt ?_
      have put : ∀ (m : Mem) (c : Nat) (v : Int32), c < 9 → LD z g m → (c = 1 → B 0 5 v) → LD z g (mset m 62 (nI (9 * (24 + a) + c)).toNatClampNeg v) := fun m c v hc hm hv => by
        rw [(ci a c (by omega) hc).2.2]
        exact hm.en (fun hj => hv (by omega))
      refine T.callB (P := LD z g) ?_ (fun x29 d29 => ?_)
      · refine T.cnt 9 (fun i s => s.1 = nI i ∧ LD z g s.2) ?_ ?_ 9 0 _ F (by omega) ⟨rfl, d22⟩ (by omega)
        · rintro i ⟨e, m⟩ hi ⟨he, hm⟩
          dsimp only at he hm
          subst he
          unfold st_Model_readCopy_147
          dsimp only
          refine T.neg (nI_ge hi (by decide)) ?_
          rw [(ci b i (by omega) hi).1, (ci a i (by omega) hi).1]
          refine T.rdK (9 * (24 + b) + i) (P := fun q => i = 1 → B 0 5 q) (ci b i (by omega) hi).2.1 (ci b i (by omega) hi).2.2 (fun e => hm.1.1.en _ (by omega)) (fun v27 h27 => ?_)
          exact T.wrI (I := LD z g) (ci a i (by omega) hi).2.1 (put m i v27 hi hm h27) (fun g28 h28 => T.some' (Or.inl ⟨_, rfl, nI_1 i, h28⟩))
        · rintro ⟨e, m⟩ ⟨he, hm⟩
          dsimp only at he hm
          subst he
          unfold st_Model_readCopy_147
          dsimp only
          exact T.pos (nI_le (Nat.le_refl _) (by decide)) (T.some' ⟨_, rfl, hm⟩)
      · rw [show nI (9 * (24 + a)) + 1 = nI (9 * (24 + a) + 1) from (ci a 1 (by omega) (by decide)).1, show nI (9 * (24 + a)) + 2 = nI (9 * (24 + a) + 2) from (ci a 2 (by omega) (by decide)).1, show nI (9 * (24 + a)) + 6 = nI (9 * (24 + a) + 6) from (ci a 6 (by omega) (by decide)).1]
        refine T.wrI (I := LD z g) (ci a 1 (by omega) (by decide)).2.1 (put x29 1 _ (by decide) d29 (fun _ => b7)) (fun g30 h30 => ?_)
        refine T.wrI (I := LD z g) (ci a 2 (by omega) (by decide)).2.1 (put g30 2 _ (by decide) h30 (fun e => by omega)) (fun g31 h31 => ?_)
        refine T.wrI (I := LD z g) (ci a 6 (by omega) (by decide)).2.1 (put g31 6 _ (by decide) h31 (fun e => by omega)) (fun g32 h32 => ?_)
        refine T.eqB (r10 g32 h32.2.2.1) ?_
        refine T.wrB (by decide) (T.some' ?_)
        have b1 : B 0 24 (nI a + 1) := by
          rw [nI_1]
          exact ⟨by rw [nI_toInt (by omega)]; omega, by rw [nI_toInt (by omega)]; omega⟩
        refine ⟨h32.1.t58 (Or.inr (Or.inr (Or.inr (Or.inr ⟨rfl, b1⟩)))), h32.2.1.w58 (by decide), ?_⟩
        rw [mset_rowF _ _ _ (by decide)]
        exact h32.2.2.2
    unfold sp_Model_readCopy_j105
    refine T.cond (fun c => ?_) (fun c => j116 x19 d19)
    refine T.callB (m19.on hF) (fun v21 h21 => j116 v21 (d19.fm h21.1 h21.2.1 (fun e => ⟨c, h21.2.2.1⟩)))
def KX (x : Int32) : Prop := x = 0 ∨ x = 1 ∨ x = 2 ∨ x = 4 ∨ x = 8
theorem bits8 {d x : Int32} (hd : B 0 15 d) (hx : KX x) : B 0 15 (d ||| x) ∧ ((d ||| x) &&& 8 = 0 → d &&& 8 = 0 ∧ ¬ x = 8) ∧ (x = 8 → x &&& d = 0 → d &&& 8 = 0) := by
  obtain ⟨e, he1, he2, he3, he4⟩ := hd.ex (by decide)
  subst he2
  have key : ∀ e : Nat, e < 16 → ∀ x ∈ [(0 : Int32), 1, 2, 4, 8], (0 ≤ (nI e ||| x).toInt ∧ (nI e ||| x).toInt ≤ 15) ∧ ((nI e ||| x) &&& 8 = 0 → nI e &&& 8 = 0 ∧ ¬ x = 8) ∧ (x = 8 → x &&& nI e = 0 → nI e &&& 8 = 0) := by decide +kernel
  refine key e (by omega) x ?_
  unfold KX at hx
  simp only [List.mem_cons, List.mem_nil_iff, or_false]
  exact hx
/-- between LINES: the rule's signs, and whether they were told -/
def AI (z : Zt) (d : Int32) (s : Mem) : Prop := MIq z s ∧ (s 54 19 = 0 → B 1 9 (s 58 9) ∧ ∃ n k : Nat, Ly s n k ∧ (n : Int) ≤ (s 54 17).toInt ∧ (d &&& 8 = 0 → n = 0))
/-- behind a LINE -/
def AC (z : Zt) (g : Mem) (r : Int32 × Mem) : Prop := B 0 15 r.1 ∧ AI z r.1 r.2 ∧ (r.2 54 19 = 0 → g 54 19 = 0 ∧ (g 54 17).toInt < (r.2 54 17).toInt)
theorem t_readLine {z : Zt} {F : Nat} {p0 : Int32} {g : Mem} (hF : 4294967296 < F) (hd : B 0 15 p0) (h : AI z p0 g) (cb : g 54 19 = 0) (ct : ¬ g 54 15 = 0) : T (sp_Model_readLine F p0 g) (AC z g) := by
  obtain ⟨b9, n0, k0, hL0, hn0, hz0⟩ := h.2 cb
  -- the last step: ';'
  have j248 : ∀ (m : Mem) (x : Int32), KX x → MIq z m → (m 54 19 = 0 → (g 54 17).toInt ≤ (m 54 17).toInt ∧ B 1 9 (m 58 9) ∧ ∃ n k : Nat, Ly m n k ∧ (n : Int) ≤ (m 54 17).toInt ∧ (x = 8 ∨ (n = n0))) → T (sp_Model_readLine_j248 F p0 g m p0 x) (AC z g) := fun m x hx hm hq => by
    unfold sp_Model_readLine_j248
    obtain ⟨o1, o2, o3⟩ := bits8 hd hx
    refine T.callB (t_mark hF hm) (fun v h21 => T.some' ⟨o1, ⟨h21.1, fun e => ?_⟩, fun e => ?_⟩)
    · obtain ⟨a1, a2⟩ := h21.2.2 e
      obtain ⟨w1, w2, n, k, w3, w4, w5⟩ := hq a1
      refine ⟨by show B 1 9 (v 58 9); rw [h21.2.1.1 58 (by decide)]; exact w2, n, k, w3.fm h21.2.1, by show (n : Int) ≤ (v 54 17).toInt; omega, fun e8 => ?_⟩
      obtain ⟨u1, u2⟩ := o2 e8
      rcases w5 with w5 | w5
      · exact absurd w5 u2
      · rw [w5]; exact hz0 u1
    · obtain ⟨a1, a2⟩ := h21.2.2 e
      have := (hq a1).1
      exact ⟨cb, by show (g 54 17).toInt < (v 54 17).toInt; omega⟩
  have dead : ∀ (m : Mem) (x : Int32), KX x → MIq z m → ¬ m 54 19 = 0 → T (sp_Model_readLine_j248 F p0 g m p0 x) (AC z g) := fun m x hx hm hb => j248 m x hx hm (fun e => absurd e hb)
  -- a MONK, an ENTRY, a copy
  have ofLC : ∀ (m r : Mem) (x : Int32), KX x → (m 54 19 = 0 → m = g) → LC z m r → T (sp_Model_readLine_j248 F p0 g r p0 x) (AC z g) := fun m r x hx hm hr => j248 r x hx hr.1 (fun e => by
    obtain ⟨a1, a2⟩ := hr.2.2 e
    have em := hm a1
    rw [em] at a2 hr
    obtain ⟨l1, l2, l3, -⟩ := hr.2.1
    refine ⟨by omega, by rw [l3]; exact b9, n0, k0, ?_, by omega, Or.inr rfl⟩
    unfold Ly
    rw [l1, l2]
    exact hL0)
  -- a setting
  have j124 : ∀ (m : Mem) (x : Int32), KX x → ¬ x = 0 → MIq z m → FM g m → (m 54 19 = 0 → (g 54 17).toInt ≤ (m 54 17).toInt ∧ (x = 8 → p0 &&& 8 = 0)) → T (sp_Model_readLine_j124 F p0 g m p0 x) (AC z g) := fun m x hx hx0 hm hf hq => by
    have num : ∀ (p q : Int32) (hi : Int) (j : Nat), 0 ≤ p.toInt → q.toInt ≤ hi → 0 ≤ hi → (j = 7 ∨ j = 8 ∨ (j = 9 ∧ 1 ≤ p.toInt ∧ hi ≤ 9)) → T ((sp_Model_readNumber F p q m).bind fun v => (wr v.2 58 12 (nI j) v.1).bind fun g9 => sp_Model_readLine_j248 F p0 g g9 p0 x) (AC z g) := fun p q hi j hp hq2 hh hj => by
      refine T.callB (t_readNumber hF hp hq2 hh hm) (fun v hv => ?_)
      obtain ⟨v1, v2, v3, v4⟩ := hv
      refine T.wrB (inb_nI (by omega) (by decide)) ?_
      rw [nI_clamp (by omega)]
      refine j248 _ x hx (v2.t58 (by omega)) (fun e => ?_)
      rw [mset_rowF _ _ _ (by decide)] at e ⊢
      obtain ⟨a1, a2, a3⟩ := v4 e
      obtain ⟨c1, -⟩ := hq a1
      have ly : Ly (mset v.2 58 j v.1) n0 k0 := by
        unfold Ly
        rw [m58, if_neg (by omega), mset_rowF (k' := 63) v.2 j v.1 (by decide)]
        exact (hL0.fm hf).fm v3
      refine ⟨by omega, ?_, n0, k0, ly, by omega, Or.inr rfl⟩
      rw [m58]
      split
      · rename_i e9
        rcases hj with hj | hj | hj
        · omega
        · omega
        · exact ⟨by omega, by have := v1.2; omega⟩
      · rw [v3.1 58 (by decide), hf.1 58 (by decide)]
        exact b9
    unfold sp_Model_readLine_j124
    refine T.cond (fun c => num 1 60 60 7 (by decide) (by decide) (by decide) (Or.inl rfl)) (fun c => ?_)
    refine T.cond (fun c2 => num 1 99 99 8 (by decide) (by decide) (by decide) (Or.inr (Or.inl rfl))) (fun c2 => ?_)
    refine T.cond (fun c3 => num 1 9 9 9 (by decide) (by decide) (by decide) (Or.inr (Or.inr ⟨rfl, by decide, by decide⟩))) (fun c3 => ?_)
    have x8 : x = 8 := by
      rcases hx with h | h | h | h | h
      · exact absurd h hx0
      · exact absurd h c
      · exact absurd h c2
      · exact absurd h c3
      · exact h
    have pr : PR z m n0 k0 := ⟨hm, fun e => ⟨hL0.fm hf, by have := (hq e).1; omega⟩⟩
    refine T.callB (t_rxM hF 8 (by decide) (show B (7 - ((8 : Nat) : Int)) 6 (0 : Int32) from ⟨by decide, by decide⟩) pr (fun e => ?_)) (fun v36 h36 => ?_)
    · have hz := hz0 ((hq e).2 x8)
      have hk : k0 = 0 := by
        have := hL0.2.2
        rw [hz] at this
        exact (Option.some.inj this).symm
      rw [hk]
      decide
    · obtain ⟨n', p', q'⟩ := h36.ex pr
      refine j248 v36 x hx h36.1 (fun e => ?_)
      obtain ⟨a1, a2, a3⟩ := q' e
      have := (hq a1).1
      refine ⟨by omega, ?_, n', k0 + 1, (p'.2 e).1, (p'.2 e).2, Or.inl x8⟩
      rw [h36.2.1.2.2.1 9 (by decide), hf.1 58 (by decide)]
      exact b9
  have j109 : ∀ (m : Mem) (x y w : Int32), KX x → MIq z m → FM g m → (m 54 19 = 0 → m = g ∧ (x = 8 → p0 &&& 8 = 0)) → T (sp_Model_readLine_j109 F p0 g m p0 x y w) (AC z g) := fun m x y w hx hm hf hq => by
    have ht : m 54 19 = 0 → ¬ m 54 15 = 0 := fun e => by rw [(hq e).1]; exact ct
    have hg : m 54 19 = 0 → m = g := fun e => (hq e).1
    unfold sp_Model_readLine_j109
    refine T.cond (fun c => ?_) (fun c => ?_)
    · refine T.cond (fun c2 => ?_) (fun c2 => T.callB (t_readMonk hF ht hm) (fun v h => ofLC m v x hx hg h))
      refine T.cond (fun c3 => ?_) (fun c3 => T.callB (t_readEntry hF ht hm) (fun v h => ofLC m v x hx hg h))
      refine T.callB (t_is hF hm) (fun v18 _ => ?_)
      refine T.cond (fun c4 => T.callB (t_wrong (by decide) hm) (fun v h => dead v x hx h.1 h.2.2)) (fun c4 => T.callB (t_readCopy hF ht hm) (fun v h => ofLC m v x hx hg h))
    · have hx0 : ¬ x = 0 := fun e => c (by rw [e]; decide)
      refine T.cond (fun c2 => ?_) (fun c2 => j124 m x hx hx0 hm hf (fun e => absurd e c2))
      refine T.callB (hm.on hF) (fun v26 h26 => j124 v26 x hx hx0 h26.1 (hf.tr h26.2.1) (fun e => ⟨?_, (hq c2).2⟩))
      have := h26.2.2.1
      rw [(hq c2).1] at this
      exact this
  have j98 : ∀ (m : Mem) (x y w : Int32), KX x → MIq z m → FM g m → (m 54 19 = 0 → m = g) → T (sp_Model_readLine_j98 F p0 g m p0 x y w) (AC z g) := fun m x y w hx hm hf hq => by
    unfold sp_Model_readLine_j98
    refine T.cond (fun c => j109 m x y w hx hm hf (fun e => ⟨hq e, fun e8 => (bits8 hd hx).2.2 e8 c⟩)) (fun c => ?_)
    exact T.callB (t_wrong (by decide) hm) (fun v h => j109 v x y w hx h.1 (hf.tr h.2.1) (fun e => absurd e h.2.2))
  have j57 : ∀ (x : Int32), KX x → T (sp_Model_readLine_j57 F p0 g g p0 x) (AC z g) := fun x hx => by
    unfold sp_Model_readLine_j57
    refine T.callB (t_which (q0n := 4) hF (by decide) h.1) (fun v9 _ => T.callB (t_which (q0n := 4) hF (by decide) h.1) (fun v10 _ => ?_))
    refine T.cond (fun c => ?_) (fun c => j98 g x v9 v10 hx h.1 FM.rf (fun _ => rfl))
    refine T.rdU (by decide) (fun v12 => ?_)
    refine T.cond (fun c2 => j98 g x v9 v10 hx h.1 FM.rf (fun _ => rfl)) (fun c2 => ?_)
    exact T.callB (t_wrong (by decide) h.1) (fun v h => j98 v x v9 v10 hx h.1 h.2.1 (fun e => absurd e h.2.2))
  unfold sp_Model_readLine
  refine T.callB (t_is hF h.1) (fun v1 _ => T.cond (fun _ => ?_) (fun _ => j57 1 (Or.inr (Or.inl rfl))))
  refine T.callB (t_is hF h.1) (fun v3 _ => T.cond (fun _ => ?_) (fun _ => j57 2 (Or.inr (Or.inr (Or.inl rfl)))))
  refine T.callB (t_is hF h.1) (fun v5 _ => T.cond (fun _ => ?_) (fun _ => j57 4 (Or.inr (Or.inr (Or.inr (Or.inl rfl))))))
  exact T.callB (t_is hF h.1) (fun v7 _ => T.cond (fun _ => j57 0 (Or.inl rfl)) (fun _ => j57 8 (Or.inr (Or.inr (Or.inr (Or.inr rfl))))))
theorem Inv.en_1 {z : Zt} {g : Mem} {x c v : Int32} (h : Inv z g) (_hx : B 0 47 x) (hv : B 0 5 v) : Inv z (mset g 62 (9 * x + c).toNatClampNeg v) := h.enR (EN_up h.en (fun _ => hv))
theorem Inv.en_o {z : Zt} {g : Mem} {x c v : Int32} (h : Inv z g) (hx : B 0 47 x) (hc : B 0 0 c ∨ B 2 8 c) : Inv z (mset g 62 (9 * x + c).toNatClampNeg v) := by
  have hc8 : B 0 8 c := by
    rcases hc with h | h
    · exact h.wk (by decide)
    · exact h.wk (by decide)
  have hi := (idxM hx hc8).2
  refine h.enR (EN_up h.en (fun hj => ?_))
  exfalso
  have := hx.1
  rcases hc with h | h
  · have := h.1; have := h.2; omega
  · have := h.1; have := h.2; omega
theorem t_Model_of {z : Zt} {p0 p1 : Int32} {g : Mem} (hp0 : B 0 23 p0) (hp1 : B 0 8 p1) (hI : Inv z g) : T (sp_Model_of p0 p1 g) (fun r => B (-2147483648) 2147483647 r) := by
  unfold sp_Model_of
  exact T.rdU (B.ib (idxM (hp0.wk (by decide)) hp1).1 (by decide)) (fun v => T.some' (B.any v))
theorem t_Model_of1 {z : Zt} {p0 : Int32} {g : Mem} (hp0 : B 0 23 p0) (hI : Inv z g) : T (sp_Model_of p0 1 g) (fun r => B 0 5 r) := by
  have h1 : B 0 8 (1 : Int32) := ⟨by decide, by decide⟩
  have hx : B 0 47 p0 := hp0.wk (by decide)
  have hi := idxM hx h1
  have e1 : (1 : Int32).toInt = 1 := by decide
  unfold sp_Model_of
  refine T.rdB (B.ib hi.1 (by decide)) (T.some' (hI.en _ ?_))
  have := hi.2
  have := hp0.1
  omega
theorem t_Model_isThere {z : Zt} {p0 : Int32} {g : Mem} (hp0 : B 0 23 p0) (hIg : Inv z g) : T (sp_Model_isThere p0 g) (fun r => B 0 1 r) := by
  unfold sp_Model_isThere
  refine T.callB (t_Model_of hp0 (B.wk (show B 8 8 (8 : Int32) from ⟨by decide, by decide⟩) (by decide)) hIg) (fun v1 h1 => ?_)
  refine T.cond (fun c2 => ?_) (fun c2 => ?_)
  · have f3 : B 0 0 (v1) := B.eql c2 (B.any v1) (show B 0 0 (0 : Int32) from ⟨by decide, by decide⟩) (by decide)
    exact T.some' (show B 0 1 (1 : Int32) from (B.wk (show B 1 1 (1 : Int32) from ⟨by decide, by decide⟩) (by decide)))
  · exact T.some' (show B 0 1 (0 : Int32) from (B.wk (show B 0 0 (0 : Int32) from ⟨by decide, by decide⟩) (by decide)))
theorem t_Model_yearOf {z : Zt} {p0 : Int32} {g : Mem} (hp0 : B 0 5 p0) (hIg : Inv z g) : T (sp_Model_yearOf p0 g) (fun r => B (-2147483648) 2147483647 r) := by
  unfold sp_Model_yearOf
  refine T.callB (t_Model_isOf ) (fun v1 h1 => ?_)
  refine T.cond (fun c2 => ?_) (fun c2 => ?_)
  · have f3 : B 0 0 (v1) := B.eql c2 h1 (show B 0 0 (0 : Int32) from ⟨by decide, by decide⟩) (by decide)
    exact T.some' (show B (-2147483648) 2147483647 (g 54 24) from (B.any (g 54 24)))
  · have f4 : B 1 1 (v1) := B.nelo c2 h1 (show B 0 0 (0 : Int32) from ⟨by decide, by decide⟩) (by decide)
    refine T.rdU (B.ib hp0 (by decide)) (fun v3 => ?_)
    exact T.some' (show B (-2147483648) 2147483647 v3 from (B.any v3))
theorem t_Model_old {z : Zt} {p0 : Int32} {g : Mem} (hp0 : B 0 23 p0) (hIg : Inv z g) : T (sp_Model_old p0 g) (fun r => B (-2147483648) 2147483647 r) := by
  unfold sp_Model_old
  refine T.callB (t_Model_of1 hp0 hIg) (fun v1 h1 => ?_)
  refine T.callB (t_Model_yearOf h1 hIg) (fun v2 h2 => ?_)
  refine T.callB (t_Model_of hp0 (B.wk (show B 2 2 (2 : Int32) from ⟨by decide, by decide⟩) (by decide)) hIg) (fun v3 h3 => ?_)
  exact T.some' (show B (-2147483648) 2147483647 (v2 - v3) from (B.any (v2 - v3)))
theorem t_Model_lose {z : Zt} {p0 : Int32} {g : Mem} (hp0 : B 0 23 p0) (hI : Inv z g) : T (sp_Model_lose p0 g) (fun r => Inv z r) := by
  have hx : B 0 47 p0 := hp0.wk (by decide)
  have h8 : B 2 8 (8 : Int32) := ⟨by decide, by decide⟩
  unfold sp_Model_lose
  exact T.wrB (B.ib (idxM hx (h8.wk (by decide))).1 (by decide)) (T.some' (hI.en_o hx (Or.inr h8)))
theorem t_Model_loseFar_4 {z : Zt} {F : Nat} {g : Mem} {s : Int32 × Int32 × Mem} (hF : 4294967296 < F) (hs : J_Model_loseFar_4 z s) : T (st_Model_loseFar_4 F g s) (LQ (J_Model_loseFar_4 z) (Q_Model_loseFar_4 z) (fun s => s.2.1) s.2.1) := by
  unfold st_Model_loseFar_4
  refine T.cond (fun c1 => ?_) (fun c1 => ?_)
  · exact T.some' (show B (-2147483648) 2147483647 s.1 ∧ Inv z s.2.2 from ⟨(B.any s.1), hs.2.2⟩)
  · have f2 : B 1 24 (s.2.2 54 26) := B.nlel c1 hs.2.2.many hs.2.1 (by decide)
    have f3 : B 0 23 (s.2.1) := B.nler c1 hs.2.2.many hs.2.1 (by decide)
    refine T.callB (t_Model_isThere f3 hs.2.2) (fun v2 h4 => ?_)
    refine T.cond (fun c5 => ?_) (fun c5 => ?_)
    · have f6 : B 0 0 (v2) := B.eql c5 h4 (show B 0 0 (0 : Int32) from ⟨by decide, by decide⟩) (by decide)
      have b7 : B 1 24 (s.2.1 + 1) := B.add f3 (show B 1 1 (1 : Int32) from ⟨by decide, by decide⟩) (by decide)
      exact T.some' (show J_Model_loseFar_4 z (s.1, s.2.1 + 1, s.2.2) ∧ s.2.1 + 1 = s.2.1 + 1 from ⟨⟨(B.any s.1), (B.wk b7 (by decide)), hs.2.2⟩, rfl⟩)
    · have f8 : B 1 1 (v2) := B.nelo c5 h4 (show B 0 0 (0 : Int32) from ⟨by decide, by decide⟩) (by decide)
      refine T.callB (t_Model_old f3 hs.2.2) (fun v4 h9 => ?_)
      refine T.callB (t_Model_of1 f3 hs.2.2) (fun v5 h10 => ?_)
      refine T.rdU (B.ib h10 (by decide)) (fun v6 => ?_)
      refine T.cond (fun c11 => ?_) (fun c11 => ?_)
      · have f12 : B (-2147483648) 2147483646 (v6) := B.ltl c11 (B.any v6) (B.any v4) (by decide)
        have f13 : B (-2147483647) 2147483647 (v4) := B.ltr c11 (B.any v6) (B.any v4) (by decide)
        refine T.callB (t_Model_lose f3 hs.2.2) (fun v8 h14 => ?_)
        have b15 : B 1 24 (s.2.1 + 1) := B.add f3 (show B 1 1 (1 : Int32) from ⟨by decide, by decide⟩) (by decide)
        exact T.some' (show J_Model_loseFar_4 z (s.1 + 1, s.2.1 + 1, v8) ∧ s.2.1 + 1 = s.2.1 + 1 from ⟨⟨(B.any (s.1 + 1)), (B.wk b15 (by decide)), h14⟩, rfl⟩)
      · have b16 : B 1 24 (s.2.1 + 1) := B.add f3 (show B 1 1 (1 : Int32) from ⟨by decide, by decide⟩) (by decide)
        exact T.some' (show J_Model_loseFar_4 z (s.1, s.2.1 + 1, s.2.2) ∧ s.2.1 + 1 = s.2.1 + 1 from ⟨⟨(B.any s.1), (B.wk b16 (by decide)), hs.2.2⟩, rfl⟩)
theorem t_Model_loseFar {z : Zt} {F : Nat} {g : Mem} (hF : 4294967296 < F) (hIg : Inv z g) : T (sp_Model_loseFar F g) (fun r => B (-2147483648) 2147483647 r.1 ∧ Inv z r.2) := by
  unfold sp_Model_loseFar
  refine T.callB (T.lpc (J := J_Model_loseFar_4 z) (Q := Q_Model_loseFar_4 z) (fun s => s.2.1) 0 24 (by decide) (fun s h => h.2.1) (fun s h => t_Model_loseFar_4 hF h) F _ (show J_Model_loseFar_4 z (0, 0, g) from ⟨(B.any (0 : Int32)), (B.wk (show B 0 0 (0 : Int32) from ⟨by decide, by decide⟩) (by decide)), hIg⟩) hF) (fun x9 h1 => ?_)
  have h1 : B (-2147483648) 2147483647 x9.1 ∧ Inv z x9.2 := h1
  exact T.some' (show B (-2147483648) 2147483647 x9.1 ∧ Inv z x9.2 from ⟨(B.any x9.1), h1.2⟩)
def hf (h : Nat) (i : Nat) (f : Nat → Int32) : Nat → Int32 := fun k => if k < i then f (h + k) else f k
theorem t_takeHalf {F q n h : Nat} {g : Mem} (hF : 4294967296 < F) (hn : n = 2 * h) (hl : n < 2147483648) (hdv : Int32.ofNat n / 2 = nI h) : T (sp_Model_takeHalf F q n g) (fun r => r = mrow g q (hf h h (g q))) := by
  unfold sp_Model_takeHalf
  have d2 : dv (Int32.ofNat n) 2 = some (nI h) := by
    unfold dv
    rw [if_neg (by decide), hdv]
  refine T.callB (P := fun r => r = mrow g q (hf h h (g q))) ?_ (fun r hr => T.some' hr)
  refine T.cnt h (fun i s => s.1 = nI i ∧ s.2 = mrow g q (hf h i (g q))) ?_ ?_ h 0 _ F (by omega) ⟨rfl, ?_⟩ (by omega)
  · rintro i ⟨b, m⟩ hi ⟨hb, hm⟩
    dsimp only at hb hm
    subst hb
    subst hm
    unfold st_Model_takeHalf_2
    dsimp only
    refine T.eqB d2 (T.neg (nI_ge hi (by omega)) (T.eqB d2 ?_))
    rw [nI_add]
    refine T.rdB (inb_nI (by omega) hl) (T.wrB (inb_nI (by omega) hl) (T.some' (Or.inl ⟨_, rfl, nI_1 i, ?_⟩)))
    rw [nI_clamp (show h + i < 2 ^ 31 by omega), nI_clamp (show i < 2 ^ 31 by omega)]
    funext p
    by_cases hp : p = q
    · subst hp
      show mset _ p i _ p = _
      unfold mset
      rw [mrow_self, mrow_self, mrow_self]
      funext k
      unfold upd hf
      by_cases hk : k = i
      · subst hk
        rw [if_pos rfl, if_neg (by omega), if_pos (by omega)]
      · rw [if_neg hk]
        by_cases hk2 : k < i
        · rw [if_pos hk2, if_pos (by omega)]
        · rw [if_neg hk2, if_neg (by omega)]
    · show mset _ q i _ p = _
      rw [mset_rowF _ _ _ hp, mrow_other _ _ hp, mrow_other _ _ hp]
  · rintro ⟨b, m⟩ ⟨hb, hm⟩
    dsimp only at hb hm
    subst hb
    unfold st_Model_takeHalf_2
    dsimp only
    exact T.eqB d2 (T.pos (nI_le (Nat.le_refl _) (by omega)) (T.some' ⟨_, rfl, hm⟩))
  · dsimp only
    funext p
    by_cases hp : p = q
    · subst hp
      rw [mrow_self]
      funext k
      unfold hf
      rw [if_neg (by omega)]
    · rw [mrow_other _ _ hp]
theorem t_takeOver {z : Zt} {F : Nat} {g : Mem} {n k : Nat} (hF : 4294967296 < F) (hI : Inv z g) (b9 : B 1 9 (g 58 9)) (hL : Ly g n k) : T (sp_Model_takeOver F g) (fun r => Inv z r) := by
  unfold sp_Model_takeOver
  refine T.callB (t_takeHalf (h := 6) hF rfl (by decide) (by decide)) (fun v1 e1 => ?_)
  refine T.callB (t_takeHalf (h := 6) hF rfl (by decide) (by decide)) (fun v2 e2 => ?_)
  refine T.callB (t_takeHalf (h := 6) hF rfl (by decide) (by decide)) (fun v3 e3 => ?_)
  refine T.callB (t_takeHalf (h := 6) hF rfl (by decide) (by decide)) (fun v4 e4 => ?_)
  refine T.callB (t_takeHalf (h := 216) hF rfl (by decide) (by decide)) (fun v5 e5 => ?_)
  refine T.callB (t_takeHalf (h := 700) hF rfl (by decide) (by decide)) (fun v6 e6 => ?_)
  have q58 : v6 58 = hf 6 6 (g 58) := by
    rw [e6, mrow_other _ _ (by decide), e5, mrow_other _ _ (by decide), e4, mrow_other _ _ (by decide), e3, mrow_other _ _ (by decide), e2, mrow_other _ _ (by decide), e1, mrow_self]
  have q62 : v6 62 = hf 216 216 (g 62) := by
    rw [e6, mrow_other _ _ (by decide), e5, mrow_self, e4, mrow_other _ _ (by decide), e3, mrow_other _ _ (by decide), e2, mrow_other _ _ (by decide), e1, mrow_other _ _ (by decide)]
  have q63 : v6 63 = hf 700 700 (g 63) := by
    rw [e6, mrow_self, e5, mrow_other _ _ (by decide), e4, mrow_other _ _ (by decide), e3, mrow_other _ _ (by decide), e2, mrow_other _ _ (by decide), e1, mrow_other _ _ (by decide)]
  have qo : ∀ q, q ≠ 58 → q ≠ 59 → q ≠ 60 → q ≠ 61 → q ≠ 62 → q ≠ 63 → v6 q = g q := fun q h1 h2 h3 h4 h5 h6 => by
    rw [e6, mrow_other _ _ h6, e5, mrow_other _ _ h5, e4, mrow_other _ _ h4, e3, mrow_other _ _ h3, e2, mrow_other _ _ h2, e1, mrow_other _ _ h1]
  have i6 : Inv z v6 := by
    obtain ⟨⟨a1, a3⟩, a2, ac, ⟨b1, b2, b3⟩, ⟨c1, c2⟩, d1, ⟨x1, x2, x3, x4⟩, ⟨o1, o2, o3, o4, o5, o6, o7⟩, -⟩ := hI
    have hc : ∀ c ∈ cons, c.1 ≠ 58 ∧ c.1 ≠ 59 ∧ c.1 ≠ 60 ∧ c.1 ≠ 61 ∧ c.1 ≠ 62 ∧ c.1 ≠ 63 := by decide
    have ho : ∀ q ∈ [0, 3, 54, 7, 18, 32, 27, 34, 67, 70, 73, 74], v6 q = g q := fun q hq => by
      have h9 : ∀ q ∈ [0, 3, 54, 7, 18, 32, 27, 34, 67, 70, 73, 74], q ≠ 58 ∧ q ≠ 59 ∧ q ≠ 60 ∧ q ≠ 61 ∧ q ≠ 62 ∧ q ≠ 63 := by decide
      obtain ⟨w1, w2, w3, w4, w5, w6⟩ := h9 q hq
      exact qo q w1 w2 w3 w4 w5 w6
    refine ⟨⟨by rw [ho 0 (by decide)]; exact a1, by rw [ho 3 (by decide)]; exact a3⟩, by rw [ho 54 (by decide)]; exact a2, fun c hm => by
      obtain ⟨w1, w2, w3, w4, w5, w6⟩ := hc c hm
      rw [qo _ w1 w2 w3 w4 w5 w6]; exact ac c hm, ⟨by rw [ho 7 (by decide)]; exact b1, by rw [ho 18 (by decide)]; exact b2, by rw [ho 32 (by decide)]; exact b3⟩, ⟨by rw [ho 27 (by decide)]; exact c1, by rw [ho 34 (by decide)]; exact c2⟩, ?_, ⟨by rw [ho 67 (by decide)]; exact x1, by rw [ho 70 (by decide)]; exact x2, by rw [ho 73 (by decide)]; exact x3, by rw [ho 74 (by decide)]; exact x4⟩, ?_, ?_⟩
    · rw [q62]
      intro j hj
      unfold hf
      split
      · exact d1 _ (by omega)
      · exact d1 _ hj
    · rw [q58]
      exact ⟨o5, b9, o6, o7, o5, o6, o7⟩
    · rw [q58, q63]
      refine ⟨k, ?_⟩
      have e11 : hf 6 6 (g 58) 5 = nI n := hL.1
      rw [e11, nI_clamp (by have := hL.2.1; omega), hgt_cong (f := fun i => g 63 (700 + i)) (fun i hi => ?_)]
      · exact hL.2.2
      · unfold hf
        rw [if_pos (by have := hL.2.1; omega)]
  have i7 : Inv z (mset (mset v6 54 24 0) 54 25 0) := Inv.fre (Inv.fre i6 rfl) rfl
  refine T.rdK 4 (P := fun q => B 0 24 q) (by decide) rfl i7.told4 (fun v7 b7 => ?_)
  refine T.callB (P := fun m => Inv z m) ?_ (fun x10 h10 => ?_)
  · refine T.cnt 6 (fun i s => s.1 = nI i ∧ Inv z s.2) ?_ ?_ 6 0 _ F (by omega) ⟨rfl, i7.p_many b7⟩ (by omega)
    · rintro i ⟨b, m⟩ hi ⟨hb, hm⟩
      dsimp only at hb hm
      subst hb
      unfold st_Model_takeOver_64
      dsimp only
      refine T.neg (nI_ge hi (by decide)) ?_
      exact T.wrI (I := fun m => Inv z m) (inb_nI hi (by decide)) (hm.fra rfl) (fun g9 h9 => T.some' (Or.inl ⟨_, rfl, nI_1 i, h9⟩))
    · rintro ⟨b, m⟩ ⟨hb, hm⟩
      dsimp only at hb hm
      subst hb
      unfold st_Model_takeOver_64
      dsimp only
      exact T.pos (nI_le (Nat.le_refl _) (by decide)) (T.some' ⟨_, rfl, hm⟩)
  · refine T.callB (t_Model_loseFar hF h10) (fun v11 h11 => T.some' ?_)
    exact Inv.fre (((h11.2).p_acts (show B 0 40 (0 : Int32) from ⟨by decide, by decide⟩)).p_seen (show B 0 8 (0 : Int32) from ⟨by decide, by decide⟩)) rfl
theorem Inv.t58 {z : Zt} {g : Mem} {j : Nat} {x : Int32} (h : Inv z g) (hj : j = 7 ∨ j = 8 ∨ j = 9 ∨ (j = 6 ∧ B 0 6 x) ∨ (j = 10 ∧ B 0 24 x) ∨ (j = 11 ∧ B 0 700 x)) : Inv z (mset g 58 j x) := by
  obtain ⟨o1, o2, o3, o4, o5, o6, o7⟩ := h.to
  have r58 : ∀ i, i ≠ j → mset g 58 j x 58 i = g 58 i := fun i hi => by rw [m58, if_neg hi]
  have r58b : mset g 58 j x 58 j = x := by rw [m58, if_pos rfl]
  refine h.re58 (fun q h1 _ => mset_rowF _ _ _ h1) ⟨by rw [r58 0 (by omega)]; exact o1, by rw [r58 3 (by omega)]; exact o2, by rw [r58 4 (by omega)]; exact o3, by rw [r58 5 (by omega)]; exact o4, ?_, ?_, ?_⟩ (h.2.2.2.2.2.2.2.2.cong h.told5 (r58 5 (by omega)) (fun i _ => by rw [mset_rowF g j x (by decide)]))
  · by_cases e : 6 = j
    · subst e
      rw [r58b]
      rcases hj with h | h | h | h | h | h
      · omega
      · omega
      · omega
      · exact h.2
      · omega
      · omega
    · rw [r58 6 e]; exact o5
  · by_cases e : 10 = j
    · subst e
      rw [r58b]
      rcases hj with h | h | h | h | h | h
      · omega
      · omega
      · omega
      · omega
      · exact h.2
      · omega
    · rw [r58 10 e]; exact o6
  · by_cases e : 11 = j
    · subst e
      rw [r58b]
      rcases hj with h | h | h | h | h | h
      · omega
      · omega
      · omega
      · omega
      · omega
      · exact h.2
    · rw [r58 11 e]; exact o7
theorem t_archive50 {z : Zt} {F : Nat} {p0 : Int32} {g M : Mem} (hF : 4294967296 < F) (hI : Inv z M) : T (lpO (st_Model_archive_50 F p0 g) F (0, M)) (fun m => Inv z m ∧ m 54 = M 54 ∧ m 58 9 = 3 ∧ m 58 11 = 0) := by
  refine T.cnt 6 (fun i s => s.1 = nI i ∧ Inv z s.2 ∧ s.2 54 = M 54 ∧ (3 < i → s.2 58 9 = 3) ∧ (5 < i → s.2 58 11 = 0)) ?_ ?_ 6 0 _ F (by omega) ⟨rfl, hI, rfl, fun h => by omega, fun h => by omega⟩ (by omega)
  · rintro i ⟨b, m⟩ hi ⟨hb, h1, h2, h3, h4⟩
    dsimp only at hb h1 h2 h3 h4
    subst hb
    unfold st_Model_archive_50
    dsimp only
    have w54 : ∀ (j : Nat) (x : Int32), mset m 58 j x 54 = M 54 := fun j x => (mset_rowF m j x (by decide)).trans h2
    have : i = 0 ∨ i = 1 ∨ i = 2 ∨ i = 3 ∨ i = 4 ∨ i = 5 := by omega
    rcases this with rfl | rfl | rfl | rfl | rfl | rfl
    · refine T.neg (by decide) (T.neg (by decide) (T.neg (by decide) (T.neg (by decide) (T.wrB (by decide) (T.some' (Or.inl ⟨_, rfl, rfl, h1.t58 (Or.inr (Or.inr (Or.inr (Or.inl ⟨rfl, by decide, by decide⟩)))), w54 6 0, fun h => by omega, fun h => by omega⟩))))))
    · refine T.neg (by decide) (T.pos (by decide) (T.wrB (by decide) (T.some' (Or.inl ⟨_, rfl, rfl, h1.t58 (Or.inl rfl), w54 7 40, fun h => by omega, fun h => by omega⟩))))
    · refine T.neg (by decide) (T.neg (by decide) (T.pos (by decide) (T.wrB (by decide) (T.some' (Or.inl ⟨_, rfl, rfl, h1.t58 (Or.inr (Or.inl rfl)), w54 8 60, fun h => by omega, fun h => by omega⟩)))))
    · refine T.neg (by decide) (T.neg (by decide) (T.neg (by decide) (T.pos (by decide) (T.wrB (by decide) (T.some' (Or.inl ⟨_, rfl, rfl, h1.t58 (Or.inr (Or.inr (Or.inl rfl))), w54 9 3, fun _ => ?_, fun h => by omega⟩))))))
      show mset m 58 9 3 58 9 = 3
      rw [m58, if_pos rfl]
    · refine T.neg (by decide) (T.neg (by decide) (T.neg (by decide) (T.neg (by decide) (T.wrB (by decide) (T.some' (Or.inl ⟨_, rfl, rfl, h1.t58 (Or.inr (Or.inr (Or.inr (Or.inr (Or.inl ⟨rfl, by decide, by decide⟩))))), w54 10 0, fun _ => ?_, fun h => by omega⟩))))))
      show mset m 58 10 0 58 9 = 3
      rw [m58, if_neg (by decide)]
      exact h3 (by decide)
    · refine T.neg (by decide) (T.neg (by decide) (T.neg (by decide) (T.neg (by decide) (T.wrB (by decide) (T.some' (Or.inl ⟨_, rfl, rfl, h1.t58 (Or.inr (Or.inr (Or.inr (Or.inr (Or.inr ⟨rfl, by decide, by decide⟩))))), w54 11 0, fun _ => ?_, fun _ => ?_⟩))))))
      · show mset m 58 11 0 58 9 = 3
        rw [m58, if_neg (by decide)]
        exact h3 (by decide)
      · show mset m 58 11 0 58 11 = 0
        rw [m58, if_pos rfl]
  · rintro ⟨b, m⟩ ⟨hb, h1, h2, h3, h4⟩
    dsimp only at hb h1 h2 h3 h4
    subst hb
    unfold st_Model_archive_50
    dsimp only
    exact T.pos (by decide) (T.some' ⟨_, rfl, h1, h2, h3 (by decide), h4 (by decide)⟩)
theorem t_Model_archive {t1 t2 : Int32} {f : Nat → Int32} {F : Nat} {p0 : Int32} {g : Mem} (hF : 4294967296 < F) (ht : B 0 700 t2) (hI : Inv (t1, t2, f) g) : T (sp_Model_archive F p0 g) (fun r => (0 ≤ p0.toInt ∧ p0.toInt ≤ t2.toInt → Inv (t1, 0, f) r.2) ∧ (¬ (0 ≤ p0.toInt ∧ p0.toInt ≤ t2.toInt) → Inv (t1, t2, f) r.2)) := by
  unfold sp_Model_archive
  have i0 : Inv (t1, t2, f) (mset g 54 3 0) := hI.fre rfl
  have e12 : mset g 54 3 0 54 12 = t2 := i0.2.1
  have e0 : (0 : Int32).toInt = 0 := by decide
  rw [e12]
  refine T.cond (fun c => T.callB (t_Model_fail i0) (fun v hv => T.some' ⟨fun h => by have := ilt.mp c; omega, fun _ => hv.2⟩)) (fun c => ?_)
  have h0 : 0 ≤ p0.toInt := by
    have : ¬ p0.toInt < (0 : Int32).toInt := fun q => c (ilt.mpr q)
    omega
  refine T.cond (fun c2 => ?_) (fun c2 => T.callB (t_Model_fail i0) (fun v hv => T.some' ⟨fun h => absurd (ile.mpr h.2) c2, fun _ => hv.2⟩))
  have h1 := ile.mp c2
  have hp : B 0 700 p0 := ⟨h0, by have := ht.2; omega⟩
  suffices hs : T ((lpO (st_Model_archive_50 F p0 g) F (0, mset (mset (mset (mset (mset (mset g 54 3 0) 54 12 0) 54 14 p0) 54 13 0) 54 19 0) 54 21 (-1))).bind fun x12 => (sp_Model_stepOn F x12).bind fun v13 => (lpO (st_Model_archive_107 F p0 g) F (0, v13)).bind fun x17 => sp_Model_archive_j130 F p0 g x17) (fun r => Inv (t1, 0, f) r.2) from T.mono hs (fun r hr => ⟨fun _ => hr, fun h => absurd ⟨h0, h1⟩ h⟩)
  have iM : Inv (t1, 0, f) (mset (mset (mset (mset (mset (mset g 54 3 0) 54 12 0) 54 14 p0) 54 13 0) 54 19 0) 54 21 (-1)) := Inv.fre (Inv.fre (Inv.fre (Inv.fre (i0.tape2 (x := 0)) rfl) rfl) rfl) rfl
  have M14 : mset (mset (mset (mset (mset (mset g 54 3 0) 54 12 0) 54 14 p0) 54 13 0) 54 19 0) 54 21 (-1) 54 14 = p0 := by
    rw [m54, if_neg (by decide), m54, if_neg (by decide), m54, if_neg (by decide), m54, if_pos rfl]
  have M13 : mset (mset (mset (mset (mset (mset g 54 3 0) 54 12 0) 54 14 p0) 54 13 0) 54 19 0) 54 21 (-1) 54 13 = 0 := by
    rw [m54, if_neg (by decide), m54, if_neg (by decide), m54, if_pos rfl]
  have M19 : mset (mset (mset (mset (mset (mset g 54 3 0) 54 12 0) 54 14 p0) 54 13 0) 54 19 0) 54 21 (-1) 54 19 = 0 := by
    rw [m54, if_neg (by decide), m54, if_pos rfl]
  generalize mset (mset (mset (mset (mset (mset g 54 3 0) 54 12 0) 54 14 p0) 54 13 0) 54 19 0) 54 21 (-1) = M at iM M14 M13 M19 ⊢
  refine T.callB (t_archive50 hF iM) (fun x12 h12 => ?_)
  obtain ⟨a1, a2, a3, a4⟩ := h12
  refine T.callB (t_stepOn hF a1 (by rw [a2, M14]; exact hp) (by rw [a2, M13]; exact ⟨by decide, by decide⟩)) (fun v13 h13 => ?_)
  obtain ⟨m13, f13, -, b13⟩ := h13
  have ai : AI (t1, 0, f) 0 v13 := by
    refine ⟨m13, fun _ => ⟨?_, 0, 0, ⟨?_, by omega, rfl⟩, ?_, fun _ => rfl⟩⟩
    · rw [f13.1 58 (by decide), a3]
      exact ⟨by decide, by decide⟩
    · rw [f13.1 58 (by decide), a4]
      rfl
    · have := m13.2.2.2.2.1.1
      exact this
  have hmu : ∀ (s : Mem), MIq (t1, 0, f) s → mu17 s < F := fun s hs => by
    obtain ⟨k1, k2, k3, k4, k5⟩ := hs.2
    have := k4.1
    unfold mu17
    split <;> omega
  refine T.callB (P := fun m => ∃ d, AI (t1, 0, f) d m) (T.lpm (J := fun s => B 0 15 s.1 ∧ AI (t1, 0, f) s.1 s.2) (fun s => mu17 s.2) (fun s hs => ?_) F _ ⟨(show B 0 15 (0 : Int32) from ⟨by decide, by decide⟩), ai⟩ (hmu _ m13)) (fun x17 h17 => ?_)
  · obtain ⟨s1, s2⟩ := hs
    unfold st_Model_archive_107
    refine T.cond (fun c3 => ?_) (fun c3 => T.some' ⟨_, s2⟩)
    refine T.cond (fun c4 => T.some' ⟨_, s2⟩) (fun c4 => ?_)
    refine T.callB (t_readLine hF s1 s2 c3 c4) (fun v16 h16 => T.some' ⟨⟨h16.1, h16.2.1⟩, ?_⟩)
    show mu17 v16.2 < mu17 s.2
    obtain ⟨k1, k2, k3, k4, k5⟩ := s2.1.2
    have := k2.2
    unfold mu17
    rw [if_pos c3]
    by_cases e : v16.2 54 19 = 0
    · rw [if_pos e]
      have := (h16.2.2 e).2
      omega
    · rw [if_neg e]
      omega
  · obtain ⟨d, m17, q17⟩ := h17
    unfold sp_Model_archive_j130
    refine T.cond (fun c5 => ?_) (fun c5 => ?_)
    · obtain ⟨b9, n, k, hL, -⟩ := q17 c5
      exact T.callB (t_takeOver hF m17.1 b9 hL) (fun v19 h19 => T.some' h19)
    · have i21 : Inv (t1, 0, f) (mset x17 54 21 (x17 54 20)) := m17.1.fre rfl
      refine T.rdU (by decide) (fun v20 => ?_)
      exact T.wrI (I := fun m => Inv (t1, 0, f) m) (by decide) (i21.fra rfl) (fun g21 h21 => T.some' h21)
theorem t_Model_fault {z : Zt} {g : Mem} (hIg : Inv z g) : T (sp_Model_fault g) (fun r => B (-2147483648) 2147483647 r.1 ∧ Inv z r.2) := by
  unfold sp_Model_fault
  have b1 : B (-2147483648) 2147483647 ((mset g 54 3 0) 54 21) := B.mset_o (by decide) (B.any (g 54 21))
  have hM2 : Inv z (mset g 54 3 0) := hIg.fre rfl
  exact T.some' (show B (-2147483648) 2147483647 ((mset g 54 3 0) 54 21) ∧ Inv z (mset g 54 3 0) from ⟨b1, hM2⟩)
theorem t_Model_pack {z : Zt} {F q0 q0n : Nat} {p1 : Int32} {g : Mem} (hF : 4294967296 < F) (hq : QP q0) (hn : q0n < 2147483648) (hp : B 0 ((q0n : Int) - 231) p1) (hm : p1.toNatClampNeg % 231 = 0) (hI : Inv z g) : T (sp_Model_pack F q0 q0n p1 g) (fun r => Inv z r ∧ ∀ q, q ≠ q0 → r q = g q) := by
  obtain ⟨a, ha1, e, ha2, ha3⟩ := hp.ex (by decide)
  subst e
  rw [nI_clamp ha1] at hm
  have h61 : ∀ q, q = 54 ∨ q = 61 ∨ q = 62 ∨ q = 66 → q ≠ q0 := fun q h => by unfold QP at hq; omega
  have e1 : nI a + 1 = nI (a + 1) := nI_add a 1
  have e2 : nI a + 2 = nI (a + 2) := nI_add a 2
  have e3 : nI a + 3 = nI (a + 3) := nI_add a 3
  have e4 : nI a + 3 + 12 = nI (a + 15) := by rw [e3]; exact nI_add (a + 3) 12
  have e5 : nI a + 3 + 6 = nI (a + 9) := by rw [e3]; exact nI_add (a + 3) 6
  have step : ∀ (m : Mem) (k : Nat) (v : Int32), (Inv z m ∧ ∀ q, q ≠ q0 → m q = g q) → k < 2 ^ 31 → (k % 231 = 2 → B 0 24 v) → (15 ≤ k % 231 → (k % 231 - 15) % 9 = 1 → B 0 5 v) → (Inv z (mset m q0 (nI k).toNatClampNeg v) ∧ ∀ q, q ≠ q0 → mset m q0 (nI k).toNatClampNeg v q = g q) := fun m k v hmm hk h1 h2 => by
    rw [nI_clamp hk]
    exact ⟨hmm.1.paR hq (PA_up (hmm.1.pa hq) h1 h2), fun q hq => (mset_rowF m k v hq).trans (hmm.2 q hq)⟩
  have ib : ∀ k, k < q0n → inb (nI k) q0n = true := fun k hk => inb_nI hk hn
  unfold sp_Model_pack
  refine T.wrI (I := fun m => Inv z m ∧ ∀ q, q ≠ q0 → m q = g q) (ib a (by omega)) (step g a _ ⟨hI, fun _ _ => rfl⟩ (by omega) (fun h => by omega) (fun h => by omega)) (fun g1 h1 => ?_)
  rw [e1]
  refine T.wrI (I := fun m => Inv z m ∧ ∀ q, q ≠ q0 → m q = g q) (ib (a + 1) (by omega)) (step g1 (a + 1) _ h1 (by omega) (fun h => by omega) (fun h => by omega)) (fun g2 h2 => ?_)
  rw [e2]
  refine T.wrI (I := fun m => Inv z m ∧ ∀ q, q ≠ q0 → m q = g q) (ib (a + 2) (by omega)) (step g2 (a + 2) _ h2 (by omega) (fun _ => h2.1.many) (fun h => by omega)) (fun g3 h3 => ?_)
  refine T.callB (P := fun m => Inv z m ∧ ∀ q, q ≠ q0 → m q = g q) ?_ (fun x9 h9 => ?_)
  · refine T.cnt 6 (fun i s => s.1 = nI i ∧ Inv z s.2 ∧ ∀ q, q ≠ q0 → s.2 q = g q) ?_ ?_ 6 0 _ F (by omega) ⟨rfl, h3⟩ (by omega)
    · rintro i ⟨b, m⟩ hi ⟨rfl, hO⟩
      unfold st_Model_pack_27
      refine T.neg (nI_ge hi (by decide)) ?_
      refine T.rdU (inb_nI (by omega) (by omega)) (fun v5 => ?_)
      show T ((wr m q0 q0n (nI a + 3 + nI i) v5).bind _) _
      rw [e3, nI_add]
      refine T.wrI (I := fun m => Inv z m ∧ ∀ q, q ≠ q0 → m q = g q) (ib (a + 3 + i) (by omega)) (step m (a + 3 + i) _ hO (by omega) (fun h => by omega) (fun h => by omega)) (fun g6 h6 => ?_)
      refine T.rdU (inb_nI hi (by omega)) (fun v7 => ?_)
      show T ((wr g6 q0 q0n (nI (a + 3) + 6 + nI i) v7).bind _) _
      rw [show nI (a + 3) + 6 = nI (a + 9) from nI_add (a + 3) 6, nI_add]
      refine T.wrI (I := fun m => Inv z m ∧ ∀ q, q ≠ q0 → m q = g q) (ib (a + 9 + i) (by omega)) (step g6 (a + 9 + i) _ h6 (by omega) (fun h => by omega) (fun h => by omega)) (fun g8 h8 => ?_)
      exact T.some' (Or.inl ⟨_, rfl, nI_1 i, h8⟩)
    · rintro ⟨b, m⟩ ⟨rfl, hO⟩
      unfold st_Model_pack_27
      exact T.pos (nI_le (Nat.le_refl _) (by decide)) (T.some' ⟨_, rfl, hO⟩)
  · refine T.callB (P := fun m => Inv z m ∧ ∀ q, q ≠ q0 → m q = g q) ?_ (fun v hv => T.some' hv)
    refine T.cnt 216 (fun i s => s.1 = nI i ∧ Inv z s.2 ∧ ∀ q, q ≠ q0 → s.2 q = g q) ?_ ?_ 216 0 _ F (by omega) ⟨rfl, h9⟩ (by omega)
    · rintro i ⟨b, m⟩ hi ⟨rfl, hO⟩
      unfold st_Model_pack_78
      refine T.neg (nI_ge hi (by decide)) ?_
      refine T.rdK i (P := fun z => i % 9 = 1 → B 0 5 z) (inb_nI (by omega) (by omega)) (nI_clamp (by omega)) (fun hj => hO.1.en i hj) (fun v11 h11 => ?_)
      show T ((wr m q0 q0n (nI a + 3 + 12 + nI i) v11).bind _) _
      rw [e4, nI_add]
      refine T.wrI (I := fun m => Inv z m ∧ ∀ q, q ≠ q0 → m q = g q) (ib (a + 15 + i) (by omega)) (step m (a + 15 + i) _ hO (by omega) (fun h => by omega) (fun h h2 => h11 (by have hmod : (a + 15 + i) % 231 = 15 + i := (by omega); rw [hmod] at h2; omega))) (fun g12 h12 => ?_)
      exact T.some' (Or.inl ⟨_, rfl, nI_1 i, h12⟩)
    · rintro ⟨b, m⟩ ⟨rfl, hO⟩
      unfold st_Model_pack_78
      exact T.pos (nI_le (Nat.le_refl _) (by decide)) (T.some' ⟨_, rfl, hO⟩)
