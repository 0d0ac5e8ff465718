/-! a value comes out, and the memory stays well (by program: wip/p2gen) -/
theorem t_Model_unpack {z : Zt} {F q0 q0n : Nat} {p1 : Int32} {g : Mem} (hF : 4294967296 < F) (hq : QP q0) (hn : q0n < 2147483648) (hp : B 0 ((q0n : Int) - 231) p1) (hm : p1.toNatClampNeg % 231 = 0) (hI : Inv z g) : T (sp_Model_unpack F q0 q0n p1 g) (fun r => Inv z r) := by
  obtain ⟨a, ha1, e, ha2, ha3⟩ := hp.ex (by decide)
  subst e
  rw [nI_clamp ha1] at hm
  have e1 : nI a + 1 = nI (a + 1) := nI_add a 1
  have e2 : nI a + 2 = nI (a + 2) := nI_add a 2
  have e3 : nI a + 3 = nI (a + 3) := nI_add a 3
  have e4 : nI a + 3 + 12 = nI (a + 15) := by rw [e3]; exact nI_add (a + 3) 12
  have ib : ∀ k, k < q0n → inb (nI k) q0n = true := fun k hk => inb_nI hk hn
  unfold sp_Model_unpack
  refine T.rdU (ib a (by omega)) (fun v1 => ?_)
  rw [e1, e2]
  have i1 : Inv z (mset g 54 24 v1) := hI.fre rfl
  refine T.rdU (ib (a + 1) (by omega)) (fun v2 => ?_)
  have i2 : Inv z (mset (mset g 54 24 v1) 54 25 v2) := i1.fre rfl
  refine T.rdK (a + 2) (P := fun z => B 0 24 z) (ib (a + 2) (by omega)) (nI_clamp (by omega)) ((i2.pa hq _).1 (by omega)) (fun v3 h3 => ?_)
  have i3 : Inv z (mset (mset (mset g 54 24 v1) 54 25 v2) 54 26 v3) := i2.p_many h3
  refine T.callB (P := fun m => Inv z m) ?_ (fun x9 h9 => ?_)
  · refine T.cnt 6 (fun i s => s.1 = nI i ∧ Inv z s.2) ?_ ?_ 6 0 _ F (by omega) ⟨rfl, i3⟩ (by omega)
    · rintro i ⟨b, m⟩ hi ⟨rfl, hO⟩
      unfold st_Model_unpack_27
      refine T.neg (nI_ge hi (by decide)) ?_
      show T ((rd m q0 q0n (nI a + 3 + nI i)).bind _) _
      rw [e3, nI_add]
      refine T.rdU (ib (a + 3 + i) (by omega)) (fun v5 => ?_)
      refine T.wrI (I := fun m => Inv z m) (inb_nI (by omega) (by omega)) (hO.fra rfl) (fun g6 h6 => ?_)
      show T ((rd g6 q0 q0n (nI (a + 3) + 6 + nI i)).bind _) _
      rw [show nI (a + 3) + 6 = nI (a + 9) from nI_add (a + 3) 6, nI_add]
      refine T.rdU (ib (a + 9 + i) (by omega)) (fun v7 => ?_)
      refine T.wrI (I := fun m => Inv z m) (inb_nI hi (by omega)) (h6.fra rfl) (fun g8 h8 => ?_)
      exact T.some' (Or.inl ⟨_, rfl, nI_1 i, h8⟩)
    · rintro ⟨b, m⟩ ⟨rfl, hO⟩
      unfold st_Model_unpack_27
      exact T.pos (nI_le (Nat.le_refl _) (by decide)) (T.some' ⟨_, rfl, hO⟩)
  · refine T.callB (P := fun m => Inv z m) ?_ (fun v hv => T.some' hv)
    refine T.cnt 216 (fun i s => s.1 = nI i ∧ Inv z s.2) ?_ ?_ 216 0 _ F (by omega) ⟨rfl, h9⟩ (by omega)
    · rintro i ⟨b, m⟩ hi ⟨rfl, hO⟩
      unfold st_Model_unpack_78
      refine T.neg (nI_ge hi (by decide)) ?_
      show T ((rd m q0 q0n (nI a + 3 + 12 + nI i)).bind _) _
      rw [e4, nI_add]
      refine T.rdK (a + 15 + i) (P := fun z => i % 9 = 1 → B 0 5 z) (ib (a + 15 + i) (by omega)) (nI_clamp (by omega)) (fun hj => (hO.pa hq _).2 (by have hmod : (a + 15 + i) % 231 = 15 + i := (by omega); rw [hmod]; omega) (by have hmod : (a + 15 + i) % 231 = 15 + i := (by omega); rw [hmod]; omega)) (fun v11 h11 => ?_)
      refine T.wrI (I := fun m => Inv z m) (inb_nI (by omega) (by omega)) ?_ (fun g12 h12 => T.some' (Or.inl ⟨_, rfl, nI_1 i, h12⟩))
      rw [nI_clamp (by omega)]
      exact hO.enR (EN_up hO.en h11)
    · rintro ⟨b, m⟩ ⟨rfl, hO⟩
      unfold st_Model_unpack_78
      exact T.pos (nI_le (Nat.le_refl _) (by decide)) (T.some' ⟨_, rfl, hO⟩)
theorem t_Model_yearGoes_12 {z : Zt} {F : Nat} {g : Mem} {s : Int32 × Mem} (hF : 4294967296 < F) (hs : J_Model_yearGoes_12 z s) : T (st_Model_yearGoes_12 F g s) (LQ (J_Model_yearGoes_12 z) (Q_Model_yearGoes_12 z) (fun s => s.1) s.1) := by
  unfold st_Model_yearGoes_12
  refine T.rdK 0 (P := fun z => B 0 6 z ∧ z = (s.2) 58 0) (B.ib (show B 0 0 (0 : Int32) from ⟨by decide, by decide⟩) (by decide)) rfl ⟨hs.2.told0, rfl⟩ (fun v1 h1 => ?_)
  refine T.cond (fun c2 => ?_) (fun c2 => ?_)
  · exact T.some' (show Inv z s.2 from hs.2)
  · have f3 : B 1 6 (v1) := B.nlel c2 h1.1 hs.1 (by decide)
    have f4 : B 0 5 (s.1) := B.nler c2 h1.1 hs.1 (by decide)
    refine T.callB (t_Model_isOf ) (fun v3 h5 => ?_)
    refine T.cond (fun c6 => ?_) (fun c6 => ?_)
    · have f7 : B 0 0 (v3) := B.eql c6 h5 (show B 0 0 (0 : Int32) from ⟨by decide, by decide⟩) (by decide)
      refine T.rdU (B.ib f4 (by decide)) (fun v5 => ?_)
      refine T.rdU (B.ib f4 (by decide)) (fun v6 => ?_)
      refine T.rdU (B.ib (show B 1 1 (1 : Int32) from ⟨by decide, by decide⟩) (by decide)) (fun v7 => ?_)
      refine T.callB (t_Model_mayHave ) (fun v8 h8 => ?_)
      refine T.callB (t_JMath_min ) (fun v9 h9 => ?_)
      refine T.wrI (I := fun m => Inv z m ∧ ∀ q, q ≠ 61 → m q = (s.2) q) (B.ib f4 (by decide)) ⟨hs.2.fra rfl, fun q hq => mset_rowF _ _ _ hq⟩ (fun g10 h10 => ?_)
      have b11 : B 1 6 (s.1 + 1) := B.add f4 (show B 1 1 (1 : Int32) from ⟨by decide, by decide⟩) (by decide)
      exact T.some' (show J_Model_yearGoes_12 z (s.1 + 1, g10) ∧ s.1 + 1 = s.1 + 1 from ⟨⟨(B.wk b11 (by decide)), h10.1⟩, rfl⟩)
    · have f12 : B 1 1 (v3) := B.nelo c6 h5 (show B 0 0 (0 : Int32) from ⟨by decide, by decide⟩) (by decide)
      have b13 : B 1 6 (s.1 + 1) := B.add f4 (show B 1 1 (1 : Int32) from ⟨by decide, by decide⟩) (by decide)
      exact T.some' (show J_Model_yearGoes_12 z (s.1 + 1, s.2) ∧ s.1 + 1 = s.1 + 1 from ⟨⟨(B.wk b13 (by decide)), hs.2⟩, rfl⟩)
theorem t_Model_yearGoes {z : Zt} {F : Nat} {g : Mem} (hF : 4294967296 < F) (hIg : Inv z g) : T (sp_Model_yearGoes F g) (fun r => Inv z r) := by
  unfold sp_Model_yearGoes
  have hM1 : Inv z (mset g 54 24 ((g 54 24) + 1)) := hIg.fre rfl
  refine T.callB (T.lpc (J := J_Model_yearGoes_12 z) (Q := Q_Model_yearGoes_12 z) (fun s => s.1) 0 6 (by decide) (fun s h => h.1) (fun s h => t_Model_yearGoes_12 hF h) F _ (show J_Model_yearGoes_12 z (0, mset g 54 24 ((g 54 24) + 1)) from ⟨(B.wk (show B 0 0 (0 : Int32) from ⟨by decide, by decide⟩) (by decide)), hM1⟩) hF) (fun x11 h2 => ?_)
  have h2 : Inv z x11 := h2
  refine T.callB (t_Model_loseFar hF h2) (fun v12 h3 => ?_)
  exact T.some' (show Inv z v12.2 from h3.2)
theorem t_Model_mothsEat_6 {z : Zt} {F : Nat} {p0 : Int32} {p1 : Int32} {p2 : Int32} {g : Mem} {k1 : Int32} {k2 : Int32} {k3 : Int32} {s : Int32 × Int32 × Mem} (hF : 4294967296 < F) (hp0 : B 0 5 p0) (hp1 : B 0 60 p1) (hk1 : B 0 5 k1) (hk2 : B 0 60 k2) (hs : J_Model_mothsEat_6 z s) : T (st_Model_mothsEat_6 F p0 p1 p2 g k1 k2 k3 s) (LQ (J_Model_mothsEat_6 z) (Q_Model_mothsEat_6 z) (fun s => s.2.1) s.2.1) := by
  unfold st_Model_mothsEat_6
  refine T.cond (fun c1 => ?_) (fun c1 => ?_)
  · exact T.some' (show B (-2147483648) 2147483647 s.1 ∧ Inv z s.2.2 from ⟨(B.any s.1), hs.2.2⟩)
  · have f2 : B 1 24 (s.2.2 54 26) := B.nlel c1 hs.2.2.many hs.2.1 (by decide)
    have f3 : B 0 23 (s.2.1) := B.nler c1 hs.2.2.many hs.2.1 (by decide)
    refine T.callB (t_Model_isThere f3 hs.2.2) (fun v2 h4 => ?_)
    refine T.cond (fun c5 => ?_) (fun c5 => ?_)
    · have f6 : B 0 0 (v2) := B.eql c5 h4 (show B 0 0 (0 : Int32) from ⟨by decide, by decide⟩) (by decide)
      have b7 : B 1 24 (s.2.1 + 1) := B.add f3 (show B 1 1 (1 : Int32) from ⟨by decide, by decide⟩) (by decide)
      exact T.some' (show J_Model_mothsEat_6 z (s.1, s.2.1 + 1, s.2.2) ∧ s.2.1 + 1 = s.2.1 + 1 from ⟨⟨(B.any s.1), (B.wk b7 (by decide)), hs.2.2⟩, rfl⟩)
    · have f8 : B 1 1 (v2) := B.nelo c5 h4 (show B 0 0 (0 : Int32) from ⟨by decide, by decide⟩) (by decide)
      refine T.callB (t_Model_of1 f3 hs.2.2) (fun v4 h9 => ?_)
      refine T.cond (fun c10 => ?_) (fun c10 => ?_)
      · refine T.rdU (B.ib hk1 (by decide)) (fun v6 => ?_)
        refine T.cond (fun c11 => ?_) (fun c11 => ?_)
        · have f12 : B 3 3 (v6) := B.eql c11 (B.any v6) (show B 3 3 (3 : Int32) from ⟨by decide, by decide⟩) (by decide)
          have b13 : B 1 24 (s.2.1 + 1) := B.add f3 (show B 1 1 (1 : Int32) from ⟨by decide, by decide⟩) (by decide)
          exact T.some' (show J_Model_mothsEat_6 z (s.1, s.2.1 + 1, s.2.2) ∧ s.2.1 + 1 = s.2.1 + 1 from ⟨⟨(B.any s.1), (B.wk b13 (by decide)), hs.2.2⟩, rfl⟩)
        · refine T.callB (t_Model_of f3 (B.wk (show B 6 6 (6 : Int32) from ⟨by decide, by decide⟩) (by decide)) hs.2.2) (fun v8 h14 => ?_)
          refine T.cond (fun c15 => ?_) (fun c15 => ?_)
          · have f16 : B 1 1 (v8) := B.eql c15 (B.any v8) (show B 1 1 (1 : Int32) from ⟨by decide, by decide⟩) (by decide)
            have b17 : B 1 24 (s.2.1 + 1) := B.add f3 (show B 1 1 (1 : Int32) from ⟨by decide, by decide⟩) (by decide)
            exact T.some' (show J_Model_mothsEat_6 z (s.1, s.2.1 + 1, s.2.2) ∧ s.2.1 + 1 = s.2.1 + 1 from ⟨⟨(B.any s.1), (B.wk b17 (by decide)), hs.2.2⟩, rfl⟩)
          · refine T.callB (t_Model_old f3 hs.2.2) (fun v10 h18 => ?_)
            refine T.cond (fun c19 => ?_) (fun c19 => ?_)
            · have f20 : B (-2147483648) 59 (v10) := B.ltl c19 (B.any v10) hk2 (by decide)
              have b21 : B 1 24 (s.2.1 + 1) := B.add f3 (show B 1 1 (1 : Int32) from ⟨by decide, by decide⟩) (by decide)
              exact T.some' (show J_Model_mothsEat_6 z (s.1, s.2.1 + 1, s.2.2) ∧ s.2.1 + 1 = s.2.1 + 1 from ⟨⟨(B.any s.1), (B.wk b21 (by decide)), hs.2.2⟩, rfl⟩)
            · have f22 : B 0 2147483647 (v10) := B.nltl c19 (B.any v10) hk2 (by decide)
              refine T.callB (t_Model_old f3 hs.2.2) (fun v12 h23 => ?_)
              refine T.cond (fun c24 => ?_) (fun c24 => ?_)
              · refine T.callB (t_Model_lose f3 hs.2.2) (fun v14 h25 => ?_)
                have b26 : B 1 24 (s.2.1 + 1) := B.add f3 (show B 1 1 (1 : Int32) from ⟨by decide, by decide⟩) (by decide)
                exact T.some' (show J_Model_mothsEat_6 z (s.1 + 1, s.2.1 + 1, v14) ∧ s.2.1 + 1 = s.2.1 + 1 from ⟨⟨(B.any (s.1 + 1)), (B.wk b26 (by decide)), h25⟩, rfl⟩)
              · have f27 : B (-2147483647) 2147483647 (v12) := B.nlel c24 (B.any v12) (B.any k3) (by decide)
                have f28 : B (-2147483648) 2147483646 (k3) := B.nler c24 (B.any v12) (B.any k3) (by decide)
                have b29 : B 1 24 (s.2.1 + 1) := B.add f3 (show B 1 1 (1 : Int32) from ⟨by decide, by decide⟩) (by decide)
                exact T.some' (show J_Model_mothsEat_6 z (s.1, s.2.1 + 1, s.2.2) ∧ s.2.1 + 1 = s.2.1 + 1 from ⟨⟨(B.any s.1), (B.wk b29 (by decide)), hs.2.2⟩, rfl⟩)
      · have b30 : B 1 24 (s.2.1 + 1) := B.add f3 (show B 1 1 (1 : Int32) from ⟨by decide, by decide⟩) (by decide)
        exact T.some' (show J_Model_mothsEat_6 z (s.1, s.2.1 + 1, s.2.2) ∧ s.2.1 + 1 = s.2.1 + 1 from ⟨⟨(B.any s.1), (B.wk b30 (by decide)), hs.2.2⟩, rfl⟩)
theorem t_Model_mothsEat {z : Zt} {F : Nat} {p0 : Int32} {p1 : Int32} {p2 : Int32} {g : Mem} (hF : 4294967296 < F) (hp0 : B 0 5 p0) (hp1 : B 0 60 p1) (hIg : Inv z g) : T (sp_Model_mothsEat F p0 p1 p2 g) (fun r => B (-2147483648) 2147483647 r.1 ∧ Inv z r.2) := by
  unfold sp_Model_mothsEat
  refine T.callB (T.lpc (J := J_Model_mothsEat_6 z) (Q := Q_Model_mothsEat_6 z) (fun s => s.2.1) 0 24 (by decide) (fun s h => h.2.1) (fun s h => t_Model_mothsEat_6 hF hp0 hp1 hp0 hp1 h) F _ (show J_Model_mothsEat_6 z (0, 0, g) from ⟨(B.any (0 : Int32)), (B.wk (show B 0 0 (0 : Int32) from ⟨by decide, by decide⟩) (by decide)), hIg⟩) hF) (fun x15 h1 => ?_)
  have h1 : B (-2147483648) 2147483647 x15.1 ∧ Inv z x15.2 := h1
  exact T.some' (show B (-2147483648) 2147483647 x15.1 ∧ Inv z x15.2 from ⟨(B.any x15.1), h1.2⟩)
theorem t_Model_holdersOf_4 {z : Zt} {F : Nat} {p0 : Int32} {g : Mem} {k1 : Int32} {s : Int32 × Int32} (hF : 4294967296 < F) (hIg : Inv z g) (hs : J_Model_holdersOf_4 z s) : T (st_Model_holdersOf_4 F p0 g k1 s) (LQ (J_Model_holdersOf_4 z) (Q_Model_holdersOf_4 z) (fun s => s.2) s.2) := by
  unfold st_Model_holdersOf_4
  refine T.cond (fun c1 => ?_) (fun c1 => ?_)
  · exact T.some' (show B (-2147483648) 2147483647 s.1 from (B.any s.1))
  · have f2 : B 1 24 (g 54 26) := B.nlel c1 hIg.many hs.2 (by decide)
    have f3 : B 0 23 (s.2) := B.nler c1 hIg.many hs.2 (by decide)
    refine T.callB (t_Model_isThere f3 hIg) (fun v2 h4 => ?_)
    refine T.cond (fun c5 => ?_) (fun c5 => ?_)
    · have f6 : B 0 0 (v2) := B.eql c5 h4 (show B 0 0 (0 : Int32) from ⟨by decide, by decide⟩) (by decide)
      have b7 : B 1 24 (s.2 + 1) := B.add f3 (show B 1 1 (1 : Int32) from ⟨by decide, by decide⟩) (by decide)
      exact T.some' (show J_Model_holdersOf_4 z (s.1, s.2 + 1) ∧ s.2 + 1 = s.2 + 1 from ⟨⟨(B.any s.1), (B.wk b7 (by decide))⟩, rfl⟩)
    · have f8 : B 1 1 (v2) := B.nelo c5 h4 (show B 0 0 (0 : Int32) from ⟨by decide, by decide⟩) (by decide)
      refine T.callB (t_Model_of f3 (B.wk (show B 7 7 (7 : Int32) from ⟨by decide, by decide⟩) (by decide)) hIg) (fun v4 h9 => ?_)
      refine T.cond (fun c10 => ?_) (fun c10 => ?_)
      · refine T.callB (t_Model_of1 f3 hIg) (fun v6 h11 => ?_)
        have b12 : B 1 24 (s.2 + 1) := B.add f3 (show B 1 1 (1 : Int32) from ⟨by decide, by decide⟩) (by decide)
        exact T.some' (show J_Model_holdersOf_4 z (s.1 ||| (1 <<< (v6 &&& 31)), s.2 + 1) ∧ s.2 + 1 = s.2 + 1 from ⟨⟨(B.any (s.1 ||| (1 <<< (v6 &&& 31)))), (B.wk b12 (by decide))⟩, rfl⟩)
      · have b13 : B 1 24 (s.2 + 1) := B.add f3 (show B 1 1 (1 : Int32) from ⟨by decide, by decide⟩) (by decide)
        exact T.some' (show J_Model_holdersOf_4 z (s.1, s.2 + 1) ∧ s.2 + 1 = s.2 + 1 from ⟨⟨(B.any s.1), (B.wk b13 (by decide))⟩, rfl⟩)
theorem t_Model_holdersOf {z : Zt} {F : Nat} {p0 : Int32} {g : Mem} (hF : 4294967296 < F) (hIg : Inv z g) : T (sp_Model_holdersOf F p0 g) (fun r => B (-2147483648) 2147483647 r) := by
  unfold sp_Model_holdersOf
  refine T.callB (T.lpc (J := J_Model_holdersOf_4 z) (Q := Q_Model_holdersOf_4 z) (fun s => s.2) 0 24 (by decide) (fun s h => h.2) (fun s h => t_Model_holdersOf_4 hF hIg h) F _ (show J_Model_holdersOf_4 z (0, 0) from ⟨(B.any (0 : Int32)), (B.wk (show B 0 0 (0 : Int32) from ⟨by decide, by decide⟩) (by decide))⟩) hF) (fun x7 h1 => ?_)
  have h1 : B (-2147483648) 2147483647 x7 := h1
  exact T.some' (show B (-2147483648) 2147483647 x7 from (B.any x7))
theorem t_Model_records_4 {z : Zt} {F : Nat} {g : Mem} {s : Int32 × Int32} (hF : 4294967296 < F) (hIg : Inv z g) (hs : J_Model_records_4 z s) : T (st_Model_records_4 F g s) (LQ (J_Model_records_4 z) (Q_Model_records_4 z) (fun s => s.2) s.2) := by
  unfold st_Model_records_4
  refine T.cond (fun c1 => ?_) (fun c1 => ?_)
  · exact T.some' (show B (-2147483648) 2147483647 s.1 from (B.any s.1))
  · have f2 : B 1 24 (g 54 26) := B.nlel c1 hIg.many hs.2 (by decide)
    have f3 : B 0 23 (s.2) := B.nler c1 hIg.many hs.2 (by decide)
    refine T.callB (t_Model_isThere f3 hIg) (fun v2 h4 => ?_)
    refine T.cond (fun c5 => ?_) (fun c5 => ?_)
    · have f6 : B 0 0 (v2) := B.eql c5 h4 (show B 0 0 (0 : Int32) from ⟨by decide, by decide⟩) (by decide)
      have b7 : B 1 24 (s.2 + 1) := B.add f3 (show B 1 1 (1 : Int32) from ⟨by decide, by decide⟩) (by decide)
      exact T.some' (show J_Model_records_4 z (s.1, s.2 + 1) ∧ s.2 + 1 = s.2 + 1 from ⟨⟨(B.any s.1), (B.wk b7 (by decide))⟩, rfl⟩)
    · have f8 : B 1 1 (v2) := B.nelo c5 h4 (show B 0 0 (0 : Int32) from ⟨by decide, by decide⟩) (by decide)
      refine T.callB (t_Model_of f3 (B.wk (show B 7 7 (7 : Int32) from ⟨by decide, by decide⟩) (by decide)) hIg) (fun v4 h9 => ?_)
      have b10 : B 1 24 (s.2 + 1) := B.add f3 (show B 1 1 (1 : Int32) from ⟨by decide, by decide⟩) (by decide)
      exact T.some' (show J_Model_records_4 z (s.1 ||| (1 <<< (v4 &&& 31)), s.2 + 1) ∧ s.2 + 1 = s.2 + 1 from ⟨⟨(B.any (s.1 ||| (1 <<< (v4 &&& 31)))), (B.wk b10 (by decide))⟩, rfl⟩)
theorem t_Model_records {z : Zt} {F : Nat} {g : Mem} (hF : 4294967296 < F) (hIg : Inv z g) : T (sp_Model_records F g) (fun r => B (-2147483648) 2147483647 r) := by
  unfold sp_Model_records
  refine T.callB (T.lpc (J := J_Model_records_4 z) (Q := Q_Model_records_4 z) (fun s => s.2) 0 24 (by decide) (fun s h => h.2) (fun s h => t_Model_records_4 hF hIg h) F _ (show J_Model_records_4 z (0, 0) from ⟨(B.any (0 : Int32)), (B.wk (show B 0 0 (0 : Int32) from ⟨by decide, by decide⟩) (by decide))⟩) hF) (fun x5 h1 => ?_)
  have h1 : B (-2147483648) 2147483647 x5 := h1
  exact T.some' (show B (-2147483648) 2147483647 x5 from (B.any x5))
theorem and_less {v : Int32} (h : ¬ v = 0) : (v &&& (v - 1)).toBitVec.toNat < v.toBitVec.toNat := by
  have e1 : (v &&& (v - 1)).toBitVec = v.toBitVec &&& (v.toBitVec - 1#32) := rfl
  have hz : v.toBitVec ≠ 0#32 := fun q => h (Int32.toBitVec_inj.mp (q.trans rfl))
  have hp : 0 < v.toBitVec.toNat := Nat.pos_of_ne_zero (fun q => hz (BitVec.eq_of_toNat_eq (q.trans rfl)))
  rw [e1, BitVec.toNat_and]
  have h2 : (v.toBitVec - 1#32).toNat = v.toBitVec.toNat - 1 := by
    rw [BitVec.toNat_sub]
    have := v.toBitVec.isLt
    show (4294967296 - 1 + v.toBitVec.toNat) % 4294967296 = v.toBitVec.toNat - 1
    omega
  rw [h2]
  have := @Nat.and_le_right v.toBitVec.toNat (v.toBitVec.toNat - 1)
  omega
theorem t_Model_bitsOf {F : Nat} {p0 : Int32} {g : Mem} (hF : 4294967296 < F) : T (sp_Model_bitsOf F p0 g) (fun r => B (-2147483648) 2147483647 r) := by
  unfold sp_Model_bitsOf
  refine T.callB (P := fun _ => True) (T.lpm (J := fun _ => True) (fun s => s.2.toBitVec.toNat) (fun s _ => ?_) F _ trivial ?_) (fun v _ => T.some' (B.any v))
  · unfold st_Model_bitsOf_4
    refine T.cond (fun c => T.some' trivial) (fun c => T.some' ⟨trivial, and_less c⟩)
  · have := p0.toBitVec.isLt
    show p0.toBitVec.toNat < F
    omega
theorem t_Model_ageOf {z : Zt} {p0 : Int32} {g : Mem} (hp0 : B 0 5 p0) (hIg : Inv z g) : T (sp_Model_ageOf p0 g) (fun r => B (-2147483648) 2147483647 r) := by
  unfold sp_Model_ageOf
  refine T.rdU (B.ib hp0 (by decide)) (fun v1 => ?_)
  refine T.callB (t_Model_yearOf hp0 hIg) (fun v2 h1 => ?_)
  exact T.some' (show B (-2147483648) 2147483647 (v1 + v2) from (B.any (v1 + v2)))
theorem t_Model_isGrey {z : Zt} {p0 : Int32} {g : Mem} (hp0 : B 0 5 p0) (hIg : Inv z g) : T (sp_Model_isGrey p0 g) (fun r => B 0 1 r) := by
  unfold sp_Model_isGrey
  refine T.callB (t_Model_ageOf hp0 hIg) (fun v1 h1 => ?_)
  refine T.rdU (B.ib (show B 2 2 (2 : Int32) from ⟨by decide, by decide⟩) (by decide)) (fun v2 => ?_)
  refine T.cond (fun c2 => ?_) (fun c2 => ?_)
  · have f3 : B (-2147483648) 2147483646 (v1) := B.ltl c2 (B.any v1) (B.any v2) (by decide)
    have f4 : B (-2147483647) 2147483647 (v2) := B.ltr c2 (B.any v1) (B.any v2) (by decide)
    exact T.some' (show B 0 1 (0 : Int32) from (B.wk (show B 0 0 (0 : Int32) from ⟨by decide, by decide⟩) (by decide)))
  · exact T.some' (show B 0 1 (1 : Int32) from (B.wk (show B 1 1 (1 : Int32) from ⟨by decide, by decide⟩) (by decide)))
theorem t_Model_thereMany_4 {z : Zt} {F : Nat} {g : Mem} {s : Int32 × Int32} (hF : 4294967296 < F) (hIg : Inv z g) (hs : J_Model_thereMany_4 z s) : T (st_Model_thereMany_4 F g s) (LQ (J_Model_thereMany_4 z) (Q_Model_thereMany_4 z) (fun s => s.2) s.2) := by
  unfold st_Model_thereMany_4
  refine T.cond (fun c1 => ?_) (fun c1 => ?_)
  · exact T.some' (show B (-2147483648) 2147483647 s.1 from (B.any s.1))
  · have f2 : B 1 24 (g 54 26) := B.nlel c1 hIg.many hs.2 (by decide)
    have f3 : B 0 23 (s.2) := B.nler c1 hIg.many hs.2 (by decide)
    refine T.callB (t_Model_isThere f3 hIg) (fun v2 h4 => ?_)
    refine T.cond (fun c5 => ?_) (fun c5 => ?_)
    · have f6 : B 0 0 (v2) := B.eql c5 h4 (show B 0 0 (0 : Int32) from ⟨by decide, by decide⟩) (by decide)
      have b7 : B (-2147483648) 2147483647 (s.1 + 0) := B.add (B.any s.1) (show B 0 0 (0 : Int32) from ⟨by decide, by decide⟩) (by decide)
      have b8 : B 1 24 (s.2 + 1) := B.add f3 (show B 1 1 (1 : Int32) from ⟨by decide, by decide⟩) (by decide)
      exact T.some' (show J_Model_thereMany_4 z (s.1 + 0, s.2 + 1) ∧ s.2 + 1 = s.2 + 1 from ⟨⟨b7, (B.wk b8 (by decide))⟩, rfl⟩)
    · have f9 : B 1 1 (v2) := B.nelo c5 h4 (show B 0 0 (0 : Int32) from ⟨by decide, by decide⟩) (by decide)
      have b10 : B 1 24 (s.2 + 1) := B.add f3 (show B 1 1 (1 : Int32) from ⟨by decide, by decide⟩) (by decide)
      exact T.some' (show J_Model_thereMany_4 z (s.1 + 1, s.2 + 1) ∧ s.2 + 1 = s.2 + 1 from ⟨⟨(B.any (s.1 + 1)), (B.wk b10 (by decide))⟩, rfl⟩)
theorem t_Model_thereMany {z : Zt} {F : Nat} {g : Mem} (hF : 4294967296 < F) (hIg : Inv z g) : T (sp_Model_thereMany F g) (fun r => B (-2147483648) 2147483647 r) := by
  unfold sp_Model_thereMany
  refine T.callB (T.lpc (J := J_Model_thereMany_4 z) (Q := Q_Model_thereMany_4 z) (fun s => s.2) 0 24 (by decide) (fun s h => h.2) (fun s h => t_Model_thereMany_4 hF hIg h) F _ (show J_Model_thereMany_4 z (0, 0) from ⟨(B.any (0 : Int32)), (B.wk (show B 0 0 (0 : Int32) from ⟨by decide, by decide⟩) (by decide))⟩) hF) (fun x4 h1 => ?_)
  have h1 : B (-2147483648) 2147483647 x4 := h1
  exact T.some' (show B (-2147483648) 2147483647 x4 from (B.any x4))
theorem t_Model_count {z : Zt} {F : Nat} {p0 : Int32} {g : Mem} (hF : 4294967296 < F) (hIg : Inv z g) : T (sp_Model_count F p0 g) (fun r => B (-2147483648) 2147483647 r.1 ∧ Inv z r.2) := by
  unfold sp_Model_count
  refine T.cond (fun c1 => ?_) (fun c1 => ?_)
  · have f2 : B 0 0 (p0) := B.eql c1 (B.any p0) (show B 0 0 (0 : Int32) from ⟨by decide, by decide⟩) (by decide)
    refine T.cond (fun c3 => ?_) (fun c3 => ?_)
    · have hM4 : Inv z (mset g 54 3 0) := hIg.fre rfl
      refine T.rdK 0 (P := fun z => B 0 6 z ∧ z = (mset g 54 3 0) 58 0) (B.ib (show B 0 0 (0 : Int32) from ⟨by decide, by decide⟩) (by decide)) rfl ⟨hM4.told0, rfl⟩ (fun v3 h5 => ?_)
      exact T.some' (show B (-2147483648) 2147483647 v3 ∧ Inv z (mset g 54 3 0) from ⟨(B.any v3), hM4⟩)
    · exact absurd (B.yes_eq f2 (show B 0 0 (0 : Int32) from ⟨by decide, by decide⟩) (by decide)) c3
  · refine T.cond (fun c6 => ?_) (fun c6 => ?_)
    · have f7 : B 1 1 (p0) := B.eql c6 (B.any p0) (show B 1 1 (1 : Int32) from ⟨by decide, by decide⟩) (by decide)
      have hM8 : Inv z (mset g 54 3 0) := hIg.fre rfl
      exact T.some' (show B (-2147483648) 2147483647 ((mset g 54 3 0) 54 26) ∧ Inv z (mset g 54 3 0) from ⟨(B.any ((mset g 54 3 0) 54 26)), hM8⟩)
    · refine T.cond (fun c9 => ?_) (fun c9 => ?_)
      · have f10 : B 2 2 (p0) := B.eql c9 (B.any p0) (show B 2 2 (2 : Int32) from ⟨by decide, by decide⟩) (by decide)
        refine T.cond (fun c11 => ?_) (fun c11 => ?_)
        · exact absurd c11 (B.no_eq f10 (show B 0 0 (0 : Int32) from ⟨by decide, by decide⟩) (by decide))
        · have hM12 : Inv z (mset g 54 3 0) := hIg.fre rfl
          have b13 : B 1 1 (p0 - 1) := B.sub f10 (show B 1 1 (1 : Int32) from ⟨by decide, by decide⟩) (by decide)
          refine T.rdU (B.ib b13 (by decide)) (fun v9 => ?_)
          exact T.some' (show B (-2147483648) 2147483647 v9 ∧ Inv z (mset g 54 3 0) from ⟨(B.any v9), hM12⟩)
      · refine T.cond (fun c14 => ?_) (fun c14 => ?_)
        · have f15 : B 3 3 (p0) := B.eql c14 (B.any p0) (show B 3 3 (3 : Int32) from ⟨by decide, by decide⟩) (by decide)
          refine T.cond (fun c16 => ?_) (fun c16 => ?_)
          · exact absurd c16 (B.no_eq f15 (show B 0 0 (0 : Int32) from ⟨by decide, by decide⟩) (by decide))
          · have hM17 : Inv z (mset g 54 3 0) := hIg.fre rfl
            have b18 : B 2 2 (p0 - 1) := B.sub f15 (show B 1 1 (1 : Int32) from ⟨by decide, by decide⟩) (by decide)
            refine T.rdU (B.ib b18 (by decide)) (fun v13 => ?_)
            exact T.some' (show B (-2147483648) 2147483647 v13 ∧ Inv z (mset g 54 3 0) from ⟨(B.any v13), hM17⟩)
        · refine T.cond (fun c19 => ?_) (fun c19 => ?_)
          · have f20 : B 4 4 (p0) := B.eql c19 (B.any p0) (show B 4 4 (4 : Int32) from ⟨by decide, by decide⟩) (by decide)
            refine T.cond (fun c21 => ?_) (fun c21 => ?_)
            · exact absurd c21 (B.no_eq f20 (show B 0 0 (0 : Int32) from ⟨by decide, by decide⟩) (by decide))
            · have hM22 : Inv z (mset g 54 3 0) := hIg.fre rfl
              have b23 : B 3 3 (p0 - 1) := B.sub f20 (show B 1 1 (1 : Int32) from ⟨by decide, by decide⟩) (by decide)
              refine T.rdU (B.ib b23 (by decide)) (fun v17 => ?_)
              exact T.some' (show B (-2147483648) 2147483647 v17 ∧ Inv z (mset g 54 3 0) from ⟨(B.any v17), hM22⟩)
          · refine T.cond (fun c24 => ?_) (fun c24 => ?_)
            · have f25 : B 5 5 (p0) := B.eql c24 (B.any p0) (show B 5 5 (5 : Int32) from ⟨by decide, by decide⟩) (by decide)
              have b26 : B (-2147483648) 2147483647 ((mset g 54 3 0) 54 24) := B.mset_o (by decide) (B.any (g 54 24))
              have hM27 : Inv z (mset g 54 3 0) := hIg.fre rfl
              exact T.some' (show B (-2147483648) 2147483647 ((mset g 54 3 0) 54 24) ∧ Inv z (mset g 54 3 0) from ⟨b26, hM27⟩)
            · refine T.cond (fun c28 => ?_) (fun c28 => ?_)
              · have f29 : B 6 6 (p0) := B.eql c28 (B.any p0) (show B 6 6 (6 : Int32) from ⟨by decide, by decide⟩) (by decide)
                have hM31 : Inv z (mset g 54 3 0) := hIg.fre rfl
                refine T.callB (t_Model_thereMany hF hM31) (fun v20 h30 => ?_)
                exact T.some' (show B (-2147483648) 2147483647 v20 ∧ Inv z (mset g 54 3 0) from ⟨(B.any v20), hM31⟩)
              · refine T.cond (fun c32 => ?_) (fun c32 => ?_)
                · have f33 : B 7 7 (p0) := B.eql c32 (B.any p0) (show B 7 7 (7 : Int32) from ⟨by decide, by decide⟩) (by decide)
                  have hM35 : Inv z (mset g 54 3 0) := hIg.fre rfl
                  refine T.callB (t_Model_records hF hM35) (fun v22 h34 => ?_)
                  refine T.callB (t_Model_bitsOf hF) (fun v23 h36 => ?_)
                  exact T.some' (show B (-2147483648) 2147483647 v23 ∧ Inv z (mset g 54 3 0) from ⟨(B.any v23), hM35⟩)
                · refine T.cond (fun c37 => ?_) (fun c37 => ?_)
                  · have f38 : B 8 8 (p0) := B.eql c37 (B.any p0) (show B 8 8 (8 : Int32) from ⟨by decide, by decide⟩) (by decide)
                    have b39 : B (-2147483648) 2147483647 ((mset g 54 3 0) 54 25) := B.mset_o (by decide) (B.any (g 54 25))
                    have hM40 : Inv z (mset g 54 3 0) := hIg.fre rfl
                    exact T.some' (show B (-2147483648) 2147483647 ((mset g 54 3 0) 54 25) ∧ Inv z (mset g 54 3 0) from ⟨b39, hM40⟩)
                  · refine T.cond (fun c41 => ?_) (fun c41 => ?_)
                    · have f42 : B 9 9 (p0) := B.eql c41 (B.any p0) (show B 9 9 (9 : Int32) from ⟨by decide, by decide⟩) (by decide)
                      have hM43 : Inv z (mset g 54 3 0) := hIg.fre rfl
                      exact T.some' (show B (-2147483648) 2147483647 ((mset g 54 3 0) 54 27) ∧ Inv z (mset g 54 3 0) from ⟨(B.any ((mset g 54 3 0) 54 27)), hM43⟩)
                    · refine T.cond (fun c44 => ?_) (fun c44 => ?_)
                      · have f45 : B 10 10 (p0) := B.eql c44 (B.any p0) (show B 10 10 (10 : Int32) from ⟨by decide, by decide⟩) (by decide)
                        have hM46 : Inv z (mset g 54 3 0) := hIg.fre rfl
                        exact T.some' (show B (-2147483648) 2147483647 ((mset g 54 3 0) 54 28) ∧ Inv z (mset g 54 3 0) from ⟨(B.any ((mset g 54 3 0) 54 28)), hM46⟩)
                      · refine T.cond (fun c47 => ?_) (fun c47 => ?_)
                        · have f48 : B 11 11 (p0) := B.eql c47 (B.any p0) (show B 11 11 (11 : Int32) from ⟨by decide, by decide⟩) (by decide)
                          have b49 : B (-2147483648) 2147483647 ((mset g 54 3 0) 54 12) := B.mset_o (by decide) (B.any (g 54 12))
                          have hM50 : Inv z (mset g 54 3 0) := hIg.fre rfl
                          exact T.some' (show B (-2147483648) 2147483647 ((mset g 54 3 0) 54 12) ∧ Inv z (mset g 54 3 0) from ⟨b49, hM50⟩)
                        · refine T.cond (fun c51 => ?_) (fun c51 => ?_)
                          · have f52 : B 12 12 (p0) := B.eql c51 (B.any p0) (show B 12 12 (12 : Int32) from ⟨by decide, by decide⟩) (by decide)
                            have hM53 : Inv z (mset g 54 3 0) := hIg.fre rfl
                            have b54 : B 0 0 (p0 - 12) := B.sub f52 (show B 12 12 (12 : Int32) from ⟨by decide, by decide⟩) (by decide)
                            refine T.rdU (B.ib b54 (by decide)) (fun v29 => ?_)
                            exact T.some' (show B (-2147483648) 2147483647 v29 ∧ Inv z (mset g 54 3 0) from ⟨(B.any v29), hM53⟩)
                          · refine T.cond (fun c55 => ?_) (fun c55 => ?_)
                            · have f56 : B 13 13 (p0) := B.eql c55 (B.any p0) (show B 13 13 (13 : Int32) from ⟨by decide, by decide⟩) (by decide)
                              have hM57 : Inv z (mset g 54 3 0) := hIg.fre rfl
                              have b58 : B 1 1 (p0 - 12) := B.sub f56 (show B 12 12 (12 : Int32) from ⟨by decide, by decide⟩) (by decide)
                              refine T.rdU (B.ib b58 (by decide)) (fun v31 => ?_)
                              exact T.some' (show B (-2147483648) 2147483647 v31 ∧ Inv z (mset g 54 3 0) from ⟨(B.any v31), hM57⟩)
                            · refine T.cond (fun c59 => ?_) (fun c59 => ?_)
                              · have f60 : B 14 14 (p0) := B.eql c59 (B.any p0) (show B 14 14 (14 : Int32) from ⟨by decide, by decide⟩) (by decide)
                                have hM61 : Inv z (mset g 54 3 0) := hIg.fre rfl
                                have b62 : B 2 2 (p0 - 12) := B.sub f60 (show B 12 12 (12 : Int32) from ⟨by decide, by decide⟩) (by decide)
                                refine T.rdU (B.ib b62 (by decide)) (fun v33 => ?_)
                                exact T.some' (show B (-2147483648) 2147483647 v33 ∧ Inv z (mset g 54 3 0) from ⟨(B.any v33), hM61⟩)
                              · have hM64 : Inv z (mset g 54 3 0) := hIg.fre rfl
                                refine T.callB (t_Model_fail hM64) (fun v34 h63 => ?_)
                                exact T.some' (show B (-2147483648) 2147483647 v34.1 ∧ Inv z v34.2 from ⟨(B.any v34.1), h63.2⟩)
theorem t_Model_monk_115 {z : Zt} {F : Nat} {p0 : Int32} {p1 : Int32} {g : Mem} {k1 : Int32} {m0 : Mem} {s : Int32 × Int32} (hF : 4294967296 < F) (hp0 : B 0 5 p0) (hp1 : B 5 5 p1) (hk1 : B 0 5 k1) (hIm0 : Inv z m0) (hs : J_Model_monk_115 z s) : T (st_Model_monk_115 F p0 p1 g k1 m0 s) (LQ (J_Model_monk_115 z) (Q_Model_monk_115 z) (fun s => s.2) s.2) := by
  unfold st_Model_monk_115
  refine T.cond (fun c1 => ?_) (fun c1 => ?_)
  · exact T.some' (show B (-2147483648) 2147483647 s.1 from (B.any s.1))
  · have f2 : B 1 24 (m0 54 26) := B.nlel c1 hIm0.many hs.2 (by decide)
    have f3 : B 0 23 (s.2) := B.nler c1 hIm0.many hs.2 (by decide)
    refine T.callB (t_Model_isThere f3 hIm0) (fun v19 h4 => ?_)
    refine T.cond (fun c5 => ?_) (fun c5 => ?_)
    · have f6 : B 0 0 (v19) := B.eql c5 h4 (show B 0 0 (0 : Int32) from ⟨by decide, by decide⟩) (by decide)
      have b7 : B (-2147483648) 2147483647 (s.1 + 0) := B.add (B.any s.1) (show B 0 0 (0 : Int32) from ⟨by decide, by decide⟩) (by decide)
      have b8 : B 1 24 (s.2 + 1) := B.add f3 (show B 1 1 (1 : Int32) from ⟨by decide, by decide⟩) (by decide)
      exact T.some' (show J_Model_monk_115 z (s.1 + 0, s.2 + 1) ∧ s.2 + 1 = s.2 + 1 from ⟨⟨b7, (B.wk b8 (by decide))⟩, rfl⟩)
    · have f9 : B 1 1 (v19) := B.nelo c5 h4 (show B 0 0 (0 : Int32) from ⟨by decide, by decide⟩) (by decide)
      refine T.callB (t_Model_of1 f3 hIm0) (fun v21 h10 => ?_)
      refine T.cond (fun c11 => ?_) (fun c11 => ?_)
      · have b12 : B 1 24 (s.2 + 1) := B.add f3 (show B 1 1 (1 : Int32) from ⟨by decide, by decide⟩) (by decide)
        exact T.some' (show J_Model_monk_115 z (s.1 + 1, s.2 + 1) ∧ s.2 + 1 = s.2 + 1 from ⟨⟨(B.any (s.1 + 1)), (B.wk b12 (by decide))⟩, rfl⟩)
      · have b13 : B (-2147483648) 2147483647 (s.1 + 0) := B.add (B.any s.1) (show B 0 0 (0 : Int32) from ⟨by decide, by decide⟩) (by decide)
        have b14 : B 1 24 (s.2 + 1) := B.add f3 (show B 1 1 (1 : Int32) from ⟨by decide, by decide⟩) (by decide)
        exact T.some' (show J_Model_monk_115 z (s.1 + 0, s.2 + 1) ∧ s.2 + 1 = s.2 + 1 from ⟨⟨b13, (B.wk b14 (by decide))⟩, rfl⟩)
theorem t_Model_monk {z : Zt} {F : Nat} {p0 : Int32} {p1 : Int32} {g : Mem} (hF : 4294967296 < F) (hIg : Inv z g) : T (sp_Model_monk F p0 p1 g) (fun r => B (-2147483648) 2147483647 r.1 ∧ Inv z r.2) := by
  unfold sp_Model_monk
  have hM2 : Inv z (mset g 54 3 0) := hIg.fre rfl
  refine T.callB (t_Model_isMonk hM2) (fun v1 h1 => ?_)
  refine T.cond (fun c3 => ?_) (fun c3 => ?_)
  · have f4 : B 0 0 (v1) := B.eql c3 h1.1 (show B 0 0 (0 : Int32) from ⟨by decide, by decide⟩) (by decide)
    refine T.callB (t_Model_fail hM2) (fun v3 h5 => ?_)
    exact T.some' (show B (-2147483648) 2147483647 v3.1 ∧ Inv z v3.2 from ⟨(B.any v3.1), h5.2⟩)
  · have q6 : B 0 5 (p0) := h1.2 c3
    have f7 : B 1 1 (v1) := B.nelo c3 h1.1 (show B 0 0 (0 : Int32) from ⟨by decide, by decide⟩) (by decide)
    refine T.cond (fun c8 => ?_) (fun c8 => ?_)
    · have f9 : B 0 0 (p1) := B.eql c8 (B.any p1) (show B 0 0 (0 : Int32) from ⟨by decide, by decide⟩) (by decide)
      refine T.rdU (B.ib q6 (by decide)) (fun v5 => ?_)
      exact T.some' (show B (-2147483648) 2147483647 v5 ∧ Inv z (mset g 54 3 0) from ⟨(B.any v5), hM2⟩)
    · refine T.cond (fun c10 => ?_) (fun c10 => ?_)
      · have f11 : B 1 1 (p1) := B.eql c10 (B.any p1) (show B 1 1 (1 : Int32) from ⟨by decide, by decide⟩) (by decide)
        refine T.callB (t_Model_ageOf q6 hM2) (fun v7 h12 => ?_)
        exact T.some' (show B (-2147483648) 2147483647 v7 ∧ Inv z (mset g 54 3 0) from ⟨(B.any v7), hM2⟩)
      · refine T.cond (fun c13 => ?_) (fun c13 => ?_)
        · have f14 : B 2 2 (p1) := B.eql c13 (B.any p1) (show B 2 2 (2 : Int32) from ⟨by decide, by decide⟩) (by decide)
          refine T.rdU (B.ib q6 (by decide)) (fun v9 => ?_)
          exact T.some' (show B (-2147483648) 2147483647 v9 ∧ Inv z (mset g 54 3 0) from ⟨(B.any v9), hM2⟩)
        · refine T.cond (fun c15 => ?_) (fun c15 => ?_)
          · have f16 : B 3 3 (p1) := B.eql c15 (B.any p1) (show B 3 3 (3 : Int32) from ⟨by decide, by decide⟩) (by decide)
            refine T.rdU (B.ib q6 (by decide)) (fun v11 => ?_)
            refine T.rdU (B.ib (show B 1 1 (1 : Int32) from ⟨by decide, by decide⟩) (by decide)) (fun v12 => ?_)
            refine T.callB (t_Model_mayHave ) (fun v13 h17 => ?_)
            exact T.some' (show B (-2147483648) 2147483647 v13 ∧ Inv z (mset g 54 3 0) from ⟨(B.any v13), hM2⟩)
          · refine T.cond (fun c18 => ?_) (fun c18 => ?_)
            · have f19 : B 4 4 (p1) := B.eql c18 (B.any p1) (show B 4 4 (4 : Int32) from ⟨by decide, by decide⟩) (by decide)
              refine T.callB (t_Model_isGrey q6 hM2) (fun v15 h20 => ?_)
              refine T.cond (fun c21 => ?_) (fun c21 => ?_)
              · have f22 : B 0 0 (v15) := B.eql c21 h20 (show B 0 0 (0 : Int32) from ⟨by decide, by decide⟩) (by decide)
                exact T.some' (show B (-2147483648) 2147483647 (0 : Int32) ∧ Inv z (mset g 54 3 0) from ⟨(B.any (0 : Int32)), hM2⟩)
              · have f23 : B 1 1 (v15) := B.nelo c21 h20 (show B 0 0 (0 : Int32) from ⟨by decide, by decide⟩) (by decide)
                exact T.some' (show B (-2147483648) 2147483647 (1 : Int32) ∧ Inv z (mset g 54 3 0) from ⟨(B.any (1 : Int32)), hM2⟩)
            · refine T.cond (fun c24 => ?_) (fun c24 => ?_)
              · have f25 : B 5 5 (p1) := B.eql c24 (B.any p1) (show B 5 5 (5 : Int32) from ⟨by decide, by decide⟩) (by decide)
                refine T.callB (T.lpc (J := J_Model_monk_115 z) (Q := Q_Model_monk_115 z) (fun s => s.2) 0 24 (by decide) (fun s h => h.2) (fun s h => t_Model_monk_115 hF q6 f25 q6 hM2 h) F _ (show J_Model_monk_115 z (0, 0) from ⟨(B.any (0 : Int32)), (B.wk (show B 0 0 (0 : Int32) from ⟨by decide, by decide⟩) (by decide))⟩) hF) (fun x23 h26 => ?_)
                have h26 : B (-2147483648) 2147483647 x23 := h26
                exact T.some' (show B (-2147483648) 2147483647 x23 ∧ Inv z (mset g 54 3 0) from ⟨(B.any x23), hM2⟩)
              · refine T.callB (t_Model_fail hM2) (fun v24 h27 => ?_)
                exact T.some' (show B (-2147483648) 2147483647 v24.1 ∧ Inv z v24.2 from ⟨(B.any v24.1), h27.2⟩)
theorem t_Model_entry {z : Zt} {p0 : Int32} {p1 : Int32} {g : Mem} (hIg : Inv z g) : T (sp_Model_entry p0 p1 g) (fun r => B (-2147483648) 2147483647 r.1 ∧ Inv z r.2) := by
  unfold sp_Model_entry
  have hM2 : Inv z (mset g 54 3 0) := hIg.fre rfl
  refine T.callB (t_Model_isEntry hM2) (fun v1 h1 => ?_)
  refine T.cond (fun c3 => ?_) (fun c3 => ?_)
  · have f4 : B 0 0 (v1) := B.eql c3 h1.1 (show B 0 0 (0 : Int32) from ⟨by decide, by decide⟩) (by decide)
    refine T.callB (t_Model_fail hM2) (fun v3 h5 => ?_)
    exact T.some' (show B (-2147483648) 2147483647 v3.1 ∧ Inv z v3.2 from ⟨(B.any v3.1), h5.2⟩)
  · have q6 : B 0 23 (p0) := h1.2 c3
    have f7 : B 1 1 (v1) := B.nelo c3 h1.1 (show B 0 0 (0 : Int32) from ⟨by decide, by decide⟩) (by decide)
    refine T.callB (t_Model_isInL (a := 0) (b := 9) (by decide) (by decide)) (fun v4 h8 => ?_)
    refine T.cond (fun c9 => ?_) (fun c9 => ?_)
    · have f10 : B 0 0 (v4) := B.eql c9 h8.1 (show B 0 0 (0 : Int32) from ⟨by decide, by decide⟩) (by decide)
      refine T.callB (t_Model_fail hM2) (fun v6 h11 => ?_)
      exact T.some' (show B (-2147483648) 2147483647 v6.1 ∧ Inv z v6.2 from ⟨(B.any v6.1), h11.2⟩)
    · have q12 : B 0 9 (p1) := h8.2 c9
      have f13 : B 1 1 (v4) := B.nelo c9 h8.1 (show B 0 0 (0 : Int32) from ⟨by decide, by decide⟩) (by decide)
      refine T.cond (fun c14 => ?_) (fun c14 => ?_)
      · have f15 : B 8 9 (p1) := B.ler c14 (show B 8 8 (8 : Int32) from ⟨by decide, by decide⟩) q12 (by decide)
        refine T.cond (fun c16 => ?_) (fun c16 => ?_)
        · have f17 : B 9 9 (p1) := B.eql c16 f15 (show B 9 9 (9 : Int32) from ⟨by decide, by decide⟩) (by decide)
          refine T.callB (t_Model_old q6 hM2) (fun v9 h18 => ?_)
          exact T.some' (show B (-2147483648) 2147483647 v9 ∧ Inv z (mset g 54 3 0) from ⟨(B.any v9), hM2⟩)
        · have f19 : B 8 8 (p1) := B.nehi c16 f15 (show B 9 9 (9 : Int32) from ⟨by decide, by decide⟩) (by decide)
          refine T.callB (t_Model_isThere q6 hM2) (fun v10 h20 => ?_)
          refine T.cond (fun c21 => ?_) (fun c21 => ?_)
          · have f22 : B 0 0 (v10) := B.eql c21 h20 (show B 0 0 (0 : Int32) from ⟨by decide, by decide⟩) (by decide)
            exact T.some' (show B (-2147483648) 2147483647 (0 : Int32) ∧ Inv z (mset g 54 3 0) from ⟨(B.any (0 : Int32)), hM2⟩)
          · have f23 : B 1 1 (v10) := B.nelo c21 h20 (show B 0 0 (0 : Int32) from ⟨by decide, by decide⟩) (by decide)
            exact T.some' (show B (-2147483648) 2147483647 (1 : Int32) ∧ Inv z (mset g 54 3 0) from ⟨(B.any (1 : Int32)), hM2⟩)
      · have f24 : B 0 7 (p1) := B.nler c14 (show B 8 8 (8 : Int32) from ⟨by decide, by decide⟩) q12 (by decide)
        refine T.callB (t_Model_of q6 (B.wk f24 (by decide)) hM2) (fun v12 h25 => ?_)
        exact T.some' (show B (-2147483648) 2147483647 v12 ∧ Inv z (mset g 54 3 0) from ⟨(B.any v12), hM2⟩)
theorem t_Model_holders {z : Zt} {F : Nat} {p0 : Int32} {g : Mem} (hF : 4294967296 < F) (hIg : Inv z g) : T (sp_Model_holders F p0 g) (fun r => B (-2147483648) 2147483647 r.1 ∧ Inv z r.2) := by
  unfold sp_Model_holders
  have hM2 : Inv z (mset g 54 3 0) := hIg.fre rfl
  refine T.callB (t_Model_isEntry hM2) (fun v1 h1 => ?_)
  refine T.cond (fun c3 => ?_) (fun c3 => ?_)
  · have f4 : B 0 0 (v1) := B.eql c3 h1.1 (show B 0 0 (0 : Int32) from ⟨by decide, by decide⟩) (by decide)
    refine T.callB (t_Model_fail hM2) (fun v3 h5 => ?_)
    exact T.some' (show B (-2147483648) 2147483647 v3.1 ∧ Inv z v3.2 from ⟨(B.any v3.1), h5.2⟩)
  · have q6 : B 0 23 (p0) := h1.2 c3
    have f7 : B 1 1 (v1) := B.nelo c3 h1.1 (show B 0 0 (0 : Int32) from ⟨by decide, by decide⟩) (by decide)
    refine T.callB (t_Model_of q6 (B.wk (show B 7 7 (7 : Int32) from ⟨by decide, by decide⟩) (by decide)) hM2) (fun v4 h8 => ?_)
    refine T.callB (t_Model_holdersOf hF hM2) (fun v5 h9 => ?_)
    exact T.some' (show B (-2147483648) 2147483647 v5 ∧ Inv z (mset g 54 3 0) from ⟨(B.any v5), hM2⟩)
theorem t_Model_reckon {p0 : Int32} {p1 : Int32} {p2 : Int32} {g : Mem}  : T (sp_Model_reckon p0 p1 p2 g) (fun r => B (-2147483648) 2147483647 r) := by
  unfold sp_Model_reckon
  refine T.cond (fun c1 => ?_) (fun c1 => ?_)
  · have f2 : B (-26) (-26) (p0) := B.eql c1 (B.any p0) (show B (-26) (-26) (-26 : Int32) from ⟨by decide, by decide⟩) (by decide)
    refine T.cond (fun c3 => ?_) (fun c3 => ?_)
    · have f4 : B 0 0 (p1) := B.eql c3 (B.any p1) (show B 0 0 (0 : Int32) from ⟨by decide, by decide⟩) (by decide)
      exact T.some' (show B (-2147483648) 2147483647 (0 : Int32) from (B.any (0 : Int32)))
    · refine T.cond (fun c5 => ?_) (fun c5 => ?_)
      · have f6 : B 0 0 (p2) := B.eql c5 (B.any p2) (show B 0 0 (0 : Int32) from ⟨by decide, by decide⟩) (by decide)
        exact T.some' (show B (-2147483648) 2147483647 (0 : Int32) from (B.any (0 : Int32)))
      · exact T.some' (show B (-2147483648) 2147483647 (1 : Int32) from (B.any (1 : Int32)))
  · refine T.cond (fun c7 => ?_) (fun c7 => ?_)
    · have f8 : B (-25) (-25) (p0) := B.eql c7 (B.any p0) (show B (-25) (-25) (-25 : Int32) from ⟨by decide, by decide⟩) (by decide)
      refine T.cond (fun c9 => ?_) (fun c9 => ?_)
      · exact T.some' (show B (-2147483648) 2147483647 (1 : Int32) from (B.any (1 : Int32)))
      · exact T.some' (show B (-2147483648) 2147483647 (0 : Int32) from (B.any (0 : Int32)))
    · refine T.cond (fun c10 => ?_) (fun c10 => ?_)
      · have f11 : B (-24) (-24) (p0) := B.eql c10 (B.any p0) (show B (-24) (-24) (-24 : Int32) from ⟨by decide, by decide⟩) (by decide)
        refine T.cond (fun c12 => ?_) (fun c12 => ?_)
        · exact T.some' (show B (-2147483648) 2147483647 (0 : Int32) from (B.any (0 : Int32)))
        · have f13 : B (-2147483647) 2147483647 (p2) := B.nlel c12 (B.any p2) (B.any p1) (by decide)
          have f14 : B (-2147483648) 2147483646 (p1) := B.nler c12 (B.any p2) (B.any p1) (by decide)
          exact T.some' (show B (-2147483648) 2147483647 (1 : Int32) from (B.any (1 : Int32)))
      · refine T.cond (fun c15 => ?_) (fun c15 => ?_)
        · have f16 : B (-23) (-23) (p0) := B.eql c15 (B.any p0) (show B (-23) (-23) (-23 : Int32) from ⟨by decide, by decide⟩) (by decide)
          refine T.cond (fun c17 => ?_) (fun c17 => ?_)
          · have f18 : B 0 0 (p2) := B.eql c17 (B.any p2) (show B 0 0 (0 : Int32) from ⟨by decide, by decide⟩) (by decide)
            exact T.some' (show B (-2147483648) 2147483647 (0 : Int32) from (B.any (0 : Int32)))
          · refine T.dvU c17 (fun v10 => ?_)
            exact T.some' (show B (-2147483648) 2147483647 v10 from (B.any v10))
        · refine T.cond (fun c19 => ?_) (fun c19 => ?_)
          · have f20 : B (-22) (-22) (p0) := B.eql c19 (B.any p0) (show B (-22) (-22) (-22 : Int32) from ⟨by decide, by decide⟩) (by decide)
            exact T.some' (show B (-2147483648) 2147483647 (p1 * p2) from (B.any (p1 * p2)))
          · refine T.cond (fun c21 => ?_) (fun c21 => ?_)
            · have f22 : B (-21) (-21) (p0) := B.eql c21 (B.any p0) (show B (-21) (-21) (-21 : Int32) from ⟨by decide, by decide⟩) (by decide)
              exact T.some' (show B (-2147483648) 2147483647 (p1 - p2) from (B.any (p1 - p2)))
            · refine T.cond (fun c23 => ?_) (fun c23 => ?_)
              · have f24 : B (-20) (-20) (p0) := B.eql c23 (B.any p0) (show B (-20) (-20) (-20 : Int32) from ⟨by decide, by decide⟩) (by decide)
                exact T.some' (show B (-2147483648) 2147483647 (p1 + p2) from (B.any (p1 + p2)))
              · refine T.cond (fun c25 => ?_) (fun c25 => ?_)
                · have f26 : B 0 0 (p1) := B.eql c25 (B.any p1) (show B 0 0 (0 : Int32) from ⟨by decide, by decide⟩) (by decide)
                  refine T.cond (fun c27 => ?_) (fun c27 => ?_)
                  · have f28 : B 0 0 (p2) := B.eql c27 (B.any p2) (show B 0 0 (0 : Int32) from ⟨by decide, by decide⟩) (by decide)
                    exact T.some' (show B (-2147483648) 2147483647 (0 : Int32) from (B.any (0 : Int32)))
                  · exact T.some' (show B (-2147483648) 2147483647 (1 : Int32) from (B.any (1 : Int32)))
                · exact T.some' (show B (-2147483648) 2147483647 (1 : Int32) from (B.any (1 : Int32)))
theorem hgt_lt {f : Nat → Int32} : ∀ {n k : Nat} {H : Nat}, hgt f n = some H → k ≤ n → ∃ h, hgt f k = some h := by
  intro n
  induction n with
  | zero => intro k H h hk; exact ⟨H, by rw [show k = 0 by omega]; exact h⟩
  | succ n ih =>
    intro k H h hk
    by_cases e : k = n + 1
    · exact ⟨H, by rw [e]; exact h⟩
    · have h2 : ∃ H', hgt f n = some H' := by
        unfold hgt at h
        cases h3 : hgt f n with
        | none => rw [h3] at h; cases h
        | some a => exact ⟨a, rfl⟩
      obtain ⟨H', h2⟩ := h2
      exact ih h2 (by omega)
theorem stp_lt {x : Int32} {h h' : Nat} (e : stp x h = some h') (hh : h ≤ 64) : h' ≤ 64 := by
  unfold stp at e
  split at e
  · split at e
    · cases e; omega
    · cases e
  · split at e
    · split at e
      · cases e; omega
      · cases e
    · split at e
      · cases e; omega
      · cases e
theorem t_Model_valueNow {z : Zt} {F : Nat} {g : Mem} (hF : 4294967296 < F) (hI : Inv z g) : T (sp_Model_valueNow F g) (fun r => B (-2147483648) 2147483647 r.1 ∧ Inv z r.2) := by
  obtain ⟨L, hL1, hL2, hL3, hL4⟩ := hI.told5.ex (by decide)
  obtain ⟨H, hH⟩ := hI.2.2.2.2.2.2.2.2
  rw [hL2, nI_clamp hL1] at hH
  unfold sp_Model_valueNow
  refine T.callB (P := fun m => Inv z m) ?_ (fun x hx => T.rdU (by decide) (fun v => T.some' ⟨B.any v, hx⟩))
  refine T.cnt L (fun i s => s.2.1 = nI i ∧ Inv z s.2.2 ∧ s.2.2 58 = g 58 ∧ s.2.2 63 = g 63 ∧ ∃ h, h ≤ 64 ∧ s.1 = nI h ∧ hgt (g 63) i = some h) ?_ ?_ L 0 _ F (by omega) ⟨rfl, hI, rfl, rfl, 0, by omega, rfl, rfl⟩ (by omega)
  · rintro i ⟨n, k, m⟩ hi ⟨hk, hm, e58, e63, h, hh, hn, hg⟩
    dsimp only at hk hm e58 e63 hn
    subst hk
    subst hn
    unfold st_Model_valueNow_4
    dsimp only
    refine T.rdK 5 (P := fun z => z = nI L) (by decide) rfl (by rw [e58]; exact hL2) (fun v1 hv1 => ?_)
    subst hv1
    refine T.neg (nI_ge hi (by omega)) ?_
    obtain ⟨h', hg'⟩ := hgt_lt hH (show i + 1 ≤ L by omega)
    have hst : stp (g 63 i) h = some h' := by
      have : hgt (g 63) (i + 1) = (hgt (g 63) i).bind (stp (g 63 i)) := rfl
      rw [this, hg] at hg'
      exact hg'
    have hh' := stp_lt hst hh
    refine T.rdK i (P := fun z => z = g 63 i) (inb_nI (by omega) (by omega)) (nI_clamp (by omega)) (by rw [e63]) (fun v3 hv3 => ?_)
    rw [← hv3] at hst
    have fin : ∀ (m' : Mem), (∃ f, m' = mrow m 69 f) → Inv z m' ∧ m' 58 = g 58 ∧ m' 63 = g 63 := fun m' ⟨f, e⟩ => by
      subst e
      exact ⟨hm.frr rfl, (mrow_other m f (by decide)).trans e58, (mrow_other m f (by decide)).trans e63⟩
    refine T.cond (fun c => ?_) (fun c => ?_)
    · have c' : ¬ (-20 : Int32) < v3 := Int32.not_lt.mpr c
      unfold stp at hst
      rw [if_neg c'] at hst
      refine T.cond (fun c2 => ?_) (fun c2 => ?_)
      · rw [if_pos c2] at hst
        split at hst
        · rename_i h1
          cases hst
          have e1 : nI h - 1 = nI (h - 1) := by
            have := nI_add (h - 1) 1
            rw [show h - 1 + 1 = h by omega] at this
            rw [← this]
            show nI (h - 1) + nI 1 - 1 = nI (h - 1)
            exact Int32.add_sub_cancel _ _
          rw [e1]
          refine T.rdU (inb_nI (by omega) (by omega)) (fun v6 => ?_)
          refine T.cond (fun c3 => ?_) (fun c3 => ?_)
          · refine T.wrI (I := fun m' => Inv z m' ∧ m' 58 = g 58 ∧ m' 63 = g 63) (inb_nI (by omega) (by omega)) (fin _ ⟨_, rfl⟩) (fun g9 h9 => T.some' (Or.inl ⟨_, rfl, nI_1 i, h9.1, h9.2.1, h9.2.2, h, hh', rfl, hg'⟩))
          · refine T.wrI (I := fun m' => Inv z m' ∧ m' 58 = g 58 ∧ m' 63 = g 63) (inb_nI (by omega) (by omega)) (fin _ ⟨_, rfl⟩) (fun g9 h9 => T.some' (Or.inl ⟨_, rfl, nI_1 i, h9.1, h9.2.1, h9.2.2, h, hh', rfl, hg'⟩))
        · cases hst
      · rw [if_neg c2] at hst
        split at hst
        · rename_i h1
          cases hst
          have em : nI h + (-1) = nI (h - 1) := by
            have := nI_add (h - 1) 1
            rw [show h - 1 + 1 = h by omega] at this
            rw [← this]
            show nI (h - 1) + nI 1 + (-1) = nI (h - 1)
            rw [Int32.add_assoc]
            show nI (h - 1) + 0 = nI (h - 1)
            exact Int32.add_zero _
          have e1 : nI (h - 1) - 1 = nI (h - 2) := by
            have := nI_add (h - 2) 1
            rw [show h - 2 + 1 = h - 1 by omega] at this
            rw [← this]
            show nI (h - 2) + nI 1 - 1 = nI (h - 2)
            exact Int32.add_sub_cancel _ _
          rw [em, e1]
          refine T.rdU (inb_nI (by omega) (by omega)) (fun v10 => ?_)
          refine T.rdU (inb_nI (by omega) (by omega)) (fun v11 => ?_)
          refine T.callB t_Model_reckon (fun v12 _ => ?_)
          refine T.wrI (I := fun m' => Inv z m' ∧ m' 58 = g 58 ∧ m' 63 = g 63) (inb_nI (by omega) (by omega)) (fin _ ⟨_, rfl⟩) (fun g9 h9 => T.some' (Or.inl ⟨_, rfl, nI_1 i, h9.1, h9.2.1, h9.2.2, h - 1, hh', rfl, hg'⟩))
        · cases hst
    · have c' : (-20 : Int32) < v3 := Int32.not_le.mp c
      unfold stp at hst
      rw [if_pos c'] at hst
      split at hst
      · rename_i h1
        cases hst
        refine T.cond (fun c3 => ?_) (fun c3 => ?_)
        · have b3 : B (-7) (-1) v3 := ⟨by have := ile.mp h1.2; have e7 : (-7 : Int32).toInt = -7 := (by decide); omega, by have := ilt.mp c3; have e0 : (0 : Int32).toInt = 0 := (by decide); omega⟩
          have bi : B 0 6 ((-1) - v3) := B.sub (show B (-1) (-1) (-1 : Int32) from ⟨by decide, by decide⟩) b3 (by decide)
          refine T.rdU (B.ib bi (by decide)) (fun v15 => ?_)
          refine T.wrI (I := fun m' => Inv z m' ∧ m' 58 = g 58 ∧ m' 63 = g 63) (inb_nI (by omega) (by omega)) (fin _ ⟨_, rfl⟩) (fun g9 h9 => T.some' (Or.inl ⟨_, rfl, nI_1 i, h9.1, h9.2.1, h9.2.2, h + 1, hh', nI_1 h, hg'⟩))
        · refine T.wrI (I := fun m' => Inv z m' ∧ m' 58 = g 58 ∧ m' 63 = g 63) (inb_nI (by omega) (by omega)) (fin _ ⟨_, rfl⟩) (fun g9 h9 => T.some' (Or.inl ⟨_, rfl, nI_1 i, h9.1, h9.2.1, h9.2.2, h + 1, hh', nI_1 h, hg'⟩))
      · cases hst
  · rintro ⟨n, k, m⟩ ⟨hk, hm, e58, e63, h, hh, hn, hg⟩
    dsimp only at hk hm e58 e63 hn
    subst hk
    unfold st_Model_valueNow_4
    dsimp only
    refine T.rdK 5 (P := fun z => z = nI L) (by decide) rfl (by rw [e58]; exact hL2) (fun v1 hv1 => ?_)
    subst hv1
    exact T.pos (nI_le (Nat.le_refl _) (by omega)) (T.some' ⟨_, rfl, hm⟩)
theorem t_Model_may_j52 {z : Zt} {F : Nat} {p0 : Int32} {p1 : Int32} {g : Mem} {m0 : Mem} {x1 : Int32} {x2 : Int32} {x3 : Int32} (hF : 4294967296 < F) (hp0 : B 0 5 p0) (hp1 : B 0 23 p1) (hx1 : B 0 5 x1) (hx2 : B 0 23 x2) (hx3 : B 0 5 x3) (hIm0 : Inv z m0) : T (sp_Model_may_j52 F p0 p1 g m0 x1 x2 x3) (fun r => B 0 1 r.1 ∧ Inv z r.2) := by
  unfold sp_Model_may_j52
  refine T.callB (t_Model_isThere hx2 hIm0) (fun v12 h1 => ?_)
  refine T.cond (fun c2 => ?_) (fun c2 => ?_)
  · have f3 : B 0 0 (v12) := B.eql c2 h1 (show B 0 0 (0 : Int32) from ⟨by decide, by decide⟩) (by decide)
    exact T.some' (show B 0 1 (0 : Int32) ∧ Inv z m0 from ⟨(B.wk (show B 0 0 (0 : Int32) from ⟨by decide, by decide⟩) (by decide)), hIm0⟩)
  · have f4 : B 1 1 (v12) := B.nelo c2 h1 (show B 0 0 (0 : Int32) from ⟨by decide, by decide⟩) (by decide)
    refine T.cond (fun c5 => ?_) (fun c5 => ?_)
    · exact T.some' (show B 0 1 (1 : Int32) ∧ Inv z m0 from ⟨(B.wk (show B 1 1 (1 : Int32) from ⟨by decide, by decide⟩) (by decide)), hIm0⟩)
    · exact T.some' (show B 0 1 (0 : Int32) ∧ Inv z m0 from ⟨(B.wk (show B 0 0 (0 : Int32) from ⟨by decide, by decide⟩) (by decide)), hIm0⟩)
theorem t_Model_may_j180 {z : Zt} {F : Nat} {p0 : Int32} {p1 : Int32} {g : Mem} {m0 : Mem} {x1 : Int32} {y0 : Int32} {y1 : Int32} (hF : 4294967296 < F) (hp0 : B 0 5 p0) (hp1 : B 0 23 p1) (hx1 : B 0 5 x1) (hy0 : B 0 1 y0) (hy1 : B 5 5 y1) (hIm0 : Inv z m0) : T (sp_Model_may_j180 F p0 p1 g m0 x1 y0 y1) (fun r => B 0 1 r.1 ∧ Inv z r.2) := by
  unfold sp_Model_may_j180
  refine T.wrI (I := fun m => Inv z m ∧ ∀ q, q ≠ 68 → m q = (m0) q) (B.ib hy1 (by decide)) ⟨hIm0.fra rfl, fun q hq => mset_rowF _ _ _ hq⟩ (fun g34 h1 => ?_)
  refine T.callB (t_Model_ageOf hx1 h1.1) (fun v35 h2 => ?_)
  refine T.wrI (I := fun m => Inv z m ∧ ∀ q, q ≠ 68 → m q = (g34) q) (B.ib (show B 6 6 (6 : Int32) from ⟨by decide, by decide⟩) (by decide)) ⟨h1.1.fra rfl, fun q hq => mset_rowF _ _ _ hq⟩ (fun g36 h3 => ?_)
  refine T.callB (t_Model_valueNow hF h3.1) (fun v37 h4 => ?_)
  refine T.cond (fun c5 => ?_) (fun c5 => ?_)
  · have f6 : B 0 0 (v37.1) := B.eql c5 (B.any v37.1) (show B 0 0 (0 : Int32) from ⟨by decide, by decide⟩) (by decide)
    exact T.some' (show B 0 1 (0 : Int32) ∧ Inv z v37.2 from ⟨(B.wk (show B 0 0 (0 : Int32) from ⟨by decide, by decide⟩) (by decide)), h4.2⟩)
  · exact T.some' (show B 0 1 (1 : Int32) ∧ Inv z v37.2 from ⟨(B.wk (show B 1 1 (1 : Int32) from ⟨by decide, by decide⟩) (by decide)), h4.2⟩)
theorem t_Model_may_j164 {z : Zt} {F : Nat} {p0 : Int32} {p1 : Int32} {g : Mem} {m0 : Mem} {x1 : Int32} {x3 : Int32} {y0 : Int32} {y1 : Int32} (hF : 4294967296 < F) (hp0 : B 0 5 p0) (hp1 : B 0 23 p1) (hx1 : B 0 5 x1) (hx3 : B 0 5 x3) (hy0 : B 0 1 y0) (hy1 : B 4 4 y1) (hIm0 : Inv z m0) : T (sp_Model_may_j164 F p0 p1 g m0 x1 x3 y0 y1) (fun r => B 0 1 r.1 ∧ Inv z r.2) := by
  unfold sp_Model_may_j164
  refine T.wrI (I := fun m => Inv z m ∧ ∀ q, q ≠ 68 → m q = (m0) q) (B.ib hy1 (by decide)) ⟨hIm0.fra rfl, fun q hq => mset_rowF _ _ _ hq⟩ (fun g32 h1 => ?_)
  refine T.cond (fun c2 => ?_) (fun c2 => ?_)
  · exact t_Model_may_j180 hF hp0 hp1 hx1 (B.wk (show B 1 1 (1 : Int32) from ⟨by decide, by decide⟩) (by decide)) (show B 5 5 (5 : Int32) from ⟨by decide, by decide⟩) h1.1
  · exact t_Model_may_j180 hF hp0 hp1 hx1 (B.wk (show B 0 0 (0 : Int32) from ⟨by decide, by decide⟩) (by decide)) (show B 5 5 (5 : Int32) from ⟨by decide, by decide⟩) h1.1
theorem t_Model_may {z : Zt} {F : Nat} {p0 : Int32} {p1 : Int32} {g : Mem} (hF : 4294967296 < F) (hIg : Inv z g) : T (sp_Model_may F p0 p1 g) (fun r => B 0 1 r.1 ∧ Inv z r.2) := by
  unfold sp_Model_may
  have hM2 : Inv z (mset g 54 3 0) := hIg.fre rfl
  refine T.callB (t_Model_isMonk hM2) (fun v1 h1 => ?_)
  refine T.cond (fun c3 => ?_) (fun c3 => ?_)
  · have f4 : B 0 0 (v1) := B.eql c3 h1.1 (show B 0 0 (0 : Int32) from ⟨by decide, by decide⟩) (by decide)
    refine T.callB (t_Model_failing hM2) (fun v3 h5 => ?_)
    refine T.blU (B.wk h5.1 (by decide)) (fun v4 h6 => ?_)
    exact T.some' (show B 0 1 v4 ∧ Inv z v3.2 from ⟨h6, h5.2⟩)
  · have q7 : B 0 5 (p0) := h1.2 c3
    have f8 : B 1 1 (v1) := B.nelo c3 h1.1 (show B 0 0 (0 : Int32) from ⟨by decide, by decide⟩) (by decide)
    refine T.callB (t_Model_isEntry hM2) (fun v5 h9 => ?_)
    refine T.cond (fun c10 => ?_) (fun c10 => ?_)
    · have f11 : B 0 0 (v5) := B.eql c10 h9.1 (show B 0 0 (0 : Int32) from ⟨by decide, by decide⟩) (by decide)
      refine T.callB (t_Model_failing hM2) (fun v7 h12 => ?_)
      refine T.blU (B.wk h12.1 (by decide)) (fun v8 h13 => ?_)
      exact T.some' (show B 0 1 v8 ∧ Inv z v7.2 from ⟨h13, h12.2⟩)
    · have q14 : B 0 23 (p1) := h9.2 c10
      have f15 : B 1 1 (v5) := B.nelo c10 h9.1 (show B 0 0 (0 : Int32) from ⟨by decide, by decide⟩) (by decide)
      refine T.callB (t_Model_of1 q14 hM2) (fun v9 h16 => ?_)
      refine T.callB (t_Model_isThere q14 hM2) (fun v10 h17 => ?_)
      refine T.cond (fun c18 => ?_) (fun c18 => ?_)
      · have f19 : B 0 0 (v10) := B.eql c18 h17 (show B 0 0 (0 : Int32) from ⟨by decide, by decide⟩) (by decide)
        exact t_Model_may_j52 hF q7 q14 q7 q14 h16 hM2
      · have f20 : B 1 1 (v10) := B.nelo c18 h17 (show B 0 0 (0 : Int32) from ⟨by decide, by decide⟩) (by decide)
        refine T.rdU (B.ib h16 (by decide)) (fun v15 => ?_)
        refine T.cond (fun c21 => ?_) (fun c21 => ?_)
        · have f22 : B 3 3 (v15) := B.eql c21 (B.any v15) (show B 3 3 (3 : Int32) from ⟨by decide, by decide⟩) (by decide)
          exact t_Model_may_j52 hF q7 q14 q7 q14 h16 hM2
        · refine T.rdK 5 (P := fun z => B 0 700 z ∧ z = (mset g 54 3 0) 58 5) (B.ib (show B 5 5 (5 : Int32) from ⟨by decide, by decide⟩) (by decide)) rfl ⟨hM2.told5, rfl⟩ (fun v17 h23 => ?_)
          refine T.cond (fun c24 => ?_) (fun c24 => ?_)
          · have f25 : B 0 0 (v17) := B.eql c24 h23.1 (show B 0 0 (0 : Int32) from ⟨by decide, by decide⟩) (by decide)
            refine T.cond (fun c26 => ?_) (fun c26 => ?_)
            · exact T.some' (show B 0 1 (1 : Int32) ∧ Inv z (mset g 54 3 0) from ⟨(B.wk (show B 1 1 (1 : Int32) from ⟨by decide, by decide⟩) (by decide)), hM2⟩)
            · refine T.callB (t_Model_isGrey h16 hM2) (fun v20 h27 => ?_)
              refine T.cond (fun c28 => ?_) (fun c28 => ?_)
              · have f29 : B 0 0 (v20) := B.eql c28 h27 (show B 0 0 (0 : Int32) from ⟨by decide, by decide⟩) (by decide)
                exact T.some' (show B 0 1 (1 : Int32) ∧ Inv z (mset g 54 3 0) from ⟨(B.wk (show B 1 1 (1 : Int32) from ⟨by decide, by decide⟩) (by decide)), hM2⟩)
              · have f30 : B 1 1 (v20) := B.nelo c28 h27 (show B 0 0 (0 : Int32) from ⟨by decide, by decide⟩) (by decide)
                exact T.some' (show B 0 1 (0 : Int32) ∧ Inv z (mset g 54 3 0) from ⟨(B.wk (show B 0 0 (0 : Int32) from ⟨by decide, by decide⟩) (by decide)), hM2⟩)
          · have f31 : B 1 700 (v17) := B.nelo c24 h23.1 (show B 0 0 (0 : Int32) from ⟨by decide, by decide⟩) (by decide)
            refine T.callB (t_Model_of q14 (B.wk (show B 0 0 (0 : Int32) from ⟨by decide, by decide⟩) (by decide)) hM2) (fun v22 h32 => ?_)
            refine T.wrI (I := fun m => Inv z m ∧ ∀ q, q ≠ 68 → m q = (mset g 54 3 0) q) (B.ib (show B 0 0 (0 : Int32) from ⟨by decide, by decide⟩) (by decide)) ⟨hM2.fra rfl, fun q hq => mset_rowF _ _ _ hq⟩ (fun g23 h33 => ?_)
            refine T.callB (t_Model_of q14 (B.wk (show B 5 5 (5 : Int32) from ⟨by decide, by decide⟩) (by decide)) h33.1) (fun v24 h34 => ?_)
            refine T.wrI (I := fun m => Inv z m ∧ ∀ q, q ≠ 68 → m q = (g23) q) (B.ib (show B 1 1 (1 : Int32) from ⟨by decide, by decide⟩) (by decide)) ⟨h33.1.fra rfl, fun q hq => mset_rowF _ _ _ hq⟩ (fun g25 h35 => ?_)
            refine T.callB (t_Model_of q14 (B.wk (show B 3 3 (3 : Int32) from ⟨by decide, by decide⟩) (by decide)) h35.1) (fun v26 h36 => ?_)
            refine T.wrI (I := fun m => Inv z m ∧ ∀ q, q ≠ 68 → m q = (g25) q) (B.ib (show B 2 2 (2 : Int32) from ⟨by decide, by decide⟩) (by decide)) ⟨h35.1.fra rfl, fun q hq => mset_rowF _ _ _ hq⟩ (fun g27 h37 => ?_)
            refine T.callB (t_Model_old q14 h37.1) (fun v28 h38 => ?_)
            refine T.wrI (I := fun m => Inv z m ∧ ∀ q, q ≠ 68 → m q = (g27) q) (B.ib (show B 3 3 (3 : Int32) from ⟨by decide, by decide⟩) (by decide)) ⟨h37.1.fra rfl, fun q hq => mset_rowF _ _ _ hq⟩ (fun g29 h39 => ?_)
            refine T.callB (t_Model_isGrey h16 h39.1) (fun v30 h40 => ?_)
            refine T.cond (fun c41 => ?_) (fun c41 => ?_)
            · have f42 : B 0 0 (v30) := B.eql c41 h40 (show B 0 0 (0 : Int32) from ⟨by decide, by decide⟩) (by decide)
              exact t_Model_may_j164 hF q7 q14 q7 h16 (B.wk (show B 0 0 (0 : Int32) from ⟨by decide, by decide⟩) (by decide)) (show B 4 4 (4 : Int32) from ⟨by decide, by decide⟩) h39.1
            · have f43 : B 1 1 (v30) := B.nelo c41 h40 (show B 0 0 (0 : Int32) from ⟨by decide, by decide⟩) (by decide)
              exact t_Model_may_j164 hF q7 q14 q7 h16 (B.wk (show B 1 1 (1 : Int32) from ⟨by decide, by decide⟩) (by decide)) (show B 4 4 (4 : Int32) from ⟨by decide, by decide⟩) h39.1
theorem t_Model_refuse {z : Zt} {p0 : Int32} {g : Mem} (hp0 : B 1 2 p0) (hIg : Inv z g) : T (sp_Model_refuse p0 g) (fun r => B (-1) (-1) r.1 ∧ Inv z r.2) := by
  unfold sp_Model_refuse
  refine T.rdU (B.ib hp0 (by decide)) (fun v1 => ?_)
  refine T.wrI (I := fun m => Inv z m ∧ ∀ q, q ≠ 64 → m q = (g) q) (B.ib hp0 (by decide)) ⟨hIg.fra rfl, fun q hq => mset_rowF _ _ _ hq⟩ (fun g2 h1 => ?_)
  exact T.some' (show B (-1) (-1) (-1 : Int32) ∧ Inv z g2 from ⟨(show B (-1) (-1) (-1 : Int32) from ⟨by decide, by decide⟩), h1.1⟩)
def kE (q j : Nat) : Bool := q == 67 || (q == 54 && j == 27)
theorem t_Model_keep_j54 {z : Zt} {F : Nat} {g m0 : Mem} (hF : 4294967296 < F) (hI : Inv z m0) (hc : B 0 39 (m0 54 27)) : T (sp_Model_keep_j54 F g m0) (fun r => Inv z r ∧ ∀ q j, kE q j = false → r q j = m0 q j) := by
  unfold sp_Model_keep_j54
  have hb : B 0 (((9240 : Nat) : Int) - 231) (231 * (m0 54 27)) := B.mul (show B 231 231 (231 : Int32) from ⟨by decide, by decide⟩) hc (by decide)
  refine T.callB (t_Model_pack hF (Or.inl rfl) (by decide) hb (mul231 hc) hI) (fun v hv => T.some' ?_)
  have e : v 54 27 = m0 54 27 := by rw [hv.2 54 (by decide)]
  refine ⟨hv.1.p_acts ?_, fun q j h => ?_⟩
  · rw [e]
    exact B.add hc (show B 1 1 (1 : Int32) from ⟨by decide, by decide⟩) (by decide)
  · unfold kE at h
    simp only [Bool.or_eq_false_iff, beq_eq_false_iff_ne, ne_eq, Bool.and_eq_false_iff] at h
    rw [mset_get, if_neg (fun e => by omega), hv.2 q h.1]
theorem t_Model_keep {z : Zt} {F : Nat} {g : Mem} (hF : 4294967296 < F) (hI : Inv z g) : T (sp_Model_keep F g) (fun r => Inv z r ∧ ∀ q j, kE q j = false → r q j = g q j) := by
  unfold sp_Model_keep
  refine T.cond (fun c => ?_) (fun c => ?_)
  · refine T.callB (P := fun m => Inv z m ∧ ∀ q, q ≠ 67 → m q = g q) ?_ (fun x hx => ?_)
    · refine T.cnt 9240 (fun i s => 231 ≤ i ∧ s.1 = nI i ∧ Inv z s.2 ∧ ∀ q, q ≠ 67 → s.2 q = g q) ?_ ?_ 9009 231 _ F (by omega) ⟨by omega, rfl, hI, fun _ _ => rfl⟩ (by omega)
      · rintro i ⟨b, m⟩ hi ⟨h0, hb, hm, he⟩
        dsimp only at hb hm he
        subst hb
        unfold st_Model_keep_13
        dsimp only
        refine T.neg (nI_ge hi (by decide)) ?_
        refine T.rdK i (P := fun z => (i % 231 = 2 → B 0 24 z) ∧ (15 ≤ i % 231 → (i % 231 - 15) % 9 = 1 → B 0 5 z)) (inb_nI hi (by decide)) (nI_clamp (by omega)) (hm.pa (Or.inl rfl) i) (fun v3 h3 => ?_)
        have e1 : nI i - 231 = nI (i - 231) := by
          have := nI_add (i - 231) 231
          rw [show i - 231 + 231 = i by omega] at this
          rw [← this]
          show nI (i - 231) + nI 231 - 231 = nI (i - 231)
          exact Int32.add_sub_cancel _ _
        rw [e1]
        refine T.wrI (I := fun m' => Inv z m' ∧ ∀ q, q ≠ 67 → m' q = g q) (inb_nI (by omega) (by decide)) ?_ (fun g4 h4 => T.some' (Or.inl ⟨_, rfl, by omega, nI_1 i, h4⟩))
        rw [nI_clamp (by omega)]
        exact ⟨hm.paR (Or.inl rfl) (PA_up (hm.pa (Or.inl rfl)) (fun h => h3.1 (by have e9 : (i - 231) % 231 = i % 231 := (by omega); rw [e9] at h; exact h)) (fun h h2 => h3.2 (by have e9 : (i - 231) % 231 = i % 231 := (by omega); rw [e9] at h; exact h) (by have e9 : (i - 231) % 231 = i % 231 := (by omega); rw [e9] at h2; exact h2))), fun q hq => (mset_rowF m _ _ hq).trans (he q hq)⟩
      · rintro ⟨b, m⟩ ⟨h0, hb, hm, he⟩
        dsimp only at hb hm he
        subst hb
        unfold st_Model_keep_13
        dsimp only
        exact T.pos (nI_le (Nat.le_refl _) (by decide)) (T.some' ⟨_, rfl, hm, he⟩)
    · have e : x 54 27 = 40 := by rw [hx.2 54 (by decide)]; exact c
      have b39 : B 39 39 (x 54 27 - 1) := by rw [e]; exact ⟨by decide, by decide⟩
      refine T.mono (t_Model_keep_j54 hF (hx.1.p_acts (b39.wk (by decide))) (B.mset_s (b39.wk (by decide)))) (fun r hr => ⟨hr.1, fun q j h => ?_⟩)
      rw [hr.2 q j h]
      unfold kE at h
      simp only [Bool.or_eq_false_iff, beq_eq_false_iff_ne, ne_eq, Bool.and_eq_false_iff] at h
      rw [mset_get, if_neg (fun e => by omega), hx.2 q h.1]
  · exact t_Model_keep_j54 hF hI (B.nehi c hI.acts (show B 40 40 (40 : Int32) from ⟨by decide, by decide⟩) (by decide))
theorem t_Model_years_41 {z : Zt} {F : Nat} {p0 : Int32} {g : Mem} {k1 : Int32} {s : Int32 × Mem} (hF : 4294967296 < F) (hp0 : B 1 30 p0) (hk1 : B 1 30 k1) (hs : J_Model_years_41 z s) : T (st_Model_years_41 F p0 g k1 s) (LQ (J_Model_years_41 z) (Q_Model_years_41 z) (fun s => s.1) s.1) := by
  unfold st_Model_years_41
  refine T.cond (fun c1 => ?_) (fun c1 => ?_)
  · have f2 : B 1 30 (s.1) := B.ler c1 hk1 hs.1 (by decide)
    exact T.some' (show Inv z s.2 from hs.2)
  · have f3 : B 0 29 (s.1) := B.nler c1 hk1 hs.1 (by decide)
    refine T.callB (t_Model_yearGoes hF hs.2) (fun v7 h4 => ?_)
    have b5 : B 1 30 (s.1 + 1) := B.add f3 (show B 1 1 (1 : Int32) from ⟨by decide, by decide⟩) (by decide)
    exact T.some' (show J_Model_years_41 z (s.1 + 1, v7) ∧ s.1 + 1 = s.1 + 1 from ⟨⟨(B.wk b5 (by decide)), h4⟩, rfl⟩)
theorem t_Model_years {z : Zt} {F : Nat} {p0 : Int32} {g : Mem} (hF : 4294967296 < F) (hIg : Inv z g) : T (sp_Model_years F p0 g) (fun r => B (-2147483648) 2147483647 r.1 ∧ Inv z r.2) := by
  unfold sp_Model_years
  refine T.callB (t_Model_isInL (a := 1) (b := 30) (by decide) (by decide)) (fun v1 h1 => ?_)
  refine T.cond (fun c2 => ?_) (fun c2 => ?_)
  · have f3 : B 0 0 (v1) := B.eql c2 h1.1 (show B 0 0 (0 : Int32) from ⟨by decide, by decide⟩) (by decide)
    have hM5 : Inv z (mset g 54 3 0) := hIg.fre rfl
    refine T.callB (t_Model_refuse (B.wk (show B 1 1 (1 : Int32) from ⟨by decide, by decide⟩) (by decide)) hM5) (fun v3 h4 => ?_)
    exact T.some' (show B (-2147483648) 2147483647 v3.1 ∧ Inv z v3.2 from ⟨(B.any v3.1), h4.2⟩)
  · have q6 : B 1 30 (p0) := h1.2 c2
    have f7 : B 1 1 (v1) := B.nelo c2 h1.1 (show B 0 0 (0 : Int32) from ⟨by decide, by decide⟩) (by decide)
    refine T.cond (fun c8 => ?_) (fun c8 => ?_)
    · have hM10 : Inv z (mset g 54 3 0) := hIg.fre rfl
      refine T.callB (t_Model_keep hF hM10) (fun v5 h9 => ?_)
      refine T.callB (T.lpc (J := J_Model_years_41 z) (Q := Q_Model_years_41 z) (fun s => s.1) 0 30 (by decide) (fun s h => h.1) (fun s h => t_Model_years_41 hF q6 q6 h) F _ (show J_Model_years_41 z (0, v5) from ⟨(B.wk (show B 0 0 (0 : Int32) from ⟨by decide, by decide⟩) (by decide)), h9.1⟩) hF) (fun x8 h11 => ?_)
      have h11 : Inv z x8 := h11
      exact T.some' (show B (-2147483648) 2147483647 (x8 54 24) ∧ Inv z x8 from ⟨(B.any (x8 54 24)), h11⟩)
    · have hM13 : Inv z (mset g 54 3 0) := hIg.fre rfl
      refine T.callB (t_Model_refuse (B.wk (show B 1 1 (1 : Int32) from ⟨by decide, by decide⟩) (by decide)) hM13) (fun v9 h12 => ?_)
      exact T.some' (show B (-2147483648) 2147483647 v9.1 ∧ Inv z v9.2 from ⟨(B.any v9.1), h12.2⟩)
theorem t_Model_putEntry {z : Zt} {p0 : Int32} {p1 : Int32} {p2 : Int32} {p3 : Int32} {p4 : Int32} {p5 : Int32} {g : Mem} (hp1 : B 0 5 p1) (hIg : Inv z g) (hc0 : B 0 23 (g 54 26)) : T (sp_Model_putEntry p0 p1 p2 p3 p4 p5 g) (fun r => B 0 23 r.1 ∧ Inv z r.2) := by
  unfold sp_Model_putEntry
  have b2 : B 0 207 (9 * (g 54 26)) := B.mul (show B 9 9 (9 : Int32) from ⟨by decide, by decide⟩) hc0 (by decide)
  have b3 : B 0 207 ((9 * (g 54 26)) + 0) := B.add b2 (show B 0 0 (0 : Int32) from ⟨by decide, by decide⟩) (by decide)
  refine T.wrI (I := fun m => Inv z m ∧ ∀ q, q ≠ 62 → m q = (g) q) (B.ib b3 (by decide)) ⟨hIg.en_o (B.wk hc0 (by decide)) (Or.inl ⟨by decide, by decide⟩), fun q hq => mset_rowF _ _ _ hq⟩ (fun g1 h1 => ?_)
  have k4 : B 0 23 (g1 54 26) := by rw [h1.2 54 (by decide)]; exact hc0
  have b6 : B 1 208 ((9 * (g 54 26)) + 1) := B.add b2 (show B 1 1 (1 : Int32) from ⟨by decide, by decide⟩) (by decide)
  refine T.wrI (I := fun m => Inv z m ∧ ∀ q, q ≠ 62 → m q = (g1) q) (B.ib b6 (by decide)) ⟨h1.1.en_1 (B.wk hc0 (by decide)) hp1, fun q hq => mset_rowF _ _ _ hq⟩ (fun g2 h5 => ?_)
  have k7 : B 0 23 (g2 54 26) := by rw [h5.2 54 (by decide)]; exact k4
  have b9 : B 2 209 ((9 * (g 54 26)) + 2) := B.add b2 (show B 2 2 (2 : Int32) from ⟨by decide, by decide⟩) (by decide)
  refine T.wrI (I := fun m => Inv z m ∧ ∀ q, q ≠ 62 → m q = (g2) q) (B.ib b9 (by decide)) ⟨h5.1.en_o (B.wk hc0 (by decide)) (Or.inr ⟨by decide, by decide⟩), fun q hq => mset_rowF _ _ _ hq⟩ (fun g3 h8 => ?_)
  have k10 : B 0 23 (g3 54 26) := by rw [h8.2 54 (by decide)]; exact k7
  have b12 : B 3 210 ((9 * (g 54 26)) + 3) := B.add b2 (show B 3 3 (3 : Int32) from ⟨by decide, by decide⟩) (by decide)
  refine T.wrI (I := fun m => Inv z m ∧ ∀ q, q ≠ 62 → m q = (g3) q) (B.ib b12 (by decide)) ⟨h8.1.en_o (B.wk hc0 (by decide)) (Or.inr ⟨by decide, by decide⟩), fun q hq => mset_rowF _ _ _ hq⟩ (fun g4 h11 => ?_)
  have k13 : B 0 23 (g4 54 26) := by rw [h11.2 54 (by decide)]; exact k10
  have b15 : B 4 211 ((9 * (g 54 26)) + 4) := B.add b2 (show B 4 4 (4 : Int32) from ⟨by decide, by decide⟩) (by decide)
  refine T.wrI (I := fun m => Inv z m ∧ ∀ q, q ≠ 62 → m q = (g4) q) (B.ib b15 (by decide)) ⟨h11.1.en_o (B.wk hc0 (by decide)) (Or.inr ⟨by decide, by decide⟩), fun q hq => mset_rowF _ _ _ hq⟩ (fun g5 h14 => ?_)
  have k16 : B 0 23 (g5 54 26) := by rw [h14.2 54 (by decide)]; exact k13
  have b18 : B 5 212 ((9 * (g 54 26)) + 5) := B.add b2 (show B 5 5 (5 : Int32) from ⟨by decide, by decide⟩) (by decide)
  refine T.wrI (I := fun m => Inv z m ∧ ∀ q, q ≠ 62 → m q = (g5) q) (B.ib b18 (by decide)) ⟨h14.1.en_o (B.wk hc0 (by decide)) (Or.inr ⟨by decide, by decide⟩), fun q hq => mset_rowF _ _ _ hq⟩ (fun g6 h17 => ?_)
  have k19 : B 0 23 (g6 54 26) := by rw [h17.2 54 (by decide)]; exact k16
  have b21 : B 6 213 ((9 * (g 54 26)) + 6) := B.add b2 (show B 6 6 (6 : Int32) from ⟨by decide, by decide⟩) (by decide)
  refine T.wrI (I := fun m => Inv z m ∧ ∀ q, q ≠ 62 → m q = (g6) q) (B.ib b21 (by decide)) ⟨h17.1.en_o (B.wk hc0 (by decide)) (Or.inr ⟨by decide, by decide⟩), fun q hq => mset_rowF _ _ _ hq⟩ (fun g7 h20 => ?_)
  have k22 : B 0 23 (g7 54 26) := by rw [h20.2 54 (by decide)]; exact k19
  have b24 : B 7 214 ((9 * (g 54 26)) + 7) := B.add b2 (show B 7 7 (7 : Int32) from ⟨by decide, by decide⟩) (by decide)
  refine T.wrI (I := fun m => Inv z m ∧ ∀ q, q ≠ 62 → m q = (g7) q) (B.ib b24 (by decide)) ⟨h20.1.en_o (B.wk hc0 (by decide)) (Or.inr ⟨by decide, by decide⟩), fun q hq => mset_rowF _ _ _ hq⟩ (fun g8 h23 => ?_)
  have k25 : B 0 23 (g8 54 26) := by rw [h23.2 54 (by decide)]; exact k22
  have b27 : B 8 215 ((9 * (g 54 26)) + 8) := B.add b2 (show B 8 8 (8 : Int32) from ⟨by decide, by decide⟩) (by decide)
  refine T.wrI (I := fun m => Inv z m ∧ ∀ q, q ≠ 62 → m q = (g8) q) (B.ib b27 (by decide)) ⟨h23.1.en_o (B.wk hc0 (by decide)) (Or.inr ⟨by decide, by decide⟩), fun q hq => mset_rowF _ _ _ hq⟩ (fun g9 h26 => ?_)
  have k28 : B 0 23 (g9 54 26) := by rw [h26.2 54 (by decide)]; exact k25
  have b29 : B 1 24 ((g9 54 26) + 1) := B.add k28 (show B 1 1 (1 : Int32) from ⟨by decide, by decide⟩) (by decide)
  have b30 : B 1 24 ((mset g9 54 26 ((g9 54 26) + 1)) 54 26) := B.mset_s b29
  have b31 : B 0 23 (((mset g9 54 26 ((g9 54 26) + 1)) 54 26) - 1) := B.sub b30 (show B 1 1 (1 : Int32) from ⟨by decide, by decide⟩) (by decide)
  have hM32 : Inv z (mset g9 54 26 ((g9 54 26) + 1)) := h26.1.p_many (B.wk b29 (by decide))
  exact T.some' (show B 0 23 (((mset g9 54 26 ((g9 54 26) + 1)) 54 26) - 1) ∧ Inv z (mset g9 54 26 ((g9 54 26) + 1)) from ⟨b31, hM32⟩)
theorem t_Model_braid {z : Zt} {F : Nat} {p0 : Int32} {p1 : Int32} {p2 : Int32} {p3 : Int32} {g : Mem} (hF : 4294967296 < F) (hIg : Inv z g) : T (sp_Model_braid F p0 p1 p2 p3 g) (fun r => B (-2147483648) 2147483647 r.1 ∧ Inv z r.2) := by
  unfold sp_Model_braid
  have hM2 : Inv z (mset g 54 3 0) := hIg.fre rfl
  refine T.callB (t_Model_isMonk hM2) (fun v1 h1 => ?_)
  refine T.cond (fun c3 => ?_) (fun c3 => ?_)
  · have f4 : B 0 0 (v1) := B.eql c3 h1.1 (show B 0 0 (0 : Int32) from ⟨by decide, by decide⟩) (by decide)
    refine T.callB (t_Model_fail hM2) (fun v3 h5 => ?_)
    exact T.some' (show B (-2147483648) 2147483647 v3.1 ∧ Inv z v3.2 from ⟨(B.any v3.1), h5.2⟩)
  · have q6 : B 0 5 (p0) := h1.2 c3
    have f7 : B 1 1 (v1) := B.nelo c3 h1.1 (show B 0 0 (0 : Int32) from ⟨by decide, by decide⟩) (by decide)
    refine T.cond (fun c8 => ?_) (fun c8 => ?_)
    · have f9 : B 24 24 ((mset g 54 3 0) 54 26) := B.eql c8 hM2.many (show B 24 24 (24 : Int32) from ⟨by decide, by decide⟩) (by decide)
      refine T.callB (t_Model_refuse (B.wk (show B 1 1 (1 : Int32) from ⟨by decide, by decide⟩) (by decide)) hM2) (fun v5 h10 => ?_)
      exact T.some' (show B (-2147483648) 2147483647 v5.1 ∧ Inv z v5.2 from ⟨(B.any v5.1), h10.2⟩)
    · have f11 : B 0 23 ((mset g 54 3 0) 54 26) := B.nehi c8 hM2.many (show B 24 24 (24 : Int32) from ⟨by decide, by decide⟩) (by decide)
      refine T.callB (t_Model_isOf ) (fun v6 h12 => ?_)
      refine T.cond (fun c13 => ?_) (fun c13 => ?_)
      · have f14 : B 0 0 (v6) := B.eql c13 h12 (show B 0 0 (0 : Int32) from ⟨by decide, by decide⟩) (by decide)
        refine T.callB (t_Model_isInL (a := 0) (b := 3) (by decide) (by decide)) (fun v8 h15 => ?_)
        refine T.cond (fun c16 => ?_) (fun c16 => ?_)
        · have f17 : B 0 0 (v8) := B.eql c16 h15.1 (show B 0 0 (0 : Int32) from ⟨by decide, by decide⟩) (by decide)
          refine T.callB (t_Model_refuse (B.wk (show B 1 1 (1 : Int32) from ⟨by decide, by decide⟩) (by decide)) hM2) (fun v10 h18 => ?_)
          exact T.some' (show B (-2147483648) 2147483647 v10.1 ∧ Inv z v10.2 from ⟨(B.any v10.1), h18.2⟩)
        · have q19 : B 0 3 (p1) := h15.2 c16
          have f20 : B 1 1 (v8) := B.nelo c16 h15.1 (show B 0 0 (0 : Int32) from ⟨by decide, by decide⟩) (by decide)
          refine T.callB (t_Model_isAbout ) (fun v11 h21 => ?_)
          refine T.cond (fun c22 => ?_) (fun c22 => ?_)
          · have f23 : B 0 0 (v11) := B.eql c22 h21 (show B 0 0 (0 : Int32) from ⟨by decide, by decide⟩) (by decide)
            refine T.callB (t_Model_refuse (B.wk (show B 1 1 (1 : Int32) from ⟨by decide, by decide⟩) (by decide)) hM2) (fun v13 h24 => ?_)
            exact T.some' (show B (-2147483648) 2147483647 v13.1 ∧ Inv z v13.2 from ⟨(B.any v13.1), h24.2⟩)
          · have f25 : B 1 1 (v11) := B.nelo c22 h21 (show B 0 0 (0 : Int32) from ⟨by decide, by decide⟩) (by decide)
            refine T.callB (t_Model_isInL (a := 0) (b := 999) (by decide) (by decide)) (fun v14 h26 => ?_)
            refine T.cond (fun c27 => ?_) (fun c27 => ?_)
            · have f28 : B 0 0 (v14) := B.eql c27 h26.1 (show B 0 0 (0 : Int32) from ⟨by decide, by decide⟩) (by decide)
              refine T.callB (t_Model_refuse (B.wk (show B 1 1 (1 : Int32) from ⟨by decide, by decide⟩) (by decide)) hM2) (fun v16 h29 => ?_)
              exact T.some' (show B (-2147483648) 2147483647 v16.1 ∧ Inv z v16.2 from ⟨(B.any v16.1), h29.2⟩)
            · have q30 : B 0 999 (p3) := h26.2 c27
              have f31 : B 1 1 (v14) := B.nelo c27 h26.1 (show B 0 0 (0 : Int32) from ⟨by decide, by decide⟩) (by decide)
              refine T.callB (t_Model_keep hF hM2) (fun v17 h32 => ?_)
              have k33 : B 0 23 (v17 54 26) := by rw [h32.2 54 26 rfl]; exact f11
              refine T.callB (t_Model_putEntry q6 h32.1 k33) (fun v18 h34 => ?_)
              exact T.some' (show B (-2147483648) 2147483647 v18.1 ∧ Inv z v18.2 from ⟨(B.any v18.1), h34.2⟩)
      · have f35 : B 1 1 (v6) := B.nelo c13 h12 (show B 0 0 (0 : Int32) from ⟨by decide, by decide⟩) (by decide)
        refine T.callB (t_Model_refuse (B.wk (show B 1 1 (1 : Int32) from ⟨by decide, by decide⟩) (by decide)) hM2) (fun v19 h36 => ?_)
        exact T.some' (show B (-2147483648) 2147483647 v19.1 ∧ Inv z v19.2 from ⟨(B.any v19.1), h36.2⟩)
theorem t_Model_copy {z : Zt} {F : Nat} {p0 : Int32} {p1 : Int32} {g : Mem} (hF : 4294967296 < F) (hIg : Inv z g) : T (sp_Model_copy F p0 p1 g) (fun r => B (-2147483648) 2147483647 r.1 ∧ Inv z r.2) := by
  unfold sp_Model_copy
  have hM2 : Inv z (mset g 54 3 0) := hIg.fre rfl
  refine T.callB (t_Model_isEntry hM2) (fun v1 h1 => ?_)
  refine T.cond (fun c3 => ?_) (fun c3 => ?_)
  · have f4 : B 0 0 (v1) := B.eql c3 h1.1 (show B 0 0 (0 : Int32) from ⟨by decide, by decide⟩) (by decide)
    refine T.callB (t_Model_fail hM2) (fun v3 h5 => ?_)
    exact T.some' (show B (-2147483648) 2147483647 v3.1 ∧ Inv z v3.2 from ⟨(B.any v3.1), h5.2⟩)
  · have q6 : B 0 23 (p0) := h1.2 c3
    have f7 : B 1 1 (v1) := B.nelo c3 h1.1 (show B 0 0 (0 : Int32) from ⟨by decide, by decide⟩) (by decide)
    refine T.callB (t_Model_isMonk hM2) (fun v4 h8 => ?_)
    refine T.cond (fun c9 => ?_) (fun c9 => ?_)
    · have f10 : B 0 0 (v4) := B.eql c9 h8.1 (show B 0 0 (0 : Int32) from ⟨by decide, by decide⟩) (by decide)
      refine T.callB (t_Model_fail hM2) (fun v6 h11 => ?_)
      exact T.some' (show B (-2147483648) 2147483647 v6.1 ∧ Inv z v6.2 from ⟨(B.any v6.1), h11.2⟩)
    · have q12 : B 0 5 (p1) := h8.2 c9
      have f13 : B 1 1 (v4) := B.nelo c9 h8.1 (show B 0 0 (0 : Int32) from ⟨by decide, by decide⟩) (by decide)
      refine T.cond (fun c14 => ?_) (fun c14 => ?_)
      · have f15 : B 24 24 ((mset g 54 3 0) 54 26) := B.eql c14 hM2.many (show B 24 24 (24 : Int32) from ⟨by decide, by decide⟩) (by decide)
        refine T.callB (t_Model_refuse (B.wk (show B 1 1 (1 : Int32) from ⟨by decide, by decide⟩) (by decide)) hM2) (fun v8 h16 => ?_)
        exact T.some' (show B (-2147483648) 2147483647 v8.1 ∧ Inv z v8.2 from ⟨(B.any v8.1), h16.2⟩)
      · have f17 : B 0 23 ((mset g 54 3 0) 54 26) := B.nehi c14 hM2.many (show B 24 24 (24 : Int32) from ⟨by decide, by decide⟩) (by decide)
        refine T.callB (t_Model_isThere q6 hM2) (fun v9 h18 => ?_)
        refine T.cond (fun c19 => ?_) (fun c19 => ?_)
        · have f20 : B 0 0 (v9) := B.eql c19 h18 (show B 0 0 (0 : Int32) from ⟨by decide, by decide⟩) (by decide)
          refine T.callB (t_Model_refuse (B.wk (show B 1 1 (1 : Int32) from ⟨by decide, by decide⟩) (by decide)) hM2) (fun v11 h21 => ?_)
          exact T.some' (show B (-2147483648) 2147483647 v11.1 ∧ Inv z v11.2 from ⟨(B.any v11.1), h21.2⟩)
        · have f22 : B 1 1 (v9) := B.nelo c19 h18 (show B 0 0 (0 : Int32) from ⟨by decide, by decide⟩) (by decide)
          refine T.callB (t_Model_isOf ) (fun v12 h23 => ?_)
          refine T.cond (fun c24 => ?_) (fun c24 => ?_)
          · have f25 : B 0 0 (v12) := B.eql c24 h23 (show B 0 0 (0 : Int32) from ⟨by decide, by decide⟩) (by decide)
            refine T.callB (t_Model_of q6 (B.wk (show B 7 7 (7 : Int32) from ⟨by decide, by decide⟩) (by decide)) hM2) (fun v14 h26 => ?_)
            refine T.callB (t_Model_holdersOf hF hM2) (fun v15 h27 => ?_)
            refine T.callB (t_Model_isOf ) (fun v16 h28 => ?_)
            refine T.cond (fun c29 => ?_) (fun c29 => ?_)
            · have f30 : B 0 0 (v16) := B.eql c29 h28 (show B 0 0 (0 : Int32) from ⟨by decide, by decide⟩) (by decide)
              refine T.callB (t_Model_keep hF hM2) (fun v18 h31 => ?_)
              have k32 : B 0 23 (v18 54 26) := by rw [h31.2 54 26 rfl]; exact f17
              refine T.callB (t_Model_of q6 (B.wk (show B 0 0 (0 : Int32) from ⟨by decide, by decide⟩) (by decide)) h31.1) (fun v19 h33 => ?_)
              refine T.callB (t_Model_of q6 (B.wk (show B 3 3 (3 : Int32) from ⟨by decide, by decide⟩) (by decide)) h31.1) (fun v20 h34 => ?_)
              refine T.callB (t_Model_of q6 (B.wk (show B 4 4 (4 : Int32) from ⟨by decide, by decide⟩) (by decide)) h31.1) (fun v21 h35 => ?_)
              refine T.callB (t_Model_of q6 (B.wk (show B 5 5 (5 : Int32) from ⟨by decide, by decide⟩) (by decide)) h31.1) (fun v22 h36 => ?_)
              refine T.callB (t_Model_of q6 (B.wk (show B 7 7 (7 : Int32) from ⟨by decide, by decide⟩) (by decide)) h31.1) (fun v23 h37 => ?_)
              refine T.callB (t_Model_putEntry q12 h31.1 k32) (fun v24 h38 => ?_)
              exact T.some' (show B (-2147483648) 2147483647 v24.1 ∧ Inv z v24.2 from ⟨(B.any v24.1), h38.2⟩)
            · have f39 : B 1 1 (v16) := B.nelo c29 h28 (show B 0 0 (0 : Int32) from ⟨by decide, by decide⟩) (by decide)
              refine T.callB (t_Model_refuse (B.wk (show B 1 1 (1 : Int32) from ⟨by decide, by decide⟩) (by decide)) hM2) (fun v25 h40 => ?_)
              exact T.some' (show B (-2147483648) 2147483647 v25.1 ∧ Inv z v25.2 from ⟨(B.any v25.1), h40.2⟩)
          · have f41 : B 1 1 (v12) := B.nelo c24 h23 (show B 0 0 (0 : Int32) from ⟨by decide, by decide⟩) (by decide)
            refine T.callB (t_Model_refuse (B.wk (show B 1 1 (1 : Int32) from ⟨by decide, by decide⟩) (by decide)) hM2) (fun v26 h42 => ?_)
            exact T.some' (show B (-2147483648) 2147483647 v26.1 ∧ Inv z v26.2 from ⟨(B.any v26.1), h42.2⟩)
theorem t_Model_isLoose_j50 {z : Zt} {p0 : Int32} {g : Mem} {m0 : Mem} (hIm0 : Inv z m0) : T (sp_Model_isLoose_j50 p0 g m0) (fun r => B 0 0 r.1 ∧ Inv z r.2) := by
  unfold sp_Model_isLoose_j50
  refine T.rdU (B.ib (show B 1 1 (1 : Int32) from ⟨by decide, by decide⟩) (by decide)) (fun v7 => ?_)
  refine T.wrI (I := fun m => Inv z m ∧ ∀ q, q ≠ 64 → m q = (m0) q) (B.ib (show B 1 1 (1 : Int32) from ⟨by decide, by decide⟩) (by decide)) ⟨hIm0.fra rfl, fun q hq => mset_rowF _ _ _ hq⟩ (fun g8 h1 => ?_)
  exact T.some' (show B 0 0 (0 : Int32) ∧ Inv z g8 from ⟨(show B 0 0 (0 : Int32) from ⟨by decide, by decide⟩), h1.1⟩)
theorem t_Model_isLoose {z : Zt} {p0 : Int32} {g : Mem} (hI : Inv z g) : T (sp_Model_isLoose p0 g) (fun r => B 0 1 r.1 ∧ Inv z r.2 ∧ (¬ r.1 = 0 → B 0 23 p0)) := by
  unfold sp_Model_isLoose
  have bad : B 0 23 p0 → T (sp_Model_isLoose_j50 p0 g g) (fun r => B 0 1 r.1 ∧ Inv z r.2 ∧ (¬ r.1 = 0 → B 0 23 p0)) := fun hp => T.mono (t_Model_isLoose_j50 hI) (fun r hr => ⟨hr.1.wk (by decide), hr.2, fun _ => hp⟩)
  refine T.callB (t_Model_isEntry hI) (fun v1 h1 => ?_)
  refine T.cond (fun c => ?_) (fun c => ?_)
  · refine T.callB (t_Model_failing hI) (fun v3 h3 => ?_)
    unfold bl
    rw [if_pos (B.boo (B.wk h3.1 (by decide)))]
    exact T.some' ⟨h3.1.wk (by decide), h3.2, fun h => absurd (B.yes_eq h3.1 (show B 0 0 (0 : Int32) from ⟨by decide, by decide⟩) (by decide)) h⟩
  · have hp := h1.2 c
    refine T.callB (t_Model_isThere hp hI) (fun v5 h5 => ?_)
    refine T.cond (fun c2 => bad hp) (fun c2 => ?_)
    refine T.callB (t_Model_of hp (show B 0 8 (6 : Int32) from ⟨by decide, by decide⟩) hI) (fun v9 h9 => ?_)
    refine T.cond (fun c3 => ?_) (fun c3 => bad hp)
    refine T.callB (t_Model_of1 hp hI) (fun v11 h11 => ?_)
    refine T.callB t_Model_isOf (fun v12 h12 => ?_)
    exact T.cond (fun c4 => T.some' ⟨b11, hI, fun _ => hp⟩) (fun c4 => bad hp)
theorem t_Model_knot {z : Zt} {F : Nat} {p0 : Int32} {g : Mem} (hF : 4294967296 < F) (hIg : Inv z g) : T (sp_Model_knot F p0 g) (fun r => B 0 1 r.1 ∧ Inv z r.2) := by
  unfold sp_Model_knot
  have hM2 : Inv z (mset g 54 3 0) := hIg.fre rfl
  refine T.callB (t_Model_isLoose hM2) (fun v1 h1 => ?_)
  refine T.cond (fun c3 => ?_) (fun c3 => ?_)
  · have f4 : B 0 0 (v1.1) := B.eql c3 h1.1 (show B 0 0 (0 : Int32) from ⟨by decide, by decide⟩) (by decide)
    exact T.some' (show B 0 1 (0 : Int32) ∧ Inv z v1.2 from ⟨(B.wk (show B 0 0 (0 : Int32) from ⟨by decide, by decide⟩) (by decide)), h1.2.1⟩)
  · have q5 : B 0 23 (p0) := h1.2.2 c3
    have f6 : B 1 1 (v1.1) := B.nelo c3 h1.1 (show B 0 0 (0 : Int32) from ⟨by decide, by decide⟩) (by decide)
    refine T.callB (t_Model_keep hF h1.2.1) (fun v3 h7 => ?_)
    have b9 : B 0 207 (9 * p0) := B.mul (show B 9 9 (9 : Int32) from ⟨by decide, by decide⟩) q5 (by decide)
    have b10 : B 6 213 ((9 * p0) + 6) := B.add b9 (show B 6 6 (6 : Int32) from ⟨by decide, by decide⟩) (by decide)
    refine T.wrI (I := fun m => Inv z m ∧ ∀ q, q ≠ 62 → m q = (v3) q) (B.ib b10 (by decide)) ⟨h7.1.en_o (B.wk q5 (by decide)) (Or.inr ⟨by decide, by decide⟩), fun q hq => mset_rowF _ _ _ hq⟩ (fun g4 h8 => ?_)
    exact T.some' (show B 0 1 (1 : Int32) ∧ Inv z g4 from ⟨(B.wk (show B 1 1 (1 : Int32) from ⟨by decide, by decide⟩) (by decide)), h8.1⟩)
theorem t_Model_comb {z : Zt} {F : Nat} {p0 : Int32} {g : Mem} (hF : 4294967296 < F) (hIg : Inv z g) : T (sp_Model_comb F p0 g) (fun r => B 0 1 r.1 ∧ Inv z r.2) := by
  unfold sp_Model_comb
  have hM2 : Inv z (mset g 54 3 0) := hIg.fre rfl
  refine T.callB (t_Model_isLoose hM2) (fun v1 h1 => ?_)
  refine T.cond (fun c3 => ?_) (fun c3 => ?_)
  · have f4 : B 0 0 (v1.1) := B.eql c3 h1.1 (show B 0 0 (0 : Int32) from ⟨by decide, by decide⟩) (by decide)
    exact T.some' (show B 0 1 (0 : Int32) ∧ Inv z v1.2 from ⟨(B.wk (show B 0 0 (0 : Int32) from ⟨by decide, by decide⟩) (by decide)), h1.2.1⟩)
  · have q5 : B 0 23 (p0) := h1.2.2 c3
    have f6 : B 1 1 (v1.1) := B.nelo c3 h1.1 (show B 0 0 (0 : Int32) from ⟨by decide, by decide⟩) (by decide)
    refine T.callB (t_Model_keep hF h1.2.1) (fun v3 h7 => ?_)
    refine T.callB (t_Model_lose q5 h7.1) (fun v4 h8 => ?_)
    exact T.some' (show B 0 1 (1 : Int32) ∧ Inv z v4 from ⟨(B.wk (show B 1 1 (1 : Int32) from ⟨by decide, by decide⟩) (by decide)), h8⟩)
theorem t_Model_shave {z : Zt} {F : Nat} {p0 : Int32} {p1 : Int32} {g : Mem} (hF : 4294967296 < F) (hIg : Inv z g) : T (sp_Model_shave F p0 p1 g) (fun r => B (-2147483648) 2147483647 r.1 ∧ Inv z r.2) := by
  unfold sp_Model_shave
  have hM2 : Inv z (mset g 54 3 0) := hIg.fre rfl
  refine T.callB (t_Model_isMonk hM2) (fun v1 h1 => ?_)
  refine T.cond (fun c3 => ?_) (fun c3 => ?_)
  · have f4 : B 0 0 (v1) := B.eql c3 h1.1 (show B 0 0 (0 : Int32) from ⟨by decide, by decide⟩) (by decide)
    refine T.callB (t_Model_fail hM2) (fun v3 h5 => ?_)
    exact T.some' (show B (-2147483648) 2147483647 v3.1 ∧ Inv z v3.2 from ⟨(B.any v3.1), h5.2⟩)
  · have q6 : B 0 5 (p0) := h1.2 c3
    have f7 : B 1 1 (v1) := B.nelo c3 h1.1 (show B 0 0 (0 : Int32) from ⟨by decide, by decide⟩) (by decide)
    refine T.cond (fun c8 => ?_) (fun c8 => ?_)
    · have f9 : B (-2147483648) (-1) (p1) := B.ltl c8 (B.any p1) (show B 0 0 (0 : Int32) from ⟨by decide, by decide⟩) (by decide)
      refine T.callB (t_Model_refuse (B.wk (show B 1 1 (1 : Int32) from ⟨by decide, by decide⟩) (by decide)) hM2) (fun v5 h10 => ?_)
      exact T.some' (show B (-2147483648) 2147483647 v5.1 ∧ Inv z v5.2 from ⟨(B.any v5.1), h10.2⟩)
    · have f11 : B 0 2147483647 (p1) := B.nltl c8 (B.any p1) (show B 0 0 (0 : Int32) from ⟨by decide, by decide⟩) (by decide)
      refine T.rdU (B.ib q6 (by decide)) (fun v6 => ?_)
      refine T.cond (fun c12 => ?_) (fun c12 => ?_)
      · have f13 : B 0 2147483646 (p1) := B.ltl c12 f11 (B.any v6) (by decide)
        have f14 : B 1 2147483647 (v6) := B.ltr c12 f11 (B.any v6) (by decide)
        refine T.callB (t_Model_keep hF hM2) (fun v8 h15 => ?_)
        refine T.wrI (I := fun m => Inv z m ∧ ∀ q, q ≠ 61 → m q = (v8) q) (B.ib q6 (by decide)) ⟨h15.1.fra rfl, fun q hq => mset_rowF _ _ _ hq⟩ (fun g9 h16 => ?_)
        refine T.callB (t_Model_loseFar hF h16.1) (fun v10 h17 => ?_)
        exact T.some' (show B (-2147483648) 2147483647 v10.1 ∧ Inv z v10.2 from ⟨(B.any v10.1), h17.2⟩)
      · refine T.callB (t_Model_refuse (B.wk (show B 1 1 (1 : Int32) from ⟨by decide, by decide⟩) (by decide)) hM2) (fun v11 h18 => ?_)
        exact T.some' (show B (-2147483648) 2147483647 v11.1 ∧ Inv z v11.2 from ⟨(B.any v11.1), h18.2⟩)
theorem t_Model_moths {z : Zt} {F : Nat} {p0 : Int32} {p1 : Int32} {p2 : Int32} {g : Mem} (hF : 4294967296 < F) (hIg : Inv z g) : T (sp_Model_moths F p0 p1 p2 g) (fun r => B (-2147483648) 2147483647 r.1 ∧ Inv z r.2) := by
  unfold sp_Model_moths
  have hM2 : Inv z (mset g 54 3 0) := hIg.fre rfl
  refine T.callB (t_Model_isMonk hM2) (fun v1 h1 => ?_)
  refine T.cond (fun c3 => ?_) (fun c3 => ?_)
  · have f4 : B 0 0 (v1) := B.eql c3 h1.1 (show B 0 0 (0 : Int32) from ⟨by decide, by decide⟩) (by decide)
    refine T.callB (t_Model_fail hM2) (fun v3 h5 => ?_)
    exact T.some' (show B (-2147483648) 2147483647 v3.1 ∧ Inv z v3.2 from ⟨(B.any v3.1), h5.2⟩)
  · have q6 : B 0 5 (p0) := h1.2 c3
    have f7 : B 1 1 (v1) := B.nelo c3 h1.1 (show B 0 0 (0 : Int32) from ⟨by decide, by decide⟩) (by decide)
    refine T.callB (t_Model_isInL (a := 0) (b := 60) (by decide) (by decide)) (fun v4 h8 => ?_)
    refine T.cond (fun c9 => ?_) (fun c9 => ?_)
    · have f10 : B 0 0 (v4) := B.eql c9 h8.1 (show B 0 0 (0 : Int32) from ⟨by decide, by decide⟩) (by decide)
      refine T.callB (t_Model_refuse (B.wk (show B 1 1 (1 : Int32) from ⟨by decide, by decide⟩) (by decide)) hM2) (fun v6 h11 => ?_)
      exact T.some' (show B (-2147483648) 2147483647 v6.1 ∧ Inv z v6.2 from ⟨(B.any v6.1), h11.2⟩)
    · have q12 : B 0 60 (p1) := h8.2 c9
      have f13 : B 1 1 (v4) := B.nelo c9 h8.1 (show B 0 0 (0 : Int32) from ⟨by decide, by decide⟩) (by decide)
      refine T.callB t_Model_isIn (fun v7 h14 => ?_)
      refine T.cond (fun c15 => ?_) (fun c15 => ?_)
      · have f16 : B 0 0 (v7) := B.eql c15 h14 (show B 0 0 (0 : Int32) from ⟨by decide, by decide⟩) (by decide)
        refine T.callB (t_Model_refuse (B.wk (show B 1 1 (1 : Int32) from ⟨by decide, by decide⟩) (by decide)) hM2) (fun v9 h17 => ?_)
        exact T.some' (show B (-2147483648) 2147483647 v9.1 ∧ Inv z v9.2 from ⟨(B.any v9.1), h17.2⟩)
      · have f18 : B 1 1 (v7) := B.nelo c15 h14 (show B 0 0 (0 : Int32) from ⟨by decide, by decide⟩) (by decide)
        refine T.callB (t_Model_keep hF hM2) (fun v10 h19 => ?_)
        refine T.callB (t_Model_mothsEat hF q6 q12 h19.1) (fun v11 h20 => ?_)
        exact T.some' (show B (-2147483648) 2147483647 v11.1 ∧ Inv z v11.2 from ⟨(B.any v11.1), h20.2⟩)
theorem t_Model_die {z : Zt} {F : Nat} {p0 : Int32} {g : Mem} (hF : 4294967296 < F) (hIg : Inv z g) : T (sp_Model_die F p0 g) (fun r => B 0 1 r.1 ∧ Inv z r.2) := by
  unfold sp_Model_die
  have hM2 : Inv z (mset g 54 3 0) := hIg.fre rfl
  refine T.callB (t_Model_isMonk hM2) (fun v1 h1 => ?_)
  refine T.cond (fun c3 => ?_) (fun c3 => ?_)
  · have f4 : B 0 0 (v1) := B.eql c3 h1.1 (show B 0 0 (0 : Int32) from ⟨by decide, by decide⟩) (by decide)
    refine T.callB (t_Model_failing hM2) (fun v3 h5 => ?_)
    refine T.blU (B.wk h5.1 (by decide)) (fun v4 h6 => ?_)
    exact T.some' (show B 0 1 v4 ∧ Inv z v3.2 from ⟨h6, h5.2⟩)
  · have q7 : B 0 5 (p0) := h1.2 c3
    have f8 : B 1 1 (v1) := B.nelo c3 h1.1 (show B 0 0 (0 : Int32) from ⟨by decide, by decide⟩) (by decide)
    refine T.callB (t_Model_isOf ) (fun v5 h9 => ?_)
    refine T.cond (fun c10 => ?_) (fun c10 => ?_)
    · have f11 : B 0 0 (v5) := B.eql c10 h9 (show B 0 0 (0 : Int32) from ⟨by decide, by decide⟩) (by decide)
      refine T.callB (t_Model_keep hF hM2) (fun v7 h12 => ?_)
      have hM13 : Inv z (mset v7 54 25 ((v7 54 25) ||| (1 <<< (p0 &&& 31)))) := h12.1.fre rfl
      refine T.wrI (I := fun m => Inv z m ∧ ∀ q, q ≠ 66 → m q = (mset v7 54 25 ((v7 54 25) ||| (1 <<< (p0 &&& 31)))) q) (B.ib q7 (by decide)) ⟨hM13.fra rfl, fun q hq => mset_rowF _ _ _ hq⟩ (fun g8 h14 => ?_)
      exact T.some' (show B 0 1 (1 : Int32) ∧ Inv z g8 from ⟨(B.wk (show B 1 1 (1 : Int32) from ⟨by decide, by decide⟩) (by decide)), h14.1⟩)
    · have f15 : B 1 1 (v5) := B.nelo c10 h9 (show B 0 0 (0 : Int32) from ⟨by decide, by decide⟩) (by decide)
      refine T.rdU (B.ib (show B 1 1 (1 : Int32) from ⟨by decide, by decide⟩) (by decide)) (fun v9 => ?_)
      refine T.wrI (I := fun m => Inv z m ∧ ∀ q, q ≠ 64 → m q = (mset g 54 3 0) q) (B.ib (show B 1 1 (1 : Int32) from ⟨by decide, by decide⟩) (by decide)) ⟨hM2.fra rfl, fun q hq => mset_rowF _ _ _ hq⟩ (fun g10 h16 => ?_)
      exact T.some' (show B 0 1 (0 : Int32) ∧ Inv z g10 from ⟨(B.wk (show B 0 0 (0 : Int32) from ⟨by decide, by decide⟩) (by decide)), h16.1⟩)
theorem t_Model_undo {z : Zt} {F : Nat} {g : Mem} (hF : 4294967296 < F) (hIg : Inv z g) : T (sp_Model_undo F g) (fun r => B (-1) 40 r.1 ∧ Inv z r.2) := by
  unfold sp_Model_undo
  refine T.cond (fun c1 => ?_) (fun c1 => ?_)
  · have hM3 : Inv z (mset g 54 3 0) := hIg.fre rfl
    have f2 : B 0 0 ((mset g 54 3 0) 54 27) := B.eql c1 hM3.acts (show B 0 0 (0 : Int32) from ⟨by decide, by decide⟩) (by decide)
    exact T.some' (show B (-1) 40 (-1 : Int32) ∧ Inv z (mset g 54 3 0) from ⟨(B.wk (show B (-1) (-1) (-1 : Int32) from ⟨by decide, by decide⟩) (by decide)), hM3⟩)
  · have hM5 : Inv z (mset g 54 3 0) := hIg.fre rfl
    have f4 : B 1 40 ((mset g 54 3 0) 54 27) := B.nelo c1 hM5.acts (show B 0 0 (0 : Int32) from ⟨by decide, by decide⟩) (by decide)
    have b7 : B 0 39 (((mset g 54 3 0) 54 27) - 1) := B.sub f4 (show B 1 1 (1 : Int32) from ⟨by decide, by decide⟩) (by decide)
    have hM8 : Inv z (mset (mset g 54 3 0) 54 27 (((mset g 54 3 0) 54 27) - 1)) := hM5.p_acts (B.wk b7 (by decide))
    have b9 : B 0 39 ((mset (mset g 54 3 0) 54 27 (((mset g 54 3 0) 54 27) - 1)) 54 27) := B.mset_s b7
    have b10 : B 0 9009 (231 * ((mset (mset g 54 3 0) 54 27 (((mset g 54 3 0) 54 27) - 1)) 54 27)) := B.mul (show B 231 231 (231 : Int32) from ⟨by decide, by decide⟩) b9 (by decide)
    refine T.callB (t_Model_unpack (q0n := 9240) hF (Or.inl rfl) (by decide) b10 (mul231 b9) hM8) (fun v2 h6 => ?_)
    exact T.some' (show B (-1) 40 (v2 54 27) ∧ Inv z v2 from ⟨(B.wk h6.acts (by decide)), h6⟩)
theorem t_Model_isOfKind {z : Zt} {p0 : Int32} {p1 : Int32} {p2 : Int32} {g : Mem} (hp0 : B 0 23 p0) (hp1 : B 0 3 p1) (hIg : Inv z g) : T (sp_Model_isOfKind p0 p1 p2 g) (fun r => B 0 1 r) := by
  unfold sp_Model_isOfKind
  refine T.callB (t_Model_isThere hp0 hIg) (fun v1 h1 => ?_)
  refine T.cond (fun c2 => ?_) (fun c2 => ?_)
  · have f3 : B 0 0 (v1) := B.eql c2 h1 (show B 0 0 (0 : Int32) from ⟨by decide, by decide⟩) (by decide)
    exact T.some' (show B 0 1 (0 : Int32) from (B.wk (show B 0 0 (0 : Int32) from ⟨by decide, by decide⟩) (by decide)))
  · have f4 : B 1 1 (v1) := B.nelo c2 h1 (show B 0 0 (0 : Int32) from ⟨by decide, by decide⟩) (by decide)
    refine T.callB (t_Model_of hp0 (B.wk (show B 0 0 (0 : Int32) from ⟨by decide, by decide⟩) (by decide)) hIg) (fun v3 h5 => ?_)
    refine T.cond (fun c6 => ?_) (fun c6 => ?_)
    · have f7 : B 0 3 (v3) := B.eql c6 (B.any v3) hp1 (by decide)
      refine T.callB (t_Model_of hp0 (B.wk (show B 3 3 (3 : Int32) from ⟨by decide, by decide⟩) (by decide)) hIg) (fun v5 h8 => ?_)
      refine T.cond (fun c9 => ?_) (fun c9 => ?_)
      · exact T.some' (show B 0 1 (1 : Int32) from (B.wk (show B 1 1 (1 : Int32) from ⟨by decide, by decide⟩) (by decide)))
      · exact T.some' (show B 0 1 (0 : Int32) from (B.wk (show B 0 0 (0 : Int32) from ⟨by decide, by decide⟩) (by decide)))
    · exact T.some' (show B 0 1 (0 : Int32) from (B.wk (show B 0 0 (0 : Int32) from ⟨by decide, by decide⟩) (by decide)))
theorem t_Model_law_j95_25 {z : Zt} {F : Nat} {p0 k1 : Int32} {m0 g : Mem} {x2 x3 x4 y0 : Int32} (hF : 4294967296 < F) (hx4 : B 0 23 x4) (hI : Inv z m0) (hy : y0 = 0 ∨ B 0 23 x2) : T (sp_Model_law_j95_25 F p0 k1 m0 g x2 x3 x4 y0) (LQ (J_Model_law_25 z) (Q_Model_law_25 z) (fun s => s.2.2) x4) := by
  unfold sp_Model_law_j95_25
  have hn : B 0 24 (x4 + 1) := B.add hx4 (show B 1 1 (1 : Int32) from ⟨by decide, by decide⟩) (by decide)
  have f0 : T (some (Sum.inl (x4, (0 : Int32), x4 + 1))) (LQ (J_Model_law_25 z) (Q_Model_law_25 z) (fun s => s.2.2) x4) := T.some' (show J_Model_law_25 z (x4, 0, x4 + 1) ∧ x4 + 1 = x4 + 1 from ⟨⟨hx4.wk (by decide), b01, hn⟩, rfl⟩)
  have f1 : T (some (Sum.inl (x4, (1 : Int32), x4 + 1))) (LQ (J_Model_law_25 z) (Q_Model_law_25 z) (fun s => s.2.2) x4) := T.some' (show J_Model_law_25 z (x4, 1, x4 + 1) ∧ x4 + 1 = x4 + 1 from ⟨⟨hx4.wk (by decide), b11, hn⟩, rfl⟩)
  refine T.cond (fun c => f0) (fun c => ?_)
  have hx2 := hy.resolve_left c
  have h4 : B 0 8 (4 : Int32) := ⟨by decide, by decide⟩
  refine T.cond (fun c2 => ?_) (fun c2 => f1)
  refine T.callB (t_Model_of hx4 h4 hI) (fun v11 _ => T.callB (t_Model_of hx2 h4 hI) (fun v12 _ => ?_))
  exact T.cond (fun c3 => f0) (fun c3 => f1)
theorem t_Model_law_j94_25 {z : Zt} {F : Nat} {p0 : Int32} {k1 : Int32} {m0 : Mem} {g : Mem} {x2 : Int32} {x3 : Int32} {x4 : Int32} (hF : 4294967296 < F) (hx2 : B (-1) 23 x2) (hx3 : B 0 1 x3) (hx4 : B 0 23 x4) (hIm0 : Inv z m0) : T (sp_Model_law_j94_25 F p0 k1 m0 g x2 x3 x4) (LQ (J_Model_law_25 z) (Q_Model_law_25 z) (fun s => s.2.2) x4) := by
  unfold sp_Model_law_j94_25
  exact t_Model_law_j95_25 hF hx4 hIm0 (Or.inl rfl)
theorem t_Model_law_j69_25 {z : Zt} {F : Nat} {p0 : Int32} {k1 : Int32} {m0 : Mem} {g : Mem} {x2 : Int32} {x3 : Int32} {x4 : Int32} (hF : 4294967296 < F) (hx2 : B (-1) 23 x2) (hx3 : B 0 1 x3) (hx4 : B 0 23 x4) (hIm0 : Inv z m0) : T (sp_Model_law_j69_25 F p0 k1 m0 g x2 x3 x4) (LQ (J_Model_law_25 z) (Q_Model_law_25 z) (fun s => s.2.2) x4) := by
  unfold sp_Model_law_j69_25
  refine T.cond (fun c1 => ?_) (fun c1 => ?_)
  · have f2 : B (-1) (-1) (x2) := B.eql c1 hx2 (show B (-1) (-1) (-1 : Int32) from ⟨by decide, by decide⟩) (by decide)
    exact t_Model_law_j94_25 hF (B.wk f2 (by decide)) hx3 hx4 hIm0
  · have f3 : B 0 23 (x2) := B.nelo c1 hx2 (show B (-1) (-1) (-1 : Int32) from ⟨by decide, by decide⟩) (by decide)
    refine T.callB (t_Model_of hx4 (B.wk (show B 2 2 (2 : Int32) from ⟨by decide, by decide⟩) (by decide)) hIm0) (fun v14 h4 => ?_)
    refine T.callB (t_Model_of f3 (B.wk (show B 2 2 (2 : Int32) from ⟨by decide, by decide⟩) (by decide)) hIm0) (fun v15 h5 => ?_)
    refine T.cond (fun c6 => ?_) (fun c6 => ?_)
    · exact t_Model_law_j95_25 hF hx4 hIm0 (Or.inr f3)
    · exact t_Model_law_j94_25 hF (B.wk f3 (by decide)) hx3 hx4 hIm0
theorem t_Model_law_25 {z : Zt} {F : Nat} {p0 : Int32} {g : Mem} {k1 : Int32} {m0 : Mem} {s : Int32 × Int32 × Int32} (hF : 4294967296 < F) (hIm0 : Inv z m0) (hs : J_Model_law_25 z s) : T (st_Model_law_25 F p0 g k1 m0 s) (LQ (J_Model_law_25 z) (Q_Model_law_25 z) (fun s => s.2.2) s.2.2) := by
  unfold st_Model_law_25
  refine T.cond (fun c1 => ?_) (fun c1 => ?_)
  · exact T.some' (show B (-1) 23 s.1 ∧ B 0 1 s.2.1 from ⟨hs.1, hs.2.1⟩)
  · have f2 : B 1 24 (m0 54 26) := B.nlel c1 hIm0.many hs.2.2 (by decide)
    have f3 : B 0 23 (s.2.2) := B.nler c1 hIm0.many hs.2.2 (by decide)
    refine T.callB (t_Model_isOfKind f3 (B.wk (show B 0 0 (0 : Int32) from ⟨by decide, by decide⟩) (by decide)) hIm0) (fun v5 h4 => ?_)
    refine T.cond (fun c5 => ?_) (fun c5 => ?_)
    · have f6 : B 0 0 (v5) := B.eql c5 h4 (show B 0 0 (0 : Int32) from ⟨by decide, by decide⟩) (by decide)
      have b7 : B 1 24 (s.2.2 + 1) := B.add f3 (show B 1 1 (1 : Int32) from ⟨by decide, by decide⟩) (by decide)
      exact T.some' (show J_Model_law_25 z (s.1, s.2.1, s.2.2 + 1) ∧ s.2.2 + 1 = s.2.2 + 1 from ⟨⟨hs.1, hs.2.1, (B.wk b7 (by decide))⟩, rfl⟩)
    · have f8 : B 1 1 (v5) := B.nelo c5 h4 (show B 0 0 (0 : Int32) from ⟨by decide, by decide⟩) (by decide)
      refine T.cond (fun c9 => ?_) (fun c9 => ?_)
      · have f10 : B (-1) (-1) (s.1) := B.eql c9 hs.1 (show B (-1) (-1) (-1 : Int32) from ⟨by decide, by decide⟩) (by decide)
        exact t_Model_law_j69_25 hF (B.wk f10 (by decide)) hs.2.1 f3 hIm0
      · have f11 : B 0 23 (s.1) := B.nelo c9 hs.1 (show B (-1) (-1) (-1 : Int32) from ⟨by decide, by decide⟩) (by decide)
        refine T.callB (t_Model_of f3 (B.wk (show B 2 2 (2 : Int32) from ⟨by decide, by decide⟩) (by decide)) hIm0) (fun v17 h12 => ?_)
        refine T.callB (t_Model_of f11 (B.wk (show B 2 2 (2 : Int32) from ⟨by decide, by decide⟩) (by decide)) hIm0) (fun v18 h13 => ?_)
        refine T.cond (fun c14 => ?_) (fun c14 => ?_)
        · exact t_Model_law_j69_25 hF (B.wk f11 (by decide)) hs.2.1 f3 hIm0
        · have f15 : B (-2147483647) 2147483647 (v18) := B.nlel c14 (B.any v18) (B.any v17) (by decide)
          have f16 : B (-2147483648) 2147483646 (v17) := B.nler c14 (B.any v18) (B.any v17) (by decide)
          have b17 : B 1 24 (s.2.2 + 1) := B.add f3 (show B 1 1 (1 : Int32) from ⟨by decide, by decide⟩) (by decide)
          exact T.some' (show J_Model_law_25 z (s.1, s.2.1, s.2.2 + 1) ∧ s.2.2 + 1 = s.2.2 + 1 from ⟨⟨(B.wk f11 (by decide)), hs.2.1, (B.wk b17 (by decide))⟩, rfl⟩)
theorem t_Model_law {z : Zt} {F : Nat} {p0 : Int32} {g : Mem} (hF : 4294967296 < F) (hIg : Inv z g) : T (sp_Model_law F p0 g) (fun r => B (-2147483648) 2147483647 r.1 ∧ Inv z r.2) := by
  unfold sp_Model_law
  refine T.callB (t_Model_isAbout ) (fun v1 h1 => ?_)
  refine T.cond (fun c2 => ?_) (fun c2 => ?_)
  · have f3 : B 0 0 (v1) := B.eql c2 h1 (show B 0 0 (0 : Int32) from ⟨by decide, by decide⟩) (by decide)
    have hM5 : Inv z (mset g 54 3 0) := hIg.fre rfl
    refine T.callB (t_Model_fail hM5) (fun v3 h4 => ?_)
    exact T.some' (show B (-2147483648) 2147483647 v3.1 ∧ Inv z v3.2 from ⟨(B.any v3.1), h4.2⟩)
  · have f6 : B 1 1 (v1) := B.nelo c2 h1 (show B 0 0 (0 : Int32) from ⟨by decide, by decide⟩) (by decide)
    have hM7 : Inv z (mset g 54 3 0) := hIg.fre rfl
    refine T.callB (T.lpc (J := J_Model_law_25 z) (Q := Q_Model_law_25 z) (fun s => s.2.2) 0 24 (by decide) (fun s h => h.2.2) (fun s h => t_Model_law_25 hF hM7 h) F _ (show J_Model_law_25 z ((-1), 0, 0) from ⟨(B.wk (show B (-1) (-1) (-1 : Int32) from ⟨by decide, by decide⟩) (by decide)), (B.wk (show B 0 0 (0 : Int32) from ⟨by decide, by decide⟩) (by decide)), (B.wk (show B 0 0 (0 : Int32) from ⟨by decide, by decide⟩) (by decide))⟩) hF) (fun x20 h8 => ?_)
    have h8 : B (-1) 23 x20.1 ∧ B 0 1 x20.2 := h8
    refine T.cond (fun c9 => ?_) (fun c9 => ?_)
    · have f10 : B (-1) (-1) (x20.1) := B.eql c9 h8.1 (show B (-1) (-1) (-1 : Int32) from ⟨by decide, by decide⟩) (by decide)
      exact T.some' (show B (-2147483648) 2147483647 (-1 : Int32) ∧ Inv z (mset g 54 3 0) from ⟨(B.any (-1 : Int32)), hM7⟩)
    · have f11 : B 0 23 (x20.1) := B.nelo c9 h8.1 (show B (-1) (-1) (-1 : Int32) from ⟨by decide, by decide⟩) (by decide)
      refine T.cond (fun c12 => ?_) (fun c12 => ?_)
      · have f13 : B 0 0 (x20.2) := B.eql c12 h8.2 (show B 0 0 (0 : Int32) from ⟨by decide, by decide⟩) (by decide)
        refine T.callB (t_Model_of f11 (B.wk (show B 4 4 (4 : Int32) from ⟨by decide, by decide⟩) (by decide)) hM7) (fun v23 h14 => ?_)
        exact T.some' (show B (-2147483648) 2147483647 v23 ∧ Inv z (mset g 54 3 0) from ⟨(B.any v23), hM7⟩)
      · have f15 : B 1 1 (x20.2) := B.nelo c12 h8.2 (show B 0 0 (0 : Int32) from ⟨by decide, by decide⟩) (by decide)
        exact T.some' (show B (-2147483648) 2147483647 (-2 : Int32) ∧ Inv z (mset g 54 3 0) from ⟨(B.any (-2 : Int32)), hM7⟩)
theorem t_Model_areRivals_41 {z : Zt} {F : Nat} {p0 : Int32} {p1 : Int32} {g : Mem} {k1 : Int32} {k2 : Int32} {k3 : Int32} {s : Int32} (hF : 4294967296 < F) (hp0 : B 0 5 p0) (hp1 : B 1 5 p1) (hk1 : B 0 5 k1) (hk2 : B 1 5 k2) (hk3 : B 0 23 k3) (hIg : Inv z g) (hs : J_Model_areRivals_41 z s) : T (st_Model_areRivals_41 F p0 p1 g k1 k2 k3 s) (LQ (J_Model_areRivals_41 z) (Q_Model_areRivals_41 z) (fun s => s) s) := by
  unfold st_Model_areRivals_41
  refine T.cond (fun c1 => ?_) (fun c1 => ?_)
  · exact T.some' (show True from trivial)
  · have f2 : B 1 24 (g 54 26) := B.nlel c1 hIg.many hs (by decide)
    have f3 : B 0 23 (s) := B.nler c1 hIg.many hs (by decide)
    refine T.callB (t_Model_of hk3 (B.wk (show B 3 3 (3 : Int32) from ⟨by decide, by decide⟩) (by decide)) hIg) (fun v8 h4 => ?_)
    refine T.callB (t_Model_isOfKind f3 (B.wk (show B 0 0 (0 : Int32) from ⟨by decide, by decide⟩) (by decide)) hIg) (fun v9 h5 => ?_)
    refine T.cond (fun c6 => ?_) (fun c6 => ?_)
    · have f7 : B 0 0 (v9) := B.eql c6 h5 (show B 0 0 (0 : Int32) from ⟨by decide, by decide⟩) (by decide)
      have b8 : B 1 24 (s + 1) := B.add f3 (show B 1 1 (1 : Int32) from ⟨by decide, by decide⟩) (by decide)
      exact T.some' (show J_Model_areRivals_41 z (s + 1) ∧ s + 1 = s + 1 from ⟨(B.wk b8 (by decide)), rfl⟩)
    · have f9 : B 1 1 (v9) := B.nelo c6 h5 (show B 0 0 (0 : Int32) from ⟨by decide, by decide⟩) (by decide)
      refine T.callB (t_Model_of1 f3 hIg) (fun v11 h10 => ?_)
      refine T.cond (fun c11 => ?_) (fun c11 => ?_)
      · have f12 : B 1 5 (v11) := B.eql c11 h10 hk2 (by decide)
        refine T.callB (t_Model_of f3 (B.wk (show B 2 2 (2 : Int32) from ⟨by decide, by decide⟩) (by decide)) hIg) (fun v13 h13 => ?_)
        refine T.callB (t_Model_of hk3 (B.wk (show B 2 2 (2 : Int32) from ⟨by decide, by decide⟩) (by decide)) hIg) (fun v14 h14 => ?_)
        refine T.cond (fun c15 => ?_) (fun c15 => ?_)
        · refine T.callB (t_Model_of f3 (B.wk (show B 4 4 (4 : Int32) from ⟨by decide, by decide⟩) (by decide)) hIg) (fun v16 h16 => ?_)
          refine T.callB (t_Model_of hk3 (B.wk (show B 4 4 (4 : Int32) from ⟨by decide, by decide⟩) (by decide)) hIg) (fun v17 h17 => ?_)
          refine T.cond (fun c18 => ?_) (fun c18 => ?_)
          · have b19 : B 1 24 (s + 1) := B.add f3 (show B 1 1 (1 : Int32) from ⟨by decide, by decide⟩) (by decide)
            exact T.some' (show J_Model_areRivals_41 z (s + 1) ∧ s + 1 = s + 1 from ⟨(B.wk b19 (by decide)), rfl⟩)
          · exact T.some' (show True from trivial)
        · have b20 : B 1 24 (s + 1) := B.add f3 (show B 1 1 (1 : Int32) from ⟨by decide, by decide⟩) (by decide)
          exact T.some' (show J_Model_areRivals_41 z (s + 1) ∧ s + 1 = s + 1 from ⟨(B.wk b20 (by decide)), rfl⟩)
      · have b21 : B 1 24 (s + 1) := B.add f3 (show B 1 1 (1 : Int32) from ⟨by decide, by decide⟩) (by decide)
        exact T.some' (show J_Model_areRivals_41 z (s + 1) ∧ s + 1 = s + 1 from ⟨(B.wk b21 (by decide)), rfl⟩)
theorem t_Model_areRivals_2 {z : Zt} {F : Nat} {p0 : Int32} {p1 : Int32} {g : Mem} {k1 : Int32} {k2 : Int32} {s : Int32} (hF : 4294967296 < F) (hp0 : B 0 5 p0) (hp1 : B 1 5 p1) (hk1 : B 0 5 k1) (hk2 : B 1 5 k2) (hIg : Inv z g) (hs : J_Model_areRivals_2 z s) : T (st_Model_areRivals_2 F p0 p1 g k1 k2 s) (LQ (J_Model_areRivals_2 z) (Q_Model_areRivals_2 z) (fun s => s) s) := by
  unfold st_Model_areRivals_2
  refine T.cond (fun c1 => ?_) (fun c1 => ?_)
  · exact T.some' (show True from trivial)
  · have f2 : B 1 24 (g 54 26) := B.nlel c1 hIg.many hs (by decide)
    have f3 : B 0 23 (s) := B.nler c1 hIg.many hs (by decide)
    refine T.callB (t_Model_of f3 (B.wk (show B 3 3 (3 : Int32) from ⟨by decide, by decide⟩) (by decide)) hIg) (fun v2 h4 => ?_)
    refine T.callB (t_Model_isOfKind f3 (B.wk (show B 0 0 (0 : Int32) from ⟨by decide, by decide⟩) (by decide)) hIg) (fun v3 h5 => ?_)
    refine T.cond (fun c6 => ?_) (fun c6 => ?_)
    · have f7 : B 0 0 (v3) := B.eql c6 h5 (show B 0 0 (0 : Int32) from ⟨by decide, by decide⟩) (by decide)
      have b8 : B 1 24 (s + 1) := B.add f3 (show B 1 1 (1 : Int32) from ⟨by decide, by decide⟩) (by decide)
      exact T.some' (show J_Model_areRivals_2 z (s + 1) ∧ s + 1 = s + 1 from ⟨(B.wk b8 (by decide)), rfl⟩)
    · have f9 : B 1 1 (v3) := B.nelo c6 h5 (show B 0 0 (0 : Int32) from ⟨by decide, by decide⟩) (by decide)
      refine T.callB (t_Model_of1 f3 hIg) (fun v5 h10 => ?_)
      refine T.cond (fun c11 => ?_) (fun c11 => ?_)
      · refine T.callB (T.lpc (J := J_Model_areRivals_41 z) (Q := Q_Model_areRivals_41 z) (fun s => s) 0 24 (by decide) (fun s h => h) (fun s h => t_Model_areRivals_41 hF hp0 hp1 hk1 hk2 f3 hIg h) F _ (show J_Model_areRivals_41 z (0 : Int32) from (B.wk (show B 0 0 (0 : Int32) from ⟨by decide, by decide⟩) (by decide))) hF) (fun x19 h12 => ?_)
        rcases x19 with x20 | x21
        · dsimp only
          exact T.some' (show True from trivial)
        · dsimp only
          have b13 : B 1 24 (s + 1) := B.add f3 (show B 1 1 (1 : Int32) from ⟨by decide, by decide⟩) (by decide)
          exact T.some' (show J_Model_areRivals_2 z (s + 1) ∧ s + 1 = s + 1 from ⟨(B.wk b13 (by decide)), rfl⟩)
      · have b14 : B 1 24 (s + 1) := B.add f3 (show B 1 1 (1 : Int32) from ⟨by decide, by decide⟩) (by decide)
        exact T.some' (show J_Model_areRivals_2 z (s + 1) ∧ s + 1 = s + 1 from ⟨(B.wk b14 (by decide)), rfl⟩)
theorem t_Model_areRivals {z : Zt} {F : Nat} {p0 : Int32} {p1 : Int32} {g : Mem} (hF : 4294967296 < F) (hp0 : B 0 5 p0) (hp1 : B 1 5 p1) (hIg : Inv z g) : T (sp_Model_areRivals F p0 p1 g) (fun r => B 0 1 r) := by
  unfold sp_Model_areRivals
  refine T.callB (T.lpc (J := J_Model_areRivals_2 z) (Q := Q_Model_areRivals_2 z) (fun s => s) 0 24 (by decide) (fun s h => h) (fun s h => t_Model_areRivals_2 hF hp0 hp1 hp0 hp1 hIg h) F _ (show J_Model_areRivals_2 z (0 : Int32) from (B.wk (show B 0 0 (0 : Int32) from ⟨by decide, by decide⟩) (by decide))) hF) (fun x22 h1 => ?_)
  rcases x22 with x23 | x24
  · dsimp only
    exact T.some' (show B 0 1 (1 : Int32) from (B.wk (show B 1 1 (1 : Int32) from ⟨by decide, by decide⟩) (by decide)))
  · dsimp only
    exact T.some' (show B 0 1 (0 : Int32) from (B.wk (show B 0 0 (0 : Int32) from ⟨by decide, by decide⟩) (by decide)))
theorem t_Model_rivals_23 {z : Zt} {F : Nat} {g : Mem} {k2 : Int32} {m0 : Mem} {s : Int32 × Int32} (hF : 4294967296 < F) (hk2 : B 0 5 k2) (hIm0 : Inv z m0) (hs : J_Model_rivals_23 z s) : T (st_Model_rivals_23 F g k2 m0 s) (LQ (J_Model_rivals_23 z) (Q_Model_rivals_23 z) (fun s => s.2) s.2) := by
  unfold st_Model_rivals_23
  refine T.rdK 0 (P := fun z => B 0 6 z ∧ z = (m0) 58 0) (B.ib (show B 0 0 (0 : Int32) from ⟨by decide, by decide⟩) (by decide)) rfl ⟨hIm0.told0, rfl⟩ (fun v3 h1 => ?_)
  refine T.cond (fun c2 => ?_) (fun c2 => ?_)
  · exact T.some' (show B (-2147483648) 2147483647 s.1 from (B.any s.1))
  · have f3 : B 2 6 (v3) := B.nlel c2 h1.1 hs.2 (by decide)
    have f4 : B 1 5 (s.2) := B.nler c2 h1.1 hs.2 (by decide)
    refine T.callB (t_Model_areRivals hF hk2 f4 hIm0) (fun v5 h5 => ?_)
    refine T.cond (fun c6 => ?_) (fun c6 => ?_)
    · have f7 : B 0 0 (v5) := B.eql c6 h5 (show B 0 0 (0 : Int32) from ⟨by decide, by decide⟩) (by decide)
      have b8 : B (-2147483648) 2147483647 (s.1 + 0) := B.add (B.any s.1) (show B 0 0 (0 : Int32) from ⟨by decide, by decide⟩) (by decide)
      have b9 : B 2 6 (s.2 + 1) := B.add f4 (show B 1 1 (1 : Int32) from ⟨by decide, by decide⟩) (by decide)
      exact T.some' (show J_Model_rivals_23 z (s.1 + 0, s.2 + 1) ∧ s.2 + 1 = s.2 + 1 from ⟨⟨b8, (B.wk b9 (by decide))⟩, rfl⟩)
    · have f10 : B 1 1 (v5) := B.nelo c6 h5 (show B 0 0 (0 : Int32) from ⟨by decide, by decide⟩) (by decide)
      have b11 : B 2 6 (s.2 + 1) := B.add f4 (show B 1 1 (1 : Int32) from ⟨by decide, by decide⟩) (by decide)
      exact T.some' (show J_Model_rivals_23 z (s.1 + 1, s.2 + 1) ∧ s.2 + 1 = s.2 + 1 from ⟨⟨(B.any (s.1 + 1)), (B.wk b11 (by decide))⟩, rfl⟩)
theorem t_Model_rivals_9 {z : Zt} {F : Nat} {g : Mem} {m0 : Mem} {s : Int32 × Int32} (hF : 4294967296 < F) (hIm0 : Inv z m0) (hs : J_Model_rivals_9 z s) : T (st_Model_rivals_9 F g m0 s) (LQ (J_Model_rivals_9 z) (Q_Model_rivals_9 z) (fun s => s.2) s.2) := by
  unfold st_Model_rivals_9
  refine T.rdK 0 (P := fun z => B 0 6 z ∧ z = (m0) 58 0) (B.ib (show B 0 0 (0 : Int32) from ⟨by decide, by decide⟩) (by decide)) rfl ⟨hIm0.told0, rfl⟩ (fun v1 h1 => ?_)
  refine T.cond (fun c2 => ?_) (fun c2 => ?_)
  · exact T.some' (show B (-2147483648) 2147483647 s.1 from (B.any s.1))
  · have f3 : B 1 6 (v1) := B.nlel c2 h1.1 hs.2 (by decide)
    have f4 : B 0 5 (s.2) := B.nler c2 h1.1 hs.2 (by decide)
    have b5 : B 1 6 (s.2 + 1) := B.add f4 (show B 1 1 (1 : Int32) from ⟨by decide, by decide⟩) (by decide)
    refine T.callB (T.lpc (J := J_Model_rivals_23 z) (Q := Q_Model_rivals_23 z) (fun s => s.2) 1 6 (by decide) (fun s h => h.2) (fun s h => t_Model_rivals_23 hF f4 hIm0 h) F _ (show J_Model_rivals_23 z (s.1, s.2 + 1) from ⟨(B.any s.1), b5⟩) hF) (fun x7 h6 => ?_)
    have h6 : B (-2147483648) 2147483647 x7 := h6
    exact T.some' (show J_Model_rivals_9 z (x7, s.2 + 1) ∧ s.2 + 1 = s.2 + 1 from ⟨⟨(B.any x7), (B.wk b5 (by decide))⟩, rfl⟩)
theorem t_Model_rivals {z : Zt} {F : Nat} {g : Mem} (hF : 4294967296 < F) (hIg : Inv z g) : T (sp_Model_rivals F g) (fun r => B (-2147483648) 2147483647 r.1 ∧ Inv z r.2) := by
  unfold sp_Model_rivals
  have hM1 : Inv z (mset g 54 3 0) := hIg.fre rfl
  refine T.callB (T.lpc (J := J_Model_rivals_9 z) (Q := Q_Model_rivals_9 z) (fun s => s.2) 0 6 (by decide) (fun s h => h.2) (fun s h => t_Model_rivals_9 hF hM1 h) F _ (show J_Model_rivals_9 z (0, 0) from ⟨(B.any (0 : Int32)), (B.wk (show B 0 0 (0 : Int32) from ⟨by decide, by decide⟩) (by decide))⟩) hF) (fun x8 h2 => ?_)
  have h2 : B (-2147483648) 2147483647 x8 := h2
  exact T.some' (show B (-2147483648) 2147483647 x8 ∧ Inv z (mset g 54 3 0) from ⟨(B.any x8), hM1⟩)
