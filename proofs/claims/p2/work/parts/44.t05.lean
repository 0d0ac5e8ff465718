/-! a value comes out, and the memory stays well (by program: wip/p2gen) -/
theorem t_Model_season_j229 {z : Zt} {F : Nat} {p0 : Int32} {p1 : Int32} {p2 : Int32} {g : Mem} {m0 : Mem} {y0 : Int32} (hF : 4294967296 < F) (hp1 : B 0 40 p1) (hp2 : B 0 2 p2) (hIm0 : Inv z m0) : T (sp_Model_season_j229 F p0 p1 p2 g m0 y0) (fun r => B (-2147483648) 2147483647 r.1 ∧ Inv z r.2) := by
  unfold sp_Model_season_j229
  refine T.callB (t_Model_unpack (q0n := 231) hF (Or.inr (Or.inl rfl)) (by decide) (show B 0 0 (0 : Int32) from ⟨by decide, by decide⟩) rfl hIm0) (fun v30 h1 => ?_)
  exact T.some' (show B (-2147483648) 2147483647 y0 ∧ Inv z v30 from ⟨(B.any y0), h1⟩)
theorem t_Model_season {z : Zt} {F : Nat} {p0 : Int32} {p1 : Int32} {p2 : Int32} {g : Mem} (hF : 4294967296 < F) (hIg : Inv z g) : T (sp_Model_season F p0 p1 p2 g) (fun r => B (-2147483648) 2147483647 r.1 ∧ Inv z r.2) := by
  unfold sp_Model_season
  refine T.callB (t_Model_isInL (a := 0) (b := 2) (by decide) (by decide)) (fun v1 h1 => ?_)
  refine T.cond (fun c2 => ?_) (fun c2 => ?_)
  · have f3 : B 0 0 (v1) := B.eql c2 h1.1 (show B 0 0 (0 : Int32) from ⟨by decide, by decide⟩) (by decide)
    have hM5 : Inv z (mset g 54 3 0) := hIg.fre rfl
    refine T.callB (t_Model_fail hM5) (fun v3 h4 => ?_)
    exact T.some' (show B (-2147483648) 2147483647 v3.1 ∧ Inv z v3.2 from ⟨(B.any v3.1), h4.2⟩)
  · have q6 : B 0 2 (p2) := h1.2 c2
    have f7 : B 1 1 (v1) := B.nelo c2 h1.1 (show B 0 0 (0 : Int32) from ⟨by decide, by decide⟩) (by decide)
    refine T.callB (t_Model_isInL (a := 0) (b := 40) (by decide) (by decide)) (fun v4 h8 => ?_)
    refine T.cond (fun c9 => ?_) (fun c9 => ?_)
    · have f10 : B 0 0 (v4) := B.eql c9 h8.1 (show B 0 0 (0 : Int32) from ⟨by decide, by decide⟩) (by decide)
      have hM12 : Inv z (mset g 54 3 0) := hIg.fre rfl
      refine T.callB (t_Model_fail hM12) (fun v6 h11 => ?_)
      exact T.some' (show B (-2147483648) 2147483647 v6.1 ∧ Inv z v6.2 from ⟨(B.any v6.1), h11.2⟩)
    · have q13 : B 0 40 (p1) := h8.2 c9
      have f14 : B 1 1 (v4) := B.nelo c9 h8.1 (show B 0 0 (0 : Int32) from ⟨by decide, by decide⟩) (by decide)
      have hM16 : Inv z (mset g 54 3 0) := hIg.fre rfl
      refine T.callB (t_Model_pack (q0n := 231) hF (Or.inr (Or.inl rfl)) (by decide) (show B 0 0 (0 : Int32) from ⟨by decide, by decide⟩) rfl hM16) (fun v7 h15 => ?_)
      have hM17 : Inv z (mset v7 54 34 p0) := h15.1.fre rfl
      refine T.callB (T.lpc (J := J_Model_season_61 z) (Q := Q_Model_season_61 z) (fun s => s.2.1) 0 40 (by decide) (fun s h => h.2.1) (fun s h => t_Model_season_61 hF q13 q6 q13 q6 h) F _ (show J_Model_season_61 z (0, 0, mset v7 54 34 p0) from ⟨(B.any (0 : Int32)), (B.wk (show B 0 0 (0 : Int32) from ⟨by decide, by decide⟩) (by decide)), hM17⟩) hF) (fun x26 h18 => ?_)
      have h18 : B (-2147483648) 2147483647 x26.1 ∧ Inv z x26.2 := h18
      refine T.cond (fun c19 => ?_) (fun c19 => ?_)
      · have f20 : B 0 0 (p2) := B.eql c19 q6 (show B 0 0 (0 : Int32) from ⟨by decide, by decide⟩) (by decide)
        refine T.callB (t_Model_records hF h18.2) (fun v28 h21 => ?_)
        refine T.callB (t_Model_bitsOf hF) (fun v29 h22 => ?_)
        exact t_Model_season_j229 hF q13 (B.wk f20 (by decide)) h18.2
      · have f23 : B 1 2 (p2) := B.nelo c19 q6 (show B 0 0 (0 : Int32) from ⟨by decide, by decide⟩) (by decide)
        refine T.cond (fun c24 => ?_) (fun c24 => ?_)
        · have f25 : B 1 1 (p2) := B.eql c24 f23 (show B 1 1 (1 : Int32) from ⟨by decide, by decide⟩) (by decide)
          refine T.callB (t_Model_owedNow hF h18.2) (fun v32 h26 => ?_)
          exact t_Model_season_j229 hF q13 (B.wk f25 (by decide)) h18.2
        · have f27 : B 2 2 (p2) := B.nelo c24 f23 (show B 1 1 (1 : Int32) from ⟨by decide, by decide⟩) (by decide)
          exact t_Model_season_j229 hF q13 (B.wk f27 (by decide)) h18.2
theorem t_Model_be' {z : Zt} {F q0 q0n q1 q1n : Nat} {g : Mem} (hF : 4294967296 < F) (hn : q0n ≤ q1n ∧ q1n < 2147483648) (hI : Inv z g) (hw : ∀ (m : Mem) (i : Nat), Inv z m → Inv z (mset m q0 i (m q1 i))) : T (sp_Model_be F q0 q0n q1 q1n g) (fun r => Inv z r) := by
  unfold sp_Model_be
  refine T.callB (P := fun m => Inv z m) ?_ (fun v hv => T.some' hv)
  refine T.cnt q0n (fun i s => s.1 = nI i ∧ Inv z s.2) ?_ ?_ q0n 0 _ F (by omega) ⟨rfl, hI⟩ (by omega)
  · rintro i ⟨b, m⟩ hi ⟨rfl, hO⟩
    unfold st_Model_be_2
    refine T.neg (nI_ge hi (by omega)) ?_
    refine T.rdB (inb_nI (by omega) (by omega)) ?_
    refine T.wrB (inb_nI hi (by omega)) (T.some' (Or.inl ⟨_, rfl, nI_1 i, ?_⟩))
    rw [nI_clamp (by omega)]
    exact hw m i hO
  · rintro ⟨b, m⟩ ⟨rfl, hO⟩
    unfold st_Model_be_2
    exact T.pos (nI_le (Nat.le_refl _) (by omega)) (T.some' ⟨_, rfl, hO⟩)
theorem t_Model_be {z : Zt} {F q0 q0n q1 q1n : Nat} {g : Mem} (hF : 4294967296 < F) (hq : freeP q0 = true) (hn : q0n ≤ q1n ∧ q1n < 2147483648) (hI : Inv z g) : T (sp_Model_be F q0 q0n q1 q1n g) (fun r => Inv z r) := t_Model_be' hF hn hI (fun m i hm => hm.fra hq)
theorem t_Model_beP {z : Zt} {F q0 q0n q1 q1n : Nat} {g : Mem} (hF : 4294967296 < F) (hq : QP q0) (hq1 : QP q1) (hn : q0n ≤ q1n ∧ q1n < 2147483648) (hI : Inv z g) : T (sp_Model_be F q0 q0n q1 q1n g) (fun r => Inv z r) := t_Model_be' hF hn hI (fun m i hm => hm.paR hq (PA_up (hm.pa hq) (hm.pa hq1 i).1 (hm.pa hq1 i).2))
theorem t_Model_image {z : Zt} {F : Nat} {g : Mem} (hF : 4294967296 < F) (hIg : Inv z g) : T (sp_Model_image F g) (fun r => Inv z r) := by
  unfold sp_Model_image
  have hM2 : Inv z (mset g 54 3 0) := hIg.fre rfl
  have hM3 : Inv z (mset (mset g 54 3 0) 54 35 1) := hM2.fre rfl
  have hM4 : Inv z (mset (mset (mset g 54 3 0) 54 35 1) 54 36 ((mset (mset g 54 3 0) 54 35 1) 54 27)) := hM3.p_actsT hM3.acts
  have hM5 : Inv z (mset (mset (mset (mset g 54 3 0) 54 35 1) 54 36 ((mset (mset g 54 3 0) 54 35 1) 54 27)) 54 37 ((mset (mset (mset g 54 3 0) 54 35 1) 54 36 ((mset (mset g 54 3 0) 54 35 1) 54 27)) 54 28)) := hM4.p_seenT hM4.seen
  refine T.callB (t_Model_pack (q0n := 231) hF (Or.inr (Or.inr (Or.inl rfl))) (by decide) (show B 0 0 (0 : Int32) from ⟨by decide, by decide⟩) rfl hM5) (fun v1 h1 => ?_)
  refine T.callB (t_Model_beP hF (Or.inr (Or.inr (Or.inr rfl))) (Or.inl rfl) (by decide) h1.1) (fun v2 h6 => ?_)
  refine T.callB (t_Model_be hF rfl (by decide) h6) (fun v3 h7 => ?_)
  refine T.callB (t_Model_be hF rfl (by decide) h7) (fun v4 h8 => ?_)
  refine T.callB (t_Model_be hF rfl (by decide) h8) (fun v5 h9 => ?_)
  exact T.some' (show Inv z v5 from h9)
theorem t_Model_restore {z : Zt} {F : Nat} {g : Mem} (hF : 4294967296 < F) (hIg : Inv z g) : T (sp_Model_restore F g) (fun r => B 0 1 r.1 ∧ Inv z r.2) := by
  unfold sp_Model_restore
  refine T.cond (fun c1 => ?_) (fun c1 => ?_)
  · have b3 : B (-2147483648) 2147483647 ((mset g 54 3 0) 54 35) := B.mset_o (by decide) (B.any (g 54 35))
    have f2 : B 0 0 ((mset g 54 3 0) 54 35) := B.eql c1 b3 (show B 0 0 (0 : Int32) from ⟨by decide, by decide⟩) (by decide)
    have hM4 : Inv z (mset g 54 3 0) := hIg.fre rfl
    exact T.some' (show B 0 1 (0 : Int32) ∧ Inv z (mset g 54 3 0) from ⟨(B.wk (show B 0 0 (0 : Int32) from ⟨by decide, by decide⟩) (by decide)), hM4⟩)
  · have hM6 : Inv z (mset g 54 3 0) := hIg.fre rfl
    have hM7 : Inv z (mset (mset g 54 3 0) 54 27 ((mset g 54 3 0) 54 36)) := hM6.p_acts hM6.actsT
    have hM8 : Inv z (mset (mset (mset g 54 3 0) 54 27 ((mset g 54 3 0) 54 36)) 54 28 ((mset (mset g 54 3 0) 54 27 ((mset g 54 3 0) 54 36)) 54 37)) := hM7.p_seen hM7.seenT
    refine T.callB (t_Model_unpack (q0n := 231) hF (Or.inr (Or.inr (Or.inl rfl))) (by decide) (show B 0 0 (0 : Int32) from ⟨by decide, by decide⟩) rfl hM8) (fun v2 h5 => ?_)
    refine T.callB (t_Model_beP hF (Or.inl rfl) (Or.inr (Or.inr (Or.inr rfl))) (by decide) h5) (fun v3 h9 => ?_)
    refine T.callB (t_Model_be hF rfl (by decide) h9) (fun v4 h10 => ?_)
    refine T.callB (t_Model_be hF rfl (by decide) h10) (fun v5 h11 => ?_)
    refine T.callB (t_Model_be hF rfl (by decide) h11) (fun v6 h12 => ?_)
    exact T.some' (show B 0 1 (1 : Int32) ∧ Inv z v6 from ⟨(B.wk (show B 1 1 (1 : Int32) from ⟨by decide, by decide⟩) (by decide)), h12⟩)
theorem Inv.ce3 {z : Zt} {g : Mem} (h : Inv z g) : CE (g 32) := h.2.2.2.1.2.2
theorem t_Hall_putBytes {t1 t2 : Int32} {f : Nat → Int32} {F : Nat} {p0 : Int32} {g : Mem} (hF : 4294967296 < F) (ht : B 0 696 t1) (hI : Inv (t1, t2, f) g) : T (sp_Hall_putBytes F p0 g) (fun r => Inv (t1 + 4, t2, f) r) := by
  unfold sp_Hall_putBytes
  refine T.callB (P := fun m => Inv (t1 + 4, t2, f) m) ?_ (fun x hx => T.some' hx)
  refine T.cnt 4 (fun i s => s.1 = 24 - 8 * nI i ∧ Inv (t1 + nI i, t2, f) s.2) ?_ ?_ 4 0 _ F (by omega) ⟨(show (24 : Int32) = 24 - 8 * nI 0 from by decide), ?_⟩ (by omega)
  · rintro i ⟨b, m⟩ hi ⟨hb, hm⟩
    dsimp only at hb hm
    subst hb
    have ti := tapeB (i := i) ht (by omega) (by omega)
    have e1 : m 0 1 = t1 + nI i := hm.1.1
    have bi : B 0 699 (m 0 1) := by
      rw [e1]
      exact ⟨by rw [ti]; have := ht.1; omega, by rw [ti]; have := ht.2; omega⟩
    have lo : ¬ (24 - 8 * nI i : Int32) < 0 ∧ 24 - 8 * nI i + (-8) = 24 - 8 * nI (i + 1) := by
      have : i = 0 ∨ i = 1 ∨ i = 2 ∨ i = 3 := by omega
      rcases this with rfl | rfl | rfl | rfl <;> decide
    unfold st_Hall_putBytes_3
    dsimp only
    refine T.neg lo.1 (T.neg (B.no_le (show B 700 700 (700 : Int32) from ⟨by decide, by decide⟩) bi (by decide)) ?_)
    refine T.wrI (I := fun m' => Inv (t1 + nI i, t2, f) m') (B.ib bi (by decide)) (hm.fra rfl) (fun g3 h3 => ?_)
    refine T.some' (Or.inl ⟨_, rfl, lo.2, ?_⟩)
    have e2 : g3 0 1 + 1 = t1 + nI (i + 1) := by
      rw [h3.1.1, ← nI_1, Int32.add_assoc]
    rw [e2]
    exact h3.tape1
  · rintro ⟨b, m⟩ ⟨hb, hm⟩
    dsimp only at hb hm
    subst hb
    unfold st_Hall_putBytes_3
    dsimp only
    exact T.pos (by decide) (T.some' ⟨_, rfl, hm⟩)
  · show Inv (t1 + nI 0, t2, f) g
    rw [show t1 + nI 0 = t1 from Int32.add_zero t1]
    exact hI
theorem t_Hall_feed {t1 t2 : Int32} {f : Nat → Int32} {F : Nat} {p0 p1 p2 p3 p4 : Int32} {g : Mem} (hF : 4294967296 < F) (ht : B 0 700 t1) (hI : Inv (t1, t2, f) g) : T (sp_Hall_feed F p0 p1 p2 p3 p4 g) (fun r => (t1 + 20 ≤ 700 → r.1 = t1 + 20 ∧ Inv (t1 + 20, t2, f) r.2) ∧ (¬ t1 + 20 ≤ 700 → r.1 = -1 ∧ Inv (t1, t2, f) r.2)) := by
  unfold sp_Hall_feed
  rw [hI.1.1]
  refine T.cond (fun c => ?_) (fun c => T.some' ⟨fun h => absurd h c, fun _ => ⟨rfl, hI⟩⟩)
  have t20 : (t1 + 20).toInt = t1.toInt + 20 := tapeB (i := 20) ht (by decide) (by decide)
  have c' := ile.mp c
  rw [t20, show (700 : Int32).toInt = 700 from by decide] at c'
  have bk : ∀ (i : Nat), i ≤ 16 → B 0 696 (t1 + nI i) := fun i hi => by
    have ti := tapeB (i := i) ht (by omega) (by omega)
    exact ⟨by rw [ti]; have := ht.1; omega, by rw [ti]; omega⟩
  have ad : ∀ (i : Nat), t1 + nI i + 4 = t1 + nI (i + 4) := fun i => by rw [Int32.add_assoc, show nI i + 4 = nI (i + 4) from nI_add i 4]
  refine T.callB (t_Hall_putBytes hF (show B 0 696 t1 from ⟨ht.1, by omega⟩) hI) (fun v2 h2 => ?_)
  refine T.callB (t_Hall_putBytes hF (bk 4 (by decide)) h2) (fun v3 h3 => ?_)
  rw [ad] at h3
  refine T.callB (t_Hall_putBytes hF (bk 8 (by decide)) h3) (fun v4 h4 => ?_)
  rw [ad] at h4
  refine T.callB (t_Hall_putBytes hF (bk 12 (by decide)) h4) (fun v5 h5 => ?_)
  rw [ad] at h5
  refine T.callB (t_Hall_putBytes hF (bk 16 (by decide)) h5) (fun v6 h6 => ?_)
  rw [ad] at h6
  have h7 : Inv (t1 + 20, t2, f) v6 := h6
  exact T.some' ⟨fun _ => ⟨h7.1.1, h7⟩, fun h => absurd c h⟩
theorem t_Hall_archive {t1 t2 : Int32} {f : Nat → Int32} {F : Nat} {p0 : Int32} {g : Mem} (hF : 4294967296 < F) (ht : B 0 700 t1) (hI : Inv (t1, t2, f) g) : T (sp_Hall_archive F p0 g) (XQ (fun r => (0 ≤ p0.toInt ∧ p0.toInt ≤ t1.toInt) ∧ ∃ f', Inv (0, t2, f') r.2) (fun e => e = 0 ∧ ¬ (0 ≤ p0.toInt ∧ p0.toInt ≤ t1.toInt))) := by
  unfold sp_Hall_archive
  have e0 : (0 : Int32).toInt = 0 := by decide
  refine T.cond (fun c => T.some' (show (0 : Nat) = 0 ∧ _ from ⟨rfl, fun h => by have := ilt.mp c; omega⟩)) (fun c => ?_)
  have h0 : 0 ≤ p0.toInt := by
    have : ¬ p0.toInt < (0 : Int32).toInt := fun q => c (ilt.mpr q)
    omega
  refine T.cond (fun c2 => ?_) (fun c2 => T.some' (show (0 : Nat) = 0 ∧ _ from ⟨rfl, fun h => c2 (ile.mpr (by rw [hI.1.1]; exact h.2))⟩))
  have h1 : p0.toInt ≤ t1.toInt := by
    have := ile.mp c2
    rw [hI.1.1] at this
    exact this
  have hp : B 0 700 p0 := ⟨h0, by have := ht.2; omega⟩
  have i1 : Inv (0, t2, f) (mset g 0 1 0) := by
    obtain ⟨⟨a1, a3⟩, a2, ac, rest⟩ := hI
    have hne : ∀ q, q ≠ 0 → mset g 0 1 0 q = g q := fun q hq => mset_rowF g 1 0 hq
    have hc0 : ∀ c ∈ cons, c.1 ≠ 0 := by decide
    refine ⟨⟨by rw [mset_get, if_pos ⟨rfl, rfl⟩], by rw [hne 3 (by decide)]; exact a3⟩, by rw [hne 54 (by decide)]; exact a2, fun c hm => by rw [hne _ (hc0 c hm)]; exact ac c hm, ?_⟩
    rw [hne 7 (by decide), hne 18 (by decide), hne 32 (by decide), hne 27 (by decide), hne 34 (by decide), hne 62 (by decide), hne 67 (by decide), hne 70 (by decide), hne 73 (by decide), hne 74 (by decide), hne 58 (by decide), hne 63 (by decide)]
    exact rest
  refine T.callB (t_Reader_read hF hp i1) (fun v3 h3 => ?_)
  have i3 : Inv (0, t2, v3 3) v3 := h3.1
  refine T.cond (fun c3 => ?_) (fun c3 => ?_)
  · have i4 : Inv (0, t2, v3 3) (mset v3 0 2 (-1)) := i3.fre rfl
    refine T.callB (t_Roll_take RP15 RP4 i4) (fun v5 h5 => ?_)
    refine T.callB (t_Hair_take HP23 HP12 h5) (fun v6 h6 => ?_)
    have i6 := h6.p_amany AP26 (show B 0 40 (0 : Int32) from ⟨by decide, by decide⟩)
    have i7 := i6.p_smany SP28 (show B 0 8 (0 : Int32) from ⟨by decide, by decide⟩)
    have i8 : Inv (0, t2, v3 3) (mset (mset (mset v6 26 1 0) 28 2 0) 31 0 0) := i7.fre rfl
    exact T.some' (show (0 ≤ p0.toInt ∧ p0.toInt ≤ t1.toInt) ∧ ∃ f', Inv (0, t2, f') _ from ⟨⟨h0, h1⟩, _, i8⟩)
  · have i4 : Inv (0, t2, v3 3) (mset v3 0 2 (v3 3 10)) := i3.fre rfl
    refine T.rdU (by decide) (fun v7 => ?_)
    exact T.wrI (I := fun m => Inv (0, t2, v3 3) m) (by decide) (i4.fra rfl) (fun g8 h8 => T.some' (show (0 ≤ p0.toInt ∧ p0.toInt ≤ t1.toInt) ∧ ∃ f', Inv (0, t2, f') _ from ⟨⟨h0, h1⟩, _, h8⟩))
theorem t_Hall_fault {z : Zt} {g : Mem} (hIg : Inv z g) : T (sp_Hall_fault g) (fun r => B (-2147483648) 2147483647 r) := by
  unfold sp_Hall_fault
  exact T.some' (show B (-2147483648) 2147483647 (g 0 2) from (B.any (g 0 2)))
theorem t_Hall_count {z : Zt} {F : Nat} {p0 : Int32} {g : Mem} (hF : 4294967296 < F) (hIg : Inv z g) : T (sp_Hall_count F p0 g) (XQ (fun r => B (-2147483648) 2147483647 r) (fun e => e = 1)) := by
  unfold sp_Hall_count
  refine T.cond (fun c1 => ?_) (fun c1 => ?_)
  · have f2 : B 0 0 (p0) := B.eql c1 (B.any p0) (show B 0 0 (0 : Int32) from ⟨by decide, by decide⟩) (by decide)
    exact T.some' (show B (-2147483648) 2147483647 (g 15 0) from (B.any (g 15 0)))
  · refine T.cond (fun c3 => ?_) (fun c3 => ?_)
    · have f4 : B 1 1 (p0) := B.eql c3 (B.any p0) (show B 1 1 (1 : Int32) from ⟨by decide, by decide⟩) (by decide)
      exact T.some' (show B (-2147483648) 2147483647 (g 23 4) from (B.any (g 23 4)))
    · refine T.cond (fun c5 => ?_) (fun c5 => ?_)
      · have f6 : B 2 2 (p0) := B.eql c5 (B.any p0) (show B 2 2 (2 : Int32) from ⟨by decide, by decide⟩) (by decide)
        exact T.some' (show B (-2147483648) 2147483647 (g 15 1) from (B.any (g 15 1)))
      · refine T.cond (fun c7 => ?_) (fun c7 => ?_)
        · have f8 : B 3 3 (p0) := B.eql c7 (B.any p0) (show B 3 3 (3 : Int32) from ⟨by decide, by decide⟩) (by decide)
          exact T.some' (show B (-2147483648) 2147483647 (g 15 2) from (B.any (g 15 2)))
        · refine T.cond (fun c9 => ?_) (fun c9 => ?_)
          · have f10 : B 4 4 (p0) := B.eql c9 (B.any p0) (show B 4 4 (4 : Int32) from ⟨by decide, by decide⟩) (by decide)
            exact T.some' (show B (-2147483648) 2147483647 (g 15 3) from (B.any (g 15 3)))
          · refine T.cond (fun c11 => ?_) (fun c11 => ?_)
            · have f12 : B 5 5 (p0) := B.eql c11 (B.any p0) (show B 5 5 (5 : Int32) from ⟨by decide, by decide⟩) (by decide)
              exact T.some' (show B (-2147483648) 2147483647 (g 23 3) from (B.any (g 23 3)))
            · refine T.cond (fun c13 => ?_) (fun c13 => ?_)
              · have f14 : B 6 6 (p0) := B.eql c13 (B.any p0) (show B 6 6 (6 : Int32) from ⟨by decide, by decide⟩) (by decide)
                refine T.callB (t_Hair_allThere HP23 hIg) (fun v8 h15 => ?_)
                refine T.callB (t_JInteger_bitCount ) (fun v9 h16 => ?_)
                exact T.some' (show B (-2147483648) 2147483647 v9 from (B.any v9))
              · refine T.cond (fun c17 => ?_) (fun c17 => ?_)
                · have f18 : B 7 7 (p0) := B.eql c17 (B.any p0) (show B 7 7 (7 : Int32) from ⟨by decide, by decide⟩) (by decide)
                  refine T.callB (t_Hair_recordsThere hF HP23 hIg) (fun v11 h19 => ?_)
                  refine T.callB (t_JInteger_bitCount ) (fun v12 h20 => ?_)
                  exact T.some' (show B (-2147483648) 2147483647 v12 from (B.any v12))
                · refine T.cond (fun c21 => ?_) (fun c21 => ?_)
                  · have f22 : B 8 8 (p0) := B.eql c21 (B.any p0) (show B 8 8 (8 : Int32) from ⟨by decide, by decide⟩) (by decide)
                    refine T.callB (t_Hair_deadOnes hF HP23 hIg) (fun v14 h23 => ?_)
                    exact T.some' (show B (-2147483648) 2147483647 v14 from (B.any v14))
                  · refine T.cond (fun c24 => ?_) (fun c24 => ?_)
                    · have f25 : B 9 9 (p0) := B.eql c24 (B.any p0) (show B 9 9 (9 : Int32) from ⟨by decide, by decide⟩) (by decide)
                      exact T.some' (show B (-2147483648) 2147483647 (g 26 1) from (B.any (g 26 1)))
                    · refine T.cond (fun c26 => ?_) (fun c26 => ?_)
                      · have f27 : B 10 10 (p0) := B.eql c26 (B.any p0) (show B 10 10 (10 : Int32) from ⟨by decide, by decide⟩) (by decide)
                        exact T.some' (show B (-2147483648) 2147483647 (g 28 2) from (B.any (g 28 2)))
                      · refine T.cond (fun c28 => ?_) (fun c28 => ?_)
                        · have f29 : B 11 11 (p0) := B.eql c28 (B.any p0) (show B 11 11 (11 : Int32) from ⟨by decide, by decide⟩) (by decide)
                          exact T.some' (show B (-2147483648) 2147483647 (g 0 1) from (B.any (g 0 1)))
                        · refine T.cond (fun c30 => ?_) (fun c30 => ?_)
                          · have f31 : B 12 12 (p0) := B.eql c30 (B.any p0) (show B 12 12 (12 : Int32) from ⟨by decide, by decide⟩) (by decide)
                            refine T.rdU (B.ib (show B 0 0 (0 : Int32) from ⟨by decide, by decide⟩) (by decide)) (fun v19 => ?_)
                            exact T.some' (show B (-2147483648) 2147483647 v19 from (B.any v19))
                          · refine T.cond (fun c32 => ?_) (fun c32 => ?_)
                            · have f33 : B 13 13 (p0) := B.eql c32 (B.any p0) (show B 13 13 (13 : Int32) from ⟨by decide, by decide⟩) (by decide)
                              refine T.rdU (B.ib (show B 1 1 (1 : Int32) from ⟨by decide, by decide⟩) (by decide)) (fun v21 => ?_)
                              exact T.some' (show B (-2147483648) 2147483647 v21 from (B.any v21))
                            · refine T.cond (fun c34 => ?_) (fun c34 => ?_)
                              · have f35 : B 14 14 (p0) := B.eql c34 (B.any p0) (show B 14 14 (14 : Int32) from ⟨by decide, by decide⟩) (by decide)
                                refine T.rdU (B.ib (show B 2 2 (2 : Int32) from ⟨by decide, by decide⟩) (by decide)) (fun v23 => ?_)
                                exact T.some' (show B (-2147483648) 2147483647 v23 from (B.any v23))
                              · exact T.some' (show (1 : Nat) = 1 from rfl)
theorem t_Hall_needMonk {z : Zt} {p0 : Int32} {g : Mem} (hI : Inv z g) : T (sp_Hall_needMonk p0 g) (XQ (fun _ => B 0 5 p0) (fun e => e = 1)) := by
  unfold sp_Hall_needMonk
  refine T.cond (fun c => T.some' (show (1 : Nat) = 1 from rfl)) (fun c => ?_)
  have h0 : B 0 2147483647 p0 := B.nltl c (B.any p0) (show B 0 0 (0 : Int32) from ⟨by decide, by decide⟩) (by decide)
  exact T.cond (fun c2 => T.some' (show B 0 5 p0 from B.ltl c2 h0 (hI.monks RP15) (by decide))) (fun c2 => T.some' (show (1 : Nat) = 1 from rfl))
theorem t_Hall_monk {z : Zt} {F : Nat} {p0 : Int32} {p1 : Int32} {g : Mem} (hF : 4294967296 < F) (hIg : Inv z g) : T (sp_Hall_monk F p0 p1 g) (XQ (fun r => B (-2147483648) 2147483647 r) (fun e => e = 1)) := by
  unfold sp_Hall_monk
  refine T.callB (t_Hall_needMonk hIg) (fun r2 h1 => ?_)
  rcases r2 with _u | e9
  · dsimp only
    have n2 : B 0 5 (p0) := h1
    refine T.cond (fun c3 => ?_) (fun c3 => ?_)
    · have f4 : B 0 0 (p1) := B.eql c3 (B.any p1) (show B 0 0 (0 : Int32) from ⟨by decide, by decide⟩) (by decide)
      refine T.rdU (B.ib n2 (by decide)) (fun v4 => ?_)
      exact T.some' (show B (-2147483648) 2147483647 v4 from (B.any v4))
    · refine T.cond (fun c5 => ?_) (fun c5 => ?_)
      · have f6 : B 1 1 (p1) := B.eql c5 (B.any p1) (show B 1 1 (1 : Int32) from ⟨by decide, by decide⟩) (by decide)
        refine T.callB (t_Hair_ageOf HP23 n2 hIg) (fun v6 h7 => ?_)
        exact T.some' (show B (-2147483648) 2147483647 v6 from (B.any v6))
      · refine T.cond (fun c8 => ?_) (fun c8 => ?_)
        · have f9 : B 2 2 (p1) := B.eql c8 (B.any p1) (show B 2 2 (2 : Int32) from ⟨by decide, by decide⟩) (by decide)
          refine T.rdU (B.ib n2 (by decide)) (fun v8 => ?_)
          exact T.some' (show B (-2147483648) 2147483647 v8 from (B.any v8))
        · refine T.cond (fun c10 => ?_) (fun c10 => ?_)
          · have f11 : B 3 3 (p1) := B.eql c10 (B.any p1) (show B 3 3 (3 : Int32) from ⟨by decide, by decide⟩) (by decide)
            refine T.callB (t_Roll_longest RP15 n2 hIg) (fun v10 h12 => ?_)
            exact T.some' (show B (-2147483648) 2147483647 v10 from (B.any v10))
          · refine T.cond (fun c13 => ?_) (fun c13 => ?_)
            · have f14 : B 4 4 (p1) := B.eql c13 (B.any p1) (show B 4 4 (4 : Int32) from ⟨by decide, by decide⟩) (by decide)
              refine T.callB (t_Hair_isGrey HP23 n2 hIg) (fun v12 h15 => ?_)
              refine T.cond (fun c16 => ?_) (fun c16 => ?_)
              · have f17 : B 0 0 (v12) := B.eql c16 h15 (show B 0 0 (0 : Int32) from ⟨by decide, by decide⟩) (by decide)
                exact T.some' (show B (-2147483648) 2147483647 (0 : Int32) from (B.any (0 : Int32)))
              · have f18 : B 1 1 (v12) := B.nelo c16 h15 (show B 0 0 (0 : Int32) from ⟨by decide, by decide⟩) (by decide)
                exact T.some' (show B (-2147483648) 2147483647 (1 : Int32) from (B.any (1 : Int32)))
            · refine T.cond (fun c19 => ?_) (fun c19 => ?_)
              · have f20 : B 5 5 (p1) := B.eql c19 (B.any p1) (show B 5 5 (5 : Int32) from ⟨by decide, by decide⟩) (by decide)
                refine T.callB (t_Hair_thereOf hF HP23 n2 hIg) (fun v15 h21 => ?_)
                refine T.callB (t_JInteger_bitCount ) (fun v16 h22 => ?_)
                exact T.some' (show B (-2147483648) 2147483647 v16 from (B.any v16))
              · exact T.some' (show (1 : Nat) = 1 from rfl)
  · have h1 : e9 = 1 := h1
    dsimp only
    exact T.some' (show (e9 : Nat) = 1 from h1)
theorem t_Hall_needEntry {z : Zt} {p0 : Int32} {g : Mem} (hI : Inv z g) : T (sp_Hall_needEntry p0 g) (XQ (fun _ => B 0 23 p0) (fun e => e = 1)) := by
  unfold sp_Hall_needEntry
  refine T.cond (fun c => T.some' (show (1 : Nat) = 1 from rfl)) (fun c => ?_)
  have h0 : B 0 2147483647 p0 := B.nltl c (B.any p0) (show B 0 0 (0 : Int32) from ⟨by decide, by decide⟩) (by decide)
  exact T.cond (fun c2 => T.some' (show B 0 23 p0 from B.ltl c2 h0 (hI.ents HP23) (by decide))) (fun c2 => T.some' (show (1 : Nat) = 1 from rfl))
theorem t_Hall_entry {z : Zt} {p0 : Int32} {p1 : Int32} {g : Mem} (hIg : Inv z g) : T (sp_Hall_entry p0 p1 g) (XQ (fun r => B (-2147483648) 2147483647 r) (fun e => e = 1)) := by
  unfold sp_Hall_entry
  refine T.callB (t_Hall_needEntry hIg) (fun r2 h1 => ?_)
  rcases r2 with _u | e9
  · dsimp only
    have n2 : B 0 23 (p0) := h1
    refine T.cond (fun c3 => ?_) (fun c3 => ?_)
    · have f4 : B (-2147483648) (-1) (p1) := B.ltl c3 (B.any p1) (show B 0 0 (0 : Int32) from ⟨by decide, by decide⟩) (by decide)
      exact T.some' (show (1 : Nat) = 1 from rfl)
    · have f5 : B 0 2147483647 (p1) := B.nltl c3 (B.any p1) (show B 0 0 (0 : Int32) from ⟨by decide, by decide⟩) (by decide)
      refine T.cond (fun c6 => ?_) (fun c6 => ?_)
      · have f7 : B 0 9 (p1) := B.lel c6 f5 (show B 9 9 (9 : Int32) from ⟨by decide, by decide⟩) (by decide)
        refine T.cond (fun c8 => ?_) (fun c8 => ?_)
        · have f9 : B 6 6 (p1) := B.eql c8 f7 (show B 6 6 (6 : Int32) from ⟨by decide, by decide⟩) (by decide)
          refine T.callB (t_Hair_isKnotted HP23 n2 hIg) (fun v6 h10 => ?_)
          refine T.cond (fun c11 => ?_) (fun c11 => ?_)
          · have f12 : B 0 0 (v6) := B.eql c11 h10 (show B 0 0 (0 : Int32) from ⟨by decide, by decide⟩) (by decide)
            exact T.some' (show B (-2147483648) 2147483647 (0 : Int32) from (B.any (0 : Int32)))
          · have f13 : B 1 1 (v6) := B.nelo c11 h10 (show B 0 0 (0 : Int32) from ⟨by decide, by decide⟩) (by decide)
            exact T.some' (show B (-2147483648) 2147483647 (1 : Int32) from (B.any (1 : Int32)))
        · refine T.cond (fun c14 => ?_) (fun c14 => ?_)
          · have f15 : B 7 7 (p1) := B.eql c14 f7 (show B 7 7 (7 : Int32) from ⟨by decide, by decide⟩) (by decide)
            refine T.callB (t_Roll_cell RP15 n2 (B.wk f15 (by decide)) hIg) (fun v9 h16 => ?_)
            exact T.some' (show B (-2147483648) 2147483647 v9 from (B.any v9))
          · refine T.cond (fun c17 => ?_) (fun c17 => ?_)
            · have f18 : B 8 8 (p1) := B.eql c17 f7 (show B 8 8 (8 : Int32) from ⟨by decide, by decide⟩) (by decide)
              refine T.callB (t_Hair_isThere HP23 n2 hIg) (fun v11 h19 => ?_)
              refine T.cond (fun c20 => ?_) (fun c20 => ?_)
              · have f21 : B 0 0 (v11) := B.eql c20 h19 (show B 0 0 (0 : Int32) from ⟨by decide, by decide⟩) (by decide)
                exact T.some' (show B (-2147483648) 2147483647 (0 : Int32) from (B.any (0 : Int32)))
              · have f22 : B 1 1 (v11) := B.nelo c20 h19 (show B 0 0 (0 : Int32) from ⟨by decide, by decide⟩) (by decide)
                exact T.some' (show B (-2147483648) 2147483647 (1 : Int32) from (B.any (1 : Int32)))
            · refine T.cond (fun c23 => ?_) (fun c23 => ?_)
              · have f24 : B 9 9 (p1) := B.eql c23 f7 (show B 9 9 (9 : Int32) from ⟨by decide, by decide⟩) (by decide)
                refine T.callB (t_Hair_breadths HP23 n2 hIg) (fun v14 h25 => ?_)
                exact T.some' (show B (-2147483648) 2147483647 v14 from (B.any v14))
              · have f26 : B 0 8 (p1) := B.nehi c23 f7 (show B 9 9 (9 : Int32) from ⟨by decide, by decide⟩) (by decide)
                have f27 : B 0 7 (p1) := B.nehi c17 f26 (show B 8 8 (8 : Int32) from ⟨by decide, by decide⟩) (by decide)
                have f28 : B 0 6 (p1) := B.nehi c14 f27 (show B 7 7 (7 : Int32) from ⟨by decide, by decide⟩) (by decide)
                have f29 : B 0 5 (p1) := B.nehi c8 f28 (show B 6 6 (6 : Int32) from ⟨by decide, by decide⟩) (by decide)
                refine T.callB (t_Roll_cell RP15 n2 (B.wk f29 (by decide)) hIg) (fun v15 h30 => ?_)
                exact T.some' (show B (-2147483648) 2147483647 v15 from (B.any v15))
      · have f31 : B 10 2147483647 (p1) := B.nlel c6 f5 (show B 9 9 (9 : Int32) from ⟨by decide, by decide⟩) (by decide)
        exact T.some' (show (1 : Nat) = 1 from rfl)
  · have h1 : e9 = 1 := h1
    dsimp only
    exact T.some' (show (e9 : Nat) = 1 from h1)
theorem t_Hall_holders {z : Zt} {F : Nat} {p0 : Int32} {g : Mem} (hF : 4294967296 < F) (hIg : Inv z g) : T (sp_Hall_holders F p0 g) (XQ (fun r => B (-2147483648) 2147483647 r) (fun e => e = 1)) := by
  unfold sp_Hall_holders
  refine T.callB (t_Hall_needEntry hIg) (fun r2 h1 => ?_)
  rcases r2 with _u | e9
  · dsimp only
    have n2 : B 0 23 (p0) := h1
    refine T.callB (t_Roll_cell RP15 n2 (B.wk (show B 7 7 (7 : Int32) from ⟨by decide, by decide⟩) (by decide)) hIg) (fun v3 h3 => ?_)
    refine T.callB (t_Hair_monksWith hF HP23 hIg) (fun v4 h4 => ?_)
    exact T.some' (show B (-2147483648) 2147483647 v4 from (B.any v4))
  · have h1 : e9 = 1 := h1
    dsimp only
    exact T.some' (show (e9 : Nat) = 1 from h1)
theorem t_Hall_tellRule_j97 {z : Zt} {p0 : Int32} {p1 : Int32} {p2 : Int32} {g : Mem} {m0 : Mem} {x1 : Int32} {y0 : Int32} {y1 : Int32} (hp0 : B 0 5 p0) (hp1 : B 0 23 p1) (hp2 : B 0 5 p2) (hx1 : B 0 5 x1) (hy0 : B 0 1 y0) (hy1 : B 4 4 y1) (hIm0 : Inv z m0) : T (sp_Hall_tellRule_j97 p0 p1 p2 g m0 x1 y0 y1) (fun r => Inv z r) := by
  unfold sp_Hall_tellRule_j97
  refine T.wrI (I := fun m => Inv z m ∧ ∀ q, q ≠ ((15 + 4) + 2) → m q = (m0) q) (B.ib hy1 (by decide)) ⟨hIm0.fra rfl, fun q hq => mset_rowF _ _ _ hq⟩ (fun g13 h1 => ?_)
  refine T.callB (t_Hair_ageOf HP23 hx1 h1.1) (fun v14 h2 => ?_)
  refine T.wrI (I := fun m => Inv z m ∧ ∀ q, q ≠ ((15 + 4) + 2) → m q = (g13) q) (B.ib (show B 5 5 (5 : Int32) from ⟨by decide, by decide⟩) (by decide)) ⟨h1.1.fra rfl, fun q hq => mset_rowF _ _ _ hq⟩ (fun g15 h3 => ?_)
  exact T.some' (show Inv z g15 from h3.1)
theorem t_Hall_tellRule_j83 {z : Zt} {p0 : Int32} {p1 : Int32} {p2 : Int32} {g : Mem} {m0 : Mem} {x1 : Int32} {x3 : Int32} {y0 : Int32} {y1 : Int32} (hp0 : B 0 5 p0) (hp1 : B 0 23 p1) (hp2 : B 0 5 p2) (hx1 : B 0 5 x1) (hx3 : B 0 5 x3) (hy0 : B 0 1 y0) (hy1 : B 6 6 y1) (hIm0 : Inv z m0) : T (sp_Hall_tellRule_j83 p0 p1 p2 g m0 x1 x3 y0 y1) (fun r => Inv z r) := by
  unfold sp_Hall_tellRule_j83
  refine T.wrI (I := fun m => Inv z m ∧ ∀ q, q ≠ ((15 + 4) + 2) → m q = (m0) q) (B.ib hy1 (by decide)) ⟨hIm0.fra rfl, fun q hq => mset_rowF _ _ _ hq⟩ (fun g11 h1 => ?_)
  refine T.cond (fun c2 => ?_) (fun c2 => ?_)
  · exact t_Hall_tellRule_j97 hp0 hp1 hp2 hx1 (B.wk (show B 1 1 (1 : Int32) from ⟨by decide, by decide⟩) (by decide)) (show B 4 4 (4 : Int32) from ⟨by decide, by decide⟩) h1.1
  · exact t_Hall_tellRule_j97 hp0 hp1 hp2 hx1 (B.wk (show B 0 0 (0 : Int32) from ⟨by decide, by decide⟩) (by decide)) (show B 4 4 (4 : Int32) from ⟨by decide, by decide⟩) h1.1
theorem t_Hall_tellRule {z : Zt} {p0 : Int32} {p1 : Int32} {p2 : Int32} {g : Mem} (hp0 : B 0 5 p0) (hp1 : B 0 23 p1) (hp2 : B 0 5 p2) (hIg : Inv z g) : T (sp_Hall_tellRule p0 p1 p2 g) (fun r => Inv z r) := by
  unfold sp_Hall_tellRule
  refine T.callB (t_Roll_cell RP15 hp1 (B.wk (show B 0 0 (0 : Int32) from ⟨by decide, by decide⟩) (by decide)) hIg) (fun v1 h1 => ?_)
  refine T.wrI (I := fun m => Inv z m ∧ ∀ q, q ≠ ((15 + 4) + 2) → m q = (g) q) (B.ib (show B 0 0 (0 : Int32) from ⟨by decide, by decide⟩) (by decide)) ⟨hIg.fra rfl, fun q hq => mset_rowF _ _ _ hq⟩ (fun g2 h2 => ?_)
  refine T.callB (t_Roll_cell RP15 hp1 (B.wk (show B 5 5 (5 : Int32) from ⟨by decide, by decide⟩) (by decide)) h2.1) (fun v3 h3 => ?_)
  refine T.wrI (I := fun m => Inv z m ∧ ∀ q, q ≠ ((15 + 4) + 2) → m q = (g2) q) (B.ib (show B 1 1 (1 : Int32) from ⟨by decide, by decide⟩) (by decide)) ⟨h2.1.fra rfl, fun q hq => mset_rowF _ _ _ hq⟩ (fun g4 h4 => ?_)
  refine T.callB (t_Roll_cell RP15 hp1 (B.wk (show B 3 3 (3 : Int32) from ⟨by decide, by decide⟩) (by decide)) h4.1) (fun v5 h5 => ?_)
  refine T.wrI (I := fun m => Inv z m ∧ ∀ q, q ≠ ((15 + 4) + 2) → m q = (g4) q) (B.ib (show B 2 2 (2 : Int32) from ⟨by decide, by decide⟩) (by decide)) ⟨h4.1.fra rfl, fun q hq => mset_rowF _ _ _ hq⟩ (fun g6 h6 => ?_)
  refine T.callB (t_Hair_breadths HP23 hp1 h6.1) (fun v7 h7 => ?_)
  refine T.wrI (I := fun m => Inv z m ∧ ∀ q, q ≠ ((15 + 4) + 2) → m q = (g6) q) (B.ib (show B 3 3 (3 : Int32) from ⟨by decide, by decide⟩) (by decide)) ⟨h6.1.fra rfl, fun q hq => mset_rowF _ _ _ hq⟩ (fun g8 h8 => ?_)
  refine T.callB (t_Hair_isGrey HP23 hp2 h8.1) (fun v9 h9 => ?_)
  refine T.cond (fun c10 => ?_) (fun c10 => ?_)
  · have f11 : B 0 0 (v9) := B.eql c10 h9 (show B 0 0 (0 : Int32) from ⟨by decide, by decide⟩) (by decide)
    exact t_Hall_tellRule_j83 hp0 hp1 hp2 hp0 hp2 (B.wk (show B 0 0 (0 : Int32) from ⟨by decide, by decide⟩) (by decide)) (show B 6 6 (6 : Int32) from ⟨by decide, by decide⟩) h8.1
  · have f12 : B 1 1 (v9) := B.nelo c10 h9 (show B 0 0 (0 : Int32) from ⟨by decide, by decide⟩) (by decide)
    exact t_Hall_tellRule_j83 hp0 hp1 hp2 hp0 hp2 (B.wk (show B 1 1 (1 : Int32) from ⟨by decide, by decide⟩) (by decide)) (show B 6 6 (6 : Int32) from ⟨by decide, by decide⟩) h8.1
theorem t_Hall_may {z : Zt} {F : Nat} {p0 : Int32} {p1 : Int32} {g : Mem} (hF : 4294967296 < F) (hIg : Inv z g) : T (sp_Hall_may F p0 p1 g) (XQ (fun r => B 0 1 r.1 ∧ Inv z r.2) (fun e => e = 1)) := by
  unfold sp_Hall_may
  refine T.callB (t_Hall_needMonk hIg) (fun r2 h1 => ?_)
  rcases r2 with _u | e9
  · dsimp only
    have n2 : B 0 5 (p0) := h1
    refine T.callB (t_Hall_needEntry hIg) (fun r4 h3 => ?_)
    rcases r4 with _u | e9
    · dsimp only
      have n4 : B 0 23 (p1) := h3
      refine T.callB (t_Hair_isThere HP23 n4 hIg) (fun v5 h5 => ?_)
      refine T.cond (fun c6 => ?_) (fun c6 => ?_)
      · have f7 : B 0 0 (v5) := B.eql c6 h5 (show B 0 0 (0 : Int32) from ⟨by decide, by decide⟩) (by decide)
        exact T.some' (show B 0 1 (0 : Int32) ∧ Inv z g from ⟨(B.wk (show B 0 0 (0 : Int32) from ⟨by decide, by decide⟩) (by decide)), hIg⟩)
      · have f8 : B 1 1 (v5) := B.nelo c6 h5 (show B 0 0 (0 : Int32) from ⟨by decide, by decide⟩) (by decide)
        refine T.callB (t_Roll_cell1 RP15 n4 hIg) (fun v7 h9 => ?_)
        refine T.rdU (B.ib h9 (by decide)) (fun v8 => ?_)
        refine T.cond (fun c10 => ?_) (fun c10 => ?_)
        · have f11 : B 3 3 (v8) := B.eql c10 (B.any v8) (show B 3 3 (3 : Int32) from ⟨by decide, by decide⟩) (by decide)
          refine T.cond (fun c12 => ?_) (fun c12 => ?_)
          · exact T.some' (show B 0 1 (1 : Int32) ∧ Inv z g from ⟨(B.wk (show B 1 1 (1 : Int32) from ⟨by decide, by decide⟩) (by decide)), hIg⟩)
          · exact T.some' (show B 0 1 (0 : Int32) ∧ Inv z g from ⟨(B.wk (show B 0 0 (0 : Int32) from ⟨by decide, by decide⟩) (by decide)), hIg⟩)
        · refine T.callB (t_Rule_isNone UP19 hIg) (fun v11 h13 => ?_)
          refine T.cond (fun c14 => ?_) (fun c14 => ?_)
          · have f15 : B 0 0 (v11) := B.eql c14 h13 (show B 0 0 (0 : Int32) from ⟨by decide, by decide⟩) (by decide)
            refine T.callB (t_Hall_tellRule n2 n4 h9 hIg) (fun v13 h16 => ?_)
            refine T.callB (t_Rule_holds hF UP19 h16) (fun v14 h17 => ?_)
            refine T.blU h17.1 (fun v15 h18 => ?_)
            exact T.some' (show B 0 1 v15 ∧ Inv z v14.2 from ⟨h18, h17.2⟩)
          · have f19 : B 1 1 (v11) := B.nelo c14 h13 (show B 0 0 (0 : Int32) from ⟨by decide, by decide⟩) (by decide)
            refine T.cond (fun c20 => ?_) (fun c20 => ?_)
            · exact T.some' (show B 0 1 (1 : Int32) ∧ Inv z g from ⟨(B.wk (show B 1 1 (1 : Int32) from ⟨by decide, by decide⟩) (by decide)), hIg⟩)
            · refine T.callB (t_Hair_isGrey HP23 h9 hIg) (fun v17 h21 => ?_)
              refine T.cond (fun c22 => ?_) (fun c22 => ?_)
              · have f23 : B 0 0 (v17) := B.eql c22 h21 (show B 0 0 (0 : Int32) from ⟨by decide, by decide⟩) (by decide)
                exact T.some' (show B 0 1 (1 : Int32) ∧ Inv z g from ⟨(B.wk (show B 1 1 (1 : Int32) from ⟨by decide, by decide⟩) (by decide)), hIg⟩)
              · have f24 : B 1 1 (v17) := B.nelo c22 h21 (show B 0 0 (0 : Int32) from ⟨by decide, by decide⟩) (by decide)
                exact T.some' (show B 0 1 (0 : Int32) ∧ Inv z g from ⟨(B.wk (show B 0 0 (0 : Int32) from ⟨by decide, by decide⟩) (by decide)), hIg⟩)
    · have h3 : e9 = 1 := h3
      dsimp only
      exact T.some' (show (e9 : Nat) = 1 from h3)
  · have h1 : e9 = 1 := h1
    dsimp only
    exact T.some' (show (e9 : Nat) = 1 from h1)
theorem t_Hall_refuseAct {z : Zt} {g : Mem} (hIg : Inv z g) : T (sp_Hall_refuseAct g) (fun r => B (-1) (-1) r.1 ∧ Inv z r.2) := by
  unfold sp_Hall_refuseAct
  refine T.rdU (B.ib (show B 1 1 (1 : Int32) from ⟨by decide, by decide⟩) (by decide)) (fun v1 => ?_)
  refine T.wrI (I := fun m => Inv z m ∧ ∀ q, q ≠ 2 → m q = (g) q) (B.ib (show B 1 1 (1 : Int32) from ⟨by decide, by decide⟩) (by decide)) ⟨hIg.fra rfl, fun q hq => mset_rowF _ _ _ hq⟩ (fun g2 h1 => ?_)
  exact T.some' (show B (-1) (-1) (-1 : Int32) ∧ Inv z g2 from ⟨(show B (-1) (-1) (-1 : Int32) from ⟨by decide, by decide⟩), h1.1⟩)
theorem t_Hall_years {z : Zt} {F : Nat} {p0 : Int32} {g : Mem} (hF : 4294967296 < F) (hIg : Inv z g) : T (sp_Hall_years F p0 g) (fun r => B (-2147483648) 2147483647 r.1 ∧ Inv z r.2) := by
  unfold sp_Hall_years
  refine T.cond (fun c1 => ?_) (fun c1 => ?_)
  · have f2 : B (-2147483648) 0 (p0) := B.ltl c1 (B.any p0) (show B 1 1 (1 : Int32) from ⟨by decide, by decide⟩) (by decide)
    refine T.callB (t_Hall_refuseAct hIg) (fun v2 h3 => ?_)
    exact T.some' (show B (-2147483648) 2147483647 v2.1 ∧ Inv z v2.2 from ⟨(B.any v2.1), h3.2⟩)
  · have f4 : B 1 2147483647 (p0) := B.nltl c1 (B.any p0) (show B 1 1 (1 : Int32) from ⟨by decide, by decide⟩) (by decide)
    refine T.cond (fun c5 => ?_) (fun c5 => ?_)
    · have f6 : B 31 2147483647 (p0) := B.ltr c5 (show B 30 30 (30 : Int32) from ⟨by decide, by decide⟩) f4 (by decide)
      refine T.callB (t_Hall_refuseAct hIg) (fun v4 h7 => ?_)
      exact T.some' (show B (-2147483648) 2147483647 v4.1 ∧ Inv z v4.2 from ⟨(B.any v4.1), h7.2⟩)
    · have f8 : B 1 30 (p0) := B.nltr c5 (show B 30 30 (30 : Int32) from ⟨by decide, by decide⟩) f4 (by decide)
      refine T.cond (fun c9 => ?_) (fun c9 => ?_)
      · refine T.callB (t_Acts_keep AP26 HP23 hIg) (fun v6 h10 => ?_)
        refine T.callB (t_Hair_pass hF HP23 f8 h10.1) (fun v7 h11 => ?_)
        exact T.some' (show B (-2147483648) 2147483647 (v7 23 3) ∧ Inv z v7 from ⟨(B.any (v7 23 3)), h11⟩)
      · refine T.callB (t_Hall_refuseAct hIg) (fun v8 h12 => ?_)
        exact T.some' (show B (-2147483648) 2147483647 v8.1 ∧ Inv z v8.2 from ⟨(B.any v8.1), h12.2⟩)
theorem t_Hall_braid {z : Zt} {p0 : Int32} {p1 : Int32} {p2 : Int32} {p3 : Int32} {g : Mem} (hIg : Inv z g) : T (sp_Hall_braid p0 p1 p2 p3 g) (XQ (fun r => B (-1) 23 r.1 ∧ Inv z r.2) (fun e => e = 1)) := by
  unfold sp_Hall_braid
  refine T.callB (t_Hall_needMonk hIg) (fun r2 h1 => ?_)
  rcases r2 with _u | e9
  · dsimp only
    have n2 : B 0 5 (p0) := h1
    refine T.callB (t_Hair_isFull HP23 hIg) (fun v3 h3 => ?_)
    refine T.cond (fun c4 => ?_) (fun c4 => ?_)
    · have q5 : B 0 23 (g 23 4) := h3.2 c4
      have f6 : B 0 0 (v3) := B.eql c4 h3.1 (show B 0 0 (0 : Int32) from ⟨by decide, by decide⟩) (by decide)
      refine T.callB (t_Hair_isDead HP23 n2 hIg) (fun v5 h7 => ?_)
      refine T.cond (fun c8 => ?_) (fun c8 => ?_)
      · have f9 : B 0 0 (v5) := B.eql c8 h7 (show B 0 0 (0 : Int32) from ⟨by decide, by decide⟩) (by decide)
        refine T.callB (t_Hall_isKind ) (fun v7 h10 => ?_)
        refine T.cond (fun c11 => ?_) (fun c11 => ?_)
        · have f12 : B 0 0 (v7) := B.eql c11 h10 (show B 0 0 (0 : Int32) from ⟨by decide, by decide⟩) (by decide)
          refine T.callB (t_Hall_refuseAct hIg) (fun v9 h13 => ?_)
          exact T.some' (show B (-1) 23 v9.1 ∧ Inv z v9.2 from ⟨(B.wk h13.1 (by decide)), h13.2⟩)
        · have f14 : B 1 1 (v7) := B.nelo c11 h10 (show B 0 0 (0 : Int32) from ⟨by decide, by decide⟩) (by decide)
          refine T.callB (t_Hall_isAbout ) (fun v10 h15 => ?_)
          refine T.cond (fun c16 => ?_) (fun c16 => ?_)
          · have f17 : B 0 0 (v10) := B.eql c16 h15 (show B 0 0 (0 : Int32) from ⟨by decide, by decide⟩) (by decide)
            refine T.callB (t_Hall_refuseAct hIg) (fun v12 h18 => ?_)
            exact T.some' (show B (-1) 23 v12.1 ∧ Inv z v12.2 from ⟨(B.wk h18.1 (by decide)), h18.2⟩)
          · have f19 : B 1 1 (v10) := B.nelo c16 h15 (show B 0 0 (0 : Int32) from ⟨by decide, by decide⟩) (by decide)
            refine T.callB (t_Hall_isWithin (B.wk (show B 999 999 (999 : Int32) from ⟨by decide, by decide⟩) (by decide))) (fun v13 h20 => ?_)
            refine T.cond (fun c21 => ?_) (fun c21 => ?_)
            · have f22 : B 0 0 (v13) := B.eql c21 h20 (show B 0 0 (0 : Int32) from ⟨by decide, by decide⟩) (by decide)
              refine T.callB (t_Hall_refuseAct hIg) (fun v15 h23 => ?_)
              exact T.some' (show B (-1) 23 v15.1 ∧ Inv z v15.2 from ⟨(B.wk h23.1 (by decide)), h23.2⟩)
            · have f24 : B 1 1 (v13) := B.nelo c21 h20 (show B 0 0 (0 : Int32) from ⟨by decide, by decide⟩) (by decide)
              refine T.callB (t_Acts_keep AP26 HP23 hIg) (fun v16 h25 => ?_)
              have k26 : B 0 23 (v16 23 4) := by rw [h25.2 23 (by decide) (by decide)]; exact q5
              refine T.callB (t_Hair_braidIn HP23 n2 h25.1 k26) (fun v17 h27 => ?_)
              exact T.some' (show B (-1) 23 v17.1 ∧ Inv z v17.2 from ⟨(B.wk h27.1 (by decide)), h27.2⟩)
      · have f28 : B 1 1 (v5) := B.nelo c8 h7 (show B 0 0 (0 : Int32) from ⟨by decide, by decide⟩) (by decide)
        refine T.callB (t_Hall_refuseAct hIg) (fun v18 h29 => ?_)
        exact T.some' (show B (-1) 23 v18.1 ∧ Inv z v18.2 from ⟨(B.wk h29.1 (by decide)), h29.2⟩)
    · have f30 : B 1 1 (v3) := B.nelo c4 h3.1 (show B 0 0 (0 : Int32) from ⟨by decide, by decide⟩) (by decide)
      refine T.callB (t_Hall_refuseAct hIg) (fun v19 h31 => ?_)
      exact T.some' (show B (-1) 23 v19.1 ∧ Inv z v19.2 from ⟨(B.wk h31.1 (by decide)), h31.2⟩)
  · have h1 : e9 = 1 := h1
    dsimp only
    exact T.some' (show (e9 : Nat) = 1 from h1)
theorem t_Hall_copy {z : Zt} {F : Nat} {p0 : Int32} {p1 : Int32} {g : Mem} (hF : 4294967296 < F) (hIg : Inv z g) : T (sp_Hall_copy F p0 p1 g) (XQ (fun r => B (-2147483648) 2147483647 r.1 ∧ Inv z r.2) (fun e => e = 1)) := by
  unfold sp_Hall_copy
  refine T.callB (t_Hall_needEntry hIg) (fun r2 h1 => ?_)
  rcases r2 with _u | e9
  · dsimp only
    have n2 : B 0 23 (p0) := h1
    refine T.callB (t_Hall_needMonk hIg) (fun r4 h3 => ?_)
    rcases r4 with _u | e9
    · dsimp only
      have n4 : B 0 5 (p1) := h3
      refine T.callB (t_Hair_isFull HP23 hIg) (fun v5 h5 => ?_)
      refine T.cond (fun c6 => ?_) (fun c6 => ?_)
      · have q7 : B 0 23 (g 23 4) := h5.2 c6
        have f8 : B 0 0 (v5) := B.eql c6 h5.1 (show B 0 0 (0 : Int32) from ⟨by decide, by decide⟩) (by decide)
        refine T.callB (t_Hair_isThere HP23 n2 hIg) (fun v7 h9 => ?_)
        refine T.cond (fun c10 => ?_) (fun c10 => ?_)
        · have f11 : B 0 0 (v7) := B.eql c10 h9 (show B 0 0 (0 : Int32) from ⟨by decide, by decide⟩) (by decide)
          refine T.callB (t_Hall_refuseAct hIg) (fun v9 h12 => ?_)
          exact T.some' (show B (-2147483648) 2147483647 v9.1 ∧ Inv z v9.2 from ⟨(B.any v9.1), h12.2⟩)
        · have f13 : B 1 1 (v7) := B.nelo c10 h9 (show B 0 0 (0 : Int32) from ⟨by decide, by decide⟩) (by decide)
          refine T.callB (t_Hair_isDead HP23 n4 hIg) (fun v10 h14 => ?_)
          refine T.cond (fun c15 => ?_) (fun c15 => ?_)
          · have f16 : B 0 0 (v10) := B.eql c15 h14 (show B 0 0 (0 : Int32) from ⟨by decide, by decide⟩) (by decide)
            refine T.callB (t_Roll_cell RP15 n2 (B.wk (show B 7 7 (7 : Int32) from ⟨by decide, by decide⟩) (by decide)) hIg) (fun v12 h17 => ?_)
            refine T.callB (t_Hair_holds hF HP23 hIg) (fun v13 h18 => ?_)
            refine T.cond (fun c19 => ?_) (fun c19 => ?_)
            · have f20 : B 0 0 (v13) := B.eql c19 h18 (show B 0 0 (0 : Int32) from ⟨by decide, by decide⟩) (by decide)
              refine T.callB (t_Acts_keep AP26 HP23 hIg) (fun v15 h21 => ?_)
              have k22 : B 0 23 (v15 23 4) := by rw [h21.2 23 (by decide) (by decide)]; exact q7
              refine T.callB (t_Hair_copyInto HP23 n2 n4 h21.1 k22) (fun v16 h23 => ?_)
              exact T.some' (show B (-2147483648) 2147483647 v16.1 ∧ Inv z v16.2 from ⟨(B.any v16.1), h23.2⟩)
            · have f24 : B 1 1 (v13) := B.nelo c19 h18 (show B 0 0 (0 : Int32) from ⟨by decide, by decide⟩) (by decide)
              refine T.callB (t_Hall_refuseAct hIg) (fun v17 h25 => ?_)
              exact T.some' (show B (-2147483648) 2147483647 v17.1 ∧ Inv z v17.2 from ⟨(B.any v17.1), h25.2⟩)
          · have f26 : B 1 1 (v10) := B.nelo c15 h14 (show B 0 0 (0 : Int32) from ⟨by decide, by decide⟩) (by decide)
            refine T.callB (t_Hall_refuseAct hIg) (fun v18 h27 => ?_)
            exact T.some' (show B (-2147483648) 2147483647 v18.1 ∧ Inv z v18.2 from ⟨(B.any v18.1), h27.2⟩)
      · have f28 : B 1 1 (v5) := B.nelo c6 h5.1 (show B 0 0 (0 : Int32) from ⟨by decide, by decide⟩) (by decide)
        refine T.callB (t_Hall_refuseAct hIg) (fun v19 h29 => ?_)
        exact T.some' (show B (-2147483648) 2147483647 v19.1 ∧ Inv z v19.2 from ⟨(B.any v19.1), h29.2⟩)
    · have h3 : e9 = 1 := h3
      dsimp only
      exact T.some' (show (e9 : Nat) = 1 from h3)
  · have h1 : e9 = 1 := h1
    dsimp only
    exact T.some' (show (e9 : Nat) = 1 from h1)
theorem t_Hall_mayBeHandled {z : Zt} {p0 : Int32} {g : Mem} (hp0 : B 0 23 p0) (hIg : Inv z g) : T (sp_Hall_mayBeHandled p0 g) (fun r => B 0 1 r) := by
  unfold sp_Hall_mayBeHandled
  refine T.callB (t_Hair_isThere HP23 hp0 hIg) (fun v1 h1 => ?_)
  refine T.cond (fun c2 => ?_) (fun c2 => ?_)
  · have f3 : B 0 0 (v1) := B.eql c2 h1 (show B 0 0 (0 : Int32) from ⟨by decide, by decide⟩) (by decide)
    exact T.some' (show B 0 1 (0 : Int32) from (B.wk (show B 0 0 (0 : Int32) from ⟨by decide, by decide⟩) (by decide)))
  · have f4 : B 1 1 (v1) := B.nelo c2 h1 (show B 0 0 (0 : Int32) from ⟨by decide, by decide⟩) (by decide)
    refine T.callB (t_Hair_isKnotted HP23 hp0 hIg) (fun v3 h5 => ?_)
    refine T.cond (fun c6 => ?_) (fun c6 => ?_)
    · have f7 : B 0 0 (v3) := B.eql c6 h5 (show B 0 0 (0 : Int32) from ⟨by decide, by decide⟩) (by decide)
      refine T.callB (t_Roll_cell1 RP15 hp0 hIg) (fun v5 h8 => ?_)
      refine T.callB (t_Hair_isDead HP23 h8 hIg) (fun v6 h9 => ?_)
      refine T.cond (fun c10 => ?_) (fun c10 => ?_)
      · have f11 : B 0 0 (v6) := B.eql c10 h9 (show B 0 0 (0 : Int32) from ⟨by decide, by decide⟩) (by decide)
        exact T.some' (show B 0 1 (1 : Int32) from (B.wk (show B 1 1 (1 : Int32) from ⟨by decide, by decide⟩) (by decide)))
      · have f12 : B 1 1 (v6) := B.nelo c10 h9 (show B 0 0 (0 : Int32) from ⟨by decide, by decide⟩) (by decide)
        exact T.some' (show B 0 1 (0 : Int32) from (B.wk (show B 0 0 (0 : Int32) from ⟨by decide, by decide⟩) (by decide)))
    · have f13 : B 1 1 (v3) := B.nelo c6 h5 (show B 0 0 (0 : Int32) from ⟨by decide, by decide⟩) (by decide)
      exact T.some' (show B 0 1 (0 : Int32) from (B.wk (show B 0 0 (0 : Int32) from ⟨by decide, by decide⟩) (by decide)))
theorem t_Hall_knot {z : Zt} {p0 : Int32} {g : Mem} (hIg : Inv z g) : T (sp_Hall_knot p0 g) (XQ (fun r => B 0 1 r.1 ∧ Inv z r.2) (fun e => e = 1)) := by
  unfold sp_Hall_knot
  refine T.callB (t_Hall_needEntry hIg) (fun r2 h1 => ?_)
  rcases r2 with _u | e9
  · dsimp only
    have n2 : B 0 23 (p0) := h1
    refine T.callB (t_Hall_mayBeHandled n2 hIg) (fun v3 h3 => ?_)
    refine T.cond (fun c4 => ?_) (fun c4 => ?_)
    · have f5 : B 0 0 (v3) := B.eql c4 h3 (show B 0 0 (0 : Int32) from ⟨by decide, by decide⟩) (by decide)
      refine T.callB (t_Hall_refuseAct hIg) (fun v5 h6 => ?_)
      exact T.some' (show B 0 1 (0 : Int32) ∧ Inv z v5.2 from ⟨(B.wk (show B 0 0 (0 : Int32) from ⟨by decide, by decide⟩) (by decide)), h6.2⟩)
    · have f7 : B 1 1 (v3) := B.nelo c4 h3 (show B 0 0 (0 : Int32) from ⟨by decide, by decide⟩) (by decide)
      refine T.callB (t_Acts_keep AP26 HP23 hIg) (fun v6 h8 => ?_)
      refine T.callB (t_Hair_tie HP23 h8.1) (fun v7 h9 => ?_)
      exact T.some' (show B 0 1 (1 : Int32) ∧ Inv z v7 from ⟨(B.wk (show B 1 1 (1 : Int32) from ⟨by decide, by decide⟩) (by decide)), h9⟩)
  · have h1 : e9 = 1 := h1
    dsimp only
    exact T.some' (show (e9 : Nat) = 1 from h1)
theorem t_Hall_comb {z : Zt} {p0 : Int32} {g : Mem} (hIg : Inv z g) : T (sp_Hall_comb p0 g) (XQ (fun r => B 0 1 r.1 ∧ Inv z r.2) (fun e => e = 1)) := by
  unfold sp_Hall_comb
  refine T.callB (t_Hall_needEntry hIg) (fun r2 h1 => ?_)
  rcases r2 with _u | e9
  · dsimp only
    have n2 : B 0 23 (p0) := h1
    refine T.callB (t_Hall_mayBeHandled n2 hIg) (fun v3 h3 => ?_)
    refine T.cond (fun c4 => ?_) (fun c4 => ?_)
    · have f5 : B 0 0 (v3) := B.eql c4 h3 (show B 0 0 (0 : Int32) from ⟨by decide, by decide⟩) (by decide)
      refine T.callB (t_Hall_refuseAct hIg) (fun v5 h6 => ?_)
      exact T.some' (show B 0 1 (0 : Int32) ∧ Inv z v5.2 from ⟨(B.wk (show B 0 0 (0 : Int32) from ⟨by decide, by decide⟩) (by decide)), h6.2⟩)
    · have f7 : B 1 1 (v3) := B.nelo c4 h3 (show B 0 0 (0 : Int32) from ⟨by decide, by decide⟩) (by decide)
      refine T.callB (t_Acts_keep AP26 HP23 hIg) (fun v6 h8 => ?_)
      refine T.callB (t_Hair_lose HP23 h8.1) (fun v7 h9 => ?_)
      exact T.some' (show B 0 1 (1 : Int32) ∧ Inv z v7.2 from ⟨(B.wk (show B 1 1 (1 : Int32) from ⟨by decide, by decide⟩) (by decide)), h9.2⟩)
  · have h1 : e9 = 1 := h1
    dsimp only
    exact T.some' (show (e9 : Nat) = 1 from h1)
theorem t_Hall_shave {z : Zt} {F : Nat} {p0 : Int32} {p1 : Int32} {g : Mem} (hF : 4294967296 < F) (hIg : Inv z g) : T (sp_Hall_shave F p0 p1 g) (XQ (fun r => B (-2147483648) 2147483647 r.1 ∧ Inv z r.2) (fun e => e = 1)) := by
  unfold sp_Hall_shave
  refine T.callB (t_Hall_needMonk hIg) (fun r2 h1 => ?_)
  rcases r2 with _u | e9
  · dsimp only
    have n2 : B 0 5 (p0) := h1
    refine T.cond (fun c3 => ?_) (fun c3 => ?_)
    · have f4 : B (-2147483648) (-1) (p1) := B.ltl c3 (B.any p1) (show B 0 0 (0 : Int32) from ⟨by decide, by decide⟩) (by decide)
      refine T.callB (t_Hall_refuseAct hIg) (fun v4 h5 => ?_)
      exact T.some' (show B (-2147483648) 2147483647 v4.1 ∧ Inv z v4.2 from ⟨(B.any v4.1), h5.2⟩)
    · have f6 : B 0 2147483647 (p1) := B.nltl c3 (B.any p1) (show B 0 0 (0 : Int32) from ⟨by decide, by decide⟩) (by decide)
      refine T.rdU (B.ib n2 (by decide)) (fun v5 => ?_)
      refine T.cond (fun c7 => ?_) (fun c7 => ?_)
      · have f8 : B 0 2147483646 (p1) := B.ltl c7 f6 (B.any v5) (by decide)
        have f9 : B 1 2147483647 (v5) := B.ltr c7 f6 (B.any v5) (by decide)
        refine T.callB (t_Acts_keep AP26 HP23 hIg) (fun v7 h10 => ?_)
        refine T.callB (t_Hair_shaveTo hF HP23 n2 f8 h10.1) (fun v8 h11 => ?_)
        exact T.some' (show B (-2147483648) 2147483647 v8.1 ∧ Inv z v8.2 from ⟨(B.any v8.1), h11.2⟩)
      · refine T.callB (t_Hall_refuseAct hIg) (fun v9 h12 => ?_)
        exact T.some' (show B (-2147483648) 2147483647 v9.1 ∧ Inv z v9.2 from ⟨(B.any v9.1), h12.2⟩)
  · have h1 : e9 = 1 := h1
    dsimp only
    exact T.some' (show (e9 : Nat) = 1 from h1)
theorem t_Hall_moths {z : Zt} {F : Nat} {p0 : Int32} {p1 : Int32} {p2 : Int32} {g : Mem} (hF : 4294967296 < F) (hIg : Inv z g) : T (sp_Hall_moths F p0 p1 p2 g) (XQ (fun r => B (-2147483648) 2147483647 r.1 ∧ Inv z r.2) (fun e => e = 1)) := by
  unfold sp_Hall_moths
  refine T.callB (t_Hall_needMonk hIg) (fun r2 h1 => ?_)
  rcases r2 with _u | e9
  · dsimp only
    have n2 : B 0 5 (p0) := h1
    refine T.callB (t_Hall_isWithin (B.wk (show B 60 60 (60 : Int32) from ⟨by decide, by decide⟩) (by decide))) (fun v3 h3 => ?_)
    refine T.cond (fun c4 => ?_) (fun c4 => ?_)
    · have f5 : B 0 0 (v3) := B.eql c4 h3 (show B 0 0 (0 : Int32) from ⟨by decide, by decide⟩) (by decide)
      refine T.callB (t_Hall_refuseAct hIg) (fun v5 h6 => ?_)
      exact T.some' (show B (-2147483648) 2147483647 v5.1 ∧ Inv z v5.2 from ⟨(B.any v5.1), h6.2⟩)
    · have f7 : B 1 1 (v3) := B.nelo c4 h3 (show B 0 0 (0 : Int32) from ⟨by decide, by decide⟩) (by decide)
      refine T.callB (t_Hall_isWithin (B.wk (show B 60 60 (60 : Int32) from ⟨by decide, by decide⟩) (by decide))) (fun v6 h8 => ?_)
      refine T.cond (fun c9 => ?_) (fun c9 => ?_)
      · have f10 : B 0 0 (v6) := B.eql c9 h8 (show B 0 0 (0 : Int32) from ⟨by decide, by decide⟩) (by decide)
        refine T.callB (t_Hall_refuseAct hIg) (fun v8 h11 => ?_)
        exact T.some' (show B (-2147483648) 2147483647 v8.1 ∧ Inv z v8.2 from ⟨(B.any v8.1), h11.2⟩)
      · have f12 : B 1 1 (v6) := B.nelo c9 h8 (show B 0 0 (0 : Int32) from ⟨by decide, by decide⟩) (by decide)
        refine T.cond (fun c13 => ?_) (fun c13 => ?_)
        · refine T.callB (t_Acts_keep AP26 HP23 hIg) (fun v10 h14 => ?_)
          refine T.callB (t_Hair_eatable hF HP23 n2 h14.1) (fun v11 h15 => ?_)
          refine T.callB (t_Hair_lose HP23 h14.1) (fun v12 h16 => ?_)
          exact T.some' (show B (-2147483648) 2147483647 v12.1 ∧ Inv z v12.2 from ⟨(B.any v12.1), h16.2⟩)
        · have f17 : B (-2147483647) 2147483647 (p1) := B.nlel c13 (B.any p1) (B.any p2) (by decide)
          have f18 : B (-2147483648) 2147483646 (p2) := B.nler c13 (B.any p1) (B.any p2) (by decide)
          refine T.callB (t_Hall_refuseAct hIg) (fun v13 h19 => ?_)
          exact T.some' (show B (-2147483648) 2147483647 v13.1 ∧ Inv z v13.2 from ⟨(B.any v13.1), h19.2⟩)
  · have h1 : e9 = 1 := h1
    dsimp only
    exact T.some' (show (e9 : Nat) = 1 from h1)
theorem t_Hall_die {z : Zt} {p0 : Int32} {g : Mem} (hIg : Inv z g) : T (sp_Hall_die p0 g) (XQ (fun r => B 0 1 r.1 ∧ Inv z r.2) (fun e => e = 1)) := by
  unfold sp_Hall_die
  refine T.callB (t_Hall_needMonk hIg) (fun r2 h1 => ?_)
  rcases r2 with _u | e9
  · dsimp only
    have n2 : B 0 5 (p0) := h1
    refine T.callB (t_Hair_isDead HP23 n2 hIg) (fun v3 h3 => ?_)
    refine T.cond (fun c4 => ?_) (fun c4 => ?_)
    · have f5 : B 0 0 (v3) := B.eql c4 h3 (show B 0 0 (0 : Int32) from ⟨by decide, by decide⟩) (by decide)
      refine T.callB (t_Acts_keep AP26 HP23 hIg) (fun v5 h6 => ?_)
      refine T.wrI (I := fun m => Inv z m ∧ ∀ q, q ≠ (23 + 2) → m q = (v5) q) (B.ib n2 (by decide)) ⟨h6.1.fra rfl, fun q hq => mset_rowF _ _ _ hq⟩ (fun g6 h7 => ?_)
      exact T.some' (show B 0 1 (1 : Int32) ∧ Inv z g6 from ⟨(B.wk (show B 1 1 (1 : Int32) from ⟨by decide, by decide⟩) (by decide)), h7.1⟩)
    · have f8 : B 1 1 (v3) := B.nelo c4 h3 (show B 0 0 (0 : Int32) from ⟨by decide, by decide⟩) (by decide)
      refine T.callB (t_Hall_refuseAct hIg) (fun v7 h9 => ?_)
      exact T.some' (show B 0 1 (0 : Int32) ∧ Inv z v7.2 from ⟨(B.wk (show B 0 0 (0 : Int32) from ⟨by decide, by decide⟩) (by decide)), h9.2⟩)
  · have h1 : e9 = 1 := h1
    dsimp only
    exact T.some' (show (e9 : Nat) = 1 from h1)
theorem t_Hall_undo {z : Zt} {g : Mem} (hIg : Inv z g) : T (sp_Hall_undo g) (fun r => B (-1) 40 r.1 ∧ Inv z r.2) := by
  unfold sp_Hall_undo
  refine T.cond (fun c1 => ?_) (fun c1 => ?_)
  · have f2 : B 0 0 (g 26 1) := B.eql c1 (hIg.amany AP26) (show B 0 0 (0 : Int32) from ⟨by decide, by decide⟩) (by decide)
    exact T.some' (show B (-1) 40 (-1 : Int32) ∧ Inv z g from ⟨(B.wk (show B (-1) (-1) (-1 : Int32) from ⟨by decide, by decide⟩) (by decide)), hIg⟩)
  · have f3 : B 1 40 (g 26 1) := B.nelo c1 (hIg.amany AP26) (show B 0 0 (0 : Int32) from ⟨by decide, by decide⟩) (by decide)
    refine T.callB (t_Acts_takeBack AP26 HP23 hIg) (fun v2 h4 => ?_)
    exact T.some' (show B (-1) 40 (v2 26 1) ∧ Inv z v2 from ⟨(B.wk (h4.amany AP26) (by decide)), h4⟩)
theorem t_Hall_needAbout {p0 : Int32} {g : Mem}  : T (sp_Hall_needAbout p0 g) (XQ (fun r => True) (fun e => e = 1)) := by
  unfold sp_Hall_needAbout
  refine T.callB (t_Hall_isAbout ) (fun v1 h1 => ?_)
  refine T.cond (fun c2 => ?_) (fun c2 => ?_)
  · have f3 : B 0 0 (v1) := B.eql c2 h1 (show B 0 0 (0 : Int32) from ⟨by decide, by decide⟩) (by decide)
    exact T.some' (show (1 : Nat) = 1 from rfl)
  · have f4 : B 1 1 (v1) := B.nelo c2 h1 (show B 0 0 (0 : Int32) from ⟨by decide, by decide⟩) (by decide)
    exact T.some' (show True from trivial)
theorem t_Hall_law {z : Zt} {F : Nat} {p0 : Int32} {g : Mem} (hF : 4294967296 < F) (hIg : Inv z g) : T (sp_Hall_law F p0 g) (XQ (fun r => B (-2147483648) 2147483647 r) (fun e => e = 1)) := by
  unfold sp_Hall_law
  refine T.callB (t_Hall_needAbout ) (fun r2 h1 => ?_)
  rcases r2 with _u | e9
  · dsimp only
    refine T.callB (t_Laws_standing hF LWP42 hIg) (fun v3 h2 => ?_)
    exact T.some' (show B (-2147483648) 2147483647 v3 from (B.any v3))
  · have h1 : e9 = 1 := h1
    dsimp only
    exact T.some' (show (e9 : Nat) = 1 from h1)
theorem t_Hall_rivals {z : Zt} {F : Nat} {g : Mem} (hF : 4294967296 < F) (hIg : Inv z g) : T (sp_Hall_rivals F g) (fun r => B (-2147483648) 2147483647 r) := by
  unfold sp_Hall_rivals
  refine T.callB (t_Laws_rivalCouples hF LWP42 hIg) (fun v1 h1 => ?_)
  exact T.some' (show B (-2147483648) 2147483647 v1 from (B.any v1))
theorem t_Hall_owed {z : Zt} {F : Nat} {p0 : Int32} {g : Mem} (hF : 4294967296 < F) (hIg : Inv z g) : T (sp_Hall_owed F p0 g) (XQ (fun r => B (-2147483648) 2147483647 r) (fun e => e = 1)) := by
  unfold sp_Hall_owed
  refine T.callB (t_Hall_needAbout ) (fun r2 h1 => ?_)
  rcases r2 with _u | e9
  · dsimp only
    refine T.callB (t_Laws_balance hF LWP42 hIg) (fun v3 h2 => ?_)
    exact T.some' (show B (-2147483648) 2147483647 v3 from (B.any v3))
  · have h1 : e9 = 1 := h1
    dsimp only
    exact T.some' (show (e9 : Nat) = 1 from h1)
theorem t_Hall_cover {z : Zt} {F : Nat} {g : Mem} (hF : 4294967296 < F) (hIg : Inv z g) : T (sp_Hall_cover F g) (fun r => B (-2147483648) 2147483647 r.1 ∧ Inv z r.2) := by
  unfold sp_Hall_cover
  refine T.callB (t_Keeping_fewestWithAll hF hIg) (fun v1 h1 => ?_)
  exact T.some' (show B (-2147483648) 2147483647 v1.1 ∧ Inv z v1.2 from ⟨(B.any v1.1), h1.2⟩)
theorem t_Hall_alone {z : Zt} {F : Nat} {g : Mem} (hF : 4294967296 < F) (hIg : Inv z g) : T (sp_Hall_alone F g) (fun r => B (-2147483648) 2147483647 r) := by
  unfold sp_Hall_alone
  refine T.callB (t_Keeping_heldByOne hF hIg) (fun v1 h1 => ?_)
  exact T.some' (show B (-2147483648) 2147483647 v1 from (B.any v1))
theorem t_Hall_barbers {z : Zt} {F : Nat} {p0 : Int32} {g : Mem} (hF : 4294967296 < F) (hIg : Inv z g) : T (sp_Hall_barbers F p0 g) (XQ (fun r => B (-2147483648) 2147483647 r.1 ∧ Inv z r.2) (fun e => e = 0)) := by
  unfold sp_Hall_barbers
  refine T.callB (t_Hall_isWithin (B.wk (show B 6 6 (6 : Int32) from ⟨by decide, by decide⟩) (by decide))) (fun v1 h1 => ?_)
  refine T.cond (fun c2 => ?_) (fun c2 => ?_)
  · have f3 : B 0 0 (v1) := B.eql c2 h1 (show B 0 0 (0 : Int32) from ⟨by decide, by decide⟩) (by decide)
    exact T.some' (show (0 : Nat) = 0 from rfl)
  · have f4 : B 1 1 (v1) := B.nelo c2 h1 (show B 0 0 (0 : Int32) from ⟨by decide, by decide⟩) (by decide)
    refine T.callB (t_Keeping_worstToShave hF hIg) (fun v3 h5 => ?_)
    exact T.some' (show B (-2147483648) 2147483647 v3.1 ∧ Inv z v3.2 from ⟨(B.any v3.1), h5.2⟩)
theorem t_Hall_shortest {z : Zt} {F : Nat} {p0 : Int32} {g : Mem} (hF : 4294967296 < F) (hIg : Inv z g) : T (sp_Hall_shortest F p0 g) (XQ (fun r => B (-2147483648) 2147483647 r) (fun e => e = 1)) := by
  unfold sp_Hall_shortest
  refine T.callB (t_Hall_needMonk hIg) (fun r2 h1 => ?_)
  rcases r2 with _u | e9
  · dsimp only
    have n2 : B 0 5 (p0) := h1
    refine T.callB (t_Keeping_leastLength hF n2 hIg) (fun v3 h3 => ?_)
    exact T.some' (show B (-2147483648) 2147483647 v3 from (B.any v3))
  · have h1 : e9 = 1 := h1
    dsimp only
    exact T.some' (show (e9 : Nat) = 1 from h1)
theorem t_Hall_needOneOf {p0 : Int32} {p1 : Int32} {g : Mem} (hp1 : B 1 2 p1) : T (sp_Hall_needOneOf p0 p1 g) (XQ (fun r => True) (fun e => e = 1)) := by
  unfold sp_Hall_needOneOf
  refine T.callB (t_Hall_isWithin (B.wk hp1 (by decide))) (fun v1 h1 => ?_)
  refine T.cond (fun c2 => ?_) (fun c2 => ?_)
  · have f3 : B 0 0 (v1) := B.eql c2 h1 (show B 0 0 (0 : Int32) from ⟨by decide, by decide⟩) (by decide)
    exact T.some' (show (1 : Nat) = 1 from rfl)
  · have f4 : B 1 1 (v1) := B.nelo c2 h1 (show B 0 0 (0 : Int32) from ⟨by decide, by decide⟩) (by decide)
    exact T.some' (show True from trivial)
theorem t_Hall_amnesty {z : Zt} {F : Nat} {p0 : Int32} {p1 : Int32} {p2 : Int32} {g : Mem} (hF : 4294967296 < F) (hIg : Inv z g) : T (sp_Hall_amnesty F p0 p1 p2 g) (XQ (fun r => B (-2147483648) 2147483647 r) (fun e => e = 0 ∨ e = 1)) := by
  unfold sp_Hall_amnesty
  refine T.callB (t_Hall_needMonk hIg) (fun r2 h1 => ?_)
  rcases r2 with _u | e9
  · dsimp only
    have n2 : B 0 5 (p0) := h1
    refine T.callB (t_Hall_needOneOf (B.wk (show B 1 1 (1 : Int32) from ⟨by decide, by decide⟩) (by decide))) (fun r4 h3 => ?_)
    rcases r4 with _u | e9
    · dsimp only
      refine T.callB (t_Hall_isWithin (B.wk (show B 9 9 (9 : Int32) from ⟨by decide, by decide⟩) (by decide))) (fun v5 h4 => ?_)
      refine T.cond (fun c5 => ?_) (fun c5 => ?_)
      · have f6 : B 0 0 (v5) := B.eql c5 h4 (show B 0 0 (0 : Int32) from ⟨by decide, by decide⟩) (by decide)
        exact T.some' (show (0 : Nat) = 0 ∨ (0 : Nat) = 1 from Or.inl rfl)
      · have f7 : B 1 1 (v5) := B.nelo c5 h4 (show B 0 0 (0 : Int32) from ⟨by decide, by decide⟩) (by decide)
        refine T.callB (t_Keeping_bestForDebtors hF n2 hIg) (fun v7 h8 => ?_)
        refine T.cond (fun c9 => ?_) (fun c9 => ?_)
        · have f10 : B 0 0 (p2) := B.eql c9 (B.any p2) (show B 0 0 (0 : Int32) from ⟨by decide, by decide⟩) (by decide)
          refine T.callB (t_Keeping_debtsEaten hF n2 hIg) (fun v9 h11 => ?_)
          exact T.some' (show B (-2147483648) 2147483647 v9 from (B.any v9))
        · exact T.some' (show B (-2147483648) 2147483647 v7 from (B.any v7))
    · have h3 : e9 = 1 := h3
      dsimp only
      exact T.some' (show (e9 : Nat) = 0 ∨ (e9 : Nat) = 1 from (by omega))
  · have h1 : e9 = 1 := h1
    dsimp only
    exact T.some' (show (e9 : Nat) = 0 ∨ (e9 : Nat) = 1 from (by omega))
theorem t_Hall_week {z : Zt} {F : Nat} {p0 : Int32} {p1 : Int32} {g : Mem} (hF : 4294967296 < F) (hIg : Inv z g) : T (sp_Hall_week F p0 p1 g) (XQ (fun r => B (-2147483648) 2147483647 r) (fun e => e = 1)) := by
  unfold sp_Hall_week
  refine T.callB (t_Hall_needMonk hIg) (fun r2 h1 => ?_)
  rcases r2 with _u | e9
  · dsimp only
    have n2 : B 0 5 (p0) := h1
    refine T.cond (fun c3 => ?_) (fun c3 => ?_)
    · have f4 : B (-2147483648) (-2) (p1) := B.ltl c3 (B.any p1) (show B (-1) (-1) (-1 : Int32) from ⟨by decide, by decide⟩) (by decide)
      exact T.some' (show (1 : Nat) = 1 from rfl)
    · have f5 : B (-1) 2147483647 (p1) := B.nltl c3 (B.any p1) (show B (-1) (-1) (-1 : Int32) from ⟨by decide, by decide⟩) (by decide)
      refine T.cond (fun c6 => ?_) (fun c6 => ?_)
      · have f7 : B (-1) 6 (p1) := B.lel c6 f5 (show B 6 6 (6 : Int32) from ⟨by decide, by decide⟩) (by decide)
        refine T.callB (t_Keeping_readOn hF n2 f7 hIg) (fun v5 h8 => ?_)
        exact T.some' (show B (-2147483648) 2147483647 v5 from (B.any v5))
      · have f9 : B 7 2147483647 (p1) := B.nlel c6 f5 (show B 6 6 (6 : Int32) from ⟨by decide, by decide⟩) (by decide)
        exact T.some' (show (1 : Nat) = 1 from rfl)
  · have h1 : e9 = 1 := h1
    dsimp only
    exact T.some' (show (e9 : Nat) = 1 from h1)
theorem t_Hall_oldest {z : Zt} {F : Nat} {p0 : Int32} {p1 : Int32} {g : Mem} (hF : 4294967296 < F) (hIg : Inv z g) : T (sp_Hall_oldest F p0 p1 g) (XQ (fun r => B (-2147483648) 2147483647 r) (fun e => e = 1)) := by
  unfold sp_Hall_oldest
  refine T.callB (t_Hall_needAbout ) (fun r2 h1 => ?_)
  rcases r2 with _u | e9
  · dsimp only
    refine T.callB (t_Hall_isKind ) (fun v3 h2 => ?_)
    refine T.cond (fun c3 => ?_) (fun c3 => ?_)
    · have f4 : B 0 0 (v3) := B.eql c3 h2 (show B 0 0 (0 : Int32) from ⟨by decide, by decide⟩) (by decide)
      exact T.some' (show (1 : Nat) = 1 from rfl)
    · have f5 : B 1 1 (v3) := B.nelo c3 h2 (show B 0 0 (0 : Int32) from ⟨by decide, by decide⟩) (by decide)
      refine T.callB (t_Laws_earliest hF LWP42 hIg) (fun v5 h6 => ?_)
      exact T.some' (show B (-2147483648) 2147483647 v5 from (B.any v5))
  · have h1 : e9 = 1 := h1
    dsimp only
    exact T.some' (show (e9 : Nat) = 1 from h1)
theorem t_Hall_believed {z : Zt} {F : Nat} {p0 : Int32} {g : Mem} (hF : 4294967296 < F) (hIg : Inv z g) : T (sp_Hall_believed F p0 g) (XQ (fun r => B (-2147483648) 2147483647 r) (fun e => e = 1)) := by
  unfold sp_Hall_believed
  refine T.callB (t_Hall_needAbout ) (fun r2 h1 => ?_)
  rcases r2 with _u | e9
  · dsimp only
    refine T.callB (t_Laws_mostHeld hF LWP42 hIg) (fun v3 h2 => ?_)
    exact T.some' (show B (-2147483648) 2147483647 v3 from (B.any v3))
  · have h1 : e9 = 1 := h1
    dsimp only
    exact T.some' (show (e9 : Nat) = 1 from h1)
theorem t_Hall_until {z : Zt} {p0 : Int32} {g : Mem} (hIg : Inv z g) : T (sp_Hall_until p0 g) (XQ (fun r => B (-2147483648) 2147483647 r) (fun e => e = 1)) := by
  unfold sp_Hall_until
  refine T.callB (t_Hall_needEntry hIg) (fun r2 h1 => ?_)
  rcases r2 with _u | e9
  · dsimp only
    have n2 : B 0 23 (p0) := h1
    refine T.callB (t_Hair_isThere HP23 n2 hIg) (fun v3 h3 => ?_)
    refine T.cond (fun c4 => ?_) (fun c4 => ?_)
    · have f5 : B 0 0 (v3) := B.eql c4 h3 (show B 0 0 (0 : Int32) from ⟨by decide, by decide⟩) (by decide)
      exact T.some' (show B (-2147483648) 2147483647 (-1 : Int32) from (B.any (-1 : Int32)))
    · have f6 : B 1 1 (v3) := B.nelo c4 h3 (show B 0 0 (0 : Int32) from ⟨by decide, by decide⟩) (by decide)
      refine T.callB (t_Keeping_yearsLeft n2 hIg) (fun v5 h7 => ?_)
      exact T.some' (show B (-2147483648) 2147483647 v5 from (B.any v5))
  · have h1 : e9 = 1 := h1
    dsimp only
    exact T.some' (show (e9 : Nat) = 1 from h1)
theorem t_Hall_doomed {z : Zt} {F : Nat} {p0 : Int32} {g : Mem} (hF : 4294967296 < F) (hIg : Inv z g) : T (sp_Hall_doomed F p0 g) (XQ (fun r => B (-2147483648) 2147483647 r) (fun e => e = 0)) := by
  unfold sp_Hall_doomed
  refine T.callB (t_Hall_isWithin (B.wk (show B 60 60 (60 : Int32) from ⟨by decide, by decide⟩) (by decide))) (fun v1 h1 => ?_)
  refine T.cond (fun c2 => ?_) (fun c2 => ?_)
  · have f3 : B 0 0 (v1) := B.eql c2 h1 (show B 0 0 (0 : Int32) from ⟨by decide, by decide⟩) (by decide)
    exact T.some' (show (0 : Nat) = 0 from rfl)
  · have f4 : B 1 1 (v1) := B.nelo c2 h1 (show B 0 0 (0 : Int32) from ⟨by decide, by decide⟩) (by decide)
    refine T.callB (t_Keeping_lostWithin hF hIg) (fun v3 h5 => ?_)
    exact T.some' (show B (-2147483648) 2147483647 v3 from (B.any v3))
theorem t_Hall_safest {z : Zt} {F : Nat} {g : Mem} (hF : 4294967296 < F) (hIg : Inv z g) : T (sp_Hall_safest F g) (fun r => B (-2147483648) 2147483647 r) := by
  unfold sp_Hall_safest
  refine T.callB (t_Keeping_bestForBraiding hF hIg) (fun v1 h1 => ?_)
  exact T.some' (show B (-2147483648) 2147483647 v1 from (B.any v1))
theorem t_Hall_heir {z : Zt} {F : Nat} {p0 : Int32} {g : Mem} (hF : 4294967296 < F) (hIg : Inv z g) : T (sp_Hall_heir F p0 g) (XQ (fun r => B (-2147483648) 2147483647 r) (fun e => e = 1)) := by
  unfold sp_Hall_heir
  refine T.callB (t_Hall_needMonk hIg) (fun r2 h1 => ?_)
  rcases r2 with _u | e9
  · dsimp only
    have n2 : B 0 5 (p0) := h1
    refine T.callB (t_Keeping_mostAlike hF n2 hIg) (fun v3 h3 => ?_)
    exact T.some' (show B (-2147483648) 2147483647 v3 from (B.any v3))
  · have h1 : e9 = 1 := h1
    dsimp only
    exact T.some' (show (e9 : Nat) = 1 from h1)
theorem t_Hall_lice {z : Zt} {F : Nat} {p0 : Int32} {g : Mem} (hF : 4294967296 < F) (hIg : Inv z g) : T (sp_Hall_lice F p0 g) (XQ (fun r => B (-2147483648) 2147483647 r) (fun e => e = 1)) := by
  unfold sp_Hall_lice
  refine T.callB (t_Hall_needMonk hIg) (fun r2 h1 => ?_)
  rcases r2 with _u | e9
  · dsimp only
    have n2 : B 0 5 (p0) := h1
    refine T.callB (t_Keeping_audit hF n2 hIg) (fun v3 h3 => ?_)
    exact T.some' (show B (-2147483648) 2147483647 v3 from (B.any v3))
  · have h1 : e9 = 1 := h1
    dsimp only
    exact T.some' (show (e9 : Nat) = 1 from h1)
theorem t_Hall_see {z : Zt} {p0 : Int32} {p1 : Int32} {g : Mem} (hIg : Inv z g) : T (sp_Hall_see p0 p1 g) (XQ (fun r => B (-1) 8 r.1 ∧ Inv z r.2) (fun e => e = 1)) := by
  unfold sp_Hall_see
  refine T.callB (t_Hall_needEntry hIg) (fun r2 h1 => ?_)
  rcases r2 with _u | e9
  · dsimp only
    have n2 : B 0 23 (p0) := h1
    refine T.cond (fun c3 => ?_) (fun c3 => ?_)
    · have f4 : B 0 7 (g 28 2) := B.ltl c3 (hIg.smany SP28) (show B 8 8 (8 : Int32) from ⟨by decide, by decide⟩) (by decide)
      refine T.callB (t_Seen_add SP28 n2 hIg) (fun v4 h5 => ?_)
      exact T.some' (show B (-1) 8 (v4 28 2) ∧ Inv z v4 from ⟨(B.wk (h5.smany SP28) (by decide)), h5⟩)
    · have f6 : B 8 8 (g 28 2) := B.nltl c3 (hIg.smany SP28) (show B 8 8 (8 : Int32) from ⟨by decide, by decide⟩) (by decide)
      refine T.rdU (B.ib (show B 2 2 (2 : Int32) from ⟨by decide, by decide⟩) (by decide)) (fun v5 => ?_)
      refine T.wrI (I := fun m => Inv z m ∧ ∀ q, q ≠ 2 → m q = (g) q) (B.ib (show B 2 2 (2 : Int32) from ⟨by decide, by decide⟩) (by decide)) ⟨hIg.fra rfl, fun q hq => mset_rowF _ _ _ hq⟩ (fun g6 h7 => ?_)
      have k8 : B 8 8 (g6 28 2) := by rw [h7.2 28 (by decide)]; exact f6
      exact T.some' (show B (-1) 8 (-1 : Int32) ∧ Inv z g6 from ⟨(B.wk (show B (-1) (-1) (-1 : Int32) from ⟨by decide, by decide⟩) (by decide)), h7.1⟩)
  · have h1 : e9 = 1 := h1
    dsimp only
    exact T.some' (show (e9 : Nat) = 1 from h1)
theorem t_Hall_ate {z : Zt} {F : Nat} {p0 : Int32} {p1 : Int32} {g : Mem} (hF : 4294967296 < F) (hIg : Inv z g) : T (sp_Hall_ate F p0 p1 g) (XQ (fun r => B (-2147483648) 2147483647 r) (fun e => e = 1)) := by
  unfold sp_Hall_ate
  refine T.callB (t_Hall_needMonk hIg) (fun r2 h1 => ?_)
  rcases r2 with _u | e9
  · dsimp only
    have n2 : B 0 5 (p0) := h1
    refine T.callB (t_Hall_needOneOf (B.wk (show B 1 1 (1 : Int32) from ⟨by decide, by decide⟩) (by decide))) (fun r4 h3 => ?_)
    rcases r4 with _u | e9
    · dsimp only
      refine T.cond (fun c4 => ?_) (fun c4 => ?_)
      · have f5 : B 0 0 (p1) := B.eql c4 (B.any p1) (show B 0 0 (0 : Int32) from ⟨by decide, by decide⟩) (by decide)
        refine T.callB (t_Seen_waysToEat hF SP28 HP23 n2 hIg) (fun v6 h6 => ?_)
        exact T.some' (show B (-2147483648) 2147483647 v6 from (B.any v6))
      · refine T.callB (t_Seen_firstToEat hF SP28 HP23 n2 hIg) (fun v7 h7 => ?_)
        exact T.some' (show B (-2147483648) 2147483647 v7 from (B.any v7))
    · have h3 : e9 = 1 := h3
      dsimp only
      exact T.some' (show (e9 : Nat) = 1 from h3)
  · have h1 : e9 = 1 := h1
    dsimp only
    exact T.some' (show (e9 : Nat) = 1 from h1)
theorem t_Hall_forget {z : Zt} {g : Mem} (hIg : Inv z g) : T (sp_Hall_forget g) (fun r => B (-1) 7 r.1 ∧ Inv z r.2) := by
  unfold sp_Hall_forget
  refine T.cond (fun c1 => ?_) (fun c1 => ?_)
  · have f2 : B 0 0 (g 28 2) := B.eql c1 (hIg.smany SP28) (show B 0 0 (0 : Int32) from ⟨by decide, by decide⟩) (by decide)
    exact T.some' (show B (-1) 7 (-1 : Int32) ∧ Inv z g from ⟨(B.wk (show B (-1) (-1) (-1 : Int32) from ⟨by decide, by decide⟩) (by decide)), hIg⟩)
  · have f3 : B 1 8 (g 28 2) := B.nelo c1 (hIg.smany SP28) (show B 0 0 (0 : Int32) from ⟨by decide, by decide⟩) (by decide)
    have b4 : B 0 7 ((g 28 2) - 1) := B.sub f3 (show B 1 1 (1 : Int32) from ⟨by decide, by decide⟩) (by decide)
    have b5 : B 0 7 ((mset g 28 2 ((g 28 2) - 1)) 28 2) := B.mset_s b4
    have hM6 : Inv z (mset g 28 2 ((g 28 2) - 1)) := hIg.p_smany SP28 (B.wk b4 (by decide))
    exact T.some' (show B (-1) 7 ((mset g 28 2 ((g 28 2) - 1)) 28 2) ∧ Inv z (mset g 28 2 ((g 28 2) - 1)) from ⟨(B.wk b5 (by decide)), hM6⟩)
theorem t_Hall_game {z : Zt} {F : Nat} {p0 : Int32} {g : Mem} (hF : 4294967296 < F) (hIg : Inv z g) : T (sp_Hall_game F p0 g) (XQ (fun r => B (-2147483648) 2147483647 r.1 ∧ Inv z r.2) (fun e => e = 1)) := by
  unfold sp_Hall_game
  refine T.callB (t_Hall_needOneOf (B.wk (show B 1 1 (1 : Int32) from ⟨by decide, by decide⟩) (by decide))) (fun r2 h1 => ?_)
  rcases r2 with _u | e9
  · dsimp only
    refine T.callB (t_Game_tellGains hF hIg) (fun v3 h2 => ?_)
    refine T.cond (fun c3 => ?_) (fun c3 => ?_)
    · have f4 : B 0 0 (p0) := B.eql c3 (B.any p0) (show B 0 0 (0 : Int32) from ⟨by decide, by decide⟩) (by decide)
      refine T.callB (t_Game_resting hF h2) (fun v5 h5 => ?_)
      exact T.some' (show B (-2147483648) 2147483647 v5 ∧ Inv z v3 from ⟨(B.any v5), h2⟩)
    · refine T.callB (t_Game_firstResting hF h2) (fun v6 h6 => ?_)
      exact T.some' (show B (-2147483648) 2147483647 v6 ∧ Inv z v3 from ⟨(B.any v6), h2⟩)
  · have h1 : e9 = 1 := h1
    dsimp only
    exact T.some' (show (e9 : Nat) = 1 from h1)
theorem t_Hall_season {z : Zt} {F : Nat} {p0 : Int32} {p1 : Int32} {p2 : Int32} {g : Mem} (hF : 4294967296 < F) (hIg : Inv z g) : T (sp_Hall_season F p0 p1 p2 g) (XQ (fun r => B (-2147483648) 2147483647 r.1 ∧ Inv z r.2) (fun e => e = 0 ∨ e = 1)) := by
  unfold sp_Hall_season
  refine T.callB (t_Hall_needOneOf (B.wk (show B 2 2 (2 : Int32) from ⟨by decide, by decide⟩) (by decide))) (fun r2 h1 => ?_)
  rcases r2 with _u | e9
  · dsimp only
    refine T.callB (t_Hall_isWithin (B.wk (show B 40 40 (40 : Int32) from ⟨by decide, by decide⟩) (by decide))) (fun v3 h2 => ?_)
    refine T.cond (fun c3 => ?_) (fun c3 => ?_)
    · have f4 : B 0 0 (v3) := B.eql c3 h2 (show B 0 0 (0 : Int32) from ⟨by decide, by decide⟩) (by decide)
      exact T.some' (show (0 : Nat) = 0 ∨ (0 : Nat) = 1 from Or.inl rfl)
    · have f5 : B 1 1 (v3) := B.nelo c3 h2 (show B 0 0 (0 : Int32) from ⟨by decide, by decide⟩) (by decide)
      refine T.callB (t_Season_run hF HP23 hIg) (fun v5 h6 => ?_)
      refine T.cond (fun c7 => ?_) (fun c7 => ?_)
      · have f8 : B 0 0 (p2) := B.eql c7 (B.any p2) (show B 0 0 (0 : Int32) from ⟨by decide, by decide⟩) (by decide)
        refine T.callB (t_Hair_recordsThere hF HP50 h6) (fun v7 h9 => ?_)
        refine T.callB (t_JInteger_bitCount ) (fun v8 h10 => ?_)
        exact T.some' (show B (-2147483648) 2147483647 v8 ∧ Inv z v5 from ⟨(B.any v8), h6⟩)
      · refine T.cond (fun c11 => ?_) (fun c11 => ?_)
        · have f12 : B 1 1 (p2) := B.eql c11 (B.any p2) (show B 1 1 (1 : Int32) from ⟨by decide, by decide⟩) (by decide)
          refine T.callB (t_Laws_balance hF LWP53 h6) (fun v10 h13 => ?_)
          exact T.some' (show B (-2147483648) 2147483647 v10 ∧ Inv z v5 from ⟨(B.any v10), h6⟩)
        · exact T.some' (show B (-2147483648) 2147483647 (v5 49 3) ∧ Inv z v5 from ⟨(B.any (v5 49 3)), h6⟩)
  · have h1 : e9 = 1 := h1
    dsimp only
    exact T.some' (show (e9 : Nat) = 0 ∨ (e9 : Nat) = 1 from (by omega))
theorem t_Hall_image {z : Zt} {g : Mem} (hIg : Inv z g) : T (sp_Hall_image g) (fun r => Inv z r) := by
  unfold sp_Hall_image
  have hM2 : Inv z (mset g 31 0 1) := hIg.fre rfl
  refine T.callB (t_Hair_take HP39 HP23 hM2) (fun v1 h1 => ?_)
  refine T.cyI (I := fun m => Inv z m) (B.cp (show B 0 0 (0 : Int32) from ⟨by decide, by decide⟩) (show B 0 0 (0 : Int32) from ⟨by decide, by decide⟩) (show B 192 192 (Int32.ofNat 192) from ⟨by decide, by decide⟩) (by decide)) (h1.imageR (CE_cp (h1.ce RP15) (h1.ce3) rfl)) (fun g2 h3 => ?_)
  refine T.callB (t_Acts_take AP33 AP26 h3) (fun v3 h4 => ?_)
  refine T.callB (t_Seen_take SP35 SP28 h4) (fun v4 h5 => ?_)
  refine T.cyI (I := fun m => Inv z m) (B.cp (show B 0 0 (0 : Int32) from ⟨by decide, by decide⟩) (show B 0 0 (0 : Int32) from ⟨by decide, by decide⟩) (show B 3 3 (3 : Int32) from ⟨by decide, by decide⟩) (by decide)) (h5.frr rfl) (fun g5 h6 => ?_)
  exact T.some' (show Inv z g5 from h6)
theorem t_Hall_restore {z : Zt} {g : Mem} (hIg : Inv z g) : T (sp_Hall_restore g) (fun r => B 0 1 r.1 ∧ Inv z r.2) := by
  unfold sp_Hall_restore
  refine T.cond (fun c1 => ?_) (fun c1 => ?_)
  · have f2 : B 0 0 (g 31 0) := B.eql c1 (B.any (g 31 0)) (show B 0 0 (0 : Int32) from ⟨by decide, by decide⟩) (by decide)
    exact T.some' (show B 0 1 (0 : Int32) ∧ Inv z g from ⟨(B.wk (show B 0 0 (0 : Int32) from ⟨by decide, by decide⟩) (by decide)), hIg⟩)
  · refine T.callB (t_Hair_take HP23 HP39 hIg) (fun v2 h3 => ?_)
    refine T.cyI (I := fun m => Inv z m) (B.cp (show B 0 0 (0 : Int32) from ⟨by decide, by decide⟩) (show B 0 0 (0 : Int32) from ⟨by decide, by decide⟩) (show B 192 192 (Int32.ofNat 192) from ⟨by decide, by decide⟩) (by decide)) (h3.cellsR RP15 (CE_cp (h3.ce3) (h3.ce RP15) rfl)) (fun g3 h4 => ?_)
    refine T.callB (t_Acts_take AP26 AP33 h4) (fun v4 h5 => ?_)
    refine T.callB (t_Seen_take SP28 SP35 h5) (fun v5 h6 => ?_)
    refine T.cyI (I := fun m => Inv z m) (B.cp (show B 0 0 (0 : Int32) from ⟨by decide, by decide⟩) (show B 0 0 (0 : Int32) from ⟨by decide, by decide⟩) (show B 3 3 (3 : Int32) from ⟨by decide, by decide⟩) (by decide)) (h6.frr rfl) (fun g6 h7 => ?_)
    exact T.some' (show B 0 1 (1 : Int32) ∧ Inv z g6 from ⟨(B.wk (show B 1 1 (1 : Int32) from ⟨by decide, by decide⟩) (by decide)), h7⟩)
theorem t_Law_count {z : Zt} {F : Nat} {p1 : Int32} {g : Mem} (hF : 4294967296 < F) (hIg : Inv z g) : T (sp_Law_count F p1 g) (fun r => B 0 1 r.1 ∧ Inv z r.2) := by
  unfold sp_Law_count
  refine T.callB (t_Hall_count hF hIg) (fun r2 h1 => ?_)
  rcases r2 with v1 | e9
  · have h1 : B (-2147483648) 2147483647 v1 := h1
    dsimp only
    refine T.wrI (I := fun m => Inv z m ∧ ∀ q, q ≠ 78 → m q = (g) q) (B.ib (show B 0 0 (0 : Int32) from ⟨by decide, by decide⟩) (by decide)) ⟨hIg.fra rfl, fun q hq => mset_rowF _ _ _ hq⟩ (fun g3 h2 => ?_)
    exact T.some' (show B 0 1 (0 : Int32) ∧ Inv z g3 from ⟨(B.wk (show B 0 0 (0 : Int32) from ⟨by decide, by decide⟩) (by decide)), h2.1⟩)
  · have h1 : e9 = 1 := h1
    subst h1
    dsimp only
    exact T.some' (show B 0 1 (1 : Int32) ∧ Inv z g from ⟨(B.wk (show B 1 1 (1 : Int32) from ⟨by decide, by decide⟩) (by decide)), hIg⟩)
theorem t_Law_monk {z : Zt} {F : Nat} {p1 : Int32} {p2 : Int32} {g : Mem} (hF : 4294967296 < F) (hIg : Inv z g) : T (sp_Law_monk F p1 p2 g) (fun r => B 0 1 r.1 ∧ Inv z r.2) := by
  unfold sp_Law_monk
  refine T.callB (t_Hall_monk hF hIg) (fun r2 h1 => ?_)
  rcases r2 with v1 | e9
  · have h1 : B (-2147483648) 2147483647 v1 := h1
    dsimp only
    refine T.wrI (I := fun m => Inv z m ∧ ∀ q, q ≠ 78 → m q = (g) q) (B.ib (show B 0 0 (0 : Int32) from ⟨by decide, by decide⟩) (by decide)) ⟨hIg.fra rfl, fun q hq => mset_rowF _ _ _ hq⟩ (fun g3 h2 => ?_)
    exact T.some' (show B 0 1 (0 : Int32) ∧ Inv z g3 from ⟨(B.wk (show B 0 0 (0 : Int32) from ⟨by decide, by decide⟩) (by decide)), h2.1⟩)
  · have h1 : e9 = 1 := h1
    subst h1
    dsimp only
    exact T.some' (show B 0 1 (1 : Int32) ∧ Inv z g from ⟨(B.wk (show B 1 1 (1 : Int32) from ⟨by decide, by decide⟩) (by decide)), hIg⟩)
theorem t_Law_entry {z : Zt} {p1 : Int32} {p2 : Int32} {g : Mem} (hIg : Inv z g) : T (sp_Law_entry p1 p2 g) (fun r => B 0 1 r.1 ∧ Inv z r.2) := by
  unfold sp_Law_entry
  refine T.callB (t_Hall_entry hIg) (fun r2 h1 => ?_)
  rcases r2 with v1 | e9
  · have h1 : B (-2147483648) 2147483647 v1 := h1
    dsimp only
    refine T.wrI (I := fun m => Inv z m ∧ ∀ q, q ≠ 78 → m q = (g) q) (B.ib (show B 0 0 (0 : Int32) from ⟨by decide, by decide⟩) (by decide)) ⟨hIg.fra rfl, fun q hq => mset_rowF _ _ _ hq⟩ (fun g3 h2 => ?_)
    exact T.some' (show B 0 1 (0 : Int32) ∧ Inv z g3 from ⟨(B.wk (show B 0 0 (0 : Int32) from ⟨by decide, by decide⟩) (by decide)), h2.1⟩)
  · have h1 : e9 = 1 := h1
    subst h1
    dsimp only
    exact T.some' (show B 0 1 (1 : Int32) ∧ Inv z g from ⟨(B.wk (show B 1 1 (1 : Int32) from ⟨by decide, by decide⟩) (by decide)), hIg⟩)
theorem t_Law_holders {z : Zt} {F : Nat} {p1 : Int32} {g : Mem} (hF : 4294967296 < F) (hIg : Inv z g) : T (sp_Law_holders F p1 g) (fun r => B 0 1 r.1 ∧ Inv z r.2) := by
  unfold sp_Law_holders
  refine T.callB (t_Hall_holders hF hIg) (fun r2 h1 => ?_)
  rcases r2 with v1 | e9
  · have h1 : B (-2147483648) 2147483647 v1 := h1
    dsimp only
    refine T.wrI (I := fun m => Inv z m ∧ ∀ q, q ≠ 78 → m q = (g) q) (B.ib (show B 0 0 (0 : Int32) from ⟨by decide, by decide⟩) (by decide)) ⟨hIg.fra rfl, fun q hq => mset_rowF _ _ _ hq⟩ (fun g3 h2 => ?_)
    exact T.some' (show B 0 1 (0 : Int32) ∧ Inv z g3 from ⟨(B.wk (show B 0 0 (0 : Int32) from ⟨by decide, by decide⟩) (by decide)), h2.1⟩)
  · have h1 : e9 = 1 := h1
    subst h1
    dsimp only
    exact T.some' (show B 0 1 (1 : Int32) ∧ Inv z g from ⟨(B.wk (show B 1 1 (1 : Int32) from ⟨by decide, by decide⟩) (by decide)), hIg⟩)
theorem t_Law_may {z : Zt} {F : Nat} {p1 : Int32} {p2 : Int32} {g : Mem} (hF : 4294967296 < F) (hIg : Inv z g) : T (sp_Law_may F p1 p2 g) (fun r => B 0 1 r.1 ∧ Inv z r.2) := by
  unfold sp_Law_may
  refine T.callB (t_Hall_may hF hIg) (fun r2 h1 => ?_)
  rcases r2 with v1 | e9
  · have h1 : B 0 1 v1.1 ∧ Inv z v1.2 := h1
    dsimp only
    refine T.cond (fun c2 => ?_) (fun c2 => ?_)
    · have f3 : B 0 0 (v1.1) := B.eql c2 h1.1 (show B 0 0 (0 : Int32) from ⟨by decide, by decide⟩) (by decide)
      refine T.wrI (I := fun m => Inv z m ∧ ∀ q, q ≠ 78 → m q = (v1.2) q) (B.ib (show B 0 0 (0 : Int32) from ⟨by decide, by decide⟩) (by decide)) ⟨h1.2.fra rfl, fun q hq => mset_rowF _ _ _ hq⟩ (fun g4 h4 => ?_)
      exact T.some' (show B 0 1 (0 : Int32) ∧ Inv z g4 from ⟨(B.wk (show B 0 0 (0 : Int32) from ⟨by decide, by decide⟩) (by decide)), h4.1⟩)
    · have f5 : B 1 1 (v1.1) := B.nelo c2 h1.1 (show B 0 0 (0 : Int32) from ⟨by decide, by decide⟩) (by decide)
      refine T.wrI (I := fun m => Inv z m ∧ ∀ q, q ≠ 78 → m q = (v1.2) q) (B.ib (show B 0 0 (0 : Int32) from ⟨by decide, by decide⟩) (by decide)) ⟨h1.2.fra rfl, fun q hq => mset_rowF _ _ _ hq⟩ (fun g5 h6 => ?_)
      exact T.some' (show B 0 1 (0 : Int32) ∧ Inv z g5 from ⟨(B.wk (show B 0 0 (0 : Int32) from ⟨by decide, by decide⟩) (by decide)), h6.1⟩)
  · have h1 : e9 = 1 := h1
    subst h1
    dsimp only
    exact T.some' (show B 0 1 (1 : Int32) ∧ Inv z g from ⟨(B.wk (show B 1 1 (1 : Int32) from ⟨by decide, by decide⟩) (by decide)), hIg⟩)
theorem t_Law_braid {z : Zt} {p1 : Int32} {p2 : Int32} {p3 : Int32} {p4 : Int32} {g : Mem} (hIg : Inv z g) : T (sp_Law_braid p1 p2 p3 p4 g) (fun r => B 0 1 r.1 ∧ Inv z r.2) := by
  unfold sp_Law_braid
  refine T.callB (t_Hall_braid hIg) (fun r2 h1 => ?_)
  rcases r2 with v1 | e9
  · have h1 : B (-1) 23 v1.1 ∧ Inv z v1.2 := h1
    dsimp only
    refine T.wrI (I := fun m => Inv z m ∧ ∀ q, q ≠ 78 → m q = (v1.2) q) (B.ib (show B 0 0 (0 : Int32) from ⟨by decide, by decide⟩) (by decide)) ⟨h1.2.fra rfl, fun q hq => mset_rowF _ _ _ hq⟩ (fun g3 h2 => ?_)
    exact T.some' (show B 0 1 (0 : Int32) ∧ Inv z g3 from ⟨(B.wk (show B 0 0 (0 : Int32) from ⟨by decide, by decide⟩) (by decide)), h2.1⟩)
  · have h1 : e9 = 1 := h1
    subst h1
    dsimp only
    exact T.some' (show B 0 1 (1 : Int32) ∧ Inv z g from ⟨(B.wk (show B 1 1 (1 : Int32) from ⟨by decide, by decide⟩) (by decide)), hIg⟩)
theorem t_Law_copy {z : Zt} {F : Nat} {p1 : Int32} {p2 : Int32} {g : Mem} (hF : 4294967296 < F) (hIg : Inv z g) : T (sp_Law_copy F p1 p2 g) (fun r => B 0 1 r.1 ∧ Inv z r.2) := by
  unfold sp_Law_copy
  refine T.callB (t_Hall_copy hF hIg) (fun r2 h1 => ?_)
  rcases r2 with v1 | e9
  · have h1 : B (-2147483648) 2147483647 v1.1 ∧ Inv z v1.2 := h1
    dsimp only
    refine T.wrI (I := fun m => Inv z m ∧ ∀ q, q ≠ 78 → m q = (v1.2) q) (B.ib (show B 0 0 (0 : Int32) from ⟨by decide, by decide⟩) (by decide)) ⟨h1.2.fra rfl, fun q hq => mset_rowF _ _ _ hq⟩ (fun g3 h2 => ?_)
    exact T.some' (show B 0 1 (0 : Int32) ∧ Inv z g3 from ⟨(B.wk (show B 0 0 (0 : Int32) from ⟨by decide, by decide⟩) (by decide)), h2.1⟩)
  · have h1 : e9 = 1 := h1
    subst h1
    dsimp only
    exact T.some' (show B 0 1 (1 : Int32) ∧ Inv z g from ⟨(B.wk (show B 1 1 (1 : Int32) from ⟨by decide, by decide⟩) (by decide)), hIg⟩)
theorem t_Law_knot {z : Zt} {p1 : Int32} {g : Mem} (hIg : Inv z g) : T (sp_Law_knot p1 g) (fun r => B 0 1 r.1 ∧ Inv z r.2) := by
  unfold sp_Law_knot
  refine T.callB (t_Hall_knot hIg) (fun r2 h1 => ?_)
  rcases r2 with v1 | e9
  · have h1 : B 0 1 v1.1 ∧ Inv z v1.2 := h1
    dsimp only
    refine T.cond (fun c2 => ?_) (fun c2 => ?_)
    · have f3 : B 0 0 (v1.1) := B.eql c2 h1.1 (show B 0 0 (0 : Int32) from ⟨by decide, by decide⟩) (by decide)
      refine T.wrI (I := fun m => Inv z m ∧ ∀ q, q ≠ 78 → m q = (v1.2) q) (B.ib (show B 0 0 (0 : Int32) from ⟨by decide, by decide⟩) (by decide)) ⟨h1.2.fra rfl, fun q hq => mset_rowF _ _ _ hq⟩ (fun g4 h4 => ?_)
      exact T.some' (show B 0 1 (0 : Int32) ∧ Inv z g4 from ⟨(B.wk (show B 0 0 (0 : Int32) from ⟨by decide, by decide⟩) (by decide)), h4.1⟩)
    · have f5 : B 1 1 (v1.1) := B.nelo c2 h1.1 (show B 0 0 (0 : Int32) from ⟨by decide, by decide⟩) (by decide)
      refine T.wrI (I := fun m => Inv z m ∧ ∀ q, q ≠ 78 → m q = (v1.2) q) (B.ib (show B 0 0 (0 : Int32) from ⟨by decide, by decide⟩) (by decide)) ⟨h1.2.fra rfl, fun q hq => mset_rowF _ _ _ hq⟩ (fun g5 h6 => ?_)
      exact T.some' (show B 0 1 (0 : Int32) ∧ Inv z g5 from ⟨(B.wk (show B 0 0 (0 : Int32) from ⟨by decide, by decide⟩) (by decide)), h6.1⟩)
  · have h1 : e9 = 1 := h1
    subst h1
    dsimp only
    exact T.some' (show B 0 1 (1 : Int32) ∧ Inv z g from ⟨(B.wk (show B 1 1 (1 : Int32) from ⟨by decide, by decide⟩) (by decide)), hIg⟩)
theorem t_Law_comb {z : Zt} {p1 : Int32} {g : Mem} (hIg : Inv z g) : T (sp_Law_comb p1 g) (fun r => B 0 1 r.1 ∧ Inv z r.2) := by
  unfold sp_Law_comb
  refine T.callB (t_Hall_comb hIg) (fun r2 h1 => ?_)
  rcases r2 with v1 | e9
  · have h1 : B 0 1 v1.1 ∧ Inv z v1.2 := h1
    dsimp only
    refine T.cond (fun c2 => ?_) (fun c2 => ?_)
    · have f3 : B 0 0 (v1.1) := B.eql c2 h1.1 (show B 0 0 (0 : Int32) from ⟨by decide, by decide⟩) (by decide)
      refine T.wrI (I := fun m => Inv z m ∧ ∀ q, q ≠ 78 → m q = (v1.2) q) (B.ib (show B 0 0 (0 : Int32) from ⟨by decide, by decide⟩) (by decide)) ⟨h1.2.fra rfl, fun q hq => mset_rowF _ _ _ hq⟩ (fun g4 h4 => ?_)
      exact T.some' (show B 0 1 (0 : Int32) ∧ Inv z g4 from ⟨(B.wk (show B 0 0 (0 : Int32) from ⟨by decide, by decide⟩) (by decide)), h4.1⟩)
    · have f5 : B 1 1 (v1.1) := B.nelo c2 h1.1 (show B 0 0 (0 : Int32) from ⟨by decide, by decide⟩) (by decide)
      refine T.wrI (I := fun m => Inv z m ∧ ∀ q, q ≠ 78 → m q = (v1.2) q) (B.ib (show B 0 0 (0 : Int32) from ⟨by decide, by decide⟩) (by decide)) ⟨h1.2.fra rfl, fun q hq => mset_rowF _ _ _ hq⟩ (fun g5 h6 => ?_)
      exact T.some' (show B 0 1 (0 : Int32) ∧ Inv z g5 from ⟨(B.wk (show B 0 0 (0 : Int32) from ⟨by decide, by decide⟩) (by decide)), h6.1⟩)
  · have h1 : e9 = 1 := h1
    subst h1
    dsimp only
    exact T.some' (show B 0 1 (1 : Int32) ∧ Inv z g from ⟨(B.wk (show B 1 1 (1 : Int32) from ⟨by decide, by decide⟩) (by decide)), hIg⟩)
theorem t_Law_shave {z : Zt} {F : Nat} {p1 : Int32} {p2 : Int32} {g : Mem} (hF : 4294967296 < F) (hIg : Inv z g) : T (sp_Law_shave F p1 p2 g) (fun r => B 0 1 r.1 ∧ Inv z r.2) := by
  unfold sp_Law_shave
  refine T.callB (t_Hall_shave hF hIg) (fun r2 h1 => ?_)
  rcases r2 with v1 | e9
  · have h1 : B (-2147483648) 2147483647 v1.1 ∧ Inv z v1.2 := h1
    dsimp only
    refine T.wrI (I := fun m => Inv z m ∧ ∀ q, q ≠ 78 → m q = (v1.2) q) (B.ib (show B 0 0 (0 : Int32) from ⟨by decide, by decide⟩) (by decide)) ⟨h1.2.fra rfl, fun q hq => mset_rowF _ _ _ hq⟩ (fun g3 h2 => ?_)
    exact T.some' (show B 0 1 (0 : Int32) ∧ Inv z g3 from ⟨(B.wk (show B 0 0 (0 : Int32) from ⟨by decide, by decide⟩) (by decide)), h2.1⟩)
  · have h1 : e9 = 1 := h1
    subst h1
    dsimp only
    exact T.some' (show B 0 1 (1 : Int32) ∧ Inv z g from ⟨(B.wk (show B 1 1 (1 : Int32) from ⟨by decide, by decide⟩) (by decide)), hIg⟩)
theorem t_Law_moths {z : Zt} {F : Nat} {p1 : Int32} {p2 : Int32} {p3 : Int32} {g : Mem} (hF : 4294967296 < F) (hIg : Inv z g) : T (sp_Law_moths F p1 p2 p3 g) (fun r => B 0 1 r.1 ∧ Inv z r.2) := by
  unfold sp_Law_moths
  refine T.callB (t_Hall_moths hF hIg) (fun r2 h1 => ?_)
  rcases r2 with v1 | e9
  · have h1 : B (-2147483648) 2147483647 v1.1 ∧ Inv z v1.2 := h1
    dsimp only
    refine T.wrI (I := fun m => Inv z m ∧ ∀ q, q ≠ 78 → m q = (v1.2) q) (B.ib (show B 0 0 (0 : Int32) from ⟨by decide, by decide⟩) (by decide)) ⟨h1.2.fra rfl, fun q hq => mset_rowF _ _ _ hq⟩ (fun g3 h2 => ?_)
    exact T.some' (show B 0 1 (0 : Int32) ∧ Inv z g3 from ⟨(B.wk (show B 0 0 (0 : Int32) from ⟨by decide, by decide⟩) (by decide)), h2.1⟩)
  · have h1 : e9 = 1 := h1
    subst h1
    dsimp only
    exact T.some' (show B 0 1 (1 : Int32) ∧ Inv z g from ⟨(B.wk (show B 1 1 (1 : Int32) from ⟨by decide, by decide⟩) (by decide)), hIg⟩)
theorem t_Law_die {z : Zt} {p1 : Int32} {g : Mem} (hIg : Inv z g) : T (sp_Law_die p1 g) (fun r => B 0 1 r.1 ∧ Inv z r.2) := by
  unfold sp_Law_die
  refine T.callB (t_Hall_die hIg) (fun r2 h1 => ?_)
  rcases r2 with v1 | e9
  · have h1 : B 0 1 v1.1 ∧ Inv z v1.2 := h1
    dsimp only
    refine T.cond (fun c2 => ?_) (fun c2 => ?_)
    · have f3 : B 0 0 (v1.1) := B.eql c2 h1.1 (show B 0 0 (0 : Int32) from ⟨by decide, by decide⟩) (by decide)
      refine T.wrI (I := fun m => Inv z m ∧ ∀ q, q ≠ 78 → m q = (v1.2) q) (B.ib (show B 0 0 (0 : Int32) from ⟨by decide, by decide⟩) (by decide)) ⟨h1.2.fra rfl, fun q hq => mset_rowF _ _ _ hq⟩ (fun g4 h4 => ?_)
      exact T.some' (show B 0 1 (0 : Int32) ∧ Inv z g4 from ⟨(B.wk (show B 0 0 (0 : Int32) from ⟨by decide, by decide⟩) (by decide)), h4.1⟩)
    · have f5 : B 1 1 (v1.1) := B.nelo c2 h1.1 (show B 0 0 (0 : Int32) from ⟨by decide, by decide⟩) (by decide)
      refine T.wrI (I := fun m => Inv z m ∧ ∀ q, q ≠ 78 → m q = (v1.2) q) (B.ib (show B 0 0 (0 : Int32) from ⟨by decide, by decide⟩) (by decide)) ⟨h1.2.fra rfl, fun q hq => mset_rowF _ _ _ hq⟩ (fun g5 h6 => ?_)
      exact T.some' (show B 0 1 (0 : Int32) ∧ Inv z g5 from ⟨(B.wk (show B 0 0 (0 : Int32) from ⟨by decide, by decide⟩) (by decide)), h6.1⟩)
  · have h1 : e9 = 1 := h1
    subst h1
    dsimp only
    exact T.some' (show B 0 1 (1 : Int32) ∧ Inv z g from ⟨(B.wk (show B 1 1 (1 : Int32) from ⟨by decide, by decide⟩) (by decide)), hIg⟩)
theorem t_Law_law {z : Zt} {F : Nat} {p1 : Int32} {g : Mem} (hF : 4294967296 < F) (hIg : Inv z g) : T (sp_Law_law F p1 g) (fun r => B 0 1 r.1 ∧ Inv z r.2) := by
  unfold sp_Law_law
  refine T.callB (t_Hall_law hF hIg) (fun r2 h1 => ?_)
  rcases r2 with v1 | e9
  · have h1 : B (-2147483648) 2147483647 v1 := h1
    dsimp only
    refine T.wrI (I := fun m => Inv z m ∧ ∀ q, q ≠ 78 → m q = (g) q) (B.ib (show B 0 0 (0 : Int32) from ⟨by decide, by decide⟩) (by decide)) ⟨hIg.fra rfl, fun q hq => mset_rowF _ _ _ hq⟩ (fun g3 h2 => ?_)
    exact T.some' (show B 0 1 (0 : Int32) ∧ Inv z g3 from ⟨(B.wk (show B 0 0 (0 : Int32) from ⟨by decide, by decide⟩) (by decide)), h2.1⟩)
  · have h1 : e9 = 1 := h1
    subst h1
    dsimp only
    exact T.some' (show B 0 1 (1 : Int32) ∧ Inv z g from ⟨(B.wk (show B 1 1 (1 : Int32) from ⟨by decide, by decide⟩) (by decide)), hIg⟩)
theorem t_Law_owed {z : Zt} {F : Nat} {p1 : Int32} {g : Mem} (hF : 4294967296 < F) (hIg : Inv z g) : T (sp_Law_owed F p1 g) (fun r => B 0 1 r.1 ∧ Inv z r.2) := by
  unfold sp_Law_owed
  refine T.callB (t_Hall_owed hF hIg) (fun r2 h1 => ?_)
  rcases r2 with v1 | e9
  · have h1 : B (-2147483648) 2147483647 v1 := h1
    dsimp only
    refine T.wrI (I := fun m => Inv z m ∧ ∀ q, q ≠ 78 → m q = (g) q) (B.ib (show B 0 0 (0 : Int32) from ⟨by decide, by decide⟩) (by decide)) ⟨hIg.fra rfl, fun q hq => mset_rowF _ _ _ hq⟩ (fun g3 h2 => ?_)
    exact T.some' (show B 0 1 (0 : Int32) ∧ Inv z g3 from ⟨(B.wk (show B 0 0 (0 : Int32) from ⟨by decide, by decide⟩) (by decide)), h2.1⟩)
  · have h1 : e9 = 1 := h1
    subst h1
    dsimp only
    exact T.some' (show B 0 1 (1 : Int32) ∧ Inv z g from ⟨(B.wk (show B 1 1 (1 : Int32) from ⟨by decide, by decide⟩) (by decide)), hIg⟩)
theorem t_Law_barbers {z : Zt} {F : Nat} {p1 : Int32} {g : Mem} (hF : 4294967296 < F) (hIg : Inv z g) : T (sp_Law_barbers F p1 g) (fun r => B 0 1 r.1 ∧ Inv z r.2) := by
  unfold sp_Law_barbers
  refine T.callB (t_Hall_barbers hF hIg) (fun r2 h1 => ?_)
  rcases r2 with v1 | e9
  · have h1 : B (-2147483648) 2147483647 v1.1 ∧ Inv z v1.2 := h1
    dsimp only
    refine T.wrI (I := fun m => Inv z m ∧ ∀ q, q ≠ 78 → m q = (v1.2) q) (B.ib (show B 0 0 (0 : Int32) from ⟨by decide, by decide⟩) (by decide)) ⟨h1.2.fra rfl, fun q hq => mset_rowF _ _ _ hq⟩ (fun g3 h2 => ?_)
    exact T.some' (show B 0 1 (0 : Int32) ∧ Inv z g3 from ⟨(B.wk (show B 0 0 (0 : Int32) from ⟨by decide, by decide⟩) (by decide)), h2.1⟩)
  · have h1 : e9 = 0 := h1
    subst h1
    dsimp only
    exact T.some' (show B 0 1 (1 : Int32) ∧ Inv z g from ⟨(B.wk (show B 1 1 (1 : Int32) from ⟨by decide, by decide⟩) (by decide)), hIg⟩)
theorem t_Law_shortest {z : Zt} {F : Nat} {p1 : Int32} {g : Mem} (hF : 4294967296 < F) (hIg : Inv z g) : T (sp_Law_shortest F p1 g) (fun r => B 0 1 r.1 ∧ Inv z r.2) := by
  unfold sp_Law_shortest
  refine T.callB (t_Hall_shortest hF hIg) (fun r2 h1 => ?_)
  rcases r2 with v1 | e9
  · have h1 : B (-2147483648) 2147483647 v1 := h1
    dsimp only
    refine T.wrI (I := fun m => Inv z m ∧ ∀ q, q ≠ 78 → m q = (g) q) (B.ib (show B 0 0 (0 : Int32) from ⟨by decide, by decide⟩) (by decide)) ⟨hIg.fra rfl, fun q hq => mset_rowF _ _ _ hq⟩ (fun g3 h2 => ?_)
    exact T.some' (show B 0 1 (0 : Int32) ∧ Inv z g3 from ⟨(B.wk (show B 0 0 (0 : Int32) from ⟨by decide, by decide⟩) (by decide)), h2.1⟩)
  · have h1 : e9 = 1 := h1
    subst h1
    dsimp only
    exact T.some' (show B 0 1 (1 : Int32) ∧ Inv z g from ⟨(B.wk (show B 1 1 (1 : Int32) from ⟨by decide, by decide⟩) (by decide)), hIg⟩)
theorem t_Law_amnesty {z : Zt} {F : Nat} {p1 : Int32} {p2 : Int32} {p3 : Int32} {g : Mem} (hF : 4294967296 < F) (hIg : Inv z g) : T (sp_Law_amnesty F p1 p2 p3 g) (fun r => B 0 2 r.1 ∧ Inv z r.2) := by
  unfold sp_Law_amnesty
  refine T.callB (t_Hall_amnesty hF hIg) (fun r2 h1 => ?_)
  rcases r2 with v1 | e9
  · have h1 : B (-2147483648) 2147483647 v1 := h1
    dsimp only
    refine T.wrI (I := fun m => Inv z m ∧ ∀ q, q ≠ 78 → m q = (g) q) (B.ib (show B 0 0 (0 : Int32) from ⟨by decide, by decide⟩) (by decide)) ⟨hIg.fra rfl, fun q hq => mset_rowF _ _ _ hq⟩ (fun g3 h2 => ?_)
    exact T.some' (show B 0 2 (0 : Int32) ∧ Inv z g3 from ⟨(B.wk (show B 0 0 (0 : Int32) from ⟨by decide, by decide⟩) (by decide)), h2.1⟩)
  · have h1 : e9 = 0 ∨ e9 = 1 := h1
    rcases h1 with rfl | rfl
    · dsimp only
      exact T.some' (show B 0 2 (2 : Int32) ∧ Inv z g from ⟨(B.wk (show B 2 2 (2 : Int32) from ⟨by decide, by decide⟩) (by decide)), hIg⟩)
    · dsimp only
      exact T.some' (show B 0 2 (1 : Int32) ∧ Inv z g from ⟨(B.wk (show B 1 1 (1 : Int32) from ⟨by decide, by decide⟩) (by decide)), hIg⟩)
theorem t_Law_week {z : Zt} {F : Nat} {p1 : Int32} {p2 : Int32} {g : Mem} (hF : 4294967296 < F) (hIg : Inv z g) : T (sp_Law_week F p1 p2 g) (fun r => B 0 1 r.1 ∧ Inv z r.2) := by
  unfold sp_Law_week
  refine T.callB (t_Hall_week hF hIg) (fun r2 h1 => ?_)
  rcases r2 with v1 | e9
  · have h1 : B (-2147483648) 2147483647 v1 := h1
    dsimp only
    refine T.wrI (I := fun m => Inv z m ∧ ∀ q, q ≠ 78 → m q = (g) q) (B.ib (show B 0 0 (0 : Int32) from ⟨by decide, by decide⟩) (by decide)) ⟨hIg.fra rfl, fun q hq => mset_rowF _ _ _ hq⟩ (fun g3 h2 => ?_)
    exact T.some' (show B 0 1 (0 : Int32) ∧ Inv z g3 from ⟨(B.wk (show B 0 0 (0 : Int32) from ⟨by decide, by decide⟩) (by decide)), h2.1⟩)
  · have h1 : e9 = 1 := h1
    subst h1
    dsimp only
    exact T.some' (show B 0 1 (1 : Int32) ∧ Inv z g from ⟨(B.wk (show B 1 1 (1 : Int32) from ⟨by decide, by decide⟩) (by decide)), hIg⟩)
theorem t_Law_oldest {z : Zt} {F : Nat} {p1 : Int32} {p2 : Int32} {g : Mem} (hF : 4294967296 < F) (hIg : Inv z g) : T (sp_Law_oldest F p1 p2 g) (fun r => B 0 1 r.1 ∧ Inv z r.2) := by
  unfold sp_Law_oldest
  refine T.callB (t_Hall_oldest hF hIg) (fun r2 h1 => ?_)
  rcases r2 with v1 | e9
  · have h1 : B (-2147483648) 2147483647 v1 := h1
    dsimp only
    refine T.wrI (I := fun m => Inv z m ∧ ∀ q, q ≠ 78 → m q = (g) q) (B.ib (show B 0 0 (0 : Int32) from ⟨by decide, by decide⟩) (by decide)) ⟨hIg.fra rfl, fun q hq => mset_rowF _ _ _ hq⟩ (fun g3 h2 => ?_)
    exact T.some' (show B 0 1 (0 : Int32) ∧ Inv z g3 from ⟨(B.wk (show B 0 0 (0 : Int32) from ⟨by decide, by decide⟩) (by decide)), h2.1⟩)
  · have h1 : e9 = 1 := h1
    subst h1
    dsimp only
    exact T.some' (show B 0 1 (1 : Int32) ∧ Inv z g from ⟨(B.wk (show B 1 1 (1 : Int32) from ⟨by decide, by decide⟩) (by decide)), hIg⟩)
theorem t_Law_believed {z : Zt} {F : Nat} {p1 : Int32} {g : Mem} (hF : 4294967296 < F) (hIg : Inv z g) : T (sp_Law_believed F p1 g) (fun r => B 0 1 r.1 ∧ Inv z r.2) := by
  unfold sp_Law_believed
  refine T.callB (t_Hall_believed hF hIg) (fun r2 h1 => ?_)
  rcases r2 with v1 | e9
  · have h1 : B (-2147483648) 2147483647 v1 := h1
    dsimp only
    refine T.wrI (I := fun m => Inv z m ∧ ∀ q, q ≠ 78 → m q = (g) q) (B.ib (show B 0 0 (0 : Int32) from ⟨by decide, by decide⟩) (by decide)) ⟨hIg.fra rfl, fun q hq => mset_rowF _ _ _ hq⟩ (fun g3 h2 => ?_)
    exact T.some' (show B 0 1 (0 : Int32) ∧ Inv z g3 from ⟨(B.wk (show B 0 0 (0 : Int32) from ⟨by decide, by decide⟩) (by decide)), h2.1⟩)
  · have h1 : e9 = 1 := h1
    subst h1
    dsimp only
    exact T.some' (show B 0 1 (1 : Int32) ∧ Inv z g from ⟨(B.wk (show B 1 1 (1 : Int32) from ⟨by decide, by decide⟩) (by decide)), hIg⟩)
theorem t_Law_until {z : Zt} {p1 : Int32} {g : Mem} (hIg : Inv z g) : T (sp_Law_until p1 g) (fun r => B 0 1 r.1 ∧ Inv z r.2) := by
  unfold sp_Law_until
  refine T.callB (t_Hall_until hIg) (fun r2 h1 => ?_)
  rcases r2 with v1 | e9
  · have h1 : B (-2147483648) 2147483647 v1 := h1
    dsimp only
    refine T.wrI (I := fun m => Inv z m ∧ ∀ q, q ≠ 78 → m q = (g) q) (B.ib (show B 0 0 (0 : Int32) from ⟨by decide, by decide⟩) (by decide)) ⟨hIg.fra rfl, fun q hq => mset_rowF _ _ _ hq⟩ (fun g3 h2 => ?_)
    exact T.some' (show B 0 1 (0 : Int32) ∧ Inv z g3 from ⟨(B.wk (show B 0 0 (0 : Int32) from ⟨by decide, by decide⟩) (by decide)), h2.1⟩)
  · have h1 : e9 = 1 := h1
    subst h1
    dsimp only
    exact T.some' (show B 0 1 (1 : Int32) ∧ Inv z g from ⟨(B.wk (show B 1 1 (1 : Int32) from ⟨by decide, by decide⟩) (by decide)), hIg⟩)
theorem t_Law_doomed {z : Zt} {F : Nat} {p1 : Int32} {g : Mem} (hF : 4294967296 < F) (hIg : Inv z g) : T (sp_Law_doomed F p1 g) (fun r => B 0 1 r.1 ∧ Inv z r.2) := by
  unfold sp_Law_doomed
  refine T.callB (t_Hall_doomed hF hIg) (fun r2 h1 => ?_)
  rcases r2 with v1 | e9
  · have h1 : B (-2147483648) 2147483647 v1 := h1
    dsimp only
    refine T.wrI (I := fun m => Inv z m ∧ ∀ q, q ≠ 78 → m q = (g) q) (B.ib (show B 0 0 (0 : Int32) from ⟨by decide, by decide⟩) (by decide)) ⟨hIg.fra rfl, fun q hq => mset_rowF _ _ _ hq⟩ (fun g3 h2 => ?_)
    exact T.some' (show B 0 1 (0 : Int32) ∧ Inv z g3 from ⟨(B.wk (show B 0 0 (0 : Int32) from ⟨by decide, by decide⟩) (by decide)), h2.1⟩)
  · have h1 : e9 = 0 := h1
    subst h1
    dsimp only
    exact T.some' (show B 0 1 (1 : Int32) ∧ Inv z g from ⟨(B.wk (show B 1 1 (1 : Int32) from ⟨by decide, by decide⟩) (by decide)), hIg⟩)
theorem t_Law_heir {z : Zt} {F : Nat} {p1 : Int32} {g : Mem} (hF : 4294967296 < F) (hIg : Inv z g) : T (sp_Law_heir F p1 g) (fun r => B 0 1 r.1 ∧ Inv z r.2) := by
  unfold sp_Law_heir
  refine T.callB (t_Hall_heir hF hIg) (fun r2 h1 => ?_)
  rcases r2 with v1 | e9
  · have h1 : B (-2147483648) 2147483647 v1 := h1
    dsimp only
    refine T.wrI (I := fun m => Inv z m ∧ ∀ q, q ≠ 78 → m q = (g) q) (B.ib (show B 0 0 (0 : Int32) from ⟨by decide, by decide⟩) (by decide)) ⟨hIg.fra rfl, fun q hq => mset_rowF _ _ _ hq⟩ (fun g3 h2 => ?_)
    exact T.some' (show B 0 1 (0 : Int32) ∧ Inv z g3 from ⟨(B.wk (show B 0 0 (0 : Int32) from ⟨by decide, by decide⟩) (by decide)), h2.1⟩)
  · have h1 : e9 = 1 := h1
    subst h1
    dsimp only
    exact T.some' (show B 0 1 (1 : Int32) ∧ Inv z g from ⟨(B.wk (show B 1 1 (1 : Int32) from ⟨by decide, by decide⟩) (by decide)), hIg⟩)
theorem t_Law_lice {z : Zt} {F : Nat} {p1 : Int32} {g : Mem} (hF : 4294967296 < F) (hIg : Inv z g) : T (sp_Law_lice F p1 g) (fun r => B 0 1 r.1 ∧ Inv z r.2) := by
  unfold sp_Law_lice
  refine T.callB (t_Hall_lice hF hIg) (fun r2 h1 => ?_)
  rcases r2 with v1 | e9
  · have h1 : B (-2147483648) 2147483647 v1 := h1
    dsimp only
    refine T.wrI (I := fun m => Inv z m ∧ ∀ q, q ≠ 78 → m q = (g) q) (B.ib (show B 0 0 (0 : Int32) from ⟨by decide, by decide⟩) (by decide)) ⟨hIg.fra rfl, fun q hq => mset_rowF _ _ _ hq⟩ (fun g3 h2 => ?_)
    exact T.some' (show B 0 1 (0 : Int32) ∧ Inv z g3 from ⟨(B.wk (show B 0 0 (0 : Int32) from ⟨by decide, by decide⟩) (by decide)), h2.1⟩)
  · have h1 : e9 = 1 := h1
    subst h1
    dsimp only
    exact T.some' (show B 0 1 (1 : Int32) ∧ Inv z g from ⟨(B.wk (show B 1 1 (1 : Int32) from ⟨by decide, by decide⟩) (by decide)), hIg⟩)
theorem t_Law_see {z : Zt} {p1 : Int32} {p2 : Int32} {g : Mem} (hIg : Inv z g) : T (sp_Law_see p1 p2 g) (fun r => B 0 1 r.1 ∧ Inv z r.2) := by
  unfold sp_Law_see
  refine T.callB (t_Hall_see hIg) (fun r2 h1 => ?_)
  rcases r2 with v1 | e9
  · have h1 : B (-1) 8 v1.1 ∧ Inv z v1.2 := h1
    dsimp only
    refine T.wrI (I := fun m => Inv z m ∧ ∀ q, q ≠ 78 → m q = (v1.2) q) (B.ib (show B 0 0 (0 : Int32) from ⟨by decide, by decide⟩) (by decide)) ⟨h1.2.fra rfl, fun q hq => mset_rowF _ _ _ hq⟩ (fun g3 h2 => ?_)
    exact T.some' (show B 0 1 (0 : Int32) ∧ Inv z g3 from ⟨(B.wk (show B 0 0 (0 : Int32) from ⟨by decide, by decide⟩) (by decide)), h2.1⟩)
  · have h1 : e9 = 1 := h1
    subst h1
    dsimp only
    exact T.some' (show B 0 1 (1 : Int32) ∧ Inv z g from ⟨(B.wk (show B 1 1 (1 : Int32) from ⟨by decide, by decide⟩) (by decide)), hIg⟩)
theorem t_Law_ate {z : Zt} {F : Nat} {p1 : Int32} {p2 : Int32} {g : Mem} (hF : 4294967296 < F) (hIg : Inv z g) : T (sp_Law_ate F p1 p2 g) (fun r => B 0 1 r.1 ∧ Inv z r.2) := by
  unfold sp_Law_ate
  refine T.callB (t_Hall_ate hF hIg) (fun r2 h1 => ?_)
  rcases r2 with v1 | e9
  · have h1 : B (-2147483648) 2147483647 v1 := h1
    dsimp only
    refine T.wrI (I := fun m => Inv z m ∧ ∀ q, q ≠ 78 → m q = (g) q) (B.ib (show B 0 0 (0 : Int32) from ⟨by decide, by decide⟩) (by decide)) ⟨hIg.fra rfl, fun q hq => mset_rowF _ _ _ hq⟩ (fun g3 h2 => ?_)
    exact T.some' (show B 0 1 (0 : Int32) ∧ Inv z g3 from ⟨(B.wk (show B 0 0 (0 : Int32) from ⟨by decide, by decide⟩) (by decide)), h2.1⟩)
  · have h1 : e9 = 1 := h1
    subst h1
    dsimp only
    exact T.some' (show B 0 1 (1 : Int32) ∧ Inv z g from ⟨(B.wk (show B 1 1 (1 : Int32) from ⟨by decide, by decide⟩) (by decide)), hIg⟩)
theorem t_Law_game {z : Zt} {F : Nat} {p1 : Int32} {g : Mem} (hF : 4294967296 < F) (hIg : Inv z g) : T (sp_Law_game F p1 g) (fun r => B 0 1 r.1 ∧ Inv z r.2) := by
  unfold sp_Law_game
  refine T.callB (t_Hall_game hF hIg) (fun r2 h1 => ?_)
  rcases r2 with v1 | e9
  · have h1 : B (-2147483648) 2147483647 v1.1 ∧ Inv z v1.2 := h1
    dsimp only
    refine T.wrI (I := fun m => Inv z m ∧ ∀ q, q ≠ 78 → m q = (v1.2) q) (B.ib (show B 0 0 (0 : Int32) from ⟨by decide, by decide⟩) (by decide)) ⟨h1.2.fra rfl, fun q hq => mset_rowF _ _ _ hq⟩ (fun g3 h2 => ?_)
    exact T.some' (show B 0 1 (0 : Int32) ∧ Inv z g3 from ⟨(B.wk (show B 0 0 (0 : Int32) from ⟨by decide, by decide⟩) (by decide)), h2.1⟩)
  · have h1 : e9 = 1 := h1
    subst h1
    dsimp only
    exact T.some' (show B 0 1 (1 : Int32) ∧ Inv z g from ⟨(B.wk (show B 1 1 (1 : Int32) from ⟨by decide, by decide⟩) (by decide)), hIg⟩)
theorem t_Law_season {z : Zt} {F : Nat} {p1 : Int32} {p2 : Int32} {p3 : Int32} {g : Mem} (hF : 4294967296 < F) (hIg : Inv z g) : T (sp_Law_season F p1 p2 p3 g) (fun r => B 0 2 r.1 ∧ Inv z r.2) := by
  unfold sp_Law_season
  refine T.callB (t_Hall_season hF hIg) (fun r2 h1 => ?_)
  rcases r2 with v1 | e9
  · have h1 : B (-2147483648) 2147483647 v1.1 ∧ Inv z v1.2 := h1
    dsimp only
    refine T.wrI (I := fun m => Inv z m ∧ ∀ q, q ≠ 78 → m q = (v1.2) q) (B.ib (show B 0 0 (0 : Int32) from ⟨by decide, by decide⟩) (by decide)) ⟨h1.2.fra rfl, fun q hq => mset_rowF _ _ _ hq⟩ (fun g3 h2 => ?_)
    exact T.some' (show B 0 2 (0 : Int32) ∧ Inv z g3 from ⟨(B.wk (show B 0 0 (0 : Int32) from ⟨by decide, by decide⟩) (by decide)), h2.1⟩)
  · have h1 : e9 = 0 ∨ e9 = 1 := h1
    rcases h1 with rfl | rfl
    · dsimp only
      exact T.some' (show B 0 2 (2 : Int32) ∧ Inv z g from ⟨(B.wk (show B 2 2 (2 : Int32) from ⟨by decide, by decide⟩) (by decide)), hIg⟩)
    · dsimp only
      exact T.some' (show B 0 2 (1 : Int32) ∧ Inv z g from ⟨(B.wk (show B 1 1 (1 : Int32) from ⟨by decide, by decide⟩) (by decide)), hIg⟩)
theorem t_case_2 {z : Zt} {F : Nat} {L : Nat} {xs : Nat → Int32} {i : Int32} {g : Mem} (hF : 4294967296 < F) (hx : HX L i) (hIg : Inv z g) : T (sp_case_2 F L xs i g) (fun r => ∃ g9, r = .inl g9 ∧ Inv z g9) := by
  unfold sp_case_2
  refine T.callB (t_Hall_fault hIg) (fun v1 h1 => ?_)
  refine T.callB (t_Model_fault hIg) (fun v2 h2 => ?_)
  exact T.some' (show ∃ g9, (Sum.inl v2.2 : Mem ⊕ Unit) = .inl g9 ∧ Inv z g9 from ⟨_, rfl, h2.2⟩)
theorem t_case_3 {z : Zt} {F : Nat} {L : Nat} {xs : Nat → Int32} {i : Int32} {g : Mem} (hF : 4294967296 < F) (hx : HX L i) (hIg : Inv z g) : T (sp_case_3 F L xs i g) (fun r => ∃ g9, r = .inl g9 ∧ Inv z g9) := by
  unfold sp_case_3
  refine T.rxU hx.1 (fun v1 => ?_)
  refine T.callB (t_Law_count hF hIg) (fun v2 h1 => ?_)
  refine T.rxU hx.1 (fun v3 => ?_)
  refine T.callB (t_Model_count hF h1.2) (fun v4 h2 => ?_)
  exact T.some' (show ∃ g9, (Sum.inl v4.2 : Mem ⊕ Unit) = .inl g9 ∧ Inv z g9 from ⟨_, rfl, h2.2⟩)
theorem t_case_4 {z : Zt} {F : Nat} {L : Nat} {xs : Nat → Int32} {i : Int32} {g : Mem} (hF : 4294967296 < F) (hx : HX L i) (hIg : Inv z g) : T (sp_case_4 F L xs i g) (fun r => ∃ g9, r = .inl g9 ∧ Inv z g9) := by
  unfold sp_case_4
  refine T.rxU hx.1 (fun v1 => ?_)
  refine T.rxU hx.2.1 (fun v2 => ?_)
  refine T.callB (t_Law_monk hF hIg) (fun v3 h1 => ?_)
  refine T.rxU hx.1 (fun v4 => ?_)
  refine T.rxU hx.2.1 (fun v5 => ?_)
  refine T.callB (t_Model_monk hF h1.2) (fun v6 h2 => ?_)
  exact T.some' (show ∃ g9, (Sum.inl v6.2 : Mem ⊕ Unit) = .inl g9 ∧ Inv z g9 from ⟨_, rfl, h2.2⟩)
theorem t_case_5 {z : Zt} {F : Nat} {L : Nat} {xs : Nat → Int32} {i : Int32} {g : Mem} (hF : 4294967296 < F) (hx : HX L i) (hIg : Inv z g) : T (sp_case_5 F L xs i g) (fun r => ∃ g9, r = .inl g9 ∧ Inv z g9) := by
  unfold sp_case_5
  refine T.rxU hx.1 (fun v1 => ?_)
  refine T.rxU hx.2.1 (fun v2 => ?_)
  refine T.callB (t_Law_entry hIg) (fun v3 h1 => ?_)
  refine T.rxU hx.1 (fun v4 => ?_)
  refine T.rxU hx.2.1 (fun v5 => ?_)
  refine T.callB (t_Model_entry h1.2) (fun v6 h2 => ?_)
  exact T.some' (show ∃ g9, (Sum.inl v6.2 : Mem ⊕ Unit) = .inl g9 ∧ Inv z g9 from ⟨_, rfl, h2.2⟩)
theorem t_case_6 {z : Zt} {F : Nat} {L : Nat} {xs : Nat → Int32} {i : Int32} {g : Mem} (hF : 4294967296 < F) (hx : HX L i) (hIg : Inv z g) : T (sp_case_6 F L xs i g) (fun r => ∃ g9, r = .inl g9 ∧ Inv z g9) := by
  unfold sp_case_6
  refine T.rxU hx.1 (fun v1 => ?_)
  refine T.callB (t_Law_holders hF hIg) (fun v2 h1 => ?_)
  refine T.rxU hx.1 (fun v3 => ?_)
  refine T.callB (t_Model_holders hF h1.2) (fun v4 h2 => ?_)
  exact T.some' (show ∃ g9, (Sum.inl v4.2 : Mem ⊕ Unit) = .inl g9 ∧ Inv z g9 from ⟨_, rfl, h2.2⟩)
theorem t_case_7 {z : Zt} {F : Nat} {L : Nat} {xs : Nat → Int32} {i : Int32} {g : Mem} (hF : 4294967296 < F) (hx : HX L i) (hIg : Inv z g) : T (sp_case_7 F L xs i g) (fun r => ∃ g9, r = .inl g9 ∧ Inv z g9) := by
  unfold sp_case_7
  refine T.rxU hx.1 (fun v1 => ?_)
  refine T.rxU hx.2.1 (fun v2 => ?_)
  refine T.callB (t_Law_may hF hIg) (fun v3 h1 => ?_)
  refine T.rxU hx.1 (fun v4 => ?_)
  refine T.rxU hx.2.1 (fun v5 => ?_)
  refine T.callB (t_Model_may hF h1.2) (fun v6 h2 => ?_)
  exact T.some' (show ∃ g9, (Sum.inl v6.2 : Mem ⊕ Unit) = .inl g9 ∧ Inv z g9 from ⟨_, rfl, h2.2⟩)
theorem t_case_8 {z : Zt} {F : Nat} {L : Nat} {xs : Nat → Int32} {i : Int32} {g : Mem} (hF : 4294967296 < F) (hx : HX L i) (hIg : Inv z g) : T (sp_case_8 F L xs i g) (fun r => ∃ g9, r = .inl g9 ∧ Inv z g9) := by
  unfold sp_case_8
  refine T.rxU hx.1 (fun v1 => ?_)
  refine T.callB (t_Hall_years hF hIg) (fun v2 h1 => ?_)
  refine T.rxU hx.1 (fun v3 => ?_)
  refine T.callB (t_Model_years hF h1.2) (fun v4 h2 => ?_)
  exact T.some' (show ∃ g9, (Sum.inl v4.2 : Mem ⊕ Unit) = .inl g9 ∧ Inv z g9 from ⟨_, rfl, h2.2⟩)
theorem t_case_9 {z : Zt} {F : Nat} {L : Nat} {xs : Nat → Int32} {i : Int32} {g : Mem} (hF : 4294967296 < F) (hx : HX L i) (hIg : Inv z g) : T (sp_case_9 F L xs i g) (fun r => ∃ g9, r = .inl g9 ∧ Inv z g9) := by
  unfold sp_case_9
  refine T.rxU hx.1 (fun v1 => ?_)
  refine T.rxU hx.2.1 (fun v2 => ?_)
  refine T.rxU hx.2.2.1 (fun v3 => ?_)
  refine T.rxU hx.2.2.2.1 (fun v4 => ?_)
  refine T.callB (t_Law_braid hIg) (fun v5 h1 => ?_)
  refine T.rxU hx.1 (fun v6 => ?_)
  refine T.rxU hx.2.1 (fun v7 => ?_)
  refine T.rxU hx.2.2.1 (fun v8 => ?_)
  refine T.rxU hx.2.2.2.1 (fun v9 => ?_)
  refine T.callB (t_Model_braid hF h1.2) (fun v10 h2 => ?_)
  exact T.some' (show ∃ g9, (Sum.inl v10.2 : Mem ⊕ Unit) = .inl g9 ∧ Inv z g9 from ⟨_, rfl, h2.2⟩)
theorem t_case_10 {z : Zt} {F : Nat} {L : Nat} {xs : Nat → Int32} {i : Int32} {g : Mem} (hF : 4294967296 < F) (hx : HX L i) (hIg : Inv z g) : T (sp_case_10 F L xs i g) (fun r => ∃ g9, r = .inl g9 ∧ Inv z g9) := by
  unfold sp_case_10
  refine T.rxU hx.1 (fun v1 => ?_)
  refine T.rxU hx.2.1 (fun v2 => ?_)
  refine T.callB (t_Law_copy hF hIg) (fun v3 h1 => ?_)
  refine T.rxU hx.1 (fun v4 => ?_)
  refine T.rxU hx.2.1 (fun v5 => ?_)
  refine T.callB (t_Model_copy hF h1.2) (fun v6 h2 => ?_)
  exact T.some' (show ∃ g9, (Sum.inl v6.2 : Mem ⊕ Unit) = .inl g9 ∧ Inv z g9 from ⟨_, rfl, h2.2⟩)
theorem t_case_11 {z : Zt} {F : Nat} {L : Nat} {xs : Nat → Int32} {i : Int32} {g : Mem} (hF : 4294967296 < F) (hx : HX L i) (hIg : Inv z g) : T (sp_case_11 F L xs i g) (fun r => ∃ g9, r = .inl g9 ∧ Inv z g9) := by
  unfold sp_case_11
  refine T.rxU hx.1 (fun v1 => ?_)
  refine T.callB (t_Law_knot hIg) (fun v2 h1 => ?_)
  refine T.rxU hx.1 (fun v3 => ?_)
  refine T.callB (t_Model_knot hF h1.2) (fun v4 h2 => ?_)
  exact T.some' (show ∃ g9, (Sum.inl v4.2 : Mem ⊕ Unit) = .inl g9 ∧ Inv z g9 from ⟨_, rfl, h2.2⟩)
theorem t_case_12 {z : Zt} {F : Nat} {L : Nat} {xs : Nat → Int32} {i : Int32} {g : Mem} (hF : 4294967296 < F) (hx : HX L i) (hIg : Inv z g) : T (sp_case_12 F L xs i g) (fun r => ∃ g9, r = .inl g9 ∧ Inv z g9) := by
  unfold sp_case_12
  refine T.rxU hx.1 (fun v1 => ?_)
  refine T.callB (t_Law_comb hIg) (fun v2 h1 => ?_)
  refine T.rxU hx.1 (fun v3 => ?_)
  refine T.callB (t_Model_comb hF h1.2) (fun v4 h2 => ?_)
  exact T.some' (show ∃ g9, (Sum.inl v4.2 : Mem ⊕ Unit) = .inl g9 ∧ Inv z g9 from ⟨_, rfl, h2.2⟩)
theorem t_case_13 {z : Zt} {F : Nat} {L : Nat} {xs : Nat → Int32} {i : Int32} {g : Mem} (hF : 4294967296 < F) (hx : HX L i) (hIg : Inv z g) : T (sp_case_13 F L xs i g) (fun r => ∃ g9, r = .inl g9 ∧ Inv z g9) := by
  unfold sp_case_13
  refine T.rxU hx.1 (fun v1 => ?_)
  refine T.rxU hx.2.1 (fun v2 => ?_)
  refine T.callB (t_Law_shave hF hIg) (fun v3 h1 => ?_)
  refine T.rxU hx.1 (fun v4 => ?_)
  refine T.rxU hx.2.1 (fun v5 => ?_)
  refine T.callB (t_Model_shave hF h1.2) (fun v6 h2 => ?_)
  exact T.some' (show ∃ g9, (Sum.inl v6.2 : Mem ⊕ Unit) = .inl g9 ∧ Inv z g9 from ⟨_, rfl, h2.2⟩)
theorem t_case_14 {z : Zt} {F : Nat} {L : Nat} {xs : Nat → Int32} {i : Int32} {g : Mem} (hF : 4294967296 < F) (hx : HX L i) (hIg : Inv z g) : T (sp_case_14 F L xs i g) (fun r => ∃ g9, r = .inl g9 ∧ Inv z g9) := by
  unfold sp_case_14
  refine T.rxU hx.1 (fun v1 => ?_)
  refine T.rxU hx.2.1 (fun v2 => ?_)
  refine T.rxU hx.2.2.1 (fun v3 => ?_)
  refine T.callB (t_Law_moths hF hIg) (fun v4 h1 => ?_)
  refine T.rxU hx.1 (fun v5 => ?_)
  refine T.rxU hx.2.1 (fun v6 => ?_)
  refine T.rxU hx.2.2.1 (fun v7 => ?_)
  refine T.callB (t_Model_moths hF h1.2) (fun v8 h2 => ?_)
  exact T.some' (show ∃ g9, (Sum.inl v8.2 : Mem ⊕ Unit) = .inl g9 ∧ Inv z g9 from ⟨_, rfl, h2.2⟩)
