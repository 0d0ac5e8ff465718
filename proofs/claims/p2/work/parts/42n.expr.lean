/-! the reference's EXPR: what is laid never fails, and never is more than what was read -/
def FX (g r : Mem) : Prop := (∀ q, q ≠ 54 → q ≠ 58 → q ≠ 63 → r q = g q) ∧ (∀ j, (j < 13 ∨ 20 < j) → r 54 j = g 54 j) ∧ (∀ j, j ≠ 11 → r 58 j = g 58 j) ∧ (∀ j, j < 700 → r 63 j = g 63 j)
theorem FX.rf {g : Mem} : FX g g := ⟨fun _ _ _ _ => rfl, fun _ _ => rfl, fun _ _ => rfl, fun _ _ => rfl⟩
theorem FX.tr {g m r : Mem} (h : FX g m) (h' : FX m r) : FX g r := ⟨fun q h1 h2 h3 => (h'.1 q h1 h2 h3).trans (h.1 q h1 h2 h3), fun j hj => (h'.2.1 j hj).trans (h.2.1 j hj), fun j hj => (h'.2.2.1 j hj).trans (h.2.2.1 j hj), fun j hj => (h'.2.2.2 j hj).trans (h.2.2.2 j hj)⟩
theorem FM.x {g r : Mem} (h : FM g r) : FX g r := ⟨fun q h1 _ _ => h.1 q h1, h.2, fun j _ => by rw [h.1 58 (by decide)], fun j _ => by rw [h.1 63 (by decide)]⟩
def Ly (g : Mem) (n k : Nat) : Prop := g 58 11 = nI n ∧ n ≤ 700 ∧ hgt (fun i => g 63 (700 + i)) n = some k
theorem Ly.fm {g r : Mem} {n k : Nat} (h : Ly g n k) (hf : FM g r) : Ly r n k := by
  unfold Ly
  rw [hf.1 58 (by decide), hf.1 63 (by decide)]
  exact h
theorem hgt_cong {f f' : Nat → Int32} : ∀ {n : Nat}, (∀ i, i < n → f' i = f i) → hgt f' n = hgt f n := by
  intro n
  induction n with
  | zero => intro _; rfl
  | succ n ih =>
    intro h
    show (hgt f' n).bind (stp (f' n)) = (hgt f n).bind (stp (f n))
    rw [ih (fun i hi => h i (by omega)), h n (by omega)]
theorem m58 {g : Mem} {k j : Nat} {x : Int32} : mset g 58 k x 58 j = if j = k then x else g 58 j := by
  rw [mset_get]
  by_cases h : j = k
  · rw [if_pos ⟨rfl, h⟩, if_pos h]
  · rw [if_neg (fun e => h e.2), if_neg h]
theorem m63 {g : Mem} {k j : Nat} {x : Int32} : mset g 63 k x 63 j = if j = k then x else g 63 j := by
  rw [mset_get]
  by_cases h : j = k
  · rw [if_pos ⟨rfl, h⟩, if_pos h]
  · rw [if_neg (fun e => h e.2), if_neg h]
theorem Inv.re58 {z : Zt} {g r : Mem} (h : Inv z g) (hq : ∀ q, q ≠ 58 → q ≠ 63 → r q = g q) (ht : TO (r 58)) (hr : RUq (r 58) (r 63)) : Inv z r := by
  obtain ⟨⟨a1, a3⟩, a2, ac, ⟨b1, b2, b3⟩, ⟨c1, c2⟩, d1, ⟨e1, e2, e3, e4⟩, -, -⟩ := h
  have hc : ∀ c ∈ cons, c.1 ≠ 58 ∧ c.1 ≠ 63 := by decide
  refine ⟨⟨by rw [hq 0 (by decide) (by decide)]; exact a1, by rw [hq 3 (by decide) (by decide)]; exact a3⟩, by rw [hq 54 (by decide) (by decide)]; exact a2, fun c hm => by rw [hq _ (hc c hm).1 (hc c hm).2]; exact ac c hm, ⟨by rw [hq 7 (by decide) (by decide)]; exact b1, by rw [hq 18 (by decide) (by decide)]; exact b2, by rw [hq 32 (by decide) (by decide)]; exact b3⟩, ⟨by rw [hq 27 (by decide) (by decide)]; exact c1, by rw [hq 34 (by decide) (by decide)]; exact c2⟩, by rw [hq 62 (by decide) (by decide)]; exact d1, ⟨by rw [hq 67 (by decide) (by decide)]; exact e1, by rw [hq 70 (by decide) (by decide)]; exact e2, by rw [hq 73 (by decide) (by decide)]; exact e3, by rw [hq 74 (by decide) (by decide)]; exact e4⟩, ht, hr⟩
theorem RUq.cong {t t' s s' : Nat → Int32} (h : RUq t s) (h5 : B 0 700 (t 5)) (ht : t' 5 = t 5) (hs : ∀ j, j < 700 → s' j = s j) : RUq t' s' := by
  obtain ⟨H, hH⟩ := h
  refine ⟨H, ?_⟩
  rw [ht, hgt_cong (f := s) (fun i hi => hs i ?_)]
  · exact hH
  · have := h5.nat (by decide)
    have := h5.2
    omega
theorem t_layM {z : Zt} {g : Mem} {p0 : Int32} {n k k' : Nat} (h : MIq z g) (hL : g 54 19 = 0 → Ly g n k ∧ n < 700 ∧ stp p0 k = some k') : T (sp_Model_lay p0 g) (fun r => MIq z r ∧ FX g r ∧ r 54 = g 54 ∧ (g 54 19 = 0 → Ly r (n + 1) k')) := by
  unfold sp_Model_lay
  refine T.cond (fun c => ?_) (fun c => T.some' ⟨h, FX.rf, rfl, fun e => absurd e c⟩)
  obtain ⟨⟨e11, hn, hh⟩, hn7, hs⟩ := hL c
  have l11 : ∀ (m : Mem), m 58 = g 58 → rd m 58 12 11 = some (nI n) := fun m hm => by
    unfold rd
    rw [if_pos (by decide), show (11 : Int32).toNatClampNeg = 11 from rfl, hm, e11]
  refine T.eqB (l11 g rfl) ?_
  rw [show (700 : Int32) + nI n = nI (700 + n) from nI_add 700 n]
  refine T.wrB (inb_nI (by omega) (by decide)) ?_
  rw [nI_clamp (show 700 + n < 2 ^ 31 by omega)]
  refine T.eqB (l11 _ (mset_rowF g _ _ (by decide))) ?_
  rw [nI_1]
  refine T.wrB (by decide) (T.some' ?_)
  rw [show (11 : Int32).toNatClampNeg = 11 from rfl]
  have r54 : mset (mset g 63 (700 + n) p0) 58 11 (nI (n + 1)) 54 = g 54 := by rw [mset_rowF _ _ _ (by decide), mset_rowF _ _ _ (by decide)]
  have r58 : ∀ j, j ≠ 11 → mset (mset g 63 (700 + n) p0) 58 11 (nI (n + 1)) 58 j = g 58 j := fun j hj => by rw [m58, if_neg hj, mset_rowF _ _ _ (by decide)]
  have r58b : mset (mset g 63 (700 + n) p0) 58 11 (nI (n + 1)) 58 11 = nI (n + 1) := by rw [m58, if_pos rfl]
  have r63 : ∀ j, mset (mset g 63 (700 + n) p0) 58 11 (nI (n + 1)) 63 j = if j = 700 + n then p0 else g 63 j := fun j => by rw [mset_rowF _ _ _ (by decide), m63]
  refine ⟨⟨?_, by rw [r54]; exact h.2⟩, ⟨fun q _ h2 h3 => by rw [mset_rowF _ _ _ h2, mset_rowF _ _ _ h3], fun j _ => by rw [r54], r58, fun j hj => by rw [r63, if_neg (by omega)]⟩, r54, fun _ => ⟨r58b, by omega, ?_⟩⟩
  · refine h.1.re58 (fun q h1 h2 => by rw [mset_rowF _ _ _ h1, mset_rowF _ _ _ h2]) ?_ ?_
    · obtain ⟨o1, o2, o3, o4, o5, o6, o7⟩ := h.1.to
      refine ⟨by rw [r58 0 (by decide)]; exact o1, by rw [r58 3 (by decide)]; exact o2, by rw [r58 4 (by decide)]; exact o3, by rw [r58 5 (by decide)]; exact o4, by rw [r58 6 (by decide)]; exact o5, by rw [r58 10 (by decide)]; exact o6, ?_⟩
      rw [r58b]
      exact ⟨by rw [nI_toInt (by omega)]; omega, by rw [nI_toInt (by omega)]; omega⟩
    · exact h.1.2.2.2.2.2.2.2.2.cong h.1.told5 (r58 5 (by decide)) (fun j hj => by rw [r63, if_neg (by omega)])
  · show (hgt _ n).bind (stp _) = some k'
    rw [hgt_cong (f := fun i => g 63 (700 + i)) (fun i hi => by rw [r63, if_neg (by omega)]), hh]
    show stp (mset (mset g 63 (700 + n) p0) 58 11 (nI (n + 1)) 63 (700 + n)) k = some k'
    rw [r63, if_pos rfl]
    exact hs
/-- ahead of a reader: n signs lie there, k things wait -/
def PR (z : Zt) (g : Mem) (n k : Nat) : Prop := MIq z g ∧ (g 54 19 = 0 → Ly g n k ∧ (n : Int) ≤ (g 54 17).toInt)
/-- behind it: one thing more waits, and no more signs were laid than bytes were read -/
def RC (z : Zt) (g : Mem) (n k : Nat) (r : Mem) : Prop := MIq z r ∧ FX g r ∧ (r 54 19 = 0 → g 54 19 = 0 ∧ (g 54 17).toInt < (r 54 17).toInt ∧ ∃ n' : Nat, Ly r n' (k + 1) ∧ (n' : Int) - n ≤ (r 54 17).toInt - (g 54 17).toInt)
section Ex
variable {z : Zt} {F n k : Nat} {g r : Mem}
theorem RC.ex (hP : PR z g n k) (hC : RC z g n k r) : ∃ n' : Nat, PR z r n' (k + 1) ∧ (r 54 19 = 0 → g 54 19 = 0 ∧ (g 54 17).toInt < (r 54 17).toInt ∧ (n' : Int) - n ≤ (r 54 17).toInt - (g 54 17).toInt) := by
  obtain ⟨h1, h2, h3⟩ := hC
  by_cases c : r 54 19 = 0
  · obtain ⟨a1, a2, n', a3, a4⟩ := h3 c
    have := (hP.2 a1).2
    exact ⟨n', ⟨h1, fun _ => ⟨a3, by omega⟩⟩, fun _ => ⟨a1, a2, a4⟩⟩
  · exact ⟨0, ⟨h1, fun e => absurd e c⟩, fun e => absurd e c⟩
theorem PR.fm (hP : PR z g n k) (hM : MIq z r) (hf : FM g r) (hb : r 54 19 = 0 → g 54 19 = 0 ∧ (g 54 17).toInt ≤ (r 54 17).toInt) : PR z r n k := ⟨hM, fun c => ⟨((hP.2 (hb c).1).1).fm hf, by have := (hP.2 (hb c).1).2; have := (hb c).2; omega⟩⟩
theorem RC.dead {m : Mem} (hM : MIq z m) (hf : FX g m) (hb : ¬ m 54 19 = 0) : RC z g n k m := ⟨hM, hf, fun e => absurd e hb⟩
def isBin (x : Int32) : Prop := ¬ (-20 : Int32) < x ∧ ¬ x = -28
theorem isBin_stp {x : Int32} (h : isBin x) (k : Nat) : stp x (k + 2) = some (k + 1) := by
  unfold stp
  rw [if_neg h.1, if_neg h.2, if_pos (by omega)]
  rfl
def mu17 (s : Mem) : Nat := if s 54 19 = 0 then (701 - (s 54 17).toInt).toNat else 0
/-- one more: a sign is read, what stands behind it, and the sign is laid -/
theorem t_go {sub : Mem → Option Mem} {K : Int} {sg : Int32} {s : Mem} {β : Type} {Q : β → Prop} {f : Mem → Option β} (hF : 4294967296 < F) (hsub : ∀ m n' k', PR z m n' k' → (m 54 19 = 0 → (k' : Int) ≤ K) → T (sub m) (RC z m n' k')) (hP : PR z g n k) (hC : RC z g n k s) (hK : s 54 19 = 0 → (k : Int) + 1 ≤ K) (c : s 54 19 = 0) (ct : ¬ s 54 15 = 0) (hsg : isBin sg) (kk : ∀ v, RC z g n k v → mu17 v < mu17 s → T (f v) Q) : T ((sp_Model_stepOn F s).bind fun v8 => (sub v8).bind fun v9 => (sp_Model_lay sg v9).bind f) Q := by
  obtain ⟨n1, p1, q1⟩ := hC.ex hP
  obtain ⟨a1, a2, a3⟩ := q1 c
  have ns := (p1.2 c).2
  refine T.callB (hC.1.on hF) (fun v8 h8 => ?_)
  obtain ⟨m8, f8, -, l8, b8⟩ := h8
  have l8' := l8 ct
  have c8 : v8 54 19 = 0 := b8.trans c
  have p8 : PR z v8 n1 (k + 1) := p1.fm m8 f8 (fun _ => ⟨c, by omega⟩)
  refine T.callB (hsub v8 n1 (k + 1) p8 (fun _ => by have := hK c; omega)) (fun v9 h9 => ?_)
  obtain ⟨n2, p9, q9⟩ := h9.ex p8
  have h17 : (v9 54 17).toInt ≤ 700 := by
    obtain ⟨k1, k2, k3, k4, k5⟩ := h9.1.2
    have := k2.2
    omega
  refine T.callB (t_layM (n := n2) (k := k + 2) (k' := k + 1) h9.1 (fun e => ?_)) (fun v10 h10 => ?_)
  · obtain ⟨w1, w2, w3⟩ := q9 e
    exact ⟨(p9.2 e).1, by omega, isBin_stp hsg k⟩
  · obtain ⟨m10, x10, e10, y10⟩ := h10
    have hs17 : (s 54 17).toInt ≤ 700 := by
      obtain ⟨k1, k2, k3, k4, k5⟩ := hC.1.2
      have := k2.2
      omega
    refine kk v10 ⟨m10, hC.2.1.tr (f8.x.tr (h9.2.1.tr x10)), fun e => ?_⟩ ?_
    · have e9 : v9 54 19 = 0 := by rw [e10] at e; exact e
      obtain ⟨w1, w2, w3⟩ := q9 e9
      refine ⟨a1, by rw [e10]; omega, n2 + 1, y10 e9, by rw [e10]; omega⟩
    · unfold mu17
      rw [if_pos c, e10]
      by_cases e9 : v9 54 19 = 0
      · obtain ⟨w1, w2, w3⟩ := q9 e9
        rw [if_pos e9]
        omega
      · rw [if_neg e9]
        omega
/-- a row of such -/
theorem t_bin {sub : Mem → Option Mem} {K : Int} {step : Mem → Option (Mem ⊕ Mem)} (hF : 4294967296 < F) (hsub : ∀ m n' k', PR z m n' k' → (m 54 19 = 0 → (k' : Int) ≤ K) → T (sub m) (RC z m n' k')) (hstep : ∀ s, MIq z s → step s = some (.inr s) ∨ (s 54 19 = 0 ∧ ¬ s 54 15 = 0 ∧ ∃ sg : Int32, isBin sg ∧ step s = (sp_Model_stepOn F s).bind fun v8 => (sub v8).bind fun v9 => (sp_Model_lay sg v9).bind fun v10 => some (.inl v10))) (hP : PR z g n k) (hK : g 54 19 = 0 → (k : Int) + 1 ≤ K) {v : Mem} (hC : RC z g n k v) : T (lpO step F v) (RC z g n k) := by
  refine T.lpm (J := RC z g n k) mu17 (fun s hs => ?_) F v hC ?_
  · rcases hstep s hs.1 with e | ⟨c, ct, sg, hsg, e⟩
    · rw [e]
      exact T.some' hs
    · rw [e]
      exact t_go hF hsub hP hs (fun c => hK (hs.2.2 c).1) c ct hsg (fun v hv hm => T.some' ⟨hv, hm⟩)
  · unfold mu17
    split
    · obtain ⟨k1, k2, k3, k4, k5⟩ := hC.1.2
      have := k4.1
      omega
    · omega
/-- the contract of the reader of an EXPR one deeper -/
def HE (z : Zt) (d : Int) (E : Int32 → Mem → Option Mem) : Prop := ∀ (q : Int32) (m : Mem) (n k : Nat), B (d + 1) 6 q → PR z m n k → (m 54 19 = 0 → (k : Int) ≤ 5 * q.toInt) → T (E q m) (RC z m n k)
theorem t_readPart {d : Int} {E : Int32 → Mem → Option Mem} {nE : Nat} {p0 : Int32} (hF : 4294967296 < F) (hd : -5 ≤ d) (hE : HE z d E) (hp : B d 6 p0) (hb : g 54 19 = 0 → p0.toInt ≤ 5) (hP : PR z g n k) (hk : g 54 19 = 0 → (k : Int) ≤ 5 * p0.toInt + 5) : T (sp_Model_readPart F E nE p0 g) (RC z g n k) := by
  have h17 : ∀ (m : Mem), MIq z m → (m 54 17).toInt ≤ 700 := fun m hm => by
    obtain ⟨k1, k2, k3, k4, k5⟩ := hm.2
    have := k2.2
    omega
  unfold sp_Model_readPart
  refine T.cond (fun c => ?_) (fun c => T.some' (RC.dead hP.1 FX.rf c))
  have hp5 := hb c
  have hk' := hk c
  obtain ⟨hL, hn⟩ := hP.2 c
  refine T.cond (fun c2 => ?_) (fun c2 => ?_)
  · refine T.callB (t_readNumber (hi := 9999) hF (by decide) (by decide) (by decide) hP.1) (fun v3 h3 => ?_)
    obtain ⟨b3, m3, f3, q3⟩ := h3
    have := h17 _ m3
    refine T.callB (t_layM (n := n) (k := k) (k' := k + 1) m3 (fun e => ?_)) (fun v4 h4 => T.some' ?_)
    · obtain ⟨w1, w2, w3⟩ := q3 e
      refine ⟨hL.fm f3, by omega, ?_⟩
      unfold stp
      rw [if_pos (ilt.mpr (by have := b3.1; have e0 : (-20 : Int32).toInt = -20 := (by decide); omega)), if_pos ⟨by omega, ile.mpr (by have := b3.1; have e0 : (-7 : Int32).toInt = -7 := (by decide); omega)⟩]
    · obtain ⟨m4, x4, e4, y4⟩ := h4
      refine ⟨m4, f3.x.tr x4, fun e => ?_⟩
      rw [e4] at e ⊢
      obtain ⟨w1, w2, w3⟩ := q3 e
      exact ⟨c, w2, n + 1, y4 e, by omega⟩
  · refine T.cond (fun c3 => ?_) (fun c3 => ?_)
    · have j56 : ∀ (m : Mem) (x2 : Int32), MIq z m → FM g m → (m 54 19 = 0 → m = g ∧ B 0 6 x2) → T (sp_Model_readPart_j56 F E nE p0 g m x2) (RC z g n k) := fun m x2 hm hf hx => by
        unfold sp_Model_readPart_j56
        refine T.callB (t_layM (n := n) (k := k) (k' := k + 1) hm (fun e => ?_)) (fun v9 h9 => ?_)
        · obtain ⟨e1, e2⟩ := hx e
          have bi : B (-7) (-1) ((-1) - x2) := B.sub (show B (-1) (-1) (-1 : Int32) from ⟨by decide, by decide⟩) e2 (by decide)
          refine ⟨hL.fm hf, ?_, ?_⟩
          · have hl := hP.1.2.2.2.2.2 (fun q => by rw [q] at c3; exact absurd c3 (by decide))
            have := hP.1.2.2.1.2
            omega
          · unfold stp
            rw [if_pos (ilt.mpr (by have := bi.1; have e0 : (-20 : Int32).toInt = -20 := (by decide); omega)), if_pos ⟨by omega, ile.mpr (by have := bi.1; have e0 : (-7 : Int32).toInt = -7 := (by decide); omega)⟩]
        · obtain ⟨m9, x9, e9, y9⟩ := h9
          refine T.cond (fun c4 => ?_) (fun c4 => T.some' (RC.dead m9 (hf.x.tr x9) c4))
          have c5 : m 54 19 = 0 := by rw [e9] at c4; exact c4
          have em := (hx c5).1
          refine T.callB (m9.on hF) (fun v11 h11 => T.some' ?_)
          obtain ⟨m11, f11, g11, l11, b11⟩ := h11
          have l12 : (g 54 17).toInt < (v11 54 17).toInt := by
            have := l11 (by rw [e9, em]; exact fun q => by rw [q] at c3; exact absurd c3 (by decide))
            rw [e9, em] at this
            exact this
          exact ⟨m11, hf.x.tr (x9.tr f11.x), fun _ => ⟨c, l12, n + 1, (y9 c5).fm f11, by omega⟩⟩
      refine T.callB (t_which (q0n := 7) hF (by decide) hP.1) (fun v6 h6 => ?_)
      refine T.cond (fun c4 => ?_) (fun c4 => j56 g v6 hP.1 FM.rf (fun _ => ⟨rfl, B.nelo c4 h6.1 (show B (-1) (-1) (-1 : Int32) from ⟨by decide, by decide⟩) (by decide)⟩))
      exact T.callB (t_wrong (by decide) hP.1) (fun v8 h8 => j56 v8 v6 h8.1 h8.2.1 (fun e => absurd e h8.2.2))
    · refine T.callB (t_mark hF hP.1) (fun v13 h13 => ?_)
      obtain ⟨m13, f13, q13⟩ := h13
      have p13 : PR z v13 n k := hP.fm m13 f13 (fun e => ⟨c, by have := (q13 e).2; omega⟩)
      have b1 : B (d + 1) 6 (p0 + 1) := B.add (show B d 5 p0 from ⟨hp.1, hp5⟩) (show B 1 1 (1 : Int32) from ⟨by decide, by decide⟩) ⟨by omega, by omega, by omega, by omega⟩
      have e1 : (p0 + 1).toInt = p0.toInt + 1 := by
        have := B.add_eq (show B d 5 p0 from ⟨hp.1, hp5⟩) (show B 1 1 (1 : Int32) from ⟨by decide, by decide⟩) ⟨by omega, by omega⟩
        rw [this]
        rfl
      refine T.callB (hE _ _ n k b1 p13 (fun _ => by rw [e1]; omega)) (fun v14 h14 => ?_)
      refine T.callB (t_mark hF h14.1) (fun v15 h15 => T.some' ?_)
      obtain ⟨m15, f15, q15⟩ := h15
      refine ⟨m15, f13.x.tr (h14.2.1.tr f15.x), fun e => ?_⟩
      obtain ⟨w1, w2⟩ := q15 e
      obtain ⟨w3, w4, n', w5, w6⟩ := h14.2.2 w1
      have w7 := (q13 w3).2
      exact ⟨c, by omega, n', w5.fm f15, by omega⟩
theorem t_readProduct {d : Int} {E : Int32 → Mem → Option Mem} {nE : Nat} {p0 : Int32} (hF : 4294967296 < F) (hd : -5 ≤ d) (hE : HE z d E) (hp : B d 6 p0) (hb : g 54 19 = 0 → p0.toInt ≤ 5) (hP : PR z g n k) (hk : g 54 19 = 0 → (k : Int) ≤ 5 * p0.toInt + 4) : T (sp_Model_readProduct F E nE p0 g) (RC z g n k) := by
  unfold sp_Model_readProduct
  by_cases c : g 54 19 = 0
  · have hp5 := hb c
    have hsub : ∀ m n' k', PR z m n' k' → (m 54 19 = 0 → (k' : Int) ≤ 5 * p0.toInt + 5) → T (sp_Model_readPart F E nE p0 m) (RC z m n' k') := fun m n' k' h1 h2 => t_readPart hF hd hE hp (fun _ => hp5) h1 h2
    refine T.callB (hsub g n k hP (fun c => by have := hk c; omega)) (fun v1 h1 => ?_)
    refine T.callB (t_bin hF hsub (fun s hs => ?_) hP (fun c => by have := hk c; omega) h1) (fun x hx => T.some' hx)
    obtain ⟨r1, e1, q1⟩ := t_isMarked (p0 := 42) hs
    unfold st_Model_readProduct_5
    rw [e1, Option.bind_some]
    have j23 : ∀ (c1 : s 54 19 = 0 ∧ s 54 15 = 3), s 54 19 = 0 ∧ ¬ s 54 15 = 0 ∧ ∃ sg : Int32, isBin sg ∧ sp_Model_readProduct_j23_5 F E nE p0 p0 g s = (sp_Model_stepOn F s).bind fun v8 => (sp_Model_readPart F E nE p0 v8).bind fun v9 => (sp_Model_lay sg v9).bind fun v10 => some (.inl v10) := fun c1 => by
      refine ⟨c1.1, fun e => by have h9 := c1.2; rw [e] at h9; exact absurd h9 (by decide), ?_⟩
      unfold sp_Model_readProduct_j23_5
      rw [e1, Option.bind_some]
      by_cases c2 : r1 = 0
      · rw [if_pos c2]
        exact ⟨-23, ⟨by decide, by decide⟩, rfl⟩
      · rw [if_neg c2]
        exact ⟨-22, ⟨by decide, by decide⟩, rfl⟩
    by_cases c1 : r1 = 0
    · rw [if_pos c1]
      obtain ⟨r2, e2, q2⟩ := t_isMarked (p0 := 47) hs
      rw [e2, Option.bind_some]
      by_cases c2 : r2 = 0
      · rw [if_pos c2]
        exact Or.inl rfl
      · rw [if_neg c2]
        exact Or.inr (j23 (q2.2 c2))
    · rw [if_neg c1]
      exact Or.inr (j23 (q1.2 c1))
  · have hsub : T (sp_Model_readPart F E nE p0 g) (RC z g n k) := t_readPart hF hd hE hp hb hP (fun e => absurd e c)
    refine T.callB hsub (fun v1 h1 => ?_)
    have b1 : ¬ v1 54 19 = 0 := fun e => c (h1.2.2 e).1
    refine T.callB (P := RC z g n k) (T.lpm (J := fun s => s = v1) (fun _ => 0) (fun s hs => ?_) F v1 rfl (by omega)) (fun x hx => T.some' hx)
    subst hs
    unfold st_Model_readProduct_5
    refine T.callB (t_isMarked h1.1) (fun r1 q1 => T.pos (Classical.byContradiction (fun q => b1 (q1.2 q).1)) ?_)
    exact T.callB (t_isMarked h1.1) (fun r2 q2 => T.pos (Classical.byContradiction (fun q => b1 (q2.2 q).1)) (T.some' h1))
theorem t_readSum {d : Int} {E : Int32 → Mem → Option Mem} {nE : Nat} {p0 : Int32} (hF : 4294967296 < F) (hd : -5 ≤ d) (hE : HE z d E) (hp : B d 6 p0) (hb : g 54 19 = 0 → p0.toInt ≤ 5) (hP : PR z g n k) (hk : g 54 19 = 0 → (k : Int) ≤ 5 * p0.toInt + 3) : T (sp_Model_readSum F E nE p0 g) (RC z g n k) := by
  unfold sp_Model_readSum
  by_cases c : g 54 19 = 0
  · have hp5 := hb c
    have hsub : ∀ m n' k', PR z m n' k' → (m 54 19 = 0 → (k' : Int) ≤ 5 * p0.toInt + 4) → T (sp_Model_readProduct F E nE p0 m) (RC z m n' k') := fun m n' k' h1 h2 => t_readProduct hF hd hE hp (fun _ => hp5) h1 h2
    refine T.callB (hsub g n k hP (fun c => by have := hk c; omega)) (fun v1 h1 => ?_)
    refine T.callB (t_bin hF hsub (fun s hs => ?_) hP (fun c => by have := hk c; omega) h1) (fun x hx => T.some' hx)
    obtain ⟨r1, e1, q1⟩ := t_isMarked (p0 := 43) hs
    unfold st_Model_readSum_5
    rw [e1, Option.bind_some]
    have j23 : ∀ (c1 : s 54 19 = 0 ∧ s 54 15 = 3), s 54 19 = 0 ∧ ¬ s 54 15 = 0 ∧ ∃ sg : Int32, isBin sg ∧ sp_Model_readSum_j23_5 F E nE p0 p0 g s = (sp_Model_stepOn F s).bind fun v8 => (sp_Model_readProduct F E nE p0 v8).bind fun v9 => (sp_Model_lay sg v9).bind fun v10 => some (.inl v10) := fun c1 => by
      refine ⟨c1.1, fun e => by have h9 := c1.2; rw [e] at h9; exact absurd h9 (by decide), ?_⟩
      unfold sp_Model_readSum_j23_5
      rw [e1, Option.bind_some]
      by_cases c2 : r1 = 0
      · rw [if_pos c2]
        exact ⟨-21, ⟨by decide, by decide⟩, rfl⟩
      · rw [if_neg c2]
        exact ⟨-20, ⟨by decide, by decide⟩, rfl⟩
    by_cases c1 : r1 = 0
    · rw [if_pos c1]
      obtain ⟨r2, e2, q2⟩ := t_isMarked (p0 := 45) hs
      rw [e2, Option.bind_some]
      by_cases c2 : r2 = 0
      · rw [if_pos c2]
        exact Or.inl rfl
      · rw [if_neg c2]
        exact Or.inr (j23 (q2.2 c2))
    · rw [if_neg c1]
      exact Or.inr (j23 (q1.2 c1))
  · have hsub : T (sp_Model_readProduct F E nE p0 g) (RC z g n k) := t_readProduct hF hd hE hp hb hP (fun e => absurd e c)
    refine T.callB hsub (fun v1 h1 => ?_)
    have b1 : ¬ v1 54 19 = 0 := fun e => c (h1.2.2 e).1
    refine T.callB (P := RC z g n k) (T.lpm (J := fun s => s = v1) (fun _ => 0) (fun s hs => ?_) F v1 rfl (by omega)) (fun x hx => T.some' hx)
    subst hs
    unfold st_Model_readSum_5
    refine T.callB (t_isMarked h1.1) (fun r1 q1 => T.pos (Classical.byContradiction (fun q => b1 (q1.2 q).1)) ?_)
    exact T.callB (t_isMarked h1.1) (fun r2 q2 => T.pos (Classical.byContradiction (fun q => b1 (q2.2 q).1)) (T.some' h1))
/-- the 'not's side by side -/
theorem t_nots {E : Int32 → Mem → Option Mem} {nE : Nat} {p0 k1 : Int32} (hF : 4294967296 < F) (h : MIq z g) : T (lpO (st_Model_readNot_2 F E nE p0 g k1) F (0, g)) (fun x => MIq z x.2 ∧ FM g x.2 ∧ ∃ c : Nat, c ≤ 7 ∧ x.1 = nI c ∧ (x.2 54 19 = 0 → g 54 19 = 0 ∧ (g 54 17).toInt + c ≤ (x.2 54 17).toInt)) := by
  have h17 : ∀ (m : Mem), MIq z m → (m 54 17).toInt ≤ 700 ∧ 0 ≤ (m 54 17).toInt := fun m hm => by
    obtain ⟨k1, k2, k3, k4, k5⟩ := hm.2
    have := k2.2
    omega
  refine T.lpm (J := fun x => MIq z x.2 ∧ FM g x.2 ∧ ∃ c : Nat, c ≤ 7 ∧ x.1 = nI c ∧ (x.2 54 19 = 0 → c ≤ 6 ∧ g 54 19 = 0 ∧ (g 54 17).toInt + c ≤ (x.2 54 17).toInt)) (fun s => mu17 s.2) (fun s hs => ?_) F _ ⟨h, FM.rf, 0, by omega, rfl, fun c => ⟨by omega, c, by show (g 54 17).toInt + ((0 : Nat) : Int) ≤ (g 54 17).toInt; omega⟩⟩ ?_
  · obtain ⟨s1, s2, c, s3, s4, s5⟩ := hs
    unfold st_Model_readNot_2
    refine T.callB (t_is hF s1) (fun v1 h1 => ?_)
    refine T.cond (fun c1 => T.some' ⟨s1, s2, c, s3, s4, fun e => (s5 e).2⟩) (fun c1 => ?_)
    obtain ⟨w1, w2⟩ := h1.2 c1
    obtain ⟨u1, u2, u3⟩ := s5 w1
    have hm := h17 _ s1
    have hmu : 0 < mu17 s.2 := by
      unfold mu17
      rw [if_pos w1]
      omega
    refine T.cond (fun c2 => ?_) (fun c2 => ?_)
    · refine T.callB (t_wrong (by decide) s1) (fun v4 h4 => ?_)
      unfold sp_Model_readNot_j22_2
      refine T.neg h4.2.2 (T.some' ⟨⟨h4.1, s2.tr h4.2.1, c + 1, by omega, by rw [s4]; exact nI_1 c, fun e => absurd e h4.2.2⟩, ?_⟩)
      show mu17 v4 < mu17 s.2
      unfold mu17 at *
      rw [if_neg h4.2.2]
      exact hmu
    · unfold sp_Model_readNot_j22_2
      refine T.pos w1 (T.callB (s1.on hF) (fun v6 h6 => T.some' ?_))
      obtain ⟨m6, f6, g6, l6, b6⟩ := h6
      have l7 := l6 (fun e => by rw [e] at w2; exact absurd w2 (by decide))
      have hc6 : c ≠ 6 := fun e => c2 (by rw [s4, e]; rfl)
      refine ⟨⟨m6, s2.tr f6, c + 1, by omega, by rw [s4]; exact nI_1 c, fun _ => ⟨by omega, u2, by show (g 54 17).toInt + ((c + 1 : Nat) : Int) ≤ (v6 54 17).toInt; omega⟩⟩, ?_⟩
      show mu17 v6 < mu17 s.2
      have := h17 _ m6
      unfold mu17
      rw [if_pos w1, if_pos (b6.trans w1)]
      omega
  · have := h17 _ h
    show mu17 g < F
    unfold mu17
    split <;> omega
theorem t_readNot {d : Int} {E : Int32 → Mem → Option Mem} {nE : Nat} {p0 : Int32} (hF : 4294967296 < F) (hd : -5 ≤ d) (hE : HE z d E) (hp : B d 6 p0) (hb : g 54 19 = 0 → p0.toInt ≤ 5) (hP : PR z g n k) (hk : g 54 19 = 0 → (k : Int) ≤ 5 * p0.toInt + 2) : T (sp_Model_readNot F E nE p0 g) (RC z g n k) := by
  have h17 : ∀ (m : Mem), MIq z m → (m 54 17).toInt ≤ 700 ∧ 0 ≤ (m 54 17).toInt := fun m hm => by
    obtain ⟨k1, k2, k3, k4, k5⟩ := hm.2
    have := k2.2
    omega
  unfold sp_Model_readNot
  refine T.callB (t_nots hF hP.1) (fun x7 h7 => ?_)
  obtain ⟨m7, f7, c, hc7, e7, q7⟩ := h7
  have p7 : PR z x7.2 n k := hP.fm m7 f7 (fun e => ⟨(q7 e).1, by have := (q7 e).2; omega⟩)
  have hb7 : x7.2 54 19 = 0 → p0.toInt ≤ 5 := fun e => hb (q7 e).1
  have hk7 : x7.2 54 19 = 0 → (k : Int) ≤ 5 * p0.toInt + 3 := fun e => by have := hk (q7 e).1; omega
  -- the 'not's are laid
  have j93 : ∀ (m : Mem), RC z x7.2 n k m → T (sp_Model_readNot_j93 F E nE p0 g m x7.1) (RC z g n k) := fun m hm => by
    unfold sp_Model_readNot_j93
    refine T.callB (P := RC z g n k) ?_ (fun x hx => T.some' hx)
    have inv : ∀ (i : Nat) (s : Mem), i ≤ c → (MIq z s ∧ FX x7.2 s ∧ (s 54 19 = 0 → x7.2 54 19 = 0 ∧ (x7.2 54 17).toInt < (s 54 17).toInt ∧ ∃ n' : Nat, Ly s n' (k + 1) ∧ (n' : Int) - n ≤ (s 54 17).toInt - (x7.2 54 17).toInt + i)) → RC z g n k s ∨ i < c := fun i s hi hs => by
      by_cases e : i = c
      · subst e
        refine Or.inl ⟨hs.1, f7.x.tr hs.2.1, fun e => ?_⟩
        obtain ⟨a1, a2, n', a3, a4⟩ := hs.2.2 e
        obtain ⟨b1, b2⟩ := q7 a1
        exact ⟨b1, by omega, n', a3, by omega⟩
      · exact Or.inr (by omega)
    refine T.cnt c (fun i s => s.1 = nI i ∧ i ≤ c ∧ MIq z s.2 ∧ FX x7.2 s.2 ∧ (s.2 54 19 = 0 → x7.2 54 19 = 0 ∧ (x7.2 54 17).toInt < (s.2 54 17).toInt ∧ ∃ n' : Nat, Ly s.2 n' (k + 1) ∧ (n' : Int) - n ≤ (s.2 54 17).toInt - (x7.2 54 17).toInt + i)) ?_ ?_ c 0 _ F (by omega) ⟨rfl, by omega, hm.1, hm.2.1, fun e => ?_⟩ (by omega)
    · rintro i ⟨b, s⟩ hi ⟨hbi, -, hs1, hs2, hs3⟩
      dsimp only at hbi hs1 hs2 hs3
      subst hbi
      unfold st_Model_readNot_95
      dsimp only
      rw [e7]
      refine T.neg (nI_ge hi (by omega)) ?_
      by_cases e : s 54 19 = 0
      · obtain ⟨a1, a2, n', a3, a4⟩ := hs3 e
        obtain ⟨b1, b2⟩ := q7 a1
        have hn := (hP.2 b1).2
        have := h17 _ hs1
        refine T.callB (t_layM (n := n') (k := k + 1) (k' := k + 1) hs1 (fun _ => ⟨a3, by omega, ?_⟩)) (fun v14 h14 => ?_)
        · unfold stp
          rw [if_neg (by decide), if_pos rfl, if_pos (by omega)]
        · obtain ⟨m14, x14, e14, y14⟩ := h14
          refine T.some' (Or.inl ⟨_, rfl, nI_1 i, by omega, m14, hs2.tr x14, fun _ => ⟨a1, by show _ < (v14 54 17).toInt; rw [e14]; exact a2, n' + 1, y14 e, ?_⟩⟩)
          show ((n' + 1 : Nat) : Int) - n ≤ (v14 54 17).toInt - _ + ((i + 1 : Nat) : Int)
          rw [e14]
          omega
      · refine T.callB (t_layM (n := 0) (k := 0) (k' := 0) hs1 (fun q => absurd q e)) (fun v14 h14 => ?_)
        obtain ⟨m14, x14, e14, y14⟩ := h14
        exact T.some' (Or.inl ⟨_, rfl, nI_1 i, by omega, m14, hs2.tr x14, fun q => absurd (by have q2 : v14 54 19 = 0 := q; rw [e14] at q2; exact q2) e⟩)
    · rintro ⟨b, s⟩ ⟨hbi, -, hs1, hs2, hs3⟩
      dsimp only at hbi hs1 hs2 hs3
      subst hbi
      unfold st_Model_readNot_95
      dsimp only
      rw [e7]
      refine T.pos (nI_le (Nat.le_refl _) (by omega)) (T.some' ⟨_, rfl, ?_⟩)
      exact (inv c s (Nat.le_refl _) ⟨hs1, hs2, hs3⟩).resolve_right (by omega)
    · obtain ⟨a1, a2, n', a3, a4⟩ := hm.2.2 e
      exact ⟨a1, a2, n', a3, by show _ ≤ (m 54 17).toInt - _ + ((0 : Nat) : Int); omega⟩
  refine T.callB (t_readSum hF hd hE hp hb7 p7 hk7) (fun v8 h8 => ?_)
  have j62 : (v8 54 19 = 0 ∧ ¬ v8 54 15 = 0) → T (sp_Model_readNot_j62 F E nE p0 g v8 p0 x7.1) (RC z g n k) := fun cc => by
    have c7 := (h8.2.2 cc.1).1
    have hp5 := hb7 c7
    have j78 : ∀ (sg : Int32), isBin sg → T (sp_Model_readNot_j78 F E nE p0 g v8 p0 x7.1 sg) (RC z g n k) := fun sg hsg => by
      unfold sp_Model_readNot_j78
      refine t_go (K := 5 * p0.toInt + 3) hF (fun m n' k' h1 h2 => t_readSum hF hd hE hp (fun _ => hp5) h1 h2) p7 h8 (fun _ => by have := hk (q7 c7).1; omega) cc.1 cc.2 hsg (fun v hv _ => j93 v hv)
    unfold sp_Model_readNot_j62
    refine T.callB (t_isMarked h8.1) (fun v16 _ => ?_)
    exact T.cond (fun _ => j78 (-25) ⟨by decide, by decide⟩) (fun _ => j78 (-24) ⟨by decide, by decide⟩)
  have tk : ∀ (w : v8 54 19 = 0 ∧ v8 54 15 = 3), v8 54 19 = 0 ∧ ¬ v8 54 15 = 0 := fun w => ⟨w.1, fun e => by have h9 := w.2; rw [e] at h9; exact absurd h9 (by decide)⟩
  refine T.callB (t_isMarked h8.1) (fun v9 h9 => ?_)
  refine T.cond (fun c1 => ?_) (fun c1 => j62 (tk (h9.2 c1)))
  refine T.callB (t_isMarked h8.1) (fun v11 h11 => ?_)
  exact T.cond (fun c2 => j93 v8 h8) (fun c2 => j62 (tk (h11.2 c2)))
theorem t_readAnd_loop {d : Int} {E : Int32 → Mem → Option Mem} {nE : Nat} {p0 q0 : Int32} {m : Mem} (hF : 4294967296 < F) (hd : -5 ≤ d) (hE : HE z d E) (hp : B d 6 p0) (hb : g 54 19 = 0 → p0.toInt ≤ 5) (hP : PR z g n k) (hk : g 54 19 = 0 → (k : Int) ≤ 5 * p0.toInt + 1) {v1 : Mem} (h1 : RC z g n k v1) : T (lpO (st_Model_readAnd_5 F E nE q0 m p0) F v1) (RC z g n k) := by
  by_cases c : g 54 19 = 0
  · have hp5 := hb c
    have hsub : ∀ m n' k', PR z m n' k' → (m 54 19 = 0 → (k' : Int) ≤ 5 * p0.toInt + 2) → T (sp_Model_readNot F E nE p0 m) (RC z m n' k') := fun m n' k' h1 h2 => t_readNot hF hd hE hp (fun _ => hp5) h1 h2
    refine t_bin hF hsub (fun s hs => ?_) hP (fun c => by have := hk c; omega) h1
    obtain ⟨r1, e1, q1⟩ := t_is (j0 := 34) hF hs
    unfold st_Model_readAnd_5
    rw [e1, Option.bind_some]
    by_cases c1 : r1 = 0
    · rw [if_pos c1]
      exact Or.inl rfl
    · rw [if_neg c1]
      have w := q1.2 c1
      exact Or.inr ⟨w.1, fun e => by have h9 := w.2; rw [e] at h9; exact absurd h9 (by decide), -26, ⟨by decide, by decide⟩, rfl⟩
  · have b1 : ¬ v1 54 19 = 0 := fun e => c (h1.2.2 e).1
    refine T.lpm (J := fun s => s = v1) (fun _ => 0) (fun s hs => ?_) F v1 rfl (by omega)
    subst hs
    unfold st_Model_readAnd_5
    exact T.callB (t_is hF h1.1) (fun r1 q1 => T.pos (Classical.byContradiction (fun q => b1 (q1.2 q).1)) (T.some' h1))
theorem t_readAnd {d : Int} {E : Int32 → Mem → Option Mem} {nE : Nat} {p0 : Int32} (hF : 4294967296 < F) (hd : -5 ≤ d) (hE : HE z d E) (hp : B d 6 p0) (hb : g 54 19 = 0 → p0.toInt ≤ 5) (hP : PR z g n k) (hk : g 54 19 = 0 → (k : Int) ≤ 5 * p0.toInt + 1) : T (sp_Model_readAnd F E nE p0 g) (RC z g n k) := by
  unfold sp_Model_readAnd
  refine T.callB (t_readNot hF hd hE hp hb hP (fun e => by have := hk e; omega)) (fun v1 h1 => ?_)
  exact T.callB (t_readAnd_loop hF hd hE hp hb hP hk h1) (fun x hx => T.some' hx)
theorem t_readExpression_loop {d : Int} {E : Int32 → Mem → Option Mem} {nE : Nat} {p0 q0 : Int32} {m : Mem} (hF : 4294967296 < F) (hd : -5 ≤ d) (hE : HE z d E) (hp : B d 6 p0) (hb : g 54 19 = 0 → p0.toInt ≤ 5) (hP : PR z g n k) (hk : g 54 19 = 0 → (k : Int) ≤ 5 * p0.toInt + 0) {v1 : Mem} (h1 : RC z g n k v1) : T (lpO (st_Model_readExpression_67 F E nE q0 m p0) F v1) (RC z g n k) := by
  by_cases c : g 54 19 = 0
  · have hp5 := hb c
    have hsub : ∀ m n' k', PR z m n' k' → (m 54 19 = 0 → (k' : Int) ≤ 5 * p0.toInt + 1) → T (sp_Model_readAnd F E nE p0 m) (RC z m n' k') := fun m n' k' h1 h2 => t_readAnd hF hd hE hp (fun _ => hp5) h1 h2
    refine t_bin hF hsub (fun s hs => ?_) hP (fun c => by have := hk c; omega) h1
    obtain ⟨r1, e1, q1⟩ := t_is (j0 := 35) hF hs
    unfold st_Model_readExpression_67
    rw [e1, Option.bind_some]
    by_cases c1 : r1 = 0
    · rw [if_pos c1]
      exact Or.inl rfl
    · rw [if_neg c1]
      have w := q1.2 c1
      exact Or.inr ⟨w.1, fun e => by have h9 := w.2; rw [e] at h9; exact absurd h9 (by decide), -27, ⟨by decide, by decide⟩, rfl⟩
  · have b1 : ¬ v1 54 19 = 0 := fun e => c (h1.2.2 e).1
    refine T.lpm (J := fun s => s = v1) (fun _ => 0) (fun s hs => ?_) F v1 rfl (by omega)
    subst hs
    unfold st_Model_readExpression_67
    exact T.callB (t_is hF h1.1) (fun r1 q1 => T.pos (Classical.byContradiction (fun q => b1 (q1.2 q).1)) (T.some' h1))
theorem t_readExpression {d : Int} {E : Int32 → Mem → Option Mem} {nE : Nat} {p0 : Int32} (hF : 4294967296 < F) (hd : -5 ≤ d) (hE : HE z d E) (hp : B d 6 p0) (hP : PR z g n k) (hk : g 54 19 = 0 → (k : Int) ≤ 5 * p0.toInt) : T (sp_Model_readExpression F E nE p0 g) (RC z g n k) := by
  have j62 : ∀ (m : Mem), PR z m n k → FX g m → (m 54 19 = 0 → m = g ∧ p0.toInt ≤ 5) → T (sp_Model_readExpression_j62 F E nE p0 g m p0) (RC z g n k) := fun m hm hf hc => by
    have hkm : m 54 19 = 0 → (k : Int) ≤ 5 * p0.toInt + 0 := fun e => by
      have h9 := (hc e).1
      rw [h9] at e
      have := hk e
      omega
    unfold sp_Model_readExpression_j62
    refine T.callB (t_readAnd hF hd hE hp (fun e => (hc e).2) hm (fun e => by have := hkm e; omega)) (fun v5 h5 => ?_)
    refine T.callB (t_readExpression_loop hF hd hE hp (fun e => (hc e).2) hm hkm h5) (fun x hx => T.some' ?_)
    obtain ⟨a1, a2, a3⟩ := hx
    refine ⟨a1, hf.tr a2, fun e => ?_⟩
    have h9 := (hc (a3 e).1).1
    have := a3 e
    rw [h9] at this
    exact this
  have j38 : ∀ (y : Int32), T (sp_Model_readExpression_j38 F E nE p0 g g p0 y) (RC z g n k) := fun y => by
    unfold sp_Model_readExpression_j38
    have dead : ∀ (v : Mem), MIq z v → FM g v → ¬ v 54 19 = 0 → T (sp_Model_readExpression_j62 F E nE p0 g v p0) (RC z g n k) := fun v h1 h2 h3 => j62 v ⟨h1, fun e => absurd e h3⟩ h2.x (fun e => absurd e h3)
    refine T.cond (fun c1 => T.callB (t_wrong (by decide) hP.1) (fun v4 h4 => dead v4 h4.1 h4.2.1 h4.2.2)) (fun c1 => ?_)
    refine T.cond (fun c2 => T.callB (t_wrong (by decide) hP.1) (fun v4 h4 => dead v4 h4.1 h4.2.1 h4.2.2)) (fun c2 => ?_)
    refine j62 g hP FX.rf (fun _ => ⟨rfl, ?_⟩)
    have h6 : ¬ p0.toInt = 6 := fun q => c2 (Int32.toInt_inj.mp (q.trans (by decide)))
    have := hp.2
    omega
  have j33 : T (sp_Model_readExpression_j33 F E nE p0 g g p0) (RC z g n k) := by
    unfold sp_Model_readExpression_j33
    exact j38 1
  unfold sp_Model_readExpression
  refine T.cond (fun c => ?_) (fun c => T.some' (RC.dead hP.1 FX.rf c))
  refine T.cond (fun _ => j33) (fun _ => ?_)
  refine T.cond (fun _ => j33) (fun _ => ?_)
  refine T.callB (t_isMarked hP.1) (fun v15 _ => ?_)
  exact T.cond (fun _ => j38 0) (fun _ => j33)
theorem t_rxM (hF : 4294967296 < F) : ∀ (N : Nat) (_hn : N ≤ 8) {p : Int32} {g : Mem} {n k : Nat}, B (7 - (N : Int)) 6 p → PR z g n k → (g 54 19 = 0 → (k : Int) ≤ 5 * p.toInt) → T (rxM F N p g) (RC z g n k) := by
  intro N
  induction N with
  | zero =>
    intro hn p g n k hp hP hk
    exfalso
    have h1 := hp.1
    have h2 := hp.2
    omega
  | succ N ih =>
    intro hn p g n k hp hP hk
    show T (sp_Model_readExpression F (rxM F N) (7 * N) p g) _
    exact t_readExpression (d := 6 - (N : Int)) hF (by omega) (fun q m n k hq hP hk => ih (by omega) (hq.wk ⟨by omega, by omega⟩) hP hk) (hp.wk ⟨by omega, by omega⟩) hP hk
end Ex
