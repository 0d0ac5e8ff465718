/-! the reference's reader: what holds while a text is read -/
theorem m54 {g : Mem} {k j : Nat} {x : Int32} : mset g 54 k x 54 j = if j = k then x else g 54 j := by
  rw [mset_get]
  by_cases h : j = k
  · rw [if_pos ⟨rfl, h⟩, if_pos h]
  · rw [if_neg (fun e => h e.2), if_neg h]
def TK (f : Nat → Int32) : Prop := B 0 700 (f 14) ∧ B 0 700 (f 13) ∧ f 18 = f 13 ∧ (0 ≤ (f 17).toInt ∧ (f 17).toInt ≤ (f 13).toInt) ∧ (¬ f 15 = 0 → (f 17).toInt < (f 13).toInt)
/-- nothing but the reader's own fields has changed -/
def FM (g r : Mem) : Prop := (∀ q, q ≠ 54 → r q = g q) ∧ (∀ j, (j < 13 ∨ 20 < j) → r 54 j = g 54 j)
def MIq (z : Zt) (g : Mem) : Prop := Inv z g ∧ TK (g 54)
section FMs
variable {z : Zt} {g m r : Mem} {j : Nat} {x : Int32}
theorem FM.rf : FM g g := ⟨fun _ _ => rfl, fun _ _ => rfl⟩
theorem FM.tr (h : FM g m) (h' : FM m r) : FM g r := ⟨fun q hq => (h'.1 q hq).trans (h.1 q hq), fun j hj => (h'.2 j hj).trans (h.2 j hj)⟩
theorem FM.ms (h : FM g r) (hj : 13 ≤ j ∧ j ≤ 20) : FM g (mset r 54 j x) := ⟨fun q hq => (mset_rowF r j x hq).trans (h.1 q hq), fun k hk => by rw [m54, if_neg (by omega)]; exact h.2 k hk⟩
theorem Inv.tok (h : Inv z g) (hj : 13 ≤ j ∧ j ≤ 20) : Inv z (mset g 54 j x) := by
  have : j = 13 ∨ j = 14 ∨ j = 15 ∨ j = 16 ∨ j = 17 ∨ j = 18 ∨ j = 19 ∨ j = 20 := by omega
  rcases this with rfl | rfl | rfl | rfl | rfl | rfl | rfl | rfl <;> exact h.fre rfl
theorem FM.b {lo hi : Int} {q k : Nat} (h : FM g r) (hq : q ≠ 54) (hb : B lo hi (g q k)) : B lo hi (r q k) := by rw [h.1 q hq]; exact hb
end FMs
/-- while a TOKEN is taken: from where, how far -/
def SW (z : Zt) (g : Mem) (a : Int) (s : Mem) : Prop := Inv z s ∧ B 0 700 (s 54 14) ∧ B 0 700 (s 54 13) ∧ a ≤ (s 54 13).toInt ∧ FM g s ∧ s 54 19 = g 54 19
theorem t_byteAt {p : Int32} {g : Mem} (hp : 0 ≤ p.toInt) (hs : B 0 700 (g 54 14)) : T (sp_Model_byteAt p g) (fun r => r = -1 ∨ p.toInt < (g 54 14).toInt) := by
  unfold sp_Model_byteAt
  refine T.cond (fun c => T.some' (Or.inl rfl)) (fun c => ?_)
  have h : p.toInt < (g 54 14).toInt := by
    have : ¬ (g 54 14).toInt ≤ p.toInt := fun q => c (ile.mpr q)
    omega
  have b : B 0 699 p := ⟨hp, by have := hs.2; omega⟩
  exact T.rdU (B.ib b (by decide)) (fun v => T.some' (Or.inr h))
theorem t_isDigitY {p0 : Int32} {g : Mem} : T (sp_Model_isDigit p0 g) (fun r => (r = 0 → (p0 < 48 ∨ 57 < p0)) ∧ (¬ r = 0 → ¬ (p0 < 48 ∨ 57 < p0))) := by
  unfold sp_Model_isDigit
  refine T.cond (fun c => T.some' ⟨fun _ => Or.inl c, fun h => absurd rfl h⟩) (fun c => ?_)
  exact T.cond (fun c2 => T.some' ⟨fun _ => Or.inr c2, fun h => absurd rfl h⟩) (fun c2 => T.some' ⟨fun h => absurd h (by decide), fun _ h => h.elim c c2⟩)
theorem t_isLetterY {p0 : Int32} {g : Mem} : T (sp_Model_isLetter p0 g) (fun r => (r = 0 → (p0 < 97 ∨ 122 < p0)) ∧ (¬ r = 0 → ¬ (p0 < 97 ∨ 122 < p0))) := by
  unfold sp_Model_isLetter
  refine T.cond (fun c => T.some' ⟨fun _ => Or.inl c, fun h => absurd rfl h⟩) (fun c => ?_)
  exact T.cond (fun c2 => T.some' ⟨fun _ => Or.inr c2, fun h => absurd rfl h⟩) (fun c2 => T.some' ⟨fun h => absurd h (by decide), fun _ h => h.elim c c2⟩)
theorem byteAt_cong {p : Int32} {s m : Mem} (h14 : s 54 14 = m 54 14) (h65 : s 65 = m 65) : sp_Model_byteAt p s = sp_Model_byteAt p m := by
  unfold sp_Model_byteAt rd
  rw [h14, h65]
theorem SW.on {z : Zt} {g : Mem} {a : Int} {s : Mem} (h : SW z g a s) (hl : (s 54 13).toInt < (s 54 14).toInt) : SW z g a (mset s 54 13 (s 54 13 + 1)) ∧ (mset s 54 13 (s 54 13 + 1) 54 13).toInt = (s 54 13).toInt + 1 := by
  obtain ⟨h1, h2, h3, h4, h5, h6⟩ := h
  have b : B 0 699 (s 54 13) := ⟨h3.1, by have := h2.2; omega⟩
  have e := B.add_eq b (show B 1 1 (1 : Int32) from ⟨by decide, by decide⟩) (by decide)
  have e1 : (1 : Int32).toInt = 1 := by decide
  rw [e1] at e
  have e2 : mset s 54 13 (s 54 13 + 1) 54 13 = s 54 13 + 1 := by rw [m54, if_pos rfl]
  refine ⟨⟨h1.tok (by decide), by rw [m54, if_neg (by decide)]; exact h2, ?_, ?_, h5.ms (by decide), by rw [m54, if_neg (by decide)]; exact h6⟩, by rw [e2, e]⟩
  · rw [e2]
    exact ⟨by rw [e]; have := h3.1; omega, by rw [e]; have := b.2; omega⟩
  · rw [e2, e]
    omega
def mu13 (s : Mem) : Nat := (700 - (s 54 13).toInt).toNat
theorem mu13_lt {s s' : Mem} (hb : B 0 700 (s' 54 13)) (e : (s' 54 13).toInt = (s 54 13).toInt + 1) : mu13 s' < mu13 s := by
  unfold mu13
  have := hb.2
  omega
theorem mu13_F {s : Mem} {F : Nat} (hb : B 0 700 (s 54 13)) (hF : 4294967296 < F) : mu13 s < F := by
  unfold mu13
  have := hb.1
  omega
theorem t_stepOn {z : Zt} {F : Nat} {g : Mem} (hF : 4294967296 < F) (hI : Inv z g) (h14 : B 0 700 (g 54 14)) (h13 : B 0 700 (g 54 13)) : T (sp_Model_stepOn F g) (fun r => MIq z r ∧ FM g r ∧ (g 54 13).toInt ≤ (r 54 17).toInt ∧ r 54 19 = g 54 19) := by
  unfold sp_Model_stepOn
  refine T.callB (P := SW z g (g 54 13).toInt) (T.lpm (J := SW z g (g 54 13).toInt) mu13 (fun s hs => ?_) F _ ⟨hI, h14, h13, Int.le_refl _, FM.rf, rfl⟩ (mu13_F h13 hF)) (fun x hx => ?_)
  · unfold st_Model_stepOn_0
    have on : (s 54 13).toInt < (s 54 14).toInt → SW z g (g 54 13).toInt (mset s 54 13 (s 54 13 + 1)) ∧ mu13 (mset s 54 13 (s 54 13 + 1)) < mu13 s := fun hl => ⟨(hs.on hl).1, mu13_lt (hs.on hl).1.2.2.1 (hs.on hl).2⟩
    refine T.callB (t_byteAt hs.2.2.1.1 hs.2.1) (fun v1 h1 => ?_)
    refine T.cond (fun c => T.some' (on (h1.resolve_left (fun e => by rw [e] at c; exact absurd c (by decide))))) (fun c => ?_)
    refine T.callB (t_byteAt hs.2.2.1.1 hs.2.1) (fun v3 h3 => ?_)
    exact T.cond (fun c2 => T.some' (on (h3.resolve_left (fun e => by rw [e] at c2; exact absurd c2 (by decide))))) (fun c2 => T.some' hs)
  · obtain ⟨x1, x2, x3, x4, x5, x6⟩ := hx
    have y0 : SW z g (x 54 13).toInt (mset x 54 17 (x 54 13)) := ⟨x1.tok (by decide), by rw [m54, if_neg (by decide)]; exact x2, by rw [m54, if_neg (by decide)]; exact x3, by rw [m54, if_neg (by decide)]; exact Int.le_refl _, x5.ms (by decide), by rw [m54, if_neg (by decide)]; exact x6⟩
    have y17 : mset x 54 17 (x 54 13) 54 17 = x 54 13 := by rw [m54, if_pos rfl]
    have y13 : mset x 54 17 (x 54 13) 54 13 = x 54 13 := by rw [m54, if_neg (by decide)]
    generalize mset x 54 17 (x 54 13) = m at y0 y17 y13 ⊢
    -- the end: a TOKEN's kind and where it stops
    have fin : ∀ (s : Mem) (t : Int32), SW z g (x 54 13).toInt s → s 54 17 = x 54 13 → (¬ t = 0 → (x 54 13).toInt < (s 54 13).toInt) → MIq z (mset (mset s 54 15 t) 54 18 (mset s 54 15 t 54 13)) ∧ FM g (mset (mset s 54 15 t) 54 18 (mset s 54 15 t 54 13)) ∧ (g 54 13).toInt ≤ (mset (mset s 54 15 t) 54 18 (mset s 54 15 t 54 13) 54 17).toInt ∧ mset (mset s 54 15 t) 54 18 (mset s 54 15 t 54 13) 54 19 = g 54 19 := fun s t hs h17 ht => by
      obtain ⟨s1, s2, s3, s4, s5, s6⟩ := hs
      have e13 : mset s 54 15 t 54 13 = s 54 13 := by rw [m54, if_neg (by decide)]
      rw [e13]
      have a13 : mset (mset s 54 15 t) 54 18 (s 54 13) 54 13 = s 54 13 := by rw [m54, if_neg (by decide), e13]
      have a14 : mset (mset s 54 15 t) 54 18 (s 54 13) 54 14 = s 54 14 := by rw [m54, if_neg (by decide), m54, if_neg (by decide)]
      have a15 : mset (mset s 54 15 t) 54 18 (s 54 13) 54 15 = t := by rw [m54, if_neg (by decide), m54, if_pos rfl]
      have a17 : mset (mset s 54 15 t) 54 18 (s 54 13) 54 17 = x 54 13 := by rw [m54, if_neg (by decide), m54, if_neg (by decide)]; exact h17
      have a18 : mset (mset s 54 15 t) 54 18 (s 54 13) 54 18 = s 54 13 := by rw [m54, if_pos rfl]
      have a19 : mset (mset s 54 15 t) 54 18 (s 54 13) 54 19 = g 54 19 := by rw [m54, if_neg (by decide), m54, if_neg (by decide)]; exact s6
      refine ⟨⟨(s1.tok (by decide)).tok (by decide), ?_⟩, (s5.ms (by decide)).ms (by decide), by rw [a17]; exact x4, a19⟩
      unfold TK
      rw [a13, a14, a15, a17, a18]
      exact ⟨s2, s3, rfl, ⟨x3.1, s4⟩, ht⟩
    obtain ⟨v6, e6, h6⟩ := t_byteAt y0.2.2.1.1 y0.2.1
    refine T.eqB e6 ?_
    refine T.cond (fun c => T.some' (fin m 0 y0 y17 (fun h => absurd rfl h))) (fun c => ?_)
    have hl := h6.resolve_left c
    have on := y0.on hl
    have on17 : mset m 54 13 (m 54 13 + 1) 54 17 = x 54 13 := by rw [m54, if_neg (by decide)]; exact y17
    have lt1 : ∀ (s : Mem), SW z g (x 54 13).toInt s → ¬ s 54 13 = x 54 13 → (x 54 13).toInt < (s 54 13).toInt := fun s hs hne => by
      have h1 := hs.2.2.2.1
      have h2 : ¬ (s 54 13).toInt = (x 54 13).toInt := fun q => hne (Int32.toInt_inj.mp q)
      omega
    refine T.callB t_isLetterY (fun v8 h8 => ?_)
    refine T.cond (fun c2 => ?_) (fun c2 => ?_)
    · refine T.callB t_isDigitY (fun v10 h10 => ?_)
      refine T.cond (fun c3 => ?_) (fun c3 => ?_)
      · refine T.callB (P := fun _ => True) (by unfold sp_Model_isMark; repeat (first | exact T.some' trivial | refine T.cond (fun _ => T.some' trivial) (fun _ => ?_))) (fun v12 _ => ?_)
        exact T.cond (fun c4 => T.some' (fin _ 4 on.1 on17 (fun _ => by rw [on.2, y13]; omega))) (fun c4 => T.some' (fin _ 3 on.1 on17 (fun _ => by rw [on.2, y13]; omega)))
      · have n13 : mset m 54 16 0 54 13 = m 54 13 := by rw [m54, if_neg (by decide)]
        have n0 : SW z g (x 54 13).toInt (mset m 54 16 0) := ⟨y0.1.tok (by decide), by rw [m54, if_neg (by decide)]; exact y0.2.1, by rw [n13]; exact y0.2.2.1, by rw [n13]; exact y0.2.2.2.1, y0.2.2.2.2.1.ms (by decide), by rw [m54, if_neg (by decide)]; exact y0.2.2.2.2.2⟩
        have ne : sp_Model_byteAt (mset m 54 16 0 54 13) (mset m 54 16 0) = some v6 := by
          rw [n13, byteAt_cong (m := m) (by rw [m54, if_neg (by decide)]) (mset_rowF m 16 0 (by decide))]
          exact e6
        refine T.callB (P := fun s => SW z g (x 54 13).toInt s ∧ s 54 17 = x 54 13 ∧ ¬ s 54 13 = x 54 13) (T.lpm (J := fun s => SW z g (x 54 13).toInt s ∧ s 54 17 = x 54 13 ∧ (s 54 13 = x 54 13 → sp_Model_byteAt (s 54 13) s = some v6)) mu13 (fun s hs => ?_) F _ ⟨n0, by rw [m54, if_neg (by decide)]; exact y17, fun _ => ne⟩ (mu13_F n0.2.2.1 hF)) (fun x19 h19 => T.some' (fin x19 2 h19.1 h19.2.1 (fun _ => lt1 x19 h19.1 h19.2.2)))
        obtain ⟨s1, s2, s3⟩ := hs
        unfold st_Model_stepOn_123
        obtain ⟨v14, e14, h14⟩ := t_byteAt s1.2.2.1.1 s1.2.1
        refine T.eqB e14 ?_
        refine T.callB t_isDigitY (fun v15 h15 => ?_)
        refine T.cond (fun c4 => T.some' ⟨s1, s2, fun e => ?_⟩) (fun c4 => ?_)
        · have := s3 e
          rw [e14] at this
          have e9 : v14 = v6 := Option.some.inj this
          rw [e9] at h15
          exact h10.2 c3 (h15.1 c4)
        · refine T.eqB e14 ?_
          have hl2 : (s 54 13).toInt < (s 54 14).toInt := h14.resolve_left (fun e => by rw [e] at h15; exact h15.2 c4 (Or.inl (by decide)))
          refine T.callB (P := fun _ => True) (by unfold sp_JMath_min; exact T.cond (fun _ => T.some' trivial) (fun _ => T.some' trivial)) (fun v18 _ => ?_)
          have q0 : SW z g (x 54 13).toInt (mset s 54 16 v18) := ⟨s1.1.tok (by decide), by rw [m54, if_neg (by decide)]; exact s1.2.1, by rw [m54, if_neg (by decide)]; exact s1.2.2.1, by rw [m54, if_neg (by decide)]; exact s1.2.2.2.1, s1.2.2.2.2.1.ms (by decide), by rw [m54, if_neg (by decide)]; exact s1.2.2.2.2.2⟩
          have q13 : mset s 54 16 v18 54 13 = s 54 13 := by rw [m54, if_neg (by decide)]
          have q1 := q0.on (by rw [q13, m54, if_neg (by decide)]; exact hl2)
          refine T.some' ⟨⟨q1.1, by rw [m54, if_neg (by decide), m54, if_neg (by decide)]; exact s2, fun e => ?_⟩, mu13_lt q1.1.2.2.1 (by rw [q1.2, q13])⟩
          exfalso
          have w := q1.2
          rw [e, q13] at w
          have := s1.2.2.2.1
          omega
    · refine T.callB (P := fun s => SW z g (x 54 13).toInt s ∧ s 54 17 = x 54 13 ∧ ¬ s 54 13 = x 54 13) (T.lpm (J := fun s => SW z g (x 54 13).toInt s ∧ s 54 17 = x 54 13 ∧ (s 54 13 = x 54 13 → sp_Model_byteAt (s 54 13) s = some v6)) mu13 (fun s hs => ?_) F _ ⟨y0, y17, fun _ => e6⟩ (mu13_F y0.2.2.1 hF)) (fun x19 h19 => T.some' (fin x19 1 h19.1 h19.2.1 (fun _ => lt1 x19 h19.1 h19.2.2)))
      obtain ⟨s1, s2, s3⟩ := hs
      unfold st_Model_stepOn_76
      obtain ⟨v14, e14, h14⟩ := t_byteAt s1.2.2.1.1 s1.2.1
      refine T.eqB e14 ?_
      refine T.callB t_isLetterY (fun v15 h15 => ?_)
      refine T.cond (fun c4 => T.some' ⟨s1, s2, fun e => ?_⟩) (fun c4 => ?_)
      · have := s3 e
        rw [e14] at this
        have e9 : v14 = v6 := Option.some.inj this
        rw [e9] at h15
        exact h8.2 c2 (h15.1 c4)
      · have hl2 : (s 54 13).toInt < (s 54 14).toInt := h14.resolve_left (fun e => by rw [e] at h15; exact h15.2 c4 (Or.inl (by decide)))
        have q1 := s1.on hl2
        refine T.some' ⟨⟨q1.1, by rw [m54, if_neg (by decide)]; exact s2, fun e => ?_⟩, mu13_lt q1.1.2.2.1 q1.2⟩
        exfalso
        have w := q1.2
        rw [e] at w
        have := s1.2.2.2.1
        omega
/-! the reference's words, numbers, signs -/
section MR
variable {z : Zt} {F : Nat} {g : Mem}
theorem MIq.on (hF : 4294967296 < F) (h : MIq z g) : T (sp_Model_stepOn F g) (fun r => MIq z r ∧ FM g r ∧ (g 54 17).toInt ≤ (r 54 17).toInt ∧ (¬ g 54 15 = 0 → (g 54 17).toInt < (r 54 17).toInt) ∧ r 54 19 = g 54 19) := by
  obtain ⟨k1, k2, k3, k4, k5⟩ := h.2
  exact T.mono (t_stepOn hF h.1 k1 k2) (fun r hr => ⟨hr.1, hr.2.1, by have := hr.2.2.1; omega, fun hn => by have := k5 hn; have := hr.2.2.1; omega, hr.2.2.2⟩)
theorem MIq.bad {j : Nat} {x : Int32} (h : MIq z g) (hj : j = 19 ∨ j = 20) : MIq z (mset g 54 j x) := by
  refine ⟨h.1.tok (by omega), ?_⟩
  have e : ∀ k, k < 19 → mset g 54 j x 54 k = g 54 k := fun k hk => by rw [m54, if_neg (by omega)]
  unfold TK
  rw [e 13 (by decide), e 14 (by decide), e 15 (by decide), e 17 (by decide), e 18 (by decide)]
  exact h.2
/-- a FAULT is there: the TOKEN stays -/
theorem t_wrong {p0 : Int32} (hp : ¬ p0 = 0) (h : MIq z g) : T (sp_Model_wrong p0 g) (fun r => MIq z r ∧ FM g r ∧ ¬ r 54 19 = 0) := by
  unfold sp_Model_wrong
  refine T.cond (fun c => T.some' ⟨(h.bad (Or.inl rfl)).bad (Or.inr rfl), (FM.rf.ms (by decide)).ms (by decide), ?_⟩) (fun c => T.some' ⟨h, FM.rf, c⟩)
  rw [m54, if_neg (by decide), m54, if_pos rfl]
  exact hp
theorem len117 (j : Nat) : lenL.getD j 0 ≤ 117 := by
  have h : ∀ x ∈ lenL, x ≤ 117 := by decide
  rw [List.getD_eq_getElem?_getD]
  cases e : lenL[j]? with
  | none => exact Nat.zero_le _
  | some x => exact h x (List.mem_of_getElem? e)
theorem slenB (j : Nat) : B (lenL.getD j 0 : Nat) (lenL.getD j 0 : Nat) (slen j) := ofB (by have := len117 j; omega)
theorem t_is {j0 : Nat} (hF : 4294967296 < F) (h : MIq z g) : T (sp_Model_is F j0 g) (fun r => B 0 1 r ∧ (¬ r = 0 → g 54 19 = 0 ∧ g 54 15 = 1)) := by
  obtain ⟨k1, k2, k3, k4, k5⟩ := h.2
  have hl := slenB j0
  have h117 := len117 j0
  have j36 : ∀ (y : Int32), B 0 1 y → (¬ y = 0 → (slen j0 = g 54 18 - g 54 17) ∧ g 54 19 = 0 ∧ g 54 15 = 1) → T (sp_Model_is_j36 F j0 g y) (fun r => B 0 1 r ∧ (¬ r = 0 → g 54 19 = 0 ∧ g 54 15 = 1)) := fun y hy hn => by
    unfold sp_Model_is_j36
    refine T.callB (P := fun r => B 0 1 r ∧ (¬ r = 0 → ¬ y = 0)) (T.lpc (J := fun s => B 0 1 s.1 ∧ (¬ s.1 = 0 → ¬ y = 0) ∧ B 0 (lenL.getD j0 0 : Nat) s.2) (Q := fun r => B 0 1 r ∧ (¬ r = 0 → ¬ y = 0)) (fun s => s.2) 0 (lenL.getD j0 0 : Nat) ⟨Or.inr (by decide), by omega⟩ (fun s h => h.2.2) (fun s hs => ?_) F (y, 0) ⟨hy, fun h => h, (show B 0 (lenL.getD j0 0 : Nat) (0 : Int32) from ⟨by decide, by have e0 : (0 : Int32).toInt = 0 := (by decide); omega⟩)⟩ hF) (fun x hx => ?_)
    · obtain ⟨s1, s2, s3⟩ := hs
      unfold st_Model_is_39
      refine T.cond (fun c => T.some' ⟨s1, s2⟩) (fun c => ?_)
      refine T.cond (fun c2 => T.some' ⟨s1, s2⟩) (fun c2 => ?_)
      have b : B 0 ((lenL.getD j0 0 : Nat) - 1) s.2 := B.nler c2 hl s3 ⟨by omega, by omega⟩
      have ix : inb s.2 (lenL.getD j0 0) = true := B.ib b ⟨by omega, by omega⟩
      obtain ⟨n1, n2, n3⟩ := hn (s2 c)
      have el : (slen j0).toInt = (g 54 13).toInt - (g 54 17).toInt := by
        rw [n1, k3]
        exact B.sub_eq k2 (show B 0 700 (g 54 17) from ⟨k4.1, by have := k2.2; omega⟩) (by decide)
      have b17 : B 0 700 (g 54 17) := ⟨k4.1, by have := k2.2; omega⟩
      have b116 : B 0 116 s.2 := b.wk ⟨by omega, by omega⟩
      have ea := B.add_eq b17 b116 (by decide)
      have bi : B 0 699 (g 54 17 + s.2) := ⟨by rw [ea]; have := b17.1; have := b116.1; omega, by rw [ea]; have h1 := hl.1; have h2 := b.2; have h3 := k2.2; omega⟩
      have bn : B 0 (lenL.getD j0 0 : Nat) (s.2 + 1) := B.add b (show B 1 1 (1 : Int32) from ⟨by decide, by decide⟩) ⟨by omega, by omega, by omega, by omega⟩
      unfold sch
      rw [if_pos ix]
      refine T.soU (fun v6 => ?_)
      refine T.rdU (B.ib bi (by decide)) (fun v7 => ?_)
      exact T.cond (fun c3 => T.some' (show (B 0 1 (1 : Int32) ∧ (¬ (1 : Int32) = 0 → ¬ y = 0) ∧ B 0 (lenL.getD j0 0 : Nat) (s.2 + 1)) ∧ s.2 + 1 = s.2 + 1 from ⟨⟨b11, fun _ => s2 c, bn⟩, rfl⟩)) (fun c3 => T.some' (show (B 0 1 (0 : Int32) ∧ (¬ (0 : Int32) = 0 → ¬ y = 0) ∧ B 0 (lenL.getD j0 0 : Nat) (s.2 + 1)) ∧ s.2 + 1 = s.2 + 1 from ⟨⟨b01, fun h => absurd rfl h, bn⟩, rfl⟩))
    · unfold bl
      rw [if_pos hx.1.boo]
      exact T.some' ⟨hx.1, fun h => (hn (hx.2 h)).2⟩
  have j35 : T (sp_Model_is_j35 F j0 g) (fun r => B 0 1 r ∧ (¬ r = 0 → g 54 19 = 0 ∧ g 54 15 = 1)) := by
    unfold sp_Model_is_j35
    exact j36 0 b01 (fun h => absurd rfl h)
  unfold sp_Model_is
  refine T.cond (fun c1 => ?_) (fun _ => j35)
  refine T.cond (fun c2 => ?_) (fun _ => j35)
  exact T.cond (fun c3 => j36 1 b11 (fun _ => ⟨c3, c1, c2⟩)) (fun _ => j35)
theorem t_which {q0 q0j q0n : Nat} (hF : 4294967296 < F) (hq : q0n ≤ 700) (h : MIq z g) : T (sp_Model_which F q0 q0j q0n g) (fun r => B (-1) ((q0n : Int) - 1) r ∧ (¬ r = -1 → g 54 19 = 0 ∧ g 54 15 = 1)) := by
  unfold sp_Model_which
  refine T.callB (P := fun (x : Int32 ⊕ Unit) => match x with | .inl x => B 0 ((q0n : Int) - 1) x ∧ (g 54 19 = 0 ∧ g 54 15 = 1) | .inr _ => True) (T.lpc (J := fun s => B 0 q0n s) (Q := fun (x : Int32 ⊕ Unit) => match x with | .inl x => B 0 ((q0n : Int) - 1) x ∧ (g 54 19 = 0 ∧ g 54 15 = 1) | .inr _ => True) (fun s => s) 0 q0n ⟨Or.inr (by decide), by omega⟩ (fun s h => h) (fun s hs => ?_) F 0 (show B 0 q0n (0 : Int32) from ⟨by decide, by have e0 : (0 : Int32).toInt = 0 := (by decide); omega⟩) hF) (fun x hx => ?_)
  · unfold st_Model_which_2
    refine T.cond (fun c => T.some' (show True from trivial)) (fun c => ?_)
    have b : B 0 ((q0n : Int) - 1) s := B.nler c (ofB (by omega)) hs ⟨by omega, by omega⟩
    have ix : inb s q0n = true := B.ib b ⟨by omega, by omega⟩
    unfold rS
    rw [if_pos ix]
    refine T.soU (fun v2 => ?_)
    refine T.callB (t_is hF h) (fun v3 h3 => ?_)
    refine T.cond (fun c2 => T.some' (show B 0 q0n (s + 1) ∧ s + 1 = s + 1 from ⟨B.add b (show B 1 1 (1 : Int32) from ⟨by decide, by decide⟩) ⟨by omega, by omega, by omega, by omega⟩, rfl⟩)) (fun c2 => T.some' (show B 0 ((q0n : Int) - 1) s ∧ (g 54 19 = 0 ∧ g 54 15 = 1) from ⟨b, h3.2 c2⟩))
  · rcases x with x | x
    · exact T.some' ⟨hx.1.wk ⟨by decide, Int.le_refl _⟩, fun _ => hx.2⟩
    · refine T.some' ⟨⟨by decide, ?_⟩, fun h => absurd rfl h⟩
      have e0 : (-1 : Int32).toInt = -1 := by decide
      show (-1 : Int32).toInt ≤ _
      omega
theorem t_isMarked {p0 : Int32} (h : MIq z g) : T (sp_Model_isMarked p0 g) (fun r => B 0 1 r ∧ (¬ r = 0 → g 54 19 = 0 ∧ g 54 15 = 3)) := by
  obtain ⟨k1, k2, k3, k4, k5⟩ := h.2
  unfold sp_Model_isMarked
  refine T.cond (fun c1 => ?_) (fun _ => T.some' ⟨b01, fun h => absurd rfl h⟩)
  refine T.cond (fun c2 => ?_) (fun _ => T.some' ⟨b01, fun h => absurd rfl h⟩)
  have hl := k5 (fun e => by rw [e] at c2; exact absurd c2 (by decide))
  have b : B 0 699 (g 54 17) := ⟨k4.1, by have := k2.2; omega⟩
  refine T.rdU (B.ib b (by decide)) (fun v3 => ?_)
  exact T.cond (fun c3 => T.some' ⟨b11, fun _ => ⟨c1, c2⟩⟩) (fun _ => T.some' ⟨b01, fun h => absurd rfl h⟩)
theorem t_mark {p0 : Int32} (hF : 4294967296 < F) (h : MIq z g) : T (sp_Model_mark F p0 g) (fun r => MIq z r ∧ FM g r ∧ (r 54 19 = 0 → g 54 19 = 0 ∧ (g 54 17).toInt < (r 54 17).toInt)) := by
  unfold sp_Model_mark
  refine T.cond (fun c1 => ?_) (fun c1 => ?_)
  · refine T.callB (t_isMarked h) (fun v2 h2 => ?_)
    refine T.cond (fun c2 => ?_) (fun c2 => ?_)
    · refine T.callB (t_wrong (by decide) h) (fun v4 h4 => ?_)
      unfold sp_Model_mark_j20
      exact T.neg h4.2.2 (T.some' ⟨h4.1, h4.2.1, fun e => absurd e h4.2.2⟩)
    · unfold sp_Model_mark_j20
      refine T.pos c1 (T.callB (h.on hF) (fun v6 h6 => T.some' ⟨h6.1, h6.2.1, fun _ => ⟨c1, h6.2.2.2.1 (fun e => ?_)⟩⟩))
      have := (h2.2 c2).2
      rw [e] at this
      exact absurd this (by decide)
  · unfold sp_Model_mark_j20
    exact T.neg c1 (T.some' ⟨h, FM.rf, fun e => absurd e c1⟩)
theorem t_numberNow {p0 p1 : Int32} {hi : Int} (h0 : 0 ≤ p0.toInt) (h1 : p1.toInt ≤ hi) (hh : 0 ≤ hi) (h : MIq z g) : T (sp_Model_numberNow p0 p1 g) (fun r => B 0 hi r.1 ∧ MIq z r.2 ∧ FM g r.2 ∧ (r.2 54 19 = 0 → g 54 19 = 0 ∧ g 54 15 = 2 ∧ r.2 = g ∧ p0.toInt ≤ r.1.toInt)) := by
  have e0 : (0 : Int32).toInt = 0 := by decide
  have z0 : B 0 hi (0 : Int32) := ⟨by omega, by omega⟩
  have j54 : T (sp_Model_numberNow_j54 p0 p1 g g) (fun r => B 0 hi r.1 ∧ MIq z r.2 ∧ FM g r.2 ∧ (r.2 54 19 = 0 → g 54 19 = 0 ∧ g 54 15 = 2 ∧ r.2 = g ∧ p0.toInt ≤ r.1.toInt)) := by
    unfold sp_Model_numberNow_j54
    refine T.callB (t_wrong (by decide) h) (fun v4 h4 => ?_)
    unfold sp_Model_numberNow_j59
    exact T.neg h4.2.2 (T.some' ⟨z0, h4.1, h4.2.1, fun e => absurd e h4.2.2⟩)
  unfold sp_Model_numberNow
  refine T.cond (fun c1 => ?_) (fun c1 => T.some' ⟨z0, h, FM.rf, fun e => absurd e c1⟩)
  refine T.cond (fun c2 => ?_) (fun c2 => ?_)
  · refine T.cond (fun _ => j54) (fun _ => ?_)
    refine T.cond (fun _ => j54) (fun c4 => ?_)
    refine T.cond (fun c5 => ?_) (fun _ => j54)
    unfold sp_Model_numberNow_j59
    have l1 : p0.toInt ≤ (g 54 16).toInt := by
      have : ¬ (g 54 16).toInt < p0.toInt := fun q => c4 (ilt.mpr q)
      omega
    have l2 := ile.mp c5
    exact T.pos c1 (T.some' ⟨(show B 0 hi (g 54 16) from ⟨by omega, by omega⟩), h, FM.rf, fun _ => ⟨c1, c2, rfl, l1⟩⟩)
  · refine T.callB (t_wrong (by decide) h) (fun v4 h4 => ?_)
    unfold sp_Model_numberNow_j59
    exact T.neg h4.2.2 (T.some' ⟨z0, h4.1, h4.2.1, fun e => absurd e h4.2.2⟩)
theorem t_readNumber {p0 p1 : Int32} {hi : Int} (hF : 4294967296 < F) (h0 : 0 ≤ p0.toInt) (h1 : p1.toInt ≤ hi) (hh : 0 ≤ hi) (h : MIq z g) : T (sp_Model_readNumber F p0 p1 g) (fun r => B 0 hi r.1 ∧ MIq z r.2 ∧ FM g r.2 ∧ (r.2 54 19 = 0 → g 54 19 = 0 ∧ (g 54 17).toInt < (r.2 54 17).toInt ∧ p0.toInt ≤ r.1.toInt)) := by
  unfold sp_Model_readNumber
  refine T.callB (t_numberNow h0 h1 hh h) (fun v1 hv => ?_)
  refine T.cond (fun c => ?_) (fun c => T.some' ⟨hv.1, hv.2.1, hv.2.2.1, fun e => absurd e c⟩)
  obtain ⟨e1, e2, e3, e4⟩ := hv.2.2.2 c
  refine T.callB (hv.2.1.on hF) (fun v3 h3 => T.some' ⟨hv.1, h3.1, hv.2.2.1.tr h3.2.1, fun _ => ⟨e1, ?_, e4⟩⟩)
  have := h3.2.2.2.1
  rw [e3] at this
  exact this (fun e => by rw [e] at e2; exact absurd e2 (by decide))
theorem t_oneNow {p0 : Int32} {hi : Int} (h1 : p0.toInt ≤ hi) (hh : 1 ≤ hi) (h : MIq z g) : T (sp_Model_oneNow p0 g) (fun r => B 0 (hi - 1) r.1 ∧ MIq z r.2 ∧ FM g r.2 ∧ (r.2 54 19 = 0 → g 54 19 = 0 ∧ g 54 15 = 2 ∧ r.2 = g ∧ r.1.toInt < p0.toInt)) := by
  have e0 : (0 : Int32).toInt = 0 := by decide
  have z0 : B 0 (hi - 1) (0 : Int32) := ⟨by omega, by omega⟩
  unfold sp_Model_oneNow
  refine T.callB (t_numberNow (hi := 9999) (by decide) (by decide) (by decide) h) (fun v1 hv => ?_)
  refine T.cond (fun c => ?_) (fun c => ?_)
  · obtain ⟨e1, e2, e3, e4⟩ := hv.2.2.2 c
    refine T.cond (fun c2 => ?_) (fun c2 => ?_)
    · unfold sp_Model_oneNow_j26
      have l := ilt.mp c2
      exact T.pos c (T.some' ⟨(show B 0 (hi - 1) v1.1 from ⟨hv.1.1, by omega⟩), hv.2.1, hv.2.2.1, fun _ => ⟨e1, e2, e3, l⟩⟩)
    · refine T.callB (t_wrong (by decide) hv.2.1) (fun v5 h5 => ?_)
      unfold sp_Model_oneNow_j26
      exact T.neg h5.2.2 (T.some' ⟨z0, h5.1, hv.2.2.1.tr h5.2.1, fun e => absurd e h5.2.2⟩)
  · unfold sp_Model_oneNow_j26
    exact T.neg c (T.some' ⟨z0, hv.2.1, hv.2.2.1, fun e => absurd e c⟩)
theorem t_readOne {p0 : Int32} {hi : Int} (hF : 4294967296 < F) (h1 : p0.toInt ≤ hi) (hh : 1 ≤ hi) (h : MIq z g) : T (sp_Model_readOne F p0 g) (fun r => B 0 (hi - 1) r.1 ∧ MIq z r.2 ∧ FM g r.2 ∧ (r.2 54 19 = 0 → g 54 19 = 0 ∧ (g 54 17).toInt < (r.2 54 17).toInt ∧ r.1.toInt < p0.toInt)) := by
  unfold sp_Model_readOne
  refine T.callB (t_oneNow h1 hh h) (fun v1 hv => ?_)
  refine T.cond (fun c => ?_) (fun c => T.some' ⟨hv.1, hv.2.1, hv.2.2.1, fun e => absurd e c⟩)
  obtain ⟨e1, e2, e3, e4⟩ := hv.2.2.2 c
  refine T.callB (hv.2.1.on hF) (fun v3 h3 => T.some' ⟨hv.1, h3.1, hv.2.2.1.tr h3.2.1, fun _ => ⟨e1, ?_, e4⟩⟩)
  have := h3.2.2.2.1
  rw [e3] at this
  exact this (fun e => by rw [e] at e2; exact absurd e2 (by decide))
end MR
