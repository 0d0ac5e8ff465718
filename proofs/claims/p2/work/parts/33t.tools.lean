/-! reasoning on the functions: a value comes out, and something holds of it -/
def T {α : Type} (x : Option α) (Q : α → Prop) : Prop := ∃ v, x = some v ∧ Q v
section Tools
variable {α β σ ρ : Type} {Q : β → Prop}
theorem T.some' {v : β} (h : Q v) : T (some v) Q := ⟨v, rfl, h⟩
theorem T.callB {x : Option α} {f : α → Option β} {P : α → Prop} (h : T x P) (k : ∀ v, P v → T (f v) Q) : T (x.bind f) Q := by
  obtain ⟨v, e, hv⟩ := h
  subst e
  exact k v hv
theorem T.eqB {x : Option α} {f : α → Option β} {v : α} (h : x = some v) (k : T (f v) Q) : T (x.bind f) Q := by
  subst h
  exact k
theorem T.mono {x : Option β} {P : β → Prop} (h : T x P) (k : ∀ v, P v → Q v) : T x Q := by
  obtain ⟨v, e, hv⟩ := h
  exact ⟨v, e, k v hv⟩
theorem T.cond {c : Prop} [Decidable c] {a b : Option β} (h1 : c → T a Q) (h2 : ¬ c → T b Q) : T (if c then a else b) Q := by
  by_cases h : c
  · rw [if_pos h]; exact h1 h
  · rw [if_neg h]; exact h2 h
theorem T.pos {c : Prop} [Decidable c] {a b : Option β} (h : c) (k : T a Q) : T (if c then a else b) Q := by rw [if_pos h]; exact k
theorem T.neg {c : Prop} [Decidable c] {a b : Option β} (h : ¬ c) (k : T b Q) : T (if c then a else b) Q := by rw [if_neg h]; exact k
theorem T.rdB {g : Mem} {p n : Nat} {i : Int32} {f : Int32 → Option β} (h : inb i n = true) (k : T (f (g p i.toNatClampNeg)) Q) : T ((rd g p n i).bind f) Q := by
  unfold rd
  rw [if_pos h]
  exact k
theorem T.wrB {g : Mem} {p n : Nat} {i v : Int32} {f : Mem → Option β} (h : inb i n = true) (k : T (f (mset g p i.toNatClampNeg v)) Q) : T ((wr g p n i v).bind f) Q := by
  unfold wr
  rw [if_pos h]
  exact k
theorem T.cyB {g : Mem} {k0 n0 k1 n1 : Nat} {sp dp m : Int32} {f : Mem → Option β} (h : cpk sp dp m n0 n1 = true) (k : T (f (mrow g k1 (va_cpy (g k0) (g k1) sp.toNatClampNeg dp.toNatClampNeg m.toNatClampNeg))) Q) : T ((cy g k0 n0 sp k1 n1 dp m).bind f) Q := by
  unfold cy
  rw [if_pos h]
  exact k
/-- a loop that counts from i to e, or leaves ahead of it -/
theorem T.cnt {step : σ → Option (σ ⊕ β)} (e : Nat) (I : Nat → σ → Prop) (hs : ∀ i s, i < e → I i s → T (step s) (fun r => (∃ s', r = .inl s' ∧ I (i + 1) s') ∨ ∃ x, r = .inr x ∧ Q x)) (hx : ∀ s, I e s → T (step s) (fun r => ∃ x, r = .inr x ∧ Q x)) : ∀ (d i : Nat) (s : σ) (F : Nat), i + d = e → I i s → d < F → T (lpO step F s) Q := by
  intro d
  induction d with
  | zero =>
    intro i s F he hI hF
    obtain ⟨F, rfl⟩ : ∃ F', F = F' + 1 := ⟨F - 1, by omega⟩
    have : i = e := by omega
    subst this
    obtain ⟨r, h1, x, h2, h3⟩ := hx s hI
    subst h2
    refine ⟨x, ?_, h3⟩
    unfold lpO
    rw [h1]
    rfl
  | succ d ih =>
    intro i s F he hI hF
    obtain ⟨F, rfl⟩ : ∃ F', F = F' + 1 := ⟨F - 1, by omega⟩
    obtain ⟨r, h1, h2⟩ := hs i s (by omega) hI
    rcases h2 with ⟨s', rfl, h3⟩ | ⟨x, rfl, h3⟩
    · obtain ⟨x, h4, h5⟩ := ih (i + 1) s' F (by omega) h3 (by omega)
      refine ⟨x, ?_, h5⟩
      unfold lpO
      rw [h1]
      exact h4
    · refine ⟨x, ?_, h3⟩
      unfold lpO
      rw [h1]
      rfl
end Tools
theorem lp_out {σ ρ : Type} {step : σ → Option (σ ⊕ ρ)} {F : Nat} {s : σ} {x : ρ} (h : step s = some (.inr x)) (hF : 0 < F) : lpO step F s = some x := by
  obtain ⟨F, rfl⟩ : ∃ F', F = F' + 1 := ⟨F - 1, by omega⟩
  unfold lpO
  rw [h]
  rfl
theorem lp_in {σ ρ : Type} {step : σ → Option (σ ⊕ ρ)} {F : Nat} {s s' : σ} {x : ρ} (h : step s = some (.inl s')) (k : lpO step F s' = some x) : lpO step (F + 1) s = some x := by
  unfold lpO
  rw [h]
  exact k
theorem mset_get (g : Mem) (k j : Nat) (x : Int32) (k' j' : Nat) : mset g k j x k' j' = if k' = k ∧ j' = j then x else g k' j' := by
  unfold mset mrow upd
  by_cases h : k' = k
  · subst h
    by_cases h2 : j' = j
    · subst h2; simp
    · simp [h2]
  · simp [h]
theorem mset_row (g : Mem) {k k' : Nat} (j : Nat) (x : Int32) (j' : Nat) (h : k' ≠ k) : mset g k j x k' j' = g k' j' := by rw [mset_get, if_neg (fun q => h q.1)]
theorem mset_rowF (g : Mem) {k k' : Nat} (j : Nat) (x : Int32) (h : k' ≠ k) : mset g k j x k' = g k' := funext fun j' => mset_row g j x j' h
theorem inb_nI {k n : Nat} (h : k < n) (hn : n < 2 ^ 31) : inb (nI k) n = true := by
  unfold inb
  rw [nI_clamp (by omega)]
  simp [nI_pos (show k < 2 ^ 31 by omega), h]
theorem rd_lit {g : Mem} {p n : Nat} {i : Int32} (k : Nat) (h : inb i n = true) (hk : i.toNatClampNeg = k) : rd g p n i = some (g p k) := by
  unfold rd; rw [if_pos h, hk]
/-- memories that agree but for the rows of which R speaks -/
def Off (R : Nat → Prop) (g g' : Mem) : Prop := ∀ k, ¬ R k → g' k = g k
theorem Off.rf {R : Nat → Prop} {g : Mem} : Off R g g := fun _ _ => rfl
theorem Off.tr {R : Nat → Prop} {g g' g'' : Mem} (h : Off R g g') (h' : Off R g' g'') : Off R g g'' := fun k hk => (h' k hk).trans (h k hk)
theorem Off.ms {R : Nat → Prop} {g g' : Mem} {k j : Nat} {x : Int32} (h : Off R g g') (hk : R k) : Off R g (mset g' k j x) := fun q hq => by
  have hne : q ≠ k := fun e => hq (by rw [e]; exact hk)
  rw [mset_rowF g' j x hne]
  exact h q hq
theorem Off.mr {R : Nat → Prop} {g g' : Mem} {k : Nat} {f : Nat → Int32} (h : Off R g g') (hk : R k) : Off R g (mrow g' k f) := fun q hq => by
  have hne : q ≠ k := fun e => hq (by rw [e]; exact hk)
  rw [mrow_other g' f hne]
  exact h q hq
theorem Off.sub {R R' : Nat → Prop} {g g' : Mem} (h : Off R g g') (hs : ∀ k, R k → R' k) : Off R' g g' := fun k hk => h k (fun q => hk (hs k q))
theorem isIn_v {x a b : Int64} {g : Mem} : sp_Model_isIn x a b g = some (if a ≤ x ∧ x ≤ b then 1 else 0) := by
  unfold sp_Model_isIn
  by_cases h1 : x < a
  · rw [if_pos ((lg_cmp_lt _ _).mpr h1), if_neg (fun h => absurd h1 (Int64.not_lt.mpr h.1))]
  · rw [if_neg (fun h => h1 ((lg_cmp_lt _ _).mp h))]
    by_cases h2 : b < x
    · rw [if_pos ((lg_cmp_gt _ _).mpr h2), if_neg (fun h => absurd h2 (Int64.not_lt.mpr h.2))]
    · rw [if_neg (fun h => h2 ((lg_cmp_gt _ _).mp h)), if_pos ⟨Int64.not_lt.mp h1, Int64.not_lt.mp h2⟩]
theorem l64 (p q : Int32) : p.toInt64 ≤ q.toInt64 ↔ p ≤ q := by
  rw [Int64.le_iff_toInt_le, Int32.le_iff_toInt_le, Int32.toInt_toInt64, Int32.toInt_toInt64]
theorem no_neg (x : Int64) : ¬ ((0 : Int64) ≤ x ∧ x ≤ ((0 : Int32) - 1).toInt64) := by
  rintro ⟨h1, h2⟩
  exact absurd (Int64.le_trans h1 h2) (by decide)
/-- a row copied, cell by cell -/
theorem t_be {F q0 q0n q1 q1n : Nat} {g : Mem} (hF : q0n < F) (h : q0n ≤ q1n) (hn : q1n < 2 ^ 31) : T (sp_Model_be F q0 q0n q1 q1n g) (fun g' => Off (fun k => k = q0) g g') := by
  unfold sp_Model_be
  refine T.callB (P := fun g' => Off (fun k => k = q0) g g') ?_ (fun v hv => T.some' hv)
  refine T.cnt q0n (fun i s => s.1 = nI i ∧ Off (fun k => k = q0) g s.2) ?_ ?_ q0n 0 _ F (by omega) ⟨rfl, Off.rf⟩ hF
  · rintro i ⟨a, m⟩ hi ⟨rfl, hO⟩
    unfold st_Model_be_2
    refine T.neg (nI_ge hi (by omega)) ?_
    refine T.rdB (inb_nI (by omega) (by omega)) (T.wrB (inb_nI hi (by omega)) (T.some' (Or.inl ⟨_, rfl, nI_1 i, hO.ms rfl⟩)))
  · rintro ⟨a, m⟩ ⟨rfl, hO⟩
    unfold st_Model_be_2
    exact T.pos (nI_le (Nat.le_refl _) (by omega)) (T.some' ⟨_, rfl, hO⟩)
theorem t_pack {F q0 q0n a : Nat} {g : Mem} (hF : 216 < F) (h : a + 231 ≤ q0n) (hn : q0n < 2 ^ 31) : T (sp_Model_pack F q0 q0n (nI a) g) (fun g' => Off (fun k => k = q0) g g') := by
  unfold sp_Model_pack
  have e1 : nI a + 1 = nI (a + 1) := nI_add a 1
  have e2 : nI a + 2 = nI (a + 2) := nI_add a 2
  have e3 : nI a + 3 = nI (a + 3) := nI_add a 3
  have e4 : nI a + 3 + 12 = nI (a + 15) := by rw [e3]; exact nI_add (a + 3) 12
  have e5 : nI a + 3 + 6 = nI (a + 9) := by rw [e3]; exact nI_add (a + 3) 6
  refine T.wrB (inb_nI (by omega) hn) ?_
  refine T.wrB (by rw [e1]; exact inb_nI (by omega) hn) ?_
  refine T.wrB (by rw [e2]; exact inb_nI (by omega) hn) ?_
  refine T.callB (P := fun g' => Off (fun k => k = q0) g g') ?_ (fun v hv => ?_)
  · refine T.cnt 6 (fun i s => s.1 = nI i ∧ Off (fun k => k = q0) g s.2) ?_ ?_ 6 0 _ F (by omega) ⟨rfl, (((Off.rf (R := fun k => k = q0)).ms rfl).ms rfl).ms rfl⟩ (by omega)
    · rintro i ⟨b, m⟩ hi ⟨rfl, hO⟩
      unfold st_Model_pack_27
      refine T.neg (nI_ge hi (by decide)) ?_
      refine T.rdB (inb_nI (by omega) (by omega)) (T.wrB (by show inb (nI a + 3 + nI i) q0n = true; rw [e3, nI_add]; exact inb_nI (by omega) hn) (T.rdB (inb_nI hi (by omega)) (T.wrB (by show inb (nI a + 3 + 6 + nI i) q0n = true; rw [e5, nI_add]; exact inb_nI (by omega) hn) (T.some' (Or.inl ⟨_, rfl, nI_1 i, (hO.ms rfl).ms rfl⟩)))))
    · rintro ⟨b, m⟩ ⟨rfl, hO⟩
      unfold st_Model_pack_27
      exact T.pos (nI_le (Nat.le_refl _) (by decide)) (T.some' ⟨_, rfl, hO⟩)
  · refine T.callB (P := fun g' => Off (fun k => k = q0) g g') ?_ (fun v hv => T.some' hv)
    refine T.cnt 216 (fun i s => s.1 = nI i ∧ Off (fun k => k = q0) g s.2) ?_ ?_ 216 0 _ F (by omega) ⟨rfl, hv⟩ (by omega)
    · rintro i ⟨b, m⟩ hi ⟨rfl, hO⟩
      unfold st_Model_pack_78
      refine T.neg (nI_ge hi (by decide)) ?_
      refine T.rdB (inb_nI (by omega) (by omega)) (T.wrB (by show inb (nI a + 3 + 12 + nI i) q0n = true; rw [e4, nI_add]; exact inb_nI (by omega) hn) (T.some' (Or.inl ⟨_, rfl, nI_1 i, hO.ms rfl⟩)))
    · rintro ⟨b, m⟩ ⟨rfl, hO⟩
      unfold st_Model_pack_78
      exact T.pos (nI_le (Nat.le_refl _) (by decide)) (T.some' ⟨_, rfl, hO⟩)
def RU (k : Nat) : Prop := k = 54 ∨ k = 61 ∨ k = 62 ∨ k = 66
def U54 (g g' : Mem) : Prop := ∀ j, j ≠ 24 → j ≠ 25 → j ≠ 26 → g' 54 j = g 54 j
theorem U54.ms {g g' : Mem} {k j : Nat} {x : Int32} (h : U54 g g') (hk : 54 ≠ k) : U54 g (mset g' k j x) := fun q h1 h2 h3 => by
  rw [mset_row _ _ _ _ hk]; exact h q h1 h2 h3
theorem U54.m {g g' : Mem} {j : Nat} {x : Int32} (h : U54 g g') (hj : j = 24 ∨ j = 25 ∨ j = 26) : U54 g (mset g' 54 j x) := fun q h1 h2 h3 => by
  rw [mset_get, if_neg (fun e => by rcases hj with rfl | rfl | rfl <;> first | exact h1 e.2 | exact h2 e.2 | exact h3 e.2)]; exact h q h1 h2 h3
theorem t_unpack {F q0 q0n a : Nat} {g : Mem} (hF : 216 < F) (h : a + 231 ≤ q0n) (hn : q0n < 2 ^ 31) : T (sp_Model_unpack F q0 q0n (nI a) g) (fun g' => Off RU g g' ∧ U54 g g') := by
  unfold sp_Model_unpack
  have e1 : nI a + 1 = nI (a + 1) := nI_add a 1
  have e2 : nI a + 2 = nI (a + 2) := nI_add a 2
  have e3 : nI a + 3 = nI (a + 3) := nI_add a 3
  have e4 : nI a + 3 + 12 = nI (a + 15) := by rw [e3]; exact nI_add (a + 3) 12
  have e5 : nI a + 3 + 6 = nI (a + 9) := by rw [e3]; exact nI_add (a + 3) 6
  refine T.rdB (inb_nI (by omega) hn) ?_
  refine T.rdB (by rw [e1]; exact inb_nI (by omega) hn) ?_
  refine T.rdB (by rw [e2]; exact inb_nI (by omega) hn) ?_
  refine T.callB (P := fun g' => Off RU g g' ∧ U54 g g') ?_ (fun v hv => ?_)
  · refine T.cnt 6 (fun i s => s.1 = nI i ∧ Off RU g s.2 ∧ U54 g s.2) ?_ ?_ 6 0 _ F (by omega) ⟨rfl, ((Off.rf.ms (Or.inl rfl)).ms (Or.inl rfl)).ms (Or.inl rfl), U54.m (U54.m (U54.m (fun _ _ _ _ => rfl) (Or.inl rfl)) (Or.inr (Or.inl rfl))) (Or.inr (Or.inr rfl))⟩ (by omega)
    · rintro i ⟨b, m⟩ hi ⟨rfl, hO, hU⟩
      unfold st_Model_unpack_27
      refine T.neg (nI_ge hi (by decide)) ?_
      refine T.rdB (by show inb (nI a + 3 + nI i) q0n = true; rw [e3, nI_add]; exact inb_nI (by omega) hn) (T.wrB (inb_nI (by omega) (by omega)) (T.rdB (by show inb (nI a + 3 + 6 + nI i) q0n = true; rw [e5, nI_add]; exact inb_nI (by omega) hn) (T.wrB (inb_nI hi (by omega)) (T.some' (Or.inl ⟨_, rfl, nI_1 i, (hO.ms (Or.inr (Or.inl rfl))).ms (Or.inr (Or.inr (Or.inr rfl))), U54.ms (U54.ms hU (by decide)) (by decide)⟩)))))
    · rintro ⟨b, m⟩ ⟨rfl, hO⟩
      unfold st_Model_unpack_27
      exact T.pos (nI_le (Nat.le_refl _) (by decide)) (T.some' ⟨_, rfl, hO⟩)
  · refine T.callB (P := fun g' => Off RU g g' ∧ U54 g g') ?_ (fun v hv => T.some' hv)
    refine T.cnt 216 (fun i s => s.1 = nI i ∧ Off RU g s.2 ∧ U54 g s.2) ?_ ?_ 216 0 _ F (by omega) ⟨rfl, hv⟩ (by omega)
    · rintro i ⟨b, m⟩ hi ⟨rfl, hO, hU⟩
      unfold st_Model_unpack_78
      refine T.neg (nI_ge hi (by decide)) ?_
      refine T.rdB (by show inb (nI a + 3 + 12 + nI i) q0n = true; rw [e4, nI_add]; exact inb_nI (by omega) hn) (T.wrB (inb_nI (by omega) (by omega)) (T.some' (Or.inl ⟨_, rfl, nI_1 i, hO.ms (Or.inr (Or.inr (Or.inl rfl))), U54.ms hU (by decide)⟩)))
    · rintro ⟨b, m⟩ ⟨rfl, hO⟩
      unfold st_Model_unpack_78
      exact T.pos (nI_le (Nat.le_refl _) (by decide)) (T.some' ⟨_, rfl, hO⟩)
