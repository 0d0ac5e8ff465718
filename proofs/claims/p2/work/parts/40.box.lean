/-! bounds of numbers by intervals; loops; what holds of the memory between calls -/
abbrev B (lo hi : Int) (x : Int32) : Prop := lo ≤ x.toInt ∧ x.toInt ≤ hi
theorem bm32 {z : Int} (h1 : -2147483648 ≤ z) (h2 : z ≤ 2147483647) : z.bmod (2 ^ 32) = z := by
  show z.bmod 4294967296 = z
  exact Int.bmod_eq_of_le (by omega) (by omega)
theorem ilt {x y : Int32} : x < y ↔ x.toInt < y.toInt := Int32.lt_iff_toInt_lt
theorem ile {x y : Int32} : x ≤ y ↔ x.toInt ≤ y.toInt := Int32.le_iff_toInt_le
section Bounds
variable {a b c d l u : Int} {x y : Int32}
theorem B.any (x : Int32) : B (-2147483648) 2147483647 x := ⟨by have := x.le_toInt; omega, by have := x.toInt_lt; omega⟩
theorem B.wk (hx : B a b x) (k : l ≤ a ∧ b ≤ u) : B l u x := ⟨by have := hx.1; omega, by have := hx.2; omega⟩
theorem B.add_eq (hx : B a b x) (hy : B c d y) (h : -2147483648 ≤ a + c ∧ b + d ≤ 2147483647) : (x + y).toInt = x.toInt + y.toInt := by
  obtain ⟨h1, h2⟩ := hx
  obtain ⟨h3, h4⟩ := hy
  rw [Int32.toInt_add]
  exact bm32 (by omega) (by omega)
theorem B.add (hx : B a b x) (hy : B c d y) (k : l ≤ a + c ∧ b + d ≤ u ∧ -2147483648 ≤ a + c ∧ b + d ≤ 2147483647) : B l u (x + y) := by
  have e := B.add_eq hx hy ⟨k.2.2.1, k.2.2.2⟩
  obtain ⟨h1, h2⟩ := hx
  obtain ⟨h3, h4⟩ := hy
  unfold B
  rw [e]
  omega
theorem B.sub_eq (hx : B a b x) (hy : B c d y) (h : -2147483648 ≤ a - d ∧ b - c ≤ 2147483647) : (x - y).toInt = x.toInt - y.toInt := by
  obtain ⟨h1, h2⟩ := hx
  obtain ⟨h3, h4⟩ := hy
  rw [Int32.toInt_sub]
  exact bm32 (by omega) (by omega)
theorem B.sub (hx : B a b x) (hy : B c d y) (k : l ≤ a - d ∧ b - c ≤ u ∧ -2147483648 ≤ a - d ∧ b - c ≤ 2147483647) : B l u (x - y) := by
  have e := B.sub_eq hx hy ⟨k.2.2.1, k.2.2.2⟩
  obtain ⟨h1, h2⟩ := hx
  obtain ⟨h3, h4⟩ := hy
  unfold B
  rw [e]
  omega
theorem B.mul_eq (hx : B a b x) (hy : B c d y) (h : 0 ≤ a ∧ 0 ≤ c ∧ b * d ≤ 2147483647) : (x * y).toInt = x.toInt * y.toInt := by
  obtain ⟨h1, h2⟩ := hx
  obtain ⟨h3, h4⟩ := hy
  have e1 : 0 ≤ x.toInt * y.toInt := Int.mul_nonneg (by omega) (by omega)
  have e2 : x.toInt * y.toInt ≤ b * d := Int.mul_le_mul h2 h4 (by omega) (by omega)
  rw [Int32.toInt_mul]
  exact bm32 (by omega) (by omega)
theorem B.mul (hx : B a b x) (hy : B c d y) (k : 0 ≤ a ∧ 0 ≤ c ∧ l ≤ a * c ∧ b * d ≤ u ∧ b * d ≤ 2147483647) : B l u (x * y) := by
  have e := B.mul_eq hx hy ⟨k.1, k.2.1, k.2.2.2.2⟩
  obtain ⟨h1, h2⟩ := hx
  obtain ⟨h3, h4⟩ := hy
  have e1 : a * c ≤ x.toInt * y.toInt := Int.mul_le_mul h1 h3 k.2.1 (by omega)
  have e2 : x.toInt * y.toInt ≤ b * d := Int.mul_le_mul h2 h4 (by omega) (by omega)
  unfold B
  rw [e]
  omega
theorem B.neg (hx : B a b x) (k : l ≤ -b ∧ -a ≤ u ∧ -b ≥ -2147483648 ∧ -a ≤ 2147483647) : B l u (-x) := by
  obtain ⟨h1, h2⟩ := hx
  have e : (-x).toInt = -x.toInt := by
    rw [Int32.toInt_neg]
    exact bm32 (by omega) (by omega)
  unfold B
  rw [e]
  omega
theorem B.ltl (h : x < y) (hx : B a b x) (hy : B c d y) (k : l ≤ a ∧ d - 1 ≤ u) : B l u x := by
  have := ilt.mp h; obtain ⟨h1, h2⟩ := hx; obtain ⟨h3, h4⟩ := hy; exact ⟨by omega, by omega⟩
theorem B.ltr (h : x < y) (hx : B a b x) (hy : B c d y) (k : l ≤ a + 1 ∧ d ≤ u) : B l u y := by
  have := ilt.mp h; obtain ⟨h1, h2⟩ := hx; obtain ⟨h3, h4⟩ := hy; exact ⟨by omega, by omega⟩
theorem B.lel (h : x ≤ y) (hx : B a b x) (hy : B c d y) (k : l ≤ a ∧ d ≤ u) : B l u x := by
  have := ile.mp h; obtain ⟨h1, h2⟩ := hx; obtain ⟨h3, h4⟩ := hy; exact ⟨by omega, by omega⟩
theorem B.ler (h : x ≤ y) (hx : B a b x) (hy : B c d y) (k : l ≤ a ∧ d ≤ u) : B l u y := by
  have := ile.mp h; obtain ⟨h1, h2⟩ := hx; obtain ⟨h3, h4⟩ := hy; exact ⟨by omega, by omega⟩
theorem B.nltl (h : ¬ x < y) (hx : B a b x) (hy : B c d y) (k : l ≤ c ∧ b ≤ u) : B l u x := by
  have : ¬ x.toInt < y.toInt := fun q => h (ilt.mpr q)
  obtain ⟨h1, h2⟩ := hx; obtain ⟨h3, h4⟩ := hy; exact ⟨by omega, by omega⟩
theorem B.nltr (h : ¬ x < y) (hx : B a b x) (hy : B c d y) (k : l ≤ c ∧ b ≤ u) : B l u y := by
  have : ¬ x.toInt < y.toInt := fun q => h (ilt.mpr q)
  obtain ⟨h1, h2⟩ := hx; obtain ⟨h3, h4⟩ := hy; exact ⟨by omega, by omega⟩
theorem B.nlel (h : ¬ x ≤ y) (hx : B a b x) (hy : B c d y) (k : l ≤ c + 1 ∧ b ≤ u) : B l u x := by
  have : ¬ x.toInt ≤ y.toInt := fun q => h (ile.mpr q)
  obtain ⟨h1, h2⟩ := hx; obtain ⟨h3, h4⟩ := hy; exact ⟨by omega, by omega⟩
theorem B.nler (h : ¬ x ≤ y) (hx : B a b x) (hy : B c d y) (k : l ≤ c ∧ b - 1 ≤ u) : B l u y := by
  have : ¬ x.toInt ≤ y.toInt := fun q => h (ile.mpr q)
  obtain ⟨h1, h2⟩ := hx; obtain ⟨h3, h4⟩ := hy; exact ⟨by omega, by omega⟩
theorem B.eql (h : x = y) (_hx : B a b x) (hy : B c d y) (k : l ≤ c ∧ d ≤ u) : B l u x := by
  subst h; exact hy.wk k
theorem B.eqr (h : x = y) (hx : B a b x) (_hy : B c d y) (k : l ≤ a ∧ b ≤ u) : B l u y := by
  subst h; exact hx.wk k
theorem B.nelo (h : ¬ x = y) (hx : B a b x) (hy : B c d y) (k : c = a ∧ d = a ∧ l ≤ a + 1 ∧ b ≤ u) : B l u x := by
  have : ¬ x.toInt = y.toInt := fun q => h (Int32.toInt_inj.mp q)
  obtain ⟨h1, h2⟩ := hx; obtain ⟨h3, h4⟩ := hy; exact ⟨by omega, by omega⟩
theorem B.nehi (h : ¬ x = y) (hx : B a b x) (hy : B c d y) (k : c = b ∧ d = b ∧ l ≤ a ∧ b - 1 ≤ u) : B l u x := by
  have : ¬ x.toInt = y.toInt := fun q => h (Int32.toInt_inj.mp q)
  obtain ⟨h1, h2⟩ := hx; obtain ⟨h3, h4⟩ := hy; exact ⟨by omega, by omega⟩
theorem B.nat (hx : B a b x) (k : 0 ≤ a) : (x.toNatClampNeg : Int) = x.toInt := by
  rw [← Int32.toNat_toInt]
  have := hx.1
  omega
theorem B.ib {n : Nat} (hx : B a b x) (k : 0 ≤ a ∧ b < (n : Int)) : inb x n = true := by
  have e := hx.nat k.1
  obtain ⟨h1, h2⟩ := hx
  have h3 : ¬ x < 0 := fun q => by
    have := ilt.mp q
    have e0 : (0 : Int32).toInt = 0 := by decide
    omega
  unfold inb
  simp only [Bool.and_eq_true, Bool.not_eq_true', decide_eq_false_iff_not, decide_eq_true_eq]
  exact ⟨h3, by omega⟩
theorem B.cp {a' b' m0 m1 : Int} {m : Int32} {n0 n1 : Nat} (hx : B a b x) (hy : B a' b' y) (hm : B m0 m1 m) (k : 0 ≤ a ∧ 0 ≤ a' ∧ 0 ≤ m0 ∧ b + m1 ≤ (n0 : Int) ∧ b' + m1 ≤ (n1 : Int)) : cpk x y m n0 n1 = true := by
  have e1 := hx.nat k.1
  have e2 := hy.nat k.2.1
  have e3 := hm.nat k.2.2.1
  obtain ⟨h1, h2⟩ := hx
  obtain ⟨h3, h4⟩ := hy
  obtain ⟨h5, h6⟩ := hm
  have e0 : (0 : Int32).toInt = 0 := by decide
  have n1' : ¬ x < 0 := fun q => by have := ilt.mp q; omega
  have n2' : ¬ y < 0 := fun q => by have := ilt.mp q; omega
  have n3' : ¬ m < 0 := fun q => by have := ilt.mp q; omega
  unfold cpk
  simp only [Bool.and_eq_true, Bool.not_eq_true', decide_eq_false_iff_not, decide_eq_true_eq]
  exact ⟨n1', n2', n3', by omega, by omega⟩
theorem B.boo (h : B 0 1 x) : x = 0 ∨ x = 1 := by
  obtain ⟨h1, h2⟩ := h
  have : x.toInt = 0 ∨ x.toInt = 1 := by omega
  rcases this with h | h
  · exact Or.inl (Int32.toInt_inj.mp (h.trans (by decide)))
  · exact Or.inr (Int32.toInt_inj.mp (h.trans (by decide)))
end Bounds
section Ts
variable {α β σ ρ : Type} {Q : β → Prop}
theorem T.rdU {g : Mem} {p n : Nat} {i : Int32} {f : Int32 → Option β} (h : inb i n = true) (k : ∀ v, T (f v) Q) : T ((rd g p n i).bind f) Q := T.rdB h (k _)
theorem T.rdK {g : Mem} {p n : Nat} {i : Int32} {f : Int32 → Option β} (j : Nat) {P : Int32 → Prop} (h : inb i n = true) (hj : i.toNatClampNeg = j) (hP : P (g p j)) (k : ∀ v, P v → T (f v) Q) : T ((rd g p n i).bind f) Q := T.rdB h (k _ (by rw [hj]; exact hP))
theorem T.wrI {g : Mem} {p n : Nat} {i v : Int32} {f : Mem → Option β} {I : Mem → Prop} (h : inb i n = true) (hI : I (mset g p i.toNatClampNeg v)) (k : ∀ g', I g' → T (f g') Q) : T ((wr g p n i v).bind f) Q := T.wrB h (k _ hI)
theorem T.cyI {g : Mem} {k0 n0 k1 n1 : Nat} {sp dp m : Int32} {f : Mem → Option β} {I : Mem → Prop} (h : cpk sp dp m n0 n1 = true) (hI : I (mrow g k1 (va_cpy (g k0) (g k1) sp.toNatClampNeg dp.toNatClampNeg m.toNatClampNeg))) (k : ∀ g', I g' → T (f g') Q) : T ((cy g k0 n0 sp k1 n1 dp m).bind f) Q := T.cyB h (k _ hI)
theorem T.dvU {x y : Int32} {f : Int32 → Option β} (h : ¬ y = 0) (k : ∀ v, T (f v) Q) : T ((dv x y).bind f) Q := by
  unfold dv
  rw [if_neg h]
  exact k _
theorem T.rmU {x y : Int32} {f : Int32 → Option β} (h : ¬ y = 0) (k : ∀ v, T (f v) Q) : T ((rm x y).bind f) Q := by
  unfold rm
  rw [if_neg h]
  exact k _
theorem T.blU {x : Int32} {f : Int32 → Option β} (h : B 0 1 x) (k : ∀ v, B 0 1 v → T (f v) Q) : T ((bl x).bind f) Q := by
  unfold bl
  rw [if_pos h.boo]
  exact k _ h
theorem T.soU {x : α} {f : α → Option β} (k : ∀ v, T (f v) Q) : T ((some x).bind f) Q := k x
theorem T.nz {a b : Int} {y : Int32} (h : B a b y) (k : 0 < a ∨ b < 0) : ¬ y = 0 := fun q => by
  subst q
  have e0 : (0 : Int32).toInt = 0 := by decide
  obtain ⟨h1, h2⟩ := h
  omega
/-- a loop with a measure -/
theorem T.lpm {step : σ → Option (σ ⊕ β)} {J : σ → Prop} (μ : σ → Nat) (hs : ∀ s, J s → T (step s) (fun r => match r with | .inl s' => J s' ∧ μ s' < μ s | .inr x => Q x)) : ∀ (F : Nat) (s : σ), J s → μ s < F → T (lpO step F s) Q := by
  intro F
  induction F with
  | zero => intro s _ h; exact absurd h (Nat.not_lt_zero _)
  | succ F ih =>
    intro s hJ hF
    obtain ⟨r, h1, h2⟩ := hs s hJ
    cases r with
    | inl s' =>
      obtain ⟨x, h3, h4⟩ := ih s' h2.1 (by have := h2.2; omega)
      refine ⟨x, ?_, h4⟩
      unfold lpO
      rw [h1]
      exact h3
    | inr x =>
      refine ⟨x, ?_, h2⟩
      unfold lpO
      rw [h1]
      rfl
/-- what one turn of a loop that counts upwards does -/
def LQ (J : σ → Prop) (R : ρ → Prop) (c : σ → Int32) (z : Int32) : σ ⊕ ρ → Prop
  | .inl s' => J s' ∧ c s' = z + 1
  | .inr x => R x
theorem T.lpc {step : σ → Option (σ ⊕ β)} {J : σ → Prop} (c : σ → Int32) (lo hi : Int) (hh : (hi < 2147483647 ∨ -2147483648 < lo) ∧ hi ≤ 2147483647) (hc : ∀ s, J s → B lo hi (c s)) (hs : ∀ s, J s → T (step s) (LQ J Q c (c s))) (F : Nat) (s : σ) (hJ : J s) (hF : 4294967296 < F) : T (lpO step F s) Q := by
  refine T.lpm (J := J) (fun s => (hi - (c s).toInt).toNat) (fun s hJ => ?_) F s hJ ?_
  · refine T.mono (hs s hJ) (fun r hr => ?_)
    cases r with
    | inl s' =>
      obtain ⟨h1, h2⟩ := hr
      refine ⟨h1, ?_⟩
      have b1 := hc s hJ
      have b2 := hc s' h1
      have e0 : (1 : Int32).toInt = 1 := by decide
      have h0 := B.any (c s)
      have e1 : (c s + 1).toInt = (c s).toInt + 1 := by
        by_cases hm : (c s).toInt = 2147483647
        · exfalso
          have hz : (c s + 1).toInt = -2147483648 := by
            rw [Int32.toInt_add, hm, e0]
            decide
          rw [h2] at b2
          have b21 := b2.1
          have b12 := b1.2
          have := hh.1
          omega
        · rw [Int32.toInt_add, e0]
          exact bm32 (by have := h0.1; omega) (by have := h0.2; omega)
      rw [h2] at b2
      have b12 := b1.2
      have b22 := b2.2
      rw [e1] at b22
      show (hi - (c s').toInt).toNat < (hi - (c s).toInt).toNat
      rw [h2, e1]
      omega
    | inr x => exact hr
  · have b1 := hc s hJ
    have h1 := (B.any (c s)).1
    have h3 := (B.any (c s)).2
    have h2 := b1.2
    show (hi - (c s).toInt).toNat < F
    have := hh.2
    omega
def XQ (P : α → Prop) (E : Nat → Prop) : α ⊕ Nat → Prop
  | .inl v => P v
  | .inr e => E e
end Ts
theorem B.ex {x : Int32} {lo hi : Int} (h : B lo hi x) (k : 0 ≤ lo) : ∃ a : Nat, a < 2 ^ 31 ∧ x = nI a ∧ lo ≤ (a : Int) ∧ (a : Int) ≤ hi := by
  have h0 : ¬ x < 0 := fun q => by
    have := ilt.mp q
    have e0 : (0 : Int32).toInt = 0 := by decide
    have := h.1
    omega
  obtain ⟨j, hj, rfl⟩ := nI_of h0
  obtain ⟨h1, h2⟩ := h
  rw [nI_toInt hj] at h1 h2
  exact ⟨j, hj, rfl, h1, h2⟩
theorem ofB {n : Nat} (h : n < 2147483648) : B n n (Int32.ofNat n) := by
  have e : (Int32.ofNat n).toInt = n := Int32.toInt_ofNat_of_lt h
  exact ⟨by omega, by omega⟩
theorem B.mset_s {l u : Int} {g : Mem} {p j : Nat} {x : Int32} (h : B l u x) : B l u (mset g p j x p j) := by
  rw [mset_get, if_pos ⟨rfl, rfl⟩]
  exact h
theorem B.mset_o {l u : Int} {g : Mem} {p j p' j' : Nat} {x : Int32} (hne : ¬ (p' = p ∧ j' = j)) (h : B l u (g p' j')) : B l u (mset g p j x p' j') := by
  rw [mset_get, if_neg hne]
  exact h
section Dead
variable {a b c d : Int} {x y : Int32}
theorem B.no_lt (hx : B a b x) (hy : B c d y) (k : d ≤ a) : ¬ x < y := fun h => by
  have := ilt.mp h; have := hx.1; have := hy.2; omega
theorem B.yes_lt (hx : B a b x) (hy : B c d y) (k : b < c) : x < y := ilt.mpr (by have := hx.2; have := hy.1; omega)
theorem B.no_le (hx : B a b x) (hy : B c d y) (k : d < a) : ¬ x ≤ y := fun h => by
  have := ile.mp h; have := hx.1; have := hy.2; omega
theorem B.yes_le (hx : B a b x) (hy : B c d y) (k : b ≤ c) : x ≤ y := ile.mpr (by have := hx.2; have := hy.1; omega)
theorem B.no_eq (hx : B a b x) (hy : B c d y) (k : b < c ∨ d < a) : ¬ x = y := fun h => by
  subst h; have := hx.1; have := hx.2; have := hy.1; have := hy.2; omega
theorem B.yes_eq (hx : B a b x) (hy : B c d y) (k : a = b ∧ c = d ∧ a = c) : x = y := Int32.toInt_inj.mp (by have := hx.1; have := hx.2; have := hy.1; have := hy.2; omega)
end Dead
theorem b01 : B 0 1 (0 : Int32) := ⟨by decide, by decide⟩
theorem b11 : B 0 1 (1 : Int32) := ⟨by decide, by decide⟩
theorem CE_cp {f h : Nat → Int32} {sp dp m : Int32} (hf : ∀ j, j % 8 = 1 → B 0 5 (f j)) (hh : ∀ j, j % 8 = 1 → B 0 5 (h j)) (k : sp.toNatClampNeg % 8 = dp.toNatClampNeg % 8) : ∀ j, j % 8 = 1 → B 0 5 (va_cpy f h sp.toNatClampNeg dp.toNatClampNeg m.toNatClampNeg j) := fun j hj => by
  unfold va_cpy
  split
  · exact hf _ (by omega)
  · exact hh _ hj
theorem RO_cp {f h : Nat → Int32} {sp dp m : Int32} (hf : ∀ j, j % 16 = 1 → B 0 24 (f j)) (hh : ∀ j, j % 16 = 1 → B 0 24 (h j)) (k : sp.toNatClampNeg % 16 = dp.toNatClampNeg % 16) : ∀ j, j % 16 = 1 → B 0 24 (va_cpy f h sp.toNatClampNeg dp.toNatClampNeg m.toNatClampNeg j) := fun j hj => by
  unfold va_cpy
  split
  · exact hf _ (by omega)
  · exact hh _ hj
theorem idxR {x c : Int32} (hx : B 0 23 x) (hc : B 0 7 c) : B 0 191 (x * 8 + c) ∧ ((x * 8 + c).toNatClampNeg : Int) = 8 * x.toInt + c.toInt := by
  have h8 : B 8 8 (8 : Int32) := ⟨by decide, by decide⟩
  have hm : B 0 184 (x * 8) := B.mul hx h8 (by decide)
  have hs : B 0 191 (x * 8 + c) := B.add hm hc (by decide)
  refine ⟨hs, ?_⟩
  have e1 := B.mul_eq hx h8 (by decide)
  have e2 := B.add_eq hm hc (by decide)
  have e8 : (8 : Int32).toInt = 8 := by decide
  rw [hs.nat (by decide), e2, e1, e8]
  omega
theorem idxM {x c : Int32} (hx : B 0 47 x) (hc : B 0 8 c) : B 0 431 (9 * x + c) ∧ ((9 * x + c).toNatClampNeg : Int) = 9 * x.toInt + c.toInt := by
  have h8 : B 9 9 (9 : Int32) := ⟨by decide, by decide⟩
  have hm : B 0 423 (9 * x) := B.mul h8 hx (by decide)
  have hs : B 0 431 (9 * x + c) := B.add hm hc (by decide)
  refine ⟨hs, ?_⟩
  have e1 := B.mul_eq h8 hx (by decide)
  have e2 := B.add_eq hm hc (by decide)
  have e8 : (9 : Int32).toInt = 9 := by decide
  rw [hs.nat (by decide), e2, e1, e8]
theorem mul231 {y : Int32} (h : B 0 39 y) : (231 * y).toNatClampNeg % 231 = 0 := by
  have h8 : B 231 231 (231 : Int32) := ⟨by decide, by decide⟩
  have hm : B 0 9009 (231 * y) := B.mul h8 h (by decide)
  have e1 := B.mul_eq h8 h (by decide)
  have e2 := hm.nat (by decide)
  have e8 : (231 : Int32).toInt = 231 := by decide
  rw [e1, e8] at e2
  have := h.1
  omega
theorem mul16 {y : Int32} (h : B 0 39 y) : B 0 624 (y * 16) ∧ (y * 16).toNatClampNeg % 16 = 0 := by
  have h8 : B 16 16 (16 : Int32) := ⟨by decide, by decide⟩
  have hm : B 0 624 (y * 16) := B.mul h h8 (by decide)
  refine ⟨hm, ?_⟩
  have e1 := B.mul_eq h h8 (by decide)
  have e2 := hm.nat (by decide)
  have e8 : (16 : Int32).toInt = 16 := by decide
  rw [e1, e8] at e2
  have := h.1
  omega
def HX (L : Nat) (i : Int32) : Prop := inb (i + 1) L = true ∧ inb (i + 2) L = true ∧ inb (i + 3) L = true ∧ inb (i + 4) L = true ∧ inb (i + 5) L = true
theorem T.rxB {β : Type} {Q : β → Prop} {L : Nat} {xs : Nat → Int32} {i : Int32} {f : Int32 → Option β} (h : inb i L = true) (k : T (f (xs i.toNatClampNeg)) Q) : T ((rx L xs i).bind f) Q := by
  unfold rx
  rw [if_pos h]
  exact k
theorem T.rxU {β : Type} {Q : β → Prop} {L : Nat} {xs : Nat → Int32} {i : Int32} {f : Int32 → Option β} (h : inb i L = true) (k : ∀ v, T (f v) Q) : T ((rx L xs i).bind f) Q := T.rxB h (k _)
