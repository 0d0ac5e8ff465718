/-! what the written functions are made of: reads, writes, loops by fuel -/
theorem bnd {α β : Type} {x : Option α} {f : α → Option β} {r : β} (h : x.bind f = some r) : ∃ v, x = some v ∧ f v = some r := Option.bind_eq_some_iff.mp h
def rd (g : Mem) (p n : Nat) (i : Int32) : Option Int32 := if inb i n = true then some (g p i.toNatClampNeg) else none
def wr (g : Mem) (p n : Nat) (i v : Int32) : Option Mem := if inb i n = true then some (mset g p i.toNatClampNeg v) else none
def dv (x y : Int32) : Option Int32 := if y = 0 then none else some (x / y)
def rm (x y : Int32) : Option Int32 := if y = 0 then none else some (x - x / y * y)
def cy (g : Mem) (k0 n0 : Nat) (sp : Int32) (k1 n1 : Nat) (dp m : Int32) : Option Mem := if cpk sp dp m n0 n1 = true then some (mrow g k1 (va_cpy (g k0) (g k1) sp.toNatClampNeg dp.toNatClampNeg m.toNatClampNeg)) else none
theorem rd_ok {g : Mem} {p n : Nat} {i v : Int32} (h : rd g p n i = some v) : inb i n = true ∧ g p i.toNatClampNeg = v := by
  unfold rd at h
  split at h
  · rename_i h1; exact ⟨h1, Option.some.inj h⟩
  · cases h
theorem wr_ok {g g' : Mem} {p n : Nat} {i v : Int32} (h : wr g p n i v = some g') : inb i n = true ∧ mset g p i.toNatClampNeg v = g' := by
  unfold wr at h
  split at h
  · rename_i h1; exact ⟨h1, Option.some.inj h⟩
  · cases h
theorem dv_ok {x y v : Int32} (h : dv x y = some v) : ¬ y = 0 ∧ x / y = v := by
  unfold dv at h
  split at h
  · cases h
  · rename_i h1; exact ⟨h1, Option.some.inj h⟩
theorem rm_ok {x y v : Int32} (h : rm x y = some v) : ¬ y = 0 ∧ x - x / y * y = v := by
  unfold rm at h
  split at h
  · cases h
  · rename_i h1; exact ⟨h1, Option.some.inj h⟩
theorem cy_ok {g g' : Mem} {k0 n0 k1 n1 : Nat} {sp dp m : Int32} (h : cy g k0 n0 sp k1 n1 dp m = some g') : cpk sp dp m n0 n1 = true ∧ mrow g k1 (va_cpy (g k0) (g k1) sp.toNatClampNeg dp.toNatClampNeg m.toNatClampNeg) = g' := by
  unfold cy at h
  split at h
  · rename_i h1; exact ⟨h1, Option.some.inj h⟩
  · cases h
def lpO {σ ρ : Type} (step : σ → Option (σ ⊕ ρ)) : Nat → σ → Option ρ
  | 0, _ => none
  | f + 1, s => (step s).bind fun r => match r with
    | .inl s' => lpO step f s'
    | .inr x => some x
def RQ {σ ρ : Type} (P : σ → Prop) (Q : ρ → Prop) (r : σ ⊕ ρ) : Prop := match r with
  | .inl s' => P s'
  | .inr x => Q x
theorem lp_ok {σ ρ : Type} {step : σ → Option (σ ⊕ ρ)} {P : σ → Prop} {Q : ρ → Prop} (hs : ∀ s r, step s = some r → RQ P Q r → P s) : ∀ (f : Nat) (s : σ) (x : ρ), lpO step f s = some x → Q x → P s := by
  intro f
  induction f with
  | zero => intro s x h; cases h
  | succ f ih =>
    intro s x h hx
    obtain ⟨r, h1, h2⟩ := bnd h
    refine hs s r h1 ?_
    cases r with
    | inl s' => exact ih s' x h2 hx
    | inr y => cases h2; exact hx
theorem bz (b : Nat × Nat) : b = ((0, 0).1 + b.1, (0, 0).2 + b.2) := by simp
theorem cat0 {b : Nat} : 0 ≤ b := Nat.zero_le b
abbrev isA (sh : List Sh) (p n : Nat) : Prop := sh[p]? = some (1, 0, [], n) ∧ p < 1048576
abbrev isB (sh : List Sh) (p n : Nat) : Prop := sh[p]? = some (1, 1, [], n) ∧ p < 1048576
theorem leb {a b : Nat} (h : Nat.ble a b = true) : a ≤ b := Nat.le_of_ble_eq_true h
/-- a method that may throw: how it ends, what it costs -/
def exS9 : Nat → String
  | 0 => "java/lang/IllegalArgumentException"
  | _ => "java/util/NoSuchElementException"
def bO {α : Type} : α ⊕ Nat → Nat × Nat
  | .inl _ => (0, 0)
  | .inr _ => (1, 6)
def pPI (sh : List Sh) (g : Mem) (tt : Bool) : Int32 ⊕ Nat → PO
  | .inl r => pI sh r g tt
  | .inr e => pX sh (exS9 e) g
def pPV (sh : List Sh) (g : Mem) (tt : Bool) : Unit ⊕ Nat → PO
  | .inl _ => pV sh g tt
  | .inr e => pX sh (exS9 e) g
def pEI (sh : List Sh) (g : Mem) (tt : Bool) : (Int32 × Mem) ⊕ Nat → PO
  | .inl r => pI sh r.1 r.2 tt
  | .inr e => pX sh (exS9 e) g
