/-! what holds of the memory between calls, and inside them -/
def cons : List (Nat × Nat × Int × Int) := [(4, 0, 0, 6), (15, 0, 0, 6), (8, 3, 0, 700), (19, 3, 0, 700), (12, 4, 0, 24), (23, 4, 0, 24), (39, 4, 0, 24), (50, 4, 0, 24), (26, 1, 0, 40), (33, 1, 0, 40), (28, 2, 0, 8), (35, 2, 0, 8), (54, 26, 0, 24), (54, 27, 0, 40), (54, 28, 0, 8), (54, 36, 0, 40), (54, 37, 0, 8)]
def stru : List Nat := [7, 18, 32, 27, 34, 62, 67, 70, 73, 74, 58, 63]
def free (p j : Nat) : Bool := !(stru.elem p) && (!(p == 3) && (!(p == 0 && j == 1) && (!(p == 54 && j == 12) && cons.all (fun c => !(c.1 == p && c.2.1 == j)))))
def freeP (p : Nat) : Bool := !(stru.elem p) && (!(p == 3) && (!(p == 0) && (!(p == 54) && cons.all (fun c => !(c.1 == p)))))
def putK (p j : Nat) (lo hi : Int) : Bool := !(stru.elem p) && (!(p == 3) && (!(p == 0 && j == 1) && (!(p == 54 && j == 12) && cons.all (fun c => !(c.1 == p && c.2.1 == j) || (c.2.2.1 == lo && c.2.2.2 == hi)))))
def CE (f : Nat → Int32) : Prop := ∀ j, j % 8 = 1 → B 0 5 (f j)
def RO (f : Nat → Int32) : Prop := ∀ j, j % 16 = 1 → B 0 24 (f j)
def EN (f : Nat → Int32) : Prop := ∀ j, j % 9 = 1 → B 0 5 (f j)
def PA (f : Nat → Int32) : Prop := ∀ j, (j % 231 = 2 → B 0 24 (f j)) ∧ (15 ≤ j % 231 → (j % 231 - 15) % 9 = 1 → B 0 5 (f j))
def TO (f : Nat → Int32) : Prop := B 0 6 (f 0) ∧ B 1 9 (f 3) ∧ B 0 24 (f 4) ∧ B 0 700 (f 5) ∧ B 0 6 (f 6) ∧ B 0 24 (f 10) ∧ B 0 700 (f 11)
/-- the height of the stack behind the first k signs of a rule, if it never fails -/
def stp (x : Int32) (h : Nat) : Option Nat := if (-20 : Int32) < x then (if h < 64 ∧ (-7 : Int32) ≤ x then some (h + 1) else none) else if x = -28 then (if 1 ≤ h then some h else none) else (if 2 ≤ h then some (h - 1) else none)
def hgt (f : Nat → Int32) : Nat → Option Nat
  | 0 => some 0
  | k + 1 => (hgt f k).bind (stp (f k))
def RUq (t s : Nat → Int32) : Prop := ∃ H, hgt s (t 5).toNatClampNeg = some H
/-- the lengths of both tapes, the reader's row: what only few calls change -/
abbrev Zt : Type := Int32 × Int32 × (Nat → Int32)
def Inv (z : Zt) (g : Mem) : Prop := (g 0 1 = z.1 ∧ g 3 = z.2.2) ∧ g 54 12 = z.2.1 ∧ (∀ c ∈ cons, B c.2.2.1 c.2.2.2 (g c.1 c.2.1)) ∧ (CE (g 7) ∧ CE (g 18) ∧ CE (g 32)) ∧ (RO (g 27) ∧ RO (g 34)) ∧ EN (g 62) ∧ (PA (g 67) ∧ PA (g 70) ∧ PA (g 73) ∧ PA (g 74)) ∧ TO (g 58) ∧ RUq (g 58) (g 63)
section Invs
variable {z : Zt} {g g' : Mem} {p j : Nat} {x : Int32} {lo hi : Int}
theorem Inv.of (h : Inv z g) (h1 : g' 0 1 = g 0 1) (h3 : g' 3 = g 3) (h2 : g' 54 12 = g 54 12) (hc : ∀ c ∈ cons, B c.2.2.1 c.2.2.2 (g' c.1 c.2.1)) (hs : ∀ q ∈ stru, g' q = g q) : Inv z g' := by
  obtain ⟨⟨a1, a3⟩, a2, -, ⟨b1, b2, b3⟩, ⟨c1, c2⟩, d1, ⟨e1, e2, e3, e4⟩, f1, f2⟩ := h
  rw [← h1] at a1
  rw [← h3] at a3
  rw [← h2] at a2
  rw [← hs 7 (by decide)] at b1
  rw [← hs 18 (by decide)] at b2
  rw [← hs 32 (by decide)] at b3
  rw [← hs 27 (by decide)] at c1
  rw [← hs 34 (by decide)] at c2
  rw [← hs 62 (by decide)] at d1
  rw [← hs 67 (by decide)] at e1
  rw [← hs 70 (by decide)] at e2
  rw [← hs 73 (by decide)] at e3
  rw [← hs 74 (by decide)] at e4
  rw [← hs 58 (by decide)] at f1 f2
  rw [← hs 63 (by decide)] at f2
  exact ⟨⟨a1, a3⟩, a2, hc, ⟨b1, b2, b3⟩, ⟨c1, c2⟩, d1, ⟨e1, e2, e3, e4⟩, f1, f2⟩
theorem stru_ne {q : Nat} (hp : (!(stru.elem p)) = true) (hq : q ∈ stru) : q ≠ p := fun e => by
  subst e
  have h2 := List.elem_eq_true_of_mem hq
  rw [h2] at hp
  cases hp
theorem Inv.put (h : Inv z g) (hf : putK p j lo hi = true) (hx : B lo hi x) : Inv z (mset g p j x) := by
  unfold putK at hf
  rw [Bool.and_eq_true, Bool.and_eq_true, Bool.and_eq_true, Bool.and_eq_true] at hf
  obtain ⟨hp, h3, h01, h54, hc⟩ := hf
  refine h.of ?_ (mset_rowF g j x (fun e => by subst e; cases h3)) ?_ (fun c hm => ?_) (fun q hq => mset_rowF g j x (stru_ne hp hq))
  · rw [mset_get]
    refine if_neg (fun e => ?_)
    obtain ⟨rfl, rfl⟩ := e
    cases h01
  · rw [mset_get]
    refine if_neg (fun e => ?_)
    obtain ⟨rfl, rfl⟩ := e
    cases h54
  · have h9 := List.all_eq_true.mp hc c hm
    rw [mset_get]
    split
    · rename_i e
      rw [Bool.or_eq_true] at h9
      rcases h9 with h9 | h9
      · rw [e.1, e.2] at h9
        simp at h9
      · rw [Bool.and_eq_true] at h9
        rw [beq_iff_eq.mp h9.1, beq_iff_eq.mp h9.2]
        exact hx
    · exact h.2.2.1 c hm
theorem Inv.fre (h : Inv z g) (hf : free p j = true) : Inv z (mset g p j x) := by
  unfold free at hf
  rw [Bool.and_eq_true, Bool.and_eq_true, Bool.and_eq_true, Bool.and_eq_true] at hf
  obtain ⟨hp, h3, h01, h54, hc⟩ := hf
  refine h.of ?_ (mset_rowF g j x (fun e => by subst e; cases h3)) ?_ (fun c hm => ?_) (fun q hq => mset_rowF g j x (stru_ne hp hq))
  · rw [mset_get]
    refine if_neg (fun e => ?_)
    obtain ⟨rfl, rfl⟩ := e
    cases h01
  · rw [mset_get]
    refine if_neg (fun e => ?_)
    obtain ⟨rfl, rfl⟩ := e
    cases h54
  · have h9 := List.all_eq_true.mp hc c hm
    rw [mset_get]
    split
    · rename_i e
      rw [e.1, e.2] at h9
      simp at h9
    · exact h.2.2.1 c hm
theorem Inv.frr {f : Nat → Int32} (h : Inv z g) (hf : freeP p = true) : Inv z (mrow g p f) := by
  unfold freeP at hf
  rw [Bool.and_eq_true, Bool.and_eq_true, Bool.and_eq_true, Bool.and_eq_true] at hf
  obtain ⟨hp, h3, h0, h54, hc⟩ := hf
  refine h.of ?_ (mrow_other g f (fun e => by subst e; cases h3)) ?_ (fun c hm => ?_) (fun q hq => mrow_other g f (stru_ne hp hq))
  · rw [mrow_other g f (fun e => by subst e; cases h0)]
  · rw [mrow_other g f (fun e => by subst e; cases h54)]
  · have h9 := List.all_eq_true.mp hc c hm
    rw [mrow_other g f (fun e => by rw [e] at h9; simp at h9)]
    exact h.2.2.1 c hm
theorem Inv.fra (h : Inv z g) (hf : freeP p = true) : Inv z (mset g p j x) := h.frr hf
theorem Inv.at (h : Inv z g) (hm : (p, j, lo, hi) ∈ cons) : B lo hi (g p j) := h.2.2.1 _ hm
theorem Inv.many (h : Inv z g) : B 0 24 (g 54 26) := h.at (by decide)
theorem Inv.acts (h : Inv z g) : B 0 40 (g 54 27) := h.at (by decide)
theorem Inv.seen (h : Inv z g) : B 0 8 (g 54 28) := h.at (by decide)
theorem Inv.actsT (h : Inv z g) : B 0 40 (g 54 36) := h.at (by decide)
theorem Inv.seenT (h : Inv z g) : B 0 8 (g 54 37) := h.at (by decide)
theorem Inv.to (h : Inv z g) : TO (g 58) := h.2.2.2.2.2.2.2.1
theorem Inv.told0 (h : Inv z g) : B 0 6 (g 58 0) := h.to.1
theorem Inv.told3 (h : Inv z g) : B 1 9 (g 58 3) := h.to.2.1
theorem Inv.told4 (h : Inv z g) : B 0 24 (g 58 4) := h.to.2.2.1
theorem Inv.told5 (h : Inv z g) : B 0 700 (g 58 5) := h.to.2.2.2.1
theorem Inv.told6 (h : Inv z g) : B 0 6 (g 58 6) := h.to.2.2.2.2.1
theorem Inv.told10 (h : Inv z g) : B 0 24 (g 58 10) := h.to.2.2.2.2.2.1
theorem Inv.told11 (h : Inv z g) : B 0 700 (g 58 11) := h.to.2.2.2.2.2.2
theorem Inv.en (h : Inv z g) : EN (g 62) := h.2.2.2.2.2.1
theorem Inv.p_many (h : Inv z g) (hx : B 0 24 x) : Inv z (mset g 54 26 x) := h.put (lo := 0) (hi := 24) (by decide) hx
theorem Inv.p_acts (h : Inv z g) (hx : B 0 40 x) : Inv z (mset g 54 27 x) := h.put (lo := 0) (hi := 40) (by decide) hx
theorem Inv.p_seen (h : Inv z g) (hx : B 0 8 x) : Inv z (mset g 54 28 x) := h.put (lo := 0) (hi := 8) (by decide) hx
theorem Inv.p_actsT (h : Inv z g) (hx : B 0 40 x) : Inv z (mset g 54 36 x) := h.put (lo := 0) (hi := 40) (by decide) hx
theorem Inv.p_seenT (h : Inv z g) (hx : B 0 8 x) : Inv z (mset g 54 37 x) := h.put (lo := 0) (hi := 8) (by decide) hx
def HP (ha ro : Nat) : Prop := (ha = 12 ∧ ro = 4) ∨ (ha = 23 ∧ ro = 15) ∨ (ha = 39 ∧ ro = 15) ∨ (ha = 50 ∧ ro = 15)
def RP (ro : Nat) : Prop := ro = 4 ∨ ro = 15
def UP (ru : Nat) : Prop := ru = 8 ∨ ru = 19
def AP (ac : Nat) : Prop := ac = 26 ∨ ac = 33
def SP (se : Nat) : Prop := se = 28 ∨ se = 35
def LWP (lw ha ro : Nat) : Prop := (lw = 42 ∧ ha = 23 ∧ ro = 15) ∨ (lw = 53 ∧ ha = 50 ∧ ro = 15)
theorem HP12 : HP 12 4 := Or.inl ⟨rfl, rfl⟩
theorem HP23 : HP 23 15 := Or.inr (Or.inl ⟨rfl, rfl⟩)
theorem HP39 : HP 39 15 := Or.inr (Or.inr (Or.inl ⟨rfl, rfl⟩))
theorem HP50 : HP 50 15 := Or.inr (Or.inr (Or.inr ⟨rfl, rfl⟩))
theorem RP4 : RP 4 := Or.inl rfl
theorem RP15 : RP 15 := Or.inr rfl
theorem UP8 : UP 8 := Or.inl rfl
theorem UP19 : UP 19 := Or.inr rfl
theorem AP26 : AP 26 := Or.inl rfl
theorem AP33 : AP 33 := Or.inr rfl
theorem SP28 : SP 28 := Or.inl rfl
theorem SP35 : SP 35 := Or.inr rfl
theorem LWP42 : LWP 42 23 15 := Or.inl ⟨rfl, rfl, rfl⟩
theorem LWP53 : LWP 53 50 15 := Or.inr ⟨rfl, rfl, rfl⟩
section Pl
variable {ha ro ru ac se lw : Nat}
theorem HP.r (h : HP ha ro) : RP ro := by rcases h with ⟨rfl, rfl⟩ | ⟨rfl, rfl⟩ | ⟨rfl, rfl⟩ | ⟨rfl, rfl⟩ <;> first | exact RP4 | exact RP15
theorem LWP.h (h : LWP lw ha ro) : HP ha ro := by rcases h with ⟨rfl, rfl, rfl⟩ | ⟨rfl, rfl, rfl⟩ <;> first | exact HP23 | exact HP50
theorem RP.u (h : RP ro) : UP (ro + 4) := by rcases h with rfl | rfl <;> first | exact UP8 | exact UP19
theorem HP.f3 (h : HP ha ro) : free ha 3 = true := by rcases h with ⟨rfl, rfl⟩ | ⟨rfl, rfl⟩ | ⟨rfl, rfl⟩ | ⟨rfl, rfl⟩ <;> rfl
theorem HP.f5 (h : HP ha ro) : free ha 5 = true := by rcases h with ⟨rfl, rfl⟩ | ⟨rfl, rfl⟩ | ⟨rfl, rfl⟩ | ⟨rfl, rfl⟩ <;> rfl
theorem HP.f6 (h : HP ha ro) : free ha 6 = true := by rcases h with ⟨rfl, rfl⟩ | ⟨rfl, rfl⟩ | ⟨rfl, rfl⟩ | ⟨rfl, rfl⟩ <;> rfl
theorem HP.a1 (h : HP ha ro) : freeP (ha + 1) = true := by rcases h with ⟨rfl, rfl⟩ | ⟨rfl, rfl⟩ | ⟨rfl, rfl⟩ | ⟨rfl, rfl⟩ <;> rfl
theorem HP.a2 (h : HP ha ro) : freeP (ha + 2) = true := by rcases h with ⟨rfl, rfl⟩ | ⟨rfl, rfl⟩ | ⟨rfl, rfl⟩ | ⟨rfl, rfl⟩ <;> rfl
theorem RP.f1 (h : RP ro) : free ro 1 = true := by rcases h with rfl | rfl <;> rfl
theorem RP.f2 (h : RP ro) : free ro 2 = true := by rcases h with rfl | rfl <;> rfl
theorem RP.f3 (h : RP ro) : free ro 3 = true := by rcases h with rfl | rfl <;> rfl
theorem RP.a1 (h : RP ro) : freeP (ro + 1) = true := by rcases h with rfl | rfl <;> rfl
theorem RP.a2 (h : RP ro) : freeP (ro + 2) = true := by rcases h with rfl | rfl <;> rfl
theorem UP.a1 (h : UP ru) : freeP (ru + 1) = true := by rcases h with rfl | rfl <;> rfl
theorem UP.a2 (h : UP ru) : freeP (ru + 2) = true := by rcases h with rfl | rfl <;> rfl
theorem UP.a3 (h : UP ru) : freeP (ru + 3) = true := by rcases h with rfl | rfl <;> rfl
theorem SP.a1 (h : SP se) : freeP (se + 1) = true := by rcases h with rfl | rfl <;> rfl
theorem SP.a2 (h : SP se) : freeP (se + 2) = true := by rcases h with rfl | rfl <;> rfl
theorem Inv.ents (h : Inv z g) (hp : HP ha ro) : B 0 24 (g ha 4) := by rcases hp with ⟨rfl, rfl⟩ | ⟨rfl, rfl⟩ | ⟨rfl, rfl⟩ | ⟨rfl, rfl⟩ <;> exact h.at (by decide)
theorem Inv.p_ents (h : Inv z g) (hp : HP ha ro) (hx : B 0 24 x) : Inv z (mset g ha 4 x) := by rcases hp with ⟨rfl, rfl⟩ | ⟨rfl, rfl⟩ | ⟨rfl, rfl⟩ | ⟨rfl, rfl⟩ <;> exact h.put (lo := 0) (hi := 24) (by decide) hx
theorem Inv.monks (h : Inv z g) (hp : RP ro) : B 0 6 (g ro 0) := by rcases hp with rfl | rfl <;> exact h.at (by decide)
theorem Inv.p_monks (h : Inv z g) (hp : RP ro) (hx : B 0 6 x) : Inv z (mset g ro 0 x) := by rcases hp with rfl | rfl <;> exact h.put (lo := 0) (hi := 6) (by decide) hx
theorem Inv.rmany (h : Inv z g) (hp : UP ru) : B 0 700 (g ru 3) := by rcases hp with rfl | rfl <;> exact h.at (by decide)
theorem Inv.p_rmany (h : Inv z g) (hp : UP ru) (hx : B 0 700 x) : Inv z (mset g ru 3 x) := by rcases hp with rfl | rfl <;> exact h.put (lo := 0) (hi := 700) (by decide) hx
theorem Inv.amany (h : Inv z g) (hp : AP ac) : B 0 40 (g ac 1) := by rcases hp with rfl | rfl <;> exact h.at (by decide)
theorem Inv.p_amany (h : Inv z g) (hp : AP ac) (hx : B 0 40 x) : Inv z (mset g ac 1 x) := by rcases hp with rfl | rfl <;> exact h.put (lo := 0) (hi := 40) (by decide) hx
theorem Inv.smany (h : Inv z g) (hp : SP se) : B 0 8 (g se 2) := by rcases hp with rfl | rfl <;> exact h.at (by decide)
theorem Inv.p_smany (h : Inv z g) (hp : SP se) (hx : B 0 8 x) : Inv z (mset g se 2 x) := by rcases hp with rfl | rfl <;> exact h.put (lo := 0) (hi := 8) (by decide) hx
theorem Inv.ce (h : Inv z g) (hp : RP ro) : CE (g (ro + 3)) := by
  rcases hp with rfl | rfl
  · exact h.2.2.2.1.1
  · exact h.2.2.2.1.2.1
theorem Inv.rows (h : Inv z g) (hp : AP ac) : RO (g (ac + 1)) := by
  rcases hp with rfl | rfl
  · exact h.2.2.2.2.1.1
  · exact h.2.2.2.2.1.2
end Pl
/-- a row with a shape of its own is laid anew -/
theorem Inv.row {f : Nat → Int32} (h : Inv z g) (hp : p = 7 ∨ p = 18 ∨ p = 32 ∨ p = 27 ∨ p = 34 ∨ p = 62 ∨ p = 67 ∨ p = 70 ∨ p = 73 ∨ p = 74) (h1 : (p = 7 ∨ p = 18 ∨ p = 32) → CE f) (h2 : (p = 27 ∨ p = 34) → RO f) (h3 : p = 62 → EN f) (h4 : (p = 67 ∨ p = 70 ∨ p = 73 ∨ p = 74) → PA f) : Inv z (mrow g p f) := by
  obtain ⟨⟨a1, a4⟩, a2, a3, ⟨b1, b2, b3⟩, ⟨c1, c2⟩, d1, ⟨e1, e2, e3, e4⟩, f1, f2⟩ := h
  have hcl : ∀ c ∈ cons, B c.2.2.1 c.2.2.2 (mrow g p f c.1 c.2.1) := fun c hm => by
    have hne : c.1 ≠ p := by
      have h9 : ∀ c ∈ cons, c.1 ≠ 7 ∧ c.1 ≠ 18 ∧ c.1 ≠ 32 ∧ c.1 ≠ 27 ∧ c.1 ≠ 34 ∧ c.1 ≠ 62 ∧ c.1 ≠ 67 ∧ c.1 ≠ 70 ∧ c.1 ≠ 73 ∧ c.1 ≠ 74 := by decide
      have := h9 c hm
      omega
    rw [mrow_other g f hne]
    exact a3 c hm
  have e03 : mrow g p f 3 = g 3 := mrow_other g f (by omega)
  have e0 : mrow g p f 0 = g 0 := mrow_other g f (by omega)
  have e54 : mrow g p f 54 = g 54 := mrow_other g f (by omega)
  have e58 : mrow g p f 58 = g 58 := mrow_other g f (by omega)
  have e63 : mrow g p f 63 = g 63 := mrow_other g f (by omega)
  have hr : ∀ (q : Nat) (P : (Nat → Int32) → Prop), (p = q → P f) → P (g q) → P (mrow g p f q) := fun q P k1 k2 => by
    by_cases e : q = p
    · subst e; rw [mrow_self]; exact k1 rfl
    · rw [mrow_other g f e]; exact k2
  refine ⟨⟨by rw [e0]; exact a1, by rw [e03]; exact a4⟩, by rw [e54]; exact a2, hcl, ⟨hr 7 CE (fun e => h1 (Or.inl e)) b1, hr 18 CE (fun e => h1 (Or.inr (Or.inl e))) b2, hr 32 CE (fun e => h1 (Or.inr (Or.inr e))) b3⟩, ⟨hr 27 RO (fun e => h2 (Or.inl e)) c1, hr 34 RO (fun e => h2 (Or.inr e)) c2⟩, hr 62 EN h3 d1, ⟨hr 67 PA (fun e => h4 (Or.inl e)) e1, hr 70 PA (fun e => h4 (Or.inr (Or.inl e))) e2, hr 73 PA (fun e => h4 (Or.inr (Or.inr (Or.inl e)))) e3, hr 74 PA (fun e => h4 (Or.inr (Or.inr (Or.inr e)))) e4⟩, by rw [e58]; exact f1, by rw [e58, e63]; exact f2⟩
theorem Inv.cellsR {ro : Nat} {f : Nat → Int32} (h : Inv z g) (hp : RP ro) (hf : CE f) : Inv z (mrow g (ro + 3) f) := by
  rcases hp with rfl | rfl
  · exact h.row (Or.inl rfl) (fun _ => hf) (fun e => by omega) (fun e => by omega) (fun e => by omega)
  · exact h.row (Or.inr (Or.inl rfl)) (fun _ => hf) (fun e => by omega) (fun e => by omega) (fun e => by omega)
theorem Inv.imageR {f : Nat → Int32} (h : Inv z g) (hf : CE f) : Inv z (mrow g 32 f) := h.row (by omega) (fun _ => hf) (fun e => by omega) (fun e => by omega) (fun e => by omega)
theorem Inv.rowsR {ac : Nat} {f : Nat → Int32} (h : Inv z g) (hp : AP ac) (hf : RO f) : Inv z (mrow g (ac + 1) f) := by
  rcases hp with rfl | rfl
  · exact h.row (by omega) (fun e => by omega) (fun _ => hf) (fun e => by omega) (fun e => by omega)
  · exact h.row (by omega) (fun e => by omega) (fun _ => hf) (fun e => by omega) (fun e => by omega)
theorem Inv.enR {f : Nat → Int32} (h : Inv z g) (hf : EN f) : Inv z (mrow g 62 f) := h.row (by omega) (fun e => by omega) (fun e => by omega) (fun _ => hf) (fun e => by omega)
def QP (p : Nat) : Prop := p = 67 ∨ p = 70 ∨ p = 73 ∨ p = 74
theorem Inv.paR {f : Nat → Int32} (h : Inv z g) (hp : QP p) (hf : PA f) : Inv z (mrow g p f) := h.row (by unfold QP at hp; omega) (fun e => by unfold QP at hp; omega) (fun e => by unfold QP at hp; omega) (fun e => by unfold QP at hp; omega) (fun _ => hf)
theorem Inv.pa (h : Inv z g) (hp : QP p) : PA (g p) := by
  rcases hp with rfl | rfl | rfl | rfl
  · exact h.2.2.2.2.2.2.1.1
  · exact h.2.2.2.2.2.2.1.2.1
  · exact h.2.2.2.2.2.2.1.2.2.1
  · exact h.2.2.2.2.2.2.1.2.2.2
theorem CE_up {f : Nat → Int32} (h : CE f) (hx : j % 8 = 1 → B 0 5 x) : CE (upd f j x) := fun k hk => by
  unfold upd
  split
  · rename_i e; subst e; exact hx hk
  · exact h k hk
theorem RO_up {f : Nat → Int32} (h : RO f) (hx : j % 16 = 1 → B 0 24 x) : RO (upd f j x) := fun k hk => by
  unfold upd
  split
  · rename_i e; subst e; exact hx hk
  · exact h k hk
theorem EN_up {f : Nat → Int32} (h : EN f) (hx : j % 9 = 1 → B 0 5 x) : EN (upd f j x) := fun k hk => by
  unfold upd
  split
  · rename_i e; subst e; exact hx hk
  · exact h k hk
theorem PA_up {f : Nat → Int32} (h : PA f) (h1 : j % 231 = 2 → B 0 24 x) (h2 : 15 ≤ j % 231 → (j % 231 - 15) % 9 = 1 → B 0 5 x) : PA (upd f j x) := fun k => by
  unfold upd
  split
  · rename_i e; subst e; exact ⟨h1, h2⟩
  · exact h k
end Invs
