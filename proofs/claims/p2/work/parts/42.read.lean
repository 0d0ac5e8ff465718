/-! the class's reader: what holds while a text is read -/
def R3 (f : Nat → Int32) : Prop := B 0 700 (f 3) ∧ B 0 700 (f 4) ∧ B 0 700 (f 5) ∧ (f 6 = 3 → 0 ≤ (f 7).toInt)
def RI (y : Int32 × Int32) (g : Mem) : Prop := Inv (y.1, y.2, g 3) g ∧ R3 (g 3)
section RIs
variable {y : Int32 × Int32} {g r : Mem} {j : Nat} {x : Int32}
theorem Inv.row3 {z : Zt} (h : Inv z g) : g 3 = z.2.2 := h.1.2
theorem Inv.re3 {t1 t2 : Int32} {f : Nat → Int32} (h : Inv (t1, t2, f) g) : Inv (t1, t2, g 3) g := ⟨⟨h.1.1, rfl⟩, h.2⟩
theorem RI.keep (h : RI y g) (hr : Inv (y.1, y.2, g 3) r) : RI y r := by
  have e : r 3 = g 3 := hr.row3
  refine ⟨by rw [e]; exact hr, by rw [e]; exact h.2⟩
theorem Inv.set3 {t1 t2 : Int32} {f f' : Nat → Int32} (h : Inv (t1, t2, f) g) : Inv (t1, t2, f') (mrow g 3 f') := by
  obtain ⟨⟨a1, a3⟩, a2, ac, ⟨b1, b2, b3⟩, ⟨c1, c2⟩, d1, ⟨e1, e2, e3, e4⟩, f1, f2⟩ := h
  have hne : ∀ q, q ≠ 3 → mrow g 3 f' q = g q := fun q hq => mrow_other g f' hq
  have hc3 : ∀ c ∈ cons, c.1 ≠ 3 := by decide
  refine ⟨⟨by rw [hne 0 (by decide)]; exact a1, mrow_self g 3 f'⟩, by rw [hne 54 (by decide)]; exact a2, fun c hm => by rw [hne _ (hc3 c hm)]; exact ac c hm, ⟨by rw [hne 7 (by decide)]; exact b1, by rw [hne 18 (by decide)]; exact b2, by rw [hne 32 (by decide)]; exact b3⟩, ⟨by rw [hne 27 (by decide)]; exact c1, by rw [hne 34 (by decide)]; exact c2⟩, by rw [hne 62 (by decide)]; exact d1, ⟨by rw [hne 67 (by decide)]; exact e1, by rw [hne 70 (by decide)]; exact e2, by rw [hne 73 (by decide)]; exact e3, by rw [hne 74 (by decide)]; exact e4⟩, by rw [hne 58 (by decide)]; exact f1, by rw [hne 58 (by decide), hne 63 (by decide)]; exact f2⟩
theorem RI.set {f : Nat → Int32} (h : RI y g) (hf : R3 f) : RI y (mrow g 3 f) := ⟨by rw [mrow_self]; exact h.1.set3, by rw [mrow_self]; exact hf⟩
theorem R3.up {f : Nat → Int32} (h : R3 f) (hj : j = 8 ∨ j = 9 ∨ j = 10) : R3 (upd f j x) := by
  obtain ⟨h1, h2, h3, h4⟩ := h
  have e : ∀ k, k < 8 → upd f j x k = f k := fun k hk => by
    unfold upd
    rw [if_neg (by omega)]
  unfold R3
  rw [e 3 (by decide), e 4 (by decide), e 5 (by decide), e 6 (by decide), e 7 (by decide)]
  exact ⟨h1, h2, h3, h4⟩
theorem RI.f3 (h : RI y g) (hj : j = 8 ∨ j = 9 ∨ j = 10) : RI y (mset g 3 j x) := h.set (h.2.up hj)
/-- nothing but the reader's own row has changed -/
def F3 (g r : Mem) : Prop := ∀ q, q ≠ 3 → r q = g q
theorem F3.rf : F3 g g := fun _ _ => rfl
theorem F3.tr {m : Mem} (h : F3 g m) (h' : F3 m r) : F3 g r := fun q hq => (h' q hq).trans (h q hq)
theorem F3.ms (h : F3 g r) : F3 g (mset r 3 j x) := fun q hq => (mset_rowF r j x hq).trans (h q hq)
end RIs
def R3w (f : Nat → Int32) : Prop := B 0 700 (f 3) ∧ B 0 700 (f 4) ∧ B 0 700 (f 5)
/-- the same, while a TOKEN is being taken -/
def RIw (y : Int32 × Int32) (g : Mem) : Prop := Inv (y.1, y.2, g 3) g ∧ R3w (g 3)
theorem RIw.set {y : Int32 × Int32} {g : Mem} {f : Nat → Int32} (h : RIw y g) (hf : R3w f) : RIw y (mrow g 3 f) := ⟨by rw [mrow_self]; exact h.1.set3, by rw [mrow_self]; exact hf⟩
theorem RI.w {y : Int32 × Int32} {g : Mem} (h : RI y g) : RIw y g := ⟨h.1, h.2.1, h.2.2.1, h.2.2.2.1⟩
theorem Inv.ms3 {t1 t2 : Int32} {f : Nat → Int32} {g : Mem} {k : Nat} {x : Int32} (h : Inv (t1, t2, f) g) : Inv (t1, t2, mset g 3 k x 3) (mset g 3 k x) := by
  rw [show mset g 3 k x 3 = upd (g 3) k x from mrow_self g 3 _]
  exact h.set3
theorem u_s {f : Nat → Int32} {k : Nat} {x : Int32} : upd f k x k = x := by unfold upd; rw [if_pos rfl]
theorem u_o {f : Nat → Int32} {k j : Nat} {x : Int32} (h : j ≠ k) : upd f k x j = f j := by unfold upd; rw [if_neg h]
theorem m3 {g : Mem} {k j : Nat} {x : Int32} : mset g 3 k x 3 j = if j = k then x else g 3 j := by
  rw [mset_get]
  by_cases h : j = k
  · rw [if_pos ⟨rfl, h⟩, if_pos h]
  · rw [if_neg (fun e => h e.2), if_neg h]
theorem RIw.tok {y : Int32 × Int32} {g : Mem} {t : Int32} (h : RIw y g) (ht : ¬ t = 3) : RI y (mset g 3 6 t) := by
  obtain ⟨k1, k2, k3⟩ := h.2
  refine ⟨h.1.ms3, ?_⟩
  rw [show mset g 3 6 t 3 = upd (g 3) 6 t from mrow_self g 3 _]
  exact ⟨by rw [u_o (by decide)]; exact k1, by rw [u_o (by decide)]; exact k2, by rw [u_o (by decide)]; exact k3, fun e => by rw [u_s] at e; exact absurd e ht⟩
