/-! The walker's own layer. A world is a list of shapes (what lies at each place, by number) and a memory (a number for each place and slot); references are places; the machine's addresses are gz + place. -/
abbrev GG : Type := Launch × Nat × va_G × (Nat → ClassId) × (Nat → Nat) × (Nat → Nat) × (Nat × Nat × (Nat → Int32)) × Nat
abbrev gl (γ : GG) : Launch := γ.1
abbrev gz (γ : GG) : Nat := γ.2.1
abbrev gD (γ : GG) : va_G := γ.2.2.1
abbrev gc (γ : GG) : Nat → ClassId := γ.2.2.2.1
abbrev gK (γ : GG) : Nat → Nat := γ.2.2.2.2.1
abbrev gV (γ : GG) : Nat → Nat := γ.2.2.2.2.2.1
abbrev gS (γ : GG) : Nat × Nat × (Nat → Int32) := γ.2.2.2.2.2.2.1
abbrev gF (γ : GG) : Nat := γ.2.2.2.2.2.2.2
def gA (γ : GG) : Nat → Prop := fun q => gz γ ≤ q
def gtys (γ : GG) : List (ClassId × FieldType) := [(gc γ 0, .int), (gc γ 1, .byte), (gc γ 2, .long), (gc γ 3, .object "java/lang/String")]
abbrev Mem : Type := Nat → Nat → Int32
/-- 0 an object: its class, its fields (0 a number, 1 null, k + 2 the thing at place k); 1 a row of ints or bytes, 2 of longs: its length; 3 a row of texts (0 null, k + 1 the thing at place k) -/
abbrev Sh : Type := Nat × Nat × List Nat × Nat
def cr (γ : GG) (k : Nat) : Nat := if k < 1048576 then gz γ + k else if k < 1572864 then gK γ (k - 1048576) else if k < 2097152 then gV γ (k - 1572864) else if k = 2097152 then (gS γ).1 else gF γ
def cv (γ : GG) : Value → Value
  | .ref k => .ref (cr γ k)
  | v => v
theorem cv_cat (γ : GG) (v : Value) : (cv γ v).category = v.category := by cases v <;> rfl
def tv (γ : GG) (t : Nat) (x : Int32) : Value := match t with
  | 0 => .int x
  | 1 => .null
  | t + 2 => .ref (cr γ t)
def cf (γ : GG) (f : Nat → Int32) : List Nat → Nat → List Value
  | [], _ => []
  | t :: ts, j => tv γ t (f j) :: cf γ f ts (j + 1)
theorem cf_get (γ : GG) (f : Nat → Int32) : ∀ (tm : List Nat) (i j : Nat), (cf γ f tm i)[j]? = (tm[j]?).map (fun t => tv γ t (f (i + j))) := by
  intro tm
  induction tm with
  | nil => intro i j; rfl
  | cons t ts ih =>
    intro i j
    cases j with
    | zero => rfl
    | succ j =>
      show (cf γ f ts (i + 1))[j]? = _
      rw [ih (i + 1) j]
      show _ = (ts[j]?).map _
      rw [Nat.add_right_comm i 1 j]
      rfl
theorem cf_len (γ : GG) (f : Nat → Int32) : ∀ (tm : List Nat) (i : Nat), (cf γ f tm i).length = tm.length := by
  intro tm
  induction tm with
  | nil => intro i; rfl
  | cons t ts ih => intro i; simp [cf, ih]
theorem upd_self (f : Nat → Int32) (k : Nat) (x : Int32) : upd f k x k = x := by simp [upd]
theorem upd_other (f : Nat → Int32) {k j : Nat} (x : Int32) (h : j ≠ k) : upd f k x j = f j := by simp [upd, h]
theorem cf_setI (γ : GG) (f : Nat → Int32) (tm : List Nat) (j : Nat) (x : Int32) (h : tm[j]? = some 0) : (cf γ f tm 0).set j (.int x) = cf γ (upd f j x) tm 0 := by
  apply List.ext_getElem?
  intro k
  rw [List.getElem?_set, cf_get, cf_get, cf_len]
  by_cases hk : j = k
  · subst hk
    have hl : j < tm.length := (List.getElem?_eq_some_iff.mp h).1
    rw [if_pos rfl, if_pos hl, h]
    simp [tv, upd]
  · rw [if_neg hk]
    have : upd f j x (0 + k) = f (0 + k) := upd_other f x (by omega)
    rw [this]
theorem cf_setR (γ : GG) (f : Nat → Int32) (tm : List Nat) (j t : Nat) : (cf γ f tm 0).set j (.ref (cr γ t)) = cf γ f (tm.set j (t + 2)) 0 := by
  apply List.ext_getElem?
  intro k
  rw [List.getElem?_set, cf_get, cf_get, cf_len, List.getElem?_set]
  by_cases hk : j = k
  · subst hk
    rw [if_pos rfl, if_pos rfl]
    by_cases hl : j < tm.length
    · rw [if_pos hl, if_pos hl]
      simp [tv]
    · rw [if_neg hl, if_neg hl]
      rfl
  · rw [if_neg hk, if_neg hk]
def rt (γ : GG) (t : Nat) : Option Nat := match t with
  | 0 => none
  | t + 1 => some (cr γ t)
def cellE (γ : GG) (s : Sh) (f : Nat → Int32) : va_E := match s.1 with
  | 0 => .inr (s.2.1, cf γ f s.2.2.1 0)
  | 1 => .inl (gc γ s.2.1, s.2.2.2, .inl f)
  | 2 => .inl (gc γ 2, s.2.2.2, .inr (.inl (fun j => (f j).toInt64)))
  | _ => .inl (gc γ 3, s.2.2.2, .inr (.inr (.inr (.inr (fun j => rt γ (s.2.2.1.getD j 0))))))
def mrow (g : Mem) (k : Nat) (f : Nat → Int32) : Mem := fun k' => if k' = k then f else g k'
theorem mrow_self (g : Mem) (k : Nat) (f : Nat → Int32) : mrow g k f k = f := by simp [mrow]
theorem mrow_other (g : Mem) {k j : Nat} (f : Nat → Int32) (h : j ≠ k) : mrow g k f j = g j := by simp [mrow, h]
def mset (g : Mem) (k j : Nat) (x : Int32) : Mem := mrow g k (upd (g k) j x)
def wsO (γ : GG) (g : Mem) : List Sh → Nat → va_W
  | [], _ => []
  | s :: l, k => (gz γ + k, cellE γ s (g k)) :: wsO γ g l (k + 1)
theorem wsO_get (γ : GG) (g : Mem) : ∀ (sh : List Sh) (i k : Nat), (wsO γ g sh i)[k]? = (sh[k]?).map (fun s => (gz γ + (i + k), cellE γ s (g (i + k)))) := by
  intro sh
  induction sh with
  | nil => intro i k; rfl
  | cons s l ih =>
    intro i k
    cases k with
    | zero => rfl
    | succ k =>
      show (wsO γ g l (i + 1))[k]? = _
      rw [ih (i + 1) k]
      show _ = (l[k]?).map _
      rw [Nat.add_right_comm i 1 k]
      rfl
theorem wsO_at (γ : GG) (g : Mem) {sh : List Sh} {k : Nat} {s : Sh} (h : sh[k]? = some s) : (wsO γ g sh 0)[k]? = some (gz γ + k, cellE γ s (g k)) := by
  rw [wsO_get, h, Nat.zero_add]; rfl
theorem wsO_len (γ : GG) (g : Mem) : ∀ (sh : List Sh) (i : Nat), (wsO γ g sh i).length = sh.length := by
  intro sh
  induction sh with
  | nil => intro i; rfl
  | cons s l ih => intro i; simp [wsO, ih]
theorem wsO_set (γ : GG) (g : Mem) {sh : List Sh} {k : Nat} (s' : Sh) (f : Nat → Int32) (h : k < sh.length) : (wsO γ g sh 0).set k (gz γ + k, cellE γ s' f) = wsO γ (mrow g k f) (sh.set k s') 0 := by
  apply List.ext_getElem?
  intro j
  rw [List.getElem?_set, wsO_get, wsO_get, wsO_len, List.getElem?_set]
  by_cases hj : k = j
  · subst hj
    rw [if_pos rfl, if_pos h, if_pos rfl, if_pos h]
    simp [mrow]
  · rw [if_neg hj, if_neg hj, mrow_other g f (by omega)]
theorem set_same {α : Type} {l : List α} {k : Nat} {a : α} (h : l[k]? = some a) : l.set k a = l := by
  apply List.ext_getElem?
  intro j
  rw [List.getElem?_set]
  by_cases hj : k = j
  · subst hj
    rw [if_pos rfl, if_pos (List.getElem?_eq_some_iff.mp h).1, h]
  · rw [if_neg hj]
theorem wsO_set0 (γ : GG) (g : Mem) {sh : List Sh} {k : Nat} {s : Sh} (f : Nat → Int32) (h : sh[k]? = some s) : (wsO γ g sh 0).set k (gz γ + k, cellE γ s f) = wsO γ (mrow g k f) sh 0 := by
  rw [wsO_set γ g s f (List.getElem?_eq_some_iff.mp h).1, set_same h]
theorem wsO_app (γ : GG) (g : Mem) (s : Sh) (f : Nat → Int32) : ∀ (sh : List Sh), wsO γ (mrow g sh.length f) (sh ++ [s]) 0 = wsO γ g sh 0 ++ [(gz γ + sh.length, cellE γ s f)] := by
  intro sh
  apply List.ext_getElem?
  intro j
  rw [wsO_get, List.getElem?_append, List.getElem?_append, wsO_len, wsO_get]
  by_cases hj : j < sh.length
  · rw [if_pos hj, if_pos hj, mrow_other g f (by omega)]
  · rw [if_neg hj, if_neg hj]
    by_cases he : j = sh.length
    · subst he
      simp [mrow]
    · have : j - sh.length ≠ 0 := by omega
      obtain ⟨q, hq⟩ := Nat.exists_eq_succ_of_ne_zero this
      rw [hq]
      rfl
theorem wsO_D (γ : GG) (g : Mem) (sh : List Sh) : va_D (gA γ) (wsO γ g sh 0) := by
  refine ⟨fun i j p q hi hj e => ?_, fun k q hk => ?_⟩
  · rw [wsO_get] at hi hj
    cases h1 : sh[i]? with
    | none => rw [h1] at hi; cases hi
    | some a =>
      cases h2 : sh[j]? with
      | none => rw [h2] at hj; cases hj
      | some b =>
        rw [h1] at hi
        rw [h2] at hj
        cases hi
        cases hj
        simp only [] at e
        omega
  · rw [wsO_get] at hk
    cases h1 : sh[k]? with
    | none => rw [h1] at hk; cases hk
    | some a =>
      rw [h1] at hk
      cases hk
      exact Nat.le_add_right _ _
/-- the heap holds the world -/
def Rel (γ : GG) (sh : List Sh) (g : Mem) (H : Heap) : Prop := va_P (gD γ) xcl (wsO γ g sh 0) H ∧ gz γ + sh.length ≤ H.size
theorem gw_at {args a' : Array Value} {s U : State} (hW : s.WarmedH U.vm) {w : Cond} (hg : gw w = true) (h : w.before args s = true) : w.before a' U = true := by
  have face : ∀ w : Cond, w.onTables = true → w.keepsFace = true → w.before args s = true → w.before a' U = true := fun w h1 h2 h3 => va_tabs h1 (rfl : (s.setVm U.vm).vm = U.vm) (Cond.before_shiftedFace (State.Shifted.of_warmed hW) w h2 h3)
  cases w with
  | castable a b => exact face _ rfl rfl h
  | declares a => exact face _ rfl rfl h
  | _ => exact word_at hW (good_of_word hg) h
