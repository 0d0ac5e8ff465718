/-! what stands in the tables and below the world, all along; the two judgements: WA (a walk from a place in a method), CA (a contract) -/
def strL : List (String × Nat × String) := [("BeardHall", 112, "the tape has not so many bytes"), ("BeardHall$Reader", 106, "monk clerk bald plait law debt grant note copy knee grey daily reads dyed knot or and not kind dye about old own age "), ("BeardHall", 177, "no such count"), ("BeardHall", 420, "no such monk"), ("BeardHall", 202, "no such thing of a monk"), ("BeardHall", 422, "no such entry"), ("BeardHall", 207, "no such thing of an entry"), ("BeardHall", 424, "about no such thing"), ("BeardHall", 319, "not 0 to 6 barbers"), ("BeardHall", 426, "no such answer"), ("BeardHall", 331, "not 0 to 9 breadths more"), ("BeardHall", 339, "no such day"), ("BeardHall", 344, "no such kind"), ("BeardHall", 355, "not 0 to 60 years"), ("BeardHall", 389, "not 0 to 40 years"), ("BeardHallModel", 11, "monk"), ("BeardHallModel", 13, "clerk"), ("BeardHallModel", 15, "bald"), ("BeardHallModel", 17, "plait"), ("BeardHallModel", 23, "law"), ("BeardHallModel", 25, "debt"), ("BeardHallModel", 27, "grant"), ("BeardHallModel", 29, "note"), ("BeardHallModel", 34, "kind"), ("BeardHallModel", 36, "dye"), ("BeardHallModel", 38, "about"), ("BeardHallModel", 40, "old"), ("BeardHallModel", 42, "grey"), ("BeardHallModel", 44, "own"), ("BeardHallModel", 46, "age"), ("BeardHallModel", 256, "knee"), ("BeardHallModel", 258, "daily"), ("BeardHallModel", 260, "reads"), ("BeardHallModel", 224, "not"), ("BeardHallModel", 232, "and"), ("BeardHallModel", 237, "or"), ("BeardHallModel", 252, "dyed"), ("BeardHallModel", 254, "knot"), ("BeardHallModel", 268, "copy")]
def lenL : List Nat := [30, 117, 13, 12, 23, 13, 25, 19, 18, 14, 24, 11, 12, 17, 17, 4, 5, 4, 5, 3, 4, 5, 4, 4, 3, 5, 3, 4, 3, 3, 4, 5, 5, 3, 3, 2, 4, 4, 4]
def bytL : List (List Int32) := [[116, 104, 101, 32, 116, 97, 112, 101, 32, 104, 97, 115, 32, 110, 111, 116, 32, 115, 111, 32, 109, 97, 110, 121, 32, 98, 121, 116, 101, 115], [109, 111, 110, 107, 32, 99, 108, 101, 114, 107, 32, 98, 97, 108, 100, 32, 112, 108, 97, 105, 116, 32, 108, 97, 119, 32, 100, 101, 98, 116, 32, 103, 114, 97, 110, 116, 32, 110, 111, 116, 101, 32, 99, 111, 112, 121, 32, 107, 110, 101, 101, 32, 103, 114, 101, 121, 32, 100, 97, 105, 108, 121, 32, 114, 101, 97, 100, 115, 32, 100, 121, 101, 100, 32, 107, 110, 111, 116, 32, 111, 114, 32, 97, 110, 100, 32, 110, 111, 116, 32, 107, 105, 110, 100, 32, 100, 121, 101, 32, 97, 98, 111, 117, 116, 32, 111, 108, 100, 32, 111, 119, 110, 32, 97, 103, 101, 32], [110, 111, 32, 115, 117, 99, 104, 32, 99, 111, 117, 110, 116], [110, 111, 32, 115, 117, 99, 104, 32, 109, 111, 110, 107], [110, 111, 32, 115, 117, 99, 104, 32, 116, 104, 105, 110, 103, 32, 111, 102, 32, 97, 32, 109, 111, 110, 107], [110, 111, 32, 115, 117, 99, 104, 32, 101, 110, 116, 114, 121], [110, 111, 32, 115, 117, 99, 104, 32, 116, 104, 105, 110, 103, 32, 111, 102, 32, 97, 110, 32, 101, 110, 116, 114, 121], [97, 98, 111, 117, 116, 32, 110, 111, 32, 115, 117, 99, 104, 32, 116, 104, 105, 110, 103], [110, 111, 116, 32, 48, 32, 116, 111, 32, 54, 32, 98, 97, 114, 98, 101, 114, 115], [110, 111, 32, 115, 117, 99, 104, 32, 97, 110, 115, 119, 101, 114], [110, 111, 116, 32, 48, 32, 116, 111, 32, 57, 32, 98, 114, 101, 97, 100, 116, 104, 115, 32, 109, 111, 114, 101], [110, 111, 32, 115, 117, 99, 104, 32, 100, 97, 121], [110, 111, 32, 115, 117, 99, 104, 32, 107, 105, 110, 100], [110, 111, 116, 32, 48, 32, 116, 111, 32, 54, 48, 32, 121, 101, 97, 114, 115], [110, 111, 116, 32, 48, 32, 116, 111, 32, 52, 48, 32, 121, 101, 97, 114, 115], [109, 111, 110, 107], [99, 108, 101, 114, 107], [98, 97, 108, 100], [112, 108, 97, 105, 116], [108, 97, 119], [100, 101, 98, 116], [103, 114, 97, 110, 116], [110, 111, 116, 101], [107, 105, 110, 100], [100, 121, 101], [97, 98, 111, 117, 116], [111, 108, 100], [103, 114, 101, 121], [111, 119, 110], [97, 103, 101], [107, 110, 101, 101], [100, 97, 105, 108, 121], [114, 101, 97, 100, 115], [110, 111, 116], [97, 110, 100], [111, 114], [100, 121, 101, 100], [107, 110, 111, 116], [99, 111, 112, 121]]
def nestL : List (String × Nat × MethodName × String) := [("BeardHall", 32, ⟨"BeardHall$Roll", "<init>", "()V"⟩, "BeardHall"), ("BeardHall", 48, ⟨"BeardHall$Acts", "<init>", "()V"⟩, "BeardHall"), ("BeardHall", 55, ⟨"BeardHall$Seen", "<init>", "()V"⟩, "BeardHall"), ("BeardHall$Hair", 77, ⟨"BeardHall", "hasBit", "(II)Z"⟩, "BeardHall"), ("BeardHall$Image", 17, ⟨"BeardHall$Acts", "<init>", "()V"⟩, "BeardHall"), ("BeardHall$Image", 24, ⟨"BeardHall$Seen", "<init>", "()V"⟩, "BeardHall"), ("BeardHall$Keeping", 32, ⟨"BeardHall", "hasBit", "(II)Z"⟩, "BeardHall"), ("BeardHall$Laws", 51, ⟨"BeardHall", "hasBit", "(II)Z"⟩, "BeardHall"), ("BeardHall$Reader", 11, ⟨"BeardHall$Roll", "<init>", "()V"⟩, "BeardHall"), ("BeardHall$Roll", 23, ⟨"BeardHall$Rule", "<init>", "()V"⟩, "BeardHall")]
def SF (γ : GG) (s : State) : Prop :=
  va_K (gD γ) xcl (gtys γ) s ∧ (∀ args : Array Value, ∀ w ∈ lwg, w.before args s = true) ∧ (∀ q ∈ nestL, va_Nw (.methodLinkNest q.1 q.2.1 q.2.2.1 q.2.2.2) s) ∧ (∀ (i : Nat) (q : String × Nat × String), strL[i]? = some q → vk_R q.1 q.2.1 q.2.2 (gK γ i) s) ∧
  vk_S 39 lenL bytL (gK γ) (gV γ) (gA γ) s s.heap ∧ va_Z "java/lang/String" "COMPACT_STRINGS" "Z" (.int 1) (gA γ) s s.heap ∧ vx_Zq Bundle.tN "UNASSIGNED_STACK" Bundle.steD (gA γ) s s.heap ∧ vx_Zq Bundle.tN "SUPPRESSED_SENTINEL" Bundle.listD (gA γ) s s.heap ∧
  va_AO "java/lang/String" s ∧ va_X (gS γ).1 (gS γ).2.1 (gS γ).2.2 s s.heap ∧ gz γ ≤ s.heap.size ∧ (gS γ).1 < gz γ ∧ (va_Z "jdk/internal/util/Preconditions" "SIOOBE_FORMATTER" "Ljava/util/function/BiFunction;" .null (gA γ) s s.heap ∨ va_Z "jdk/internal/util/Preconditions" "SIOOBE_FORMATTER" "Ljava/util/function/BiFunction;" (.ref (gF γ)) (gA γ) s s.heap) ∧ va_Nc "java/lang/IllegalArgumentException" "java/util/NoSuchElementException" s ∧ (gl γ).stackTraces = false
theorem SF.go {γ : GG} {s U : State} (h : SF γ s) (hW : s.WarmedH U.vm) (hz : s.heap.size ≤ U.heap.size) (hk : ∀ q : Nat, q < s.heap.size → ¬ gA γ q → U.heap[q]? = s.heap[q]?) : SF γ U := by
  obtain ⟨h1, h2, h3, h4, h5, h6, h7, h8, h9, h10, h11, h12, hZ, h13, h14⟩ := h
  refine ⟨va_K.moved hW.alike h1, fun args w hw => gw_at (args := args) hW (List.mem_filter.mp hw).2 (h2 args w hw), fun q hq => va_Nw.warmM hW (h3 q hq), fun i q hq => vk_R.warm hW (h4 i q hq), vk_S.kept (vk_S.moved hW.alike h5) hk, va_Z.kept (va_Z.moved hW.alike h6) hk, vx_Zq.kept (vx_Zq.moved hW.alike h7) hk, vx_Zq.kept (vx_Zq.moved hW.alike h8) hk, va_AO.moved hW.alike h9, va_X.kept (va_X.moved hW.alike h10) ?_, Nat.le_trans h11 hz, h12, hZ.elim (fun h => Or.inl (va_Z.kept (va_Z.moved hW.alike h) hk)) (fun h => Or.inr (va_Z.kept (va_Z.moved hW.alike h) hk)), va_Nc.moved hW.alike h13, h14⟩
  exact hk _ (Nat.lt_of_lt_of_le h12 h11) (fun h => absurd h12 (Nat.not_lt.mpr h))
theorem SF.tr {γ : GG} {s : State} (h : SF γ s) : (gl γ).stackTraces = false := h.2.2.2.2.2.2.2.2.2.2.2.2.2.2
theorem SF.nc {γ : GG} {s : State} (h : SF γ s) : va_Nc "java/lang/IllegalArgumentException" "java/util/NoSuchElementException" s := h.2.2.2.2.2.2.2.2.2.2.2.2.2.1
theorem SF.fm {γ : GG} {s : State} (h : SF γ s) : va_Z "jdk/internal/util/Preconditions" "SIOOBE_FORMATTER" "Ljava/util/function/BiFunction;" .null (gA γ) s s.heap ∨ va_Z "jdk/internal/util/Preconditions" "SIOOBE_FORMATTER" "Ljava/util/function/BiFunction;" (.ref (gF γ)) (gA γ) s s.heap := h.2.2.2.2.2.2.2.2.2.2.2.2.1
theorem SF.blind {γ : GG} {U : State} (g : JFrame) (mk : MethodId) (a : Array Value) (h : SF γ U) : SF γ (U.calling g mk a) := SF.go (s := U) (U := U.calling g mk a) h (State.WarmedH.refl U) (Nat.le_refl _) (fun _ _ _ => rfl)
/-- what holds all along a walk of the method M, with room for n calls one in another -/
def frN (n : Nat) : Nat := n + 8
def loN (n : Nat) : Nat := 200 * (n + 1)
def CX (γ : GG) (M : MI) (n : Nat) (p : Program) (e : Env) (R : Room) (s : State) (m : MethodId) (args : Array Value) (below : List Frame) (meth : Method) (c : Code) : Prop :=
  p.tables.exec = Jvm.exec ∧ c.code = M.2.1 ∧ meth.sig.returnType = M.2.2.2.1 ∧ c.maxLocals = M.2.2.1 ∧ s.vm.findClass M.1.cls = some m.cls ∧ meth.locks = false ∧ meth.name = M.1.name ∧ c.exceptionTable.toList = tableOf M.2.2.2.2 ∧ frN n ≤ R.frames ∧ loN n ≤ R.locals ∧ SF γ s
def la (γ : GG) : List (Option Value) → Nat → List (Nat × Value)
  | [], _ => []
  | none :: l, i => la γ l (i + 1)
  | some v :: l, i => (i, cv γ v) :: la γ l (i + 1)
theorem la_mem (γ : GG) : ∀ (ls : List (Option Value)) (i : Nat) (q : Nat × Value), q ∈ la γ ls i ↔ ∃ (j : Nat) (v : Value), ls[j]? = some (some v) ∧ q = (i + j, cv γ v) := by
  intro ls
  induction ls with
  | nil => intro i q; simp [la]
  | cons o l ih =>
    intro i q
    cases o with
    | none =>
      show q ∈ la γ l (i + 1) ↔ _
      rw [ih (i + 1) q]
      constructor
      · rintro ⟨j, v, h1, h2⟩
        exact ⟨j + 1, v, h1, by rw [h2]; congr 1; omega⟩
      · rintro ⟨j, v, h1, h2⟩
        cases j with
        | zero => cases h1
        | succ j => exact ⟨j, v, h1, by rw [h2]; congr 1; omega⟩
    | some w =>
      show q ∈ (i, cv γ w) :: la γ l (i + 1) ↔ _
      rw [List.mem_cons, ih (i + 1) q]
      constructor
      · rintro (h | ⟨j, v, h1, h2⟩)
        · exact ⟨0, w, rfl, h⟩
        · exact ⟨j + 1, v, h1, by rw [h2]; congr 1; omega⟩
      · rintro ⟨j, v, h1, h2⟩
        cases j with
        | zero => cases h1; exact Or.inl h2
        | succ j => exact Or.inr ⟨j, v, h1, by rw [h2]; congr 1; omega⟩
/-- the method's locals hold ls -/
def LH (γ : GG) (Ls : Array Slot) (nL : Nat) (ls : List (Option Value)) : Prop := lv_has Ls nL (la γ ls 0)
theorem LH.at {γ : GG} {Ls : Array Slot} {nL : Nat} {ls : List (Option Value)} (h : LH γ Ls nL ls) {i : Nat} {v : Value} (hi : ls[i]? = some (some v)) : Ls[i]? = some (.val (cv γ v)) :=
  h.2.2 (i, cv γ v) ((la_mem γ ls 0 _).mpr ⟨i, v, hi, by rw [Nat.zero_add]⟩)
def okS (ls : List (Option Value)) (i : Nat) : Bool := match i with
  | 0 => true
  | i + 1 => match ls[i]? with
    | some (some (.long _)) => false
    | some (some (.double _)) => false
    | _ => true
theorem LH.put {γ : GG} {Ls : Array Slot} {nL : Nat} {ls : List (Option Value)} {i : Nat} {v : Value} (hok : okS ls i = true) (h : lv_has Ls nL ((i, cv γ v) :: (la γ ls 0).filter (fun q => !(q.1 == i) && !(q.1 + 1 == i && q.2.category == 2)))) : LH γ Ls nL (ls.set i (some v)) := by
  refine ⟨h.1, h.2.1, fun q hq => ?_⟩
  obtain ⟨j, w, h1, h2⟩ := (la_mem γ _ 0 q).mp hq
  rw [Nat.zero_add] at h2
  rw [List.getElem?_set] at h1
  by_cases hj : i = j
  · subst hj
    rw [if_pos rfl] at h1
    split at h1
    · cases h1
      rw [h2]
      exact h.2.2 _ List.mem_cons_self
    · cases h1
  · rw [if_neg hj] at h1
    refine h.2.2 q (List.mem_cons_of_mem _ (List.mem_filter.mpr ⟨(la_mem γ ls 0 q).mpr ⟨j, w, h1, by rw [Nat.zero_add]; exact h2⟩, ?_⟩))
    subst h2
    simp only [Bool.and_eq_true, Bool.not_eq_true', beq_eq_false_iff_ne, ne_eq, Bool.and_eq_false_iff]
    refine ⟨fun e => hj e.symm, ?_⟩
    by_cases hji : j + 1 = i
    · right
      subst hji
      rw [cv_cat]
      simp only [okS, h1] at hok
      cases w <;> simp_all [Value.category]
    · left
      exact hji
theorem LH.less {γ : GG} {Ls : Array Slot} {nL : Nat} {ls ls' : List (Option Value)} (h : LH γ Ls nL ls) (hs : ∀ (i : Nat) (v : Value), ls'[i]? = some (some v) → ls[i]? = some (some v)) : LH γ Ls nL ls' := by
  refine ⟨h.1, h.2.1, fun q hq => ?_⟩
  obtain ⟨j, w, h1, h2⟩ := (la_mem γ _ 0 q).mp hq
  exact h.2.2 q ((la_mem γ ls 0 q).mpr ⟨j, w, hs j w h1, h2⟩)
/-- how a method ends: it returns something or nothing, or throws a thing of the class named -/
abbrev XO : Type := Option Value ⊕ String
abbrev PO : Type := XO → List Sh → Mem → Bool → Prop
/-- 'tight': nothing but the world was made since it began -/
def TT (γ : GG) (tt : Bool) (sh : List Sh) (H : Heap) : Prop := tt = true → H.size = gz γ + sh.length
def TN (γ : GG) (tt : Bool) (sh : List Sh) (s : State) (cells : Nat) : Prop := tt = true → gz γ + sh.length = s.heap.size + cells
def ER (γ : GG) (sh : List Sh) (g : Mem) (tt : Bool) (st t : State) : Prop := Rel γ sh g t.heap ∧ TT γ tt sh t.heap ∧ va_F (gA γ) st t
def QR (γ : GG) (Φ : PO) : Array Value → State → Outcome → State → Prop := fun _ st o t => ∃ (v : Option Value) (sh : List Sh) (g : Mem) (tt : Bool), o = .returned (v.map (cv γ)) ∧ Φ (.inl v) sh g tt ∧ ER γ sh g tt st t
def QX (γ : GG) (Φ : PO) : String → State → State → Prop := fun E st t => ∃ (sh : List Sh) (g : Mem) (tt : Bool), Φ (.inr E) sh g tt ∧ ER γ sh g tt st t
def WA (γ : GG) (M : MI) (n pc : Nat) (ls : List (Option Value)) (st : List Value) (sh : List Sh) (g : Mem) (tt : Bool) (b : Nat × Nat) (Φ : PO) : Prop :=
  ∀ (p : Program) (e : Env) (R : Room) (s : State) (m : MethodId) (args : Array Value) (below : List Frame) (meth : Method) (c : Code) (H : Heap) (locs : List Loc) (cells slots : Nat) (Ls : Array Slot),
    CX γ M n p e R s m args below meth c → Rel γ sh g H → TN γ tt sh s cells → va_S (gA γ) s.heap H locs → cells + b.1 ≤ R.cells → slots + b.2 ≤ R.slots → LH γ Ls M.2.2.1 ls →
    W p (gl γ) e R s m args below meth c H locs cells slots (vx_MQ below (QR γ Φ) (QX γ Φ) args s (cells + b.1) (slots + b.2) (gA γ)) (F0 m pc Ls (st.map (cv γ)))
def PcA (γ : GG) (av : List Value) (sh : List Sh) (g : Mem) (tt : Bool) : Array Value → State → Prop := fun a U => a = (av.map (cv γ)).toArray ∧ SF γ U ∧ Rel γ sh g U.heap ∧ TT γ tt sh U.heap
def CA (γ : GG) (M : MI) (n : Nat) (av : List Value) (sh : List Sh) (g : Mem) (tt : Bool) (b : Nat × Nat) (Φ : PO) : Prop :=
  ∀ rm : Room, rm.cells = b.1 → rm.slots = b.2 → frN n ≤ rm.frames → loN n ≤ rm.locals → vx_Met (gl γ) M.1 [MWc M] rm (PcA γ av sh g tt) (QR γ Φ) (QX γ Φ) b.1 b.2 (gA γ)
theorem PcA.blind {γ : GG} {av : List Value} {sh : List Sh} {g : Mem} {tt : Bool} : FrameBlind (PcA γ av sh g tt) := by
  rintro a U f mk ⟨h1, h2, h3, h4⟩
  exact ⟨h1, h2.blind f mk a, h3, h4⟩
