/-! A contract out of a walk; the one-instruction rules (by program: wip/gen/rules.py) -/
def ush (x y : Int32) : Int32 := (x.toUInt32 >>> (y.toUInt32 &&& Int32.toUInt32 31)).toInt32
def entL : List Value → List (Option Value)
  | [] => []
  | v :: vs => if v.category = 2 then some v :: none :: entL vs else some v :: entL vs
theorem entL_mem (γ : GG) : ∀ (av : List Value) (i j : Nat) (v : Value), (entL av)[j]? = some (some v) → (i + j, cv γ v) ∈ lv_args i (av.map (cv γ)) := by
  intro av
  induction av with
  | nil => intro i j v h; cases h
  | cons a av ih =>
    intro i j v h
    unfold entL at h
    show _ ∈ (i, cv γ a) :: lv_args (if (cv γ a).category = 2 then i + 2 else i + 1) (av.map (cv γ))
    rw [cv_cat]
    by_cases hc : a.category = 2
    · rw [if_pos hc] at h ⊢
      match j, h with
      | 0, h => cases h; exact List.mem_cons_self
      | j + 2, h =>
        have := ih (i + 2) j v h
        rw [show i + (j + 2) = i + 2 + j by omega]
        exact List.mem_cons_of_mem _ this
    · rw [if_neg hc] at h ⊢
      match j, h with
      | 0, h => cases h; exact List.mem_cons_self
      | j + 1, h =>
        have := ih (i + 1) j v h
        rw [show i + (j + 1) = i + 1 + j by omega]
        exact List.mem_cons_of_mem _ this
set_option maxHeartbeats 1000000 in
theorem CA.of {γ : GG} {M : MI} {n np : Nat} {av : List Value} {sh : List Sh} {g : Mem} {tt : Bool} {b : Nat × Nat} {Φ : PO} (hM : MWb M np) (k : Nat) (hsz : (lg_sl (av.map (cv γ))).length + k = M.2.2.1)
    (h : WA γ M n 0 (entL av ++ List.replicate k none) [] sh g tt b Φ) : CA γ M n av sh g tt b Φ := by
  intro rm hc hs hf hl
  have body : ∀ p e s m args below meth c s₁, BodyLoose p (gl γ) M.1 (headSpec [MWc M] rm) M.2.1 M.2.2.1 M.2.2.2.1 e s m args below meth c s₁ → c.maxLocals = M.2.2.1 → c.exceptionTable.toList = tableOf M.2.2.2.2 → PcA γ av sh g tt args s →
      W p (gl γ) e (headSpec [MWc M] rm).room s m args below meth c s.heap [] 0 0 (vx_MQ below (QR γ Φ) (QX γ Φ) args s b.1 b.2 (gA γ)) (entryFrame m args M.2.2.1) := by
    intro p e s m args below meth c s₁ B hml htab hP
    obtain ⟨rfl, hSF, hR, hT⟩ := hP
    have hl0 := lv_entry (av.map (cv γ)) (n := M.2.2.1) (by omega)
    rw [lg_entry_eq]
    have hls : LH γ ((lg_sl (av.map (cv γ)) ++ List.replicate (M.2.2.1 - (lg_sl (av.map (cv γ))).length) Slot.unset).toArray) M.2.2.1 (entL av ++ List.replicate k none) := by
      refine ⟨hl0.1, hl0.2.1, fun q hq => ?_⟩
      obtain ⟨j, v, h1, h2⟩ := (la_mem γ _ 0 q).mp hq
      rw [List.getElem?_append] at h1
      split at h1
      · rw [h2]
        exact hl0.2.2 _ (entL_mem γ av 0 j v h1)
      · rw [List.getElem?_replicate] at h1
        split at h1 <;> cases h1
    have := h p e (headSpec [MWc M] rm).room s m ((av.map (cv γ)).toArray) below meth c s.heap [] 0 0 _ ⟨B.exec, B.bytes, B.returns, hml, findClass_of_methodNamed B.named, B.notSynchronized, (name_of_methodNamed B.named B.method).1, htab, hf, hl, hSF⟩ hR (fun h => (hT h).symm) va_S.rf (by rw [Nat.zero_add]; exact Nat.le_of_eq hc.symm) (by rw [Nat.zero_add]; exact Nat.le_of_eq hs.symm) hls
    rw [Nat.zero_add, Nat.zero_add] at this
    exact this
  have hcw : ∀ (args : Array Value) (s : State), (allAtoms [MWc M]).before args s = true → (MWc M).before args s = true := fun args s q => atoms_spec (ws := [MWc M]) q _ List.mem_cons_self
  refine MetFree.of_bodySF (code := M.2.1) (maxLocals := M.2.2.1) (ret := M.2.2.2.1) hM.2.2.1 ?_ ?_
  · intro args s m h1 hn
    have h2 := hcw args s h1
    by_cases hh : M.2.2.2.2 = []
    · rw [MWc, if_pos hh] at h2
      obtain ⟨meth, c, h1, h2, h3, h4, h5, h6, -, -⟩ := Cond.code_spec hn h2
      exact ⟨meth, c, h1, h2, h3, h4, h5, h6⟩
    · rw [MWc, if_neg hh] at h2
      obtain ⟨m9, meth, c, hn9, h1, h2, h3, h4, -, h5, h6, -⟩ := Cond.codeWith_spec h2
      cases hn.symm.trans hn9
      exact ⟨meth, c, h1, h2, h3, h4, h5, h6⟩
  · intro p e s m args below meth c s₁ B hml hP _
    have hh0 : s₁.heap = s.heap := by rw [B.state]; rfl
    have htab : c.exceptionTable.toList = tableOf M.2.2.2.2 := by
      have h2 := hcw args s B.pre
      by_cases hh : M.2.2.2.2 = []
      · rw [MWc, if_pos hh] at h2
        obtain ⟨meth9, c9, h1, h2, -, -, -, -, h7, -⟩ := Cond.code_spec B.named h2
        cases Option.some.inj (h1.symm.trans B.method)
        cases Option.some.inj (h2.symm.trans (Stand.of_body B).code)
        rw [hh, Array.isEmpty_iff.mp h7]
        rfl
      · rw [MWc, if_neg hh] at h2
        exact vx_table (x := M.1) B h2
    obtain ⟨t, a1, o, b1, b2, b3⟩ := body p e s m args below meth c s₁ B hml htab hP s₁ hh0 (Stand.of_body B)
    exact ⟨t, o, a1, b1, b2, b3⟩
section Rules
variable {γ : GG} {M : MI} {n pc q : Nat} {ls : List (Option Value)} {st : List Value} {sh : List Sh} {g : Mem} {tt : Bool} {b : Nat × Nat} {Φ : PO}
theorem w_iconst {i : Int} {v : Int32} (hd : decode M.2.1 pc = .ok (.iconst i, 1)) (hq : pc + 1 = q) (hv : Int32.ofInt i = v) (k : WA γ M n q ls (.int v :: st) sh g tt b Φ) : WA γ M n pc ls st sh g tt b Φ := by
  subst hq
  intro p e R s m args below meth c H locs cells slots Ls C hR ht hS hc hs hl
  exact lv_iconst C.1 C.2.1 hd hv (k p e R s m args below meth c H locs cells slots Ls C hR ht hS hc hs hl)
theorem w_bipush {i : Int} {v : Int32} (hd : decode M.2.1 pc = .ok (.bipush i, 2)) (hq : pc + 2 = q) (hv : (Int8.ofInt i).toInt32 = v) (k : WA γ M n q ls (.int v :: st) sh g tt b Φ) : WA γ M n pc ls st sh g tt b Φ := by
  subst hq
  intro p e R s m args below meth c H locs cells slots Ls C hR ht hS hc hs hl
  exact lv_bipush C.1 C.2.1 hd hv (k p e R s m args below meth c H locs cells slots Ls C hR ht hS hc hs hl)
theorem w_sipush {i : Int} {v : Int32} (hd : decode M.2.1 pc = .ok (.sipush i, 3)) (hq : pc + 3 = q) (hv : (Int16.ofInt i).toInt32 = v) (k : WA γ M n q ls (.int v :: st) sh g tt b Φ) : WA γ M n pc ls st sh g tt b Φ := by
  subst hq
  intro p e R s m args below meth c H locs cells slots Ls C hR ht hS hc hs hl
  exact lv_sipush C.1 C.2.1 hd hv (k p e R s m args below meth c H locs cells slots Ls C hR ht hS hc hs hl)
theorem w_lconst {i : Fin 2} {v : Int64} (hd : decode M.2.1 pc = .ok (.lconst i, 1)) (hq : pc + 1 = q) (hv : Int64.ofNat (i : Nat) = v) (k : WA γ M n q ls (.long v :: st) sh g tt b Φ) : WA γ M n pc ls st sh g tt b Φ := by
  subst hq
  intro p e R s m args below meth c H locs cells slots Ls C hR ht hS hc hs hl
  exact lv_lconst C.1 C.2.1 hd hv (k p e R s m args below meth c H locs cells slots Ls C hR ht hS hc hs hl)
theorem w_iload_n {i : Fin 4} {x : Int32} (hd : decode M.2.1 pc = .ok (.iload_n i, 1)) (hq : pc + 1 = q) (hv : ls[(i : Nat)]? = some (some (.int x))) (k : WA γ M n q ls (.int x :: st) sh g tt b Φ) : WA γ M n pc ls st sh g tt b Φ := by
  subst hq
  intro p e R s m args below meth c H locs cells slots Ls C hR ht hS hc hs hl
  exact lv_iload_n C.1 C.2.1 hd rfl (hl.at hv) (k p e R s m args below meth c H locs cells slots Ls C hR ht hS hc hs hl)
theorem w_iload {i : Nat} {x : Int32} (hd : decode M.2.1 pc = .ok (.iload i, 2)) (hq : pc + 2 = q) (hv : ls[i]? = some (some (.int x))) (k : WA γ M n q ls (.int x :: st) sh g tt b Φ) : WA γ M n pc ls st sh g tt b Φ := by
  subst hq
  intro p e R s m args below meth c H locs cells slots Ls C hR ht hS hc hs hl
  exact lv_iload C.1 C.2.1 hd (hl.at hv) (k p e R s m args below meth c H locs cells slots Ls C hR ht hS hc hs hl)
theorem w_lload_n {i : Fin 4} {x : Int64} (hd : decode M.2.1 pc = .ok (.lload_n i, 1)) (hq : pc + 1 = q) (hv : ls[(i : Nat)]? = some (some (.long x))) (k : WA γ M n q ls (.long x :: st) sh g tt b Φ) : WA γ M n pc ls st sh g tt b Φ := by
  subst hq
  intro p e R s m args below meth c H locs cells slots Ls C hR ht hS hc hs hl
  exact lv_lload_n C.1 C.2.1 hd rfl (hl.at hv) (k p e R s m args below meth c H locs cells slots Ls C hR ht hS hc hs hl)
theorem w_lload {i : Nat} {x : Int64} (hd : decode M.2.1 pc = .ok (.lload i, 2)) (hq : pc + 2 = q) (hv : ls[i]? = some (some (.long x))) (k : WA γ M n q ls (.long x :: st) sh g tt b Φ) : WA γ M n pc ls st sh g tt b Φ := by
  subst hq
  intro p e R s m args below meth c H locs cells slots Ls C hR ht hS hc hs hl
  exact lv_lload C.1 C.2.1 hd (hl.at hv) (k p e R s m args below meth c H locs cells slots Ls C hR ht hS hc hs hl)
theorem w_aload_n {i : Fin 4} {x : Nat} (hd : decode M.2.1 pc = .ok (.aload_n i, 1)) (hq : pc + 1 = q) (hv : ls[(i : Nat)]? = some (some (.ref x))) (k : WA γ M n q ls (.ref x :: st) sh g tt b Φ) : WA γ M n pc ls st sh g tt b Φ := by
  subst hq
  intro p e R s m args below meth c H locs cells slots Ls C hR ht hS hc hs hl
  exact lv_aload_n C.1 C.2.1 hd rfl (hl.at hv) (k p e R s m args below meth c H locs cells slots Ls C hR ht hS hc hs hl)
theorem w_aload {i : Nat} {x : Nat} (hd : decode M.2.1 pc = .ok (.aload i, 2)) (hq : pc + 2 = q) (hv : ls[i]? = some (some (.ref x))) (k : WA γ M n q ls (.ref x :: st) sh g tt b Φ) : WA γ M n pc ls st sh g tt b Φ := by
  subst hq
  intro p e R s m args below meth c H locs cells slots Ls C hR ht hS hc hs hl
  exact lv_aload C.1 C.2.1 hd (hl.at hv) (k p e R s m args below meth c H locs cells slots Ls C hR ht hS hc hs hl)
theorem w_iadd {x y : Int32} (hd : decode M.2.1 pc = .ok (.iadd, 1)) (hq : pc + 1 = q) (k : WA γ M n q ls (.int (x + y) :: st) sh g tt b Φ) : WA γ M n pc ls (.int y :: .int x :: st) sh g tt b Φ := by
  subst hq
  intro p e R s m args below meth c H locs cells slots Ls C hR ht hS hc hs hl
  exact lv_iadd C.1 C.2.1 hd (k p e R s m args below meth c H locs cells slots Ls C hR ht hS hc hs hl)
theorem w_isub {x y : Int32} (hd : decode M.2.1 pc = .ok (.isub, 1)) (hq : pc + 1 = q) (k : WA γ M n q ls (.int (x - y) :: st) sh g tt b Φ) : WA γ M n pc ls (.int y :: .int x :: st) sh g tt b Φ := by
  subst hq
  intro p e R s m args below meth c H locs cells slots Ls C hR ht hS hc hs hl
  exact lv_isub C.1 C.2.1 hd (k p e R s m args below meth c H locs cells slots Ls C hR ht hS hc hs hl)
theorem w_imul {x y : Int32} (hd : decode M.2.1 pc = .ok (.imul, 1)) (hq : pc + 1 = q) (k : WA γ M n q ls (.int (x * y) :: st) sh g tt b Φ) : WA γ M n pc ls (.int y :: .int x :: st) sh g tt b Φ := by
  subst hq
  intro p e R s m args below meth c H locs cells slots Ls C hR ht hS hc hs hl
  exact lv_imul C.1 C.2.1 hd (k p e R s m args below meth c H locs cells slots Ls C hR ht hS hc hs hl)
theorem w_iand {x y : Int32} (hd : decode M.2.1 pc = .ok (.iand, 1)) (hq : pc + 1 = q) (k : WA γ M n q ls (.int (x &&& y) :: st) sh g tt b Φ) : WA γ M n pc ls (.int y :: .int x :: st) sh g tt b Φ := by
  subst hq
  intro p e R s m args below meth c H locs cells slots Ls C hR ht hS hc hs hl
  exact lv_iand C.1 C.2.1 hd (k p e R s m args below meth c H locs cells slots Ls C hR ht hS hc hs hl)
theorem w_ior {x y : Int32} (hd : decode M.2.1 pc = .ok (.ior, 1)) (hq : pc + 1 = q) (k : WA γ M n q ls (.int (x ||| y) :: st) sh g tt b Φ) : WA γ M n pc ls (.int y :: .int x :: st) sh g tt b Φ := by
  subst hq
  intro p e R s m args below meth c H locs cells slots Ls C hR ht hS hc hs hl
  exact lv_ior C.1 C.2.1 hd (k p e R s m args below meth c H locs cells slots Ls C hR ht hS hc hs hl)
theorem w_ixor {x y : Int32} (hd : decode M.2.1 pc = .ok (.ixor, 1)) (hq : pc + 1 = q) (k : WA γ M n q ls (.int (x ^^^ y) :: st) sh g tt b Φ) : WA γ M n pc ls (.int y :: .int x :: st) sh g tt b Φ := by
  subst hq
  intro p e R s m args below meth c H locs cells slots Ls C hR ht hS hc hs hl
  exact lv_ixor C.1 C.2.1 hd (k p e R s m args below meth c H locs cells slots Ls C hR ht hS hc hs hl)
theorem w_ishl {x y : Int32} (hd : decode M.2.1 pc = .ok (.ishl, 1)) (hq : pc + 1 = q) (k : WA γ M n q ls (.int (x <<< (y &&& 31)) :: st) sh g tt b Φ) : WA γ M n pc ls (.int y :: .int x :: st) sh g tt b Φ := by
  subst hq
  intro p e R s m args below meth c H locs cells slots Ls C hR ht hS hc hs hl
  exact lv_ishl C.1 C.2.1 hd (k p e R s m args below meth c H locs cells slots Ls C hR ht hS hc hs hl)
theorem w_ishr {x y : Int32} (hd : decode M.2.1 pc = .ok (.ishr, 1)) (hq : pc + 1 = q) (k : WA γ M n q ls (.int (x >>> (y &&& 31)) :: st) sh g tt b Φ) : WA γ M n pc ls (.int y :: .int x :: st) sh g tt b Φ := by
  subst hq
  intro p e R s m args below meth c H locs cells slots Ls C hR ht hS hc hs hl
  exact lv_ishr C.1 C.2.1 hd (k p e R s m args below meth c H locs cells slots Ls C hR ht hS hc hs hl)
theorem w_iushr {x y : Int32} (hd : decode M.2.1 pc = .ok (.iushr, 1)) (hq : pc + 1 = q) (k : WA γ M n q ls (.int (ush x y) :: st) sh g tt b Φ) : WA γ M n pc ls (.int y :: .int x :: st) sh g tt b Φ := by
  subst hq
  intro p e R s m args below meth c H locs cells slots Ls C hR ht hS hc hs hl
  exact lv_iushr C.1 C.2.1 hd rfl (k p e R s m args below meth c H locs cells slots Ls C hR ht hS hc hs hl)
theorem w_idiv {x y : Int32} (hd : decode M.2.1 pc = .ok (.idiv, 1)) (hq : pc + 1 = q) (hy : ¬ y = 0) (k : WA γ M n q ls (.int (x / y) :: st) sh g tt b Φ) : WA γ M n pc ls (.int y :: .int x :: st) sh g tt b Φ := by
  subst hq
  intro p e R s m args below meth c H locs cells slots Ls C hR ht hS hc hs hl
  exact lv_idiv C.1 C.2.1 hd hy (k p e R s m args below meth c H locs cells slots Ls C hR ht hS hc hs hl)
theorem w_irem {x y : Int32} (hd : decode M.2.1 pc = .ok (.irem, 1)) (hq : pc + 1 = q) (hy : ¬ y = 0) (k : WA γ M n q ls (.int (x - x / y * y) :: st) sh g tt b Φ) : WA γ M n pc ls (.int y :: .int x :: st) sh g tt b Φ := by
  subst hq
  intro p e R s m args below meth c H locs cells slots Ls C hR ht hS hc hs hl
  exact lv_irem C.1 C.2.1 hd hy (k p e R s m args below meth c H locs cells slots Ls C hR ht hS hc hs hl)
theorem w_ineg {x : Int32} (hd : decode M.2.1 pc = .ok (.ineg, 1)) (hq : pc + 1 = q) (k : WA γ M n q ls (.int (-x) :: st) sh g tt b Φ) : WA γ M n pc ls (.int x :: st) sh g tt b Φ := by
  subst hq
  intro p e R s m args below meth c H locs cells slots Ls C hR ht hS hc hs hl
  exact lv_ineg C.1 C.2.1 hd (k p e R s m args below meth c H locs cells slots Ls C hR ht hS hc hs hl)
theorem w_i2l {x : Int32} (hd : decode M.2.1 pc = .ok (.i2l, 1)) (hq : pc + 1 = q) (k : WA γ M n q ls (.long x.toInt64 :: st) sh g tt b Φ) : WA γ M n pc ls (.int x :: st) sh g tt b Φ := by
  subst hq
  intro p e R s m args below meth c H locs cells slots Ls C hR ht hS hc hs hl
  exact lv_i2l C.1 C.2.1 hd rfl (k p e R s m args below meth c H locs cells slots Ls C hR ht hS hc hs hl)
theorem w_i2b {x : Int32} (hd : decode M.2.1 pc = .ok (.i2b, 1)) (hq : pc + 1 = q) (k : WA γ M n q ls (.int x.toInt8.toInt32 :: st) sh g tt b Φ) : WA γ M n pc ls (.int x :: st) sh g tt b Φ := by
  subst hq
  intro p e R s m args below meth c H locs cells slots Ls C hR ht hS hc hs hl
  exact lv_i2b C.1 C.2.1 hd rfl (k p e R s m args below meth c H locs cells slots Ls C hR ht hS hc hs hl)
theorem w_lcmp {x y : Int64} (hd : decode M.2.1 pc = .ok (.lcmp, 1)) (hq : pc + 1 = q) (k : WA γ M n q ls (.int (lg_cmp x y) :: st) sh g tt b Φ) : WA γ M n pc ls (.long y :: .long x :: st) sh g tt b Φ := by
  subst hq
  intro p e R s m args below meth c H locs cells slots Ls C hR ht hS hc hs hl
  exact W.lcmp C.1 C.2.1 hd (k p e R s m args below meth c H locs cells slots Ls C hR ht hS hc hs hl)
theorem w_dup {v : Value} (hd : decode M.2.1 pc = .ok (.dup, 1)) (hq : pc + 1 = q) (hv : v.category = 1) (k : WA γ M n q ls (v :: v :: st) sh g tt b Φ) : WA γ M n pc ls (v :: st) sh g tt b Φ := by
  subst hq
  intro p e R s m args below meth c H locs cells slots Ls C hR ht hS hc hs hl
  exact lv_dup C.1 C.2.1 hd (by rw [cv_cat]; exact hv) (k p e R s m args below meth c H locs cells slots Ls C hR ht hS hc hs hl)
theorem w_pop {v : Value} (hd : decode M.2.1 pc = .ok (.pop, 1)) (hq : pc + 1 = q) (hv : v.category = 1) (k : WA γ M n q ls st sh g tt b Φ) : WA γ M n pc ls (v :: st) sh g tt b Φ := by
  subst hq
  intro p e R s m args below meth c H locs cells slots Ls C hR ht hS hc hs hl
  exact lv_pop C.1 C.2.1 hd (by rw [cv_cat]; exact hv) (k p e R s m args below meth c H locs cells slots Ls C hR ht hS hc hs hl)
theorem w_dup2 {v u : Value} (hd : decode M.2.1 pc = .ok (.dup2, 1)) (hq : pc + 1 = q) (hv : v.category = 1) (hu : u.category = 1) (k : WA γ M n q ls (v :: u :: v :: u :: st) sh g tt b Φ) : WA γ M n pc ls (v :: u :: st) sh g tt b Φ := by
  subst hq
  intro p e R s m args below meth c H locs cells slots Ls C hR ht hS hc hs hl
  exact lv_dup2_11 C.1 C.2.1 hd (by rw [cv_cat]; exact hv) (by rw [cv_cat]; exact hu) (k p e R s m args below meth c H locs cells slots Ls C hR ht hS hc hs hl)
theorem w_ldc {i : Nat} {v : Int32} (hd : decode M.2.1 pc = .ok (.ldc i, 2)) (hq : pc + 2 = q) (hw : Cond.constant M.1.cls i v ∈ lwg) (k : WA γ M n q ls (.int v :: st) sh g tt b Φ) : WA γ M n pc ls st sh g tt b Φ := by
  subst hq
  intro p e R s m args below meth c H locs cells slots Ls C hR ht hS hc hs hl
  exact lv_ldc C.1 C.2.1 C.2.2.2.2.1 (C.2.2.2.2.2.2.2.2.2.2.2.1 args _ hw) hd (k p e R s m args below meth c H locs cells slots Ls C hR ht hS hc hs hl)
theorem w_ldcw {i : Nat} {v : Int32} (hd : decode M.2.1 pc = .ok (.ldc_w i, 3)) (hq : pc + 3 = q) (hw : Cond.constant M.1.cls i v ∈ lwg) (k : WA γ M n q ls (.int v :: st) sh g tt b Φ) : WA γ M n pc ls st sh g tt b Φ := by
  subst hq
  intro p e R s m args below meth c H locs cells slots Ls C hR ht hS hc hs hl
  exact lv_ldcw C.1 C.2.1 C.2.2.2.2.1 (C.2.2.2.2.2.2.2.2.2.2.2.1 args _ hw) hd (k p e R s m args below meth c H locs cells slots Ls C hR ht hS hc hs hl)
theorem w_ldc2 {i : Nat} {v : Int64} (hd : decode M.2.1 pc = .ok (.ldc2_w i, 3)) (hq : pc + 3 = q) (hw : Cond.constantLong M.1.cls i v ∈ lwg) (k : WA γ M n q ls (.long v :: st) sh g tt b Φ) : WA γ M n pc ls st sh g tt b Φ := by
  subst hq
  intro p e R s m args below meth c H locs cells slots Ls C hR ht hS hc hs hl
  exact lv_ldc2 C.1 C.2.1 C.2.2.2.2.1 (C.2.2.2.2.2.2.2.2.2.2.2.1 args _ hw) hd (k p e R s m args below meth c H locs cells slots Ls C hR ht hS hc hs hl)
theorem w_ldcS {i j : Nat} {tx : String} (hd : decode M.2.1 pc = .ok (.ldc i, 2)) (hq : pc + 2 = q) (hj : j < 39) (hw : strL[j]? = some (M.1.cls, i, tx)) (k : WA γ M n q ls (.ref (1048576 + j) :: st) sh g tt b Φ) : WA γ M n pc ls st sh g tt b Φ := by
  subst hq
  intro p e R s m args below meth c H locs cells slots Ls C hR ht hS hc hs hl
  have hcr : cr γ (1048576 + j) = gK γ j := by unfold cr; rw [if_neg (by omega), if_pos (by omega), Nat.add_sub_cancel_left]
  exact va_ldcS (q := cr γ (1048576 + j)) C.1 C.2.1 C.2.2.2.2.1 (by rw [hcr]; exact C.2.2.2.2.2.2.2.2.2.2.2.2.2.1 j _ hw) hd (k p e R s m args below meth c H locs cells slots Ls C hR ht hS hc hs hl)
theorem w_goto {off : Int} (hd : decode M.2.1 pc = .ok (.goto off, 3)) (hq : (pc : Int) + off = (q : Int)) (k : WA γ M n q ls st sh g tt b Φ) : WA γ M n pc ls st sh g tt b Φ := by
  intro p e R s m args below meth c H locs cells slots Ls C hR ht hS hc hs hl
  exact lv_goto C.1 C.2.1 hd hq (k p e R s m args below meth c H locs cells slots Ls C hR ht hS hc hs hl)
theorem w_if_eq_t {x : Int32} {off : Int} (hd : decode M.2.1 pc = .ok (.ifCond .eq off, 3)) (hq : (pc : Int) + off = (q : Int)) (hx : x = 0) (k : WA γ M n q ls st sh g tt b Φ) : WA γ M n pc ls (.int x :: st) sh g tt b Φ := by
  intro p e R s m args below meth c H locs cells slots Ls C hR ht hS hc hs hl
  exact lv_if_eq C.1 C.2.1 hd hq (fun _ => k p e R s m args below meth c H locs cells slots Ls C hR ht hS hc hs hl) (fun h => absurd hx h)
theorem w_if_eq_f {x : Int32} {off : Int} (hd : decode M.2.1 pc = .ok (.ifCond .eq off, 3)) (tq : Nat) (hq0 : (pc : Int) + off = (tq : Int)) (hq : pc + 3 = q) (hx : ¬ (x = 0)) (k : WA γ M n q ls st sh g tt b Φ) : WA γ M n pc ls (.int x :: st) sh g tt b Φ := by
  subst hq
  intro p e R s m args below meth c H locs cells slots Ls C hR ht hS hc hs hl
  exact lv_if_eq C.1 C.2.1 hd hq0 (fun h => absurd h hx) (fun _ => k p e R s m args below meth c H locs cells slots Ls C hR ht hS hc hs hl)
theorem w_icmp_eq_t {x y : Int32} {off : Int} (hd : decode M.2.1 pc = .ok (.if_icmp .eq off, 3)) (hq : (pc : Int) + off = (q : Int)) (hx : x = y) (k : WA γ M n q ls st sh g tt b Φ) : WA γ M n pc ls (.int y :: .int x :: st) sh g tt b Φ := by
  intro p e R s m args below meth c H locs cells slots Ls C hR ht hS hc hs hl
  exact lv_icmp_eq C.1 C.2.1 hd hq (fun _ => k p e R s m args below meth c H locs cells slots Ls C hR ht hS hc hs hl) (fun h => absurd hx h)
theorem w_icmp_eq_f {x y : Int32} {off : Int} (hd : decode M.2.1 pc = .ok (.if_icmp .eq off, 3)) (tq : Nat) (hq0 : (pc : Int) + off = (tq : Int)) (hq : pc + 3 = q) (hx : ¬ (x = y)) (k : WA γ M n q ls st sh g tt b Φ) : WA γ M n pc ls (.int y :: .int x :: st) sh g tt b Φ := by
  subst hq
  intro p e R s m args below meth c H locs cells slots Ls C hR ht hS hc hs hl
  exact lv_icmp_eq C.1 C.2.1 hd hq0 (fun h => absurd h hx) (fun _ => k p e R s m args below meth c H locs cells slots Ls C hR ht hS hc hs hl)
theorem w_if_ne_t {x : Int32} {off : Int} (hd : decode M.2.1 pc = .ok (.ifCond .ne off, 3)) (hq : (pc : Int) + off = (q : Int)) (hx : ¬ x = 0) (k : WA γ M n q ls st sh g tt b Φ) : WA γ M n pc ls (.int x :: st) sh g tt b Φ := by
  intro p e R s m args below meth c H locs cells slots Ls C hR ht hS hc hs hl
  exact lv_if_ne C.1 C.2.1 hd hq (fun _ => k p e R s m args below meth c H locs cells slots Ls C hR ht hS hc hs hl) (fun h => absurd h hx)
theorem w_if_ne_f {x : Int32} {off : Int} (hd : decode M.2.1 pc = .ok (.ifCond .ne off, 3)) (tq : Nat) (hq0 : (pc : Int) + off = (tq : Int)) (hq : pc + 3 = q) (hx : x = 0) (k : WA γ M n q ls st sh g tt b Φ) : WA γ M n pc ls (.int x :: st) sh g tt b Φ := by
  subst hq
  intro p e R s m args below meth c H locs cells slots Ls C hR ht hS hc hs hl
  exact lv_if_ne C.1 C.2.1 hd hq0 (fun h => absurd hx h) (fun _ => k p e R s m args below meth c H locs cells slots Ls C hR ht hS hc hs hl)
theorem w_icmp_ne_t {x y : Int32} {off : Int} (hd : decode M.2.1 pc = .ok (.if_icmp .ne off, 3)) (hq : (pc : Int) + off = (q : Int)) (hx : ¬ x = y) (k : WA γ M n q ls st sh g tt b Φ) : WA γ M n pc ls (.int y :: .int x :: st) sh g tt b Φ := by
  intro p e R s m args below meth c H locs cells slots Ls C hR ht hS hc hs hl
  exact lv_icmp_ne C.1 C.2.1 hd hq (fun _ => k p e R s m args below meth c H locs cells slots Ls C hR ht hS hc hs hl) (fun h => absurd h hx)
theorem w_icmp_ne_f {x y : Int32} {off : Int} (hd : decode M.2.1 pc = .ok (.if_icmp .ne off, 3)) (tq : Nat) (hq0 : (pc : Int) + off = (tq : Int)) (hq : pc + 3 = q) (hx : x = y) (k : WA γ M n q ls st sh g tt b Φ) : WA γ M n pc ls (.int y :: .int x :: st) sh g tt b Φ := by
  subst hq
  intro p e R s m args below meth c H locs cells slots Ls C hR ht hS hc hs hl
  exact lv_icmp_ne C.1 C.2.1 hd hq0 (fun h => absurd hx h) (fun _ => k p e R s m args below meth c H locs cells slots Ls C hR ht hS hc hs hl)
theorem w_if_lt_t {x : Int32} {off : Int} (hd : decode M.2.1 pc = .ok (.ifCond .lt off, 3)) (hq : (pc : Int) + off = (q : Int)) (hx : x < 0) (k : WA γ M n q ls st sh g tt b Φ) : WA γ M n pc ls (.int x :: st) sh g tt b Φ := by
  intro p e R s m args below meth c H locs cells slots Ls C hR ht hS hc hs hl
  exact lv_if_lt C.1 C.2.1 hd hq (fun _ => k p e R s m args below meth c H locs cells slots Ls C hR ht hS hc hs hl) (fun h => absurd hx h)
theorem w_if_lt_f {x : Int32} {off : Int} (hd : decode M.2.1 pc = .ok (.ifCond .lt off, 3)) (tq : Nat) (hq0 : (pc : Int) + off = (tq : Int)) (hq : pc + 3 = q) (hx : ¬ (x < 0)) (k : WA γ M n q ls st sh g tt b Φ) : WA γ M n pc ls (.int x :: st) sh g tt b Φ := by
  subst hq
  intro p e R s m args below meth c H locs cells slots Ls C hR ht hS hc hs hl
  exact lv_if_lt C.1 C.2.1 hd hq0 (fun h => absurd h hx) (fun _ => k p e R s m args below meth c H locs cells slots Ls C hR ht hS hc hs hl)
theorem w_icmp_lt_t {x y : Int32} {off : Int} (hd : decode M.2.1 pc = .ok (.if_icmp .lt off, 3)) (hq : (pc : Int) + off = (q : Int)) (hx : x < y) (k : WA γ M n q ls st sh g tt b Φ) : WA γ M n pc ls (.int y :: .int x :: st) sh g tt b Φ := by
  intro p e R s m args below meth c H locs cells slots Ls C hR ht hS hc hs hl
  exact lv_icmp_lt C.1 C.2.1 hd hq (fun _ => k p e R s m args below meth c H locs cells slots Ls C hR ht hS hc hs hl) (fun h => absurd hx h)
theorem w_icmp_lt_f {x y : Int32} {off : Int} (hd : decode M.2.1 pc = .ok (.if_icmp .lt off, 3)) (tq : Nat) (hq0 : (pc : Int) + off = (tq : Int)) (hq : pc + 3 = q) (hx : ¬ (x < y)) (k : WA γ M n q ls st sh g tt b Φ) : WA γ M n pc ls (.int y :: .int x :: st) sh g tt b Φ := by
  subst hq
  intro p e R s m args below meth c H locs cells slots Ls C hR ht hS hc hs hl
  exact lv_icmp_lt C.1 C.2.1 hd hq0 (fun h => absurd h hx) (fun _ => k p e R s m args below meth c H locs cells slots Ls C hR ht hS hc hs hl)
theorem w_if_ge_t {x : Int32} {off : Int} (hd : decode M.2.1 pc = .ok (.ifCond .ge off, 3)) (hq : (pc : Int) + off = (q : Int)) (hx : 0 ≤ x) (k : WA γ M n q ls st sh g tt b Φ) : WA γ M n pc ls (.int x :: st) sh g tt b Φ := by
  intro p e R s m args below meth c H locs cells slots Ls C hR ht hS hc hs hl
  exact lv_if_ge C.1 C.2.1 hd hq (fun _ => k p e R s m args below meth c H locs cells slots Ls C hR ht hS hc hs hl) (fun h => absurd hx h)
theorem w_if_ge_f {x : Int32} {off : Int} (hd : decode M.2.1 pc = .ok (.ifCond .ge off, 3)) (tq : Nat) (hq0 : (pc : Int) + off = (tq : Int)) (hq : pc + 3 = q) (hx : ¬ (0 ≤ x)) (k : WA γ M n q ls st sh g tt b Φ) : WA γ M n pc ls (.int x :: st) sh g tt b Φ := by
  subst hq
  intro p e R s m args below meth c H locs cells slots Ls C hR ht hS hc hs hl
  exact lv_if_ge C.1 C.2.1 hd hq0 (fun h => absurd h hx) (fun _ => k p e R s m args below meth c H locs cells slots Ls C hR ht hS hc hs hl)
theorem w_icmp_ge_t {x y : Int32} {off : Int} (hd : decode M.2.1 pc = .ok (.if_icmp .ge off, 3)) (hq : (pc : Int) + off = (q : Int)) (hx : y ≤ x) (k : WA γ M n q ls st sh g tt b Φ) : WA γ M n pc ls (.int y :: .int x :: st) sh g tt b Φ := by
  intro p e R s m args below meth c H locs cells slots Ls C hR ht hS hc hs hl
  exact lv_icmp_ge C.1 C.2.1 hd hq (fun _ => k p e R s m args below meth c H locs cells slots Ls C hR ht hS hc hs hl) (fun h => absurd hx h)
theorem w_icmp_ge_f {x y : Int32} {off : Int} (hd : decode M.2.1 pc = .ok (.if_icmp .ge off, 3)) (tq : Nat) (hq0 : (pc : Int) + off = (tq : Int)) (hq : pc + 3 = q) (hx : ¬ (y ≤ x)) (k : WA γ M n q ls st sh g tt b Φ) : WA γ M n pc ls (.int y :: .int x :: st) sh g tt b Φ := by
  subst hq
  intro p e R s m args below meth c H locs cells slots Ls C hR ht hS hc hs hl
  exact lv_icmp_ge C.1 C.2.1 hd hq0 (fun h => absurd h hx) (fun _ => k p e R s m args below meth c H locs cells slots Ls C hR ht hS hc hs hl)
theorem w_if_gt_t {x : Int32} {off : Int} (hd : decode M.2.1 pc = .ok (.ifCond .gt off, 3)) (hq : (pc : Int) + off = (q : Int)) (hx : 0 < x) (k : WA γ M n q ls st sh g tt b Φ) : WA γ M n pc ls (.int x :: st) sh g tt b Φ := by
  intro p e R s m args below meth c H locs cells slots Ls C hR ht hS hc hs hl
  exact lv_if_gt C.1 C.2.1 hd hq (fun _ => k p e R s m args below meth c H locs cells slots Ls C hR ht hS hc hs hl) (fun h => absurd hx h)
theorem w_if_gt_f {x : Int32} {off : Int} (hd : decode M.2.1 pc = .ok (.ifCond .gt off, 3)) (tq : Nat) (hq0 : (pc : Int) + off = (tq : Int)) (hq : pc + 3 = q) (hx : ¬ (0 < x)) (k : WA γ M n q ls st sh g tt b Φ) : WA γ M n pc ls (.int x :: st) sh g tt b Φ := by
  subst hq
  intro p e R s m args below meth c H locs cells slots Ls C hR ht hS hc hs hl
  exact lv_if_gt C.1 C.2.1 hd hq0 (fun h => absurd h hx) (fun _ => k p e R s m args below meth c H locs cells slots Ls C hR ht hS hc hs hl)
theorem w_icmp_gt_t {x y : Int32} {off : Int} (hd : decode M.2.1 pc = .ok (.if_icmp .gt off, 3)) (hq : (pc : Int) + off = (q : Int)) (hx : y < x) (k : WA γ M n q ls st sh g tt b Φ) : WA γ M n pc ls (.int y :: .int x :: st) sh g tt b Φ := by
  intro p e R s m args below meth c H locs cells slots Ls C hR ht hS hc hs hl
  exact lv_icmp_gt C.1 C.2.1 hd hq (fun _ => k p e R s m args below meth c H locs cells slots Ls C hR ht hS hc hs hl) (fun h => absurd hx h)
theorem w_icmp_gt_f {x y : Int32} {off : Int} (hd : decode M.2.1 pc = .ok (.if_icmp .gt off, 3)) (tq : Nat) (hq0 : (pc : Int) + off = (tq : Int)) (hq : pc + 3 = q) (hx : ¬ (y < x)) (k : WA γ M n q ls st sh g tt b Φ) : WA γ M n pc ls (.int y :: .int x :: st) sh g tt b Φ := by
  subst hq
  intro p e R s m args below meth c H locs cells slots Ls C hR ht hS hc hs hl
  exact lv_icmp_gt C.1 C.2.1 hd hq0 (fun h => absurd h hx) (fun _ => k p e R s m args below meth c H locs cells slots Ls C hR ht hS hc hs hl)
theorem w_if_le_t {x : Int32} {off : Int} (hd : decode M.2.1 pc = .ok (.ifCond .le off, 3)) (hq : (pc : Int) + off = (q : Int)) (hx : x ≤ 0) (k : WA γ M n q ls st sh g tt b Φ) : WA γ M n pc ls (.int x :: st) sh g tt b Φ := by
  intro p e R s m args below meth c H locs cells slots Ls C hR ht hS hc hs hl
  exact lv_if_le C.1 C.2.1 hd hq (fun _ => k p e R s m args below meth c H locs cells slots Ls C hR ht hS hc hs hl) (fun h => absurd hx h)
theorem w_if_le_f {x : Int32} {off : Int} (hd : decode M.2.1 pc = .ok (.ifCond .le off, 3)) (tq : Nat) (hq0 : (pc : Int) + off = (tq : Int)) (hq : pc + 3 = q) (hx : ¬ (x ≤ 0)) (k : WA γ M n q ls st sh g tt b Φ) : WA γ M n pc ls (.int x :: st) sh g tt b Φ := by
  subst hq
  intro p e R s m args below meth c H locs cells slots Ls C hR ht hS hc hs hl
  exact lv_if_le C.1 C.2.1 hd hq0 (fun h => absurd h hx) (fun _ => k p e R s m args below meth c H locs cells slots Ls C hR ht hS hc hs hl)
theorem w_icmp_le_t {x y : Int32} {off : Int} (hd : decode M.2.1 pc = .ok (.if_icmp .le off, 3)) (hq : (pc : Int) + off = (q : Int)) (hx : x ≤ y) (k : WA γ M n q ls st sh g tt b Φ) : WA γ M n pc ls (.int y :: .int x :: st) sh g tt b Φ := by
  intro p e R s m args below meth c H locs cells slots Ls C hR ht hS hc hs hl
  exact lv_icmp_le C.1 C.2.1 hd hq (fun _ => k p e R s m args below meth c H locs cells slots Ls C hR ht hS hc hs hl) (fun h => absurd hx h)
theorem w_icmp_le_f {x y : Int32} {off : Int} (hd : decode M.2.1 pc = .ok (.if_icmp .le off, 3)) (tq : Nat) (hq0 : (pc : Int) + off = (tq : Int)) (hq : pc + 3 = q) (hx : ¬ (x ≤ y)) (k : WA γ M n q ls st sh g tt b Φ) : WA γ M n pc ls (.int y :: .int x :: st) sh g tt b Φ := by
  subst hq
  intro p e R s m args below meth c H locs cells slots Ls C hR ht hS hc hs hl
  exact lv_icmp_le C.1 C.2.1 hd hq0 (fun h => absurd h hx) (fun _ => k p e R s m args below meth c H locs cells slots Ls C hR ht hS hc hs hl)
theorem w_istore_n {i : Fin 4} {x : Int32} {ls' : List (Option Value)} (hd : decode M.2.1 pc = .ok (.istore_n i, 1)) (hq : pc + 1 = q) (hi : (i : Nat) < M.2.2.1) (hok : okS ls (i : Nat) = true) (hs9 : ls.set (i : Nat) (some (.int x)) = ls') (k : WA γ M n q ls' st sh g tt b Φ) : WA γ M n pc ls (.int x :: st) sh g tt b Φ := by
  subst hq; subst hs9
  intro p e R s m args below meth c H locs cells slots Ls C hR ht hS hc hs hl
  exact lv_istore_n C.1 C.2.1 hd rfl hl hi rfl (fun Ls hl9 => k p e R s m args below meth c H locs cells slots Ls C hR ht hS hc hs (LH.put hok hl9))
theorem w_istore {i : Nat} {x : Int32} {ls' : List (Option Value)} (hd : decode M.2.1 pc = .ok (.istore i, 2)) (hq : pc + 2 = q) (hi : (i : Nat) < M.2.2.1) (hok : okS ls (i : Nat) = true) (hs9 : ls.set (i : Nat) (some (.int x)) = ls') (k : WA γ M n q ls' st sh g tt b Φ) : WA γ M n pc ls (.int x :: st) sh g tt b Φ := by
  subst hq; subst hs9
  intro p e R s m args below meth c H locs cells slots Ls C hR ht hS hc hs hl
  exact lv_istore C.1 C.2.1 hd hl hi rfl (fun Ls hl9 => k p e R s m args below meth c H locs cells slots Ls C hR ht hS hc hs (LH.put hok hl9))
theorem w_astore_n {i : Fin 4} {x : Nat} {ls' : List (Option Value)} (hd : decode M.2.1 pc = .ok (.astore_n i, 1)) (hq : pc + 1 = q) (hi : (i : Nat) < M.2.2.1) (hok : okS ls (i : Nat) = true) (hs9 : ls.set (i : Nat) (some (.ref x)) = ls') (k : WA γ M n q ls' st sh g tt b Φ) : WA γ M n pc ls (.ref x :: st) sh g tt b Φ := by
  subst hq; subst hs9
  intro p e R s m args below meth c H locs cells slots Ls C hR ht hS hc hs hl
  exact lv_astore_n C.1 C.2.1 hd rfl hl hi rfl (fun Ls hl9 => k p e R s m args below meth c H locs cells slots Ls C hR ht hS hc hs (LH.put hok hl9))
theorem w_astore {i : Nat} {x : Nat} {ls' : List (Option Value)} (hd : decode M.2.1 pc = .ok (.astore i, 2)) (hq : pc + 2 = q) (hi : (i : Nat) < M.2.2.1) (hok : okS ls (i : Nat) = true) (hs9 : ls.set (i : Nat) (some (.ref x)) = ls') (k : WA γ M n q ls' st sh g tt b Φ) : WA γ M n pc ls (.ref x :: st) sh g tt b Φ := by
  subst hq; subst hs9
  intro p e R s m args below meth c H locs cells slots Ls C hR ht hS hc hs hl
  exact lv_astore C.1 C.2.1 hd hl hi rfl (fun Ls hl9 => k p e R s m args below meth c H locs cells slots Ls C hR ht hS hc hs (LH.put hok hl9))
theorem w_iinc {i : Nat} {d : Int} {x : Int32} {ls' : List (Option Value)} (hd : decode M.2.1 pc = .ok (.iinc i d, 3)) (hq : pc + 3 = q) (hi : i < M.2.2.1) (hv : ls[i]? = some (some (.int x))) (hok : okS ls i = true) (hs9 : ls.set i (some (.int (x + Int32.ofInt d))) = ls') (k : WA γ M n q ls' st sh g tt b Φ) : WA γ M n pc ls st sh g tt b Φ := by
  subst hq; subst hs9
  intro p e R s m args below meth c H locs cells slots Ls C hR ht hS hc hs hl
  obtain ⟨j, hj⟩ := List.getElem?_of_mem ((la_mem γ ls 0 (i, cv γ (.int x))).mpr ⟨i, .int x, hv, by rw [Nat.zero_add]⟩)
  exact lv_iinc C.1 C.2.1 hd hl hj rfl hi rfl (fun Ls hl9 => k p e R s m args below meth c H locs cells slots Ls C hR ht hS hc hs (LH.put hok hl9))
/-- fewer locals are known -/
theorem w_less {ls' : List (Option Value)} (h : ∀ (i : Nat) (v : Value), ls'[i]? = some (some v) → ls[i]? = some (some v)) (k : WA γ M n pc ls' st sh g tt b Φ) : WA γ M n pc ls st sh g tt b Φ := by
  intro p e R s m args below meth c H locs cells slots Ls C hR ht hS hc hs hl
  exact k p e R s m args below meth c H locs cells slots Ls C hR ht hS hc hs (hl.less h)
end Rules
