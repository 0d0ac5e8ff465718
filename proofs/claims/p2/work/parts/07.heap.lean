/-! rules that read and write the world; returns -/
def fv (t : Nat) (x : Int32) : Value := match t with
  | 0 => .int x
  | 1 => .null
  | t + 2 => .ref t
theorem tv_fv (γ : GG) (t : Nat) (x : Int32) : tv γ t x = cv γ (fv t x) := by
  match t with
  | 0 => rfl
  | 1 => rfl
  | t + 2 => rfl
def inb (i : Int32) (n : Nat) : Bool := !(decide (i < 0)) && decide (i.toNatClampNeg < n)
theorem inb_vp {i : Int32} {n : Nat} (h : inb i n = true) : vp_in i n := by
  simp only [inb, Bool.and_eq_true, Bool.not_eq_true', decide_eq_false_iff_not, decide_eq_true_eq] at h
  rintro (h1 | h1)
  · exact h.1 h1
  · omega
theorem tys_at (γ : GG) : (gtys γ)[0]? = some (gc γ 0, .int) ∧ (gtys γ)[1]? = some (gc γ 1, .byte) ∧ (gtys γ)[2]? = some (gc γ 2, .long) ∧ (gtys γ)[3]? = some (gc γ 3, .object "java/lang/String") := ⟨rfl, rfl, rfl, rfl⟩
section Heap
variable {γ : GG} {M : MI} {n pc q : Nat} {ls : List (Option Value)} {st : List Value} {sh : List Sh} {g : Mem} {tt : Bool} {b : Nat × Nat} {Φ : PO}
theorem cr_lo (γ : GG) {k : Nat} (h : k < 1048576) : cr γ k = gz γ + k := by unfold cr; rw [if_pos h]
theorem Rel.lt {H : Heap} (_ : Rel γ sh g H) {k : Nat} {s : Sh} (hk : sh[k]? = some s) : k < sh.length := (List.getElem?_eq_some_iff.mp hk).1
theorem Rel.ofP {H : Heap} (hP : va_P (gD γ) xcl (wsO γ g sh 0) H) {k : Nat} {s : Sh} (hk : sh[k]? = some s) : Rel γ sh g H := by
  refine ⟨hP, ?_⟩
  have h0 : sh.length - 1 < sh.length := by
    have := (List.getElem?_eq_some_iff.mp hk).1
    omega
  obtain ⟨s9, hs9⟩ : ∃ s9, sh[sh.length - 1]? = some s9 := ⟨_, List.getElem?_eq_getElem h0⟩
  have := (hP (sh.length - 1) _ (wsO_at γ _ hs9)).lt
  simp only [] at this
  omega
/-- a field is read -/
theorem w_get {i k ci j ln t : Nat} {tm : List Nat} (hd : decode M.2.1 pc = .ok (.getfield i, 3)) (hq : pc + 3 = q) (hc : ci < 13) (hw : Cond.fieldLink M.1.cls i (xT ci j).1 (xT ci j).2.1 (xT ci j).2.2.1 ∈ lwg) (hj : j < xN ci) (hk : k < 1048576) (hs : sh[k]? = some (0, ci, tm, ln)) (ht : tm[j]? = some t) {v : Value} (hv : fv t (g k j) = v)
    (kk : WA γ M n q ls (v :: st) sh g tt b Φ) : WA γ M n pc ls (.ref k :: st) sh g tt b Φ := by
  subst hq; subst hv
  intro p e R s m args below meth c H locs cells slots Ls C hR ht9 hS hc9 hs9 hl
  obtain ⟨hx, hb, -, -, hown, -, -, -, -, -, hSF⟩ := id C
  have he := wsO_at γ g hs
  show W p (gl γ) e R s m args below meth c H locs cells slots _ (F0 m pc Ls (.ref (cr γ k) :: st.map (cv γ)))
  rw [cr_lo γ hk]
  refine va_get (v := tv γ t (g k j)) hx hb (hSF.2.1 args) (xin ci hc) hown hSF.1 hR.1 k he (xcl_at ci hc) j hj (hSF.2.1 args _ hw) (fun _ h9 => h9) (by rw [cf_get, ht, Nat.zero_add]; rfl) hd ?_
  rw [tv_fv]
  exact kk p e R s m args below meth c H locs cells slots Ls C hR ht9 hS hc9 hs9 hl
/-- a number is written into a field that isn't final -/
theorem w_put {i k ci j ln : Nat} {tm : List Nat} {x : Int32} {ty : FieldType} {g' : Mem} (hd : decode M.2.1 pc = .ok (.putfield i, 3)) (hq : pc + 3 = q) (hc : ci < 13) (hw : Cond.fieldLink M.1.cls i (xT ci j).1 (xT ci j).2.1 (xT ci j).2.2.1 ∈ lwg) (hj : j < xN ci) (hk : k < 1048576) (hs : sh[k]? = some (0, ci, tm, ln)) (ht : tm[j]? = some 0)
    (hf : (xT ci j).2.2.2 = false) (hty : parseFieldDescriptor (xT ci j).2.2.1 = some ty) (hn : narrow ty (.int x) = .int x) (hfit : fits ty (.int x) = true) (hg : mset g k j x = g')
    (kk : WA γ M n q ls st sh g' tt b Φ) : WA γ M n pc ls (.int x :: .ref k :: st) sh g tt b Φ := by
  subst hq; subst hg
  intro p e R s m args below meth c H locs cells slots Ls C hR ht9 hS hc9 hs9 hl
  obtain ⟨hx, hb, -, -, hown, -, -, -, -, -, hSF⟩ := id C
  have he := wsO_at γ g hs
  show W p (gl γ) e R s m args below meth c H locs cells slots _ (F0 m pc Ls (.int x :: .ref (cr γ k) :: st.map (cv γ)))
  rw [cr_lo γ hk]
  refine va_put (v := .int x) hx hb (hSF.2.1 args) (xin ci hc) (xy ci) (xty ci hc) (xnm ci hc) hown hSF.1 hR.1 (wsO_D γ g sh) hS k he (xcl_at ci hc) j hj (hSF.2.1 args _ hw) (fun _ h9 => h9) hf hty hn hfit (by rw [cf_len]; exact (List.getElem?_eq_some_iff.mp ht).1) hd ?_
  intro H1 locs1 hP1 hD1 hS1
  have e1 : (wsO γ g sh 0).set k (gz γ + k, .inr (ci, (cf γ (g k) tm 0).set j (.int x))) = wsO γ (mset g k j x) sh 0 := by
    rw [cf_setI γ (g k) tm j x ht]
    exact wsO_set0 γ g (upd (g k) j x) hs
  exact kk p e R s m args below meth c H1 locs1 cells slots Ls C (Rel.ofP (by rw [← e1]; exact hP1) hs) ht9 hS1 hc9 hs9 hl
/-- a number is written into a final field, in a constructor -/
theorem w_putF {i k ci j ln : Nat} {tm : List Nat} {x : Int32} {ty : FieldType} {g' : Mem} (hd : decode M.2.1 pc = .ok (.putfield i, 3)) (hq : pc + 3 = q) (hc : ci < 13) (hw : Cond.fieldLink M.1.cls i (xT ci j).1 (xT ci j).2.1 (xT ci j).2.2.1 ∈ lwg) (hj : j < xN ci) (hk : k < 1048576) (hs : sh[k]? = some (0, ci, tm, ln)) (ht : tm[j]? = some 0)
    (hf : (xT ci j).2.2.2 = true) (hi : M.1.name = "<init>") (hde : (xT ci j).1 = M.1.cls) (hty : parseFieldDescriptor (xT ci j).2.2.1 = some ty) (hn : narrow ty (.int x) = .int x) (hfit : fits ty (.int x) = true) (hg : mset g k j x = g')
    (kk : WA γ M n q ls st sh g' tt b Φ) : WA γ M n pc ls (.int x :: .ref k :: st) sh g tt b Φ := by
  subst hq; subst hg
  intro p e R s m args below meth c H locs cells slots Ls C hR ht9 hS hc9 hs9 hl
  obtain ⟨hx, hb, -, -, hown, -, hnm, -, -, -, hSF⟩ := id C
  have he := wsO_at γ g hs
  show W p (gl γ) e R s m args below meth c H locs cells slots _ (F0 m pc Ls (.int x :: .ref (cr γ k) :: st.map (cv γ)))
  rw [cr_lo γ hk]
  refine va_putF (v := .int x) hx hb (hSF.2.1 args) (xin ci hc) (xy ci) (xty ci hc) (xnm ci hc) hown hSF.1 hR.1 (wsO_D γ g sh) hS k he (xcl_at ci hc) j hj (hSF.2.1 args _ hw) (fun _ h9 => h9) hf (hnm.trans hi) hde hty hn hfit (by rw [cf_len]; exact (List.getElem?_eq_some_iff.mp ht).1) hd ?_
  intro H1 locs1 hP1 hD1 hS1
  have e1 : (wsO γ g sh 0).set k (gz γ + k, .inr (ci, (cf γ (g k) tm 0).set j (.int x))) = wsO γ (mset g k j x) sh 0 := by
    rw [cf_setI γ (g k) tm j x ht]
    exact wsO_set0 γ g (upd (g k) j x) hs
  exact kk p e R s m args below meth c H1 locs1 cells slots Ls C (Rel.ofP (by rw [← e1]; exact hP1) hs) ht9 hS1 hc9 hs9 hl
/-- a reference is written into a final field, in a constructor -/
theorem w_putR {i k ci j ln r t0 : Nat} {tm : List Nat} {ty : FieldType} {sh' : List Sh} (hd : decode M.2.1 pc = .ok (.putfield i, 3)) (hq : pc + 3 = q) (hc : ci < 13) (hw : Cond.fieldLink M.1.cls i (xT ci j).1 (xT ci j).2.1 (xT ci j).2.2.1 ∈ lwg) (hj : j < xN ci) (hk : k < 1048576) (hs : sh[k]? = some (0, ci, tm, ln)) (ht : tm[j]? = some t0)
    (hf : (xT ci j).2.2.2 = true) (hi : M.1.name = "<init>") (hde : (xT ci j).1 = M.1.cls) (hty : parseFieldDescriptor (xT ci j).2.2.1 = some ty) (hn : ∀ a : Nat, narrow ty (.ref a) = .ref a) (hfit : ∀ a : Nat, fits ty (.ref a) = true) (hsh : sh.set k (0, ci, tm.set j (r + 2), ln) = sh')
    (kk : WA γ M n q ls st sh' g tt b Φ) : WA γ M n pc ls (.ref r :: .ref k :: st) sh g tt b Φ := by
  subst hq; subst hsh
  intro p e R s m args below meth c H locs cells slots Ls C hR ht9 hS hc9 hs9 hl
  obtain ⟨hx, hb, -, -, hown, -, hnm, -, -, -, hSF⟩ := id C
  have he := wsO_at γ g hs
  show W p (gl γ) e R s m args below meth c H locs cells slots _ (F0 m pc Ls (.ref (cr γ r) :: .ref (cr γ k) :: st.map (cv γ)))
  rw [cr_lo γ hk]
  refine va_putF (v := .ref (cr γ r)) hx hb (hSF.2.1 args) (xin ci hc) (xy ci) (xty ci hc) (xnm ci hc) hown hSF.1 hR.1 (wsO_D γ g sh) hS k he (xcl_at ci hc) j hj (hSF.2.1 args _ hw) (fun _ h9 => h9) hf (hnm.trans hi) hde hty (hn _) (hfit _) (by rw [cf_len]; exact (List.getElem?_eq_some_iff.mp ht).1) hd ?_
  intro H1 locs1 hP1 hD1 hS1
  have hlt := (List.getElem?_eq_some_iff.mp hs).1
  have e1 : (wsO γ g sh 0).set k (gz γ + k, .inr (ci, (cf γ (g k) tm 0).set j (.ref (cr γ r)))) = wsO γ g (sh.set k (0, ci, tm.set j (r + 2), ln)) 0 := by
    rw [cf_setR γ (g k) tm j r]
    have e2 : mrow g k (g k) = g := by
      funext k'
      by_cases h : k' = k
      · subst h; exact mrow_self _ _ _
      · exact mrow_other _ _ h
    have := wsO_set γ g (0, ci, tm.set j (r + 2), ln) (g k) hlt
    rw [e2] at this
    exact this
  have hs2 : (sh.set k (0, ci, tm.set j (r + 2), ln))[k]? = some (0, ci, tm.set j (r + 2), ln) := by rw [List.getElem?_set, if_pos rfl, if_pos hlt]
  exact kk p e R s m args below meth c H1 locs1 cells slots Ls C (Rel.ofP (by rw [← e1]; exact hP1) hs2) (fun h => by rw [List.length_set]; exact ht9 h) hS1 hc9 hs9 hl
theorem w_iald {k t ln : Nat} {tm : List Nat} {x : Int32} (hd : decode M.2.1 pc = .ok (.iaload, 1)) (hq : pc + 1 = q) (hk : k < 1048576) (hs : sh[k]? = some (1, 0, tm, ln)) (hi : inb x ln = true) (_ : t = 0)
    (kk : WA γ M n q ls (.int (g k x.toNatClampNeg) :: st) sh g tt b Φ) : WA γ M n pc ls (.int x :: .ref k :: st) sh g tt b Φ := by
  subst hq
  intro p e R s m args below meth c H locs cells slots Ls C hR ht9 hS hc9 hs9 hl
  obtain ⟨hx, hb, -, -, hown, -, -, -, -, -, hSF⟩ := id C
  show W p (gl γ) e R s m args below meth c H locs cells slots _ (F0 m pc Ls (.int x :: .ref (cr γ k) :: st.map (cv γ)))
  rw [cr_lo γ hk]
  exact va_iald hx hb hSF.1 hR.1 k 0 (wsO_at γ g hs) (tys_at γ).1 (inb_vp hi) hd (kk p e R s m args below meth c H locs cells slots Ls C hR ht9 hS hc9 hs9 hl)
theorem w_bald {k ln : Nat} {tm : List Nat} {x : Int32} (hd : decode M.2.1 pc = .ok (.baload, 1)) (hq : pc + 1 = q) (hk : k < 1048576) (hs : sh[k]? = some (1, 1, tm, ln)) (hi : inb x ln = true)
    (kk : WA γ M n q ls (.int (g k x.toNatClampNeg) :: st) sh g tt b Φ) : WA γ M n pc ls (.int x :: .ref k :: st) sh g tt b Φ := by
  subst hq
  intro p e R s m args below meth c H locs cells slots Ls C hR ht9 hS hc9 hs9 hl
  obtain ⟨hx, hb, -, -, hown, -, -, -, -, -, hSF⟩ := id C
  show W p (gl γ) e R s m args below meth c H locs cells slots _ (F0 m pc Ls (.int x :: .ref (cr γ k) :: st.map (cv γ)))
  rw [cr_lo γ hk]
  exact va_bald hx hb hSF.1 hR.1 k 1 (wsO_at γ g hs) (tys_at γ).2.1 (inb_vp hi) hd (kk p e R s m args below meth c H locs cells slots Ls C hR ht9 hS hc9 hs9 hl)
theorem w_lald {k ln : Nat} {tm : List Nat} {x : Int32} (hd : decode M.2.1 pc = .ok (.laload, 1)) (hq : pc + 1 = q) (hk : k < 1048576) (hs : sh[k]? = some (2, 0, tm, ln)) (hi : inb x ln = true)
    (kk : WA γ M n q ls (.long (g k x.toNatClampNeg).toInt64 :: st) sh g tt b Φ) : WA γ M n pc ls (.int x :: .ref k :: st) sh g tt b Φ := by
  subst hq
  intro p e R s m args below meth c H locs cells slots Ls C hR ht9 hS hc9 hs9 hl
  obtain ⟨hx, hb, -, -, hown, -, -, -, -, -, hSF⟩ := id C
  show W p (gl γ) e R s m args below meth c H locs cells slots _ (F0 m pc Ls (.int x :: .ref (cr γ k) :: st.map (cv γ)))
  rw [cr_lo γ hk]
  exact va_lald hx hb hSF.1 hR.1 k 2 (wsO_at γ g hs) (tys_at γ).2.2.1 (inb_vp hi) hd (kk p e R s m args below meth c H locs cells slots Ls C hR ht9 hS hc9 hs9 hl)
/-- a text out of a row of texts -/
theorem w_aald {k ln r : Nat} {tm : List Nat} {x : Int32} (hd : decode M.2.1 pc = .ok (.aaload, 1)) (hq : pc + 1 = q) (hk : k < 1048576) (hs : sh[k]? = some (3, 0, tm, ln)) (hi : inb x ln = true) (hr : tm.getD x.toNatClampNeg 0 = r + 1)
    (kk : WA γ M n q ls (.ref r :: st) sh g tt b Φ) : WA γ M n pc ls (.int x :: .ref k :: st) sh g tt b Φ := by
  subst hq
  intro p e R s m args below meth c H locs cells slots Ls C hR ht9 hS hc9 hs9 hl
  obtain ⟨hx, hb, -, -, hown, -, -, -, -, -, hSF⟩ := id C
  show W p (gl γ) e R s m args below meth c H locs cells slots _ (F0 m pc Ls (.int x :: .ref (cr γ k) :: st.map (cv γ)))
  rw [cr_lo γ hk]
  refine va_aldq hx hb hSF.1 hR.1 k 3 (wsO_at γ g hs) (tys_at γ).2.2.2 (inb_vp hi) hd ?_
  simp only [hr, rt, va_rf]
  exact kk p e R s m args below meth c H locs cells slots Ls C hR ht9 hS hc9 hs9 hl
theorem w_iast {k ln : Nat} {tm : List Nat} {x v : Int32} {g' : Mem} (hd : decode M.2.1 pc = .ok (.iastore, 1)) (hq : pc + 1 = q) (hk : k < 1048576) (hs : sh[k]? = some (1, 0, tm, ln)) (hi : inb x ln = true) (hg : mset g k x.toNatClampNeg v = g')
    (kk : WA γ M n q ls st sh g' tt b Φ) : WA γ M n pc ls (.int v :: .int x :: .ref k :: st) sh g tt b Φ := by
  subst hq; subst hg
  intro p e R s m args below meth c H locs cells slots Ls C hR ht9 hS hc9 hs9 hl
  obtain ⟨hx, hb, -, -, hown, -, -, -, -, -, hSF⟩ := id C
  show W p (gl γ) e R s m args below meth c H locs cells slots _ (F0 m pc Ls (.int v :: .int x :: .ref (cr γ k) :: st.map (cv γ)))
  rw [cr_lo γ hk]
  refine va_iast hx hb hSF.1 hR.1 (wsO_D γ g sh) hS k 0 (wsO_at γ g hs) (tys_at γ).1 (inb_vp hi) hd ?_
  intro H1 locs1 hP1 hD1 hS1
  have e1 := wsO_set0 γ g (upd (g k) x.toNatClampNeg v) hs
  exact kk p e R s m args below meth c H1 locs1 cells slots Ls C (Rel.ofP (by unfold mset; rw [← e1]; exact hP1) hs) ht9 hS1 hc9 hs9 hl
theorem w_bast {k ln : Nat} {tm : List Nat} {x v : Int32} {g' : Mem} (hd : decode M.2.1 pc = .ok (.bastore, 1)) (hq : pc + 1 = q) (hk : k < 1048576) (hs : sh[k]? = some (1, 1, tm, ln)) (hi : inb x ln = true) (hg : mset g k x.toNatClampNeg v.toInt8.toInt32 = g')
    (kk : WA γ M n q ls st sh g' tt b Φ) : WA γ M n pc ls (.int v :: .int x :: .ref k :: st) sh g tt b Φ := by
  subst hq; subst hg
  intro p e R s m args below meth c H locs cells slots Ls C hR ht9 hS hc9 hs9 hl
  obtain ⟨hx, hb, -, -, hown, -, -, -, -, -, hSF⟩ := id C
  show W p (gl γ) e R s m args below meth c H locs cells slots _ (F0 m pc Ls (.int v :: .int x :: .ref (cr γ k) :: st.map (cv γ)))
  rw [cr_lo γ hk]
  refine va_bast hx hb hSF.1 hR.1 (wsO_D γ g sh) hS k 1 (wsO_at γ g hs) (tys_at γ).2.1 (inb_vp hi) hd ?_
  intro H1 locs1 hP1 hD1 hS1
  have e1 := wsO_set0 γ g (upd (g k) x.toNatClampNeg v.toInt8.toInt32) hs
  rw [vp_nar_byte] at hP1
  exact kk p e R s m args below meth c H1 locs1 cells slots Ls C (Rel.ofP (by unfold mset; rw [← e1]; exact hP1) hs) ht9 hS1 hc9 hs9 hl
theorem w_last {k ln : Nat} {tm : List Nat} {x v : Int32} {g' : Mem} {lv : Int64} (hd : decode M.2.1 pc = .ok (.lastore, 1)) (hq : pc + 1 = q) (hk : k < 1048576) (hs : sh[k]? = some (2, 0, tm, ln)) (hi : inb x ln = true) (hlv : v.toInt64 = lv) (hg : mset g k x.toNatClampNeg v = g')
    (kk : WA γ M n q ls st sh g' tt b Φ) : WA γ M n pc ls (.long lv :: .int x :: .ref k :: st) sh g tt b Φ := by
  subst hq; subst hg; subst hlv
  intro p e R s m args below meth c H locs cells slots Ls C hR ht9 hS hc9 hs9 hl
  obtain ⟨hx, hb, -, -, hown, -, -, -, -, -, hSF⟩ := id C
  show W p (gl γ) e R s m args below meth c H locs cells slots _ (F0 m pc Ls (.long v.toInt64 :: .int x :: .ref (cr γ k) :: st.map (cv γ)))
  rw [cr_lo γ hk]
  refine va_last hx hb hSF.1 hR.1 (wsO_D γ g sh) hS k 2 (wsO_at γ g hs) (tys_at γ).2.2.1 (inb_vp hi) hd ?_
  intro H1 locs1 hP1 hD1 hS1
  have e1 := wsO_set0 γ g (upd (g k) x.toNatClampNeg v) hs
  have e2 : (fun j => (upd (g k) x.toNatClampNeg v j).toInt64) = vp_updL (fun j => (g k j).toInt64) x.toNatClampNeg v.toInt64 := by
    funext j
    by_cases h : j = x.toNatClampNeg <;> simp [upd, vp_updL, h]
  exact kk p e R s m args below meth c H1 locs1 cells slots Ls C (Rel.ofP (by unfold mset; rw [← e1]; simp only [cellE, e2]; exact hP1) hs) ht9 hS1 hc9 hs9 hl
theorem w_alen {k kd t ln : Nat} {tm : List Nat} {v : Int32} (hd : decode M.2.1 pc = .ok (.arraylength, 1)) (hq : pc + 1 = q) (hk : k < 1048576) (hs : sh[k]? = some (kd, t, tm, ln)) (hkd : (kd = 1 ∧ (t = 0 ∨ t = 1)) ∨ kd = 3) (hv : Int32.ofNat ln = v)
    (kk : WA γ M n q ls (.int v :: st) sh g tt b Φ) : WA γ M n pc ls (.ref k :: st) sh g tt b Φ := by
  subst hq; subst hv
  intro p e R s m args below meth c H locs cells slots Ls C hR ht9 hS hc9 hs9 hl
  obtain ⟨hx, hb, -, -, hown, -, -, -, -, -, hSF⟩ := id C
  show W p (gl γ) e R s m args below meth c H locs cells slots _ (F0 m pc Ls (.ref (cr γ k) :: st.map (cv γ)))
  rw [cr_lo γ hk]
  have he := wsO_at γ g hs
  rcases hkd with ⟨rfl, rfl | rfl⟩ | rfl
  · exact va_alen (v := Int32.ofNat ln) hx hb hSF.1 hR.1 k 0 he (tys_at γ).1 rfl hd (kk p e R s m args below meth c H locs cells slots Ls C hR ht9 hS hc9 hs9 hl)
  · exact va_alen (v := Int32.ofNat ln) hx hb hSF.1 hR.1 k 1 he (tys_at γ).2.1 rfl hd (kk p e R s m args below meth c H locs cells slots Ls C hR ht9 hS hc9 hs9 hl)
  · exact va_alen (v := Int32.ofNat ln) hx hb hSF.1 hR.1 k 3 he (tys_at γ).2.2.2 rfl hd (kk p e R s m args below meth c H locs cells slots Ls C hR ht9 hS hc9 hs9 hl)
end Heap
