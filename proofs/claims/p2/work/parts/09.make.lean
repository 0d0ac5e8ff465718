/-! what is made: objects, rows; constructors' calls; texts; copies; throws; switches; the script -/
section Make
variable {γ : GG} {M : MI} {n pc q : Nat} {ls : List (Option Value)} {st : List Value} {sh : List Sh} {g : Mem} {tt : Bool} {b : Nat × Nat} {Φ : PO}
theorem new_addr {a : Nat} {E : va_E} {H1 : Heap} (hP : va_P (gD γ) xcl (wsO γ g sh 0 ++ [(a, E)]) H1) (hD : va_D (gA γ) (wsO γ g sh 0 ++ [(a, E)])) (hz : H1.size ≤ gz γ + sh.length + 1) : a = gz γ + sh.length := by
  have hlast : (wsO γ g sh 0 ++ [(a, E)])[sh.length]? = some (a, E) := by
    rw [List.getElem?_append_right (by rw [wsO_len]; omega), wsO_len, Nat.sub_self]
    rfl
  have h1 := (hP _ _ hlast).lt
  have h2 : gz γ ≤ a := hD.2 _ _ hlast
  simp only [] at h1
  rcases Nat.lt_or_ge a (gz γ + sh.length) with h | h
  · have hi : a - gz γ < sh.length := by omega
    obtain ⟨s9, hs9⟩ : ∃ s9, sh[a - gz γ]? = some s9 := ⟨_, List.getElem?_eq_getElem hi⟩
    have h3 : (wsO γ g sh 0 ++ [(a, E)])[a - gz γ]? = some (gz γ + (a - gz γ), cellE γ s9 (g (a - gz γ))) := by
      rw [List.getElem?_append_left (by rw [wsO_len]; omega)]
      exact wsO_at γ g hs9
    have := hD.1 _ _ _ _ h3 hlast (by simp only []; omega)
    omega
  · omega
theorem Rel.new {a : Nat} {s0 : Sh} {f : Nat → Int32} {H1 : Heap} (hP : va_P (gD γ) xcl (wsO γ g sh 0 ++ [(a, cellE γ s0 f)]) H1) (ha : a = gz γ + sh.length) : Rel γ (sh ++ [s0]) (mrow g sh.length f) H1 := by
  subst ha
  have e1 := wsO_app γ g s0 f sh
  exact Rel.ofP (k := sh.length) (s := s0) (by rw [e1]; exact hP) (by rw [List.getElem?_append_right (Nat.le_refl _), Nat.sub_self]; rfl)
theorem gA_top (γ : GG) {s : State} (h : gz γ ≤ s.heap.size) : ∀ q, s.heap.size ≤ q → gA γ q := fun _ h9 => Nat.le_trans h h9
theorem SF.z {s : State} (h : SF γ s) : gz γ ≤ s.heap.size := h.2.2.2.2.2.2.2.2.2.2.1
theorem w_new {i ci : Nat} {tm : List Nat} {b2 : Nat × Nat} {sh' : List Sh} {g' : Mem} (hd : decode M.2.1 pc = .ok (.new i, 3)) (hq : pc + 3 = q) (hci : ci < 13) (hwk : Cond.classLink M.1.cls i (xC ci) ∈ lwg) (hwn : Cond.instantiable (xC ci) (xN ci) ∈ lwg) (hwi : Cond.initialized (xC ci) ∈ lwg)
    (hdf : ∀ j, j < xN ci → tm[j]? = some (tm.getD j 2) ∧ tm.getD j 2 < 2 ∧ defaultValue (xy ci j) = fv (tm.getD j 2) 0) (hlt : sh.length < 1048576) (hb : b = (1 + b2.1, xN ci + b2.2)) (hsh : sh ++ [(0, ci, tm, 0)] = sh') (hg : mrow g sh.length (fun _ => 0) = g')
    (kk : WA γ M n q ls (.ref sh.length :: st) sh' g' true b2 Φ) : WA γ M n pc ls st sh g true b Φ := by
  subst hq; subst hb; subst hsh; subst hg
  intro p e R s m args below meth c H locs cells slots Ls C hR ht9 hS hc9 hs9 hl
  obtain ⟨hx, hbt, -, -, hown, -, -, -, -, -, hSF⟩ := id C
  simp only [] at hc9 hs9
  refine va_new (fs := cf γ (fun _ => 0) tm 0) hx hbt (hSF.2.1 args) (xin ci hci) (xy ci) (xty ci hci) hown (hSF.2.1 args _ hwk) (hSF.2.1 args _ hwn) (hSF.2.1 args _ hwi) hSF.1 hR.1 (wsO_D γ g sh) hS (gA_top γ hSF.z) (xcl_at ci hci) ?_ (by omega) (by omega) hd ?_
  · intro j hj
    obtain ⟨h1, h2, h3⟩ := hdf j hj
    rw [h3]
    generalize tm.getD j 2 = t at h1 h2
    have e5 : vp_V (cf γ (fun _ => 0) tm 0) j = tv γ t 0 := by
      simp only [vp_V, List.getD_eq_getElem?_getD, cf_get, h1, Option.map_some, Option.getD_some]
    rw [e5]
    match t, h2 with
    | 0, _ => rfl
    | 1, _ => rfl
  · intro a H1 hP1 hD1 hS1 T1 hT1 X1
    have hz1 := X1.heapSize
    rw [hT1] at hz1
    have h9 := ht9 rfl
    have ha := new_addr hP1 hD1 (by omega)
    have hR1 : Rel γ (sh ++ [(0, ci, tm, 0)]) (mrow g sh.length (fun _ => 0)) H1 := Rel.new (s0 := (0, ci, tm, 0)) hP1 ha
    have := kk p e R s m args below meth c H1 locs (cells + 1) (slots + xN ci) Ls C hR1 (fun _ => by rw [List.length_append]; simp only [List.length_cons, List.length_nil]; omega) hS1 (by omega) (by omega) hl
    rw [Nat.add_assoc, Nat.add_assoc] at this
    have e3 : (Value.ref sh.length :: st).map (cv γ) = .ref a :: st.map (cv γ) := by
      rw [ha, ← cr_lo γ hlt]; rfl
    rw [e3] at this
    exact this T1 hT1 X1
theorem w_newI {x : Int32} {N : Nat} {b2 : Nat × Nat} {sh' : List Sh} {g' : Mem} (hd : decode M.2.1 pc = .ok (.newarray .int, 2)) (hq : pc + 2 = q) (hx0 : ¬ x < 0) (hN : x.toNatClampNeg = N) (hNb : N ≤ 100000) (hlt : sh.length < 1048576) (hb : b = (1 + b2.1, N + b2.2)) (hsh : sh ++ [(1, 0, [], N)] = sh') (hg : mrow g sh.length (fun _ => 0) = g')
    (kk : WA γ M n q ls (.ref sh.length :: st) sh' g' true b2 Φ) : WA γ M n pc ls (.int x :: st) sh g true b Φ := by
  subst hq; subst hb; subst hsh; subst hg
  intro p e R s m args below meth c H locs cells slots Ls C hR ht9 hS hc9 hs9 hl
  obtain ⟨hx, hbt, -, -, hown, -, -, -, -, -, hSF⟩ := id C
  simp only [] at hc9 hs9
  refine va_newa (N' := N) (a0 := (N, .inl (fun _ => 0))) hx hbt (atype := .int) (ty := .int) (hSF.2.1 args _ wa_cls_int) rfl hSF.1 hR.1 (wsO_D γ g sh) hS (gA_top γ hSF.z) (fun cA => rfl) hx0 hN (by show N * 4 ≤ _; omega) (by omega) (by omega) hd ?_
  intro a cA H1 hK1 hP1 hD1 hS1 T1 hT1 X1
  have hz1 := X1.heapSize
  rw [hT1] at hz1
  have h9 := ht9 rfl
  have hcA : cA = gc γ 0 := by
    have h1 : s.vm.findClass ("[" ++ FieldType.int.toString) = some cA := (hK1.2 4 (cA, .int) rfl).2
    have h2 : s.vm.findClass ("[" ++ FieldType.int.toString) = some (gc γ 0) := (hSF.1.2 0 _ (tys_at γ).1).2
    exact Option.some.inj (h1.symm.trans h2)
  subst hcA
  have ha := new_addr hP1 hD1 (by omega)
  have hR1 : Rel γ (sh ++ [(1, 0, [], N)]) (mrow g sh.length (fun _ => 0)) H1 := Rel.new (s0 := (1, 0, [], N)) hP1 ha
  have := kk p e R s m args below meth c H1 locs (cells + 1) (slots + N) Ls C hR1 (fun _ => by rw [List.length_append]; simp only [List.length_cons, List.length_nil]; omega) hS1 (by omega) (by omega) hl
  rw [Nat.add_assoc, Nat.add_assoc] at this
  have e3 : (Value.ref sh.length :: st).map (cv γ) = .ref a :: st.map (cv γ) := by
    rw [ha, ← cr_lo γ hlt]; rfl
  rw [e3] at this
  exact this T1 hT1 X1
theorem w_newB {x : Int32} {N : Nat} {b2 : Nat × Nat} {sh' : List Sh} {g' : Mem} (hd : decode M.2.1 pc = .ok (.newarray .byte, 2)) (hq : pc + 2 = q) (hx0 : ¬ x < 0) (hN : x.toNatClampNeg = N) (hNb : N ≤ 100000) (hlt : sh.length < 1048576) (hb : b = (1 + b2.1, N + b2.2)) (hsh : sh ++ [(1, 1, [], N)] = sh') (hg : mrow g sh.length (fun _ => 0) = g')
    (kk : WA γ M n q ls (.ref sh.length :: st) sh' g' true b2 Φ) : WA γ M n pc ls (.int x :: st) sh g true b Φ := by
  subst hq; subst hb; subst hsh; subst hg
  intro p e R s m args below meth c H locs cells slots Ls C hR ht9 hS hc9 hs9 hl
  obtain ⟨hx, hbt, -, -, hown, -, -, -, -, -, hSF⟩ := id C
  simp only [] at hc9 hs9
  refine va_newa (N' := N) (a0 := (N, .inl (fun _ => 0))) hx hbt (atype := .byte) (ty := .byte) (hSF.2.1 args _ wa_cls_byte) rfl hSF.1 hR.1 (wsO_D γ g sh) hS (gA_top γ hSF.z) (fun cA => rfl) hx0 hN (by show N * 1 ≤ _; omega) (by omega) (by omega) hd ?_
  intro a cA H1 hK1 hP1 hD1 hS1 T1 hT1 X1
  have hz1 := X1.heapSize
  rw [hT1] at hz1
  have h9 := ht9 rfl
  have hcA : cA = gc γ 1 := by
    have h1 : s.vm.findClass ("[" ++ FieldType.byte.toString) = some cA := (hK1.2 4 (cA, .byte) rfl).2
    have h2 : s.vm.findClass ("[" ++ FieldType.byte.toString) = some (gc γ 1) := (hSF.1.2 1 _ (tys_at γ).2.1).2
    exact Option.some.inj (h1.symm.trans h2)
  subst hcA
  have ha := new_addr hP1 hD1 (by omega)
  have hR1 : Rel γ (sh ++ [(1, 1, [], N)]) (mrow g sh.length (fun _ => 0)) H1 := Rel.new (s0 := (1, 1, [], N)) hP1 ha
  have := kk p e R s m args below meth c H1 locs (cells + 1) (slots + N) Ls C hR1 (fun _ => by rw [List.length_append]; simp only [List.length_cons, List.length_nil]; omega) hS1 (by omega) (by omega) hl
  rw [Nat.add_assoc, Nat.add_assoc] at this
  have e3 : (Value.ref sh.length :: st).map (cv γ) = .ref a :: st.map (cv γ) := by
    rw [ha, ← cr_lo γ hlt]; rfl
  rw [e3] at this
  exact this T1 hT1 X1
theorem w_newL {x : Int32} {N : Nat} {b2 : Nat × Nat} {sh' : List Sh} {g' : Mem} (hd : decode M.2.1 pc = .ok (.newarray .long, 2)) (hq : pc + 2 = q) (hx0 : ¬ x < 0) (hN : x.toNatClampNeg = N) (hNb : N ≤ 100000) (hlt : sh.length < 1048576) (hb : b = (1 + b2.1, N + b2.2)) (hsh : sh ++ [(2, 0, [], N)] = sh') (hg : mrow g sh.length (fun _ => 0) = g')
    (kk : WA γ M n q ls (.ref sh.length :: st) sh' g' true b2 Φ) : WA γ M n pc ls (.int x :: st) sh g true b Φ := by
  subst hq; subst hb; subst hsh; subst hg
  intro p e R s m args below meth c H locs cells slots Ls C hR ht9 hS hc9 hs9 hl
  obtain ⟨hx, hbt, -, -, hown, -, -, -, -, -, hSF⟩ := id C
  simp only [] at hc9 hs9
  refine va_newa (N' := N) (a0 := (N, .inr (.inl (fun _ => 0)))) hx hbt (atype := .long) (ty := .long) (hSF.2.1 args _ wa_cls_long) rfl hSF.1 hR.1 (wsO_D γ g sh) hS (gA_top γ hSF.z) (fun cA => rfl) hx0 hN (by show N * 8 ≤ _; omega) (by omega) (by omega) hd ?_
  intro a cA H1 hK1 hP1 hD1 hS1 T1 hT1 X1
  have hz1 := X1.heapSize
  rw [hT1] at hz1
  have h9 := ht9 rfl
  have hcA : cA = gc γ 2 := by
    have h1 : s.vm.findClass ("[" ++ FieldType.long.toString) = some cA := (hK1.2 4 (cA, .long) rfl).2
    have h2 : s.vm.findClass ("[" ++ FieldType.long.toString) = some (gc γ 2) := (hSF.1.2 2 _ (tys_at γ).2.2.1).2
    exact Option.some.inj (h1.symm.trans h2)
  subst hcA
  have ha := new_addr hP1 hD1 (by omega)
  have hR1 : Rel γ (sh ++ [(2, 0, [], N)]) (mrow g sh.length (fun _ => 0)) H1 := Rel.new (s0 := (2, 0, [], N)) (f := fun _ => 0) hP1 ha
  have := kk p e R s m args below meth c H1 locs (cells + 1) (slots + N) Ls C hR1 (fun _ => by rw [List.length_append]; simp only [List.length_cons, List.length_nil]; omega) hS1 (by omega) (by omega) hl
  rw [Nat.add_assoc, Nat.add_assoc] at this
  have e3 : (Value.ref sh.length :: st).map (cv γ) = .ref a :: st.map (cv γ) := by
    rw [ha, ← cr_lo γ hlt]; rfl
  rw [e3] at this
  exact this T1 hT1 X1
/-- a row of texts -/
theorem w_newS {i : Nat} {x : Int32} {N : Nat} {b2 : Nat × Nat} {sh' : List Sh} {g' : Mem} (hd : decode M.2.1 pc = .ok (.anewarray i, 3)) (hq : pc + 3 = q) (hwk : Cond.classLink M.1.cls i "java/lang/String" ∈ lwg) (hx0 : ¬ x < 0) (hN : x.toNatClampNeg = N) (hNb : N ≤ 100000) (hlt : sh.length < 1048576) (hb : b = (1 + b2.1, N + b2.2)) (hsh : sh ++ [(3, 0, [], N)] = sh') (hg : mrow g sh.length (fun _ => 0) = g')
    (kk : WA γ M n q ls (.ref sh.length :: st) sh' g' true b2 Φ) : WA γ M n pc ls (.int x :: st) sh g true b Φ := by
  subst hq; subst hb; subst hsh; subst hg
  intro p e R s m args below meth c H locs cells slots Ls C hR ht9 hS hc9 hs9 hl
  obtain ⟨hx, hbt, -, -, hown, -, -, -, -, -, hSF⟩ := id C
  simp only [] at hc9 hs9
  refine va_newq (N' := N) hx hbt hown (hSF.2.1 args _ hwk) hSF.2.2.2.2.2.2.2.2.1 hSF.1 hR.1 (wsO_D γ g sh) hS (gA_top γ hSF.z) hx0 hN (by omega) (by omega) (by omega) hd ?_
  intro a cA H1 hK1 hP1 hD1 hS1 T1 hT1 X1
  have hz1 := X1.heapSize
  rw [hT1] at hz1
  have h9 := ht9 rfl
  have hcA : cA = gc γ 3 := by
    obtain ⟨_, _, -, -, -, h1⟩ := (hK1.2 4 (cA, .object "java/lang/String") rfl).2
    obtain ⟨_, _, -, -, -, h2⟩ := (hSF.1.2 3 _ (tys_at γ).2.2.2).2
    exact Option.some.inj (h1.symm.trans h2)
  subst hcA
  have ha := new_addr hP1 hD1 (by omega)
  have hR1 : Rel γ (sh ++ [(3, 0, [], N)]) (mrow g sh.length (fun _ => 0)) H1 := Rel.new (s0 := (3, 0, [], N)) (f := fun _ => 0) hP1 ha
  have := kk p e R s m args below meth c H1 locs (cells + 1) (slots + N) Ls C hR1 (fun _ => by rw [List.length_append]; simp only [List.length_cons, List.length_nil]; omega) hS1 (by omega) (by omega) hl
  rw [Nat.add_assoc, Nat.add_assoc] at this
  have e3 : (Value.ref sh.length :: st).map (cv γ) = .ref a :: st.map (cv γ) := by
    rw [ha, ← cr_lo γ hlt]; rfl
  rw [e3] at this
  exact this T1 hT1 X1
/-- a text is put behind the others of a row -/
theorem w_aast {k ln j : Nat} {tm : List Nat} {x : Int32} {sh' : List Sh} (hd : decode M.2.1 pc = .ok (.aastore, 1)) (hq : pc + 1 = q) (hk : k < 1048576) (hs : sh[k]? = some (3, 0, tm, ln)) (hi : inb x ln = true) (hx9 : x.toNatClampNeg = tm.length) (hj : j < 39) (hsh : sh.set k (3, 0, tm ++ [1048576 + j + 1], ln) = sh')
    (kk : WA γ M n q ls st sh' g tt b Φ) : WA γ M n pc ls (.ref (1048576 + j) :: .int x :: .ref k :: st) sh g tt b Φ := by
  subst hq; subst hsh
  intro p e R s m args below meth c H locs cells slots Ls C hR ht9 hS hc9 hs9 hl
  obtain ⟨hx, hb, -, -, hown, -, -, -, -, -, hSF⟩ := id C
  have hcr : cr γ (1048576 + j) = gK γ j := by unfold cr; rw [if_neg (by omega), if_pos (by omega), Nat.add_sub_cancel_left]
  show W p (gl γ) e R s m args below meth c H locs cells slots _ (F0 m pc Ls (.ref (cr γ (1048576 + j)) :: .int x :: .ref (cr γ k) :: st.map (cv γ)))
  rw [cr_lo γ hk]
  refine vb_astq (E := "java/lang/String") (C := "java/lang/String") hx hb hSF.1 hR.1 (wsO_D γ g sh) hS k 3 (wsO_at γ g hs) (tys_at γ).2.2.2 (by rw [hcr]; exact vk_recv hSF.2.2.2.2.1 hj hS) vb_asgS (inb_vp hi) hd ?_
  intro H1 locs1 hP1 hD1 hS1
  have hlt := (List.getElem?_eq_some_iff.mp hs).1
  have e2 : mrow g k (g k) = g := by
    funext k'
    by_cases h : k' = k
    · subst h; exact mrow_self _ _ _
    · exact mrow_other _ _ h
  have e1 := wsO_set γ g (3, 0, tm ++ [1048576 + j + 1], ln) (g k) hlt
  rw [e2] at e1
  have e4 : cellE γ (3, 0, tm ++ [1048576 + j + 1], ln) (g k) = .inl (gc γ 3, ln, .inr (.inr (.inr (.inr (va_up (fun j => rt γ (tm.getD j 0)) x.toNatClampNeg (some (cr γ (1048576 + j)))))))) := by
    simp only [cellE]
    congr 7
    funext i
    rw [hx9]
    by_cases h : i = tm.length
    · subst h
      simp [va_up, rt]
    · simp only [va_up, h, if_false]
      rcases Nat.lt_or_ge i tm.length with h2 | h2
      · simp [List.getD_eq_getElem?_getD, List.getElem?_append_left h2]
      · have h3 : (tm ++ [1048576 + j + 1]).length ≤ i := by simp; omega
        simp [List.getD_eq_getElem?_getD, List.getElem?_eq_none h3, List.getElem?_eq_none h2]
  have hs2 : (sh.set k (3, 0, tm ++ [1048576 + j + 1], ln))[k]? = some (3, 0, tm ++ [1048576 + j + 1], ln) := by rw [List.getElem?_set, if_pos rfl, if_pos hlt]
  exact kk p e R s m args below meth c H1 locs1 cells slots Ls C (Rel.ofP (by rw [← e1, e4]; exact hP1) hs2) (fun h => by rw [List.length_set]; exact ht9 h) hS1 hc9 hs9 hl
end Make
