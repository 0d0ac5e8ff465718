/-! constructors' calls; nest mates; copies; throws and catches; texts; the script; switches -/
section More
variable {γ : GG} {M : MI} {n pc q : Nat} {ls : List (Option Value)} {st : List Value} {sh : List Sh} {g : Mem} {tt : Bool} {b : Nat × Nat} {Φ : PO}
theorem met_of {M' : MI} {rm : Room} {Pc : Array Value → State → Prop} {Φ1 : PO} {mc ms : Nat} (h : vx_Met (gl γ) M'.1 [MWc M'] rm Pc (QR γ Φ1) (QX γ Φ1) mc ms (gA γ)) (hno : ∀ E s9 g9 t9, ¬ Φ1 (.inr E) s9 g9 t9) : Met (gl γ) M'.1 [MWc M'] rm Pc (QR γ Φ1) mc ms (gA γ) := by
  intro p e ha hc hk s m args below h1 h2 h3 h4
  obtain ⟨k, o, a1, a2, a3, a4⟩ := h p e ha hc hk s m args below h1 h2 h3 h4
  refine ⟨k, o, a1, a2, a3, ?_⟩
  rcases a4 with a4 | ⟨q9, -, E, ce, L, ⟨s9, g9, t9, hΦ, -⟩, -⟩
  · exact a4
  · exact absurd hΦ (hno E s9 g9 t9)
theorem va_to_vx {p : Program} {l : Launch} {e : Env} {R : Room} {s : State} {m : MethodId} {args : Array Value} {below : List Frame} {meth : Method} {c : Code} {H : Heap} {locs : List Loc} {cells slots mc ms : Nat} {f : JFrame} {rest : List Value} {Qa : State → Outcome → State → Prop} {XC : String → State → State → Prop} {free : Addr → Prop}
    (h : va_Run p l e R s m args below meth c H locs cells slots mc ms f rest Qa free) : vx_Run p l e R s m args below meth c H locs cells slots mc ms f rest Qa XC free := fun T hT X => Or.inl (h T hT X)
theorem w_objInit {idx k : Nat} (hd : decode M.2.1 pc = .ok (.invokespecial idx, 3)) (hq : pc + 3 = q) (hw : Cond.methodLink M.1.cls idx Lib.objectInit ∈ lwg) (hw2 : Cond.instanceMethod Lib.objectInit ∈ lwg) (hw3 : Cond.code Lib.objectInit ⟨#[0xb1]⟩ 1 none ∈ lwg) (hcat : (st.map fun v => v.category).sum ≤ 8) (kk : WA γ M n q ls st sh g tt b Φ) : WA γ M n pc ls (.ref k :: st) sh g tt b Φ := by
  subst hq
  intro p e R s m args below meth c H locs cells slots Ls C hR ht9 hS hc9 hs9 hl
  obtain ⟨hx, hb, hrt, hmx, hown, hlocks, -, htab, hf, hlo, hSF⟩ := id C
  refine W.objInit (a := cr γ k) (rest := st.map (cv γ)) hx hb hown (hSF.2.1 args _ hw) (hSF.2.1 args _ hw2) (hSF.2.1 args _ hw3) rfl (hl.1.trans hmx.symm) rfl hd (by simp only [frN] at hf; omega) ?_ ?_
  · show 2 * 0 + ((st.map (cv γ)).map fun v => v.category).sum + 12 ≤ R.locals
    rw [cats]
    simp only [loN] at hlo
    omega
  · exact kk p e R s m args below meth c H locs cells slots Ls C hR ht9 hS hc9 hs9 hl
theorem w_callI {M' : MI} {n' np idx k : Nat} {As S : List Value} {g1 : Mem} {sh' : List Sh} {b1 b2 : Nat × Nat} (hd : decode M.2.1 pc = .ok (.invokespecial idx, 3)) (hq : pc + 3 = q) (hM : MWi M' np) (hn : n' + 1 ≤ n) (hml : M'.2.2.1 ≤ 180) (hw : Cond.methodLink M.1.cls idx M'.1 ∈ lwg) (hS9 : S = As.reverse ++ .ref k :: st) (hlen : As.length = np) (hcat : (st.map fun v => v.category).sum ≤ 8) (hb : b = (b1.1 + b2.1, b1.2 + b2.2)) (hlen9 : tt = true → sh'.length = sh.length + b1.1) (hC : CA γ M' n' (.ref k :: As) sh g tt b1 (pV sh' g1 tt)) (kk : WA γ M n q ls st sh' g1 tt b2 Φ) : WA γ M n pc ls S sh g tt b Φ := by
  intro p e R s m args below meth c H locs cells slots Ls C hR ht9 hS hc9 hs9 hl T hT X
  have hbc : cells + b1.1 ≤ R.cells := by rw [hb] at hc9; simp only [] at hc9; omega
  have hbs : slots + b1.2 ≤ R.slots := by rw [hb] at hs9; simp only [] at hs9; omega
  obtain ⟨hx, hbt, hrt, hmx, hown, hlocks, -, htab, hf, hlo, hSF⟩ := id C
  have hT2 : TT γ tt sh H := TT.of hR ht9 (by rw [← hT]; exact X.heapSize)
  have hB := call_B (b1 := b1) C hM.1 hM.2.1 hn hml hw
  rw [hM.2.2.2.2] at hB
  refine (run_ret (b1 := b1) (b2 := b2) (v := none) (sh' := sh') (g' := g1) (tt' := tt) (va_to_vx (va_runI (b := cr γ k) (As := As.map (cv γ)) (rest := st.map (cv γ)) (nL := M.2.2.1) (Ts := lwg) ⟨hx, hbt, hmx, hown, hSF.2.1 args⟩ (met_of (hC _ rfl rfl (Nat.le_refl _) (Nat.le_refl _)) (fun E s9 g9 t9 h => by cases h.1)) ⟨hB, hM.2.2.2.1, hSF.2.1 args _ hM.2.2.1⟩ ⟨PcA.blind, call_P (av := .ref k :: As) (cells := cells) hSF hR hT2 hS⟩ rfl (by rw [List.length_map]; exact hlen) hl.1 ?_ ?_ hd ⟨hbc, hbs⟩)) C hS ht9 hc9 hs9 hl hb hq (fun _ _ _ _ h => h) (fun h => ⟨h, hlen9 h⟩) kk) T hT X
  · show S.map (cv γ) = _
    rw [hS9, List.map_append, List.map_reverse]
    rfl
  · show 2 * 0 + ((st.map (cv γ)).map fun v => v.category).sum ≤ 8
    rw [cats, Nat.mul_zero, Nat.zero_add]
    exact hcat
theorem call_N {p : Program} {e : Env} {R : Room} {s : State} {m : MethodId} {args : Array Value} {below : List Frame} {meth : Method} {c : Code} {M' : MI} {n' np idx : Nat} {host : String} {b1 : Nat × Nat} (C : CX γ M n p e R s m args below meth c) (hM : MWb M' np) (hh : M'.2.2.2.2 = []) (hn : n' + 1 ≤ n) (hml : M'.2.2.1 ≤ 180) (hw : (M.1.cls, idx, M'.1, host) ∈ nestL) :
    va_CN R s args M.1.cls idx M'.1 host M'.2.1 M'.2.2.1 M'.2.2.2.1 [MWc M'] { frames := frN n', cells := b1.1, slots := b1.2, locals := loN n' } b1.1 b1.2 np := by
  obtain ⟨hx, hb, hrt, -, hown, hlocks, -, htab, hf, hlo, hSF⟩ := id C
  have e1 : MWc M' = Cond.code M'.1 M'.2.1 M'.2.2.1 M'.2.2.2.1 := if_pos hh
  have hcw : Cond.code M'.1 M'.2.1 M'.2.2.1 M'.2.2.2.1 ∈ lwg := by rw [← e1]; exact hM.1
  refine ⟨⟨rfl, rfl, ?_, ?_, ?_, ?_⟩, hSF.2.1 args _ hcw, hSF.2.1 args _ hM.2.1, ⟨hM.2.2.2.1, hM.2.2.2.2.1⟩, ?_, va_Nw.use rfl (hSF.2.2.1 _ hw)⟩
  · simp only [frN] at *; omega
  · simp only [loN] at *; omega
  · intro w hw9 a' U hW
    rw [List.mem_singleton.mp hw9]
    exact gw_at (args := args) hW (List.mem_filter.mp hM.1).2 (hSF.2.1 args _ hM.1)
  · rw [e1]; exact List.mem_cons_self
  · intro sig h
    have h2 := hM.2.2.2.2.2
    rw [h] at h2
    exact (Option.some.inj h2).symm
theorem w_callIN {M' : MI} {n' np idx k : Nat} {host : String} {As S : List Value} {g1 : Mem} {sh' : List Sh} {b1 b2 : Nat × Nat} (hd : decode M.2.1 pc = .ok (.invokespecial idx, 3)) (hq : pc + 3 = q) (hM : MWi M' np) (hn : n' + 1 ≤ n) (hml : M'.2.2.1 ≤ 180) (hw : (M.1.cls, idx, M'.1, host) ∈ nestL) (hS9 : S = As.reverse ++ .ref k :: st) (hlen : As.length = np) (hcat : (st.map fun v => v.category).sum ≤ 8) (hb : b = (b1.1 + b2.1, b1.2 + b2.2)) (hlen9 : tt = true → sh'.length = sh.length + b1.1) (hC : CA γ M' n' (.ref k :: As) sh g tt b1 (pV sh' g1 tt)) (kk : WA γ M n q ls st sh' g1 tt b2 Φ) : WA γ M n pc ls S sh g tt b Φ := by
  intro p e R s m args below meth c H locs cells slots Ls C hR ht9 hS hc9 hs9 hl T hT X
  have hbc : cells + b1.1 ≤ R.cells := by rw [hb] at hc9; simp only [] at hc9; omega
  have hbs : slots + b1.2 ≤ R.slots := by rw [hb] at hs9; simp only [] at hs9; omega
  obtain ⟨hx, hbt, hrt, hmx, hown, hlocks, -, htab, hf, hlo, hSF⟩ := id C
  have hT2 : TT γ tt sh H := TT.of hR ht9 (by rw [← hT]; exact X.heapSize)
  have hB := call_N (b1 := b1) C hM.1 hM.2.1 hn hml hw
  rw [hM.2.2.2.2] at hB
  refine (run_ret (b1 := b1) (b2 := b2) (v := none) (sh' := sh') (g' := g1) (tt' := tt) (va_to_vx (va_runIN (b := cr γ k) (As := As.map (cv γ)) (rest := st.map (cv γ)) (nL := M.2.2.1) (Ts := lwg) ⟨hx, hbt, hmx, hown, hSF.2.1 args⟩ (met_of (hC _ rfl rfl (Nat.le_refl _) (Nat.le_refl _)) (fun E s9 g9 t9 h => by cases h.1)) ⟨hB, hM.2.2.2.1, hSF.2.1 args _ hM.2.2.1⟩ ⟨PcA.blind, call_P (av := .ref k :: As) (cells := cells) hSF hR hT2 hS⟩ rfl (by rw [List.length_map]; exact hlen) hl.1 ?_ ?_ hd ⟨hbc, hbs⟩)) C hS ht9 hc9 hs9 hl hb hq (fun _ _ _ _ h => h) (fun h => ⟨h, hlen9 h⟩) kk) T hT X
  · show S.map (cv γ) = _
    rw [hS9, List.map_append, List.map_reverse]
    rfl
  · show 2 * 0 + ((st.map (cv γ)).map fun v => v.category).sum ≤ 8
    rw [cats, Nat.mul_zero, Nat.zero_add]
    exact hcat
theorem w_callNi {M' : MI} {n' np idx : Nat} {host : String} {As S : List Value} {r : Int32} {g1 : Mem} {sh' : List Sh} {b1 b2 : Nat × Nat} (hd : decode M.2.1 pc = .ok (.invokestatic idx, 3)) (hq : pc + 3 = q) (hM : MWs M' np) (hn : n' + 1 ≤ n) (hml : M'.2.2.1 ≤ 180) (hw : (M.1.cls, idx, M'.1, host) ∈ nestL) (hS9 : S = As.reverse ++ st) (hlen : As.length = np) (hcat : (st.map fun v => v.category).sum ≤ 8) (hb : b = (b1.1 + b2.1, b1.2 + b2.2)) (hlen9 : tt = true → sh'.length = sh.length + b1.1) (hC : CA γ M' n' As sh g tt b1 (pI sh' r g1 tt)) (kk : WA γ M n q ls (.int r :: st) sh' g1 tt b2 Φ) : WA γ M n pc ls S sh g tt b Φ := by
  intro p e R s m args below meth c H locs cells slots Ls C hR ht9 hS hc9 hs9 hl T hT X
  have hbc : cells + b1.1 ≤ R.cells := by rw [hb] at hc9; simp only [] at hc9; omega
  have hbs : slots + b1.2 ≤ R.slots := by rw [hb] at hs9; simp only [] at hs9; omega
  obtain ⟨hx, hbt, hrt, hmx, hown, hlocks, -, htab, hf, hlo, hSF⟩ := id C
  have hT2 : TT γ tt sh H := TT.of hR ht9 (by rw [← hT]; exact X.heapSize)
  have hB := call_N (b1 := b1) C hM.1 hM.2.1 hn hml hw
  refine (run_ret (b1 := b1) (b2 := b2) (v := some (.int r)) (sh' := sh') (g' := g1) (tt' := tt) (va_to_vx (va_runSN (As := As.map (cv γ)) (rest := st.map (cv γ)) (nL := M.2.2.1) (Ts := lwg) ⟨hx, hbt, hmx, hown, hSF.2.1 args⟩ (met_of (hC _ rfl rfl (Nat.le_refl _) (Nat.le_refl _)) (fun E s9 g9 t9 h => by cases h.1)) ⟨hB, hSF.2.1 args _ hM.2.2, trivial⟩ ⟨PcA.blind, call_P (av := As) (cells := cells) hSF hR hT2 hS⟩ rfl (by rw [List.length_map]; exact hlen) hl.1 ?_ ?_ hd ⟨hbc, hbs⟩)) C hS ht9 hc9 hs9 hl hb hq (fun _ _ _ _ h => h) (fun h => ⟨h, hlen9 h⟩) kk) T hT X
  · show S.map (cv γ) = _
    rw [hS9, List.map_append, List.map_reverse]
  · show 2 * 0 + ((st.map (cv γ)).map fun v => v.category).sum ≤ 8
    rw [cats, Nat.mul_zero, Nat.zero_add]
    exact hcat
/-- a copy of a stretch of a row -/
def cpk (sp dp m : Int32) (n0 n1 : Nat) : Bool := !(decide (sp < 0)) && (!(decide (dp < 0)) && (!(decide (m < 0)) && (decide (sp.toNatClampNeg + m.toNatClampNeg ≤ n0) && decide (dp.toNatClampNeg + m.toNatClampNeg ≤ n1))))
theorem w_copy {idx k0 k1 n0 n1 : Nat} {tm0 tm1 : List Nat} {sp dp len : Int32} {g' : Mem} (hd : decode M.2.1 pc = .ok (.invokestatic idx, 3)) (hq : pc + 3 = q) (hw : Cond.methodLink M.1.cls idx arraycopyName ∈ lwg) (hwn : Cond.native arraycopyName ∈ lwg) (hws : Cond.static arraycopyName ∈ lwg) (hwi : Cond.initialized "java/lang/System" ∈ lwg) (hk0 : k0 < 1048576) (hk1 : k1 < 1048576) (hs0 : sh[k0]? = some (1, 0, tm0, n0)) (hs1 : sh[k1]? = some (1, 0, tm1, n1)) (hck : cpk sp dp len n0 n1 = true) (hcat : (st.map fun v => v.category).sum ≤ 8)
    (hg : mrow g k1 (va_cpy (g k0) (g k1) sp.toNatClampNeg dp.toNatClampNeg len.toNatClampNeg) = g') (kk : WA γ M n q ls st sh g' tt b Φ) : WA γ M n pc ls (.int len :: .int dp :: .ref k1 :: .int sp :: .ref k0 :: st) sh g tt b Φ := by
  subst hq; subst hg
  intro p e R s m args below meth c H locs cells slots Ls C hR ht9 hS hc9 hs9 hl
  obtain ⟨hx, hb, hrt, hmx, hown, hlocks, -, htab, hf, hlo, hSF⟩ := id C
  simp only [cpk, Bool.and_eq_true, Bool.not_eq_true', decide_eq_false_iff_not, decide_eq_true_eq] at hck
  obtain ⟨c1, c2, c3, c4, c5⟩ := hck
  show W p (gl γ) e R s m args below meth c H locs cells slots _ (F0 m pc Ls (.int len :: .int dp :: .ref (cr γ k1) :: .int sp :: .ref (cr γ k0) :: st.map (cv γ)))
  rw [cr_lo γ hk0, cr_lo γ hk1]
  refine va_copyi hx hb (hmx.trans hl.1.symm) hown (hSF.2.1 args _ hw) (hSF.2.1 args _ hwn) (hSF.2.1 args _ hws) (hSF.2.1 args _ hwi) hSF.1 hR.1 (wsO_D γ g sh) hS k0 k1 0 0 (wsO_at γ g hs0) (wsO_at γ g hs1) (tys_at γ).1 (tys_at γ).1 rfl c1 c2 c3 c4 c5 (fun _ _ => rfl) (by simp only [frN] at hf; omega) ?_ hd ?_
  · rw [cats]
    have e0 : nativeFrameWords "java/lang/System" "arraycopy" 5 = 7 := by decide
    rw [e0]
    simp only [loN] at hlo
    omega
  · intro H1 locs1 hP1 hD1 hS1
    have e1 := wsO_set0 γ g (va_cpy (g k0) (g k1) sp.toNatClampNeg dp.toNatClampNeg len.toNatClampNeg) hs1
    exact kk p e R s m args below meth c H1 locs1 cells slots Ls C (Rel.ofP (by rw [← e1]; exact hP1) hs1) ht9 hS1 hc9 hs9 hl
/-- the script -/
theorem w_slen {v : Int32} (hd : decode M.2.1 pc = .ok (.arraylength, 1)) (hq : pc + 1 = q) (hv : Int32.ofNat (gS γ).2.1 = v) (kk : WA γ M n q ls (.int v :: st) sh g tt b Φ) : WA γ M n pc ls (.ref 2097152 :: st) sh g tt b Φ := by
  subst hq; subst hv
  intro p e R s m args below meth c H locs cells slots Ls C hR ht9 hS hc9 hs9 hl
  obtain ⟨hx, hb, hrt, hmx, hown, hlocks, -, htab, hf, hlo, hSF⟩ := id C
  obtain ⟨-, -, -, -, -, -, -, -, -, hX, hz, hlt, -⟩ := id hSF
  exact va_slen hx hb hX (Nat.lt_of_lt_of_le hlt hz) (Nat.not_le.mpr hlt) hS hd (kk p e R s m args below meth c H locs cells slots Ls C hR ht9 hS hc9 hs9 hl)
theorem w_sld {x : Int32} (hd : decode M.2.1 pc = .ok (.iaload, 1)) (hq : pc + 1 = q) (hi : inb x (gS γ).2.1 = true) (kk : WA γ M n q ls (.int ((gS γ).2.2 x.toNatClampNeg) :: st) sh g tt b Φ) : WA γ M n pc ls (.int x :: .ref 2097152 :: st) sh g tt b Φ := by
  subst hq
  intro p e R s m args below meth c H locs cells slots Ls C hR ht9 hS hc9 hs9 hl
  obtain ⟨hx, hb, hrt, hmx, hown, hlocks, -, htab, hf, hlo, hSF⟩ := id C
  obtain ⟨-, -, -, -, -, -, -, -, -, hX, hz, hlt, -⟩ := id hSF
  exact va_sld hx hb hX (Nat.lt_of_lt_of_le hlt hz) (Nat.not_le.mpr hlt) hS (inb_vp hi) hd (kk p e R s m args below meth c H locs cells slots Ls C hR ht9 hS hc9 hs9 hl)
/-- texts: their fields, their bytes -/
theorem cr_K (γ : GG) {j : Nat} (h : j < 39) : cr γ (1048576 + j) = gK γ j := by unfold cr; rw [if_neg (by omega), if_pos (by omega), Nat.add_sub_cancel_left]
theorem cr_V (γ : GG) {j : Nat} (h : j < 39) : cr γ (1572864 + j) = gV γ j := by unfold cr; rw [if_neg (by omega), if_neg (by omega), if_pos (by omega), Nat.add_sub_cancel_left]
theorem w_strV {i j : Nat} (hd : decode M.2.1 pc = .ok (.getfield i, 3)) (hq : pc + 3 = q) (hj : j < 39) (hw : Cond.fieldLink M.1.cls i "java/lang/String" "value" "[B" ∈ lwg) (kk : WA γ M n q ls (.ref (1572864 + j) :: st) sh g tt b Φ) : WA γ M n pc ls (.ref (1048576 + j) :: st) sh g tt b Φ := by
  subst hq
  intro p e R s m args below meth c H locs cells slots Ls C hR ht9 hS hc9 hs9 hl
  obtain ⟨hx, hb, hrt, hmx, hown, hlocks, -, htab, hf, hlo, hSF⟩ := id C
  show W p (gl γ) e R s m args below meth c H locs cells slots _ (F0 m pc Ls (.ref (cr γ (1048576 + j)) :: st.map (cv γ)))
  rw [cr_K γ hj]
  refine vk_getf hx hb (hSF.2.2.2.2.1.1 j hj).2.2.1 hS hown (hSF.2.1 args _ hw) (fun _ h9 => h9) hd ?_
  rw [← cr_V γ hj]
  exact kk p e R s m args below meth c H locs cells slots Ls C hR ht9 hS hc9 hs9 hl
theorem w_strC {i j : Nat} (hd : decode M.2.1 pc = .ok (.getfield i, 3)) (hq : pc + 3 = q) (hj : j < 39) (hw : Cond.fieldLink M.1.cls i "java/lang/String" "coder" "B" ∈ lwg) (kk : WA γ M n q ls (.int 0 :: st) sh g tt b Φ) : WA γ M n pc ls (.ref (1048576 + j) :: st) sh g tt b Φ := by
  subst hq
  intro p e R s m args below meth c H locs cells slots Ls C hR ht9 hS hc9 hs9 hl
  obtain ⟨hx, hb, hrt, hmx, hown, hlocks, -, htab, hf, hlo, hSF⟩ := id C
  show W p (gl γ) e R s m args below meth c H locs cells slots _ (F0 m pc Ls (.ref (cr γ (1048576 + j)) :: st.map (cv γ)))
  rw [cr_K γ hj]
  exact vk_getf hx hb (hSF.2.2.2.2.1.1 j hj).2.1 hS hown (hSF.2.1 args _ hw) (fun _ h9 => h9) hd (kk p e R s m args below meth c H locs cells slots Ls C hR ht9 hS hc9 hs9 hl)
theorem w_strZ {i : Nat} (hd : decode M.2.1 pc = .ok (.getstatic i, 3)) (hq : pc + 3 = q) (hw : Cond.fieldLink M.1.cls i "java/lang/String" "COMPACT_STRINGS" "Z" ∈ lwg) (kk : WA γ M n q ls (.int 1 :: st) sh g tt b Φ) : WA γ M n pc ls st sh g tt b Φ := by
  subst hq
  intro p e R s m args below meth c H locs cells slots Ls C hR ht9 hS hc9 hs9 hl
  obtain ⟨hx, hb, hrt, hmx, hown, hlocks, -, htab, hf, hlo, hSF⟩ := id C
  exact va_gets hx hb hSF.2.2.2.2.2.1 hS hown (hSF.2.1 args _ hw) (fun _ h9 => h9) hd (kk p e R s m args below meth c H locs cells slots Ls C hR ht9 hS hc9 hs9 hl)
theorem w_strN {j : Nat} {v : Int32} (hd : decode M.2.1 pc = .ok (.arraylength, 1)) (hq : pc + 1 = q) (hj : j < 39) (hv : Int32.ofNat (lenL.getD j 0) = v) (kk : WA γ M n q ls (.int v :: st) sh g tt b Φ) : WA γ M n pc ls (.ref (1572864 + j) :: st) sh g tt b Φ := by
  subst hq
  intro p e R s m args below meth c H locs cells slots Ls C hR ht9 hS hc9 hs9 hl
  obtain ⟨hx, hb, hrt, hmx, hown, hlocks, -, htab, hf, hlo, hSF⟩ := id C
  show W p (gl γ) e R s m args below meth c H locs cells slots _ (F0 m pc Ls (.ref (cr γ (1572864 + j)) :: st.map (cv γ)))
  rw [cr_V γ hj]
  exact va_tlen hx hb (hSF.2.2.2.2.1.1 j hj).2.2.2 hS hv hd (kk p e R s m args below meth c H locs cells slots Ls C hR ht9 hS hc9 hs9 hl)
theorem w_strB {j : Nat} {x : Int32} (hd : decode M.2.1 pc = .ok (.baload, 1)) (hq : pc + 1 = q) (hj : j < 39) (hi : inb x (lenL.getD j 0) = true) (kk : WA γ M n q ls (.int ((bytL.getD j []).getD x.toNatClampNeg 0) :: st) sh g tt b Φ) : WA γ M n pc ls (.int x :: .ref (1572864 + j) :: st) sh g tt b Φ := by
  subst hq
  intro p e R s m args below meth c H locs cells slots Ls C hR ht9 hS hc9 hs9 hl
  obtain ⟨hx, hb, hrt, hmx, hown, hlocks, -, htab, hf, hlo, hSF⟩ := id C
  show W p (gl γ) e R s m args below meth c H locs cells slots _ (F0 m pc Ls (.int x :: .ref (cr γ (1572864 + j)) :: st.map (cv γ)))
  rw [cr_V γ hj]
  exact va_tb hx hb (hSF.2.2.2.2.1.1 j hj).2.2.2 hS (inb_vp hi) rfl hd (kk p e R s m args below meth c H locs cells slots Ls C hR ht9 hS hc9 hs9 hl)
/-- a call on a text -/
theorem w_callKi {M' : MI} {n' np idx j : Nat} {As S : List Value} {r : Int32} (hd : decode M.2.1 pc = .ok (.invokevirtual idx, 3)) (hq : pc + 3 = q) (hM : MWv M' np) (hn : n' + 1 ≤ n) (hml : M'.2.2.1 ≤ 180) (hw : Cond.methodLink M.1.cls idx M'.1 ∈ lwg) (hj : j < 39) (hcl : M'.1.cls = "java/lang/String") (hS9 : S = As.reverse ++ .ref (1048576 + j) :: st) (hlen : As.length = np) (hcat : (st.map fun v => v.category).sum ≤ 8) (hC : CA γ M' n' (.ref (1048576 + j) :: As) sh g tt (0, 0) (pI sh r g tt)) (kk : WA γ M n q ls (.int r :: st) sh g tt b Φ) : WA γ M n pc ls S sh g tt b Φ := by
  intro p e R s m args below meth c H locs cells slots Ls C hR ht9 hS hc9 hs9 hl T hT X
  obtain ⟨hx, hbt, hrt, hmx, hown, hlocks, -, htab, hf, hlo, hSF⟩ := id C
  have hT2 : TT γ tt sh H := TT.of hR ht9 (by rw [← hT]; exact X.heapSize)
  refine (run_ret (b1 := (0, 0)) (b2 := b) (v := some (.int r)) (sh' := sh) (g' := g) (tt' := tt) (vx_runV (C := M'.1.cls) (b := cr γ (1048576 + j)) (As := As.map (cv γ)) (rest := st.map (cv γ)) (nL := M.2.2.1) (Ts := lwg) ⟨hx, hbt, hmx, hown, hSF.2.1 args⟩ (hC _ rfl rfl (Nat.le_refl _) (Nat.le_refl _)) ⟨call_B C hM.1 hM.2.1 hn hml hw, hSF.2.1 args _ hM.2.2.1, hSF.2.1 args _ hM.2.2.2⟩ ⟨PcA.blind, ?_, call_P (av := .ref (1048576 + j) :: As) (cells := cells) hSF hR hT2 hS⟩ rfl (by rw [List.length_map]; exact hlen) hl.1 ?_ ?_ hd ⟨by simp only []; omega, by simp only []; omega⟩) C hS ht9 hc9 hs9 hl (by simp) hq (fun _ _ _ _ h => h) (fun h => ⟨h, rfl⟩) kk) T hT X
  · rw [cr_K γ hj, hcl]
    exact vk_recv hSF.2.2.2.2.1 hj hS
  · show S.map (cv γ) = _
    rw [hS9, List.map_append, List.map_reverse]
    rfl
  · show 2 * 0 + ((st.map (cv γ)).map fun v => v.category).sum ≤ 8
    rw [cats, Nat.mul_zero, Nat.zero_add]
    exact hcat
/-- i2c of a number that is one byte -/
theorem w_i2c {x : Int32} (hd : decode M.2.1 pc = .ok (.i2c, 1)) (hq : pc + 1 = q) {v : Int32} (hv : (x.toUInt32 % 65536).toInt32 = v) (k : WA γ M n q ls (.int v :: st) sh g tt b Φ) : WA γ M n pc ls (.int x :: st) sh g tt b Φ := by
  subst hq
  intro p e R s m args below meth c H locs cells slots Ls C hR ht hS hc hs hl
  exact lv_i2c C.1 C.2.1 hd hv (k p e R s m args below meth c H locs cells slots Ls C hR ht hS hc hs hl)
/-- switches -/
theorem w_tabIn {dflt lo hi : Int} {offs : Array Int} {len : Nat} {x : Int32} {off : Int} (hd : decode M.2.1 pc = .ok (.tableswitch dflt lo hi offs, len)) (h1 : ¬ x.toInt < lo) (h2 : ¬ hi < x.toInt) (ho : offs[(x.toInt - lo).toNat]? = some off) (hq : (pc : Int) + off = (q : Int)) (k : WA γ M n q ls st sh g tt b Φ) : WA γ M n pc ls (.int x :: st) sh g tt b Φ := by
  intro p e R s m args below meth c H locs cells slots Ls C hR ht hS hc hs hl
  exact lv_tableIn C.1 C.2.1 hd h1 h2 ho hq (k p e R s m args below meth c H locs cells slots Ls C hR ht hS hc hs hl)
theorem w_tabOut {dflt lo hi : Int} {offs : Array Int} {len : Nat} {x : Int32} (hd : decode M.2.1 pc = .ok (.tableswitch dflt lo hi offs, len)) (h : x.toInt < lo ∨ hi < x.toInt) (hq : (pc : Int) + dflt = (q : Int)) (k : WA γ M n q ls st sh g tt b Φ) : WA γ M n pc ls (.int x :: st) sh g tt b Φ := by
  intro p e R s m args below meth c H locs cells slots Ls C hR ht hS hc hs hl
  exact lv_tableOut C.1 C.2.1 hd h hq (k p e R s m args below meth c H locs cells slots Ls C hR ht hS hc hs hl)
theorem w_lookup {dflt : Int} {ps : Array (Int × Int)} {len : Nat} {x : Int32} {off : Int} (hd : decode M.2.1 pc = .ok (.lookupswitch dflt ps, len)) (hp : (ps.toList.zip (ps.toList.drop 1)).all (fun (a, next) => a.1 < next.1) = true) (ho : Op.lookupswitch.offset ps.toList dflt x.toInt = off) (hq : (pc : Int) + off = (q : Int)) (k : WA γ M n q ls st sh g tt b Φ) : WA γ M n pc ls (.int x :: st) sh g tt b Φ := by
  intro p e R s m args below meth c H locs cells slots Ls C hR ht hS hc hs hl
  exact lv_lookup C.1 C.2.1 hd hp ho hq (k p e R s m args below meth c H locs cells slots Ls C hR ht hS hc hs hl)
end More
