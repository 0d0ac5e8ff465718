/-! returns and calls -/
def pI (sh : List Sh) (r : Int32) (g1 : Mem) (tt : Bool) : PO := fun o s' g' t' => o = .inl (some (.int r)) ∧ s' = sh ∧ g' = g1 ∧ t' = tt
def pV (sh : List Sh) (g1 : Mem) (tt : Bool) : PO := fun o s' g' t' => o = .inl none ∧ s' = sh ∧ g' = g1 ∧ t' = tt
def pX (sh : List Sh) (E : String) (g1 : Mem) : PO := fun o s' g' t' => o = .inr E ∧ s' = sh ∧ g' = g1 ∧ t' = false
section Rets
variable {γ : GG} {M : MI} {n pc q : Nat} {ls : List (Option Value)} {st : List Value} {sh : List Sh} {g : Mem} {tt : Bool} {b : Nat × Nat} {Φ : PO}
theorem TT.of {s : State} {H : Heap} {cells : Nat} (hR : Rel γ sh g H) (h : TN γ tt sh s cells) (hz : H.size ≤ s.heap.size + cells) : TT γ tt sh H := by
  intro e
  have h1 := h e
  have h2 := hR.2
  omega
theorem w_ireturn {v : Int32} {ty : FieldType} (hd : decode M.2.1 pc = .ok (.ireturn, 1)) (hr : M.2.2.2.1 = some ty) (hn : narrow ty (.int v) = .int v) (hΦ : Φ (.inl (some (.int v))) sh g tt) : WA γ M n pc ls [.int v] sh g tt b Φ := by
  intro p e R s m args below meth c H locs cells slots Ls C hR ht9 hS hc9 hs9 hl T hT X
  obtain ⟨hx, hb, hrt, -, hown, hlocks, -, -, -, -, hSF⟩ := id C
  have hT2 : TT γ tt sh H := TT.of hR ht9 (by rw [← hT]; exact X.heapSize)
  exact (W.widen (k := cells + b.1) (n := slots + b.2) (Nat.le_add_right _ _) (Nat.le_add_right _ _) (vx_ret (W.zret (v := v) (ty := ty) hx hb (hrt.trans hr) hn (fun t ht hW => ⟨some (.int v), sh, g, tt, rfl, hΦ, by rw [ht]; exact hR, by rw [ht]; exact hT2, hS.F ht⟩) hS.2.2 hd hlocks))) T hT X
theorem w_return (hd : decode M.2.1 pc = .ok (.return_, 1)) (hr : M.2.2.2.1 = none) (hΦ : Φ (.inl none) sh g tt) : WA γ M n pc ls [] sh g tt b Φ := by
  intro p e R s m args below meth c H locs cells slots Ls C hR ht9 hS hc9 hs9 hl T hT X
  obtain ⟨hx, hb, hrt, -, hown, hlocks, -, -, -, -, hSF⟩ := id C
  have hT2 : TT γ tt sh H := TT.of hR ht9 (by rw [← hT]; exact X.heapSize)
  exact (W.widen (k := cells + b.1) (n := slots + b.2) (Nat.le_add_right _ _) (Nat.le_add_right _ _) (vx_ret (W.vret hx hb (hrt.trans hr) (fun t ht hW => ⟨none, sh, g, tt, rfl, hΦ, by rw [ht]; exact hR, by rw [ht]; exact hT2, hS.F ht⟩) hS.2.2 hd hlocks))) T hT X
/-- behind a call that returned -/
theorem run_ret {p : Program} {e : Env} {R : Room} {s : State} {m : MethodId} {args : Array Value} {below : List Frame} {meth : Method} {c : Code} {H : Heap} {locs : List Loc} {cells slots : Nat} {Ls : Array Slot} {b1 b2 : Nat × Nat} {st0 : List Value} {a : Array Value} {Φ1 : PO} {v : Option Value} {sh' : List Sh} {g' : Mem} {tt' : Bool}
    (hr : vx_Run p (gl γ) e R s m args below meth c H locs cells slots b1.1 b1.2 (F0 m pc Ls st0) (st.map (cv γ)) (QR γ Φ1 a) (QX γ Φ1) (gA γ)) (C : CX γ M n p e R s m args below meth c) (hS : va_S (gA γ) s.heap H locs) (ht9 : TN γ tt sh s cells) (hc9 : cells + b.1 ≤ R.cells) (hs9 : slots + b.2 ≤ R.slots) (hl : LH γ Ls M.2.2.1 ls)
    (hb : b = (b1.1 + b2.1, b1.2 + b2.2)) (hq : pc + 3 = q) (h1 : ∀ o s9 g9 t9, Φ1 o s9 g9 t9 → o = .inl v ∧ s9 = sh' ∧ g9 = g' ∧ t9 = tt') (htt : tt' = true → tt = true ∧ sh'.length = sh.length + b1.1)
    (kk : WA γ M n q ls (v.toList ++ st) sh' g' tt' b2 Φ) : W p (gl γ) e R s m args below meth c H locs cells slots (vx_MQ below (QR γ Φ) (QX γ Φ) args s (cells + b.1) (slots + b.2) (gA γ)) (F0 m pc Ls st0) := by
  subst hq; subst hb
  intro T hT X
  rcases hr T hT X with ⟨v9, st₀, t, T', L, h0, X', hL, e1, e2, ⟨w, s2, g2, t2, hv, hΦ, hER⟩, st1⟩ | ⟨q9, st₀, t, T', L, E, ce, h0, X', hL, e1, e2, ⟨s2, g2, t2, hΦ, hER⟩, hce, hcv, hcl, st1⟩
  · obtain ⟨hw, rfl, rfl, rfl⟩ := h1 _ _ _ _ hΦ
    cases hw
    cases hv
    obtain ⟨k1, k2, k3⟩ := vx_keep h0 e1 hS (fun _ _ h => h) (fun _ h => h) hL hER.2.2
    have := kk p e R s m args below meth c T'.heap (locs ++ L) (cells + b1.1) (slots + b1.2) Ls C (by rw [e1]; exact hER.1) (fun h => by
      obtain ⟨a1, a2⟩ := htt h
      have := ht9 a1
      omega) k3 (by rw [Nat.add_assoc]; exact hc9) (by rw [Nat.add_assoc]; exact hs9) hl
    rw [Nat.add_assoc, Nat.add_assoc] at this
    obtain ⟨t2, a1, b1⟩ := this T' rfl X'
    refine ⟨t2, st1 t2 ?_, b1⟩
    have e3 : List.map (cv γ) (v.toList ++ st) = (v.map (cv γ)).toList ++ st.map (cv γ) := by cases v <;> rfl
    rw [e3] at a1
    exact a1
  · obtain ⟨hw, -⟩ := h1 _ _ _ _ hΦ
    cases hw
/-- behind a call that threw, where nothing here catches it -/
theorem run_thr {p : Program} {e : Env} {R : Room} {s : State} {m : MethodId} {args : Array Value} {below : List Frame} {meth : Method} {c : Code} {H : Heap} {locs : List Loc} {cells slots : Nat} {Ls : Array Slot} {st0 rest : List Value} {a : Array Value} {Φ1 : PO} {E : String} {sh' : List Sh} {g' : Mem}
    (hr : vx_Run p (gl γ) e R s m args below meth c H locs cells slots b.1 b.2 (F0 m pc Ls st0) rest (QR γ Φ1 a) (QX γ Φ1) (gA γ)) (C : CX γ M n p e R s m args below meth c) (hS : va_S (gA γ) s.heap H locs)
    (h1 : ∀ o s9 g9 t9, Φ1 o s9 g9 t9 → o = .inr E ∧ s9 = sh' ∧ g9 = g' ∧ t9 = false) (hh : M.2.2.2.2 = [])
    (kk : Φ (.inr E) sh' g' false) : W p (gl γ) e R s m args below meth c H locs cells slots (vx_MQ below (QR γ Φ) (QX γ Φ) args s (cells + b.1) (slots + b.2) (gA γ)) (F0 m pc Ls st0) := by
  obtain ⟨hx, hb, hrt, -, hown, hlocks, -, htab, -, -, hSF⟩ := id C
  intro T hT X
  rcases hr T hT X with ⟨v9, st₀, t, T', L, h0, X', hL, e1, e2, ⟨w, s2, g2, t2, hv, hΦ, hER⟩, st1⟩ | ⟨q9, st₀, t, T', L, E9, ce, h0, X', hL, e1, e2, ⟨s2, g2, t2, hΦ, hER⟩, hce, hcv, hcl, st1⟩
  · obtain ⟨hw, -⟩ := h1 _ _ _ _ hΦ
    cases hw
  · obtain ⟨hw, rfl, rfl, rfl⟩ := h1 _ _ _ _ hΦ
    cases hw
    obtain ⟨k1, k2, k3⟩ := vx_keep h0 e1 hS (fun _ _ h => h) (fun _ h => h) hL hER.2.2
    obtain ⟨t2, a1, b1⟩ := vx_out (Qc := QR γ Φ) (XC := QX γ Φ) (free := gA γ) (pc := pc) (E := E) (ce := ce) (q := q9) (mc := cells + b.1) (ms := slots + b.2) (ls := Ls) (rest := rest) (H := T'.heap) (locs := locs ++ L) (cells := cells + b.1) (slots := slots + b.2) (by rw [htab, hh]; intro x hx; cases hx) hlocks (by rw [e1]; exact hce) hcv hcl
      (fun t9 ht9 hW9 => ⟨s2, g2, false, kk, by rw [ht9, e1]; exact hER.1, (fun h => by cases h), k3.F ht9⟩) k3.2.2 (Nat.le_refl _) (Nat.le_refl _) T' rfl X'
    exact ⟨t2, st1.trans a1, b1⟩
theorem cats (γ : GG) (st : List Value) : ((st.map (cv γ)).map fun v => v.category).sum = (st.map fun v => v.category).sum := by
  rw [List.map_map]
  congr 1
  apply List.map_congr_left
  intro v _
  exact cv_cat γ v
/-- what the caller brings to a call -/
theorem call_B {p : Program} {e : Env} {R : Room} {s : State} {m : MethodId} {args : Array Value} {below : List Frame} {meth : Method} {c : Code} {M' : MI} {n' np idx : Nat} {b1 : Nat × Nat} (C : CX γ M n p e R s m args below meth c) (hM : MWb M' np) (hh : M'.2.2.2.2 = []) (hn : n' + 1 ≤ n) (hml : M'.2.2.1 ≤ 180) (hw : Cond.methodLink M.1.cls idx M'.1 ∈ lwg) :
    CallB R s args M.1.cls idx M'.1 M'.2.1 M'.2.2.1 M'.2.2.2.1 [MWc M'] { frames := frN n', cells := b1.1, slots := b1.2, locals := loN n' } b1.1 b1.2 np := by
  obtain ⟨hx, hb, hrt, -, hown, hlocks, -, htab, hf, hlo, hSF⟩ := id C
  have e1 : MWc M' = Cond.code M'.1 M'.2.1 M'.2.2.1 M'.2.2.2.1 := if_pos hh
  have hcw : Cond.code M'.1 M'.2.1 M'.2.2.1 M'.2.2.2.1 ∈ lwg := by rw [← e1]; exact hM.1
  refine ⟨rfl, rfl, ?_, ?_, ?_, ?_, hSF.2.1 args _ hcw, hSF.2.1 args _ hM.2.1, ⟨hM.2.2.2.1, hM.2.2.2.2.1⟩, ?_, hSF.2.1 args _ hw⟩
  · simp only [frN] at *; omega
  · simp only [loN] at *; omega
  · intro w hw9 a' U hW
    rw [List.mem_singleton.mp hw9]
    exact gw_at (args := args) hW (List.mem_filter.mp hM.1).2 (hSF.2.1 args _ hM.1)
  · rw [e1]; exact List.mem_cons_self
  · intro sig h
    have h2 := hM.2.2.2.2.2
    rw [h] at h2
    exact (Option.some.inj h2).symm
theorem call_P {s : State} {H : Heap} {locs : List Loc} {av : List Value} {cells : Nat} (hSF : SF γ s) (hR : Rel γ sh g H) (hT2 : TT γ tt sh H) (hS : va_S (gA γ) s.heap H locs) : ∀ U : State, U.heap = H → s.WarmedH U.vm → PcA γ av sh g tt (av.map (cv γ)).toArray U := by
  intro U hU hW
  exact ⟨rfl, hSF.go hW (by rw [hU]; exact hS.1) (by rw [hU]; exact hS.2.1), by rw [hU]; exact hR, by rw [hU]; exact hT2⟩
theorem run_V {p : Program} {e : Env} {R : Room} {s : State} {m : MethodId} {args : Array Value} {below : List Frame} {meth : Method} {c : Code} {H : Heap} {locs : List Loc} {cells slots : Nat} {Ls : Array Slot} {M' : MI} {n' np idx k ci ln : Nat} {tm : List Nat} {b1 : Nat × Nat} {As S : List Value} {Φ1 : PO}
    (C : CX γ M n p e R s m args below meth c) (hR : Rel γ sh g H) (ht9 : TN γ tt sh s cells) (hS : va_S (gA γ) s.heap H locs) (hl : LH γ Ls M.2.2.1 ls) (hc9 : cells + b1.1 ≤ R.cells) (hs9 : slots + b1.2 ≤ R.slots) (hz : H.size ≤ s.heap.size + cells)
    (hd : decode M.2.1 pc = .ok (.invokevirtual idx, 3)) (hM : MWv M' np) (hn : n' + 1 ≤ n) (hml : M'.2.2.1 ≤ 180) (hw : Cond.methodLink M.1.cls idx M'.1 ∈ lwg) (hk : k < 1048576) (hs : sh[k]? = some (0, ci, tm, ln)) (hci : ci < 13) (hcl : xC ci = M'.1.cls) (hS9 : S = As.reverse ++ .ref k :: st) (hlen : As.length = np) (hcat : (st.map fun v => v.category).sum ≤ 8)
    (hC : CA γ M' n' (.ref k :: As) sh g tt b1 Φ1) :
    vx_Run p (gl γ) e R s m args below meth c H locs cells slots b1.1 b1.2 (F0 m pc Ls (S.map (cv γ))) (st.map (cv γ)) (QR γ Φ1 (Value.ref (cr γ k) :: As.map (cv γ)).toArray) (QX γ Φ1) (gA γ) := by
  obtain ⟨hx, hb, hrt, hmx, hown, hlocks, -, htab, hf, hlo, hSF⟩ := id C
  have hT2 : TT γ tt sh H := TT.of hR ht9 hz
  refine vx_runV (C := M'.1.cls) (b := cr γ k) (As := As.map (cv γ)) (rest := st.map (cv γ)) (nL := M.2.2.1) (Ts := lwg) ⟨hx, hb, hmx, hown, hSF.2.1 args⟩ (hC _ rfl rfl (Nat.le_refl _) (Nat.le_refl _)) ⟨call_B C hM.1 hM.2.1 hn hml hw, hSF.2.1 args _ hM.2.2.1, hSF.2.1 args _ hM.2.2.2⟩ ⟨PcA.blind, ?_, ?_⟩ rfl (by rw [List.length_map]; exact hlen) hl.1 ?_ ?_ hd ⟨hc9, hs9⟩
  · have := va_recv hSF.1 hR.1 (xcl_at ci hci) (wsO_at γ g hs)
    rw [cr_lo γ hk, ← hcl]
    exact this
  · exact call_P (av := .ref k :: As) (cells := cells) hSF hR hT2 hS
  · show S.map (cv γ) = _
    rw [hS9, List.map_append, List.map_reverse]
    rfl
  · show 2 * 0 + ((st.map (cv γ)).map fun v => v.category).sum ≤ 8
    rw [cats, Nat.mul_zero, Nat.zero_add]
    exact hcat
theorem run_S {p : Program} {e : Env} {R : Room} {s : State} {m : MethodId} {args : Array Value} {below : List Frame} {meth : Method} {c : Code} {H : Heap} {locs : List Loc} {cells slots : Nat} {Ls : Array Slot} {M' : MI} {n' np idx : Nat} {b1 : Nat × Nat} {As S : List Value} {Φ1 : PO}
    (C : CX γ M n p e R s m args below meth c) (hR : Rel γ sh g H) (ht9 : TN γ tt sh s cells) (hS : va_S (gA γ) s.heap H locs) (hl : LH γ Ls M.2.2.1 ls) (hc9 : cells + b1.1 ≤ R.cells) (hs9 : slots + b1.2 ≤ R.slots) (hz : H.size ≤ s.heap.size + cells)
    (hd : decode M.2.1 pc = .ok (.invokestatic idx, 3)) (hM : MWs M' np) (hn : n' + 1 ≤ n) (hml : M'.2.2.1 ≤ 180) (hw : Cond.methodLink M.1.cls idx M'.1 ∈ lwg) (hS9 : S = As.reverse ++ st) (hlen : As.length = np) (hcat : (st.map fun v => v.category).sum ≤ 8)
    (hC : CA γ M' n' As sh g tt b1 Φ1) :
    vx_Run p (gl γ) e R s m args below meth c H locs cells slots b1.1 b1.2 (F0 m pc Ls (S.map (cv γ))) (st.map (cv γ)) (QR γ Φ1 (As.map (cv γ)).toArray) (QX γ Φ1) (gA γ) := by
  obtain ⟨hx, hb, hrt, hmx, hown, hlocks, -, htab, hf, hlo, hSF⟩ := id C
  have hT2 : TT γ tt sh H := TT.of hR ht9 hz
  refine vx_runS (As := As.map (cv γ)) (rest := st.map (cv γ)) (nL := M.2.2.1) (Ts := lwg) ⟨hx, hb, hmx, hown, hSF.2.1 args⟩ (hC _ rfl rfl (Nat.le_refl _) (Nat.le_refl _)) ⟨call_B C hM.1 hM.2.1 hn hml hw, hSF.2.1 args _ hM.2.2⟩ ⟨PcA.blind, ?_⟩ rfl (by rw [List.length_map]; exact hlen) hl.1 ?_ ?_ hd ⟨hc9, hs9⟩
  · exact call_P (av := As) (cells := cells) hSF hR hT2 hS
  · show S.map (cv γ) = _
    rw [hS9, List.map_append, List.map_reverse]
  · show 2 * 0 + ((st.map (cv γ)).map fun v => v.category).sum ≤ 8
    rw [cats, Nat.mul_zero, Nat.zero_add]
    exact hcat
theorem w_callVi {M' : MI} {n' np idx k ci ln : Nat} {tm : List Nat} {As S : List Value} {g1 : Mem} {sh' : List Sh} {b1 b2 : Nat × Nat} {r : Int32} (hd : decode M.2.1 pc = .ok (.invokevirtual idx, 3)) (hq : pc + 3 = q) (hM : MWv M' np) (hn : n' + 1 ≤ n) (hml : M'.2.2.1 ≤ 180) (hw : Cond.methodLink M.1.cls idx M'.1 ∈ lwg) (hk : k < 1048576) (hs : sh[k]? = some (0, ci, tm, ln)) (hci : ci < 13) (hcl : xC ci = M'.1.cls) (hS9 : S = As.reverse ++ .ref k :: st) (hlen : As.length = np) (hcat : (st.map fun v => v.category).sum ≤ 8) (hb : b = (b1.1 + b2.1, b1.2 + b2.2)) (hlen9 : tt = true → sh'.length = sh.length + b1.1) (hC : CA γ M' n' (.ref k :: As) sh g tt b1 (pI sh' r g1 tt)) (kk : WA γ M n q ls (.int r :: st) sh' g1 tt b2 Φ) : WA γ M n pc ls S sh g tt b Φ := by
  intro p e R s m args below meth c H locs cells slots Ls C hR ht9 hS hc9 hs9 hl T hT X
  have hbc : cells + b1.1 ≤ R.cells := by rw [hb] at hc9; simp only [] at hc9; omega
  have hbs : slots + b1.2 ≤ R.slots := by rw [hb] at hs9; simp only [] at hs9; omega
  exact (run_ret (b1 := b1) (b2 := b2) (v := some (.int r)) (sh' := sh') (g' := g1) (tt' := tt) (run_V (M' := M') (n' := n') C hR ht9 hS hl hbc hbs (by rw [← hT]; exact X.heapSize) hd hM hn hml hw hk hs hci hcl hS9 hlen hcat hC) C hS ht9 hc9 hs9 hl hb hq (fun _ _ _ _ h => h) (fun h => ⟨h, hlen9 h⟩) kk) T hT X
theorem w_callVv {M' : MI} {n' np idx k ci ln : Nat} {tm : List Nat} {As S : List Value} {g1 : Mem} {sh' : List Sh} {b1 b2 : Nat × Nat} (hd : decode M.2.1 pc = .ok (.invokevirtual idx, 3)) (hq : pc + 3 = q) (hM : MWv M' np) (hn : n' + 1 ≤ n) (hml : M'.2.2.1 ≤ 180) (hw : Cond.methodLink M.1.cls idx M'.1 ∈ lwg) (hk : k < 1048576) (hs : sh[k]? = some (0, ci, tm, ln)) (hci : ci < 13) (hcl : xC ci = M'.1.cls) (hS9 : S = As.reverse ++ .ref k :: st) (hlen : As.length = np) (hcat : (st.map fun v => v.category).sum ≤ 8) (hb : b = (b1.1 + b2.1, b1.2 + b2.2)) (hlen9 : tt = true → sh'.length = sh.length + b1.1) (hC : CA γ M' n' (.ref k :: As) sh g tt b1 (pV sh' g1 tt)) (kk : WA γ M n q ls st sh' g1 tt b2 Φ) : WA γ M n pc ls S sh g tt b Φ := by
  intro p e R s m args below meth c H locs cells slots Ls C hR ht9 hS hc9 hs9 hl T hT X
  have hbc : cells + b1.1 ≤ R.cells := by rw [hb] at hc9; simp only [] at hc9; omega
  have hbs : slots + b1.2 ≤ R.slots := by rw [hb] at hs9; simp only [] at hs9; omega
  exact (run_ret (b1 := b1) (b2 := b2) (v := none) (sh' := sh') (g' := g1) (tt' := tt) (run_V (M' := M') (n' := n') C hR ht9 hS hl hbc hbs (by rw [← hT]; exact X.heapSize) hd hM hn hml hw hk hs hci hcl hS9 hlen hcat hC) C hS ht9 hc9 hs9 hl hb hq (fun _ _ _ _ h => h) (fun h => ⟨h, hlen9 h⟩) kk) T hT X
theorem w_callVx {M' : MI} {n' np idx k ci ln : Nat} {tm : List Nat} {As S : List Value} {g1 : Mem} {sh' : List Sh} {E : String} (hd : decode M.2.1 pc = .ok (.invokevirtual idx, 3)) (hM : MWv M' np) (hn : n' + 1 ≤ n) (hml : M'.2.2.1 ≤ 180) (hw : Cond.methodLink M.1.cls idx M'.1 ∈ lwg) (hk : k < 1048576) (hs : sh[k]? = some (0, ci, tm, ln)) (hci : ci < 13) (hcl : xC ci = M'.1.cls) (hS9 : S = As.reverse ++ .ref k :: st) (hlen : As.length = np) (hcat : (st.map fun v => v.category).sum ≤ 8) (hh : M.2.2.2.2 = []) (hC : CA γ M' n' (.ref k :: As) sh g tt b (pX sh' E g1)) (kk : Φ (.inr E) sh' g1 false) : WA γ M n pc ls S sh g tt b Φ := by
  intro p e R s m args below meth c H locs cells slots Ls C hR ht9 hS hc9 hs9 hl T hT X
  exact (run_thr (E := E) (sh' := sh') (g' := g1) (run_V (M' := M') (n' := n') C hR ht9 hS hl hc9 hs9 (by rw [← hT]; exact X.heapSize) hd hM hn hml hw hk hs hci hcl hS9 hlen hcat hC) C hS (fun _ _ _ _ h => h) hh kk) T hT X
theorem w_callSi {M' : MI} {n' np idx : Nat} {As S : List Value} {g1 : Mem} {sh' : List Sh} {b1 b2 : Nat × Nat} {r : Int32} (hd : decode M.2.1 pc = .ok (.invokestatic idx, 3)) (hq : pc + 3 = q) (hM : MWs M' np) (hn : n' + 1 ≤ n) (hml : M'.2.2.1 ≤ 180) (hw : Cond.methodLink M.1.cls idx M'.1 ∈ lwg) (hS9 : S = As.reverse ++ st) (hlen : As.length = np) (hcat : (st.map fun v => v.category).sum ≤ 8) (hb : b = (b1.1 + b2.1, b1.2 + b2.2)) (hlen9 : tt = true → sh'.length = sh.length + b1.1) (hC : CA γ M' n' As sh g tt b1 (pI sh' r g1 tt)) (kk : WA γ M n q ls (.int r :: st) sh' g1 tt b2 Φ) : WA γ M n pc ls S sh g tt b Φ := by
  intro p e R s m args below meth c H locs cells slots Ls C hR ht9 hS hc9 hs9 hl T hT X
  have hbc : cells + b1.1 ≤ R.cells := by rw [hb] at hc9; simp only [] at hc9; omega
  have hbs : slots + b1.2 ≤ R.slots := by rw [hb] at hs9; simp only [] at hs9; omega
  exact (run_ret (b1 := b1) (b2 := b2) (v := some (.int r)) (sh' := sh') (g' := g1) (tt' := tt) (run_S (M' := M') (n' := n') C hR ht9 hS hl hbc hbs (by rw [← hT]; exact X.heapSize) hd hM hn hml hw hS9 hlen hcat hC) C hS ht9 hc9 hs9 hl hb hq (fun _ _ _ _ h => h) (fun h => ⟨h, hlen9 h⟩) kk) T hT X
theorem w_callSv {M' : MI} {n' np idx : Nat} {As S : List Value} {g1 : Mem} {sh' : List Sh} {b1 b2 : Nat × Nat} (hd : decode M.2.1 pc = .ok (.invokestatic idx, 3)) (hq : pc + 3 = q) (hM : MWs M' np) (hn : n' + 1 ≤ n) (hml : M'.2.2.1 ≤ 180) (hw : Cond.methodLink M.1.cls idx M'.1 ∈ lwg) (hS9 : S = As.reverse ++ st) (hlen : As.length = np) (hcat : (st.map fun v => v.category).sum ≤ 8) (hb : b = (b1.1 + b2.1, b1.2 + b2.2)) (hlen9 : tt = true → sh'.length = sh.length + b1.1) (hC : CA γ M' n' As sh g tt b1 (pV sh' g1 tt)) (kk : WA γ M n q ls st sh' g1 tt b2 Φ) : WA γ M n pc ls S sh g tt b Φ := by
  intro p e R s m args below meth c H locs cells slots Ls C hR ht9 hS hc9 hs9 hl T hT X
  have hbc : cells + b1.1 ≤ R.cells := by rw [hb] at hc9; simp only [] at hc9; omega
  have hbs : slots + b1.2 ≤ R.slots := by rw [hb] at hs9; simp only [] at hs9; omega
  exact (run_ret (b1 := b1) (b2 := b2) (v := none) (sh' := sh') (g' := g1) (tt' := tt) (run_S (M' := M') (n' := n') C hR ht9 hS hl hbc hbs (by rw [← hT]; exact X.heapSize) hd hM hn hml hw hS9 hlen hcat hC) C hS ht9 hc9 hs9 hl hb hq (fun _ _ _ _ h => h) (fun h => ⟨h, hlen9 h⟩) kk) T hT X
theorem w_callSx {M' : MI} {n' np idx : Nat} {As S : List Value} {g1 : Mem} {sh' : List Sh} {E : String} (hd : decode M.2.1 pc = .ok (.invokestatic idx, 3)) (hM : MWs M' np) (hn : n' + 1 ≤ n) (hml : M'.2.2.1 ≤ 180) (hw : Cond.methodLink M.1.cls idx M'.1 ∈ lwg) (hS9 : S = As.reverse ++ st) (hlen : As.length = np) (hcat : (st.map fun v => v.category).sum ≤ 8) (hh : M.2.2.2.2 = []) (hC : CA γ M' n' As sh g tt b (pX sh' E g1)) (kk : Φ (.inr E) sh' g1 false) : WA γ M n pc ls S sh g tt b Φ := by
  intro p e R s m args below meth c H locs cells slots Ls C hR ht9 hS hc9 hs9 hl T hT X
  exact (run_thr (E := E) (sh' := sh') (g' := g1) (run_S (M' := M') (n' := n') C hR ht9 hS hl hc9 hs9 (by rw [← hT]; exact X.heapSize) hd hM hn hml hw hS9 hlen hcat hC) C hS (fun _ _ _ _ h => h) hh kk) T hT X
end Rets
