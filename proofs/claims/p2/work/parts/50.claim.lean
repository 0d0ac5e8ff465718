/-! the law's loop: its head, its tail, its end -/
def ΦL : PO := fun o _ _ _ => o = .inl (some (.int 1))
theorem law_out {γ : GG} {g : Mem} {b : Nat × Nat} {i : Int32} (hL : Int32.ofNat (gS γ).2.1 - 6 < i) : WA γ M_Law_main 130 23 (lwL i) [] SH g false b ΦL := by
  refine w_iload (q := 25) d_Law_main_23 rfl rfl ?_
  refine w_aload_n (q := 26) d_Law_main_25 rfl rfl ?_
  refine w_slen (q := 27) d_Law_main_26 rfl rfl ?_
  refine w_bipush (q := 29) (v := 6) d_Law_main_27 rfl (by decide) ?_
  refine w_isub (q := 30) d_Law_main_29 rfl ?_
  refine w_icmp_gt_t (q := 1479) d_Law_main_30 rfl hL ?_
  refine w_iconst (q := 1480) (v := 1) d_Law_main_1479 rfl (by decide) ?_
  exact w_ireturn d_Law_main_1480 rfl rfl rfl
theorem law_tail {γ : GG} {g : Mem} {b : Nat × Nat} {i : Int32} {Φ : PO} (k : WA γ M_Law_main 130 23 (lwL (i + 6)) [] SH g false b Φ) : WA γ M_Law_main 130 1473 (lwL i) [] SH g false b Φ := by
  refine w_iinc (q := 1476) (ls' := lwL (i + 6)) d_Law_main_1473 rfl (by decide) rfl rfl rfl ?_
  refine w_goto (q := 23) d_Law_main_1476 rfl ?_
  exact k
theorem law_in {γ : GG} {g : Mem} {b : Nat × Nat} {i : Int32} {F : Nat} {g9 : Mem} {Φ : PO} (hL : ¬ Int32.ofNat (gS γ).2.1 - 6 < i) (hi : inb i (gS γ).2.1 = true) (h : sp_sw F (gS γ).2.1 (gS γ).2.2 i g ((gS γ).2.2 i.toNatClampNeg &&& 63) = some (.inl g9)) (k : WA γ M_Law_main 130 23 (lwL (i + 6)) [] SH g9 false b Φ) : WA γ M_Law_main 130 23 (lwL i) [] SH g false (1 + b.1, 6 + b.2) Φ := by
  refine w_iload (q := 25) d_Law_main_23 rfl rfl ?_
  refine w_aload_n (q := 26) d_Law_main_25 rfl rfl ?_
  refine w_slen (q := 27) d_Law_main_26 rfl rfl ?_
  refine w_bipush (q := 29) (v := 6) d_Law_main_27 rfl (by decide) ?_
  refine w_isub (q := 30) d_Law_main_29 rfl ?_
  refine w_icmp_gt_f (q := 33) d_Law_main_30 1479 rfl rfl hL ?_
  refine w_aload_n (q := 34) d_Law_main_33 rfl rfl ?_
  refine w_iload (q := 36) d_Law_main_34 rfl rfl ?_
  refine w_sld (q := 37) d_Law_main_36 rfl hi ?_
  refine w_bipush (q := 39) (v := 63) d_Law_main_37 rfl (by decide) ?_
  refine w_iand (q := 40) d_Law_main_39 rfl ?_
  exact ok_sw h (law_tail k)
/-! THE CLAIM OUT OF ONE WALK OF THE LAW'S BODY (the skeleton's rows, with the law's own name, its table and the launch's flag beside) -/
def R_law : String := "BeardHallLaw"
def lw_P (b : Addr) (xs : List Int32) (args : Array Value) (s : State) : Prop := args = #[.ref b] ∧ s.IntsAt b xs ∧ xs.length ≤ 3072 ∧ (Jvm.Cond.and given_1 narrow_1).before args s = true
def lw_Q (_ : Array Value) (s : State) (o : Outcome) (t : State) : Prop := o = .returned (some (.int 1)) ∧ Framed s o t [] 601024 7293034
def lw_Z (below : List Frame) (a : Array Value) (s : State) : State → Prop := fun t => ∃ o, t.status = .running ∧ Ended t below o ∧ lw_Q a s o t
def lw_At (p : Program) (s : State) (m : MethodId) (meth : Method) (c : Code) (b L : Nat) (xs : Nat → Int32) : Prop :=
  p.tables.exec = Jvm.exec ∧ c.code = code ∧ meth.sig.returnType = ret ∧ c.maxLocals = 7 ∧ s.vm.findClass R_law = some m.cls ∧ (∀ w ∈ lw_tbl, w.before #[Value.ref b] s = true) ∧ va_X b L xs s s.heap ∧ b < s.heap.size ∧ meth.locks = false ∧ (Jvm.Cond.and given_1 narrow_1).before #[Value.ref b] s = true
theorem law_loop {γ : GG} (hL : (gS γ).2.1 ≤ 3072) : ∀ (r j : Nat) (g : Mem), (gS γ).2.1 ≤ 6 * j + 6 * r + 5 → LI g → 6 * j ≤ 3072 → WA γ M_Law_main 130 23 (lwL (nI (6 * j))) [] SH g false (r, 6 * r) ΦL := by
  have e6 : (6 : Int32).toInt = 6 := by decide
  have hb := ofB (n := (gS γ).2.1) (by omega)
  have hsub : (Int32.ofNat (gS γ).2.1 - 6).toInt = ((gS γ).2.1 : Int) - 6 := by
    rw [B.sub_eq hb (show B 6 6 (6 : Int32) from ⟨by decide, by decide⟩) ⟨by omega, by omega⟩, e6]
    have h1 := hb.1
    have h2 := hb.2
    omega
  intro r
  induction r with
  | zero =>
    intro j g h1 _ hj
    refine law_out (ilt.mpr ?_)
    rw [hsub, nI_toInt (by omega)]
    omega
  | succ r ih =>
    intro j g h1 hg hj
    have hji : (nI (6 * j)).toInt = ((6 * j : Nat) : Int) := nI_toInt (by omega)
    by_cases hout : (gS γ).2.1 < 6 * j + 6
    · refine law_out (ilt.mpr ?_)
      rw [hsub, hji]
      omega
    · have ix : ∀ c : Nat, c < 6 → inb (nI (6 * j) + nI c) (gS γ).2.1 = true := fun c hc => by
        rw [nI_add]
        exact inb_nI (by omega) (by omega)
      have hx : HX (gS γ).2.1 (nI (6 * j)) := ⟨ix 1 (by decide), ix 2 (by decide), ix 3 (by decide), ix 4 (by decide), ix 5 (by decide)⟩
      have h0 : inb (nI (6 * j)) (gS γ).2.1 = true := inb_nI (by omega) (by omega)
      obtain ⟨r9, e9, g9, rfl, hg9⟩ := t_sw (F := 4294967297) (L := (gS γ).2.1) (xs := (gS γ).2.2) (c := (gS γ).2.2 (nI (6 * j)).toNatClampNeg &&& 63) (by decide) hx hg
      have eb : ((r + 1, 6 * (r + 1)) : Nat × Nat) = (1 + ((r, 6 * r) : Nat × Nat).1, 6 + ((r, 6 * r) : Nat × Nat).2) := by
        rw [Nat.add_comm r 1, Nat.mul_add]
      rw [eb]
      refine law_in (b := (r, 6 * r)) (fun q => ?_) h0 e9 ?_
      · have q' := ilt.mp q
        rw [hsub, hji] at q'
        omega
      · rw [show nI (6 * j) + 6 = nI (6 * (j + 1)) from nI_add (6 * j) 6]
        exact ih (j + 1) g9 (by omega) hg9 (by omega)
theorem whole_start {p : Program} {e : Env} {s : State} {m : MethodId} {below : List Frame} {meth : Method} {c : Code} (l : Launch) (hlt : l.stackTraces = false) (hnm : meth.name = "law") (htab : c.exceptionTable.toList = tableOf []) {b L : Nat} {xs : Nat → Int32} (hL : L ≤ 3072) (C0 : lw_At p s m meth c b L xs) : W p l e room_1 s m #[Value.ref b] below meth c s.heap [] 0 0 (lw_Z below #[Value.ref b] s) (entryFrame m ([Value.ref b] : List Value).toArray 7) := by
  obtain ⟨hx, hb, hr, hml, hown, hts, hX, hbl, hlocks, hgv⟩ := id C0
  obtain ⟨γ, e1, e2, e3, hSF⟩ := sf_start hlt hts hX hbl hgv
  have hw : WA γ M_Law_main 130 0 [some (.ref 2097152), none, none, none, none, none, none] [] SW_0 (fun _ _ => 0) true (1079, 32049) ΦL := by
    refine law_begin (w_loose ?_)
    have eL : (gS γ).2.1 = L := by rw [e3]
    refine w_wide (b := (512, 6 * 512)) (by decide) (by decide) ?_
    exact law_loop (by rw [eL]; exact hL) 512 0 _ (by rw [eL]; omega) li_start (by decide)
  have hl0 := lv_entry ([.ref b]) (n := 7) (Nat.le_of_ble_eq_true rfl)
  rw [lg_entry_eq]
  subst e1
  have hcr : cr γ 2097152 = b := by unfold cr; rw [if_neg (by decide), if_neg (by decide), if_neg (by decide), if_pos rfl, e3]
  have hC : CX γ M_Law_main 130 p e room_1 s m #[Value.ref b] below meth c := ⟨hx, hb, hr, hml, hown, hlocks, hnm, htab, by decide, by decide, hSF⟩
  have hls : LH γ ((lg_sl ([.ref b]) ++ List.replicate (7 - (lg_sl ([.ref b])).length) Slot.unset).toArray) 7 [some (.ref 2097152), none, none, none, none, none, none] := by
    refine ⟨hl0.1, hl0.2.1, fun q hq => ?_⟩
    have hq2 : q = (0, .ref b) := by
      have : q ∈ [((0 : Nat), cv γ (Value.ref 2097152))] := hq
      rw [List.mem_singleton.mp this]
      show (0, Value.ref (cr γ 2097152)) = _
      rw [hcr]
    rw [hq2]
    exact hl0.2.2 _ List.mem_cons_self
  have hRel : Rel γ SW_0 (fun _ _ => 0) s.heap := ⟨fun k q h => by simp [SW_0, wsO] at h, by rw [e2]; exact Nat.le_refl _⟩
  have hW := hw p e room_1 s m #[Value.ref b] below meth c s.heap [] 0 0 _ hC hRel (fun _ => by rw [e2]; rfl) va_S.rf (by decide) (by decide) hls
  intro T hT X
  obtain ⟨t, a1, o, b1, b2, b3⟩ := hW T hT X
  refine ⟨t, a1, o, b1, b2, ?_⟩
  rcases b3 with ⟨⟨v, sh9, g9, tt9, ho, hΦ, -⟩, L9, ⟨hret, hWm, hsame⟩, hfree⟩ | ⟨q9, ho, E, ce, L9, ⟨sh9, g9, tt9, hΦ, -⟩, -⟩
  · cases hΦ
    refine ⟨ho, hret, hWm, hsame.weaken (fun x hx hlt => ?_) (by decide) (by decide)⟩
    have := hfree x hx
    rw [gA, e2] at this
    exact absurd hlt (Nat.not_lt.mpr this)
  · cases hΦ
set_option maxHeartbeats 4000000 in
theorem lw_walk (l : Launch) (hlt : l.stackTraces = false) (b : Addr) (xs : List Int32) : MetFree l x (headSpec (Jvm.Cond.code x code maxLocals ret :: tables_1) room_1) (lw_P b xs) (fun _ _ _ _ _ => True) lw_Q := by
  refine MetFree.of_bodyS (code := code) (maxLocals := maxLocals) (ret := ret) (by decide) ?_ ?_
  · intro args s m h hn
    obtain ⟨meth, c, h1, h2, h3, h4, h5, h6, -, -⟩ := Cond.code_spec hn (atoms_spec (ws := Jvm.Cond.code x code maxLocals ret :: tables_1) h _ List.mem_cons_self)
    exact ⟨meth, c, h1, h2, h3, h4, h5, h6⟩
  · intro p e s m args below meth c s₁ B hml0 hP _
    obtain ⟨rfl, hx, hbd, hgv⟩ := hP
    obtain ⟨scr, harrAt, hlist, hof, hsmall⟩ := hx
    obtain ⟨hcb, hkn, -, -⟩ := State.arrayAt?_spec harrAt
    have hown : s.vm.findClass R_law = some m.cls := findClass_of_methodNamed B.named
    have hts0 : ∀ c ∈ (Jvm.Cond.code x code maxLocals ret :: tables_1), c.before #[Value.ref b] s = true := atoms_spec (ws := Jvm.Cond.code x code maxLocals ret :: tables_1) B.pre
    have hts : ∀ w ∈ lw_tbl, w.before #[Value.ref b] s = true := k2_hts_sels lw_privs (fun w hw => hts0 w (List.mem_cons_of_mem _ hw)) lw_privs_ok
    have hml : c.maxLocals = 7 := B.maxLocals_eq (hts0 _ List.mem_cons_self)
    have X₀ : Stand p l e room_1 s m #[Value.ref b] below meth c s₁ [] 0 0 := Stand.of_body B
    have hh0 : s₁.heap = s.heap := by rw [B.state]; rfl
    have hsz : scr.slots.size = xs.length := by rw [← Array.length_toList, hlist, List.length_map]
    have hval : ∀ j : Nat, j < xs.length → scr.slots[j]? = some (.int (xs.getD j 0)) := fun j hj => by
      rw [← Array.getElem?_toList, hlist]
      simp [hj]
    have hbl : b < s.heap.size := (Array.getElem?_eq_some_iff.mp hcb).1
    have hX : va_X b xs.length (fun j => xs.getD j 0) s s.heap := ⟨scr, hcb, hof, hkn, hsz, hval⟩
    have htab : c.exceptionTable.toList = tableOf [] := by
      obtain ⟨meth9, c9, h1, h2, -, -, -, -, h7, -⟩ := Cond.code_spec B.named (hts0 _ List.mem_cons_self)
      cases Option.some.inj (h1.symm.trans B.method)
      cases Option.some.inj (h2.symm.trans (Stand.of_body B).code)
      rw [Array.isEmpty_iff.mp h7]
      rfl
    have K : W p l e room_1 s m #[Value.ref b] below meth c s₁.heap [] 0 0 (lw_Z below #[Value.ref b] s) (entryFrame m ([Value.ref b] : List Value).toArray 7) := by
      rw [hh0]
      exact whole_start l hlt (name_of_methodNamed B.named B.method).1 htab hbd ⟨B.exec, B.bytes, B.returns, hml, hown, hts, hX, hbl, B.notSynchronized, hgv⟩
    obtain ⟨t, a1, o, b1, b2, b3⟩ := K s₁ rfl X₀
    exact ⟨t, o, a1, b1, b2, b3⟩
theorem lw_pre_spec {args : Array Value} {s : State} (h : (Jvm.Cond.and given_1 narrow_1).before args s = true) (hr : rest_1_c.before args s = true) : ∃ (b : Addr) (xs : List Int32), lw_P b xs args s := by
  have hs := flat_of_before _ h
  have hq := flat_of_before _ hr
  have hc : (Cond.count 1).before args s = true := hs _ (by decide +kernel)
  have harr : (Cond.arrayOf (.arg 0) .int).before args s = true := hs _ (by decide +kernel)
  have hle : (Cond.le (.length (.arg 0)) (.int 3072)).before args s = true := hs _ (by decide +kernel)
  have hlen : (Cond.isInt (.length (.arg 0))).before args s = true := hq _ (by decide +kernel)
  have hall : (Cond.all (.arg 0) (.isInt (.elem (.arg 0) (.index 0)))).before args s = true := hq _ (by decide +kernel)
  obtain ⟨b, xs, hb, hx⟩ := State.ints_of_pre rfl harr hlen hall
  have hsm : xs.length < 2 ^ 31 := hx.choose_spec.2.2.2
  have hev : (Term.length (.arg 0)).eval args s none [] s = some (.int xs.length.toInt32) := hx.length_eval hb
  have hv := Cond.le_ints hev (show (Term.int 3072).eval args s none [] s = some (.int 3072) from rfl)
  have hd : xs.length.toInt32 ≤ 3072 := by
    simpa [Cond.before, Cond.holds, hv] using hle
  have hN : xs.length ≤ 3072 := (Int32.ofNat_le_ofNat hsm (by decide)).mp (show Int32.ofNat xs.length ≤ Int32.ofNat 3072 from hd)
  exact ⟨b, xs, Cond.one_arg hc (show args[0]? = some (.ref b) from hb), hx, hN, h⟩
theorem lw_comes (l : Launch) (hlt : l.stackTraces = false) : Comes l x (Jvm.Cond.code x code maxLocals ret :: tables_1) room_1 (fun tb e args s => Calls_1 tb e args s ∧ rest_1 tb e args s ∧ Pre_1 tb e args s)
    (fun _ _ args s o t => lw_Q args s o t) := by
  intro p e ha hc hk s m args below hf hfit hheap happ hpre
  obtain ⟨b, xs, hP⟩ := lw_pre_spec hpre.2.2 hpre.2.1
  obtain ⟨k, o, h1, h2, h3, hQ⟩ := lw_walk l hlt b xs p e ha hc hk s m args below hf ((Spec.applies_iff_loose hf).mp happ).1 hP trivial
  exact ⟨k, o, h1, h2, h3, hQ⟩
theorem lw_frame {s t : State} {o : Outcome} {args : Array Value} (h : Framed s o t [] 601024 7293034) :
    Framed s o t (fieldLocs frame_1_writes args s ++ arrayLocs frame_1_arrays args s ++ staticLocs frame_1_statics s) 601024 7293034 := h
theorem lw_limb (L : Cond) (hL : ∀ (args : Array Value) (s t : State), L.after args s (.returned (some (.int 1))) t = true) :
    ArmFor flags0 classFile x code maxLocals ret World_1 tables_1 room_1 Calls_1 rest_1 Pre_1
      (fun tb e a s o t => postC L tb e a s o t ∧ Framed s o t (fieldLocs frame_1_writes a s ++ arrayLocs frame_1_arrays a s ++ staticLocs frame_1_statics s) 601024 7293034) := by
  intro l hfl _ _ p e ha hc hk s m args below hf hfit hheap happ hpre
  have hlt : l.stackTraces = false := by unfold Launch.stackTraces; rw [hfl]; decide
  obtain ⟨k, o, h1, h2, h3, rfl, hF⟩ := lw_comes l hlt p e ha hc hk s m args below hf hfit hheap happ hpre
  exact ⟨k, _, h1, h2, h3, hL args s _, lw_frame hF⟩
theorem i_vc : Claimed_1_1 ∧ Claimed_1_2 := ⟨lw_limb limb_1_1 (fun args s t => by simp [limb_1_1, Cond.after, Cond.holds, Cond.value]), lw_limb limb_1_2 (fun args s t => Cond.after_iff.mpr (by
  first | (rw [show limb_1_2 = Cond.eq .result (.int 1) from rfl, Cond.eq_ints (x := 1) (y := 1) rfl rfl]; simp; done) | (simp [limb_1_2, Cond.value, Term.eval]; done)))⟩
