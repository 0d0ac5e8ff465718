section
/-! A handler's search where the classes of the table are linked, not yet resolved: own rows (the search, a row at a time). -/
section XF
theorem xf_link {Q : Handler → Pre} {E : CtlPost} {e : Env} {d : Bool} {acts : List Action} {u : State} {f : JFrame} {a : Addr} {x : ExceptionTableEntry} {t : List ExceptionTableEntry} {c : ClassId} {cell : Cell} (hx : covers x f.pc = true) (h0 : x.catchType ≠ 0)
    (hl : u.vm.ClassLinks e.platform f.method.cls x.catchType c) (hcell : u.heap[a]? = some cell) (hobj : ∀ k, cell.vm ≠ .statics k) (hk : ∃ k, u.vm.classes[cell.cls]? = some k) (hc : ∃ k, u.vm.classes[c]? = some k) :
    wp (findHandler.go f a (x :: t)) Q E e d acts u ↔ if u.vm.assignable cell.cls c = true then Q (.found x.handlerPc) d acts (u.setVm (u.vm.noted f.method.cls x.catchType (.cls c))) else wp (findHandler.go f a t) Q E e d acts (u.setVm (u.vm.noted f.method.cls x.catchType (.cls c))) := by
  simp only [covers] at hx
  obtain ⟨ha, ht⟩ := (resolveClass_links e.toSetting hl).op (op := VmOp.resolveClass f.method.cls x.catchType) rfl
  have hal : u.vm.Alike (u.vm.noted f.method.cls x.catchType (.cls c)) := (Vm.Alike.refl u.vm).noted _ _ _
  obtain ⟨k1, hk1⟩ := hk
  obtain ⟨k2, hk2⟩ := hc
  obtain ⟨k1', hk1', -⟩ := hal.2.2 _ _ hk1
  obtain ⟨k2', hk2', -⟩ := hal.2.2 _ _ hk2
  by_cases hfit : u.vm.assignable cell.cls c = true
  · have hfit' : (u.vm.noted f.method.cls x.catchType (.cls c)).assignable cell.cls c = true := by rw [hal.assignable]; exact hfit
    simp [findHandler.go, hx, h0, ha, ht, hcell, hobj, hk1', hk2', hfit', hfit, VmOp.dirties, VmOp.acts]
  · have hfit' : (u.vm.noted f.method.cls x.catchType (.cls c)).assignable cell.cls c = false := by rw [hal.assignable]; simpa using hfit
    simp [findHandler.go, hx, h0, ha, ht, hcell, hobj, hk1', hk2', hfit', hfit, VmOp.dirties, VmOp.acts]
/-- the whole search: rows that are passed, then one that takes it -/
theorem xf_search {e : Env} {s : State} {f : JFrame} {a : Addr} {cell : Cell} {x : ExceptionTableEntry} {suf : List ExceptionTableEntry} {c4 : ClassId} (hobj : cell.vm.isStatics = false) (hk : ∃ k, s.vm.classes[cell.cls]? = some k)
    (hx : covers x f.pc = true) (h0 : x.catchType ≠ 0) (hl4 : s.vm.ClassLinks e.platform f.method.cls x.catchType c4) (hasg : s.vm.assignable cell.cls c4 = true) :
    ∀ (pre : List ExceptionTableEntry), (∀ z ∈ pre, covers z f.pc = false ∨ (z.catchType ≠ 0 ∧ ∃ c6, s.vm.ClassLinks e.platform f.method.cls z.catchType c6 ∧ s.vm.assignable cell.cls c6 = false)) →
    ∀ u : State, u.heap[a]? = some cell → s.WarmedH u.vm → ∃ vm', s.WarmedH vm' ∧ ∀ (Q : Handler → Pre) (E : CtlPost) (d : Bool) (acts : List Action), wp (findHandler.go f a (pre ++ x :: suf)) Q E e d acts u ↔ Q (.found x.handlerPc) d acts (u.setVm vm') := by
  have look : ∀ (z : ExceptionTableEntry) (c : ClassId) (u : State), s.vm.ClassLinks e.platform f.method.cls z.catchType c → s.WarmedH u.vm → u.vm.ClassLinks e.platform f.method.cls z.catchType c ∧ s.WarmedH (u.vm.noted f.method.cls z.catchType (.cls c)) ∧ (∃ k, u.vm.classes[cell.cls]? = some k) ∧ (∃ k, u.vm.classes[c]? = some k) := by
    intro z c u hl hW
    obtain ⟨dk, _, _, kt, hd, _, _, _, _, hkt, _, hopen⟩ := hl.here
    obtain ⟨k1, hk1⟩ := hk
    obtain ⟨k1', hk1', -⟩ := hW.alike.2.2 _ _ hk1
    obtain ⟨k2', hk2', -⟩ := hW.alike.2.2 _ _ hkt
    exact ⟨hW.classLinks hl, hW.noted hd hopen (State.rightAt_cls hl), ⟨k1', hk1'⟩, ⟨k2', hk2'⟩⟩
  intro pre
  induction pre with
  | nil =>
    intro _ u hcell hW
    obtain ⟨q1, q2, q3, q4⟩ := look x c4 u hl4 hW
    refine ⟨_, q2, fun Q E d acts => ?_⟩
    rw [List.nil_append, xf_link hx h0 q1 hcell (VmData.ne_statics_of hobj) q3 q4, if_pos (by rw [hW.alike.assignable]; exact hasg)]
  | cons y ys ih =>
    intro hp u hcell hW
    have hp' := fun z hz => hp z (List.mem_cons_of_mem _ hz)
    cases hcv : covers y f.pc with
    | false =>
      obtain ⟨vm', w1, w2⟩ := ih hp' u hcell hW
      exact ⟨vm', w1, fun Q E d acts => by rw [List.cons_append, W.findHandler_go_skip hcv]; exact w2 Q E d acts⟩
    | true =>
      rcases hp y List.mem_cons_self with hn | ⟨hy0, c6, hl6, hn6⟩
      · rw [hcv] at hn; cases hn
      · obtain ⟨q1, q2, q3, q4⟩ := look y c6 u hl6 hW
        obtain ⟨vm', w1, w2⟩ := ih hp' (u.setVm (u.vm.noted f.method.cls y.catchType (.cls c6))) hcell q2
        refine ⟨vm', w1, fun Q E d acts => ?_⟩
        rw [List.cons_append, xf_link hcv hy0 q1 hcell (VmData.ne_statics_of hobj) q3 q4, if_neg (by rw [hW.alike.assignable, hn6]; decide), w2, State.setVm_twice]
theorem xf_through {p : Program} {l : Launch} {e : Env} {R : Room} {s : State} {m : MethodId} {args : Array Value} {below : List Frame} {meth : Method} {c : Code} {T : State} {locs : List Loc} {cells slots : Nat}
    (X : Stand p l e R s m args below meth c T locs cells slots) (q : Addr) {g : JFrame} (hg : g.method = m) {cell : Cell} (hcell : T.heap[q]? = some cell) (hobj : cell.vm.isStatics = false) (hk : ∃ k, s.vm.classes[cell.cls]? = some k)
    (pre : List ExceptionTableEntry) (x : ExceptionTableEntry) (suf : List ExceptionTableEntry) (hsplit : c.exceptionTable.toList = pre ++ x :: suf)
    (hpass : ∀ z ∈ pre, covers z g.pc = false ∨ (z.catchType ≠ 0 ∧ ∃ c6, s.vm.ClassLinks e.platform m.cls z.catchType c6 ∧ s.vm.assignable cell.cls c6 = false)) (hx : covers x g.pc = true) (h0 : x.catchType ≠ 0)
    {c4 : ClassId} (hl4 : s.vm.ClassLinks e.platform m.cls x.catchType c4) (hasg : s.vm.assignable cell.cls c4 = true) :
    ∃ vm', Stand p l e R s m args below meth c (T.setVm vm') locs cells slots ∧
      ∀ target, Steps p.tables e below ((T.setVm vm').setTop { g with pc := x.handlerPc, stack := [.ref q] }) target → Steps p.tables e below ((T.setTop g).pushFrame (.throwing q)) target := by
  subst hg
  obtain ⟨vm', w1, w2⟩ := xf_search (e := e) (s := s) (f := g) (a := q) (suf := suf) hobj hk hx h0 hl4 hasg pre hpass ((T.setTop g).pushFrame (.throwing q)) (by rw [Stand.throwing_heap]; exact hcell) (by rw [Stand.throwing_vm]; exact X.warmed)
  refine ⟨vm', X.noted w1, fun target hrest => ?_⟩
  obtain ⟨hgo, hw⟩ := X.here.throwing q
  refine Steps.head hgo hw ?_
  have hm : ((T.setTop g).pushFrame (.throwing q)).vm.method? g.method = some meth := by rw [Stand.throwing_vm]; exact X.method'
  have hF : ∀ (Q : Handler → Pre) (E : CtlPost) (d : Bool) (acts : List Action), wp (findHandler g q) Q E e d acts ((T.setTop g).pushFrame (.throwing q)) ↔ Q (.found x.handlerPc) d acts (((T.setTop g).pushFrame (.throwing q)).setVm vm') := fun Q E d acts => by rw [W.findHandler_eq hm X.code, hsplit]; exact w2 Q E d acts
  have hstep : (stepThrowing e ((T.setTop g).pushFrame (.throwing q)) q (.java g :: T.frames.tail)).Is ((((T.setTop g).pushFrame (.throwing q)).setVm vm').setFrames (.java { g with pc := x.handlerPc, stack := [.ref q] } :: T.frames.tail)) [] := by
    simp only [stepThrowing, searchFrame, vmDo]
    generalize hr : Sem.go _ e false [] ((T.setTop g).pushFrame (.throwing q)) = res
    obtain ⟨as, rfl, ha⟩ := Sem.eq_ok_of hr (a := Handler.found x.handlerPc) (s' := ((T.setTop g).pushFrame (.throwing q)).setVm vm') (acts' := []) (by simp [hF _ _ _ _])
    exact ⟨rfl, ha⟩
  rw [stepThread_throwing (frames_entered X.here.top _), hstep.1]
  obtain ⟨g₀, hg0⟩ := Option.isSome_iff_exists.mp X.here.top
  obtain ⟨r, hr⟩ := State.topJava?_eq_some.mp hg0
  have hr' : (T.setVm vm').frames = .java g₀ :: r := hr
  have e1 : ∀ (U : State) (F G : List Frame), ((U.setFrames F).setVm vm').setFrames G = (U.setVm vm').setFrames G := by
    intro U F G
    have h1 : (U.setFrames F).setVm vm' = (U.setVm vm').setFrames F := rfl
    rw [h1, State.setFrames_setFrames]
  rw [State.setTop_of_frames _ hr'] at hrest
  rw [hr, List.tail_cons, State.pushFrame, e1, State.setTop_of_frames _ hr, e1]
  exact hrest
end XF
end
section
/-! ===== BEGIN words of one list among another's, by their places ===== -/
theorem goodIn_r {big : List Cond} (ws : List Cond) (ps : List Nat) (hp : ws = ps.filterMap (fun i => big[i]?)) (h : ws.all goodWord = true) : GoodIn big ws := by
  intro w hw
  have h1 := List.all_eq_true.mp h w hw
  rw [hp] at hw
  obtain ⟨i, -, hi⟩ := List.mem_filterMap.mp hw
  have hm : w ∈ big := by first | exact List.mem_of_getElem? hi | exact List.getElem?_mem hi
  exact ⟨hm, good_of_word h1⟩
theorem goodIn_app {big a b : List Cond} (ha : GoodIn big a) (hb : GoodIn big b) : GoodIn big (a ++ b) := fun w h => (List.mem_append.mp h).elim (ha w) (hb w)
theorem goodIn_ca {big a b : List Cond} {c : Cond} (ha : GoodIn big (c :: a)) (hb : GoodIn big b) : GoodIn big (c :: (a ++ b)) := fun w h => (List.mem_cons.mp h).elim (fun e => ha w (List.mem_cons.mpr (Or.inl e))) (fun h => (List.mem_append.mp h).elim (fun h => ha w (List.mem_cons.mpr (Or.inr h))) (hb w))
theorem goodIn_sub {big ws : List Cond} (hm : ∀ w ∈ ws, w ∈ big) (h : ws.all goodWord = true) : GoodIn big ws := fun w hw => ⟨hm w hw, good_of_word (List.all_eq_true.mp h w hw)⟩
/-! ===== END ===== -/

/-! ===== BEGIN exceptions that leave a method, and their catching by the caller (launches without stack traces) ===== -/
section VXA
/-! The laws vx_back, vx_callV, vx_callS, vx_callSW, vx_throw0, vx_throwS follow proofs of the library, with one case more: JvmDerived/Free/Laws.lean (Back.of_free), Shelf42/LK1.lean (callV, callS), Shelf/KitTraced.lean (throwNew0V, throwNewS). -/
/-- where a method has thrown q: the class by its name, the cell, what was written, the world -/
def vx_T (XC : String → State → State → Prop) (st : State) (q : Addr) (t : State) (mc ms : Nat) (free : Addr → Prop) : Prop :=
  ∃ (E : String) (ce : Cell) (L : List Loc), XC E st t ∧ t.heap[q]? = some ce ∧ ce.vm = .none ∧ st.vm.findClass E = some ce.cls ∧ st.WarmedH t.vm ∧ st.sameButNew ({ t with vm := st.vm } : State) L mc ms ∧ ∀ z ∈ L, free z.base
def vx_Q (Qc : Array Value → State → Outcome → State → Prop) (XC : String → State → State → Prop) (mc ms : Nat) (free : Addr → Prop) : Array Value → State → Outcome → State → Prop := fun a st o t =>
  (Qc a st o t ∧ ∃ L, FrameEnd st o t L mc ms ∧ ∀ q ∈ L, free q.base) ∨ ∃ q, o = .threw q ∧ vx_T XC st q t mc ms free
/-- a callee that returns or throws -/
def vx_Met (l : Launch) (y : MethodName) (ws : List Cond) (rm : Room) (Pc : Array Value → State → Prop) (Qc : Array Value → State → Outcome → State → Prop) (XC : String → State → State → Prop) (mc ms : Nat) (free : Addr → Prop) : Prop :=
  MetFree l y (headSpec ws rm) Pc (fun _ _ _ _ _ => True) (vx_Q Qc XC mc ms free)
def vx_Post (XC : String → State → State → Prop) (mc ms : Nat) (free : Addr → Prop) : Pt → Array Value → Addr → Pt → Prop := fun A a q B =>
  ∃ (g : JFrame) (mk : MethodId) (t : State) (L : List Loc) (E : String) (ce : Cell), B.U.heap = t.heap ∧ B.U.vm = t.vm ∧ XC E (A.U.calling g mk a) t ∧ t.heap[q]? = some ce ∧ ce.vm = .none ∧ A.U.vm.findClass E = some ce.cls ∧ B.locs = A.locs ++ L ∧ (∀ z ∈ L, free z.base) ∧ B.cells = A.cells + mc ∧ B.slots = A.slots + ms
def vx_Back (l : Launch) (R : Room) (p : Program) (e : Env) (below : List Frame) (s : State) (sargs : Array Value) (y : MethodName) (len W9 : Nat)
    (Pre : Pt → Array Value → Prop) (Post : Pt → Array Value → Option Value → Pt → Prop) (PostX : Pt → Array Value → Addr → Pt → Prop) : Prop :=
  ∀ (m : MethodId) (meth : Method) (c : Code) (A : Pt) (g : JFrame) (ig : Instr) (mk : MethodId) (a : Array Value),
    Stand p l e R s m sargs below meth c A.U A.locs A.cells A.slots → g.method = m → g.locals.size = c.maxLocals → decode c.code g.pc = .ok (ig, len) →
    2 * g.monitorRoom + (g.stack.map fun v => v.category).sum ≤ W9 → A.U.methodNamed? y = some mk → Pre A a →
    (∃ (v : Option Value) (B : Pt), Stand p l e R s m sargs below meth c B.U B.locs B.cells B.slots ∧ Post A a v B ∧
      Steps p.tables e below (doInvoke e (A.U.setTop g) [] mk a).1 (B.U.setTop { g with pc := g.pc + len, stack := v.toList ++ g.stack })) ∨
    (∃ (q : Addr) (B : Pt), Stand p l e R s m sargs below meth c B.U B.locs B.cells B.slots ∧ PostX A a q B ∧
      Steps p.tables e below (doInvoke e (A.U.setTop g) [] mk a).1 ((B.U.setTop g).pushFrame (.throwing q)))
section Payer
variable {l : Launch} {R : Room} {p : Program} {e : Env} {below : List Frame} {s : State} {sargs : Array Value} {y : MethodName} {len W9 : Nat}
theorem vx_back {ws : List Cond} {rm : Room} {Pc : Array Value → State → Prop} {Qc : Array Value → State → Outcome → State → Prop} {XC : String → State → State → Prop} {mc ms : Nat} {free : Addr → Prop} {bytes : ByteArray} {maxL : Nat} {ret : Option FieldType}
    (hM : vx_Met l y ws rm Pc Qc XC mc ms free) (hblind : FrameBlind Pc) (hrc : rm.cells = mc) (hrs : rm.slots = ms)
    (hframes : rm.frames + 1 ≤ R.frames) (hlocals : W9 + (maxL + 11) + rm.locals ≤ R.locals)
    (hws : ∀ w ∈ ws, ∀ a' U, s.WarmedH U.vm → w.before a' U = true) (hcode : Cond.code y bytes maxL ret ∈ ws) (hinit : ∀ a' U, s.WarmedH U.vm → (Cond.initialized y.cls).before a' U = true) :
    vx_Back l R p e below s sargs y len W9 (PreOf R mc ms Pc) (PostOf Qc mc ms free) (vx_Post XC mc ms free) := by
  intro m meth c A g ig mk a X hg hsize hdg hW hn hp
  have h1 : (headSpec ws rm).pre.before a A.U = true := atoms_intro fun w hw => hws w hw _ _ X.warmed
  have h2 : (Cond.code y bytes maxL ret).before a A.U = true := hws _ hcode _ _ X.warmed
  have h3 : (Cond.initialized y.cls).before a A.U = true := hinit _ _ X.warmed
  have h4 : A.cells + (headSpec ws rm).room.cells ≤ R.cells := by rw [show (headSpec ws rm).room.cells = mc from hrc]; exact hp.1
  have h5 : A.slots + (headSpec ws rm).room.slots ≤ R.slots := by rw [show (headSpec ws rm).room.slots = ms from hrs]; exact hp.2.1
  have hPc : Pc a (A.U.calling g mk a) := hblind _ _ _ _ hp.2.2
  obtain ⟨U, Ls, c0, s0⟩ := A
  dsimp only [Pt.U, Pt.locs, Pt.cells, Pt.slots] at h1 h2 h3 h4 h5 X hn hPc ⊢
  obtain ⟨methY, cY, hmY, hcY, -, hlY, -, -, -, -⟩ := Cond.code_spec hn h2
  obtain ⟨kY, hkY, -⟩ := className_of_methodNamed hn
  have hinitY : kY.init = .initialized := Cond.initialized_spec (findClass_of_methodNamed hn) hkY h3
  have h : At U g.method c below := by rw [hg]; exact X.here
  have hlocals9 : W9 + (maxL + 11) + (headSpec ws rm).room.locals ≤ R.locals := hlocals
  have happ : (headSpec ws rm).appliesLoose y e.platform (U.calling g mk a) = true :=
    Spec.appliesLoose_calling (g := g) h hdg hn hkY hinitY
      (X.room_calling (g := g) (R' := (headSpec ws rm).room) hsize hmY hcY hframes (by rw [hlY]; omega) h4 h5) h1
  obtain ⟨mid, hmid⟩ := h.above
  have hfr : (U.setTop g).frames = (.java g :: mid) ++ below := by rw [State.frames_setTop' g h.top, hmid]; rfl
  obtain ⟨o, s₂, hsteps, -, hend, hq⟩ := Steps.callFree hM p X.admits X.cas X.clock (acts := []) hfr happ hPc trivial
  have hq' : vx_Q Qc XC mc ms free a (U.calling g mk a) o s₂ := hq
  rw [State.frames_setTop' g h.top] at hend
  obtain ⟨g₀, hg0⟩ := Option.isSome_iff_exists.mp h.top
  obtain ⟨r, hr⟩ := State.topJava?_eq_some.mp hg0
  have hr' : (({ U with heap := s₂.heap, slotsUsed := s₂.slotsUsed } : State).setVm s₂.vm).frames = .java g₀ :: r := hr
  rcases hq' with ⟨hqc, L, hfe, hL⟩ | ⟨q, rfl, E, ce, L, hx, hce, hcv, hcl, hW₂, hsm, hL⟩
  · obtain ⟨⟨v, rfl⟩, hW₂, e2, q2, q3, q4, q5, q6⟩ := id hfe
    have e3 : s₂ = ({ (U.calling g mk a).setFrames s₂.frames with heap := s₂.heap, slotsUsed := s₂.slotsUsed } : State).setVm s₂.vm := by
      have : s₂ = ({ s₂ with vm := (U.calling g mk a).vm } : State).setVm s₂.vm := rfl
      rw [e2] at this
      exact this
    obtain ⟨c₂, i₂, len₂, hc₂, hd₂, hf₂⟩ := hend
    have hW' : U.WarmedH s₂.vm := hW₂
    have hcc : c₂ = c := by
      have h1 : s₂.code? g.method = U.code? g.method := by
        rw [State.code?_eq, State.code?_eq, hW'.alike.method?]
      exact Option.some.inj (hc₂.symm.trans (h1.trans h.code))
    subst hcc
    have hlen : len₂ = len := by rw [hdg] at hd₂; cases hd₂; rfl
    subst hlen
    have hs₂ : s₂ = (({ U with heap := s₂.heap, slotsUsed := s₂.slotsUsed } : State).setVm s₂.vm).setTop { g with pc := g.pc + len₂, stack := v.toList ++ g.stack } := by
      refine e3.trans ?_
      rw [hf₂, State.calling_eq h.top, State.setFrames_setFrames, State.setTop_of_frames _ hr', hr]
      rfl
    have hsame : U.sameButNew ({ U with heap := s₂.heap, slotsUsed := s₂.slotsUsed } : State) L mc ms := by
      refine ⟨?_, q2, q3, q4, q5, q6⟩
      obtain ⟨t, ht, -⟩ := State.frames_cons hr
      show ({ U with heap := s₂.heap, slotsUsed := s₂.slotsUsed } : State) = { U.setFrames U.frames with heap := s₂.heap, slotsUsed := s₂.slotsUsed }
      rw [State.setFrames_self ht]
    subst hg
    refine Or.inl ⟨v, ⟨(({ U with heap := s₂.heap, slotsUsed := s₂.slotsUsed } : State).setVm s₂.vm), Ls ++ L, c0 + mc, s0 + ms⟩,
      ⟨X.admits, X.cas, X.clock, X.frames, X.room, X.hears, X.method, X.code, (X.here.setHeapUsed s₂.heap s₂.slotsUsed).setVm hW'.alike, X.tail, State.WarmedH.trans X.warmed hW', X.limits, X.bytes, X.same.trans (hsame.setVm s.vm)⟩,
      ⟨g, mk, s₂, L, rfl, rfl, hqc, rfl, hL, rfl, rfl⟩, ?_⟩
    show Steps p.tables e below _ ((({ U with heap := s₂.heap, slotsUsed := s₂.slotsUsed } : State).setVm s₂.vm).setTop { g with pc := g.pc + len₂, stack := v.toList ++ g.stack })
    rw [← hs₂]
    exact hsteps
  · obtain ⟨e2, q2, q3, q4, q5, q6⟩ := id hsm
    have e3 : s₂ = ({ (U.calling g mk a).setFrames s₂.frames with heap := s₂.heap, slotsUsed := s₂.slotsUsed } : State).setVm s₂.vm := by
      have : s₂ = ({ s₂ with vm := (U.calling g mk a).vm } : State).setVm s₂.vm := rfl
      rw [e2] at this
      exact this
    have hf₂ : s₂.frames = .throwing q :: .java g :: U.frames.tail := hend
    have hW' : U.WarmedH s₂.vm := hW₂
    have hs₂ : s₂ = ((({ U with heap := s₂.heap, slotsUsed := s₂.slotsUsed } : State).setVm s₂.vm).setTop g).pushFrame (.throwing q) := by
      refine e3.trans ?_
      rw [hf₂, State.calling_eq h.top, State.setFrames_setFrames, State.pushFrame, State.frames_setTop _ hr', State.setTop_of_frames _ hr', State.setFrames_setFrames, hr]
      rfl
    have hsame : U.sameButNew ({ U with heap := s₂.heap, slotsUsed := s₂.slotsUsed } : State) L mc ms := by
      refine ⟨?_, q2, q3, q4, q5, q6⟩
      obtain ⟨t, ht, -⟩ := State.frames_cons hr
      show ({ U with heap := s₂.heap, slotsUsed := s₂.slotsUsed } : State) = { U.setFrames U.frames with heap := s₂.heap, slotsUsed := s₂.slotsUsed }
      rw [State.setFrames_self ht]
    subst hg
    refine Or.inr ⟨q, ⟨(({ U with heap := s₂.heap, slotsUsed := s₂.slotsUsed } : State).setVm s₂.vm), Ls ++ L, c0 + mc, s0 + ms⟩,
      ⟨X.admits, X.cas, X.clock, X.frames, X.room, X.hears, X.method, X.code, (X.here.setHeapUsed s₂.heap s₂.slotsUsed).setVm hW'.alike, X.tail, State.WarmedH.trans X.warmed hW', X.limits, X.bytes, X.same.trans (hsame.setVm s.vm)⟩,
      ⟨g, mk, s₂, L, E, ce, rfl, rfl, hx, hce, hcv, hcl, rfl, hL, rfl, rfl⟩, ?_⟩
    show Steps p.tables e below _ (((({ U with heap := s₂.heap, slotsUsed := s₂.slotsUsed } : State).setVm s₂.vm).setTop g).pushFrame (.throwing q))
    rw [← hs₂]
    exact hsteps
end Payer
section Calls
variable {p : Program} {l : Launch} {e : Env} {R : Room} {s : State} {m : MethodId} {args : Array Value} {below : List Frame} {meth : Method} {c : Code} {T : State} {locs : List Loc} {cells slots : Nat}
theorem vx_callV (X : Stand p l e R s m args below meth c T locs cells slots) (hexec : p.tables.exec = Jvm.exec) {own C : String} {index : Nat} {y : MethodName} {bytes : ByteArray} {maxL : Nat} {ret : Option FieldType}
    (hown : s.vm.findClass own = some m.cls) (hlink : (Cond.methodLink own index y).before args s = true) (hinst : (Cond.instanceMethod y).before args s = true) (hsel : (Cond.selects C y y).before args s = true)
    (hcode : (Cond.code y bytes maxL ret).before args s = true) (hy : y.cls ≠ "java/lang/invoke/MethodHandle" ∧ y.cls ≠ "java/lang/invoke/VarHandle")
    {W9 : Nat} {Pre : Pt → Array Value → Prop} {Post : Pt → Array Value → Option Value → Pt → Prop} {PostX : Pt → Array Value → Addr → Pt → Prop} (hK : vx_Back l R p e below s args y 3 W9 Pre Post PostX)
    {b : Addr} {cellB : Cell} (hcell : T.heap[b]? = some cellB) (hobj : cellB.vm.isStatics = false) (hcls : s.vm.findClass C = some cellB.cls)
    {g : JFrame} (hg : g.method = m) (hsize : g.locals.size = c.maxLocals) {argsL rest : List Value} (hlen : ∀ sig, parseMethodDescriptor y.desc = some sig → argsL.length = sig.parameters.length)
    (hstack : g.stack = argsL.reverse ++ .ref b :: rest) (hW : 2 * g.monitorRoom + (rest.map fun v => v.category).sum ≤ W9) (hdg : decode c.code g.pc = .ok (.invokevirtual index, 3))
    (hpre : ∀ vm₁, s.WarmedH vm₁ → Pre ⟨T.setVm vm₁, locs, cells, slots⟩ (Value.ref b :: argsL).toArray) :
    (∃ (v : Option Value) (vm₁ : Vm) (B : Pt), s.WarmedH vm₁ ∧ Stand p l e R s m args below meth c B.U B.locs B.cells B.slots ∧ Post ⟨T.setVm vm₁, locs, cells, slots⟩ (Value.ref b :: argsL).toArray v B ∧
      ∀ target, Steps p.tables e below (B.U.setTop { g with pc := g.pc + 3, stack := v.toList ++ rest }) target → Steps p.tables e below (T.setTop g) target) ∨
    (∃ (q : Addr) (vm₁ : Vm) (B : Pt), s.WarmedH vm₁ ∧ Stand p l e R s m args below meth c B.U B.locs B.cells B.slots ∧ PostX ⟨T.setVm vm₁, locs, cells, slots⟩ (Value.ref b :: argsL).toArray q B ∧
      Steps p.tables e below (T.setTop g) ((B.U.setTop { g with stack := rest }).pushFrame (.throwing q))) := by
  obtain ⟨mk, methM, hnamed, hmethM, hstM, habM⟩ := Cond.instanceMethod_spec hinst
  obtain ⟨methM', cM, hmethM', -, -, -, -, -, -, hsigM⟩ := Cond.code_spec hnamed hcode
  cases hmethM.symm.trans hmethM'
  obtain ⟨c2, r2, m2, q1, q2, q3, q4, kP, hkP, hkPi⟩ := Cond.selects_spec hsel
  cases hcls.symm.trans q1
  cases (State.methodFound?_of_named hnamed hy).symm.trans q2
  cases hnamed.symm.trans q3
  have hselP : selectMethod e.platform s.vm cellB.cls mk = .method mk := by rw [Launch.admits_selectMethod X.admits]; exact q4
  obtain ⟨vm₁, X₁, hstep₁⟩ := X.invokevirtual hexec hown hlink hnamed hmethM hstM hkP hkPi hy (a := b) (cell := cellB) hcell
    (fun z h => by rw [h] at hobj; cases hobj) hselP hmethM habM hkP hkPi (g := g) hg (argsL := argsL) (rest := rest) (hlen _ hsigM) hstack hdg
  rcases hK m meth c ⟨T.setVm vm₁, locs, cells, slots⟩ { g with stack := rest } (.invokevirtual index) mk (Value.ref b :: argsL).toArray X₁ hg hsize hdg hW (X₁.named hnamed) (hpre vm₁ X₁.warmed) with ⟨v, B, X', hpost, hsteps⟩ | ⟨q, B, X', hpost, hsteps⟩
  · exact Or.inl ⟨v, vm₁, B, X₁.warmed, X', hpost, fun target h => hstep₁ _ fun acts => by rw [doInvoke_state]; exact hsteps.trans h⟩
  · exact Or.inr ⟨q, vm₁, B, X₁.warmed, X', hpost, hstep₁ _ fun acts => by rw [doInvoke_state]; exact hsteps⟩
theorem vx_callS (X : Stand p l e R s m args below meth c T locs cells slots) (hexec : p.tables.exec = Jvm.exec) {own : String} {index : Nat} {y : MethodName} {bytes : ByteArray} {maxL : Nat} {ret : Option FieldType}
    (hown : s.vm.findClass own = some m.cls) (hlink : (Cond.methodLink own index y).before args s = true) (hstat : (Cond.static y).before args s = true) (hinit : (Cond.initialized y.cls).before args s = true)
    (hcode : (Cond.code y bytes maxL ret).before args s = true) (hy : y.cls ≠ "java/lang/invoke/MethodHandle" ∧ y.cls ≠ "java/lang/invoke/VarHandle")
    {W9 : Nat} {Pre : Pt → Array Value → Prop} {Post : Pt → Array Value → Option Value → Pt → Prop} {PostX : Pt → Array Value → Addr → Pt → Prop} (hK : vx_Back l R p e below s args y 3 W9 Pre Post PostX)
    {g : JFrame} (hg : g.method = m) (hsize : g.locals.size = c.maxLocals) {argsL rest : List Value} (hlen : ∀ sig, parseMethodDescriptor y.desc = some sig → argsL.length = sig.parameters.length)
    (hstack : g.stack = argsL.reverse ++ rest) (hW : 2 * g.monitorRoom + (rest.map fun v => v.category).sum ≤ W9) (hdg : decode c.code g.pc = .ok (.invokestatic index, 3))
    (hpre : ∀ vm₁, s.WarmedH vm₁ → Pre ⟨T.setVm vm₁, locs, cells, slots⟩ argsL.toArray) :
    (∃ (v : Option Value) (vm₁ : Vm) (B : Pt), s.WarmedH vm₁ ∧ Stand p l e R s m args below meth c B.U B.locs B.cells B.slots ∧ Post ⟨T.setVm vm₁, locs, cells, slots⟩ argsL.toArray v B ∧
      ∀ target, Steps p.tables e below (B.U.setTop { g with pc := g.pc + 3, stack := v.toList ++ rest }) target → Steps p.tables e below (T.setTop g) target) ∨
    (∃ (q : Addr) (vm₁ : Vm) (B : Pt), s.WarmedH vm₁ ∧ Stand p l e R s m args below meth c B.U B.locs B.cells B.slots ∧ PostX ⟨T.setVm vm₁, locs, cells, slots⟩ argsL.toArray q B ∧
      Steps p.tables e below (T.setTop g) ((B.U.setTop { g with stack := rest }).pushFrame (.throwing q))) := by
  obtain ⟨mk, hnamed⟩ := Cond.code_named hcode
  obtain ⟨methM, cM, hmethM, -, -, -, -, -, -, hsigM⟩ := Cond.code_spec hnamed hcode
  have hstatic : methM.isStatic = true := Cond.static_spec hnamed hmethM hstat
  obtain ⟨kP, hkP, -⟩ := className_of_methodNamed hnamed
  have hinitP : kP.init = .initialized := Cond.initialized_spec (findClass_of_methodNamed hnamed) hkP hinit
  obtain ⟨vm₁, X₁, hstep₁⟩ := X.invokestatic hexec hown hlink hnamed hmethM hstatic hkP hinitP hy (g := g) hg (argsL := argsL) (rest := rest) (hlen _ hsigM) hstack hdg
  rcases hK m meth c ⟨T.setVm vm₁, locs, cells, slots⟩ { g with stack := rest } (.invokestatic index) mk argsL.toArray X₁ hg hsize hdg hW (X₁.named hnamed) (hpre vm₁ X₁.warmed) with ⟨v, B, X', hpost, hsteps⟩ | ⟨q, B, X', hpost, hsteps⟩
  · exact Or.inl ⟨v, vm₁, B, X₁.warmed, X', hpost, fun target h => hstep₁ _ fun acts => by rw [doInvoke_state]; exact hsteps.trans h⟩
  · exact Or.inr ⟨q, vm₁, B, X₁.warmed, X', hpost, hstep₁ _ fun acts => by rw [doInvoke_state]; exact hsteps⟩
end Calls
theorem vx_cls {s : State} {T : State} {vm₁ : Vm} {E : String} {k : ClassId} (hW : s.WarmedH vm₁) (h : (T.setVm vm₁).vm.findClass E = some k) : s.vm.findClass E = some k := by
  have h1 : vm₁.findClass E = some k := h
  rw [hW.alike.findClass] at h1
  exact h1
/-- the method's frame g, with q thrown over it -/
def vx_W (p : Program) (l : Launch) (e : Env) (R : Room) (s : State) (m : MethodId) (args : Array Value) (below : List Frame) (meth : Method) (c : Code) (H : Heap) (locs : List Loc) (cells slots : Nat) (Q : State → Prop) (g : JFrame) (q : Addr) : Prop :=
  ∀ T : State, T.heap = H → Stand p l e R s m args below meth c T locs cells slots → ∃ t, Steps p.tables e below ((T.setTop g).pushFrame (.throwing q)) t ∧ Q t
def vx_Run (p : Program) (l : Launch) (e : Env) (R : Room) (s : State) (m : MethodId) (args : Array Value) (below : List Frame) (meth : Method) (c : Code) (H : Heap) (locs : List Loc) (cells slots mc ms : Nat) (g : JFrame) (rest : List Value) (Qa : State → Outcome → State → Prop) (XC : String → State → State → Prop) (free : Addr → Prop) : Prop :=
  ∀ T : State, T.heap = H → Stand p l e R s m args below meth c T locs cells slots →
    (∃ (v : Option Value) (st₀ t T' : State) (L : List Loc), st₀.heap = H ∧ Stand p l e R s m args below meth c T' (locs ++ L) (cells + mc) (slots + ms) ∧ (∀ q ∈ L, free q.base) ∧ T'.heap = t.heap ∧ T'.vm = t.vm ∧ Qa st₀ (.returned v) t ∧
      Goes p e below T g T' { g with pc := g.pc + 3, stack := v.toList ++ rest }) ∨
    (∃ (q : Addr) (st₀ t T' : State) (L : List Loc) (E : String) (ce : Cell), st₀.heap = H ∧ Stand p l e R s m args below meth c T' (locs ++ L) (cells + mc) (slots + ms) ∧ (∀ z ∈ L, free z.base) ∧ T'.heap = t.heap ∧ T'.vm = t.vm ∧ XC E st₀ t ∧ t.heap[q]? = some ce ∧ ce.vm = .none ∧ s.vm.findClass E = some ce.cls ∧
      Steps p.tables e below (T.setTop g) ((T'.setTop { g with stack := rest }).pushFrame (.throwing q)))
def vx_X {S : Type} (px : S → Prop) (B : String → S → State → Prop) (A : Nat → Prop) : String → State → State → Prop := fun E st t => ∃ u : S, px u ∧ B E u t ∧ va_F A st t
section Runs
variable {p : Program} {l : Launch} {e : Env} {R : Room} {s : State} {m : MethodId} {args : Array Value} {below : List Frame} {meth : Method} {c : Code} {H : Heap} {locs : List Loc} {cells slots : Nat}
variable {y : MethodName} {bytes cc : ByteArray} {maxL nL mc ms n index : Nat} {ret : Option FieldType} {ws : List Cond} {rm : Room} {Pc : Array Value → State → Prop} {Qc : Array Value → State → Outcome → State → Prop} {XC : String → State → State → Prop} {free : Addr → Prop} {Ts : List Cond} {own C : String} {b : Addr} {As rest : List Value} {g : JFrame}
theorem vx_callBack (cb : CallB R s args own index y bytes maxL ret ws rm mc ms n) (hM : vx_Met l y ws rm Pc Qc XC mc ms free) (hbl : FrameBlind Pc) : vx_Back l R p e below s args y 3 8 (PreOf R mc ms Pc) (PostOf Qc mc ms free) (vx_Post XC mc ms free) := by
  obtain ⟨hrc, hrs, hfr, hlo, hws, hcw, -, hini, -⟩ := cb
  exact vx_back (bytes := bytes) (maxL := maxL) (ret := ret) hM hbl hrc hrs hfr hlo hws hcw (fun a' U hW => word_at hW (Or.inl (by first | rfl | simp [Cond.onTables, Cond.keeps, Cond.steady])) hini)
theorem vx_runV (S : CallFix p m c cc nL s args Ts own) (hM : vx_Met l y ws rm Pc Qc XC mc ms free) (cw : CallW R s args own C index y bytes maxL ret ws rm mc ms n) (hp : PreV s H C b Pc As)
    (hg : g.method = m) (hn : As.length = n) (hsize : g.locals.size = nL) (hstack : g.stack = As.reverse ++ .ref b :: rest) (hW : 2 * g.monitorRoom + (rest.map fun v => v.category).sum ≤ 8) (hdg : decode cc g.pc = .ok (.invokevirtual index, 3)) (hf : cells + mc ≤ R.cells ∧ slots + ms ≤ R.slots) :
    vx_Run p l e R s m args below meth c H locs cells slots mc ms g rest (Qc (Value.ref b :: As).toArray) XC free := by
  have hK : vx_Back l R p e below s args y 3 8 (PreOf R mc ms Pc) (PostOf Qc mc ms free) (vx_Post XC mc ms free) := vx_callBack cw.1 hM hp.1
  obtain ⟨⟨-, -, -, -, -, -, hcode, -, hy, hlen, hl⟩, hin, hse⟩ := cw
  obtain ⟨hx, hb, hml, ho, -⟩ := S
  obtain ⟨-, ⟨cellB, hcB, hoB, hclB⟩, hPc⟩ := hp
  intro T hT X
  rcases vx_callV X hx (C := C) (bytes := bytes) (maxL := maxL) (ret := ret) ho hl hin hse hcode hy hK (by rw [hT]; exact hcB) hoB hclB hg (hsize.trans hml.symm) (argsL := As) (rest := rest) (fun sig h => hn.trans (hlen sig h)) hstack hW (by rw [hb]; exact hdg)
    (fun vm₁ hW₁ => ⟨hf.1, hf.2, hPc (T.setVm vm₁) hT hW₁⟩) with ⟨v, vm₁, ⟨U', l2, c2, s2⟩, hW₁, X', ⟨g', mk, t, L, e1, e2, hq, h1, hL, h2, h3⟩, st⟩ | ⟨q, vm₁, ⟨U', l2, c2, s2⟩, hW₁, X', ⟨g', mk, t, L, E, ce, e1, e2, hq, hce, hcv, hcl, h1, hL, h2, h3⟩, st⟩
  · dsimp only [Pt.U, Pt.locs, Pt.cells, Pt.slots] at X' e1 e2 h1 h2 h3 st
    subst h1; subst h2; subst h3
    exact Or.inl ⟨v, (T.setVm vm₁).calling g' mk (Value.ref b :: As).toArray, t, U', L, hT, X', hL, e1, e2, hq, st⟩
  · dsimp only [Pt.U, Pt.locs, Pt.cells, Pt.slots] at X' e1 e2 h1 h2 h3 st hcl
    subst h1; subst h2; subst h3
    exact Or.inr ⟨q, (T.setVm vm₁).calling g' mk (Value.ref b :: As).toArray, t, U', L, E, ce, hT, X', hL, e1, e2, hq, hce, hcv, vx_cls hW₁ hcl, st⟩
theorem vx_runS (S : CallFix p m c cc nL s args Ts own) (hM : vx_Met l y ws rm Pc Qc XC mc ms free) (cw : CallB R s args own index y bytes maxL ret ws rm mc ms n ∧ (Cond.static y).before args s = true) (hp : PreS s H Pc As)
    (hg : g.method = m) (hn : As.length = n) (hsize : g.locals.size = nL) (hstack : g.stack = As.reverse ++ rest) (hW : 2 * g.monitorRoom + (rest.map fun v => v.category).sum ≤ 8) (hdg : decode cc g.pc = .ok (.invokestatic index, 3)) (hf : cells + mc ≤ R.cells ∧ slots + ms ≤ R.slots) :
    vx_Run p l e R s m args below meth c H locs cells slots mc ms g rest (Qc As.toArray) XC free := by
  have hK : vx_Back l R p e below s args y 3 8 (PreOf R mc ms Pc) (PostOf Qc mc ms free) (vx_Post XC mc ms free) := vx_callBack cw.1 hM hp.1
  obtain ⟨⟨-, -, -, -, -, -, hcode, hini, hy, hlen, hl⟩, hstt⟩ := cw
  obtain ⟨hx, hb, hml, ho, -⟩ := S
  intro T hT X
  rcases vx_callS X hx (bytes := bytes) (maxL := maxL) (ret := ret) ho hl hstt hini hcode hy hK hg (hsize.trans hml.symm) (argsL := As) (rest := rest) (fun sig h => hn.trans (hlen sig h)) hstack hW (by rw [hb]; exact hdg)
    (fun vm₁ hW₁ => ⟨hf.1, hf.2, hp.2 (T.setVm vm₁) hT hW₁⟩) with ⟨v, vm₁, ⟨U', l2, c2, s2⟩, hW₁, X', ⟨g', mk, t, L, e1, e2, hq, h1, hL, h2, h3⟩, st⟩ | ⟨q, vm₁, ⟨U', l2, c2, s2⟩, hW₁, X', ⟨g', mk, t, L, E, ce, e1, e2, hq, hce, hcv, hcl, h1, hL, h2, h3⟩, st⟩
  · dsimp only [Pt.U, Pt.locs, Pt.cells, Pt.slots] at X' e1 e2 h1 h2 h3 st
    subst h1; subst h2; subst h3
    exact Or.inl ⟨v, (T.setVm vm₁).calling g' mk As.toArray, t, U', L, hT, X', hL, e1, e2, hq, st⟩
  · dsimp only [Pt.U, Pt.locs, Pt.cells, Pt.slots] at X' e1 e2 h1 h2 h3 st hcl
    subst h1; subst h2; subst h3
    exact Or.inr ⟨q, (T.setVm vm₁).calling g' mk As.toArray, t, U', L, E, ce, hT, X', hL, e1, e2, hq, hce, hcv, vx_cls hW₁ hcl, st⟩
end Runs
section Rows
variable {p : Program} {l : Launch} {e : Env} {R : Room} {s : State} {m : MethodId} {args : Array Value} {below : List Frame} {meth : Method} {c : Code} {H : Heap} {locs : List Loc} {cells slots : Nat} {Q : State → Prop}
variable {mc ms : Nat} {free : Addr → Prop} {A0 A1 : Nat → Prop} {H0 : Heap} {a : Array Value} {pc : Nat} {ls : Array Slot} {st0 rest : List Value}
theorem vx_keep {st₀ t T' : State} {L : List Loc} (h0 : st₀.heap = H) (e1 : T'.heap = t.heap) (hS : va_S A0 H0 H locs) (hA : ∀ q, q < H.size → A1 q → A0 q) (hf : ∀ q, free q → A0 q) (hL : ∀ q ∈ L, free q.base) (hF : va_F A1 st₀ t) :
    H.size ≤ T'.heap.size ∧ (∀ q : Nat, q < H.size → ¬ A1 q → T'.heap[q]? = H[q]?) ∧ va_S A0 H0 T'.heap (locs ++ L) := by
  obtain ⟨hz, hk⟩ := hF
  rw [h0] at hz hk
  exact ⟨by rw [e1]; exact hz, fun q h1 h2 => by rw [e1]; exact hk q h1 h2,
    ⟨Nat.le_trans hS.1 (by rw [e1]; exact hz), fun q h1 h2 => by rw [e1, hk q (Nat.lt_of_lt_of_le h1 hS.1) (fun z => h2 (hA q (Nat.lt_of_lt_of_le h1 hS.1) z))]; exact hS.2.1 q h1 h2, fun q hq => by
      rcases List.mem_append.mp hq with h | h
      · exact hS.2.2 q h
      · exact hf _ (hL q h)⟩⟩
theorem vx_calli {S SX : Type} {post : Int32 → S → Prop} {px : SX → Prop} {B : S → State → Prop} {BX : String → SX → State → Prop} {AX : Nat → Prop} (hr : vx_Run p l e R s m args below meth c H locs cells slots mc ms (F0 m pc ls st0) rest (va_Qi post B A1 a) (vx_X px BX AX) free) (hS : va_S A0 H0 H locs) (hA : ∀ q, q < H.size → A1 q → A0 q) (hf : ∀ q, free q → A0 q) (hAX : ∀ q, q < H.size → AX q → A0 q)
    (kx : ∀ (E : String) (ce : Cell) (q9 : Addr) (u : SX) (t : State) (H1 : Heap) (locs1 : List Loc), t.heap = H1 → s.vm.Alike t.vm → px u → BX E u t → H.size ≤ H1.size → (∀ q : Nat, q < H.size → ¬ AX q → H1[q]? = H[q]?) → va_S A0 H0 H1 locs1 → H1[q9]? = some ce → ce.vm = .none → s.vm.findClass E = some ce.cls → vx_W p l e R s m args below meth c H1 locs1 (cells + mc) (slots + ms) Q (F0 m pc ls rest) q9)
    (kk : ∀ (r : Int32) (u : S) (t : State) (H1 : Heap) (locs1 : List Loc), t.heap = H1 → s.vm.Alike t.vm → post r u → B u t → H.size ≤ H1.size → (∀ q : Nat, q < H.size → ¬ A1 q → H1[q]? = H[q]?) → va_S A0 H0 H1 locs1 → W p l e R s m args below meth c H1 locs1 (cells + mc) (slots + ms) Q (F0 m (pc + 3) ls (.int r :: rest))) : W p l e R s m args below meth c H locs cells slots Q (F0 m pc ls st0) := by
  intro T hT X
  rcases hr T hT X with ⟨v, st₀, t, T', L, h0, X', hL, e1, e2, ⟨⟨r, u, hv, hp, hb⟩, hF⟩, st⟩ | ⟨q, st₀, t, T', L, E, ce, h0, X', hL, e1, e2, ⟨u, hp, hb, hF⟩, hce, hcv, hcl, st⟩
  · cases hv
    obtain ⟨k1, k2, k3⟩ := vx_keep h0 e1 hS hA hf hL hF
    obtain ⟨t2, a1, b1⟩ := kk r u t T'.heap (locs ++ L) e1.symm (by rw [← e2]; exact X'.warmed.alike) hp hb k1 k2 k3 T' rfl X'
    exact ⟨t2, st t2 a1, b1⟩
  · obtain ⟨k1, k2, k3⟩ := vx_keep h0 e1 hS hAX hf hL hF
    obtain ⟨t2, a1, b1⟩ := kx E ce q u t T'.heap (locs ++ L) e1.symm (by rw [← e2]; exact X'.warmed.alike) hp hb k1 k2 k3 (by rw [e1]; exact hce) hcv hcl T' rfl X'
    exact ⟨t2, st.trans a1, b1⟩
theorem vx_calll {S SX : Type} {post : Int64 → S → Prop} {px : SX → Prop} {B : S → State → Prop} {BX : String → SX → State → Prop} {AX : Nat → Prop} (hr : vx_Run p l e R s m args below meth c H locs cells slots mc ms (F0 m pc ls st0) rest (va_Ql post B A1 a) (vx_X px BX AX) free) (hS : va_S A0 H0 H locs) (hA : ∀ q, q < H.size → A1 q → A0 q) (hf : ∀ q, free q → A0 q) (hAX : ∀ q, q < H.size → AX q → A0 q)
    (kx : ∀ (E : String) (ce : Cell) (q9 : Addr) (u : SX) (t : State) (H1 : Heap) (locs1 : List Loc), t.heap = H1 → s.vm.Alike t.vm → px u → BX E u t → H.size ≤ H1.size → (∀ q : Nat, q < H.size → ¬ AX q → H1[q]? = H[q]?) → va_S A0 H0 H1 locs1 → H1[q9]? = some ce → ce.vm = .none → s.vm.findClass E = some ce.cls → vx_W p l e R s m args below meth c H1 locs1 (cells + mc) (slots + ms) Q (F0 m pc ls rest) q9)
    (kk : ∀ (r : Int64) (u : S) (t : State) (H1 : Heap) (locs1 : List Loc), t.heap = H1 → s.vm.Alike t.vm → post r u → B u t → H.size ≤ H1.size → (∀ q : Nat, q < H.size → ¬ A1 q → H1[q]? = H[q]?) → va_S A0 H0 H1 locs1 → W p l e R s m args below meth c H1 locs1 (cells + mc) (slots + ms) Q (F0 m (pc + 3) ls (.long r :: rest))) : W p l e R s m args below meth c H locs cells slots Q (F0 m pc ls st0) := by
  intro T hT X
  rcases hr T hT X with ⟨v, st₀, t, T', L, h0, X', hL, e1, e2, ⟨⟨r, u, hv, hp, hb⟩, hF⟩, st⟩ | ⟨q, st₀, t, T', L, E, ce, h0, X', hL, e1, e2, ⟨u, hp, hb, hF⟩, hce, hcv, hcl, st⟩
  · cases hv
    obtain ⟨k1, k2, k3⟩ := vx_keep h0 e1 hS hA hf hL hF
    obtain ⟨t2, a1, b1⟩ := kk r u t T'.heap (locs ++ L) e1.symm (by rw [← e2]; exact X'.warmed.alike) hp hb k1 k2 k3 T' rfl X'
    exact ⟨t2, st t2 a1, b1⟩
  · obtain ⟨k1, k2, k3⟩ := vx_keep h0 e1 hS hAX hf hL hF
    obtain ⟨t2, a1, b1⟩ := kx E ce q u t T'.heap (locs ++ L) e1.symm (by rw [← e2]; exact X'.warmed.alike) hp hb k1 k2 k3 (by rw [e1]; exact hce) hcv hcl T' rfl X'
    exact ⟨t2, st.trans a1, b1⟩
theorem vx_callf {S SX : Type} {post : UInt32 → S → Prop} {px : SX → Prop} {B : S → State → Prop} {BX : String → SX → State → Prop} {AX : Nat → Prop} (hr : vx_Run p l e R s m args below meth c H locs cells slots mc ms (F0 m pc ls st0) rest (va_Qf post B A1 a) (vx_X px BX AX) free) (hS : va_S A0 H0 H locs) (hA : ∀ q, q < H.size → A1 q → A0 q) (hf : ∀ q, free q → A0 q) (hAX : ∀ q, q < H.size → AX q → A0 q)
    (kx : ∀ (E : String) (ce : Cell) (q9 : Addr) (u : SX) (t : State) (H1 : Heap) (locs1 : List Loc), t.heap = H1 → s.vm.Alike t.vm → px u → BX E u t → H.size ≤ H1.size → (∀ q : Nat, q < H.size → ¬ AX q → H1[q]? = H[q]?) → va_S A0 H0 H1 locs1 → H1[q9]? = some ce → ce.vm = .none → s.vm.findClass E = some ce.cls → vx_W p l e R s m args below meth c H1 locs1 (cells + mc) (slots + ms) Q (F0 m pc ls rest) q9)
    (kk : ∀ (r : UInt32) (u : S) (t : State) (H1 : Heap) (locs1 : List Loc), t.heap = H1 → s.vm.Alike t.vm → post r u → B u t → H.size ≤ H1.size → (∀ q : Nat, q < H.size → ¬ A1 q → H1[q]? = H[q]?) → va_S A0 H0 H1 locs1 → W p l e R s m args below meth c H1 locs1 (cells + mc) (slots + ms) Q (F0 m (pc + 3) ls (.float r :: rest))) : W p l e R s m args below meth c H locs cells slots Q (F0 m pc ls st0) := by
  intro T hT X
  rcases hr T hT X with ⟨v, st₀, t, T', L, h0, X', hL, e1, e2, ⟨⟨r, u, hv, hp, hb⟩, hF⟩, st⟩ | ⟨q, st₀, t, T', L, E, ce, h0, X', hL, e1, e2, ⟨u, hp, hb, hF⟩, hce, hcv, hcl, st⟩
  · cases hv
    obtain ⟨k1, k2, k3⟩ := vx_keep h0 e1 hS hA hf hL hF
    obtain ⟨t2, a1, b1⟩ := kk r u t T'.heap (locs ++ L) e1.symm (by rw [← e2]; exact X'.warmed.alike) hp hb k1 k2 k3 T' rfl X'
    exact ⟨t2, st t2 a1, b1⟩
  · obtain ⟨k1, k2, k3⟩ := vx_keep h0 e1 hS hAX hf hL hF
    obtain ⟨t2, a1, b1⟩ := kx E ce q u t T'.heap (locs ++ L) e1.symm (by rw [← e2]; exact X'.warmed.alike) hp hb k1 k2 k3 (by rw [e1]; exact hce) hcv hcl T' rfl X'
    exact ⟨t2, st.trans a1, b1⟩
theorem vx_calld {S SX : Type} {post : UInt64 → S → Prop} {px : SX → Prop} {B : S → State → Prop} {BX : String → SX → State → Prop} {AX : Nat → Prop} (hr : vx_Run p l e R s m args below meth c H locs cells slots mc ms (F0 m pc ls st0) rest (va_Qd post B A1 a) (vx_X px BX AX) free) (hS : va_S A0 H0 H locs) (hA : ∀ q, q < H.size → A1 q → A0 q) (hf : ∀ q, free q → A0 q) (hAX : ∀ q, q < H.size → AX q → A0 q)
    (kx : ∀ (E : String) (ce : Cell) (q9 : Addr) (u : SX) (t : State) (H1 : Heap) (locs1 : List Loc), t.heap = H1 → s.vm.Alike t.vm → px u → BX E u t → H.size ≤ H1.size → (∀ q : Nat, q < H.size → ¬ AX q → H1[q]? = H[q]?) → va_S A0 H0 H1 locs1 → H1[q9]? = some ce → ce.vm = .none → s.vm.findClass E = some ce.cls → vx_W p l e R s m args below meth c H1 locs1 (cells + mc) (slots + ms) Q (F0 m pc ls rest) q9)
    (kk : ∀ (r : UInt64) (u : S) (t : State) (H1 : Heap) (locs1 : List Loc), t.heap = H1 → s.vm.Alike t.vm → post r u → B u t → H.size ≤ H1.size → (∀ q : Nat, q < H.size → ¬ A1 q → H1[q]? = H[q]?) → va_S A0 H0 H1 locs1 → W p l e R s m args below meth c H1 locs1 (cells + mc) (slots + ms) Q (F0 m (pc + 3) ls (.double r :: rest))) : W p l e R s m args below meth c H locs cells slots Q (F0 m pc ls st0) := by
  intro T hT X
  rcases hr T hT X with ⟨v, st₀, t, T', L, h0, X', hL, e1, e2, ⟨⟨r, u, hv, hp, hb⟩, hF⟩, st⟩ | ⟨q, st₀, t, T', L, E, ce, h0, X', hL, e1, e2, ⟨u, hp, hb, hF⟩, hce, hcv, hcl, st⟩
  · cases hv
    obtain ⟨k1, k2, k3⟩ := vx_keep h0 e1 hS hA hf hL hF
    obtain ⟨t2, a1, b1⟩ := kk r u t T'.heap (locs ++ L) e1.symm (by rw [← e2]; exact X'.warmed.alike) hp hb k1 k2 k3 T' rfl X'
    exact ⟨t2, st t2 a1, b1⟩
  · obtain ⟨k1, k2, k3⟩ := vx_keep h0 e1 hS hAX hf hL hF
    obtain ⟨t2, a1, b1⟩ := kx E ce q u t T'.heap (locs ++ L) e1.symm (by rw [← e2]; exact X'.warmed.alike) hp hb k1 k2 k3 (by rw [e1]; exact hce) hcv hcl T' rfl X'
    exact ⟨t2, st.trans a1, b1⟩
theorem vx_callv {S SX : Type} {post : S → Prop} {px : SX → Prop} {B : S → State → Prop} {BX : String → SX → State → Prop} {AX : Nat → Prop} (hr : vx_Run p l e R s m args below meth c H locs cells slots mc ms (F0 m pc ls st0) rest (va_Qv post B A1 a) (vx_X px BX AX) free) (hS : va_S A0 H0 H locs) (hA : ∀ q, q < H.size → A1 q → A0 q) (hf : ∀ q, free q → A0 q) (hAX : ∀ q, q < H.size → AX q → A0 q)
    (kx : ∀ (E : String) (ce : Cell) (q9 : Addr) (u : SX) (t : State) (H1 : Heap) (locs1 : List Loc), t.heap = H1 → s.vm.Alike t.vm → px u → BX E u t → H.size ≤ H1.size → (∀ q : Nat, q < H.size → ¬ AX q → H1[q]? = H[q]?) → va_S A0 H0 H1 locs1 → H1[q9]? = some ce → ce.vm = .none → s.vm.findClass E = some ce.cls → vx_W p l e R s m args below meth c H1 locs1 (cells + mc) (slots + ms) Q (F0 m pc ls rest) q9)
    (kk : ∀ (u : S) (t : State) (H1 : Heap) (locs1 : List Loc), t.heap = H1 → s.vm.Alike t.vm → post u → B u t → H.size ≤ H1.size → (∀ q : Nat, q < H.size → ¬ A1 q → H1[q]? = H[q]?) → va_S A0 H0 H1 locs1 → W p l e R s m args below meth c H1 locs1 (cells + mc) (slots + ms) Q (F0 m (pc + 3) ls (rest))) : W p l e R s m args below meth c H locs cells slots Q (F0 m pc ls st0) := by
  intro T hT X
  rcases hr T hT X with ⟨v, st₀, t, T', L, h0, X', hL, e1, e2, ⟨⟨u, hv, hp, hb⟩, hF⟩, st⟩ | ⟨q, st₀, t, T', L, E, ce, h0, X', hL, e1, e2, ⟨u, hp, hb, hF⟩, hce, hcv, hcl, st⟩
  · cases hv
    obtain ⟨k1, k2, k3⟩ := vx_keep h0 e1 hS hA hf hL hF
    obtain ⟨t2, a1, b1⟩ := kk u t T'.heap (locs ++ L) e1.symm (by rw [← e2]; exact X'.warmed.alike) hp hb k1 k2 k3 T' rfl X'
    exact ⟨t2, st t2 a1, b1⟩
  · obtain ⟨k1, k2, k3⟩ := vx_keep h0 e1 hS hAX hf hL hF
    obtain ⟨t2, a1, b1⟩ := kx E ce q u t T'.heap (locs ++ L) e1.symm (by rw [← e2]; exact X'.warmed.alike) hp hb k1 k2 k3 (by rw [e1]; exact hce) hcv hcl T' rfl X'
    exact ⟨t2, st.trans a1, b1⟩
/-- caught by the row x of this method's table; the rows ahead don't take it -/
theorem vx_catch {own name : String} {E : String} {ce : Cell} {q : Addr} (hown : s.vm.findClass own = some m.cls) (pre : List ExceptionTableEntry) (x : ExceptionTableEntry) (suf : List ExceptionTableEntry) (hsplit : c.exceptionTable.toList = pre ++ x :: suf)
    (hpass : ∀ z ∈ pre, covers z pc = false ∨ (z.catchType ≠ 0 ∧ ∃ nm : String, (Cond.classLink own z.catchType nm).before args s = true ∧ va_Nc E nm s)) (hx : covers x pc = true) (h0 : x.catchType ≠ 0)
    (hlink : (Cond.classLink own x.catchType name).before args s = true) (hcast : (Cond.castable E name).before args s = true) (hcell : H[q]? = some ce) (hv : ce.vm = .none) (hcl : s.vm.findClass E = some ce.cls)
    (kk : W p l e R s m args below meth c H locs cells slots Q (F0 m x.handlerPc ls [.ref q])) : vx_W p l e R s m args below meth c H locs cells slots Q (F0 m pc ls rest) q := by
  intro T hT X
  have hpl : e.platform.magicAccessors = ({} : Platform).magicAccessors := by rw [X.admits.platform]
  obtain ⟨c3, c4, hc3, hc4, hasg⟩ := Cond.castable_spec hcast
  cases Option.some.inj (hc3.symm.trans hcl)
  obtain ⟨c5, hc5, hcl5⟩ := Cond.classLink_spec hown hlink e.platform hpl
  cases Option.some.inj (hc4.symm.trans hc5)
  obtain ⟨vm', X', st⟩ := xf_through X q (g := F0 m pc ls rest) rfl (by rw [hT]; exact hcell) (by rw [hv]; rfl) (by obtain ⟨k9, h9, -⟩ := Vm.findClass_spec hcl; exact ⟨k9, h9⟩) pre x suf hsplit
    (fun z hz => by
      rcases hpass z hz with h | ⟨hz0, nm, hl1, hn1⟩
      · exact Or.inl h
      · obtain ⟨c6, hc6, hcl6⟩ := Cond.classLink_spec hown hl1 e.platform hpl
        obtain ⟨a8, b8, h1, h2, h3⟩ := hn1
        cases Option.some.inj (h1.symm.trans hcl)
        cases Option.some.inj (h2.symm.trans hc6)
        exact Or.inr ⟨hz0, _, hcl6, h3⟩) hx h0 hcl5 hasg
  obtain ⟨t, a1, b1⟩ := kk (T.setVm vm') hT X'
  exact ⟨t, st _ a1, b1⟩
end Rows
section Ends
variable {p : Program} {l : Launch} {e : Env} {R : Room} {s : State} {m : MethodId} {args : Array Value} {below : List Frame} {meth : Method} {c : Code} {H : Heap} {locs : List Loc} {cells slots : Nat} {Q : State → Prop}
variable {mc ms : Nat} {free : Addr → Prop} {A0 A1 : Nat → Prop} {H0 : Heap} {a : Array Value} {ls : Array Slot} {st0 rest : List Value}
variable {Qc : Array Value → State → Outcome → State → Prop} {XC : String → State → State → Prop}
/-- what a body that may throw owes at its end -/
def vx_MQ (below : List Frame) (Qc : Array Value → State → Outcome → State → Prop) (XC : String → State → State → Prop) (a : Array Value) (s : State) (mc ms : Nat) (free : Addr → Prop) : State → Prop := fun t =>
  ∃ o, t.status = .running ∧ Ended t below o ∧ vx_Q Qc XC mc ms free a s o t
theorem vx_ret {g : JFrame} {mc ms : Nat} (k : W p l e R s m args below meth c H locs cells slots (MQ below Qc args s mc ms free) g) : W p l e R s m args below meth c H locs cells slots (vx_MQ below Qc XC args s mc ms free) g := by
  intro T hT X
  obtain ⟨t, a1, o, b1, b2, b3, b4⟩ := k T hT X
  exact ⟨t, a1, o, b1, b2, Or.inl ⟨b3, b4⟩⟩
/-- not caught here: it goes on to the caller -/
theorem vx_widen {g : JFrame} {q : Addr} {k n : Nat} (h1 : cells ≤ k) (h2 : slots ≤ n) (kk : vx_W p l e R s m args below meth c H locs k n Q g q) : vx_W p l e R s m args below meth c H locs cells slots Q g q := fun T hT X => kk T hT (stand_widen X h1 h2)
theorem vx_out {pc : Nat} {E : String} {ce : Cell} {q : Addr} {mc ms : Nat} (hout : ∀ x ∈ c.exceptionTable.toList, covers x pc = false) (hlocks : meth.locks = false) (hcell : H[q]? = some ce) (hv : ce.vm = .none) (hcl : s.vm.findClass E = some ce.cls)
    (hx : ∀ t : State, t.heap = H → s.vm.Alike t.vm → XC E s t) (hf : ∀ z ∈ locs, free z.base) (hc : cells ≤ mc) (hs : slots ≤ ms) :
    vx_W p l e R s m args below meth c H locs cells slots (vx_MQ below Qc XC args s mc ms free) (F0 m pc ls rest) q := by
  intro T hT X
  obtain ⟨st1, hrun, hend, hW, hsm⟩ := X.leaveThrown q (g := F0 m pc ls rest) rfl rfl rfl hout hlocks
  have hcell9 : (T.setFrames (.throwing q :: below)).heap[q]? = some ce := by
    show T.heap[q]? = some ce
    rw [hT]; exact hcell
  exact ⟨_, st1, .threw q, hrun, hend, Or.inr ⟨q, rfl, E, ce, locs, hx _ hT hW.alike, hcell9, hv, hcl, hW, hsm.mono hc hs, hf⟩⟩
theorem vx_frame {U : State} {k n : Nat} (h : s.sameButNew ({ U with vm := s.vm } : State) locs k n) : s.heap.size ≤ U.heap.size ∧ ∀ q : Nat, q < s.heap.size → (∀ z ∈ locs, z.base ≠ q) → U.heap[q]? = s.heap[q]? := by
  obtain ⟨-, h2, -, -, -, h6⟩ := h
  refine ⟨h2, fun q hq hz => ?_⟩
  obtain ⟨c9, e1, e2, e3, e4⟩ := h6 q _ (Array.getElem?_eq_getElem hq)
  have hs : c9.slots = (s.heap[q]).slots := Array.ext_getElem? fun i => e4 i fun hm => hz _ hm rfl
  have h9 : c9 = s.heap[q] := by
    rw [hs] at e2
    exact e2
  have e5 : U.heap[q]? = some c9 := e1
  rw [e5, h9, Array.getElem?_eq_getElem hq]
/-- the words of a throw but the four that speak of the heap -/
def vx_no (w : Cond) : Bool := decide (w ≠ .isRef (.static Bundle.tN "UNASSIGNED_STACK" Bundle.steD)) && decide (w ≠ .isRef (.static Bundle.tN "SUPPRESSED_SENTINEL" Bundle.listD)) && decide (w ≠ .laysStatic Bundle.tN "UNASSIGNED_STACK" Bundle.steD) && decide (w ≠ .laysStatic Bundle.tN "SUPPRESSED_SENTINEL" Bundle.listD)
def vx_at0 (own : String) (ic : Nat) (X : String) (names : List String) : List Cond := (Bundle.ownAtoms0 own ic X names).filter vx_no
def vx_atS (own : String) (ic : Nat) (X : String) (names : List String) : List Cond := (Bundle.ownAtoms own ic X names).filter vx_no
/-- a word that the tables alone decide, or a good one -/
def vx_ot (w : Cond) : Bool := w.onTables || goodWord w
theorem vx_ot_at {args a' : Array Value} {s U : State} {w : Cond} (hW : s.WarmedH U.vm) (hvm : s.vm = U.vm) (hg : vx_ot w = true) (h : w.before args s = true) : w.before a' U = true := by
  simp only [vx_ot, Bool.or_eq_true] at hg
  rcases hg with hg | hg
  · exact va_tabs hg hvm h
  · exact word_at hW (good_of_word hg) h
/-- a list's words: the good ones out of the method's own list, the others by premises of their own -/
theorem vx_hat {args : Array Value} {s : State} {L B : List Cond} (h1 : ∀ w ∈ L.filter goodWord, w.before args s = true) (h2 : ∀ w ∈ L.filter (fun w => !goodWord w), w ∈ B) (h3 : ∀ w ∈ B, w.before args s = true) : ∀ w ∈ L, w.before args s = true := by
  intro w hw
  by_cases g : goodWord w = true
  · exact h1 w (List.mem_filter.mpr ⟨hw, g⟩)
  · refine h3 w (h2 w (List.mem_filter.mpr ⟨hw, ?_⟩))
    show (!goodWord w) = true
    cases hgw : goodWord w
    · rfl
    · exact absurd hgw g
theorem vx_c {args : Array Value} {s : State} {w : Cond} {B : List Cond} (h : w.before args s = true) (t : ∀ w ∈ B, w.before args s = true) : ∀ w' ∈ w :: B, w'.before args s = true := fun w' h' => (List.mem_cons.mp h').elim (fun e => by rw [e]; exact h) (t w')
theorem vx_n {args : Array Value} {s : State} : ∀ w ∈ ([] : List Cond), w.before args s = true := fun _ h => nomatch h
theorem vx_own {args : Array Value} {s : State} {L : List Cond} (h1 : ∀ w ∈ L.filter vx_no, w.before args s = true)
    (hU : (Cond.isRef (.static Bundle.tN "UNASSIGNED_STACK" Bundle.steD)).before args s = true) (hN : (Cond.isRef (.static Bundle.tN "SUPPRESSED_SENTINEL" Bundle.listD)).before args s = true)
    (lU : (Cond.laysStatic Bundle.tN "UNASSIGNED_STACK" Bundle.steD).before args s = true) (lN : (Cond.laysStatic Bundle.tN "SUPPRESSED_SENTINEL" Bundle.listD).before args s = true) : ∀ w ∈ L, w.before args s = true := by
  intro w hw
  by_cases e1 : w = .isRef (.static Bundle.tN "UNASSIGNED_STACK" Bundle.steD)
  · rw [e1]; exact hU
  · by_cases e2 : w = .isRef (.static Bundle.tN "SUPPRESSED_SENTINEL" Bundle.listD)
    · rw [e2]; exact hN
    · by_cases e3 : w = .laysStatic Bundle.tN "UNASSIGNED_STACK" Bundle.steD
      · rw [e3]; exact lU
      · by_cases e4 : w = .laysStatic Bundle.tN "SUPPRESSED_SENTINEL" Bundle.listD
        · rw [e4]; exact lN
        · exact h1 w (List.mem_filter.mpr ⟨hw, by unfold vx_no; rw [decide_eq_true e1, decide_eq_true e2, decide_eq_true e3, decide_eq_true e4]; rfl⟩)
/-- where a static field lies, its class's statics cell in H -/
def vx_L (C n d : String) (A : Nat → Prop) (U : State) (H : Heap) : Prop := ∃ (c : ClassId) (k : Class) (i : Nat) (f : Field) (a : Nat) (cell : Cell), U.vm.findClass C = some c ∧ U.fieldFound? C n d = some (c, k, i, f) ∧ f.isStatic = true ∧ k.statics = some a ∧ H[a]? = some cell ∧ cell.vm.isStatics = true ∧ cell.cls = c ∧ f.slot < cell.slots.size ∧ k.staticTypes[f.slot]? = some f.type ∧ ¬ A a
theorem vx_L.moved {C n d : String} {A : Nat → Prop} {u U : State} {H : Heap} (hvm : u.vm.Alike U.vm) (h : vx_L C n d A u H) : vx_L C n d A U H := by
  obtain ⟨c, k, i, f, a, cell, h1, h2, h3, h4, h5, h6, h7, h8, h9, h10⟩ := h
  obtain ⟨k', hi', he⟩ := State.fieldFound?_setVm hvm h2
  exact ⟨c, k', i, f, a, cell, by rw [hvm.findClass]; exact h1, hi', h3, by rw [he]; exact h4, h5, h6, h7, h8, by rw [he]; exact h9, h10⟩
theorem vx_L.kept {C n d : String} {A : Nat → Prop} {U : State} {H H1 : Heap} (h : vx_L C n d A U H) (hq : ∀ a : Nat, a < H.size → ¬ A a → H1[a]? = H[a]?) : vx_L C n d A U H1 := by
  obtain ⟨c, k, i, f, a, cell, h1, h2, h3, h4, h5, h6, h7, h8, h9, h10⟩ := h
  exact ⟨c, k, i, f, a, cell, h1, h2, h3, h4, by rw [hq a (Array.getElem?_eq_some_iff.mp h5).1 h10]; exact h5, h6, h7, h8, h9, h10⟩
theorem vx_L.narrow {C n d : String} {A B : Nat → Prop} {U : State} {H : Heap} (h : vx_L C n d A U H) (hAB : ∀ q, B q → A q) : vx_L C n d B U H := by
  obtain ⟨c, k, i, f, a, cell, h1, h2, h3, h4, h5, h6, h7, h8, h9, h10⟩ := h
  exact ⟨c, k, i, f, a, cell, h1, h2, h3, h4, h5, h6, h7, h8, h9, fun z => h10 (hAB _ z)⟩
theorem vx_L.word {C n d : String} {A : Nat → Prop} {s : State} {args : Array Value} (h : vx_L C n d A s s.heap) : (Cond.laysStatic C n d).before args s = true := by
  obtain ⟨c, k, i, f, a, cell, h1, h2, h3, h4, h5, h6, h7, h8, h9, -⟩ := h
  show (Cond.laysStatic C n d).holds args s none s [] = true
  exact Cond.laysStatic_of h1 h2 h3 h4 h5 h6 h7 h8 h9
/-- .. and what it holds: null or some reference -/
def vx_Zq (C n d : String) (A : Nat → Prop) (U : State) (H : Heap) : Prop := va_Zq C n d A U H ∧ vx_L C n d A U H
theorem vx_Zq.moved {C n d : String} {A : Nat → Prop} {u U : State} {H : Heap} (hvm : u.vm.Alike U.vm) (h : vx_Zq C n d A u H) : vx_Zq C n d A U H := ⟨va_Zq.moved hvm h.1, vx_L.moved hvm h.2⟩
theorem vx_Zq.kept {C n d : String} {A : Nat → Prop} {U : State} {H H1 : Heap} (h : vx_Zq C n d A U H) (hq : ∀ a : Nat, a < H.size → ¬ A a → H1[a]? = H[a]?) : vx_Zq C n d A U H1 := ⟨va_Zq.kept h.1 hq, vx_L.kept h.2 hq⟩
theorem vx_Zq.narrow {C n d : String} {A B : Nat → Prop} {U : State} {H : Heap} (h : vx_Zq C n d A U H) (hAB : ∀ q, B q → A q) : vx_Zq C n d B U H := ⟨va_Zq.narrow h.1 hAB, vx_L.narrow h.2 hAB⟩
theorem vx_Zqof {args : Array Value} {s : State} {C n d : String} {A : Nat → Prop} (hl : (Cond.laysStatic C n d).before args s = true) (hini : (Cond.initialized C).before args s = true) (h : (Cond.isRef (.static C n d)).before args s = true) (hA : ∀ a : Nat, a < s.heap.size → ¬ A a) : vx_Zq C n d A s s.heap := by
  refine ⟨va_Zqof hl hini h hA, ?_⟩
  obtain ⟨c, k, i, f, a, cell, h1, h2, h3, h4, h5, h6, h7, h8, h9⟩ := Cond.laysStatic_spec hl
  exact ⟨c, k, i, f, a, cell, h1, h2, h3, h4, h5, h6, h7, h8, h9, hA a (Array.getElem?_eq_some_iff.mp h5).1⟩
theorem vx_isRef {C n d : String} {v : Value} {A : Nat → Prop} {s : State} {args : Array Value} (h : va_Z C n d v A s s.heap) (hv : v.isRef = true) : (Cond.isRef (.static C n d)).before args s = true := by
  obtain ⟨cf, kf, fi, f, a, cell, h1, h2, h3, h4, h5, h6, h7, -⟩ := h
  have he : (Term.static C n d).eval args s none [] s = some v := by
    simp [Term.eval, State.fieldNamed?, h1, h2, h4, h5, h6, h7]
  simp only [Cond.before, Cond.holds, Cond.value, he]
  cases v <;> simp_all [Value.isRef]
theorem vx_isRefq {C n d : String} {A : Nat → Prop} {s : State} {args : Array Value} (h : va_Zq C n d A s s.heap) : (Cond.isRef (.static C n d)).before args s = true := by
  rcases h with h | ⟨t, h⟩
  · exact vx_isRef h rfl
  · exact vx_isRef h rfl
/-- the same frame, seen from here: as if the method were called anew in this heap -/
theorem vx_rebase {T : State} (X : Stand p l e R s m args below meth c T locs cells slots) {R' : Room} (hf : R'.frames ≤ R.frames) (hl : R'.locals ≤ R.locals) (hc : cells + R'.cells ≤ R.cells) (hs : slots + R'.slots ≤ R.slots) :
    Stand p l e R' ((T.setVm s.vm).setFrames (.invoking m args :: below)) m args below meth c T [] 0 0 := by
  have htop : (T.setVm s.vm).topJava?.isSome := X.here.top
  have hF : ((T.setVm s.vm).setFrames (.invoking m args :: below)).frames = .invoking m args :: below := State.frames_setFrames _ (State.cur_lt_of_top htop)
  obtain ⟨g₀, hg0⟩ := Option.isSome_iff_exists.mp htop
  obtain ⟨r, hr⟩ := State.topJava?_eq_some.mp hg0
  have hl9 : e.platform.stackLimits (T.setVm s.vm).me = e.platform.stackLimits s.me := X.limits
  have hb9 : (T.setVm s.vm).me.stackBytes = s.me.stackBytes := X.bytes
  refine ⟨X.admits, X.cas, X.clock, hF, ?_, X.hears, X.method, X.code, X.here, X.tail, X.warmed, ?_, ?_, ?_⟩
  · have h := X.room
    have hU : ((T.setVm s.vm).setFrames (.invoking m args :: below)).localsInUse = s.localsInUse := by
      rw [State.localsInUse_invoking hF (meth := meth) (c := c) X.method X.code, State.localsInUse_invoking X.frames X.method X.code]
    simp only [State.hasRoom, Bool.and_eq_true, decide_eq_true_eq] at h ⊢
    obtain ⟨⟨⟨⟨h1, h2, h3, h4, h5, h6⟩, h7⟩, h8⟩, h9⟩ := h
    rw [X.frames, List.length_cons] at h2 h3
    have q1 := X.heapSize
    have q2 := X.used
    simp only [hF, hU, List.length_cons, State.stackLimits_setFrames, State.stackBytes_setFrames, hl9, hb9]
    refine ⟨⟨⟨⟨by omega, by omega, by omega, by omega, by omega, h6⟩, ?_⟩, ?_⟩, X.book⟩
    · show T.heap.size + R'.cells ≤ e.platform.maxCells
      omega
    · show T.slotsUsed + R'.slots ≤ e.platform.maxSlots
      omega
  · rw [State.stackLimits_setFrames]; rfl
  · rw [State.stackBytes_setFrames]; rfl
  · refine ⟨?_, Nat.le_refl _, Nat.le_refl _, ?_, ?_, fun a c9 h9 => ⟨c9, h9, rfl, rfl, fun _ _ => rfl⟩⟩
    · obtain ⟨t, ht, -⟩ := State.frames_cons hr
      show T.setVm s.vm = { ((T.setVm s.vm).setFrames (.invoking m args :: below)).setFrames (T.setVm s.vm).frames with heap := T.heap, slotsUsed := T.slotsUsed }
      rw [State.setFrames_setFrames, State.setFrames_self ht]
      rfl
    · show T.slotsUsed = T.slotsUsed + ((T.heap.toList.drop T.heap.size).map (·.slots.size)).sum
      rw [List.drop_eq_nil_of_le (Nat.le_of_eq Array.length_toList)]
      rfl
    · show ((T.heap.toList.drop T.heap.size).map (·.slots.size)).sum ≤ 0
      rw [List.drop_eq_nil_of_le (Nat.le_of_eq Array.length_toList)]
      exact Nat.le_refl _
/-- 'throw new E()': new; dup; invokespecial; athrow -/
theorem vx_throw0 {cc : ByteArray} {pc : Nat} (hexec : p.tables.exec = Jvm.exec) (hb : c.code = cc) (hl : l.stackTraces = false) {own cls : String} {names : List String} {ik ic mc ms : Nat} {A : Nat → Prop}
    (hown : s.vm.findClass own = some m.cls) (hcls : Bundle.fit cls = true) (hnames : ∀ n ∈ names, Bundle.fit n = true)
    (hk : (Cond.classLink own ik cls).before args s = true) (hini : (Cond.initialized cls).before args s = true) (hat : ∀ w ∈ vx_at0 own ic cls names, w.before args s = true)
    (hgood : ∀ w ∈ Cond.classLink own ik cls :: Cond.initialized cls :: vx_at0 own ic cls names, vx_ot w = true)
    (hU : vx_Zq Bundle.tN "UNASSIGNED_STACK" Bundle.steD A s s.heap) (hN : vx_Zq Bundle.tN "SUPPRESSED_SENTINEL" Bundle.listD A s s.heap) (hS : va_S A s.heap H locs) (hsize : ls.size = c.maxLocals)
    (d0 : decode cc pc = .ok (.new ik, 3)) (d3 : decode cc (pc + 3) = .ok (.dup, 1)) (d4 : decode cc (pc + 4) = .ok (.invokespecial ic, 3)) (d7 : decode cc (pc + 7) = .ok (.athrow, 1))
    (hout : ∀ x ∈ c.exceptionTable.toList, covers x (pc + 7) = false)
    (hRframes : names.length + 3 < R.frames) (hRlocals : (rest.map fun v => v.category).sum + (13 * (names.length + 1) + 42) ≤ R.locals) (hRcells : cells + 1 ≤ R.cells) (hRslots : slots + 6 ≤ R.slots) (hlocks : meth.locks = false)
    (hx : ∀ t : State, s.vm.Alike t.vm → H.size ≤ t.heap.size → (∀ q : Nat, q < H.size → t.heap[q]? = H[q]?) → XC cls s t)
    (hf : ∀ z ∈ locs, free z.base) (hc : cells + 1 ≤ mc) (hs : slots + 6 ≤ ms) :
    W p l e R s m args below meth c H locs cells slots (vx_MQ below Qc XC args s mc ms free) (F0 m pc ls rest) := by
  intro T hT X
  have htr : e.platform.stackTraces = false := (show e.platform.stackTraces = l.stackTraces by rw [X.admits.platform]).trans hl
  have Y := vx_rebase X (R' := { frames := R.frames, locals := R.locals, cells := 1, slots := 6 }) (Nat.le_refl _) (Nat.le_refl _) hRcells hRslots
  obtain ⟨s', hA⟩ : ∃ z, z = (T.setVm s.vm).setFrames (.invoking m args :: below) := ⟨_, rfl⟩
  rw [← hA] at Y
  have hvm : s'.vm = s.vm := by rw [hA]; rfl
  have hhp : s'.heap = H := by rw [hA]; exact hT
  have hW0 : s.WarmedH s'.vm := by rw [hvm]; exact State.WarmedH.refl s
  have hat' : ∀ w ∈ vx_at0 own ic cls names, w.before args s' = true := fun w hw => vx_ot_at hW0 hvm.symm (hgood w (List.mem_cons_of_mem _ (List.mem_cons_of_mem _ hw))) (hat w hw)
  have hk' : (Cond.classLink own ik cls).before args s' = true := vx_ot_at hW0 hvm.symm (hgood _ List.mem_cons_self) hk
  have hini' : (Cond.initialized cls).before args s' = true := vx_ot_at hW0 hvm.symm (hgood _ (List.mem_cons_of_mem _ List.mem_cons_self)) hini
  have hU' : vx_Zq Bundle.tN "UNASSIGNED_STACK" Bundle.steD A s' s'.heap := by rw [hhp]; exact vx_Zq.moved hW0.alike (hU.kept hS.2.1)
  have hN' : vx_Zq Bundle.tN "SUPPRESSED_SENTINEL" Bundle.listD A s' s'.heap := by rw [hhp]; exact vx_Zq.moved hW0.alike (hN.kept hS.2.1)
  have h : ∀ w ∈ Bundle.ownAtoms0 own ic cls names, w.before args s' = true := vx_own hat' (vx_isRefq hU'.1) (vx_isRefq hN'.1) hU'.2.word hN'.2.word
  have hown' : s'.vm.findClass own = some m.cls := by rw [hvm]; exact hown
  have hins : (Cond.instantiable cls 6).before args s' = true := h _ (by simp [Bundle.ownAtoms0])
  obtain ⟨vm₁, cX, kX, hfX, hkX, -, -, X₁, st1⟩ := Y.newCold hexec (own := own) (C := cls) (index := ik) (n := 6) hown' hk' hins hini'
    (g := F0 m pc ls rest) rfl (by rw [hb]; exact d0) (Nat.le_refl _) (Nat.le_refl _)
  generalize hT1 : (T.setVm vm₁).pushCell { cls := cX, slots := kX.instanceTypes.map defaultValue, vm := .none } = T1 at X₁ st1
  have hcat : (Value.ref T.heap.size).category = 1 := rfl
  have hcellA : T1.heap[T.heap.size]? = some (freshCell cX kX) := by rw [← hT1]; exact State.heap_pushCell_size _ _
  have d3' : decode c.code (pc + 3) = .ok (.dup, 1) := by rw [hb]; exact d3
  obtain ⟨U, hsteps, hrun, hend, hW, hsame, ce, hce, hO⟩ := X₁.ctorThrow0 hexec htr (own := own) (cls := cls) (names := names) (ic := ic) hown' hcls hnames h (fun x hx => nomatch hx) hfX hkX hcellA (by rw [hhp, hT]; exact Nat.le_refl _)
    (g := { method := m, pc := pc + 4, locals := ls, stack := .ref T.heap.size :: .ref T.heap.size :: rest, locked := none }) rfl hsize rfl rfl (rest := rest) rfl
    (by rw [hb]; exact d4) (by rw [hb]; exact d7) hout hRframes (by simp only [List.map_cons, List.sum_cons, hcat]; omega) hlocks
  obtain ⟨f1, f2⟩ := vx_frame hsame
  rw [hhp] at f1 f2
  have hWs : s.WarmedH U.vm := State.WarmedH.trans hW0 hW
  have hcl : s.vm.findClass cls = some ce.cls := by
    have h9 := hO.cls
    rw [hvm] at h9
    exact h9
  have hall : s.sameButNew ({ U with vm := s.vm } : State) locs mc ms := by
    subst hA
    obtain ⟨e1, e2⟩ := hsame
    rw [State.setFrames_setFrames] at e1
    have h2 : (T.setVm s.vm).sameButNew ({ U with vm := s.vm } : State) [] (0 + 1) (0 + 6) := ⟨e1, e2⟩
    have h3 := X.same.trans h2
    rw [List.append_nil] at h3
    exact h3.mono hc hs
  refine ⟨U, ?_, .threw T.heap.size, hrun, hend, Or.inr ⟨T.heap.size, rfl, cls, ce, locs, hx U hWs.alike f1 (fun q hq => f2 q hq (fun z hz => nomatch hz)), hce, hO.vm, hcl, hWs, hall, hf⟩⟩
  refine st1 _ ?_
  show Steps p.tables e below (T1.setTop { method := m, pc := pc + 3, locals := ls, stack := .ref T.heap.size :: rest, locked := none }) _
  jvm_step X₁.here [X₁.here.top, hexec, d3', Value.category]
  exact hsteps
/-- 'throw new E("text")': new; dup; ldc; invokespecial; athrow -/
theorem vx_throwS {cc : ByteArray} {pc : Nat} (hexec : p.tables.exec = Jvm.exec) (hb : c.code = cc) (hl : l.stackTraces = false) {own cls text : String} {names : List String} {ik is ic mc ms sa : Nat} {A : Nat → Prop}
    (hown : s.vm.findClass own = some m.cls) (hcls : Bundle.fit cls = true) (hnames : ∀ n ∈ names, Bundle.fit n = true)
    (hk : (Cond.classLink own ik cls).before args s = true) (hini : (Cond.initialized cls).before args s = true) (hstr : vk_R own is text sa s) (hat : ∀ w ∈ vx_atS own ic cls names, w.before args s = true)
    (hgood : ∀ w ∈ Cond.classLink own ik cls :: Cond.initialized cls :: vx_atS own ic cls names, vx_ot w = true)
    (hU : vx_Zq Bundle.tN "UNASSIGNED_STACK" Bundle.steD A s s.heap) (hN : vx_Zq Bundle.tN "SUPPRESSED_SENTINEL" Bundle.listD A s s.heap) (hS : va_S A s.heap H locs) (hsize : ls.size = c.maxLocals)
    (d0 : decode cc pc = .ok (.new ik, 3)) (d3 : decode cc (pc + 3) = .ok (.dup, 1)) (d4 : decode cc (pc + 4) = .ok (.ldc is, 2)) (d6 : decode cc (pc + 6) = .ok (.invokespecial ic, 3)) (d9 : decode cc (pc + 9) = .ok (.athrow, 1))
    (hout : ∀ x ∈ c.exceptionTable.toList, covers x (pc + 9) = false)
    (hRframes : names.length + 3 < R.frames) (hRlocals : (rest.map fun v => v.category).sum + (13 * (names.length + 1) + 43) ≤ R.locals) (hRcells : cells + 1 ≤ R.cells) (hRslots : slots + 6 ≤ R.slots) (hlocks : meth.locks = false)
    (hx : ∀ t : State, s.vm.Alike t.vm → H.size ≤ t.heap.size → (∀ q : Nat, q < H.size → t.heap[q]? = H[q]?) → XC cls s t)
    (hf : ∀ z ∈ locs, free z.base) (hc : cells + 1 ≤ mc) (hs : slots + 6 ≤ ms) :
    W p l e R s m args below meth c H locs cells slots (vx_MQ below Qc XC args s mc ms free) (F0 m pc ls rest) := by
  intro T hT X
  have htr : e.platform.stackTraces = false := (show e.platform.stackTraces = l.stackTraces by rw [X.admits.platform]).trans hl
  have Y := vx_rebase X (R' := { frames := R.frames, locals := R.locals, cells := 1, slots := 6 }) (Nat.le_refl _) (Nat.le_refl _) hRcells hRslots
  obtain ⟨s', hA⟩ : ∃ z, z = (T.setVm s.vm).setFrames (.invoking m args :: below) := ⟨_, rfl⟩
  rw [← hA] at Y
  have hvm : s'.vm = s.vm := by rw [hA]; rfl
  have hhp : s'.heap = H := by rw [hA]; exact hT
  have hW0 : s.WarmedH s'.vm := by rw [hvm]; exact State.WarmedH.refl s
  have hat' : ∀ w ∈ vx_atS own ic cls names, w.before args s' = true := fun w hw => vx_ot_at hW0 hvm.symm (hgood w (List.mem_cons_of_mem _ (List.mem_cons_of_mem _ hw))) (hat w hw)
  have hk' : (Cond.classLink own ik cls).before args s' = true := vx_ot_at hW0 hvm.symm (hgood _ List.mem_cons_self) hk
  have hini' : (Cond.initialized cls).before args s' = true := vx_ot_at hW0 hvm.symm (hgood _ (List.mem_cons_of_mem _ List.mem_cons_self)) hini
  have hU' : vx_Zq Bundle.tN "UNASSIGNED_STACK" Bundle.steD A s' s'.heap := by rw [hhp]; exact vx_Zq.moved hW0.alike (hU.kept hS.2.1)
  have hN' : vx_Zq Bundle.tN "SUPPRESSED_SENTINEL" Bundle.listD A s' s'.heap := by rw [hhp]; exact vx_Zq.moved hW0.alike (hN.kept hS.2.1)
  have h : ∀ w ∈ Bundle.ownAtoms own ic cls names, w.before args s' = true := vx_own hat' (vx_isRefq hU'.1) (vx_isRefq hN'.1) hU'.2.word hN'.2.word
  have hown' : s'.vm.findClass own = some m.cls := by rw [hvm]; exact hown
  have hins : (Cond.instantiable cls 6).before args s' = true := h _ (by simp [Bundle.ownAtoms])
  obtain ⟨vm₁, cX, kX, hfX, hkX, -, -, X₁, st1⟩ := Y.newCold hexec (own := own) (C := cls) (index := ik) (n := 6) hown' hk' hins hini'
    (g := F0 m pc ls rest) rfl (by rw [hb]; exact d0) (Nat.le_refl _) (Nat.le_refl _)
  generalize hT1 : (T.setVm vm₁).pushCell { cls := cX, slots := kX.instanceTypes.map defaultValue, vm := .none } = T1 at X₁ st1
  have hcat : (Value.ref T.heap.size).category = 1 := rfl
  have hcellA : T1.heap[T.heap.size]? = some (freshCell cX kX) := by rw [← hT1]; exact State.heap_pushCell_size _ _
  have d3' : decode c.code (pc + 3) = .ok (.dup, 1) := by rw [hb]; exact d3
  have d4' : decode c.code (pc + 4) = .ok (.ldc is, 2) := by rw [hb]; exact d4
  have hstr' : vk_R own is text sa s' := vk_R.warm hW0 hstr
  obtain ⟨U, hsteps, hrun, hend, hW, hsame, ce, hce, hO⟩ := X₁.ctorThrowS hexec htr (own := own) (cls := cls) (names := names) (ic := ic) hown' hcls hnames h (fun x hx => nomatch hx) hfX hkX hcellA (by rw [hhp, hT]; exact Nat.le_refl _) (msg := .ref sa) rfl
    (g := { method := m, pc := pc + 6, locals := ls, stack := .ref sa :: .ref T.heap.size :: .ref T.heap.size :: rest, locked := none }) rfl hsize rfl rfl (rest := rest) rfl
    (by rw [hb]; exact d6) (by rw [hb]; exact d9) hout hRframes (by simp only [List.map_cons, List.sum_cons, hcat]; omega) hlocks
  obtain ⟨f1, f2⟩ := vx_frame hsame
  rw [hhp] at f1 f2
  have hWs : s.WarmedH U.vm := State.WarmedH.trans hW0 hW
  have hcl : s.vm.findClass cls = some ce.cls := by
    have h9 := hO.cls
    rw [hvm] at h9
    exact h9
  have hall : s.sameButNew ({ U with vm := s.vm } : State) locs mc ms := by
    subst hA
    obtain ⟨e1, e2⟩ := hsame
    rw [State.setFrames_setFrames] at e1
    have h2 : (T.setVm s.vm).sameButNew ({ U with vm := s.vm } : State) [] (0 + 1) (0 + 6) := ⟨e1, e2⟩
    have h3 := X.same.trans h2
    rw [List.append_nil] at h3
    exact h3.mono hc hs
  refine ⟨U, ?_, .threw T.heap.size, hrun, hend, Or.inr ⟨T.heap.size, rfl, cls, ce, locs, hx U hWs.alike f1 (fun q hq => f2 q hq (fun z hz => nomatch hz)), hce, hO.vm, hcl, hWs, hall, hf⟩⟩
  refine st1 _ ?_
  show Steps p.tables e below (T1.setTop { method := m, pc := pc + 3, locals := ls, stack := .ref T.heap.size :: rest, locked := none }) _
  jvm_step X₁.here [X₁.here.top, hexec, d3', Value.category]
  exact X₁.ldcString hexec (own := own) (text := text) (index := is) (a := sa) hown' hstr'.1 hstr'.2
    (g := { method := m, pc := pc + 4, locals := ls, stack := .ref T.heap.size :: .ref T.heap.size :: rest, locked := none }) rfl d4' _ hsteps
/-- 'throw new E("text")', the text by a wide index -/
theorem vx_throwSW {cc : ByteArray} {pc : Nat} (hexec : p.tables.exec = Jvm.exec) (hb : c.code = cc) (hl : l.stackTraces = false) {own cls text : String} {names : List String} {ik is ic mc ms sa : Nat} {A : Nat → Prop}
    (hown : s.vm.findClass own = some m.cls) (hcls : Bundle.fit cls = true) (hnames : ∀ n ∈ names, Bundle.fit n = true)
    (hk : (Cond.classLink own ik cls).before args s = true) (hini : (Cond.initialized cls).before args s = true) (hstr : vk_R own is text sa s) (hat : ∀ w ∈ vx_atS own ic cls names, w.before args s = true)
    (hgood : ∀ w ∈ Cond.classLink own ik cls :: Cond.initialized cls :: vx_atS own ic cls names, vx_ot w = true)
    (hU : vx_Zq Bundle.tN "UNASSIGNED_STACK" Bundle.steD A s s.heap) (hN : vx_Zq Bundle.tN "SUPPRESSED_SENTINEL" Bundle.listD A s s.heap) (hS : va_S A s.heap H locs) (hsize : ls.size = c.maxLocals)
    (d0 : decode cc pc = .ok (.new ik, 3)) (d3 : decode cc (pc + 3) = .ok (.dup, 1)) (d4 : decode cc (pc + 4) = .ok (.ldc_w is, 3)) (d7 : decode cc (pc + 7) = .ok (.invokespecial ic, 3)) (d10 : decode cc (pc + 10) = .ok (.athrow, 1))
    (hout : ∀ x ∈ c.exceptionTable.toList, covers x (pc + 10) = false)
    (hRframes : names.length + 3 < R.frames) (hRlocals : (rest.map fun v => v.category).sum + (13 * (names.length + 1) + 43) ≤ R.locals) (hRcells : cells + 1 ≤ R.cells) (hRslots : slots + 6 ≤ R.slots) (hlocks : meth.locks = false)
    (hx : ∀ t : State, s.vm.Alike t.vm → H.size ≤ t.heap.size → (∀ q : Nat, q < H.size → t.heap[q]? = H[q]?) → XC cls s t)
    (hf : ∀ z ∈ locs, free z.base) (hc : cells + 1 ≤ mc) (hs : slots + 6 ≤ ms) :
    W p l e R s m args below meth c H locs cells slots (vx_MQ below Qc XC args s mc ms free) (F0 m pc ls rest) := by
  intro T hT X
  have htr : e.platform.stackTraces = false := (show e.platform.stackTraces = l.stackTraces by rw [X.admits.platform]).trans hl
  have Y := vx_rebase X (R' := { frames := R.frames, locals := R.locals, cells := 1, slots := 6 }) (Nat.le_refl _) (Nat.le_refl _) hRcells hRslots
  obtain ⟨s', hA⟩ : ∃ z, z = (T.setVm s.vm).setFrames (.invoking m args :: below) := ⟨_, rfl⟩
  rw [← hA] at Y
  have hvm : s'.vm = s.vm := by rw [hA]; rfl
  have hhp : s'.heap = H := by rw [hA]; exact hT
  have hW0 : s.WarmedH s'.vm := by rw [hvm]; exact State.WarmedH.refl s
  have hat' : ∀ w ∈ vx_atS own ic cls names, w.before args s' = true := fun w hw => vx_ot_at hW0 hvm.symm (hgood w (List.mem_cons_of_mem _ (List.mem_cons_of_mem _ hw))) (hat w hw)
  have hk' : (Cond.classLink own ik cls).before args s' = true := vx_ot_at hW0 hvm.symm (hgood _ List.mem_cons_self) hk
  have hini' : (Cond.initialized cls).before args s' = true := vx_ot_at hW0 hvm.symm (hgood _ (List.mem_cons_of_mem _ List.mem_cons_self)) hini
  have hU' : vx_Zq Bundle.tN "UNASSIGNED_STACK" Bundle.steD A s' s'.heap := by rw [hhp]; exact vx_Zq.moved hW0.alike (hU.kept hS.2.1)
  have hN' : vx_Zq Bundle.tN "SUPPRESSED_SENTINEL" Bundle.listD A s' s'.heap := by rw [hhp]; exact vx_Zq.moved hW0.alike (hN.kept hS.2.1)
  have h : ∀ w ∈ Bundle.ownAtoms own ic cls names, w.before args s' = true := vx_own hat' (vx_isRefq hU'.1) (vx_isRefq hN'.1) hU'.2.word hN'.2.word
  have hown' : s'.vm.findClass own = some m.cls := by rw [hvm]; exact hown
  have hins : (Cond.instantiable cls 6).before args s' = true := h _ (by simp [Bundle.ownAtoms])
  obtain ⟨vm₁, cX, kX, hfX, hkX, -, -, X₁, st1⟩ := Y.newCold hexec (own := own) (C := cls) (index := ik) (n := 6) hown' hk' hins hini'
    (g := F0 m pc ls rest) rfl (by rw [hb]; exact d0) (Nat.le_refl _) (Nat.le_refl _)
  generalize hT1 : (T.setVm vm₁).pushCell { cls := cX, slots := kX.instanceTypes.map defaultValue, vm := .none } = T1 at X₁ st1
  have hcat : (Value.ref T.heap.size).category = 1 := rfl
  have hcellA : T1.heap[T.heap.size]? = some (freshCell cX kX) := by rw [← hT1]; exact State.heap_pushCell_size _ _
  have d3' : decode c.code (pc + 3) = .ok (.dup, 1) := by rw [hb]; exact d3
  have d4' : decode c.code (pc + 4) = .ok (.ldc_w is, 3) := by rw [hb]; exact d4
  have hstr' : vk_R own is text sa s' := vk_R.warm hW0 hstr
  obtain ⟨U, hsteps, hrun, hend, hW, hsame, ce, hce, hO⟩ := X₁.ctorThrowS hexec htr (own := own) (cls := cls) (names := names) (ic := ic) hown' hcls hnames h (fun x hx => nomatch hx) hfX hkX hcellA (by rw [hhp, hT]; exact Nat.le_refl _) (msg := .ref sa) rfl
    (g := { method := m, pc := pc + 7, locals := ls, stack := .ref sa :: .ref T.heap.size :: .ref T.heap.size :: rest, locked := none }) rfl hsize rfl rfl (rest := rest) rfl
    (by rw [hb]; exact d7) (by rw [hb]; exact d10) hout hRframes (by simp only [List.map_cons, List.sum_cons, hcat]; omega) hlocks
  obtain ⟨f1, f2⟩ := vx_frame hsame
  rw [hhp] at f1 f2
  have hWs : s.WarmedH U.vm := State.WarmedH.trans hW0 hW
  have hcl : s.vm.findClass cls = some ce.cls := by
    have h9 := hO.cls
    rw [hvm] at h9
    exact h9
  have hall : s.sameButNew ({ U with vm := s.vm } : State) locs mc ms := by
    subst hA
    obtain ⟨e1, e2⟩ := hsame
    rw [State.setFrames_setFrames] at e1
    have h2 : (T.setVm s.vm).sameButNew ({ U with vm := s.vm } : State) [] (0 + 1) (0 + 6) := ⟨e1, e2⟩
    have h3 := X.same.trans h2
    rw [List.append_nil] at h3
    exact h3.mono hc hs
  refine ⟨U, ?_, .threw T.heap.size, hrun, hend, Or.inr ⟨T.heap.size, rfl, cls, ce, locs, hx U hWs.alike f1 (fun q hq => f2 q hq (fun z hz => nomatch hz)), hce, hO.vm, hcl, hWs, hall, hf⟩⟩
  refine st1 _ ?_
  show Steps p.tables e below (T1.setTop { method := m, pc := pc + 3, locals := ls, stack := .ref T.heap.size :: rest, locked := none }) _
  jvm_step X₁.here [X₁.here.top, hexec, d3', Value.category]
  exact X₁.ldcStringW hexec (own := own) (text := text) (index := is) (a := sa) hown' hstr'.1 hstr'.2
    (g := { method := m, pc := pc + 4, locals := ls, stack := .ref T.heap.size :: .ref T.heap.size :: rest, locked := none }) rfl d4' _ hsteps
end Ends
section Bodies
variable {l : Launch}
theorem vx_ofW {y : MethodName} {ws ws' : List Cond} {rm : Room} {Pc : Array Value → State → Prop} {Qc : Array Value → State → Outcome → State → Prop} {XC : String → State → State → Prop} {mc ms : Nat} {free : Addr → Prop} {cc : ByteArray} {maxL : Nat} {ret : Option FieldType}
    (hy : plainName y.cls = true) (hw : ws = Cond.code y cc maxL ret :: ws')
    (body : ∀ p e s m args below meth c s₁, BodyLoose p l y (headSpec ws rm) cc maxL ret e s m args below meth c s₁ → c.maxLocals = maxL → (∀ x ∈ c.exceptionTable.toList, False) → Pc args s →
      W p l e (headSpec ws rm).room s m args below meth c s.heap [] 0 0 (vx_MQ below Qc XC args s mc ms free) (entryFrame m args maxL)) : vx_Met l y ws rm Pc Qc XC mc ms free := by
  refine MetFree.of_bodyS (code := cc) (maxLocals := maxL) (ret := ret) hy ?_ ?_
  · intro args s m h hn
    obtain ⟨meth, c, h1, h2, h3, h4, h5, h6, -, -⟩ := Cond.code_spec hn (atoms_spec (ws := ws) h _ (by rw [hw]; exact List.mem_cons_self))
    exact ⟨meth, c, h1, h2, h3, h4, h5, h6⟩
  · intro p e s m args below meth c s₁ B hml hP _
    have hh0 : s₁.heap = s.heap := by rw [B.state]; rfl
    have ht : ∀ x ∈ c.exceptionTable.toList, False := by
      obtain ⟨meth9, c9, h1, h2, -, -, -, -, h7, -⟩ := Cond.code_spec B.named (atoms_spec (ws := ws) B.pre _ (by rw [hw]; exact List.mem_cons_self))
      cases Option.some.inj (h1.symm.trans B.method)
      cases Option.some.inj (h2.symm.trans (Stand.of_body B).code)
      intro x hx
      rw [Array.isEmpty_iff.mp h7] at hx
      cases hx
    obtain ⟨t, a1, o, b1, b2, b3⟩ := body p e s m args below meth c s₁ B hml ht hP s₁ hh0 (Stand.of_body B)
    exact ⟨t, o, a1, b1, b2, b3⟩
/-- the table of a body with handlers -/
theorem vx_table {p : Program} {x y : MethodName} {S : Spec} {cc bytes : ByteArray} {maxL maxL' : Nat} {ret ret' : Option FieldType} {e : Env} {s s₁ : State} {m : MethodId} {args : Array Value} {below : List Frame} {meth : Method} {c : Code} {hh : List (Nat × Nat × Nat × Nat)}
    (B : BodyLoose p l y S cc maxL ret e s m args below meth c s₁) (h : (Cond.codeWith y bytes maxL' ret' hh).before args s = true) : c.exceptionTable.toList = tableOf hh := by
  obtain ⟨m9, meth9, c9, hn9, h1, h2, -, -, h6, -⟩ := Cond.codeWith_spec h
  cases Option.some.inj (hn9.symm.trans B.named)
  cases Option.some.inj (h1.symm.trans B.method)
  cases Option.some.inj (h2.symm.trans (Stand.of_body B).code)
  rw [← h6, table_eq]
end Bodies
end VXA
/-! ===== END ===== -/
/-! ===== BEGIN a static call of a method with an exception table ===== -/
section VXS
variable {p : Program} {l : Launch} {e : Env} {R : Room} {s : State} {m : MethodId} {args : Array Value} {below : List Frame} {meth : Method} {c : Code} {T : State} {H : Heap} {locs : List Loc} {cells slots : Nat}
abbrev vx_CSW (R : Room) (s : State) (args : Array Value) (own : String) (index : Nat) (y : MethodName) (bytes : ByteArray) (maxL : Nat) (ret : Option FieldType) (hh : List (Nat × Nat × Nat × Nat)) (ws : List Cond) (rm : Room) (mc ms n : Nat) : Prop :=
  (rm.cells = mc ∧ rm.slots = ms ∧ rm.frames + 1 ≤ R.frames ∧ 8 + (maxL + 11) + rm.locals ≤ R.locals ∧ (∀ w ∈ ws, ∀ (a' : Array Value) (U : State), s.WarmedH U.vm → w.before a' U = true) ∧ Cond.codeWith y bytes maxL ret hh ∈ ws) ∧
  (Cond.codeWith y bytes maxL ret hh).before args s = true ∧ (Cond.initialized y.cls).before args s = true ∧ (y.cls ≠ "java/lang/invoke/MethodHandle" ∧ y.cls ≠ "java/lang/invoke/VarHandle") ∧
  (∀ sig, parseMethodDescriptor y.desc = some sig → n = sig.parameters.length) ∧ (Cond.methodLink own index y).before args s = true ∧ (Cond.static y).before args s = true
theorem vx_cwSW {own : String} {index maxL mc ms : Nat} {y : MethodName} {bytes : ByteArray} {ret : Option FieldType} {hh : List (Nat × Nat × Nat × Nat)} {Ts ws ws' : List Cond} {rm : Room} (n : Nat) (ht : ∀ w ∈ Ts, w.before args s = true) (hT : GoodIn Ts (va_wsS own index y ws)) (hw : ws = Cond.codeWith y bytes maxL ret hh :: ws') (hrc : rm.cells = mc) (hrs : rm.slots = ms)
    (hd : y.cls ≠ "java/lang/invoke/MethodHandle" ∧ y.cls ≠ "java/lang/invoke/VarHandle" ∧ (parseMethodDescriptor y.desc).map (fun d => d.parameters.length) = some n) (hR : rm.frames + 1 ≤ R.frames ∧ 8 + (maxL + 11) + rm.locals ≤ R.locals) :
    vx_CSW R s args own index y bytes maxL ret hh ws rm mc ms n := by
  have ok : ∀ w ∈ va_wsS own index y ws, w.before args s = true := fun w h => ht w (hT w h).1
  have hG : GoodIn Ts ws := fun w h => hT w (by unfold va_wsS; exact List.mem_append_right _ h)
  have hc : Cond.codeWith y bytes maxL ret hh ∈ ws := by rw [hw]; exact List.mem_cons_self
  refine ⟨⟨hrc, hrs, hR.1, hR.2, pay_in ht hG, hc⟩, ht _ (hG _ hc).1, ok _ (by simp [va_wsS]), ⟨hd.1, hd.2.1⟩, fun sig h => ?_, ok _ (by simp [va_wsS]), ok _ (by simp [va_wsS])⟩
  have h2 := hd.2.2
  rw [h] at h2
  exact (Option.some.inj h2).symm
theorem vx_callSW (X : Stand p l e R s m args below meth c T locs cells slots) (hexec : p.tables.exec = Jvm.exec) {own : String} {index : Nat} {y : MethodName} {bytes : ByteArray} {maxL : Nat} {ret : Option FieldType} {hh : List (Nat × Nat × Nat × Nat)}
    (hown : s.vm.findClass own = some m.cls) (hlink : (Cond.methodLink own index y).before args s = true) (hstat : (Cond.static y).before args s = true) (hinit : (Cond.initialized y.cls).before args s = true)
    (hcode : (Cond.codeWith y bytes maxL ret hh).before args s = true) (hy : y.cls ≠ "java/lang/invoke/MethodHandle" ∧ y.cls ≠ "java/lang/invoke/VarHandle")
    {W9 : Nat} {Pre : Pt → Array Value → Prop} {Post : Pt → Array Value → Option Value → Pt → Prop} (hK : Back l R p e below s args y 3 W9 Pre Post)
    {g : JFrame} (hg : g.method = m) (hsize : g.locals.size = c.maxLocals) {argsL rest : List Value} (hlen : ∀ sig, parseMethodDescriptor y.desc = some sig → argsL.length = sig.parameters.length)
    (hstack : g.stack = argsL.reverse ++ rest) (hW : 2 * g.monitorRoom + (rest.map fun v => v.category).sum ≤ W9) (hdg : decode c.code g.pc = .ok (.invokestatic index, 3))
    (hpre : ∀ vm₁, s.WarmedH vm₁ → Pre ⟨T.setVm vm₁, locs, cells, slots⟩ argsL.toArray) :
    ∃ (v : Option Value) (vm₁ : Vm) (B : Pt), s.WarmedH vm₁ ∧ Stand p l e R s m args below meth c B.U B.locs B.cells B.slots ∧ Post ⟨T.setVm vm₁, locs, cells, slots⟩ argsL.toArray v B ∧
      ∀ target, Steps p.tables e below (B.U.setTop { g with pc := g.pc + 3, stack := v.toList ++ rest }) target → Steps p.tables e below (T.setTop g) target := by
  obtain ⟨mk, methM, cM, hnamed, hmethM, -, -, -, -, -, -, hsigM⟩ := Cond.codeWith_spec hcode
  have hstatic : methM.isStatic = true := Cond.static_spec hnamed hmethM hstat
  obtain ⟨kP, hkP, -⟩ := className_of_methodNamed hnamed
  have hinitP : kP.init = .initialized := Cond.initialized_spec (findClass_of_methodNamed hnamed) hkP hinit
  obtain ⟨vm₁, X₁, hstep₁⟩ := X.invokestatic hexec hown hlink hnamed hmethM hstatic hkP hinitP hy (g := g) hg (argsL := argsL) (rest := rest) (hlen _ hsigM) hstack hdg
  obtain ⟨v, B, X', hpost, hsteps⟩ := hK m meth c ⟨T.setVm vm₁, locs, cells, slots⟩ { g with stack := rest } (.invokestatic index) mk argsL.toArray X₁ hg hsize hdg hW (X₁.named hnamed) (hpre vm₁ X₁.warmed)
  exact ⟨v, vm₁, B, X₁.warmed, X', hpost, fun target h => hstep₁ _ fun acts => by rw [doInvoke_state]; exact hsteps.trans h⟩
theorem vx_runSW {y : MethodName} {bytes cc : ByteArray} {maxL nL mc ms n index : Nat} {ret : Option FieldType} {hh : List (Nat × Nat × Nat × Nat)} {ws : List Cond} {rm : Room} {Pc : Array Value → State → Prop} {Qc : Array Value → State → Outcome → State → Prop} {free : Addr → Prop} {Ts : List Cond} {own : String} {As rest : List Value} {g : JFrame}
    (S : CallFix p m c cc nL s args Ts own) (hM : Met l y ws rm Pc Qc mc ms free) (cw : vx_CSW R s args own index y bytes maxL ret hh ws rm mc ms n) (hp : PreS s H Pc As)
    (hg : g.method = m) (hn : As.length = n) (hsize : g.locals.size = nL) (hstack : g.stack = As.reverse ++ rest) (hW : 2 * g.monitorRoom + (rest.map fun v => v.category).sum ≤ 8) (hdg : decode cc g.pc = .ok (.invokestatic index, 3)) (hf : cells + mc ≤ R.cells ∧ slots + ms ≤ R.slots) :
    va_Run p l e R s m args below meth c H locs cells slots mc ms g rest (Qc As.toArray) (free) := by
  obtain ⟨⟨hrc, hrs, hfr, hlo, hws, hcw⟩, hcode, hini, hy, hlen, hl, hstt⟩ := cw
  have hK : Back l R p e below s args y 3 8 (PreOf R mc ms Pc) (PostOf Qc mc ms free) := va_backW (hh := hh) (bytes := bytes) (maxL := maxL) (ret := ret) hM hp.1 hrc hrs hfr hlo hws hcw (fun a' U hW => word_at hW (Or.inl (by first | rfl | simp [Cond.onTables, Cond.keeps, Cond.steady])) hini)
  obtain ⟨hx, hb, hml, ho, -⟩ := S
  intro T hT X
  obtain ⟨v, vm₁, ⟨U', l2, c2, s2⟩, hW₁, X', ⟨g', mk, t, L, e1, e2, hq, h1, hL, h2, h3⟩, st⟩ := vx_callSW X hx (hh := hh) (bytes := bytes) (maxL := maxL) (ret := ret) ho hl hstt hini hcode hy hK hg (hsize.trans hml.symm) (argsL := As) (rest := rest) (fun sig h => hn.trans (hlen sig h)) hstack hW (by rw [hb]; exact hdg)
    (fun vm₁ hW₁ => ⟨hf.1, hf.2, hp.2 (T.setVm vm₁) hT hW₁⟩)
  dsimp only [Pt.U, Pt.locs, Pt.cells, Pt.slots] at X' e1 e2 h1 h2 h3 st
  subst h1; subst h2; subst h3
  exact ⟨v, (T.setVm vm₁).calling g' mk As.toArray, t, U', L, hT, X', hL, e1, e2, hq, st⟩
/-- a thing of a world lies in the heap -/
theorem vx_lt {D : va_G} {cl : List vw_C} {ws : va_W} {H1 : Heap} (h : va_P D cl ws H1) {k : Nat} {q : Nat × va_E} (hk : ws[k]? = some q) : q.1 < H1.size := (h k q hk).lt
end VXS
/-! ===== END ===== -/
/-! ===== BEGIN methods with a table of their own: called by a name, returning or throwing ===== -/
section VXH
/-! vx_backW, vx_callVX, vx_callSX, vx_callVW, vx_runVW, vx_runVX, vx_runSX, vx_ofWH follow the same proofs as their sisters above (Free/Laws.lean, Shelf42/LK1.lean); vx_outP calls Shelf42/NT130.lean (outThrough). -/
section
variable {l : Launch} {R : Room} {p : Program} {e : Env} {below : List Frame} {s : State} {sargs : Array Value} {y : MethodName} {len W9 : Nat}
theorem vx_backW {ws : List Cond} {rm : Room} {Pc : Array Value → State → Prop} {Qc : Array Value → State → Outcome → State → Prop} {XC : String → State → State → Prop} {mc ms : Nat} {free : Addr → Prop} {bytes : ByteArray} {maxL : Nat} {ret : Option FieldType} {hh : List (Nat × Nat × Nat × Nat)}
    (hM : vx_Met l y ws rm Pc Qc XC mc ms free) (hblind : FrameBlind Pc) (hrc : rm.cells = mc) (hrs : rm.slots = ms)
    (hframes : rm.frames + 1 ≤ R.frames) (hlocals : W9 + (maxL + 11) + rm.locals ≤ R.locals)
    (hws : ∀ w ∈ ws, ∀ a' U, s.WarmedH U.vm → w.before a' U = true) (hcode : Cond.codeWith y bytes maxL ret hh ∈ ws) (hinit : ∀ a' U, s.WarmedH U.vm → (Cond.initialized y.cls).before a' U = true) :
    vx_Back l R p e below s sargs y len W9 (PreOf R mc ms Pc) (PostOf Qc mc ms free) (vx_Post XC mc ms free) := by
  intro m meth c A g ig mk a X hg hsize hdg hW hn hp
  have h1 : (headSpec ws rm).pre.before a A.U = true := atoms_intro fun w hw => hws w hw _ _ X.warmed
  have h2 : (Cond.codeWith y bytes maxL ret hh).before a A.U = true := hws _ hcode _ _ X.warmed
  have h3 : (Cond.initialized y.cls).before a A.U = true := hinit _ _ X.warmed
  have h4 : A.cells + (headSpec ws rm).room.cells ≤ R.cells := by rw [show (headSpec ws rm).room.cells = mc from hrc]; exact hp.1
  have h5 : A.slots + (headSpec ws rm).room.slots ≤ R.slots := by rw [show (headSpec ws rm).room.slots = ms from hrs]; exact hp.2.1
  have hPc : Pc a (A.U.calling g mk a) := hblind _ _ _ _ hp.2.2
  obtain ⟨U, Ls, c0, s0⟩ := A
  dsimp only [Pt.U, Pt.locs, Pt.cells, Pt.slots] at h1 h2 h3 h4 h5 X hn hPc ⊢
  obtain ⟨m9, methY, cY, hn9, hmY, hcY, -, hlY, -⟩ := Cond.codeWith_spec h2
  cases Option.some.inj (hn9.symm.trans hn)
  obtain ⟨kY, hkY, -⟩ := className_of_methodNamed hn
  have hinitY : kY.init = .initialized := Cond.initialized_spec (findClass_of_methodNamed hn) hkY h3
  have h : At U g.method c below := by rw [hg]; exact X.here
  have hlocals9 : W9 + (maxL + 11) + (headSpec ws rm).room.locals ≤ R.locals := hlocals
  have happ : (headSpec ws rm).appliesLoose y e.platform (U.calling g mk a) = true :=
    Spec.appliesLoose_calling (g := g) h hdg hn hkY hinitY
      (X.room_calling (g := g) (R' := (headSpec ws rm).room) hsize hmY hcY hframes (by rw [hlY]; omega) h4 h5) h1
  obtain ⟨mid, hmid⟩ := h.above
  have hfr : (U.setTop g).frames = (.java g :: mid) ++ below := by rw [State.frames_setTop' g h.top, hmid]; rfl
  obtain ⟨o, s₂, hsteps, -, hend, hq⟩ := Steps.callFree hM p X.admits X.cas X.clock (acts := []) hfr happ hPc trivial
  have hq' : vx_Q Qc XC mc ms free a (U.calling g mk a) o s₂ := hq
  rw [State.frames_setTop' g h.top] at hend
  obtain ⟨g₀, hg0⟩ := Option.isSome_iff_exists.mp h.top
  obtain ⟨r, hr⟩ := State.topJava?_eq_some.mp hg0
  have hr' : (({ U with heap := s₂.heap, slotsUsed := s₂.slotsUsed } : State).setVm s₂.vm).frames = .java g₀ :: r := hr
  rcases hq' with ⟨hqc, L, hfe, hL⟩ | ⟨q, rfl, E, ce, L, hx, hce, hcv, hcl, hW₂, hsm, hL⟩
  · obtain ⟨⟨v, rfl⟩, hW₂, e2, q2, q3, q4, q5, q6⟩ := id hfe
    have e3 : s₂ = ({ (U.calling g mk a).setFrames s₂.frames with heap := s₂.heap, slotsUsed := s₂.slotsUsed } : State).setVm s₂.vm := by
      have : s₂ = ({ s₂ with vm := (U.calling g mk a).vm } : State).setVm s₂.vm := rfl
      rw [e2] at this
      exact this
    obtain ⟨c₂, i₂, len₂, hc₂, hd₂, hf₂⟩ := hend
    have hW' : U.WarmedH s₂.vm := hW₂
    have hcc : c₂ = c := by
      have h1 : s₂.code? g.method = U.code? g.method := by
        rw [State.code?_eq, State.code?_eq, hW'.alike.method?]
      exact Option.some.inj (hc₂.symm.trans (h1.trans h.code))
    subst hcc
    have hlen : len₂ = len := by rw [hdg] at hd₂; cases hd₂; rfl
    subst hlen
    have hs₂ : s₂ = (({ U with heap := s₂.heap, slotsUsed := s₂.slotsUsed } : State).setVm s₂.vm).setTop { g with pc := g.pc + len₂, stack := v.toList ++ g.stack } := by
      refine e3.trans ?_
      rw [hf₂, State.calling_eq h.top, State.setFrames_setFrames, State.setTop_of_frames _ hr', hr]
      rfl
    have hsame : U.sameButNew ({ U with heap := s₂.heap, slotsUsed := s₂.slotsUsed } : State) L mc ms := by
      refine ⟨?_, q2, q3, q4, q5, q6⟩
      obtain ⟨t, ht, -⟩ := State.frames_cons hr
      show ({ U with heap := s₂.heap, slotsUsed := s₂.slotsUsed } : State) = { U.setFrames U.frames with heap := s₂.heap, slotsUsed := s₂.slotsUsed }
      rw [State.setFrames_self ht]
    subst hg
    refine Or.inl ⟨v, ⟨(({ U with heap := s₂.heap, slotsUsed := s₂.slotsUsed } : State).setVm s₂.vm), Ls ++ L, c0 + mc, s0 + ms⟩,
      ⟨X.admits, X.cas, X.clock, X.frames, X.room, X.hears, X.method, X.code, (X.here.setHeapUsed s₂.heap s₂.slotsUsed).setVm hW'.alike, X.tail, State.WarmedH.trans X.warmed hW', X.limits, X.bytes, X.same.trans (hsame.setVm s.vm)⟩,
      ⟨g, mk, s₂, L, rfl, rfl, hqc, rfl, hL, rfl, rfl⟩, ?_⟩
    show Steps p.tables e below _ ((({ U with heap := s₂.heap, slotsUsed := s₂.slotsUsed } : State).setVm s₂.vm).setTop { g with pc := g.pc + len₂, stack := v.toList ++ g.stack })
    rw [← hs₂]
    exact hsteps
  · obtain ⟨e2, q2, q3, q4, q5, q6⟩ := id hsm
    have e3 : s₂ = ({ (U.calling g mk a).setFrames s₂.frames with heap := s₂.heap, slotsUsed := s₂.slotsUsed } : State).setVm s₂.vm := by
      have : s₂ = ({ s₂ with vm := (U.calling g mk a).vm } : State).setVm s₂.vm := rfl
      rw [e2] at this
      exact this
    have hf₂ : s₂.frames = .throwing q :: .java g :: U.frames.tail := hend
    have hW' : U.WarmedH s₂.vm := hW₂
    have hs₂ : s₂ = ((({ U with heap := s₂.heap, slotsUsed := s₂.slotsUsed } : State).setVm s₂.vm).setTop g).pushFrame (.throwing q) := by
      refine e3.trans ?_
      rw [hf₂, State.calling_eq h.top, State.setFrames_setFrames, State.pushFrame, State.frames_setTop _ hr', State.setTop_of_frames _ hr', State.setFrames_setFrames, hr]
      rfl
    have hsame : U.sameButNew ({ U with heap := s₂.heap, slotsUsed := s₂.slotsUsed } : State) L mc ms := by
      refine ⟨?_, q2, q3, q4, q5, q6⟩
      obtain ⟨t, ht, -⟩ := State.frames_cons hr
      show ({ U with heap := s₂.heap, slotsUsed := s₂.slotsUsed } : State) = { U.setFrames U.frames with heap := s₂.heap, slotsUsed := s₂.slotsUsed }
      rw [State.setFrames_self ht]
    subst hg
    refine Or.inr ⟨q, ⟨(({ U with heap := s₂.heap, slotsUsed := s₂.slotsUsed } : State).setVm s₂.vm), Ls ++ L, c0 + mc, s0 + ms⟩,
      ⟨X.admits, X.cas, X.clock, X.frames, X.room, X.hears, X.method, X.code, (X.here.setHeapUsed s₂.heap s₂.slotsUsed).setVm hW'.alike, X.tail, State.WarmedH.trans X.warmed hW', X.limits, X.bytes, X.same.trans (hsame.setVm s.vm)⟩,
      ⟨g, mk, s₂, L, E, ce, rfl, rfl, hx, hce, hcv, hcl, rfl, hL, rfl, rfl⟩, ?_⟩
    show Steps p.tables e below _ (((({ U with heap := s₂.heap, slotsUsed := s₂.slotsUsed } : State).setVm s₂.vm).setTop g).pushFrame (.throwing q))
    rw [← hs₂]
    exact hsteps
end
variable {p : Program} {l : Launch} {e : Env} {R : Room} {s : State} {m : MethodId} {args : Array Value} {below : List Frame} {meth : Method} {c : Code} {T : State} {H : Heap} {locs : List Loc} {cells slots : Nat}
theorem vx_callVX (X : Stand p l e R s m args below meth c T locs cells slots) (hexec : p.tables.exec = Jvm.exec) {own C : String} {index : Nat} {y : MethodName} {bytes : ByteArray} {maxL : Nat} {ret : Option FieldType} {hh : List (Nat × Nat × Nat × Nat)}
    (hown : s.vm.findClass own = some m.cls) (hlink : (Cond.methodLink own index y).before args s = true) (hinst : (Cond.instanceMethod y).before args s = true) (hsel : (Cond.selects C y y).before args s = true)
    (hcode : (Cond.codeWith y bytes maxL ret hh).before args s = true) (hy : y.cls ≠ "java/lang/invoke/MethodHandle" ∧ y.cls ≠ "java/lang/invoke/VarHandle")
    {W9 : Nat} {Pre : Pt → Array Value → Prop} {Post : Pt → Array Value → Option Value → Pt → Prop} {PostX : Pt → Array Value → Addr → Pt → Prop} (hK : vx_Back l R p e below s args y 3 W9 Pre Post PostX)
    {b : Addr} {cellB : Cell} (hcell : T.heap[b]? = some cellB) (hobj : cellB.vm.isStatics = false) (hcls : s.vm.findClass C = some cellB.cls)
    {g : JFrame} (hg : g.method = m) (hsize : g.locals.size = c.maxLocals) {argsL rest : List Value} (hlen : ∀ sig, parseMethodDescriptor y.desc = some sig → argsL.length = sig.parameters.length)
    (hstack : g.stack = argsL.reverse ++ .ref b :: rest) (hW : 2 * g.monitorRoom + (rest.map fun v => v.category).sum ≤ W9) (hdg : decode c.code g.pc = .ok (.invokevirtual index, 3))
    (hpre : ∀ vm₁, s.WarmedH vm₁ → Pre ⟨T.setVm vm₁, locs, cells, slots⟩ (Value.ref b :: argsL).toArray) :
    (∃ (v : Option Value) (vm₁ : Vm) (B : Pt), s.WarmedH vm₁ ∧ Stand p l e R s m args below meth c B.U B.locs B.cells B.slots ∧ Post ⟨T.setVm vm₁, locs, cells, slots⟩ (Value.ref b :: argsL).toArray v B ∧
      ∀ target, Steps p.tables e below (B.U.setTop { g with pc := g.pc + 3, stack := v.toList ++ rest }) target → Steps p.tables e below (T.setTop g) target) ∨
    (∃ (q : Addr) (vm₁ : Vm) (B : Pt), s.WarmedH vm₁ ∧ Stand p l e R s m args below meth c B.U B.locs B.cells B.slots ∧ PostX ⟨T.setVm vm₁, locs, cells, slots⟩ (Value.ref b :: argsL).toArray q B ∧
      Steps p.tables e below (T.setTop g) ((B.U.setTop { g with stack := rest }).pushFrame (.throwing q))) := by
  obtain ⟨mk, methM, hnamed, hmethM, hstM, habM⟩ := Cond.instanceMethod_spec hinst
  obtain ⟨m8, methM', cM, hn8, hmethM', -, -, -, -, -, -, hsigM⟩ := Cond.codeWith_spec hcode
  cases Option.some.inj (hn8.symm.trans hnamed)
  cases hmethM.symm.trans hmethM'
  obtain ⟨c2, r2, m2, q1, q2, q3, q4, kP, hkP, hkPi⟩ := Cond.selects_spec hsel
  cases hcls.symm.trans q1
  cases (State.methodFound?_of_named hnamed hy).symm.trans q2
  cases hnamed.symm.trans q3
  have hselP : selectMethod e.platform s.vm cellB.cls mk = .method mk := by rw [Launch.admits_selectMethod X.admits]; exact q4
  obtain ⟨vm₁, X₁, hstep₁⟩ := X.invokevirtual hexec hown hlink hnamed hmethM hstM hkP hkPi hy (a := b) (cell := cellB) hcell
    (fun z h => by rw [h] at hobj; cases hobj) hselP hmethM habM hkP hkPi (g := g) hg (argsL := argsL) (rest := rest) (hlen _ hsigM) hstack hdg
  rcases hK m meth c ⟨T.setVm vm₁, locs, cells, slots⟩ { g with stack := rest } (.invokevirtual index) mk (Value.ref b :: argsL).toArray X₁ hg hsize hdg hW (X₁.named hnamed) (hpre vm₁ X₁.warmed) with ⟨v, B, X', hpost, hsteps⟩ | ⟨q, B, X', hpost, hsteps⟩
  · exact Or.inl ⟨v, vm₁, B, X₁.warmed, X', hpost, fun target h => hstep₁ _ fun acts => by rw [doInvoke_state]; exact hsteps.trans h⟩
  · exact Or.inr ⟨q, vm₁, B, X₁.warmed, X', hpost, hstep₁ _ fun acts => by rw [doInvoke_state]; exact hsteps⟩
theorem vx_callSX (X : Stand p l e R s m args below meth c T locs cells slots) (hexec : p.tables.exec = Jvm.exec) {own : String} {index : Nat} {y : MethodName} {bytes : ByteArray} {maxL : Nat} {ret : Option FieldType} {hh : List (Nat × Nat × Nat × Nat)}
    (hown : s.vm.findClass own = some m.cls) (hlink : (Cond.methodLink own index y).before args s = true) (hstat : (Cond.static y).before args s = true) (hinit : (Cond.initialized y.cls).before args s = true)
    (hcode : (Cond.codeWith y bytes maxL ret hh).before args s = true) (hy : y.cls ≠ "java/lang/invoke/MethodHandle" ∧ y.cls ≠ "java/lang/invoke/VarHandle")
    {W9 : Nat} {Pre : Pt → Array Value → Prop} {Post : Pt → Array Value → Option Value → Pt → Prop} {PostX : Pt → Array Value → Addr → Pt → Prop} (hK : vx_Back l R p e below s args y 3 W9 Pre Post PostX)
    {g : JFrame} (hg : g.method = m) (hsize : g.locals.size = c.maxLocals) {argsL rest : List Value} (hlen : ∀ sig, parseMethodDescriptor y.desc = some sig → argsL.length = sig.parameters.length)
    (hstack : g.stack = argsL.reverse ++ rest) (hW : 2 * g.monitorRoom + (rest.map fun v => v.category).sum ≤ W9) (hdg : decode c.code g.pc = .ok (.invokestatic index, 3))
    (hpre : ∀ vm₁, s.WarmedH vm₁ → Pre ⟨T.setVm vm₁, locs, cells, slots⟩ argsL.toArray) :
    (∃ (v : Option Value) (vm₁ : Vm) (B : Pt), s.WarmedH vm₁ ∧ Stand p l e R s m args below meth c B.U B.locs B.cells B.slots ∧ Post ⟨T.setVm vm₁, locs, cells, slots⟩ argsL.toArray v B ∧
      ∀ target, Steps p.tables e below (B.U.setTop { g with pc := g.pc + 3, stack := v.toList ++ rest }) target → Steps p.tables e below (T.setTop g) target) ∨
    (∃ (q : Addr) (vm₁ : Vm) (B : Pt), s.WarmedH vm₁ ∧ Stand p l e R s m args below meth c B.U B.locs B.cells B.slots ∧ PostX ⟨T.setVm vm₁, locs, cells, slots⟩ argsL.toArray q B ∧
      Steps p.tables e below (T.setTop g) ((B.U.setTop { g with stack := rest }).pushFrame (.throwing q))) := by
  obtain ⟨mk, methM, cM, hnamed, hmethM, -, -, -, -, -, -, hsigM⟩ := Cond.codeWith_spec hcode
  have hstatic : methM.isStatic = true := Cond.static_spec hnamed hmethM hstat
  obtain ⟨kP, hkP, -⟩ := className_of_methodNamed hnamed
  have hinitP : kP.init = .initialized := Cond.initialized_spec (findClass_of_methodNamed hnamed) hkP hinit
  obtain ⟨vm₁, X₁, hstep₁⟩ := X.invokestatic hexec hown hlink hnamed hmethM hstatic hkP hinitP hy (g := g) hg (argsL := argsL) (rest := rest) (hlen _ hsigM) hstack hdg
  rcases hK m meth c ⟨T.setVm vm₁, locs, cells, slots⟩ { g with stack := rest } (.invokestatic index) mk argsL.toArray X₁ hg hsize hdg hW (X₁.named hnamed) (hpre vm₁ X₁.warmed) with ⟨v, B, X', hpost, hsteps⟩ | ⟨q, B, X', hpost, hsteps⟩
  · exact Or.inl ⟨v, vm₁, B, X₁.warmed, X', hpost, fun target h => hstep₁ _ fun acts => by rw [doInvoke_state]; exact hsteps.trans h⟩
  · exact Or.inr ⟨q, vm₁, B, X₁.warmed, X', hpost, hstep₁ _ fun acts => by rw [doInvoke_state]; exact hsteps⟩
theorem vx_callVW (X : Stand p l e R s m args below meth c T locs cells slots) (hexec : p.tables.exec = Jvm.exec) {own C : String} {index : Nat} {y : MethodName} {bytes : ByteArray} {maxL : Nat} {ret : Option FieldType} {hh : List (Nat × Nat × Nat × Nat)}
    (hown : s.vm.findClass own = some m.cls) (hlink : (Cond.methodLink own index y).before args s = true) (hinst : (Cond.instanceMethod y).before args s = true) (hsel : (Cond.selects C y y).before args s = true)
    (hcode : (Cond.codeWith y bytes maxL ret hh).before args s = true) (hy : y.cls ≠ "java/lang/invoke/MethodHandle" ∧ y.cls ≠ "java/lang/invoke/VarHandle")
    {W9 : Nat} {Pre : Pt → Array Value → Prop} {Post : Pt → Array Value → Option Value → Pt → Prop} (hK : Back l R p e below s args y 3 W9 Pre Post)
    {b : Addr} {cellB : Cell} (hcell : T.heap[b]? = some cellB) (hobj : cellB.vm.isStatics = false) (hcls : s.vm.findClass C = some cellB.cls)
    {g : JFrame} (hg : g.method = m) (hsize : g.locals.size = c.maxLocals) {argsL rest : List Value} (hlen : ∀ sig, parseMethodDescriptor y.desc = some sig → argsL.length = sig.parameters.length)
    (hstack : g.stack = argsL.reverse ++ .ref b :: rest) (hW : 2 * g.monitorRoom + (rest.map fun v => v.category).sum ≤ W9) (hdg : decode c.code g.pc = .ok (.invokevirtual index, 3))
    (hpre : ∀ vm₁, s.WarmedH vm₁ → Pre ⟨T.setVm vm₁, locs, cells, slots⟩ (Value.ref b :: argsL).toArray) :
    ∃ (v : Option Value) (vm₁ : Vm) (B : Pt), s.WarmedH vm₁ ∧ Stand p l e R s m args below meth c B.U B.locs B.cells B.slots ∧ Post ⟨T.setVm vm₁, locs, cells, slots⟩ (Value.ref b :: argsL).toArray v B ∧
      ∀ target, Steps p.tables e below (B.U.setTop { g with pc := g.pc + 3, stack := v.toList ++ rest }) target → Steps p.tables e below (T.setTop g) target := by
  obtain ⟨mk, methM, hnamed, hmethM, hstM, habM⟩ := Cond.instanceMethod_spec hinst
  obtain ⟨m8, methM', cM, hn8, hmethM', -, -, -, -, -, -, hsigM⟩ := Cond.codeWith_spec hcode
  cases Option.some.inj (hn8.symm.trans hnamed)
  cases hmethM.symm.trans hmethM'
  obtain ⟨c2, r2, m2, q1, q2, q3, q4, kP, hkP, hkPi⟩ := Cond.selects_spec hsel
  cases hcls.symm.trans q1
  cases (State.methodFound?_of_named hnamed hy).symm.trans q2
  cases hnamed.symm.trans q3
  have hselP : selectMethod e.platform s.vm cellB.cls mk = .method mk := by rw [Launch.admits_selectMethod X.admits]; exact q4
  obtain ⟨vm₁, X₁, hstep₁⟩ := X.invokevirtual hexec hown hlink hnamed hmethM hstM hkP hkPi hy (a := b) (cell := cellB) hcell
    (fun z h => by rw [h] at hobj; cases hobj) hselP hmethM habM hkP hkPi (g := g) hg (argsL := argsL) (rest := rest) (hlen _ hsigM) hstack hdg
  obtain ⟨v, B, X', hpost, hsteps⟩ := hK m meth c ⟨T.setVm vm₁, locs, cells, slots⟩ { g with stack := rest } (.invokevirtual index) mk (Value.ref b :: argsL).toArray X₁ hg hsize hdg hW (X₁.named hnamed) (hpre vm₁ X₁.warmed)
  exact ⟨v, vm₁, B, X₁.warmed, X', hpost, fun target h => hstep₁ _ fun acts => by rw [doInvoke_state]; exact hsteps.trans h⟩
abbrev vx_CVW (R : Room) (s : State) (args : Array Value) (own C : String) (index : Nat) (y : MethodName) (bytes : ByteArray) (maxL : Nat) (ret : Option FieldType) (hh : List (Nat × Nat × Nat × Nat)) (ws : List Cond) (rm : Room) (mc ms n : Nat) : Prop :=
  (rm.cells = mc ∧ rm.slots = ms ∧ rm.frames + 1 ≤ R.frames ∧ 8 + (maxL + 11) + rm.locals ≤ R.locals ∧ (∀ w ∈ ws, ∀ (a' : Array Value) (U : State), s.WarmedH U.vm → w.before a' U = true) ∧ Cond.codeWith y bytes maxL ret hh ∈ ws) ∧
  (Cond.codeWith y bytes maxL ret hh).before args s = true ∧ (Cond.initialized y.cls).before args s = true ∧ (y.cls ≠ "java/lang/invoke/MethodHandle" ∧ y.cls ≠ "java/lang/invoke/VarHandle") ∧
  (∀ sig, parseMethodDescriptor y.desc = some sig → n = sig.parameters.length) ∧ (Cond.methodLink own index y).before args s = true ∧ (Cond.instanceMethod y).before args s = true ∧ (Cond.selects C y y).before args s = true
theorem vx_cwVW {own C : String} {index maxL mc ms : Nat} {y : MethodName} {bytes : ByteArray} {ret : Option FieldType} {hh : List (Nat × Nat × Nat × Nat)} {Ts ws ws' : List Cond} {rm : Room} (n : Nat) (ht : ∀ w ∈ Ts, w.before args s = true) (hT : GoodIn Ts (wsV own index C y ws)) (hw : ws = Cond.codeWith y bytes maxL ret hh :: ws') (hrc : rm.cells = mc) (hrs : rm.slots = ms)
    (hd : y.cls = C ∧ y.cls ≠ "java/lang/invoke/MethodHandle" ∧ y.cls ≠ "java/lang/invoke/VarHandle" ∧ (parseMethodDescriptor y.desc).map (fun d => d.parameters.length) = some n) (hR : rm.frames + 1 ≤ R.frames ∧ 8 + (maxL + 11) + rm.locals ≤ R.locals) :
    vx_CVW R s args own C index y bytes maxL ret hh ws rm mc ms n := by
  obtain ⟨hC, hd⟩ := hd
  subst hC
  have ok : ∀ w ∈ wsV own index y.cls y ws, w.before args s = true := fun w h => ht w (hT w h).1
  have hG : GoodIn Ts ws := fun w h => hT w (by unfold wsV; exact List.mem_append_right _ h)
  have hc : Cond.codeWith y bytes maxL ret hh ∈ ws := by rw [hw]; exact List.mem_cons_self
  refine ⟨⟨hrc, hrs, hR.1, hR.2, pay_in ht hG, hc⟩, ht _ (hG _ hc).1, ok _ (by simp [wsV]), ⟨hd.1, hd.2.1⟩, fun sig h => ?_, ok _ (by simp [wsV]), ok _ (by simp [wsV]), ok _ (by simp [wsV])⟩
  have h2 := hd.2.2
  rw [h] at h2
  exact (Option.some.inj h2).symm
theorem vx_runVW {y : MethodName} {bytes cc : ByteArray} {maxL nL mc ms n index : Nat} {ret : Option FieldType} {hh : List (Nat × Nat × Nat × Nat)} {ws : List Cond} {rm : Room} {Pc : Array Value → State → Prop} {Qc : Array Value → State → Outcome → State → Prop} {free : Addr → Prop} {Ts : List Cond} {own C : String} {b : Addr} {As rest : List Value} {g : JFrame}
    (S : CallFix p m c cc nL s args Ts own) (hM : Met l y ws rm Pc Qc mc ms free) (cw : vx_CVW R s args own C index y bytes maxL ret hh ws rm mc ms n) (hp : PreV s H C b Pc As)
    (hg : g.method = m) (hn : As.length = n) (hsize : g.locals.size = nL) (hstack : g.stack = As.reverse ++ .ref b :: rest) (hW : 2 * g.monitorRoom + (rest.map fun v => v.category).sum ≤ 8) (hdg : decode cc g.pc = .ok (.invokevirtual index, 3)) (hf : cells + mc ≤ R.cells ∧ slots + ms ≤ R.slots) :
    va_Run p l e R s m args below meth c H locs cells slots mc ms g rest (Qc (Value.ref b :: As).toArray) free := by
  obtain ⟨⟨hrc, hrs, hfr, hlo, hws, hcw⟩, hcode, hini, hy, hlen, hl, hin, hse⟩ := cw
  have hK : Back l R p e below s args y 3 8 (PreOf R mc ms Pc) (PostOf Qc mc ms free) := va_backW (hh := hh) (bytes := bytes) (maxL := maxL) (ret := ret) hM hp.1 hrc hrs hfr hlo hws hcw (fun a' U hW => word_at hW (Or.inl (by first | rfl | simp [Cond.onTables, Cond.keeps, Cond.steady])) hini)
  obtain ⟨hx, hb, hml, ho, -⟩ := S
  obtain ⟨-, ⟨cellB, hcB, hoB, hclB⟩, hPc⟩ := hp
  intro T hT X
  obtain ⟨v, vm₁, ⟨U', l2, c2, s2⟩, hW₁, X', ⟨g', mk, t, L, e1, e2, hq, h1, hL, h2, h3⟩, st⟩ := vx_callVW X hx (C := C) (hh := hh) (bytes := bytes) (maxL := maxL) (ret := ret) ho hl hin hse hcode hy hK (by rw [hT]; exact hcB) hoB hclB hg (hsize.trans hml.symm) (argsL := As) (rest := rest) (fun sig h => hn.trans (hlen sig h)) hstack hW (by rw [hb]; exact hdg)
    (fun vm₁ hW₁ => ⟨hf.1, hf.2, hPc (T.setVm vm₁) hT hW₁⟩)
  dsimp only [Pt.U, Pt.locs, Pt.cells, Pt.slots] at X' e1 e2 h1 h2 h3 st
  subst h1; subst h2; subst h3
  exact ⟨v, (T.setVm vm₁).calling g' mk (Value.ref b :: As).toArray, t, U', L, hT, X', hL, e1, e2, hq, st⟩
section
variable {y : MethodName} {bytes cc : ByteArray} {maxL nL mc ms n index : Nat} {ret : Option FieldType} {ws : List Cond} {rm : Room} {Pc : Array Value → State → Prop} {Qc : Array Value → State → Outcome → State → Prop} {XC : String → State → State → Prop} {free : Addr → Prop} {Ts : List Cond} {own C : String} {b : Addr} {As rest : List Value} {g : JFrame}
theorem vx_runVX {hh : List (Nat × Nat × Nat × Nat)} (S : CallFix p m c cc nL s args Ts own) (hM : vx_Met l y ws rm Pc Qc XC mc ms free) (cw : vx_CVW R s args own C index y bytes maxL ret hh ws rm mc ms n) (hp : PreV s H C b Pc As)
    (hg : g.method = m) (hn : As.length = n) (hsize : g.locals.size = nL) (hstack : g.stack = As.reverse ++ .ref b :: rest) (hW : 2 * g.monitorRoom + (rest.map fun v => v.category).sum ≤ 8) (hdg : decode cc g.pc = .ok (.invokevirtual index, 3)) (hf : cells + mc ≤ R.cells ∧ slots + ms ≤ R.slots) :
    vx_Run p l e R s m args below meth c H locs cells slots mc ms g rest (Qc (Value.ref b :: As).toArray) XC free := by
  obtain ⟨⟨hrc, hrs, hfr, hlo, hws, hcw⟩, hcode, hini, hy, hlen, hl, hin, hse⟩ := cw
  have hK : vx_Back l R p e below s args y 3 8 (PreOf R mc ms Pc) (PostOf Qc mc ms free) (vx_Post XC mc ms free) := vx_backW (hh := hh) (bytes := bytes) (maxL := maxL) (ret := ret) hM hp.1 hrc hrs hfr hlo hws hcw (fun a' U hW => word_at hW (Or.inl (by first | rfl | simp [Cond.onTables, Cond.keeps, Cond.steady])) hini)
  obtain ⟨hx, hb, hml, ho, -⟩ := S
  obtain ⟨-, ⟨cellB, hcB, hoB, hclB⟩, hPc⟩ := hp
  intro T hT X
  rcases vx_callVX X hx (C := C) (hh := hh) (bytes := bytes) (maxL := maxL) (ret := ret) ho hl hin hse hcode hy hK (by rw [hT]; exact hcB) hoB hclB hg (hsize.trans hml.symm) (argsL := As) (rest := rest) (fun sig h => hn.trans (hlen sig h)) hstack hW (by rw [hb]; exact hdg)
    (fun vm₁ hW₁ => ⟨hf.1, hf.2, hPc (T.setVm vm₁) hT hW₁⟩) with ⟨v, vm₁, ⟨U', l2, c2, s2⟩, hW₁, X', ⟨g', mk, t, L, e1, e2, hq, h1, hL, h2, h3⟩, st⟩ | ⟨q, vm₁, ⟨U', l2, c2, s2⟩, hW₁, X', ⟨g', mk, t, L, E, ce, e1, e2, hq, hce, hcv, hcl, h1, hL, h2, h3⟩, st⟩
  · dsimp only [Pt.U, Pt.locs, Pt.cells, Pt.slots] at X' e1 e2 h1 h2 h3 st
    subst h1; subst h2; subst h3
    exact Or.inl ⟨v, (T.setVm vm₁).calling g' mk (Value.ref b :: As).toArray, t, U', L, hT, X', hL, e1, e2, hq, st⟩
  · dsimp only [Pt.U, Pt.locs, Pt.cells, Pt.slots] at X' e1 e2 h1 h2 h3 st hcl
    subst h1; subst h2; subst h3
    exact Or.inr ⟨q, (T.setVm vm₁).calling g' mk (Value.ref b :: As).toArray, t, U', L, E, ce, hT, X', hL, e1, e2, hq, hce, hcv, vx_cls hW₁ hcl, st⟩
theorem vx_runSX {hh : List (Nat × Nat × Nat × Nat)} (S : CallFix p m c cc nL s args Ts own) (hM : vx_Met l y ws rm Pc Qc XC mc ms free) (cw : vx_CSW R s args own index y bytes maxL ret hh ws rm mc ms n) (hp : PreS s H Pc As)
    (hg : g.method = m) (hn : As.length = n) (hsize : g.locals.size = nL) (hstack : g.stack = As.reverse ++ rest) (hW : 2 * g.monitorRoom + (rest.map fun v => v.category).sum ≤ 8) (hdg : decode cc g.pc = .ok (.invokestatic index, 3)) (hf : cells + mc ≤ R.cells ∧ slots + ms ≤ R.slots) :
    vx_Run p l e R s m args below meth c H locs cells slots mc ms g rest (Qc As.toArray) XC free := by
  obtain ⟨⟨hrc, hrs, hfr, hlo, hws, hcw⟩, hcode, hini, hy, hlen, hl, hstt⟩ := cw
  have hK : vx_Back l R p e below s args y 3 8 (PreOf R mc ms Pc) (PostOf Qc mc ms free) (vx_Post XC mc ms free) := vx_backW (hh := hh) (bytes := bytes) (maxL := maxL) (ret := ret) hM hp.1 hrc hrs hfr hlo hws hcw (fun a' U hW => word_at hW (Or.inl (by first | rfl | simp [Cond.onTables, Cond.keeps, Cond.steady])) hini)
  obtain ⟨hx, hb, hml, ho, -⟩ := S
  intro T hT X
  rcases vx_callSX X hx (hh := hh) (bytes := bytes) (maxL := maxL) (ret := ret) ho hl hstt hini hcode hy hK hg (hsize.trans hml.symm) (argsL := As) (rest := rest) (fun sig h => hn.trans (hlen sig h)) hstack hW (by rw [hb]; exact hdg)
    (fun vm₁ hW₁ => ⟨hf.1, hf.2, hp.2 (T.setVm vm₁) hT hW₁⟩) with ⟨v, vm₁, ⟨U', l2, c2, s2⟩, hW₁, X', ⟨g', mk, t, L, e1, e2, hq, h1, hL, h2, h3⟩, st⟩ | ⟨q, vm₁, ⟨U', l2, c2, s2⟩, hW₁, X', ⟨g', mk, t, L, E, ce, e1, e2, hq, hce, hcv, hcl, h1, hL, h2, h3⟩, st⟩
  · dsimp only [Pt.U, Pt.locs, Pt.cells, Pt.slots] at X' e1 e2 h1 h2 h3 st
    subst h1; subst h2; subst h3
    exact Or.inl ⟨v, (T.setVm vm₁).calling g' mk As.toArray, t, U', L, hT, X', hL, e1, e2, hq, st⟩
  · dsimp only [Pt.U, Pt.locs, Pt.cells, Pt.slots] at X' e1 e2 h1 h2 h3 st hcl
    subst h1; subst h2; subst h3
    exact Or.inr ⟨q, (T.setVm vm₁).calling g' mk As.toArray, t, U', L, E, ce, hT, X', hL, e1, e2, hq, hce, hcv, vx_cls hW₁ hcl, st⟩
end
end VXH
theorem vx_ofWH {l : Launch} {y : MethodName} {ws ws' : List Cond} {rm : Room} {Pc : Array Value → State → Prop} {Qc : Array Value → State → Outcome → State → Prop} {XC : String → State → State → Prop} {mc ms : Nat} {free : Addr → Prop} {cc : ByteArray} {maxL : Nat} {ret : Option FieldType} {hh : List (Nat × Nat × Nat × Nat)}
    (hy : plainName y.cls = true) (hw : ws = Cond.codeWith y cc maxL ret hh :: ws')
    (body : ∀ p e s m args below meth c s₁, BodyLoose p l y (headSpec ws rm) cc maxL ret e s m args below meth c s₁ → c.maxLocals = maxL → Pc args s →
      W p l e (headSpec ws rm).room s m args below meth c s.heap [] 0 0 (vx_MQ below Qc XC args s mc ms free) (entryFrame m args maxL)) : vx_Met l y ws rm Pc Qc XC mc ms free := by
  refine MetFree.of_bodyS (code := cc) (maxLocals := maxL) (ret := ret) hy ?_ ?_
  · intro args s m h hn
    obtain ⟨m9, meth, c, hn9, h1, h2, h3, h4, -, h5, h6, -⟩ := Cond.codeWith_spec (atoms_spec (ws := ws) h _ (by rw [hw]; exact List.mem_cons_self))
    cases hn.symm.trans hn9
    exact ⟨meth, c, h1, h2, h3, h4, h5, h6⟩
  · intro p e s m args below meth c s₁ B hml hP _
    have hh0 : s₁.heap = s.heap := by rw [B.state]; rfl
    obtain ⟨t, a1, o, b1, b2, b3⟩ := body p e s m args below meth c s₁ B hml hP s₁ hh0 (Stand.of_body B)
    exact ⟨t, o, a1, b1, b2, b3⟩
/-! ===== END ===== -/
end
section
-- ===== PART A: goes FIRST, ahead of the names: the tables' words, and 'selects' of the private methods out of them =====
/-- a private method of a class that the tables say can be made, by its rows of tables_1 -/
def lw_okq (q : MethodName × Nat) : Prop := (q.1.cls ≠ "java/lang/invoke/MethodHandle" ∧ q.1.cls ≠ "java/lang/invoke/VarHandle") ∧ Cond.instantiable q.1.cls q.2 ∈ tables_1 ∧ Cond.privateMethod q.1 ∈ tables_1 ∧ Cond.instanceMethod q.1 ∈ tables_1
theorem lw_p0 : lw_okq (⟨"BeardHall", "putBytes", "(I)V"⟩, 14) := ⟨⟨by decide +kernel, by decide +kernel⟩, List.mem_of_getElem? (i := 28) (by decide +kernel), List.mem_of_getElem? (i := 411) (by decide +kernel), List.mem_of_getElem? (i := 412) (by decide +kernel)⟩
theorem lw_p1 : lw_okq (⟨"BeardHall", "refuseAct", "()I"⟩, 14) := ⟨⟨by decide +kernel, by decide +kernel⟩, List.mem_of_getElem? (i := 28) (by decide +kernel), List.mem_of_getElem? (i := 423) (by decide +kernel), List.mem_of_getElem? (i := 424) (by decide +kernel)⟩
theorem lw_p2 : lw_okq (⟨"BeardHall$Hair", "between", "(III)I"⟩, 7) := ⟨⟨by decide +kernel, by decide +kernel⟩, List.mem_of_getElem? (i := 121) (by decide +kernel), List.mem_of_getElem? (i := 460) (by decide +kernel), List.mem_of_getElem? (i := 461) (by decide +kernel)⟩
theorem lw_p3 : lw_okq (⟨"BeardHall$Laws", "areRivals", "(II)Z"⟩, 2) := ⟨⟨by decide +kernel, by decide +kernel⟩, List.mem_of_getElem? (i := 272) (by decide +kernel), List.mem_of_getElem? (i := 513) (by decide +kernel), List.mem_of_getElem? (i := 514) (by decide +kernel)⟩
theorem lw_p4 : lw_okq (⟨"BeardHall$Laws", "differ", "(II)Z"⟩, 2) := ⟨⟨by decide +kernel, by decide +kernel⟩, List.mem_of_getElem? (i := 272) (by decide +kernel), List.mem_of_getElem? (i := 519) (by decide +kernel), List.mem_of_getElem? (i := 520) (by decide +kernel)⟩
theorem lw_p5 : lw_okq (⟨"BeardHall$Keeping", "unionOf", "(I)I"⟩, 3) := ⟨⟨by decide +kernel, by decide +kernel⟩, List.mem_of_getElem? (i := 285) (by decide +kernel), List.mem_of_getElem? (i := 549) (by decide +kernel), List.mem_of_getElem? (i := 550) (by decide +kernel)⟩
theorem lw_p6 : lw_okq (⟨"java/lang/Throwable", "fillInStackTrace", "(I)Ljava/lang/Throwable;"⟩, 6) := ⟨⟨by decide +kernel, by decide +kernel⟩, List.mem_of_getElem? (i := 647) (by decide +kernel), List.mem_of_getElem? (i := 645) (by decide +kernel), List.mem_of_getElem? (i := 646) (by decide +kernel)⟩
theorem lw_p7 : lw_okq (⟨"BeardHall$Reader", "advance", "()V"⟩, 11) := ⟨⟨by decide +kernel, by decide +kernel⟩, List.mem_of_getElem? (i := 36) (by decide +kernel), List.mem_of_getElem? (i := 683) (by decide +kernel), List.mem_of_getElem? (i := 684) (by decide +kernel)⟩
theorem lw_p8 : lw_okq (⟨"BeardHall$Reader", "takeWord", "()V"⟩, 11) := ⟨⟨by decide +kernel, by decide +kernel⟩, List.mem_of_getElem? (i := 36) (by decide +kernel), List.mem_of_getElem? (i := 693) (by decide +kernel), List.mem_of_getElem? (i := 694) (by decide +kernel)⟩
theorem lw_p9 : lw_okq (⟨"BeardHall$Reader", "takeDigits", "()V"⟩, 11) := ⟨⟨by decide +kernel, by decide +kernel⟩, List.mem_of_getElem? (i := 36) (by decide +kernel), List.mem_of_getElem? (i := 749) (by decide +kernel), List.mem_of_getElem? (i := 750) (by decide +kernel)⟩
theorem lw_p10 : lw_okq (⟨"BeardHall$Reader", "readMonk", "(I)V"⟩, 11) := ⟨⟨by decide +kernel, by decide +kernel⟩, List.mem_of_getElem? (i := 36) (by decide +kernel), List.mem_of_getElem? (i := 756) (by decide +kernel), List.mem_of_getElem? (i := 757) (by decide +kernel)⟩
theorem lw_p11 : lw_okq (⟨"BeardHall$Reader", "fail", "(I)V"⟩, 11) := ⟨⟨by decide +kernel, by decide +kernel⟩, List.mem_of_getElem? (i := 36) (by decide +kernel), List.mem_of_getElem? (i := 760) (by decide +kernel), List.mem_of_getElem? (i := 761) (by decide +kernel)⟩
theorem lw_p12 : lw_okq (⟨"BeardHall$Reader", "takeNumber", "(II)I"⟩, 11) := ⟨⟨by decide +kernel, by decide +kernel⟩, List.mem_of_getElem? (i := 36) (by decide +kernel), List.mem_of_getElem? (i := 764) (by decide +kernel), List.mem_of_getElem? (i := 765) (by decide +kernel)⟩
theorem lw_p13 : lw_okq (⟨"BeardHall$Reader", "needNumber", "()V"⟩, 11) := ⟨⟨by decide +kernel, by decide +kernel⟩, List.mem_of_getElem? (i := 36) (by decide +kernel), List.mem_of_getElem? (i := 768) (by decide +kernel), List.mem_of_getElem? (i := 769) (by decide +kernel)⟩
theorem lw_p14 : lw_okq (⟨"BeardHall$Reader", "takenOrNone", "()I"⟩, 11) := ⟨⟨by decide +kernel, by decide +kernel⟩, List.mem_of_getElem? (i := 36) (by decide +kernel), List.mem_of_getElem? (i := 772) (by decide +kernel), List.mem_of_getElem? (i := 773) (by decide +kernel)⟩
theorem lw_p15 : lw_okq (⟨"BeardHall$Reader", "readEntry", "(I)V"⟩, 11) := ⟨⟨by decide +kernel, by decide +kernel⟩, List.mem_of_getElem? (i := 36) (by decide +kernel), List.mem_of_getElem? (i := 777) (by decide +kernel), List.mem_of_getElem? (i := 778) (by decide +kernel)⟩
def lw_privs_1 : List (MethodName × Nat) := [(⟨"BeardHall", "putBytes", "(I)V"⟩, 14), (⟨"BeardHall", "refuseAct", "()I"⟩, 14), (⟨"BeardHall$Hair", "between", "(III)I"⟩, 7), (⟨"BeardHall$Laws", "areRivals", "(II)Z"⟩, 2), (⟨"BeardHall$Laws", "differ", "(II)Z"⟩, 2), (⟨"BeardHall$Keeping", "unionOf", "(I)I"⟩, 3), (⟨"java/lang/Throwable", "fillInStackTrace", "(I)Ljava/lang/Throwable;"⟩, 6), (⟨"BeardHall$Reader", "advance", "()V"⟩, 11), (⟨"BeardHall$Reader", "takeWord", "()V"⟩, 11), (⟨"BeardHall$Reader", "takeDigits", "()V"⟩, 11), (⟨"BeardHall$Reader", "readMonk", "(I)V"⟩, 11), (⟨"BeardHall$Reader", "fail", "(I)V"⟩, 11), (⟨"BeardHall$Reader", "takeNumber", "(II)I"⟩, 11), (⟨"BeardHall$Reader", "needNumber", "()V"⟩, 11), (⟨"BeardHall$Reader", "takenOrNone", "()I"⟩, 11), (⟨"BeardHall$Reader", "readEntry", "(I)V"⟩, 11)]
theorem lw_r1 : ∀ q ∈ lw_privs_1, lw_okq q := List.forall_mem_cons.mpr ⟨lw_p0, List.forall_mem_cons.mpr ⟨lw_p1, List.forall_mem_cons.mpr ⟨lw_p2, List.forall_mem_cons.mpr ⟨lw_p3, List.forall_mem_cons.mpr ⟨lw_p4, List.forall_mem_cons.mpr ⟨lw_p5, List.forall_mem_cons.mpr ⟨lw_p6, List.forall_mem_cons.mpr ⟨lw_p7, List.forall_mem_cons.mpr ⟨lw_p8, List.forall_mem_cons.mpr ⟨lw_p9, List.forall_mem_cons.mpr ⟨lw_p10, List.forall_mem_cons.mpr ⟨lw_p11, List.forall_mem_cons.mpr ⟨lw_p12, List.forall_mem_cons.mpr ⟨lw_p13, List.forall_mem_cons.mpr ⟨lw_p14, List.forall_mem_cons.mpr ⟨lw_p15, fun _ h => absurd h List.not_mem_nil⟩⟩⟩⟩⟩⟩⟩⟩⟩⟩⟩⟩⟩⟩⟩⟩
theorem lw_p16 : lw_okq (⟨"BeardHall$Reader", "takeTold", "(I)I"⟩, 11) := ⟨⟨by decide +kernel, by decide +kernel⟩, List.mem_of_getElem? (i := 36) (by decide +kernel), List.mem_of_getElem? (i := 785) (by decide +kernel), List.mem_of_getElem? (i := 786) (by decide +kernel)⟩
theorem lw_p17 : lw_okq (⟨"BeardHall$Hair", "settle", "(II)V"⟩, 7) := ⟨⟨by decide +kernel, by decide +kernel⟩, List.mem_of_getElem? (i := 121) (by decide +kernel), List.mem_of_getElem? (i := 797) (by decide +kernel), List.mem_of_getElem? (i := 798) (by decide +kernel)⟩
theorem lw_p18 : lw_okq (⟨"BeardHall$Reader", "readCopy", "()V"⟩, 11) := ⟨⟨by decide +kernel, by decide +kernel⟩, List.mem_of_getElem? (i := 36) (by decide +kernel), List.mem_of_getElem? (i := 806) (by decide +kernel), List.mem_of_getElem? (i := 807) (by decide +kernel)⟩
theorem lw_p19 : lw_okq (⟨"BeardHall$Reader", "takeCopier", "(I)I"⟩, 11) := ⟨⟨by decide +kernel, by decide +kernel⟩, List.mem_of_getElem? (i := 36) (by decide +kernel), List.mem_of_getElem? (i := 811) (by decide +kernel), List.mem_of_getElem? (i := 812) (by decide +kernel)⟩
theorem lw_p20 : lw_okq (⟨"BeardHall$Reader", "readSetting", "(I)V"⟩, 11) := ⟨⟨by decide +kernel, by decide +kernel⟩, List.mem_of_getElem? (i := 36) (by decide +kernel), List.mem_of_getElem? (i := 824) (by decide +kernel), List.mem_of_getElem? (i := 825) (by decide +kernel)⟩
theorem lw_p21 : lw_okq (⟨"BeardHall$Reader", "readExpr", "(I)V"⟩, 11) := ⟨⟨by decide +kernel, by decide +kernel⟩, List.mem_of_getElem? (i := 36) (by decide +kernel), List.mem_of_getElem? (i := 828) (by decide +kernel), List.mem_of_getElem? (i := 829) (by decide +kernel)⟩
theorem lw_p22 : lw_okq (⟨"BeardHall$Reader", "canBegin", "()Z"⟩, 11) := ⟨⟨by decide +kernel, by decide +kernel⟩, List.mem_of_getElem? (i := 36) (by decide +kernel), List.mem_of_getElem? (i := 832) (by decide +kernel), List.mem_of_getElem? (i := 833) (by decide +kernel)⟩
theorem lw_p23 : lw_okq (⟨"BeardHall$Reader", "readAnd", "(I)V"⟩, 11) := ⟨⟨by decide +kernel, by decide +kernel⟩, List.mem_of_getElem? (i := 36) (by decide +kernel), List.mem_of_getElem? (i := 836) (by decide +kernel), List.mem_of_getElem? (i := 837) (by decide +kernel)⟩
theorem lw_p24 : lw_okq (⟨"BeardHall$Reader", "readNot", "(I)V"⟩, 11) := ⟨⟨by decide +kernel, by decide +kernel⟩, List.mem_of_getElem? (i := 36) (by decide +kernel), List.mem_of_getElem? (i := 840) (by decide +kernel), List.mem_of_getElem? (i := 841) (by decide +kernel)⟩
theorem lw_p25 : lw_okq (⟨"BeardHall$Reader", "readTest", "(I)V"⟩, 11) := ⟨⟨by decide +kernel, by decide +kernel⟩, List.mem_of_getElem? (i := 36) (by decide +kernel), List.mem_of_getElem? (i := 844) (by decide +kernel), List.mem_of_getElem? (i := 845) (by decide +kernel)⟩
theorem lw_p26 : lw_okq (⟨"BeardHall$Reader", "readSum", "(I)V"⟩, 11) := ⟨⟨by decide +kernel, by decide +kernel⟩, List.mem_of_getElem? (i := 36) (by decide +kernel), List.mem_of_getElem? (i := 848) (by decide +kernel), List.mem_of_getElem? (i := 849) (by decide +kernel)⟩
theorem lw_p27 : lw_okq (⟨"BeardHall$Reader", "readProduct", "(I)V"⟩, 11) := ⟨⟨by decide +kernel, by decide +kernel⟩, List.mem_of_getElem? (i := 36) (by decide +kernel), List.mem_of_getElem? (i := 852) (by decide +kernel), List.mem_of_getElem? (i := 853) (by decide +kernel)⟩
theorem lw_p28 : lw_okq (⟨"BeardHall$Reader", "readPart", "(I)V"⟩, 11) := ⟨⟨by decide +kernel, by decide +kernel⟩, List.mem_of_getElem? (i := 36) (by decide +kernel), List.mem_of_getElem? (i := 856) (by decide +kernel), List.mem_of_getElem? (i := 857) (by decide +kernel)⟩
theorem lw_p29 : lw_okq (⟨"BeardHall$Reader", "expect", "(I)V"⟩, 11) := ⟨⟨by decide +kernel, by decide +kernel⟩, List.mem_of_getElem? (i := 36) (by decide +kernel), List.mem_of_getElem? (i := 860) (by decide +kernel), List.mem_of_getElem? (i := 861) (by decide +kernel)⟩
theorem lw_p30 : lw_okq (⟨"BeardHall", "needMonk", "(I)V"⟩, 14) := ⟨⟨by decide +kernel, by decide +kernel⟩, List.mem_of_getElem? (i := 28) (by decide +kernel), List.mem_of_getElem? (i := 916) (by decide +kernel), List.mem_of_getElem? (i := 917) (by decide +kernel)⟩
theorem lw_p31 : lw_okq (⟨"BeardHall", "needEntry", "(I)V"⟩, 14) := ⟨⟨by decide +kernel, by decide +kernel⟩, List.mem_of_getElem? (i := 28) (by decide +kernel), List.mem_of_getElem? (i := 940) (by decide +kernel), List.mem_of_getElem? (i := 941) (by decide +kernel)⟩
def lw_privs_2 : List (MethodName × Nat) := [(⟨"BeardHall$Reader", "takeTold", "(I)I"⟩, 11), (⟨"BeardHall$Hair", "settle", "(II)V"⟩, 7), (⟨"BeardHall$Reader", "readCopy", "()V"⟩, 11), (⟨"BeardHall$Reader", "takeCopier", "(I)I"⟩, 11), (⟨"BeardHall$Reader", "readSetting", "(I)V"⟩, 11), (⟨"BeardHall$Reader", "readExpr", "(I)V"⟩, 11), (⟨"BeardHall$Reader", "canBegin", "()Z"⟩, 11), (⟨"BeardHall$Reader", "readAnd", "(I)V"⟩, 11), (⟨"BeardHall$Reader", "readNot", "(I)V"⟩, 11), (⟨"BeardHall$Reader", "readTest", "(I)V"⟩, 11), (⟨"BeardHall$Reader", "readSum", "(I)V"⟩, 11), (⟨"BeardHall$Reader", "readProduct", "(I)V"⟩, 11), (⟨"BeardHall$Reader", "readPart", "(I)V"⟩, 11), (⟨"BeardHall$Reader", "expect", "(I)V"⟩, 11), (⟨"BeardHall", "needMonk", "(I)V"⟩, 14), (⟨"BeardHall", "needEntry", "(I)V"⟩, 14)]
theorem lw_r2 : ∀ q ∈ lw_privs_2, lw_okq q := List.forall_mem_cons.mpr ⟨lw_p16, List.forall_mem_cons.mpr ⟨lw_p17, List.forall_mem_cons.mpr ⟨lw_p18, List.forall_mem_cons.mpr ⟨lw_p19, List.forall_mem_cons.mpr ⟨lw_p20, List.forall_mem_cons.mpr ⟨lw_p21, List.forall_mem_cons.mpr ⟨lw_p22, List.forall_mem_cons.mpr ⟨lw_p23, List.forall_mem_cons.mpr ⟨lw_p24, List.forall_mem_cons.mpr ⟨lw_p25, List.forall_mem_cons.mpr ⟨lw_p26, List.forall_mem_cons.mpr ⟨lw_p27, List.forall_mem_cons.mpr ⟨lw_p28, List.forall_mem_cons.mpr ⟨lw_p29, List.forall_mem_cons.mpr ⟨lw_p30, List.forall_mem_cons.mpr ⟨lw_p31, fun _ h => absurd h List.not_mem_nil⟩⟩⟩⟩⟩⟩⟩⟩⟩⟩⟩⟩⟩⟩⟩⟩
theorem lw_p32 : lw_okq (⟨"BeardHall", "tellRule", "(III)V"⟩, 14) := ⟨⟨by decide +kernel, by decide +kernel⟩, List.mem_of_getElem? (i := 28) (by decide +kernel), List.mem_of_getElem? (i := 975) (by decide +kernel), List.mem_of_getElem? (i := 976) (by decide +kernel)⟩
theorem lw_p33 : lw_okq (⟨"BeardHall", "mayBeHandled", "(I)Z"⟩, 14) := ⟨⟨by decide +kernel, by decide +kernel⟩, List.mem_of_getElem? (i := 28) (by decide +kernel), List.mem_of_getElem? (i := 1024) (by decide +kernel), List.mem_of_getElem? (i := 1025) (by decide +kernel)⟩
theorem lw_p34 : lw_okq (⟨"BeardHall$Laws", "isThereOf", "(III)Z"⟩, 2) := ⟨⟨by decide +kernel, by decide +kernel⟩, List.mem_of_getElem? (i := 272) (by decide +kernel), List.mem_of_getElem? (i := 1081) (by decide +kernel), List.mem_of_getElem? (i := 1082) (by decide +kernel)⟩
theorem lw_p35 : lw_okq (⟨"BeardHall$Laws", "owing", "(I)I"⟩, 2) := ⟨⟨by decide +kernel, by decide +kernel⟩, List.mem_of_getElem? (i := 272) (by decide +kernel), List.mem_of_getElem? (i := 1098) (by decide +kernel), List.mem_of_getElem? (i := 1099) (by decide +kernel)⟩
theorem lw_p36 : lw_okq (⟨"BeardHall$Keeping", "shavableOnes", "()I"⟩, 3) := ⟨⟨by decide +kernel, by decide +kernel⟩, List.mem_of_getElem? (i := 285) (by decide +kernel), List.mem_of_getElem? (i := 1114) (by decide +kernel), List.mem_of_getElem? (i := 1115) (by decide +kernel)⟩
theorem lw_p37 : lw_okq (⟨"BeardHall$Keeping", "dayOf", "(I)I"⟩, 3) := ⟨⟨by decide +kernel, by decide +kernel⟩, List.mem_of_getElem? (i := 285) (by decide +kernel), List.mem_of_getElem? (i := 1174) (by decide +kernel), List.mem_of_getElem? (i := 1175) (by decide +kernel)⟩
theorem lw_p38 : lw_okq (⟨"BeardHall$Laws", "monksSaying", "(II)I"⟩, 2) := ⟨⟨by decide +kernel, by decide +kernel⟩, List.mem_of_getElem? (i := 272) (by decide +kernel), List.mem_of_getElem? (i := 1202) (by decide +kernel), List.mem_of_getElem? (i := 1203) (by decide +kernel)⟩
theorem lw_p39 : lw_okq (⟨"BeardHall$Seen", "wouldBeSo", "(LBeardHall$Hair;I)Z"⟩, 3) := ⟨⟨by decide +kernel, by decide +kernel⟩, List.mem_of_getElem? (i := 219) (by decide +kernel), List.mem_of_getElem? (i := 1277) (by decide +kernel), List.mem_of_getElem? (i := 1278) (by decide +kernel)⟩
theorem lw_p40 : lw_okq (⟨"BeardHall$Game", "rests", "(II)Z"⟩, 5) := ⟨⟨by decide +kernel, by decide +kernel⟩, List.mem_of_getElem? (i := 301) (by decide +kernel), List.mem_of_getElem? (i := 1307) (by decide +kernel), List.mem_of_getElem? (i := 1308) (by decide +kernel)⟩
theorem lw_p41 : lw_okq (⟨"BeardHall$Game", "isShavable", "(I)Z"⟩, 5) := ⟨⟨by decide +kernel, by decide +kernel⟩, List.mem_of_getElem? (i := 301) (by decide +kernel), List.mem_of_getElem? (i := 1311) (by decide +kernel), List.mem_of_getElem? (i := 1312) (by decide +kernel)⟩
theorem lw_p42 : lw_okq (⟨"BeardHall$Season", "draw", "(I)I"⟩, 4) := ⟨⟨by decide +kernel, by decide +kernel⟩, List.mem_of_getElem? (i := 323) (by decide +kernel), List.mem_of_getElem? (i := 1333) (by decide +kernel), List.mem_of_getElem? (i := 1334) (by decide +kernel)⟩
theorem lw_p43 : lw_okq (⟨"BeardHall$Season", "visit", "(I)V"⟩, 4) := ⟨⟨by decide +kernel, by decide +kernel⟩, List.mem_of_getElem? (i := 323) (by decide +kernel), List.mem_of_getElem? (i := 1338) (by decide +kernel), List.mem_of_getElem? (i := 1339) (by decide +kernel)⟩
theorem lw_p44 : lw_okq (⟨"BeardHallModel", "fail", "(I)I"⟩, 43) := ⟨⟨by decide +kernel, by decide +kernel⟩, List.mem_of_getElem? (i := 1346) (by decide +kernel), List.mem_of_getElem? (i := 1511) (by decide +kernel), List.mem_of_getElem? (i := 1512) (by decide +kernel)⟩
theorem lw_p45 : lw_okq (⟨"BeardHallModel", "stepOn", "()V"⟩, 43) := ⟨⟨by decide +kernel, by decide +kernel⟩, List.mem_of_getElem? (i := 1346) (by decide +kernel), List.mem_of_getElem? (i := 1515) (by decide +kernel), List.mem_of_getElem? (i := 1516) (by decide +kernel)⟩
theorem lw_p46 : lw_okq (⟨"BeardHallModel", "byteAt", "(I)I"⟩, 43) := ⟨⟨by decide +kernel, by decide +kernel⟩, List.mem_of_getElem? (i := 1346) (by decide +kernel), List.mem_of_getElem? (i := 1519) (by decide +kernel), List.mem_of_getElem? (i := 1520) (by decide +kernel)⟩
theorem lw_p47 : lw_okq (⟨"BeardHallModel", "readLine", "(I)I"⟩, 43) := ⟨⟨by decide +kernel, by decide +kernel⟩, List.mem_of_getElem? (i := 1346) (by decide +kernel), List.mem_of_getElem? (i := 1534) (by decide +kernel), List.mem_of_getElem? (i := 1535) (by decide +kernel)⟩
def lw_privs_3 : List (MethodName × Nat) := [(⟨"BeardHall", "tellRule", "(III)V"⟩, 14), (⟨"BeardHall", "mayBeHandled", "(I)Z"⟩, 14), (⟨"BeardHall$Laws", "isThereOf", "(III)Z"⟩, 2), (⟨"BeardHall$Laws", "owing", "(I)I"⟩, 2), (⟨"BeardHall$Keeping", "shavableOnes", "()I"⟩, 3), (⟨"BeardHall$Keeping", "dayOf", "(I)I"⟩, 3), (⟨"BeardHall$Laws", "monksSaying", "(II)I"⟩, 2), (⟨"BeardHall$Seen", "wouldBeSo", "(LBeardHall$Hair;I)Z"⟩, 3), (⟨"BeardHall$Game", "rests", "(II)Z"⟩, 5), (⟨"BeardHall$Game", "isShavable", "(I)Z"⟩, 5), (⟨"BeardHall$Season", "draw", "(I)I"⟩, 4), (⟨"BeardHall$Season", "visit", "(I)V"⟩, 4), (⟨"BeardHallModel", "fail", "(I)I"⟩, 43), (⟨"BeardHallModel", "stepOn", "()V"⟩, 43), (⟨"BeardHallModel", "byteAt", "(I)I"⟩, 43), (⟨"BeardHallModel", "readLine", "(I)I"⟩, 43)]
theorem lw_r3 : ∀ q ∈ lw_privs_3, lw_okq q := List.forall_mem_cons.mpr ⟨lw_p32, List.forall_mem_cons.mpr ⟨lw_p33, List.forall_mem_cons.mpr ⟨lw_p34, List.forall_mem_cons.mpr ⟨lw_p35, List.forall_mem_cons.mpr ⟨lw_p36, List.forall_mem_cons.mpr ⟨lw_p37, List.forall_mem_cons.mpr ⟨lw_p38, List.forall_mem_cons.mpr ⟨lw_p39, List.forall_mem_cons.mpr ⟨lw_p40, List.forall_mem_cons.mpr ⟨lw_p41, List.forall_mem_cons.mpr ⟨lw_p42, List.forall_mem_cons.mpr ⟨lw_p43, List.forall_mem_cons.mpr ⟨lw_p44, List.forall_mem_cons.mpr ⟨lw_p45, List.forall_mem_cons.mpr ⟨lw_p46, List.forall_mem_cons.mpr ⟨lw_p47, fun _ h => absurd h List.not_mem_nil⟩⟩⟩⟩⟩⟩⟩⟩⟩⟩⟩⟩⟩⟩⟩⟩
theorem lw_p48 : lw_okq (⟨"BeardHallModel", "is", "(Ljava/lang/String;)Z"⟩, 43) := ⟨⟨by decide +kernel, by decide +kernel⟩, List.mem_of_getElem? (i := 1346) (by decide +kernel), List.mem_of_getElem? (i := 1539) (by decide +kernel), List.mem_of_getElem? (i := 1540) (by decide +kernel)⟩
theorem lw_p49 : lw_okq (⟨"BeardHallModel", "which", "([Ljava/lang/String;)I"⟩, 43) := ⟨⟨by decide +kernel, by decide +kernel⟩, List.mem_of_getElem? (i := 1346) (by decide +kernel), List.mem_of_getElem? (i := 1547) (by decide +kernel), List.mem_of_getElem? (i := 1548) (by decide +kernel)⟩
theorem lw_p50 : lw_okq (⟨"BeardHallModel", "wrong", "(I)V"⟩, 43) := ⟨⟨by decide +kernel, by decide +kernel⟩, List.mem_of_getElem? (i := 1346) (by decide +kernel), List.mem_of_getElem? (i := 1551) (by decide +kernel), List.mem_of_getElem? (i := 1552) (by decide +kernel)⟩
theorem lw_p51 : lw_okq (⟨"BeardHallModel", "readNumber", "(II)I"⟩, 43) := ⟨⟨by decide +kernel, by decide +kernel⟩, List.mem_of_getElem? (i := 1346) (by decide +kernel), List.mem_of_getElem? (i := 1555) (by decide +kernel), List.mem_of_getElem? (i := 1556) (by decide +kernel)⟩
theorem lw_p52 : lw_okq (⟨"BeardHallModel", "numberNow", "(II)I"⟩, 43) := ⟨⟨by decide +kernel, by decide +kernel⟩, List.mem_of_getElem? (i := 1346) (by decide +kernel), List.mem_of_getElem? (i := 1559) (by decide +kernel), List.mem_of_getElem? (i := 1560) (by decide +kernel)⟩
theorem lw_p53 : lw_okq (⟨"BeardHallModel", "readExpression", "(I)V"⟩, 43) := ⟨⟨by decide +kernel, by decide +kernel⟩, List.mem_of_getElem? (i := 1346) (by decide +kernel), List.mem_of_getElem? (i := 1563) (by decide +kernel), List.mem_of_getElem? (i := 1564) (by decide +kernel)⟩
theorem lw_p54 : lw_okq (⟨"BeardHallModel", "isMarked", "(I)Z"⟩, 43) := ⟨⟨by decide +kernel, by decide +kernel⟩, List.mem_of_getElem? (i := 1346) (by decide +kernel), List.mem_of_getElem? (i := 1567) (by decide +kernel), List.mem_of_getElem? (i := 1568) (by decide +kernel)⟩
theorem lw_p55 : lw_okq (⟨"BeardHallModel", "readAnd", "(I)V"⟩, 43) := ⟨⟨by decide +kernel, by decide +kernel⟩, List.mem_of_getElem? (i := 1346) (by decide +kernel), List.mem_of_getElem? (i := 1571) (by decide +kernel), List.mem_of_getElem? (i := 1572) (by decide +kernel)⟩
theorem lw_p56 : lw_okq (⟨"BeardHallModel", "readNot", "(I)V"⟩, 43) := ⟨⟨by decide +kernel, by decide +kernel⟩, List.mem_of_getElem? (i := 1346) (by decide +kernel), List.mem_of_getElem? (i := 1575) (by decide +kernel), List.mem_of_getElem? (i := 1576) (by decide +kernel)⟩
theorem lw_p57 : lw_okq (⟨"BeardHallModel", "readSum", "(I)V"⟩, 43) := ⟨⟨by decide +kernel, by decide +kernel⟩, List.mem_of_getElem? (i := 1346) (by decide +kernel), List.mem_of_getElem? (i := 1580) (by decide +kernel), List.mem_of_getElem? (i := 1581) (by decide +kernel)⟩
theorem lw_p58 : lw_okq (⟨"BeardHallModel", "readProduct", "(I)V"⟩, 43) := ⟨⟨by decide +kernel, by decide +kernel⟩, List.mem_of_getElem? (i := 1346) (by decide +kernel), List.mem_of_getElem? (i := 1584) (by decide +kernel), List.mem_of_getElem? (i := 1585) (by decide +kernel)⟩
theorem lw_p59 : lw_okq (⟨"BeardHallModel", "readPart", "(I)V"⟩, 43) := ⟨⟨by decide +kernel, by decide +kernel⟩, List.mem_of_getElem? (i := 1346) (by decide +kernel), List.mem_of_getElem? (i := 1588) (by decide +kernel), List.mem_of_getElem? (i := 1589) (by decide +kernel)⟩
theorem lw_p60 : lw_okq (⟨"BeardHallModel", "lay", "(I)V"⟩, 43) := ⟨⟨by decide +kernel, by decide +kernel⟩, List.mem_of_getElem? (i := 1346) (by decide +kernel), List.mem_of_getElem? (i := 1592) (by decide +kernel), List.mem_of_getElem? (i := 1593) (by decide +kernel)⟩
theorem lw_p61 : lw_okq (⟨"BeardHallModel", "mark", "(I)V"⟩, 43) := ⟨⟨by decide +kernel, by decide +kernel⟩, List.mem_of_getElem? (i := 1346) (by decide +kernel), List.mem_of_getElem? (i := 1596) (by decide +kernel), List.mem_of_getElem? (i := 1597) (by decide +kernel)⟩
theorem lw_p62 : lw_okq (⟨"BeardHallModel", "readMonk", "(I)V"⟩, 43) := ⟨⟨by decide +kernel, by decide +kernel⟩, List.mem_of_getElem? (i := 1346) (by decide +kernel), List.mem_of_getElem? (i := 1602) (by decide +kernel), List.mem_of_getElem? (i := 1603) (by decide +kernel)⟩
theorem lw_p63 : lw_okq (⟨"BeardHallModel", "readEntry", "(I)V"⟩, 43) := ⟨⟨by decide +kernel, by decide +kernel⟩, List.mem_of_getElem? (i := 1346) (by decide +kernel), List.mem_of_getElem? (i := 1609) (by decide +kernel), List.mem_of_getElem? (i := 1610) (by decide +kernel)⟩
def lw_privs_4 : List (MethodName × Nat) := [(⟨"BeardHallModel", "is", "(Ljava/lang/String;)Z"⟩, 43), (⟨"BeardHallModel", "which", "([Ljava/lang/String;)I"⟩, 43), (⟨"BeardHallModel", "wrong", "(I)V"⟩, 43), (⟨"BeardHallModel", "readNumber", "(II)I"⟩, 43), (⟨"BeardHallModel", "numberNow", "(II)I"⟩, 43), (⟨"BeardHallModel", "readExpression", "(I)V"⟩, 43), (⟨"BeardHallModel", "isMarked", "(I)Z"⟩, 43), (⟨"BeardHallModel", "readAnd", "(I)V"⟩, 43), (⟨"BeardHallModel", "readNot", "(I)V"⟩, 43), (⟨"BeardHallModel", "readSum", "(I)V"⟩, 43), (⟨"BeardHallModel", "readProduct", "(I)V"⟩, 43), (⟨"BeardHallModel", "readPart", "(I)V"⟩, 43), (⟨"BeardHallModel", "lay", "(I)V"⟩, 43), (⟨"BeardHallModel", "mark", "(I)V"⟩, 43), (⟨"BeardHallModel", "readMonk", "(I)V"⟩, 43), (⟨"BeardHallModel", "readEntry", "(I)V"⟩, 43)]
theorem lw_r4 : ∀ q ∈ lw_privs_4, lw_okq q := List.forall_mem_cons.mpr ⟨lw_p48, List.forall_mem_cons.mpr ⟨lw_p49, List.forall_mem_cons.mpr ⟨lw_p50, List.forall_mem_cons.mpr ⟨lw_p51, List.forall_mem_cons.mpr ⟨lw_p52, List.forall_mem_cons.mpr ⟨lw_p53, List.forall_mem_cons.mpr ⟨lw_p54, List.forall_mem_cons.mpr ⟨lw_p55, List.forall_mem_cons.mpr ⟨lw_p56, List.forall_mem_cons.mpr ⟨lw_p57, List.forall_mem_cons.mpr ⟨lw_p58, List.forall_mem_cons.mpr ⟨lw_p59, List.forall_mem_cons.mpr ⟨lw_p60, List.forall_mem_cons.mpr ⟨lw_p61, List.forall_mem_cons.mpr ⟨lw_p62, List.forall_mem_cons.mpr ⟨lw_p63, fun _ h => absurd h List.not_mem_nil⟩⟩⟩⟩⟩⟩⟩⟩⟩⟩⟩⟩⟩⟩⟩⟩
theorem lw_p64 : lw_okq (⟨"BeardHallModel", "anotherEntry", "()Z"⟩, 43) := ⟨⟨by decide +kernel, by decide +kernel⟩, List.mem_of_getElem? (i := 1346) (by decide +kernel), List.mem_of_getElem? (i := 1613) (by decide +kernel), List.mem_of_getElem? (i := 1614) (by decide +kernel)⟩
theorem lw_p65 : lw_okq (⟨"BeardHallModel", "readOne", "(I)I"⟩, 43) := ⟨⟨by decide +kernel, by decide +kernel⟩, List.mem_of_getElem? (i := 1346) (by decide +kernel), List.mem_of_getElem? (i := 1620) (by decide +kernel), List.mem_of_getElem? (i := 1621) (by decide +kernel)⟩
theorem lw_p66 : lw_okq (⟨"BeardHallModel", "oneNow", "(I)I"⟩, 43) := ⟨⟨by decide +kernel, by decide +kernel⟩, List.mem_of_getElem? (i := 1346) (by decide +kernel), List.mem_of_getElem? (i := 1624) (by decide +kernel), List.mem_of_getElem? (i := 1625) (by decide +kernel)⟩
theorem lw_p67 : lw_okq (⟨"BeardHallModel", "readCopy", "()V"⟩, 43) := ⟨⟨by decide +kernel, by decide +kernel⟩, List.mem_of_getElem? (i := 1346) (by decide +kernel), List.mem_of_getElem? (i := 1631) (by decide +kernel), List.mem_of_getElem? (i := 1632) (by decide +kernel)⟩
theorem lw_p68 : lw_okq (⟨"BeardHallModel", "takeOver", "()V"⟩, 43) := ⟨⟨by decide +kernel, by decide +kernel⟩, List.mem_of_getElem? (i := 1346) (by decide +kernel), List.mem_of_getElem? (i := 1635) (by decide +kernel), List.mem_of_getElem? (i := 1636) (by decide +kernel)⟩
theorem lw_p69 : lw_okq (⟨"BeardHallModel", "loseFar", "()I"⟩, 43) := ⟨⟨by decide +kernel, by decide +kernel⟩, List.mem_of_getElem? (i := 1346) (by decide +kernel), List.mem_of_getElem? (i := 1642) (by decide +kernel), List.mem_of_getElem? (i := 1643) (by decide +kernel)⟩
theorem lw_p70 : lw_okq (⟨"BeardHallModel", "isThere", "(I)Z"⟩, 43) := ⟨⟨by decide +kernel, by decide +kernel⟩, List.mem_of_getElem? (i := 1346) (by decide +kernel), List.mem_of_getElem? (i := 1646) (by decide +kernel), List.mem_of_getElem? (i := 1647) (by decide +kernel)⟩
theorem lw_p71 : lw_okq (⟨"BeardHallModel", "of", "(II)I"⟩, 43) := ⟨⟨by decide +kernel, by decide +kernel⟩, List.mem_of_getElem? (i := 1346) (by decide +kernel), List.mem_of_getElem? (i := 1650) (by decide +kernel), List.mem_of_getElem? (i := 1651) (by decide +kernel)⟩
theorem lw_p72 : lw_okq (⟨"BeardHallModel", "old", "(I)I"⟩, 43) := ⟨⟨by decide +kernel, by decide +kernel⟩, List.mem_of_getElem? (i := 1346) (by decide +kernel), List.mem_of_getElem? (i := 1654) (by decide +kernel), List.mem_of_getElem? (i := 1655) (by decide +kernel)⟩
theorem lw_p73 : lw_okq (⟨"BeardHallModel", "yearOf", "(I)I"⟩, 43) := ⟨⟨by decide +kernel, by decide +kernel⟩, List.mem_of_getElem? (i := 1346) (by decide +kernel), List.mem_of_getElem? (i := 1658) (by decide +kernel), List.mem_of_getElem? (i := 1659) (by decide +kernel)⟩
theorem lw_p74 : lw_okq (⟨"BeardHallModel", "lose", "(I)V"⟩, 43) := ⟨⟨by decide +kernel, by decide +kernel⟩, List.mem_of_getElem? (i := 1346) (by decide +kernel), List.mem_of_getElem? (i := 1665) (by decide +kernel), List.mem_of_getElem? (i := 1666) (by decide +kernel)⟩
theorem lw_p75 : lw_okq (⟨"BeardHallModel", "thereMany", "()I"⟩, 43) := ⟨⟨by decide +kernel, by decide +kernel⟩, List.mem_of_getElem? (i := 1346) (by decide +kernel), List.mem_of_getElem? (i := 1677) (by decide +kernel), List.mem_of_getElem? (i := 1678) (by decide +kernel)⟩
theorem lw_p76 : lw_okq (⟨"BeardHallModel", "records", "()I"⟩, 43) := ⟨⟨by decide +kernel, by decide +kernel⟩, List.mem_of_getElem? (i := 1346) (by decide +kernel), List.mem_of_getElem? (i := 1681) (by decide +kernel), List.mem_of_getElem? (i := 1682) (by decide +kernel)⟩
theorem lw_p77 : lw_okq (⟨"BeardHallModel", "isMonk", "(I)Z"⟩, 43) := ⟨⟨by decide +kernel, by decide +kernel⟩, List.mem_of_getElem? (i := 1346) (by decide +kernel), List.mem_of_getElem? (i := 1692) (by decide +kernel), List.mem_of_getElem? (i := 1693) (by decide +kernel)⟩
theorem lw_p78 : lw_okq (⟨"BeardHallModel", "ageOf", "(I)I"⟩, 43) := ⟨⟨by decide +kernel, by decide +kernel⟩, List.mem_of_getElem? (i := 1346) (by decide +kernel), List.mem_of_getElem? (i := 1699) (by decide +kernel), List.mem_of_getElem? (i := 1700) (by decide +kernel)⟩
theorem lw_p79 : lw_okq (⟨"BeardHallModel", "isGrey", "(I)Z"⟩, 43) := ⟨⟨by decide +kernel, by decide +kernel⟩, List.mem_of_getElem? (i := 1346) (by decide +kernel), List.mem_of_getElem? (i := 1703) (by decide +kernel), List.mem_of_getElem? (i := 1704) (by decide +kernel)⟩
def lw_privs_5 : List (MethodName × Nat) := [(⟨"BeardHallModel", "anotherEntry", "()Z"⟩, 43), (⟨"BeardHallModel", "readOne", "(I)I"⟩, 43), (⟨"BeardHallModel", "oneNow", "(I)I"⟩, 43), (⟨"BeardHallModel", "readCopy", "()V"⟩, 43), (⟨"BeardHallModel", "takeOver", "()V"⟩, 43), (⟨"BeardHallModel", "loseFar", "()I"⟩, 43), (⟨"BeardHallModel", "isThere", "(I)Z"⟩, 43), (⟨"BeardHallModel", "of", "(II)I"⟩, 43), (⟨"BeardHallModel", "old", "(I)I"⟩, 43), (⟨"BeardHallModel", "yearOf", "(I)I"⟩, 43), (⟨"BeardHallModel", "lose", "(I)V"⟩, 43), (⟨"BeardHallModel", "thereMany", "()I"⟩, 43), (⟨"BeardHallModel", "records", "()I"⟩, 43), (⟨"BeardHallModel", "isMonk", "(I)Z"⟩, 43), (⟨"BeardHallModel", "ageOf", "(I)I"⟩, 43), (⟨"BeardHallModel", "isGrey", "(I)Z"⟩, 43)]
theorem lw_r5 : ∀ q ∈ lw_privs_5, lw_okq q := List.forall_mem_cons.mpr ⟨lw_p64, List.forall_mem_cons.mpr ⟨lw_p65, List.forall_mem_cons.mpr ⟨lw_p66, List.forall_mem_cons.mpr ⟨lw_p67, List.forall_mem_cons.mpr ⟨lw_p68, List.forall_mem_cons.mpr ⟨lw_p69, List.forall_mem_cons.mpr ⟨lw_p70, List.forall_mem_cons.mpr ⟨lw_p71, List.forall_mem_cons.mpr ⟨lw_p72, List.forall_mem_cons.mpr ⟨lw_p73, List.forall_mem_cons.mpr ⟨lw_p74, List.forall_mem_cons.mpr ⟨lw_p75, List.forall_mem_cons.mpr ⟨lw_p76, List.forall_mem_cons.mpr ⟨lw_p77, List.forall_mem_cons.mpr ⟨lw_p78, List.forall_mem_cons.mpr ⟨lw_p79, fun _ h => absurd h List.not_mem_nil⟩⟩⟩⟩⟩⟩⟩⟩⟩⟩⟩⟩⟩⟩⟩⟩
theorem lw_p80 : lw_okq (⟨"BeardHallModel", "isEntry", "(I)Z"⟩, 43) := ⟨⟨by decide +kernel, by decide +kernel⟩, List.mem_of_getElem? (i := 1346) (by decide +kernel), List.mem_of_getElem? (i := 1711) (by decide +kernel), List.mem_of_getElem? (i := 1712) (by decide +kernel)⟩
theorem lw_p81 : lw_okq (⟨"BeardHallModel", "holdersOf", "(I)I"⟩, 43) := ⟨⟨by decide +kernel, by decide +kernel⟩, List.mem_of_getElem? (i := 1346) (by decide +kernel), List.mem_of_getElem? (i := 1720) (by decide +kernel), List.mem_of_getElem? (i := 1721) (by decide +kernel)⟩
theorem lw_p82 : lw_okq (⟨"BeardHallModel", "failing", "(I)Z"⟩, 43) := ⟨⟨by decide +kernel, by decide +kernel⟩, List.mem_of_getElem? (i := 1346) (by decide +kernel), List.mem_of_getElem? (i := 1728) (by decide +kernel), List.mem_of_getElem? (i := 1729) (by decide +kernel)⟩
theorem lw_p83 : lw_okq (⟨"BeardHallModel", "valueNow", "()I"⟩, 43) := ⟨⟨by decide +kernel, by decide +kernel⟩, List.mem_of_getElem? (i := 1346) (by decide +kernel), List.mem_of_getElem? (i := 1732) (by decide +kernel), List.mem_of_getElem? (i := 1733) (by decide +kernel)⟩
theorem lw_p84 : lw_okq (⟨"BeardHallModel", "refuse", "(I)I"⟩, 43) := ⟨⟨by decide +kernel, by decide +kernel⟩, List.mem_of_getElem? (i := 1346) (by decide +kernel), List.mem_of_getElem? (i := 1744) (by decide +kernel), List.mem_of_getElem? (i := 1745) (by decide +kernel)⟩
theorem lw_p85 : lw_okq (⟨"BeardHallModel", "keep", "()V"⟩, 43) := ⟨⟨by decide +kernel, by decide +kernel⟩, List.mem_of_getElem? (i := 1346) (by decide +kernel), List.mem_of_getElem? (i := 1748) (by decide +kernel), List.mem_of_getElem? (i := 1749) (by decide +kernel)⟩
theorem lw_p86 : lw_okq (⟨"BeardHallModel", "pack", "([II)V"⟩, 43) := ⟨⟨by decide +kernel, by decide +kernel⟩, List.mem_of_getElem? (i := 1346) (by decide +kernel), List.mem_of_getElem? (i := 1752) (by decide +kernel), List.mem_of_getElem? (i := 1753) (by decide +kernel)⟩
theorem lw_p87 : lw_okq (⟨"BeardHallModel", "yearGoes", "()V"⟩, 43) := ⟨⟨by decide +kernel, by decide +kernel⟩, List.mem_of_getElem? (i := 1346) (by decide +kernel), List.mem_of_getElem? (i := 1756) (by decide +kernel), List.mem_of_getElem? (i := 1757) (by decide +kernel)⟩
theorem lw_p88 : lw_okq (⟨"BeardHallModel", "putEntry", "(IIIIII)I"⟩, 43) := ⟨⟨by decide +kernel, by decide +kernel⟩, List.mem_of_getElem? (i := 1346) (by decide +kernel), List.mem_of_getElem? (i := 1770) (by decide +kernel), List.mem_of_getElem? (i := 1771) (by decide +kernel)⟩
theorem lw_p89 : lw_okq (⟨"BeardHallModel", "isLoose", "(I)Z"⟩, 43) := ⟨⟨by decide +kernel, by decide +kernel⟩, List.mem_of_getElem? (i := 1346) (by decide +kernel), List.mem_of_getElem? (i := 1782) (by decide +kernel), List.mem_of_getElem? (i := 1783) (by decide +kernel)⟩
theorem lw_p90 : lw_okq (⟨"BeardHallModel", "mothsEat", "(III)I"⟩, 43) := ⟨⟨by decide +kernel, by decide +kernel⟩, List.mem_of_getElem? (i := 1346) (by decide +kernel), List.mem_of_getElem? (i := 1799) (by decide +kernel), List.mem_of_getElem? (i := 1800) (by decide +kernel)⟩
theorem lw_p91 : lw_okq (⟨"BeardHallModel", "unpack", "([II)V"⟩, 43) := ⟨⟨by decide +kernel, by decide +kernel⟩, List.mem_of_getElem? (i := 1346) (by decide +kernel), List.mem_of_getElem? (i := 1811) (by decide +kernel), List.mem_of_getElem? (i := 1812) (by decide +kernel)⟩
theorem lw_p92 : lw_okq (⟨"BeardHallModel", "isOfKind", "(III)Z"⟩, 43) := ⟨⟨by decide +kernel, by decide +kernel⟩, List.mem_of_getElem? (i := 1346) (by decide +kernel), List.mem_of_getElem? (i := 1819) (by decide +kernel), List.mem_of_getElem? (i := 1820) (by decide +kernel)⟩
theorem lw_p93 : lw_okq (⟨"BeardHallModel", "areRivals", "(II)Z"⟩, 43) := ⟨⟨by decide +kernel, by decide +kernel⟩, List.mem_of_getElem? (i := 1346) (by decide +kernel), List.mem_of_getElem? (i := 1827) (by decide +kernel), List.mem_of_getElem? (i := 1828) (by decide +kernel)⟩
theorem lw_p94 : lw_okq (⟨"BeardHallModel", "owedNow", "(I)I"⟩, 43) := ⟨⟨by decide +kernel, by decide +kernel⟩, List.mem_of_getElem? (i := 1346) (by decide +kernel), List.mem_of_getElem? (i := 1835) (by decide +kernel), List.mem_of_getElem? (i := 1836) (by decide +kernel)⟩
theorem lw_p95 : lw_okq (⟨"BeardHallModel", "noPlaits", "()I"⟩, 43) := ⟨⟨by decide +kernel, by decide +kernel⟩, List.mem_of_getElem? (i := 1346) (by decide +kernel), List.mem_of_getElem? (i := 1852) (by decide +kernel), List.mem_of_getElem? (i := 1853) (by decide +kernel)⟩
def lw_privs_6 : List (MethodName × Nat) := [(⟨"BeardHallModel", "isEntry", "(I)Z"⟩, 43), (⟨"BeardHallModel", "holdersOf", "(I)I"⟩, 43), (⟨"BeardHallModel", "failing", "(I)Z"⟩, 43), (⟨"BeardHallModel", "valueNow", "()I"⟩, 43), (⟨"BeardHallModel", "refuse", "(I)I"⟩, 43), (⟨"BeardHallModel", "keep", "()V"⟩, 43), (⟨"BeardHallModel", "pack", "([II)V"⟩, 43), (⟨"BeardHallModel", "yearGoes", "()V"⟩, 43), (⟨"BeardHallModel", "putEntry", "(IIIIII)I"⟩, 43), (⟨"BeardHallModel", "isLoose", "(I)Z"⟩, 43), (⟨"BeardHallModel", "mothsEat", "(III)I"⟩, 43), (⟨"BeardHallModel", "unpack", "([II)V"⟩, 43), (⟨"BeardHallModel", "isOfKind", "(III)Z"⟩, 43), (⟨"BeardHallModel", "areRivals", "(II)Z"⟩, 43), (⟨"BeardHallModel", "owedNow", "(I)I"⟩, 43), (⟨"BeardHallModel", "noPlaits", "()I"⟩, 43)]
theorem lw_r6 : ∀ q ∈ lw_privs_6, lw_okq q := List.forall_mem_cons.mpr ⟨lw_p80, List.forall_mem_cons.mpr ⟨lw_p81, List.forall_mem_cons.mpr ⟨lw_p82, List.forall_mem_cons.mpr ⟨lw_p83, List.forall_mem_cons.mpr ⟨lw_p84, List.forall_mem_cons.mpr ⟨lw_p85, List.forall_mem_cons.mpr ⟨lw_p86, List.forall_mem_cons.mpr ⟨lw_p87, List.forall_mem_cons.mpr ⟨lw_p88, List.forall_mem_cons.mpr ⟨lw_p89, List.forall_mem_cons.mpr ⟨lw_p90, List.forall_mem_cons.mpr ⟨lw_p91, List.forall_mem_cons.mpr ⟨lw_p92, List.forall_mem_cons.mpr ⟨lw_p93, List.forall_mem_cons.mpr ⟨lw_p94, List.forall_mem_cons.mpr ⟨lw_p95, fun _ h => absurd h List.not_mem_nil⟩⟩⟩⟩⟩⟩⟩⟩⟩⟩⟩⟩⟩⟩⟩⟩
theorem lw_p96 : lw_okq (⟨"BeardHallModel", "lostByRazors", "(I)I"⟩, 43) := ⟨⟨by decide +kernel, by decide +kernel⟩, List.mem_of_getElem? (i := 1346) (by decide +kernel), List.mem_of_getElem? (i := 1856) (by decide +kernel), List.mem_of_getElem? (i := 1857) (by decide +kernel)⟩
theorem lw_p97 : lw_okq (⟨"BeardHallModel", "shaveNow", "(II)V"⟩, 43) := ⟨⟨by decide +kernel, by decide +kernel⟩, List.mem_of_getElem? (i := 1346) (by decide +kernel), List.mem_of_getElem? (i := 1860) (by decide +kernel), List.mem_of_getElem? (i := 1861) (by decide +kernel)⟩
theorem lw_p98 : lw_okq (⟨"BeardHallModel", "forgiven", "(III)I"⟩, 43) := ⟨⟨by decide +kernel, by decide +kernel⟩, List.mem_of_getElem? (i := 1346) (by decide +kernel), List.mem_of_getElem? (i := 1872) (by decide +kernel), List.mem_of_getElem? (i := 1873) (by decide +kernel)⟩
theorem lw_p99 : lw_okq (⟨"BeardHallModel", "believers", "(II)I"⟩, 43) := ⟨⟨by decide +kernel, by decide +kernel⟩, List.mem_of_getElem? (i := 1346) (by decide +kernel), List.mem_of_getElem? (i := 1889) (by decide +kernel), List.mem_of_getElem? (i := 1890) (by decide +kernel)⟩
theorem lw_p100 : lw_okq (⟨"BeardHallModel", "recordsOf", "(I)I"⟩, 43) := ⟨⟨by decide +kernel, by decide +kernel⟩, List.mem_of_getElem? (i := 1346) (by decide +kernel), List.mem_of_getElem? (i := 1909) (by decide +kernel), List.mem_of_getElem? (i := 1910) (by decide +kernel)⟩
theorem lw_p101 : lw_okq (⟨"BeardHallModel", "isAsSeen", "()Z"⟩, 43) := ⟨⟨by decide +kernel, by decide +kernel⟩, List.mem_of_getElem? (i := 1346) (by decide +kernel), List.mem_of_getElem? (i := 1925) (by decide +kernel), List.mem_of_getElem? (i := 1926) (by decide +kernel)⟩
theorem lw_p102 : lw_okq (⟨"BeardHallModel", "rests", "(III)Z"⟩, 43) := ⟨⟨by decide +kernel, by decide +kernel⟩, List.mem_of_getElem? (i := 1346) (by decide +kernel), List.mem_of_getElem? (i := 1937) (by decide +kernel), List.mem_of_getElem? (i := 1938) (by decide +kernel)⟩
theorem lw_p103 : lw_okq (⟨"BeardHallModel", "gain", "(III)I"⟩, 43) := ⟨⟨by decide +kernel, by decide +kernel⟩, List.mem_of_getElem? (i := 1346) (by decide +kernel), List.mem_of_getElem? (i := 1941) (by decide +kernel), List.mem_of_getElem? (i := 1942) (by decide +kernel)⟩
theorem lw_p104 : lw_okq (⟨"BeardHallModel", "drawOf", "(I)I"⟩, 43) := ⟨⟨by decide +kernel, by decide +kernel⟩, List.mem_of_getElem? (i := 1346) (by decide +kernel), List.mem_of_getElem? (i := 1951) (by decide +kernel), List.mem_of_getElem? (i := 1952) (by decide +kernel)⟩
def lw_privs_7 : List (MethodName × Nat) := [(⟨"BeardHallModel", "lostByRazors", "(I)I"⟩, 43), (⟨"BeardHallModel", "shaveNow", "(II)V"⟩, 43), (⟨"BeardHallModel", "forgiven", "(III)I"⟩, 43), (⟨"BeardHallModel", "believers", "(II)I"⟩, 43), (⟨"BeardHallModel", "recordsOf", "(I)I"⟩, 43), (⟨"BeardHallModel", "isAsSeen", "()Z"⟩, 43), (⟨"BeardHallModel", "rests", "(III)Z"⟩, 43), (⟨"BeardHallModel", "gain", "(III)I"⟩, 43), (⟨"BeardHallModel", "drawOf", "(I)I"⟩, 43)]
theorem lw_r7 : ∀ q ∈ lw_privs_7, lw_okq q := List.forall_mem_cons.mpr ⟨lw_p96, List.forall_mem_cons.mpr ⟨lw_p97, List.forall_mem_cons.mpr ⟨lw_p98, List.forall_mem_cons.mpr ⟨lw_p99, List.forall_mem_cons.mpr ⟨lw_p100, List.forall_mem_cons.mpr ⟨lw_p101, List.forall_mem_cons.mpr ⟨lw_p102, List.forall_mem_cons.mpr ⟨lw_p103, List.forall_mem_cons.mpr ⟨lw_p104, fun _ h => absurd h List.not_mem_nil⟩⟩⟩⟩⟩⟩⟩⟩⟩
def lw_privs : List (MethodName × Nat) := lw_privs_1 ++ (lw_privs_2 ++ (lw_privs_3 ++ (lw_privs_4 ++ (lw_privs_5 ++ (lw_privs_6 ++ (lw_privs_7))))))
def lw_tbl : List Cond := k2_sels lw_privs ++ tables_1
theorem lw_privs_ok : ∀ q ∈ lw_privs, lw_okq q := by
  show ∀ q ∈ lw_privs_1 ++ (lw_privs_2 ++ (lw_privs_3 ++ (lw_privs_4 ++ (lw_privs_5 ++ (lw_privs_6 ++ (lw_privs_7)))))), lw_okq q
  exact List.forall_mem_append.mpr ⟨lw_r1, List.forall_mem_append.mpr ⟨lw_r2, List.forall_mem_append.mpr ⟨lw_r3, List.forall_mem_append.mpr ⟨lw_r4, List.forall_mem_append.mpr ⟨lw_r5, List.forall_mem_append.mpr ⟨lw_r6, lw_r7⟩⟩⟩⟩⟩⟩
end
section
/-! each word of the tables, by its place (by program) -/
theorem tb_in1 : ∀ w ∈ tables_1_1, w ∈ lw_tbl := fun _ h => List.mem_append_right _ (List.mem_append_left _ h)
def ka_1_0 := List.forall_mem_cons.mp tb_in1
def ka_1_1 := List.forall_mem_cons.mp ka_1_0.2
def ka_1_2 := List.forall_mem_cons.mp ka_1_1.2
def ka_1_3 := List.forall_mem_cons.mp ka_1_2.2
def ka_1_4 := List.forall_mem_cons.mp ka_1_3.2
def ka_1_5 := List.forall_mem_cons.mp ka_1_4.2
def ka_1_6 := List.forall_mem_cons.mp ka_1_5.2
def ka_1_7 := List.forall_mem_cons.mp ka_1_6.2
def ka_1_8 := List.forall_mem_cons.mp ka_1_7.2
def ka_1_9 := List.forall_mem_cons.mp ka_1_8.2
def ka_1_10 := List.forall_mem_cons.mp ka_1_9.2
def ka_1_11 := List.forall_mem_cons.mp ka_1_10.2
def ka_1_12 := List.forall_mem_cons.mp ka_1_11.2
def ka_1_13 := List.forall_mem_cons.mp ka_1_12.2
def ka_1_14 := List.forall_mem_cons.mp ka_1_13.2
def ka_1_15 := List.forall_mem_cons.mp ka_1_14.2
def ka_1_16 := List.forall_mem_cons.mp ka_1_15.2
def ka_1_17 := List.forall_mem_cons.mp ka_1_16.2
def ka_1_18 := List.forall_mem_cons.mp ka_1_17.2
def ka_1_19 := List.forall_mem_cons.mp ka_1_18.2
def ka_1_20 := List.forall_mem_cons.mp ka_1_19.2
def ka_1_21 := List.forall_mem_cons.mp ka_1_20.2
def ka_1_22 := List.forall_mem_cons.mp ka_1_21.2
def ka_1_23 := List.forall_mem_cons.mp ka_1_22.2
def ka_1_24 := List.forall_mem_cons.mp ka_1_23.2
def ka_1_25 := List.forall_mem_cons.mp ka_1_24.2
def ka_1_26 := List.forall_mem_cons.mp ka_1_25.2
def ka_1_27 := List.forall_mem_cons.mp ka_1_26.2
def ka_1_28 := List.forall_mem_cons.mp ka_1_27.2
def ka_1_29 := List.forall_mem_cons.mp ka_1_28.2
def ka_1_30 := List.forall_mem_cons.mp ka_1_29.2
def ka_1_31 := List.forall_mem_cons.mp ka_1_30.2
def ka_1_32 := List.forall_mem_cons.mp ka_1_31.2
def ka_1_33 := List.forall_mem_cons.mp ka_1_32.2
def ka_1_34 := List.forall_mem_cons.mp ka_1_33.2
def ka_1_35 := List.forall_mem_cons.mp ka_1_34.2
def ka_1_36 := List.forall_mem_cons.mp ka_1_35.2
def ka_1_37 := List.forall_mem_cons.mp ka_1_36.2
def ka_1_38 := List.forall_mem_cons.mp ka_1_37.2
def ka_1_39 := List.forall_mem_cons.mp ka_1_38.2
def ka_1_40 := List.forall_mem_cons.mp ka_1_39.2
def ka_1_41 := List.forall_mem_cons.mp ka_1_40.2
def ka_1_42 := List.forall_mem_cons.mp ka_1_41.2
def ka_1_43 := List.forall_mem_cons.mp ka_1_42.2
def ka_1_44 := List.forall_mem_cons.mp ka_1_43.2
def ka_1_45 := List.forall_mem_cons.mp ka_1_44.2
def ka_1_46 := List.forall_mem_cons.mp ka_1_45.2
def ka_1_47 := List.forall_mem_cons.mp ka_1_46.2
def ka_1_48 := List.forall_mem_cons.mp ka_1_47.2
def ka_1_49 := List.forall_mem_cons.mp ka_1_48.2
def ka_1_50 := List.forall_mem_cons.mp ka_1_49.2
def ka_1_51 := List.forall_mem_cons.mp ka_1_50.2
def ka_1_52 := List.forall_mem_cons.mp ka_1_51.2
def ka_1_53 := List.forall_mem_cons.mp ka_1_52.2
def ka_1_54 := List.forall_mem_cons.mp ka_1_53.2
def ka_1_55 := List.forall_mem_cons.mp ka_1_54.2
def ka_1_56 := List.forall_mem_cons.mp ka_1_55.2
def ka_1_57 := List.forall_mem_cons.mp ka_1_56.2
def ka_1_58 := List.forall_mem_cons.mp ka_1_57.2
def ka_1_59 := List.forall_mem_cons.mp ka_1_58.2
def ka_1_60 := List.forall_mem_cons.mp ka_1_59.2
def ka_1_61 := List.forall_mem_cons.mp ka_1_60.2
def ka_1_62 := List.forall_mem_cons.mp ka_1_61.2
def ka_1_63 := List.forall_mem_cons.mp ka_1_62.2
def ka_1_64 := List.forall_mem_cons.mp ka_1_63.2
def ka_1_65 := List.forall_mem_cons.mp ka_1_64.2
def ka_1_66 := List.forall_mem_cons.mp ka_1_65.2
def ka_1_67 := List.forall_mem_cons.mp ka_1_66.2
def ka_1_68 := List.forall_mem_cons.mp ka_1_67.2
def ka_1_69 := List.forall_mem_cons.mp ka_1_68.2
def ka_1_70 := List.forall_mem_cons.mp ka_1_69.2
def ka_1_71 := List.forall_mem_cons.mp ka_1_70.2
def ka_1_72 := List.forall_mem_cons.mp ka_1_71.2
def ka_1_73 := List.forall_mem_cons.mp ka_1_72.2
def ka_1_74 := List.forall_mem_cons.mp ka_1_73.2
def ka_1_75 := List.forall_mem_cons.mp ka_1_74.2
def ka_1_76 := List.forall_mem_cons.mp ka_1_75.2
def ka_1_77 := List.forall_mem_cons.mp ka_1_76.2
def ka_1_78 := List.forall_mem_cons.mp ka_1_77.2
def ka_1_79 := List.forall_mem_cons.mp ka_1_78.2
def ka_1_80 := List.forall_mem_cons.mp ka_1_79.2
def ka_1_81 := List.forall_mem_cons.mp ka_1_80.2
def ka_1_82 := List.forall_mem_cons.mp ka_1_81.2
def ka_1_83 := List.forall_mem_cons.mp ka_1_82.2
def ka_1_84 := List.forall_mem_cons.mp ka_1_83.2
def ka_1_85 := List.forall_mem_cons.mp ka_1_84.2
def ka_1_86 := List.forall_mem_cons.mp ka_1_85.2
def ka_1_87 := List.forall_mem_cons.mp ka_1_86.2
def ka_1_88 := List.forall_mem_cons.mp ka_1_87.2
def ka_1_89 := List.forall_mem_cons.mp ka_1_88.2
def ka_1_90 := List.forall_mem_cons.mp ka_1_89.2
def ka_1_91 := List.forall_mem_cons.mp ka_1_90.2
def ka_1_92 := List.forall_mem_cons.mp ka_1_91.2
def ka_1_93 := List.forall_mem_cons.mp ka_1_92.2
def ka_1_94 := List.forall_mem_cons.mp ka_1_93.2
def ka_1_95 := List.forall_mem_cons.mp ka_1_94.2
def ka_1_96 := List.forall_mem_cons.mp ka_1_95.2
def ka_1_97 := List.forall_mem_cons.mp ka_1_96.2
def ka_1_98 := List.forall_mem_cons.mp ka_1_97.2
def ka_1_99 := List.forall_mem_cons.mp ka_1_98.2
def ka_1_100 := List.forall_mem_cons.mp ka_1_99.2
def ka_1_101 := List.forall_mem_cons.mp ka_1_100.2
def ka_1_102 := List.forall_mem_cons.mp ka_1_101.2
def ka_1_103 := List.forall_mem_cons.mp ka_1_102.2
def ka_1_104 := List.forall_mem_cons.mp ka_1_103.2
def ka_1_105 := List.forall_mem_cons.mp ka_1_104.2
def ka_1_106 := List.forall_mem_cons.mp ka_1_105.2
def ka_1_107 := List.forall_mem_cons.mp ka_1_106.2
def ka_1_108 := List.forall_mem_cons.mp ka_1_107.2
def ka_1_109 := List.forall_mem_cons.mp ka_1_108.2
def ka_1_110 := List.forall_mem_cons.mp ka_1_109.2
def ka_1_111 := List.forall_mem_cons.mp ka_1_110.2
def ka_1_112 := List.forall_mem_cons.mp ka_1_111.2
def ka_1_113 := List.forall_mem_cons.mp ka_1_112.2
def ka_1_114 := List.forall_mem_cons.mp ka_1_113.2
def ka_1_115 := List.forall_mem_cons.mp ka_1_114.2
def ka_1_116 := List.forall_mem_cons.mp ka_1_115.2
def ka_1_117 := List.forall_mem_cons.mp ka_1_116.2
def ka_1_118 := List.forall_mem_cons.mp ka_1_117.2
def ka_1_119 := List.forall_mem_cons.mp ka_1_118.2
def ka_1_120 := List.forall_mem_cons.mp ka_1_119.2
def ka_1_121 := List.forall_mem_cons.mp ka_1_120.2
def ka_1_122 := List.forall_mem_cons.mp ka_1_121.2
def ka_1_123 := List.forall_mem_cons.mp ka_1_122.2
def ka_1_124 := List.forall_mem_cons.mp ka_1_123.2
def ka_1_125 := List.forall_mem_cons.mp ka_1_124.2
def ka_1_126 := List.forall_mem_cons.mp ka_1_125.2
def ka_1_127 := List.forall_mem_cons.mp ka_1_126.2
def ka_1_128 := List.forall_mem_cons.mp ka_1_127.2
def ka_1_129 := List.forall_mem_cons.mp ka_1_128.2
def ka_1_130 := List.forall_mem_cons.mp ka_1_129.2
def ka_1_131 := List.forall_mem_cons.mp ka_1_130.2
def ka_1_132 := List.forall_mem_cons.mp ka_1_131.2
def ka_1_133 := List.forall_mem_cons.mp ka_1_132.2
def ka_1_134 := List.forall_mem_cons.mp ka_1_133.2
def ka_1_135 := List.forall_mem_cons.mp ka_1_134.2
def ka_1_136 := List.forall_mem_cons.mp ka_1_135.2
def ka_1_137 := List.forall_mem_cons.mp ka_1_136.2
def ka_1_138 := List.forall_mem_cons.mp ka_1_137.2
def ka_1_139 := List.forall_mem_cons.mp ka_1_138.2
def ka_1_140 := List.forall_mem_cons.mp ka_1_139.2
def ka_1_141 := List.forall_mem_cons.mp ka_1_140.2
def ka_1_142 := List.forall_mem_cons.mp ka_1_141.2
def ka_1_143 := List.forall_mem_cons.mp ka_1_142.2
def ka_1_144 := List.forall_mem_cons.mp ka_1_143.2
def ka_1_145 := List.forall_mem_cons.mp ka_1_144.2
def ka_1_146 := List.forall_mem_cons.mp ka_1_145.2
def ka_1_147 := List.forall_mem_cons.mp ka_1_146.2
def ka_1_148 := List.forall_mem_cons.mp ka_1_147.2
def ka_1_149 := List.forall_mem_cons.mp ka_1_148.2
def ka_1_150 := List.forall_mem_cons.mp ka_1_149.2
def ka_1_151 := List.forall_mem_cons.mp ka_1_150.2
def ka_1_152 := List.forall_mem_cons.mp ka_1_151.2
def ka_1_153 := List.forall_mem_cons.mp ka_1_152.2
def ka_1_154 := List.forall_mem_cons.mp ka_1_153.2
def ka_1_155 := List.forall_mem_cons.mp ka_1_154.2
def ka_1_156 := List.forall_mem_cons.mp ka_1_155.2
def ka_1_157 := List.forall_mem_cons.mp ka_1_156.2
def ka_1_158 := List.forall_mem_cons.mp ka_1_157.2
def ka_1_159 := List.forall_mem_cons.mp ka_1_158.2
def ka_1_160 := List.forall_mem_cons.mp ka_1_159.2
def ka_1_161 := List.forall_mem_cons.mp ka_1_160.2
def ka_1_162 := List.forall_mem_cons.mp ka_1_161.2
def ka_1_163 := List.forall_mem_cons.mp ka_1_162.2
def ka_1_164 := List.forall_mem_cons.mp ka_1_163.2
def ka_1_165 := List.forall_mem_cons.mp ka_1_164.2
def ka_1_166 := List.forall_mem_cons.mp ka_1_165.2
def ka_1_167 := List.forall_mem_cons.mp ka_1_166.2
def ka_1_168 := List.forall_mem_cons.mp ka_1_167.2
def ka_1_169 := List.forall_mem_cons.mp ka_1_168.2
def ka_1_170 := List.forall_mem_cons.mp ka_1_169.2
def ka_1_171 := List.forall_mem_cons.mp ka_1_170.2
def ka_1_172 := List.forall_mem_cons.mp ka_1_171.2
def ka_1_173 := List.forall_mem_cons.mp ka_1_172.2
def ka_1_174 := List.forall_mem_cons.mp ka_1_173.2
def ka_1_175 := List.forall_mem_cons.mp ka_1_174.2
def ka_1_176 := List.forall_mem_cons.mp ka_1_175.2
def ka_1_177 := List.forall_mem_cons.mp ka_1_176.2
def ka_1_178 := List.forall_mem_cons.mp ka_1_177.2
def ka_1_179 := List.forall_mem_cons.mp ka_1_178.2
def ka_1_180 := List.forall_mem_cons.mp ka_1_179.2
def ka_1_181 := List.forall_mem_cons.mp ka_1_180.2
def ka_1_182 := List.forall_mem_cons.mp ka_1_181.2
def ka_1_183 := List.forall_mem_cons.mp ka_1_182.2
def ka_1_184 := List.forall_mem_cons.mp ka_1_183.2
def ka_1_185 := List.forall_mem_cons.mp ka_1_184.2
def ka_1_186 := List.forall_mem_cons.mp ka_1_185.2
def ka_1_187 := List.forall_mem_cons.mp ka_1_186.2
def ka_1_188 := List.forall_mem_cons.mp ka_1_187.2
def ka_1_189 := List.forall_mem_cons.mp ka_1_188.2
def ka_1_190 := List.forall_mem_cons.mp ka_1_189.2
def ka_1_191 := List.forall_mem_cons.mp ka_1_190.2
def ka_1_192 := List.forall_mem_cons.mp ka_1_191.2
def ka_1_193 := List.forall_mem_cons.mp ka_1_192.2
def ka_1_194 := List.forall_mem_cons.mp ka_1_193.2
def ka_1_195 := List.forall_mem_cons.mp ka_1_194.2
def ka_1_196 := List.forall_mem_cons.mp ka_1_195.2
def ka_1_197 := List.forall_mem_cons.mp ka_1_196.2
def ka_1_198 := List.forall_mem_cons.mp ka_1_197.2
def ka_1_199 := List.forall_mem_cons.mp ka_1_198.2
def ka_1_200 := List.forall_mem_cons.mp ka_1_199.2
def ka_1_201 := List.forall_mem_cons.mp ka_1_200.2
def ka_1_202 := List.forall_mem_cons.mp ka_1_201.2
def ka_1_203 := List.forall_mem_cons.mp ka_1_202.2
def ka_1_204 := List.forall_mem_cons.mp ka_1_203.2
def ka_1_205 := List.forall_mem_cons.mp ka_1_204.2
def ka_1_206 := List.forall_mem_cons.mp ka_1_205.2
def ka_1_207 := List.forall_mem_cons.mp ka_1_206.2
def ka_1_208 := List.forall_mem_cons.mp ka_1_207.2
def ka_1_209 := List.forall_mem_cons.mp ka_1_208.2
def ka_1_210 := List.forall_mem_cons.mp ka_1_209.2
def ka_1_211 := List.forall_mem_cons.mp ka_1_210.2
def ka_1_212 := List.forall_mem_cons.mp ka_1_211.2
def ka_1_213 := List.forall_mem_cons.mp ka_1_212.2
def ka_1_214 := List.forall_mem_cons.mp ka_1_213.2
def ka_1_215 := List.forall_mem_cons.mp ka_1_214.2
def ka_1_216 := List.forall_mem_cons.mp ka_1_215.2
def ka_1_217 := List.forall_mem_cons.mp ka_1_216.2
def ka_1_218 := List.forall_mem_cons.mp ka_1_217.2
def ka_1_219 := List.forall_mem_cons.mp ka_1_218.2
def ka_1_220 := List.forall_mem_cons.mp ka_1_219.2
def ka_1_221 := List.forall_mem_cons.mp ka_1_220.2
def ka_1_222 := List.forall_mem_cons.mp ka_1_221.2
def ka_1_223 := List.forall_mem_cons.mp ka_1_222.2
def ka_1_224 := List.forall_mem_cons.mp ka_1_223.2
def ka_1_225 := List.forall_mem_cons.mp ka_1_224.2
def ka_1_226 := List.forall_mem_cons.mp ka_1_225.2
def ka_1_227 := List.forall_mem_cons.mp ka_1_226.2
def ka_1_228 := List.forall_mem_cons.mp ka_1_227.2
def ka_1_229 := List.forall_mem_cons.mp ka_1_228.2
def ka_1_230 := List.forall_mem_cons.mp ka_1_229.2
def ka_1_231 := List.forall_mem_cons.mp ka_1_230.2
def ka_1_232 := List.forall_mem_cons.mp ka_1_231.2
def ka_1_233 := List.forall_mem_cons.mp ka_1_232.2
def ka_1_234 := List.forall_mem_cons.mp ka_1_233.2
def ka_1_235 := List.forall_mem_cons.mp ka_1_234.2
def ka_1_236 := List.forall_mem_cons.mp ka_1_235.2
def ka_1_237 := List.forall_mem_cons.mp ka_1_236.2
def ka_1_238 := List.forall_mem_cons.mp ka_1_237.2
def ka_1_239 := List.forall_mem_cons.mp ka_1_238.2
theorem tb_in2 : ∀ w ∈ tables_1_2, w ∈ lw_tbl := fun _ h => List.mem_append_right _ (List.mem_append_right _ (List.mem_append_left _ h))
def ka_2_0 := List.forall_mem_cons.mp tb_in2
def ka_2_1 := List.forall_mem_cons.mp ka_2_0.2
def ka_2_2 := List.forall_mem_cons.mp ka_2_1.2
def ka_2_3 := List.forall_mem_cons.mp ka_2_2.2
def ka_2_4 := List.forall_mem_cons.mp ka_2_3.2
def ka_2_5 := List.forall_mem_cons.mp ka_2_4.2
def ka_2_6 := List.forall_mem_cons.mp ka_2_5.2
def ka_2_7 := List.forall_mem_cons.mp ka_2_6.2
def ka_2_8 := List.forall_mem_cons.mp ka_2_7.2
def ka_2_9 := List.forall_mem_cons.mp ka_2_8.2
def ka_2_10 := List.forall_mem_cons.mp ka_2_9.2
def ka_2_11 := List.forall_mem_cons.mp ka_2_10.2
def ka_2_12 := List.forall_mem_cons.mp ka_2_11.2
def ka_2_13 := List.forall_mem_cons.mp ka_2_12.2
def ka_2_14 := List.forall_mem_cons.mp ka_2_13.2
def ka_2_15 := List.forall_mem_cons.mp ka_2_14.2
def ka_2_16 := List.forall_mem_cons.mp ka_2_15.2
def ka_2_17 := List.forall_mem_cons.mp ka_2_16.2
def ka_2_18 := List.forall_mem_cons.mp ka_2_17.2
def ka_2_19 := List.forall_mem_cons.mp ka_2_18.2
def ka_2_20 := List.forall_mem_cons.mp ka_2_19.2
def ka_2_21 := List.forall_mem_cons.mp ka_2_20.2
def ka_2_22 := List.forall_mem_cons.mp ka_2_21.2
def ka_2_23 := List.forall_mem_cons.mp ka_2_22.2
def ka_2_24 := List.forall_mem_cons.mp ka_2_23.2
def ka_2_25 := List.forall_mem_cons.mp ka_2_24.2
def ka_2_26 := List.forall_mem_cons.mp ka_2_25.2
def ka_2_27 := List.forall_mem_cons.mp ka_2_26.2
def ka_2_28 := List.forall_mem_cons.mp ka_2_27.2
def ka_2_29 := List.forall_mem_cons.mp ka_2_28.2
def ka_2_30 := List.forall_mem_cons.mp ka_2_29.2
def ka_2_31 := List.forall_mem_cons.mp ka_2_30.2
def ka_2_32 := List.forall_mem_cons.mp ka_2_31.2
def ka_2_33 := List.forall_mem_cons.mp ka_2_32.2
def ka_2_34 := List.forall_mem_cons.mp ka_2_33.2
def ka_2_35 := List.forall_mem_cons.mp ka_2_34.2
def ka_2_36 := List.forall_mem_cons.mp ka_2_35.2
def ka_2_37 := List.forall_mem_cons.mp ka_2_36.2
def ka_2_38 := List.forall_mem_cons.mp ka_2_37.2
def ka_2_39 := List.forall_mem_cons.mp ka_2_38.2
def ka_2_40 := List.forall_mem_cons.mp ka_2_39.2
def ka_2_41 := List.forall_mem_cons.mp ka_2_40.2
def ka_2_42 := List.forall_mem_cons.mp ka_2_41.2
def ka_2_43 := List.forall_mem_cons.mp ka_2_42.2
def ka_2_44 := List.forall_mem_cons.mp ka_2_43.2
def ka_2_45 := List.forall_mem_cons.mp ka_2_44.2
def ka_2_46 := List.forall_mem_cons.mp ka_2_45.2
def ka_2_47 := List.forall_mem_cons.mp ka_2_46.2
def ka_2_48 := List.forall_mem_cons.mp ka_2_47.2
def ka_2_49 := List.forall_mem_cons.mp ka_2_48.2
def ka_2_50 := List.forall_mem_cons.mp ka_2_49.2
def ka_2_51 := List.forall_mem_cons.mp ka_2_50.2
def ka_2_52 := List.forall_mem_cons.mp ka_2_51.2
def ka_2_53 := List.forall_mem_cons.mp ka_2_52.2
def ka_2_54 := List.forall_mem_cons.mp ka_2_53.2
def ka_2_55 := List.forall_mem_cons.mp ka_2_54.2
def ka_2_56 := List.forall_mem_cons.mp ka_2_55.2
def ka_2_57 := List.forall_mem_cons.mp ka_2_56.2
def ka_2_58 := List.forall_mem_cons.mp ka_2_57.2
def ka_2_59 := List.forall_mem_cons.mp ka_2_58.2
def ka_2_60 := List.forall_mem_cons.mp ka_2_59.2
def ka_2_61 := List.forall_mem_cons.mp ka_2_60.2
def ka_2_62 := List.forall_mem_cons.mp ka_2_61.2
def ka_2_63 := List.forall_mem_cons.mp ka_2_62.2
def ka_2_64 := List.forall_mem_cons.mp ka_2_63.2
def ka_2_65 := List.forall_mem_cons.mp ka_2_64.2
def ka_2_66 := List.forall_mem_cons.mp ka_2_65.2
def ka_2_67 := List.forall_mem_cons.mp ka_2_66.2
def ka_2_68 := List.forall_mem_cons.mp ka_2_67.2
def ka_2_69 := List.forall_mem_cons.mp ka_2_68.2
def ka_2_70 := List.forall_mem_cons.mp ka_2_69.2
def ka_2_71 := List.forall_mem_cons.mp ka_2_70.2
def ka_2_72 := List.forall_mem_cons.mp ka_2_71.2
def ka_2_73 := List.forall_mem_cons.mp ka_2_72.2
def ka_2_74 := List.forall_mem_cons.mp ka_2_73.2
def ka_2_75 := List.forall_mem_cons.mp ka_2_74.2
def ka_2_76 := List.forall_mem_cons.mp ka_2_75.2
def ka_2_77 := List.forall_mem_cons.mp ka_2_76.2
def ka_2_78 := List.forall_mem_cons.mp ka_2_77.2
def ka_2_79 := List.forall_mem_cons.mp ka_2_78.2
def ka_2_80 := List.forall_mem_cons.mp ka_2_79.2
def ka_2_81 := List.forall_mem_cons.mp ka_2_80.2
def ka_2_82 := List.forall_mem_cons.mp ka_2_81.2
def ka_2_83 := List.forall_mem_cons.mp ka_2_82.2
def ka_2_84 := List.forall_mem_cons.mp ka_2_83.2
def ka_2_85 := List.forall_mem_cons.mp ka_2_84.2
def ka_2_86 := List.forall_mem_cons.mp ka_2_85.2
def ka_2_87 := List.forall_mem_cons.mp ka_2_86.2
def ka_2_88 := List.forall_mem_cons.mp ka_2_87.2
def ka_2_89 := List.forall_mem_cons.mp ka_2_88.2
def ka_2_90 := List.forall_mem_cons.mp ka_2_89.2
def ka_2_91 := List.forall_mem_cons.mp ka_2_90.2
def ka_2_92 := List.forall_mem_cons.mp ka_2_91.2
def ka_2_93 := List.forall_mem_cons.mp ka_2_92.2
def ka_2_94 := List.forall_mem_cons.mp ka_2_93.2
def ka_2_95 := List.forall_mem_cons.mp ka_2_94.2
def ka_2_96 := List.forall_mem_cons.mp ka_2_95.2
def ka_2_97 := List.forall_mem_cons.mp ka_2_96.2
def ka_2_98 := List.forall_mem_cons.mp ka_2_97.2
def ka_2_99 := List.forall_mem_cons.mp ka_2_98.2
def ka_2_100 := List.forall_mem_cons.mp ka_2_99.2
def ka_2_101 := List.forall_mem_cons.mp ka_2_100.2
def ka_2_102 := List.forall_mem_cons.mp ka_2_101.2
def ka_2_103 := List.forall_mem_cons.mp ka_2_102.2
def ka_2_104 := List.forall_mem_cons.mp ka_2_103.2
def ka_2_105 := List.forall_mem_cons.mp ka_2_104.2
def ka_2_106 := List.forall_mem_cons.mp ka_2_105.2
def ka_2_107 := List.forall_mem_cons.mp ka_2_106.2
def ka_2_108 := List.forall_mem_cons.mp ka_2_107.2
def ka_2_109 := List.forall_mem_cons.mp ka_2_108.2
def ka_2_110 := List.forall_mem_cons.mp ka_2_109.2
def ka_2_111 := List.forall_mem_cons.mp ka_2_110.2
def ka_2_112 := List.forall_mem_cons.mp ka_2_111.2
def ka_2_113 := List.forall_mem_cons.mp ka_2_112.2
def ka_2_114 := List.forall_mem_cons.mp ka_2_113.2
def ka_2_115 := List.forall_mem_cons.mp ka_2_114.2
def ka_2_116 := List.forall_mem_cons.mp ka_2_115.2
def ka_2_117 := List.forall_mem_cons.mp ka_2_116.2
def ka_2_118 := List.forall_mem_cons.mp ka_2_117.2
def ka_2_119 := List.forall_mem_cons.mp ka_2_118.2
def ka_2_120 := List.forall_mem_cons.mp ka_2_119.2
def ka_2_121 := List.forall_mem_cons.mp ka_2_120.2
def ka_2_122 := List.forall_mem_cons.mp ka_2_121.2
def ka_2_123 := List.forall_mem_cons.mp ka_2_122.2
def ka_2_124 := List.forall_mem_cons.mp ka_2_123.2
def ka_2_125 := List.forall_mem_cons.mp ka_2_124.2
def ka_2_126 := List.forall_mem_cons.mp ka_2_125.2
def ka_2_127 := List.forall_mem_cons.mp ka_2_126.2
def ka_2_128 := List.forall_mem_cons.mp ka_2_127.2
def ka_2_129 := List.forall_mem_cons.mp ka_2_128.2
def ka_2_130 := List.forall_mem_cons.mp ka_2_129.2
def ka_2_131 := List.forall_mem_cons.mp ka_2_130.2
def ka_2_132 := List.forall_mem_cons.mp ka_2_131.2
def ka_2_133 := List.forall_mem_cons.mp ka_2_132.2
def ka_2_134 := List.forall_mem_cons.mp ka_2_133.2
def ka_2_135 := List.forall_mem_cons.mp ka_2_134.2
def ka_2_136 := List.forall_mem_cons.mp ka_2_135.2
def ka_2_137 := List.forall_mem_cons.mp ka_2_136.2
def ka_2_138 := List.forall_mem_cons.mp ka_2_137.2
def ka_2_139 := List.forall_mem_cons.mp ka_2_138.2
def ka_2_140 := List.forall_mem_cons.mp ka_2_139.2
def ka_2_141 := List.forall_mem_cons.mp ka_2_140.2
def ka_2_142 := List.forall_mem_cons.mp ka_2_141.2
def ka_2_143 := List.forall_mem_cons.mp ka_2_142.2
def ka_2_144 := List.forall_mem_cons.mp ka_2_143.2
def ka_2_145 := List.forall_mem_cons.mp ka_2_144.2
def ka_2_146 := List.forall_mem_cons.mp ka_2_145.2
def ka_2_147 := List.forall_mem_cons.mp ka_2_146.2
def ka_2_148 := List.forall_mem_cons.mp ka_2_147.2
def ka_2_149 := List.forall_mem_cons.mp ka_2_148.2
def ka_2_150 := List.forall_mem_cons.mp ka_2_149.2
def ka_2_151 := List.forall_mem_cons.mp ka_2_150.2
def ka_2_152 := List.forall_mem_cons.mp ka_2_151.2
def ka_2_153 := List.forall_mem_cons.mp ka_2_152.2
def ka_2_154 := List.forall_mem_cons.mp ka_2_153.2
def ka_2_155 := List.forall_mem_cons.mp ka_2_154.2
def ka_2_156 := List.forall_mem_cons.mp ka_2_155.2
def ka_2_157 := List.forall_mem_cons.mp ka_2_156.2
def ka_2_158 := List.forall_mem_cons.mp ka_2_157.2
def ka_2_159 := List.forall_mem_cons.mp ka_2_158.2
def ka_2_160 := List.forall_mem_cons.mp ka_2_159.2
def ka_2_161 := List.forall_mem_cons.mp ka_2_160.2
def ka_2_162 := List.forall_mem_cons.mp ka_2_161.2
def ka_2_163 := List.forall_mem_cons.mp ka_2_162.2
def ka_2_164 := List.forall_mem_cons.mp ka_2_163.2
def ka_2_165 := List.forall_mem_cons.mp ka_2_164.2
def ka_2_166 := List.forall_mem_cons.mp ka_2_165.2
def ka_2_167 := List.forall_mem_cons.mp ka_2_166.2
def ka_2_168 := List.forall_mem_cons.mp ka_2_167.2
def ka_2_169 := List.forall_mem_cons.mp ka_2_168.2
def ka_2_170 := List.forall_mem_cons.mp ka_2_169.2
def ka_2_171 := List.forall_mem_cons.mp ka_2_170.2
def ka_2_172 := List.forall_mem_cons.mp ka_2_171.2
def ka_2_173 := List.forall_mem_cons.mp ka_2_172.2
def ka_2_174 := List.forall_mem_cons.mp ka_2_173.2
def ka_2_175 := List.forall_mem_cons.mp ka_2_174.2
def ka_2_176 := List.forall_mem_cons.mp ka_2_175.2
def ka_2_177 := List.forall_mem_cons.mp ka_2_176.2
def ka_2_178 := List.forall_mem_cons.mp ka_2_177.2
def ka_2_179 := List.forall_mem_cons.mp ka_2_178.2
def ka_2_180 := List.forall_mem_cons.mp ka_2_179.2
def ka_2_181 := List.forall_mem_cons.mp ka_2_180.2
def ka_2_182 := List.forall_mem_cons.mp ka_2_181.2
def ka_2_183 := List.forall_mem_cons.mp ka_2_182.2
def ka_2_184 := List.forall_mem_cons.mp ka_2_183.2
def ka_2_185 := List.forall_mem_cons.mp ka_2_184.2
def ka_2_186 := List.forall_mem_cons.mp ka_2_185.2
def ka_2_187 := List.forall_mem_cons.mp ka_2_186.2
def ka_2_188 := List.forall_mem_cons.mp ka_2_187.2
def ka_2_189 := List.forall_mem_cons.mp ka_2_188.2
def ka_2_190 := List.forall_mem_cons.mp ka_2_189.2
def ka_2_191 := List.forall_mem_cons.mp ka_2_190.2
def ka_2_192 := List.forall_mem_cons.mp ka_2_191.2
def ka_2_193 := List.forall_mem_cons.mp ka_2_192.2
def ka_2_194 := List.forall_mem_cons.mp ka_2_193.2
def ka_2_195 := List.forall_mem_cons.mp ka_2_194.2
def ka_2_196 := List.forall_mem_cons.mp ka_2_195.2
def ka_2_197 := List.forall_mem_cons.mp ka_2_196.2
def ka_2_198 := List.forall_mem_cons.mp ka_2_197.2
def ka_2_199 := List.forall_mem_cons.mp ka_2_198.2
def ka_2_200 := List.forall_mem_cons.mp ka_2_199.2
def ka_2_201 := List.forall_mem_cons.mp ka_2_200.2
def ka_2_202 := List.forall_mem_cons.mp ka_2_201.2
def ka_2_203 := List.forall_mem_cons.mp ka_2_202.2
def ka_2_204 := List.forall_mem_cons.mp ka_2_203.2
def ka_2_205 := List.forall_mem_cons.mp ka_2_204.2
def ka_2_206 := List.forall_mem_cons.mp ka_2_205.2
def ka_2_207 := List.forall_mem_cons.mp ka_2_206.2
def ka_2_208 := List.forall_mem_cons.mp ka_2_207.2
def ka_2_209 := List.forall_mem_cons.mp ka_2_208.2
def ka_2_210 := List.forall_mem_cons.mp ka_2_209.2
def ka_2_211 := List.forall_mem_cons.mp ka_2_210.2
def ka_2_212 := List.forall_mem_cons.mp ka_2_211.2
def ka_2_213 := List.forall_mem_cons.mp ka_2_212.2
def ka_2_214 := List.forall_mem_cons.mp ka_2_213.2
def ka_2_215 := List.forall_mem_cons.mp ka_2_214.2
def ka_2_216 := List.forall_mem_cons.mp ka_2_215.2
def ka_2_217 := List.forall_mem_cons.mp ka_2_216.2
def ka_2_218 := List.forall_mem_cons.mp ka_2_217.2
def ka_2_219 := List.forall_mem_cons.mp ka_2_218.2
def ka_2_220 := List.forall_mem_cons.mp ka_2_219.2
def ka_2_221 := List.forall_mem_cons.mp ka_2_220.2
def ka_2_222 := List.forall_mem_cons.mp ka_2_221.2
def ka_2_223 := List.forall_mem_cons.mp ka_2_222.2
def ka_2_224 := List.forall_mem_cons.mp ka_2_223.2
def ka_2_225 := List.forall_mem_cons.mp ka_2_224.2
def ka_2_226 := List.forall_mem_cons.mp ka_2_225.2
def ka_2_227 := List.forall_mem_cons.mp ka_2_226.2
def ka_2_228 := List.forall_mem_cons.mp ka_2_227.2
def ka_2_229 := List.forall_mem_cons.mp ka_2_228.2
def ka_2_230 := List.forall_mem_cons.mp ka_2_229.2
def ka_2_231 := List.forall_mem_cons.mp ka_2_230.2
def ka_2_232 := List.forall_mem_cons.mp ka_2_231.2
def ka_2_233 := List.forall_mem_cons.mp ka_2_232.2
def ka_2_234 := List.forall_mem_cons.mp ka_2_233.2
def ka_2_235 := List.forall_mem_cons.mp ka_2_234.2
def ka_2_236 := List.forall_mem_cons.mp ka_2_235.2
def ka_2_237 := List.forall_mem_cons.mp ka_2_236.2
def ka_2_238 := List.forall_mem_cons.mp ka_2_237.2
def ka_2_239 := List.forall_mem_cons.mp ka_2_238.2
theorem tb_in3 : ∀ w ∈ tables_1_3, w ∈ lw_tbl := fun _ h => List.mem_append_right _ (List.mem_append_right _ (List.mem_append_right _ (List.mem_append_left _ h)))
def ka_3_0 := List.forall_mem_cons.mp tb_in3
def ka_3_1 := List.forall_mem_cons.mp ka_3_0.2
def ka_3_2 := List.forall_mem_cons.mp ka_3_1.2
def ka_3_3 := List.forall_mem_cons.mp ka_3_2.2
def ka_3_4 := List.forall_mem_cons.mp ka_3_3.2
def ka_3_5 := List.forall_mem_cons.mp ka_3_4.2
def ka_3_6 := List.forall_mem_cons.mp ka_3_5.2
def ka_3_7 := List.forall_mem_cons.mp ka_3_6.2
def ka_3_8 := List.forall_mem_cons.mp ka_3_7.2
def ka_3_9 := List.forall_mem_cons.mp ka_3_8.2
def ka_3_10 := List.forall_mem_cons.mp ka_3_9.2
def ka_3_11 := List.forall_mem_cons.mp ka_3_10.2
def ka_3_12 := List.forall_mem_cons.mp ka_3_11.2
def ka_3_13 := List.forall_mem_cons.mp ka_3_12.2
def ka_3_14 := List.forall_mem_cons.mp ka_3_13.2
def ka_3_15 := List.forall_mem_cons.mp ka_3_14.2
def ka_3_16 := List.forall_mem_cons.mp ka_3_15.2
def ka_3_17 := List.forall_mem_cons.mp ka_3_16.2
def ka_3_18 := List.forall_mem_cons.mp ka_3_17.2
def ka_3_19 := List.forall_mem_cons.mp ka_3_18.2
def ka_3_20 := List.forall_mem_cons.mp ka_3_19.2
def ka_3_21 := List.forall_mem_cons.mp ka_3_20.2
def ka_3_22 := List.forall_mem_cons.mp ka_3_21.2
def ka_3_23 := List.forall_mem_cons.mp ka_3_22.2
def ka_3_24 := List.forall_mem_cons.mp ka_3_23.2
def ka_3_25 := List.forall_mem_cons.mp ka_3_24.2
def ka_3_26 := List.forall_mem_cons.mp ka_3_25.2
def ka_3_27 := List.forall_mem_cons.mp ka_3_26.2
def ka_3_28 := List.forall_mem_cons.mp ka_3_27.2
def ka_3_29 := List.forall_mem_cons.mp ka_3_28.2
def ka_3_30 := List.forall_mem_cons.mp ka_3_29.2
def ka_3_31 := List.forall_mem_cons.mp ka_3_30.2
def ka_3_32 := List.forall_mem_cons.mp ka_3_31.2
def ka_3_33 := List.forall_mem_cons.mp ka_3_32.2
def ka_3_34 := List.forall_mem_cons.mp ka_3_33.2
def ka_3_35 := List.forall_mem_cons.mp ka_3_34.2
def ka_3_36 := List.forall_mem_cons.mp ka_3_35.2
def ka_3_37 := List.forall_mem_cons.mp ka_3_36.2
def ka_3_38 := List.forall_mem_cons.mp ka_3_37.2
def ka_3_39 := List.forall_mem_cons.mp ka_3_38.2
def ka_3_40 := List.forall_mem_cons.mp ka_3_39.2
def ka_3_41 := List.forall_mem_cons.mp ka_3_40.2
def ka_3_42 := List.forall_mem_cons.mp ka_3_41.2
def ka_3_43 := List.forall_mem_cons.mp ka_3_42.2
def ka_3_44 := List.forall_mem_cons.mp ka_3_43.2
def ka_3_45 := List.forall_mem_cons.mp ka_3_44.2
def ka_3_46 := List.forall_mem_cons.mp ka_3_45.2
def ka_3_47 := List.forall_mem_cons.mp ka_3_46.2
def ka_3_48 := List.forall_mem_cons.mp ka_3_47.2
def ka_3_49 := List.forall_mem_cons.mp ka_3_48.2
def ka_3_50 := List.forall_mem_cons.mp ka_3_49.2
def ka_3_51 := List.forall_mem_cons.mp ka_3_50.2
def ka_3_52 := List.forall_mem_cons.mp ka_3_51.2
def ka_3_53 := List.forall_mem_cons.mp ka_3_52.2
def ka_3_54 := List.forall_mem_cons.mp ka_3_53.2
def ka_3_55 := List.forall_mem_cons.mp ka_3_54.2
def ka_3_56 := List.forall_mem_cons.mp ka_3_55.2
def ka_3_57 := List.forall_mem_cons.mp ka_3_56.2
def ka_3_58 := List.forall_mem_cons.mp ka_3_57.2
def ka_3_59 := List.forall_mem_cons.mp ka_3_58.2
def ka_3_60 := List.forall_mem_cons.mp ka_3_59.2
def ka_3_61 := List.forall_mem_cons.mp ka_3_60.2
def ka_3_62 := List.forall_mem_cons.mp ka_3_61.2
def ka_3_63 := List.forall_mem_cons.mp ka_3_62.2
def ka_3_64 := List.forall_mem_cons.mp ka_3_63.2
def ka_3_65 := List.forall_mem_cons.mp ka_3_64.2
def ka_3_66 := List.forall_mem_cons.mp ka_3_65.2
def ka_3_67 := List.forall_mem_cons.mp ka_3_66.2
def ka_3_68 := List.forall_mem_cons.mp ka_3_67.2
def ka_3_69 := List.forall_mem_cons.mp ka_3_68.2
def ka_3_70 := List.forall_mem_cons.mp ka_3_69.2
def ka_3_71 := List.forall_mem_cons.mp ka_3_70.2
def ka_3_72 := List.forall_mem_cons.mp ka_3_71.2
def ka_3_73 := List.forall_mem_cons.mp ka_3_72.2
def ka_3_74 := List.forall_mem_cons.mp ka_3_73.2
def ka_3_75 := List.forall_mem_cons.mp ka_3_74.2
def ka_3_76 := List.forall_mem_cons.mp ka_3_75.2
def ka_3_77 := List.forall_mem_cons.mp ka_3_76.2
def ka_3_78 := List.forall_mem_cons.mp ka_3_77.2
def ka_3_79 := List.forall_mem_cons.mp ka_3_78.2
def ka_3_80 := List.forall_mem_cons.mp ka_3_79.2
def ka_3_81 := List.forall_mem_cons.mp ka_3_80.2
def ka_3_82 := List.forall_mem_cons.mp ka_3_81.2
def ka_3_83 := List.forall_mem_cons.mp ka_3_82.2
def ka_3_84 := List.forall_mem_cons.mp ka_3_83.2
def ka_3_85 := List.forall_mem_cons.mp ka_3_84.2
def ka_3_86 := List.forall_mem_cons.mp ka_3_85.2
def ka_3_87 := List.forall_mem_cons.mp ka_3_86.2
def ka_3_88 := List.forall_mem_cons.mp ka_3_87.2
def ka_3_89 := List.forall_mem_cons.mp ka_3_88.2
def ka_3_90 := List.forall_mem_cons.mp ka_3_89.2
def ka_3_91 := List.forall_mem_cons.mp ka_3_90.2
def ka_3_92 := List.forall_mem_cons.mp ka_3_91.2
def ka_3_93 := List.forall_mem_cons.mp ka_3_92.2
def ka_3_94 := List.forall_mem_cons.mp ka_3_93.2
def ka_3_95 := List.forall_mem_cons.mp ka_3_94.2
def ka_3_96 := List.forall_mem_cons.mp ka_3_95.2
def ka_3_97 := List.forall_mem_cons.mp ka_3_96.2
def ka_3_98 := List.forall_mem_cons.mp ka_3_97.2
def ka_3_99 := List.forall_mem_cons.mp ka_3_98.2
def ka_3_100 := List.forall_mem_cons.mp ka_3_99.2
def ka_3_101 := List.forall_mem_cons.mp ka_3_100.2
def ka_3_102 := List.forall_mem_cons.mp ka_3_101.2
def ka_3_103 := List.forall_mem_cons.mp ka_3_102.2
def ka_3_104 := List.forall_mem_cons.mp ka_3_103.2
def ka_3_105 := List.forall_mem_cons.mp ka_3_104.2
def ka_3_106 := List.forall_mem_cons.mp ka_3_105.2
def ka_3_107 := List.forall_mem_cons.mp ka_3_106.2
def ka_3_108 := List.forall_mem_cons.mp ka_3_107.2
def ka_3_109 := List.forall_mem_cons.mp ka_3_108.2
def ka_3_110 := List.forall_mem_cons.mp ka_3_109.2
def ka_3_111 := List.forall_mem_cons.mp ka_3_110.2
def ka_3_112 := List.forall_mem_cons.mp ka_3_111.2
def ka_3_113 := List.forall_mem_cons.mp ka_3_112.2
def ka_3_114 := List.forall_mem_cons.mp ka_3_113.2
def ka_3_115 := List.forall_mem_cons.mp ka_3_114.2
def ka_3_116 := List.forall_mem_cons.mp ka_3_115.2
def ka_3_117 := List.forall_mem_cons.mp ka_3_116.2
def ka_3_118 := List.forall_mem_cons.mp ka_3_117.2
def ka_3_119 := List.forall_mem_cons.mp ka_3_118.2
def ka_3_120 := List.forall_mem_cons.mp ka_3_119.2
def ka_3_121 := List.forall_mem_cons.mp ka_3_120.2
def ka_3_122 := List.forall_mem_cons.mp ka_3_121.2
def ka_3_123 := List.forall_mem_cons.mp ka_3_122.2
def ka_3_124 := List.forall_mem_cons.mp ka_3_123.2
def ka_3_125 := List.forall_mem_cons.mp ka_3_124.2
def ka_3_126 := List.forall_mem_cons.mp ka_3_125.2
def ka_3_127 := List.forall_mem_cons.mp ka_3_126.2
def ka_3_128 := List.forall_mem_cons.mp ka_3_127.2
def ka_3_129 := List.forall_mem_cons.mp ka_3_128.2
def ka_3_130 := List.forall_mem_cons.mp ka_3_129.2
def ka_3_131 := List.forall_mem_cons.mp ka_3_130.2
def ka_3_132 := List.forall_mem_cons.mp ka_3_131.2
def ka_3_133 := List.forall_mem_cons.mp ka_3_132.2
def ka_3_134 := List.forall_mem_cons.mp ka_3_133.2
def ka_3_135 := List.forall_mem_cons.mp ka_3_134.2
def ka_3_136 := List.forall_mem_cons.mp ka_3_135.2
def ka_3_137 := List.forall_mem_cons.mp ka_3_136.2
def ka_3_138 := List.forall_mem_cons.mp ka_3_137.2
def ka_3_139 := List.forall_mem_cons.mp ka_3_138.2
def ka_3_140 := List.forall_mem_cons.mp ka_3_139.2
def ka_3_141 := List.forall_mem_cons.mp ka_3_140.2
def ka_3_142 := List.forall_mem_cons.mp ka_3_141.2
def ka_3_143 := List.forall_mem_cons.mp ka_3_142.2
def ka_3_144 := List.forall_mem_cons.mp ka_3_143.2
def ka_3_145 := List.forall_mem_cons.mp ka_3_144.2
def ka_3_146 := List.forall_mem_cons.mp ka_3_145.2
def ka_3_147 := List.forall_mem_cons.mp ka_3_146.2
def ka_3_148 := List.forall_mem_cons.mp ka_3_147.2
def ka_3_149 := List.forall_mem_cons.mp ka_3_148.2
def ka_3_150 := List.forall_mem_cons.mp ka_3_149.2
def ka_3_151 := List.forall_mem_cons.mp ka_3_150.2
def ka_3_152 := List.forall_mem_cons.mp ka_3_151.2
def ka_3_153 := List.forall_mem_cons.mp ka_3_152.2
def ka_3_154 := List.forall_mem_cons.mp ka_3_153.2
def ka_3_155 := List.forall_mem_cons.mp ka_3_154.2
def ka_3_156 := List.forall_mem_cons.mp ka_3_155.2
def ka_3_157 := List.forall_mem_cons.mp ka_3_156.2
def ka_3_158 := List.forall_mem_cons.mp ka_3_157.2
def ka_3_159 := List.forall_mem_cons.mp ka_3_158.2
def ka_3_160 := List.forall_mem_cons.mp ka_3_159.2
def ka_3_161 := List.forall_mem_cons.mp ka_3_160.2
def ka_3_162 := List.forall_mem_cons.mp ka_3_161.2
def ka_3_163 := List.forall_mem_cons.mp ka_3_162.2
def ka_3_164 := List.forall_mem_cons.mp ka_3_163.2
def ka_3_165 := List.forall_mem_cons.mp ka_3_164.2
def ka_3_166 := List.forall_mem_cons.mp ka_3_165.2
def ka_3_167 := List.forall_mem_cons.mp ka_3_166.2
def ka_3_168 := List.forall_mem_cons.mp ka_3_167.2
def ka_3_169 := List.forall_mem_cons.mp ka_3_168.2
def ka_3_170 := List.forall_mem_cons.mp ka_3_169.2
def ka_3_171 := List.forall_mem_cons.mp ka_3_170.2
def ka_3_172 := List.forall_mem_cons.mp ka_3_171.2
def ka_3_173 := List.forall_mem_cons.mp ka_3_172.2
def ka_3_174 := List.forall_mem_cons.mp ka_3_173.2
def ka_3_175 := List.forall_mem_cons.mp ka_3_174.2
def ka_3_176 := List.forall_mem_cons.mp ka_3_175.2
def ka_3_177 := List.forall_mem_cons.mp ka_3_176.2
def ka_3_178 := List.forall_mem_cons.mp ka_3_177.2
def ka_3_179 := List.forall_mem_cons.mp ka_3_178.2
def ka_3_180 := List.forall_mem_cons.mp ka_3_179.2
def ka_3_181 := List.forall_mem_cons.mp ka_3_180.2
def ka_3_182 := List.forall_mem_cons.mp ka_3_181.2
def ka_3_183 := List.forall_mem_cons.mp ka_3_182.2
def ka_3_184 := List.forall_mem_cons.mp ka_3_183.2
def ka_3_185 := List.forall_mem_cons.mp ka_3_184.2
def ka_3_186 := List.forall_mem_cons.mp ka_3_185.2
def ka_3_187 := List.forall_mem_cons.mp ka_3_186.2
def ka_3_188 := List.forall_mem_cons.mp ka_3_187.2
def ka_3_189 := List.forall_mem_cons.mp ka_3_188.2
def ka_3_190 := List.forall_mem_cons.mp ka_3_189.2
def ka_3_191 := List.forall_mem_cons.mp ka_3_190.2
def ka_3_192 := List.forall_mem_cons.mp ka_3_191.2
def ka_3_193 := List.forall_mem_cons.mp ka_3_192.2
def ka_3_194 := List.forall_mem_cons.mp ka_3_193.2
def ka_3_195 := List.forall_mem_cons.mp ka_3_194.2
def ka_3_196 := List.forall_mem_cons.mp ka_3_195.2
def ka_3_197 := List.forall_mem_cons.mp ka_3_196.2
def ka_3_198 := List.forall_mem_cons.mp ka_3_197.2
def ka_3_199 := List.forall_mem_cons.mp ka_3_198.2
def ka_3_200 := List.forall_mem_cons.mp ka_3_199.2
def ka_3_201 := List.forall_mem_cons.mp ka_3_200.2
def ka_3_202 := List.forall_mem_cons.mp ka_3_201.2
def ka_3_203 := List.forall_mem_cons.mp ka_3_202.2
def ka_3_204 := List.forall_mem_cons.mp ka_3_203.2
def ka_3_205 := List.forall_mem_cons.mp ka_3_204.2
def ka_3_206 := List.forall_mem_cons.mp ka_3_205.2
def ka_3_207 := List.forall_mem_cons.mp ka_3_206.2
def ka_3_208 := List.forall_mem_cons.mp ka_3_207.2
def ka_3_209 := List.forall_mem_cons.mp ka_3_208.2
def ka_3_210 := List.forall_mem_cons.mp ka_3_209.2
def ka_3_211 := List.forall_mem_cons.mp ka_3_210.2
def ka_3_212 := List.forall_mem_cons.mp ka_3_211.2
def ka_3_213 := List.forall_mem_cons.mp ka_3_212.2
def ka_3_214 := List.forall_mem_cons.mp ka_3_213.2
def ka_3_215 := List.forall_mem_cons.mp ka_3_214.2
def ka_3_216 := List.forall_mem_cons.mp ka_3_215.2
def ka_3_217 := List.forall_mem_cons.mp ka_3_216.2
def ka_3_218 := List.forall_mem_cons.mp ka_3_217.2
def ka_3_219 := List.forall_mem_cons.mp ka_3_218.2
def ka_3_220 := List.forall_mem_cons.mp ka_3_219.2
def ka_3_221 := List.forall_mem_cons.mp ka_3_220.2
def ka_3_222 := List.forall_mem_cons.mp ka_3_221.2
def ka_3_223 := List.forall_mem_cons.mp ka_3_222.2
def ka_3_224 := List.forall_mem_cons.mp ka_3_223.2
def ka_3_225 := List.forall_mem_cons.mp ka_3_224.2
def ka_3_226 := List.forall_mem_cons.mp ka_3_225.2
def ka_3_227 := List.forall_mem_cons.mp ka_3_226.2
def ka_3_228 := List.forall_mem_cons.mp ka_3_227.2
def ka_3_229 := List.forall_mem_cons.mp ka_3_228.2
def ka_3_230 := List.forall_mem_cons.mp ka_3_229.2
def ka_3_231 := List.forall_mem_cons.mp ka_3_230.2
def ka_3_232 := List.forall_mem_cons.mp ka_3_231.2
def ka_3_233 := List.forall_mem_cons.mp ka_3_232.2
def ka_3_234 := List.forall_mem_cons.mp ka_3_233.2
def ka_3_235 := List.forall_mem_cons.mp ka_3_234.2
def ka_3_236 := List.forall_mem_cons.mp ka_3_235.2
def ka_3_237 := List.forall_mem_cons.mp ka_3_236.2
def ka_3_238 := List.forall_mem_cons.mp ka_3_237.2
def ka_3_239 := List.forall_mem_cons.mp ka_3_238.2
theorem tb_in4 : ∀ w ∈ tables_1_4, w ∈ lw_tbl := fun _ h => List.mem_append_right _ (List.mem_append_right _ (List.mem_append_right _ (List.mem_append_right _ (List.mem_append_left _ h))))
def ka_4_0 := List.forall_mem_cons.mp tb_in4
def ka_4_1 := List.forall_mem_cons.mp ka_4_0.2
def ka_4_2 := List.forall_mem_cons.mp ka_4_1.2
def ka_4_3 := List.forall_mem_cons.mp ka_4_2.2
def ka_4_4 := List.forall_mem_cons.mp ka_4_3.2
def ka_4_5 := List.forall_mem_cons.mp ka_4_4.2
def ka_4_6 := List.forall_mem_cons.mp ka_4_5.2
def ka_4_7 := List.forall_mem_cons.mp ka_4_6.2
def ka_4_8 := List.forall_mem_cons.mp ka_4_7.2
def ka_4_9 := List.forall_mem_cons.mp ka_4_8.2
def ka_4_10 := List.forall_mem_cons.mp ka_4_9.2
def ka_4_11 := List.forall_mem_cons.mp ka_4_10.2
def ka_4_12 := List.forall_mem_cons.mp ka_4_11.2
def ka_4_13 := List.forall_mem_cons.mp ka_4_12.2
def ka_4_14 := List.forall_mem_cons.mp ka_4_13.2
def ka_4_15 := List.forall_mem_cons.mp ka_4_14.2
def ka_4_16 := List.forall_mem_cons.mp ka_4_15.2
def ka_4_17 := List.forall_mem_cons.mp ka_4_16.2
def ka_4_18 := List.forall_mem_cons.mp ka_4_17.2
def ka_4_19 := List.forall_mem_cons.mp ka_4_18.2
def ka_4_20 := List.forall_mem_cons.mp ka_4_19.2
def ka_4_21 := List.forall_mem_cons.mp ka_4_20.2
def ka_4_22 := List.forall_mem_cons.mp ka_4_21.2
def ka_4_23 := List.forall_mem_cons.mp ka_4_22.2
def ka_4_24 := List.forall_mem_cons.mp ka_4_23.2
def ka_4_25 := List.forall_mem_cons.mp ka_4_24.2
def ka_4_26 := List.forall_mem_cons.mp ka_4_25.2
def ka_4_27 := List.forall_mem_cons.mp ka_4_26.2
def ka_4_28 := List.forall_mem_cons.mp ka_4_27.2
def ka_4_29 := List.forall_mem_cons.mp ka_4_28.2
def ka_4_30 := List.forall_mem_cons.mp ka_4_29.2
def ka_4_31 := List.forall_mem_cons.mp ka_4_30.2
def ka_4_32 := List.forall_mem_cons.mp ka_4_31.2
def ka_4_33 := List.forall_mem_cons.mp ka_4_32.2
def ka_4_34 := List.forall_mem_cons.mp ka_4_33.2
def ka_4_35 := List.forall_mem_cons.mp ka_4_34.2
def ka_4_36 := List.forall_mem_cons.mp ka_4_35.2
def ka_4_37 := List.forall_mem_cons.mp ka_4_36.2
def ka_4_38 := List.forall_mem_cons.mp ka_4_37.2
def ka_4_39 := List.forall_mem_cons.mp ka_4_38.2
def ka_4_40 := List.forall_mem_cons.mp ka_4_39.2
def ka_4_41 := List.forall_mem_cons.mp ka_4_40.2
def ka_4_42 := List.forall_mem_cons.mp ka_4_41.2
def ka_4_43 := List.forall_mem_cons.mp ka_4_42.2
def ka_4_44 := List.forall_mem_cons.mp ka_4_43.2
def ka_4_45 := List.forall_mem_cons.mp ka_4_44.2
def ka_4_46 := List.forall_mem_cons.mp ka_4_45.2
def ka_4_47 := List.forall_mem_cons.mp ka_4_46.2
def ka_4_48 := List.forall_mem_cons.mp ka_4_47.2
def ka_4_49 := List.forall_mem_cons.mp ka_4_48.2
def ka_4_50 := List.forall_mem_cons.mp ka_4_49.2
def ka_4_51 := List.forall_mem_cons.mp ka_4_50.2
def ka_4_52 := List.forall_mem_cons.mp ka_4_51.2
def ka_4_53 := List.forall_mem_cons.mp ka_4_52.2
def ka_4_54 := List.forall_mem_cons.mp ka_4_53.2
def ka_4_55 := List.forall_mem_cons.mp ka_4_54.2
def ka_4_56 := List.forall_mem_cons.mp ka_4_55.2
def ka_4_57 := List.forall_mem_cons.mp ka_4_56.2
def ka_4_58 := List.forall_mem_cons.mp ka_4_57.2
def ka_4_59 := List.forall_mem_cons.mp ka_4_58.2
def ka_4_60 := List.forall_mem_cons.mp ka_4_59.2
def ka_4_61 := List.forall_mem_cons.mp ka_4_60.2
def ka_4_62 := List.forall_mem_cons.mp ka_4_61.2
def ka_4_63 := List.forall_mem_cons.mp ka_4_62.2
def ka_4_64 := List.forall_mem_cons.mp ka_4_63.2
def ka_4_65 := List.forall_mem_cons.mp ka_4_64.2
def ka_4_66 := List.forall_mem_cons.mp ka_4_65.2
def ka_4_67 := List.forall_mem_cons.mp ka_4_66.2
def ka_4_68 := List.forall_mem_cons.mp ka_4_67.2
def ka_4_69 := List.forall_mem_cons.mp ka_4_68.2
def ka_4_70 := List.forall_mem_cons.mp ka_4_69.2
def ka_4_71 := List.forall_mem_cons.mp ka_4_70.2
def ka_4_72 := List.forall_mem_cons.mp ka_4_71.2
def ka_4_73 := List.forall_mem_cons.mp ka_4_72.2
def ka_4_74 := List.forall_mem_cons.mp ka_4_73.2
def ka_4_75 := List.forall_mem_cons.mp ka_4_74.2
def ka_4_76 := List.forall_mem_cons.mp ka_4_75.2
def ka_4_77 := List.forall_mem_cons.mp ka_4_76.2
def ka_4_78 := List.forall_mem_cons.mp ka_4_77.2
def ka_4_79 := List.forall_mem_cons.mp ka_4_78.2
def ka_4_80 := List.forall_mem_cons.mp ka_4_79.2
def ka_4_81 := List.forall_mem_cons.mp ka_4_80.2
def ka_4_82 := List.forall_mem_cons.mp ka_4_81.2
def ka_4_83 := List.forall_mem_cons.mp ka_4_82.2
def ka_4_84 := List.forall_mem_cons.mp ka_4_83.2
def ka_4_85 := List.forall_mem_cons.mp ka_4_84.2
def ka_4_86 := List.forall_mem_cons.mp ka_4_85.2
def ka_4_87 := List.forall_mem_cons.mp ka_4_86.2
def ka_4_88 := List.forall_mem_cons.mp ka_4_87.2
def ka_4_89 := List.forall_mem_cons.mp ka_4_88.2
def ka_4_90 := List.forall_mem_cons.mp ka_4_89.2
def ka_4_91 := List.forall_mem_cons.mp ka_4_90.2
def ka_4_92 := List.forall_mem_cons.mp ka_4_91.2
def ka_4_93 := List.forall_mem_cons.mp ka_4_92.2
def ka_4_94 := List.forall_mem_cons.mp ka_4_93.2
def ka_4_95 := List.forall_mem_cons.mp ka_4_94.2
def ka_4_96 := List.forall_mem_cons.mp ka_4_95.2
def ka_4_97 := List.forall_mem_cons.mp ka_4_96.2
def ka_4_98 := List.forall_mem_cons.mp ka_4_97.2
def ka_4_99 := List.forall_mem_cons.mp ka_4_98.2
def ka_4_100 := List.forall_mem_cons.mp ka_4_99.2
def ka_4_101 := List.forall_mem_cons.mp ka_4_100.2
def ka_4_102 := List.forall_mem_cons.mp ka_4_101.2
def ka_4_103 := List.forall_mem_cons.mp ka_4_102.2
def ka_4_104 := List.forall_mem_cons.mp ka_4_103.2
def ka_4_105 := List.forall_mem_cons.mp ka_4_104.2
def ka_4_106 := List.forall_mem_cons.mp ka_4_105.2
def ka_4_107 := List.forall_mem_cons.mp ka_4_106.2
def ka_4_108 := List.forall_mem_cons.mp ka_4_107.2
def ka_4_109 := List.forall_mem_cons.mp ka_4_108.2
def ka_4_110 := List.forall_mem_cons.mp ka_4_109.2
def ka_4_111 := List.forall_mem_cons.mp ka_4_110.2
def ka_4_112 := List.forall_mem_cons.mp ka_4_111.2
def ka_4_113 := List.forall_mem_cons.mp ka_4_112.2
def ka_4_114 := List.forall_mem_cons.mp ka_4_113.2
def ka_4_115 := List.forall_mem_cons.mp ka_4_114.2
def ka_4_116 := List.forall_mem_cons.mp ka_4_115.2
def ka_4_117 := List.forall_mem_cons.mp ka_4_116.2
def ka_4_118 := List.forall_mem_cons.mp ka_4_117.2
def ka_4_119 := List.forall_mem_cons.mp ka_4_118.2
def ka_4_120 := List.forall_mem_cons.mp ka_4_119.2
def ka_4_121 := List.forall_mem_cons.mp ka_4_120.2
def ka_4_122 := List.forall_mem_cons.mp ka_4_121.2
def ka_4_123 := List.forall_mem_cons.mp ka_4_122.2
def ka_4_124 := List.forall_mem_cons.mp ka_4_123.2
def ka_4_125 := List.forall_mem_cons.mp ka_4_124.2
def ka_4_126 := List.forall_mem_cons.mp ka_4_125.2
def ka_4_127 := List.forall_mem_cons.mp ka_4_126.2
def ka_4_128 := List.forall_mem_cons.mp ka_4_127.2
def ka_4_129 := List.forall_mem_cons.mp ka_4_128.2
def ka_4_130 := List.forall_mem_cons.mp ka_4_129.2
def ka_4_131 := List.forall_mem_cons.mp ka_4_130.2
def ka_4_132 := List.forall_mem_cons.mp ka_4_131.2
def ka_4_133 := List.forall_mem_cons.mp ka_4_132.2
def ka_4_134 := List.forall_mem_cons.mp ka_4_133.2
def ka_4_135 := List.forall_mem_cons.mp ka_4_134.2
def ka_4_136 := List.forall_mem_cons.mp ka_4_135.2
def ka_4_137 := List.forall_mem_cons.mp ka_4_136.2
def ka_4_138 := List.forall_mem_cons.mp ka_4_137.2
def ka_4_139 := List.forall_mem_cons.mp ka_4_138.2
def ka_4_140 := List.forall_mem_cons.mp ka_4_139.2
def ka_4_141 := List.forall_mem_cons.mp ka_4_140.2
def ka_4_142 := List.forall_mem_cons.mp ka_4_141.2
def ka_4_143 := List.forall_mem_cons.mp ka_4_142.2
def ka_4_144 := List.forall_mem_cons.mp ka_4_143.2
def ka_4_145 := List.forall_mem_cons.mp ka_4_144.2
def ka_4_146 := List.forall_mem_cons.mp ka_4_145.2
def ka_4_147 := List.forall_mem_cons.mp ka_4_146.2
def ka_4_148 := List.forall_mem_cons.mp ka_4_147.2
def ka_4_149 := List.forall_mem_cons.mp ka_4_148.2
def ka_4_150 := List.forall_mem_cons.mp ka_4_149.2
def ka_4_151 := List.forall_mem_cons.mp ka_4_150.2
def ka_4_152 := List.forall_mem_cons.mp ka_4_151.2
def ka_4_153 := List.forall_mem_cons.mp ka_4_152.2
def ka_4_154 := List.forall_mem_cons.mp ka_4_153.2
def ka_4_155 := List.forall_mem_cons.mp ka_4_154.2
def ka_4_156 := List.forall_mem_cons.mp ka_4_155.2
def ka_4_157 := List.forall_mem_cons.mp ka_4_156.2
def ka_4_158 := List.forall_mem_cons.mp ka_4_157.2
def ka_4_159 := List.forall_mem_cons.mp ka_4_158.2
def ka_4_160 := List.forall_mem_cons.mp ka_4_159.2
def ka_4_161 := List.forall_mem_cons.mp ka_4_160.2
def ka_4_162 := List.forall_mem_cons.mp ka_4_161.2
def ka_4_163 := List.forall_mem_cons.mp ka_4_162.2
def ka_4_164 := List.forall_mem_cons.mp ka_4_163.2
def ka_4_165 := List.forall_mem_cons.mp ka_4_164.2
def ka_4_166 := List.forall_mem_cons.mp ka_4_165.2
def ka_4_167 := List.forall_mem_cons.mp ka_4_166.2
def ka_4_168 := List.forall_mem_cons.mp ka_4_167.2
def ka_4_169 := List.forall_mem_cons.mp ka_4_168.2
def ka_4_170 := List.forall_mem_cons.mp ka_4_169.2
def ka_4_171 := List.forall_mem_cons.mp ka_4_170.2
def ka_4_172 := List.forall_mem_cons.mp ka_4_171.2
def ka_4_173 := List.forall_mem_cons.mp ka_4_172.2
def ka_4_174 := List.forall_mem_cons.mp ka_4_173.2
def ka_4_175 := List.forall_mem_cons.mp ka_4_174.2
def ka_4_176 := List.forall_mem_cons.mp ka_4_175.2
def ka_4_177 := List.forall_mem_cons.mp ka_4_176.2
def ka_4_178 := List.forall_mem_cons.mp ka_4_177.2
def ka_4_179 := List.forall_mem_cons.mp ka_4_178.2
def ka_4_180 := List.forall_mem_cons.mp ka_4_179.2
def ka_4_181 := List.forall_mem_cons.mp ka_4_180.2
def ka_4_182 := List.forall_mem_cons.mp ka_4_181.2
def ka_4_183 := List.forall_mem_cons.mp ka_4_182.2
def ka_4_184 := List.forall_mem_cons.mp ka_4_183.2
def ka_4_185 := List.forall_mem_cons.mp ka_4_184.2
def ka_4_186 := List.forall_mem_cons.mp ka_4_185.2
def ka_4_187 := List.forall_mem_cons.mp ka_4_186.2
def ka_4_188 := List.forall_mem_cons.mp ka_4_187.2
def ka_4_189 := List.forall_mem_cons.mp ka_4_188.2
def ka_4_190 := List.forall_mem_cons.mp ka_4_189.2
def ka_4_191 := List.forall_mem_cons.mp ka_4_190.2
def ka_4_192 := List.forall_mem_cons.mp ka_4_191.2
def ka_4_193 := List.forall_mem_cons.mp ka_4_192.2
def ka_4_194 := List.forall_mem_cons.mp ka_4_193.2
def ka_4_195 := List.forall_mem_cons.mp ka_4_194.2
def ka_4_196 := List.forall_mem_cons.mp ka_4_195.2
def ka_4_197 := List.forall_mem_cons.mp ka_4_196.2
def ka_4_198 := List.forall_mem_cons.mp ka_4_197.2
def ka_4_199 := List.forall_mem_cons.mp ka_4_198.2
def ka_4_200 := List.forall_mem_cons.mp ka_4_199.2
def ka_4_201 := List.forall_mem_cons.mp ka_4_200.2
def ka_4_202 := List.forall_mem_cons.mp ka_4_201.2
def ka_4_203 := List.forall_mem_cons.mp ka_4_202.2
def ka_4_204 := List.forall_mem_cons.mp ka_4_203.2
def ka_4_205 := List.forall_mem_cons.mp ka_4_204.2
def ka_4_206 := List.forall_mem_cons.mp ka_4_205.2
def ka_4_207 := List.forall_mem_cons.mp ka_4_206.2
def ka_4_208 := List.forall_mem_cons.mp ka_4_207.2
def ka_4_209 := List.forall_mem_cons.mp ka_4_208.2
def ka_4_210 := List.forall_mem_cons.mp ka_4_209.2
def ka_4_211 := List.forall_mem_cons.mp ka_4_210.2
def ka_4_212 := List.forall_mem_cons.mp ka_4_211.2
def ka_4_213 := List.forall_mem_cons.mp ka_4_212.2
def ka_4_214 := List.forall_mem_cons.mp ka_4_213.2
def ka_4_215 := List.forall_mem_cons.mp ka_4_214.2
def ka_4_216 := List.forall_mem_cons.mp ka_4_215.2
def ka_4_217 := List.forall_mem_cons.mp ka_4_216.2
def ka_4_218 := List.forall_mem_cons.mp ka_4_217.2
def ka_4_219 := List.forall_mem_cons.mp ka_4_218.2
def ka_4_220 := List.forall_mem_cons.mp ka_4_219.2
def ka_4_221 := List.forall_mem_cons.mp ka_4_220.2
def ka_4_222 := List.forall_mem_cons.mp ka_4_221.2
def ka_4_223 := List.forall_mem_cons.mp ka_4_222.2
def ka_4_224 := List.forall_mem_cons.mp ka_4_223.2
def ka_4_225 := List.forall_mem_cons.mp ka_4_224.2
def ka_4_226 := List.forall_mem_cons.mp ka_4_225.2
def ka_4_227 := List.forall_mem_cons.mp ka_4_226.2
def ka_4_228 := List.forall_mem_cons.mp ka_4_227.2
def ka_4_229 := List.forall_mem_cons.mp ka_4_228.2
def ka_4_230 := List.forall_mem_cons.mp ka_4_229.2
def ka_4_231 := List.forall_mem_cons.mp ka_4_230.2
def ka_4_232 := List.forall_mem_cons.mp ka_4_231.2
def ka_4_233 := List.forall_mem_cons.mp ka_4_232.2
def ka_4_234 := List.forall_mem_cons.mp ka_4_233.2
def ka_4_235 := List.forall_mem_cons.mp ka_4_234.2
def ka_4_236 := List.forall_mem_cons.mp ka_4_235.2
def ka_4_237 := List.forall_mem_cons.mp ka_4_236.2
def ka_4_238 := List.forall_mem_cons.mp ka_4_237.2
def ka_4_239 := List.forall_mem_cons.mp ka_4_238.2
theorem tb_in5 : ∀ w ∈ tables_1_5, w ∈ lw_tbl := fun _ h => List.mem_append_right _ (List.mem_append_right _ (List.mem_append_right _ (List.mem_append_right _ (List.mem_append_right _ (List.mem_append_left _ h)))))
def ka_5_0 := List.forall_mem_cons.mp tb_in5
def ka_5_1 := List.forall_mem_cons.mp ka_5_0.2
def ka_5_2 := List.forall_mem_cons.mp ka_5_1.2
def ka_5_3 := List.forall_mem_cons.mp ka_5_2.2
def ka_5_4 := List.forall_mem_cons.mp ka_5_3.2
def ka_5_5 := List.forall_mem_cons.mp ka_5_4.2
def ka_5_6 := List.forall_mem_cons.mp ka_5_5.2
def ka_5_7 := List.forall_mem_cons.mp ka_5_6.2
def ka_5_8 := List.forall_mem_cons.mp ka_5_7.2
def ka_5_9 := List.forall_mem_cons.mp ka_5_8.2
def ka_5_10 := List.forall_mem_cons.mp ka_5_9.2
def ka_5_11 := List.forall_mem_cons.mp ka_5_10.2
def ka_5_12 := List.forall_mem_cons.mp ka_5_11.2
def ka_5_13 := List.forall_mem_cons.mp ka_5_12.2
def ka_5_14 := List.forall_mem_cons.mp ka_5_13.2
def ka_5_15 := List.forall_mem_cons.mp ka_5_14.2
def ka_5_16 := List.forall_mem_cons.mp ka_5_15.2
def ka_5_17 := List.forall_mem_cons.mp ka_5_16.2
def ka_5_18 := List.forall_mem_cons.mp ka_5_17.2
def ka_5_19 := List.forall_mem_cons.mp ka_5_18.2
def ka_5_20 := List.forall_mem_cons.mp ka_5_19.2
def ka_5_21 := List.forall_mem_cons.mp ka_5_20.2
def ka_5_22 := List.forall_mem_cons.mp ka_5_21.2
def ka_5_23 := List.forall_mem_cons.mp ka_5_22.2
def ka_5_24 := List.forall_mem_cons.mp ka_5_23.2
def ka_5_25 := List.forall_mem_cons.mp ka_5_24.2
def ka_5_26 := List.forall_mem_cons.mp ka_5_25.2
def ka_5_27 := List.forall_mem_cons.mp ka_5_26.2
def ka_5_28 := List.forall_mem_cons.mp ka_5_27.2
def ka_5_29 := List.forall_mem_cons.mp ka_5_28.2
def ka_5_30 := List.forall_mem_cons.mp ka_5_29.2
def ka_5_31 := List.forall_mem_cons.mp ka_5_30.2
def ka_5_32 := List.forall_mem_cons.mp ka_5_31.2
def ka_5_33 := List.forall_mem_cons.mp ka_5_32.2
def ka_5_34 := List.forall_mem_cons.mp ka_5_33.2
def ka_5_35 := List.forall_mem_cons.mp ka_5_34.2
def ka_5_36 := List.forall_mem_cons.mp ka_5_35.2
def ka_5_37 := List.forall_mem_cons.mp ka_5_36.2
def ka_5_38 := List.forall_mem_cons.mp ka_5_37.2
def ka_5_39 := List.forall_mem_cons.mp ka_5_38.2
def ka_5_40 := List.forall_mem_cons.mp ka_5_39.2
def ka_5_41 := List.forall_mem_cons.mp ka_5_40.2
def ka_5_42 := List.forall_mem_cons.mp ka_5_41.2
def ka_5_43 := List.forall_mem_cons.mp ka_5_42.2
def ka_5_44 := List.forall_mem_cons.mp ka_5_43.2
def ka_5_45 := List.forall_mem_cons.mp ka_5_44.2
def ka_5_46 := List.forall_mem_cons.mp ka_5_45.2
def ka_5_47 := List.forall_mem_cons.mp ka_5_46.2
def ka_5_48 := List.forall_mem_cons.mp ka_5_47.2
def ka_5_49 := List.forall_mem_cons.mp ka_5_48.2
def ka_5_50 := List.forall_mem_cons.mp ka_5_49.2
def ka_5_51 := List.forall_mem_cons.mp ka_5_50.2
def ka_5_52 := List.forall_mem_cons.mp ka_5_51.2
def ka_5_53 := List.forall_mem_cons.mp ka_5_52.2
def ka_5_54 := List.forall_mem_cons.mp ka_5_53.2
def ka_5_55 := List.forall_mem_cons.mp ka_5_54.2
def ka_5_56 := List.forall_mem_cons.mp ka_5_55.2
def ka_5_57 := List.forall_mem_cons.mp ka_5_56.2
def ka_5_58 := List.forall_mem_cons.mp ka_5_57.2
def ka_5_59 := List.forall_mem_cons.mp ka_5_58.2
def ka_5_60 := List.forall_mem_cons.mp ka_5_59.2
def ka_5_61 := List.forall_mem_cons.mp ka_5_60.2
def ka_5_62 := List.forall_mem_cons.mp ka_5_61.2
def ka_5_63 := List.forall_mem_cons.mp ka_5_62.2
def ka_5_64 := List.forall_mem_cons.mp ka_5_63.2
def ka_5_65 := List.forall_mem_cons.mp ka_5_64.2
def ka_5_66 := List.forall_mem_cons.mp ka_5_65.2
def ka_5_67 := List.forall_mem_cons.mp ka_5_66.2
def ka_5_68 := List.forall_mem_cons.mp ka_5_67.2
def ka_5_69 := List.forall_mem_cons.mp ka_5_68.2
def ka_5_70 := List.forall_mem_cons.mp ka_5_69.2
def ka_5_71 := List.forall_mem_cons.mp ka_5_70.2
def ka_5_72 := List.forall_mem_cons.mp ka_5_71.2
def ka_5_73 := List.forall_mem_cons.mp ka_5_72.2
def ka_5_74 := List.forall_mem_cons.mp ka_5_73.2
def ka_5_75 := List.forall_mem_cons.mp ka_5_74.2
def ka_5_76 := List.forall_mem_cons.mp ka_5_75.2
def ka_5_77 := List.forall_mem_cons.mp ka_5_76.2
def ka_5_78 := List.forall_mem_cons.mp ka_5_77.2
def ka_5_79 := List.forall_mem_cons.mp ka_5_78.2
def ka_5_80 := List.forall_mem_cons.mp ka_5_79.2
def ka_5_81 := List.forall_mem_cons.mp ka_5_80.2
def ka_5_82 := List.forall_mem_cons.mp ka_5_81.2
def ka_5_83 := List.forall_mem_cons.mp ka_5_82.2
def ka_5_84 := List.forall_mem_cons.mp ka_5_83.2
def ka_5_85 := List.forall_mem_cons.mp ka_5_84.2
def ka_5_86 := List.forall_mem_cons.mp ka_5_85.2
def ka_5_87 := List.forall_mem_cons.mp ka_5_86.2
def ka_5_88 := List.forall_mem_cons.mp ka_5_87.2
def ka_5_89 := List.forall_mem_cons.mp ka_5_88.2
def ka_5_90 := List.forall_mem_cons.mp ka_5_89.2
def ka_5_91 := List.forall_mem_cons.mp ka_5_90.2
def ka_5_92 := List.forall_mem_cons.mp ka_5_91.2
def ka_5_93 := List.forall_mem_cons.mp ka_5_92.2
def ka_5_94 := List.forall_mem_cons.mp ka_5_93.2
def ka_5_95 := List.forall_mem_cons.mp ka_5_94.2
def ka_5_96 := List.forall_mem_cons.mp ka_5_95.2
def ka_5_97 := List.forall_mem_cons.mp ka_5_96.2
def ka_5_98 := List.forall_mem_cons.mp ka_5_97.2
def ka_5_99 := List.forall_mem_cons.mp ka_5_98.2
def ka_5_100 := List.forall_mem_cons.mp ka_5_99.2
def ka_5_101 := List.forall_mem_cons.mp ka_5_100.2
def ka_5_102 := List.forall_mem_cons.mp ka_5_101.2
def ka_5_103 := List.forall_mem_cons.mp ka_5_102.2
def ka_5_104 := List.forall_mem_cons.mp ka_5_103.2
def ka_5_105 := List.forall_mem_cons.mp ka_5_104.2
def ka_5_106 := List.forall_mem_cons.mp ka_5_105.2
def ka_5_107 := List.forall_mem_cons.mp ka_5_106.2
def ka_5_108 := List.forall_mem_cons.mp ka_5_107.2
def ka_5_109 := List.forall_mem_cons.mp ka_5_108.2
def ka_5_110 := List.forall_mem_cons.mp ka_5_109.2
def ka_5_111 := List.forall_mem_cons.mp ka_5_110.2
def ka_5_112 := List.forall_mem_cons.mp ka_5_111.2
def ka_5_113 := List.forall_mem_cons.mp ka_5_112.2
def ka_5_114 := List.forall_mem_cons.mp ka_5_113.2
def ka_5_115 := List.forall_mem_cons.mp ka_5_114.2
def ka_5_116 := List.forall_mem_cons.mp ka_5_115.2
def ka_5_117 := List.forall_mem_cons.mp ka_5_116.2
def ka_5_118 := List.forall_mem_cons.mp ka_5_117.2
def ka_5_119 := List.forall_mem_cons.mp ka_5_118.2
def ka_5_120 := List.forall_mem_cons.mp ka_5_119.2
def ka_5_121 := List.forall_mem_cons.mp ka_5_120.2
def ka_5_122 := List.forall_mem_cons.mp ka_5_121.2
def ka_5_123 := List.forall_mem_cons.mp ka_5_122.2
def ka_5_124 := List.forall_mem_cons.mp ka_5_123.2
def ka_5_125 := List.forall_mem_cons.mp ka_5_124.2
def ka_5_126 := List.forall_mem_cons.mp ka_5_125.2
def ka_5_127 := List.forall_mem_cons.mp ka_5_126.2
def ka_5_128 := List.forall_mem_cons.mp ka_5_127.2
def ka_5_129 := List.forall_mem_cons.mp ka_5_128.2
def ka_5_130 := List.forall_mem_cons.mp ka_5_129.2
def ka_5_131 := List.forall_mem_cons.mp ka_5_130.2
def ka_5_132 := List.forall_mem_cons.mp ka_5_131.2
def ka_5_133 := List.forall_mem_cons.mp ka_5_132.2
def ka_5_134 := List.forall_mem_cons.mp ka_5_133.2
def ka_5_135 := List.forall_mem_cons.mp ka_5_134.2
def ka_5_136 := List.forall_mem_cons.mp ka_5_135.2
def ka_5_137 := List.forall_mem_cons.mp ka_5_136.2
def ka_5_138 := List.forall_mem_cons.mp ka_5_137.2
def ka_5_139 := List.forall_mem_cons.mp ka_5_138.2
def ka_5_140 := List.forall_mem_cons.mp ka_5_139.2
def ka_5_141 := List.forall_mem_cons.mp ka_5_140.2
def ka_5_142 := List.forall_mem_cons.mp ka_5_141.2
def ka_5_143 := List.forall_mem_cons.mp ka_5_142.2
def ka_5_144 := List.forall_mem_cons.mp ka_5_143.2
def ka_5_145 := List.forall_mem_cons.mp ka_5_144.2
def ka_5_146 := List.forall_mem_cons.mp ka_5_145.2
def ka_5_147 := List.forall_mem_cons.mp ka_5_146.2
def ka_5_148 := List.forall_mem_cons.mp ka_5_147.2
def ka_5_149 := List.forall_mem_cons.mp ka_5_148.2
def ka_5_150 := List.forall_mem_cons.mp ka_5_149.2
def ka_5_151 := List.forall_mem_cons.mp ka_5_150.2
def ka_5_152 := List.forall_mem_cons.mp ka_5_151.2
def ka_5_153 := List.forall_mem_cons.mp ka_5_152.2
def ka_5_154 := List.forall_mem_cons.mp ka_5_153.2
def ka_5_155 := List.forall_mem_cons.mp ka_5_154.2
def ka_5_156 := List.forall_mem_cons.mp ka_5_155.2
def ka_5_157 := List.forall_mem_cons.mp ka_5_156.2
def ka_5_158 := List.forall_mem_cons.mp ka_5_157.2
def ka_5_159 := List.forall_mem_cons.mp ka_5_158.2
def ka_5_160 := List.forall_mem_cons.mp ka_5_159.2
def ka_5_161 := List.forall_mem_cons.mp ka_5_160.2
def ka_5_162 := List.forall_mem_cons.mp ka_5_161.2
def ka_5_163 := List.forall_mem_cons.mp ka_5_162.2
def ka_5_164 := List.forall_mem_cons.mp ka_5_163.2
def ka_5_165 := List.forall_mem_cons.mp ka_5_164.2
def ka_5_166 := List.forall_mem_cons.mp ka_5_165.2
def ka_5_167 := List.forall_mem_cons.mp ka_5_166.2
def ka_5_168 := List.forall_mem_cons.mp ka_5_167.2
def ka_5_169 := List.forall_mem_cons.mp ka_5_168.2
def ka_5_170 := List.forall_mem_cons.mp ka_5_169.2
def ka_5_171 := List.forall_mem_cons.mp ka_5_170.2
def ka_5_172 := List.forall_mem_cons.mp ka_5_171.2
def ka_5_173 := List.forall_mem_cons.mp ka_5_172.2
def ka_5_174 := List.forall_mem_cons.mp ka_5_173.2
def ka_5_175 := List.forall_mem_cons.mp ka_5_174.2
def ka_5_176 := List.forall_mem_cons.mp ka_5_175.2
def ka_5_177 := List.forall_mem_cons.mp ka_5_176.2
def ka_5_178 := List.forall_mem_cons.mp ka_5_177.2
def ka_5_179 := List.forall_mem_cons.mp ka_5_178.2
def ka_5_180 := List.forall_mem_cons.mp ka_5_179.2
def ka_5_181 := List.forall_mem_cons.mp ka_5_180.2
def ka_5_182 := List.forall_mem_cons.mp ka_5_181.2
def ka_5_183 := List.forall_mem_cons.mp ka_5_182.2
def ka_5_184 := List.forall_mem_cons.mp ka_5_183.2
def ka_5_185 := List.forall_mem_cons.mp ka_5_184.2
def ka_5_186 := List.forall_mem_cons.mp ka_5_185.2
def ka_5_187 := List.forall_mem_cons.mp ka_5_186.2
def ka_5_188 := List.forall_mem_cons.mp ka_5_187.2
def ka_5_189 := List.forall_mem_cons.mp ka_5_188.2
def ka_5_190 := List.forall_mem_cons.mp ka_5_189.2
def ka_5_191 := List.forall_mem_cons.mp ka_5_190.2
def ka_5_192 := List.forall_mem_cons.mp ka_5_191.2
def ka_5_193 := List.forall_mem_cons.mp ka_5_192.2
def ka_5_194 := List.forall_mem_cons.mp ka_5_193.2
def ka_5_195 := List.forall_mem_cons.mp ka_5_194.2
def ka_5_196 := List.forall_mem_cons.mp ka_5_195.2
def ka_5_197 := List.forall_mem_cons.mp ka_5_196.2
def ka_5_198 := List.forall_mem_cons.mp ka_5_197.2
def ka_5_199 := List.forall_mem_cons.mp ka_5_198.2
def ka_5_200 := List.forall_mem_cons.mp ka_5_199.2
def ka_5_201 := List.forall_mem_cons.mp ka_5_200.2
def ka_5_202 := List.forall_mem_cons.mp ka_5_201.2
def ka_5_203 := List.forall_mem_cons.mp ka_5_202.2
def ka_5_204 := List.forall_mem_cons.mp ka_5_203.2
def ka_5_205 := List.forall_mem_cons.mp ka_5_204.2
def ka_5_206 := List.forall_mem_cons.mp ka_5_205.2
def ka_5_207 := List.forall_mem_cons.mp ka_5_206.2
def ka_5_208 := List.forall_mem_cons.mp ka_5_207.2
def ka_5_209 := List.forall_mem_cons.mp ka_5_208.2
def ka_5_210 := List.forall_mem_cons.mp ka_5_209.2
def ka_5_211 := List.forall_mem_cons.mp ka_5_210.2
def ka_5_212 := List.forall_mem_cons.mp ka_5_211.2
def ka_5_213 := List.forall_mem_cons.mp ka_5_212.2
def ka_5_214 := List.forall_mem_cons.mp ka_5_213.2
def ka_5_215 := List.forall_mem_cons.mp ka_5_214.2
def ka_5_216 := List.forall_mem_cons.mp ka_5_215.2
def ka_5_217 := List.forall_mem_cons.mp ka_5_216.2
def ka_5_218 := List.forall_mem_cons.mp ka_5_217.2
def ka_5_219 := List.forall_mem_cons.mp ka_5_218.2
def ka_5_220 := List.forall_mem_cons.mp ka_5_219.2
def ka_5_221 := List.forall_mem_cons.mp ka_5_220.2
def ka_5_222 := List.forall_mem_cons.mp ka_5_221.2
def ka_5_223 := List.forall_mem_cons.mp ka_5_222.2
def ka_5_224 := List.forall_mem_cons.mp ka_5_223.2
def ka_5_225 := List.forall_mem_cons.mp ka_5_224.2
def ka_5_226 := List.forall_mem_cons.mp ka_5_225.2
def ka_5_227 := List.forall_mem_cons.mp ka_5_226.2
def ka_5_228 := List.forall_mem_cons.mp ka_5_227.2
def ka_5_229 := List.forall_mem_cons.mp ka_5_228.2
def ka_5_230 := List.forall_mem_cons.mp ka_5_229.2
def ka_5_231 := List.forall_mem_cons.mp ka_5_230.2
def ka_5_232 := List.forall_mem_cons.mp ka_5_231.2
def ka_5_233 := List.forall_mem_cons.mp ka_5_232.2
def ka_5_234 := List.forall_mem_cons.mp ka_5_233.2
def ka_5_235 := List.forall_mem_cons.mp ka_5_234.2
def ka_5_236 := List.forall_mem_cons.mp ka_5_235.2
def ka_5_237 := List.forall_mem_cons.mp ka_5_236.2
def ka_5_238 := List.forall_mem_cons.mp ka_5_237.2
def ka_5_239 := List.forall_mem_cons.mp ka_5_238.2
theorem tb_in6 : ∀ w ∈ tables_1_6, w ∈ lw_tbl := fun _ h => List.mem_append_right _ (List.mem_append_right _ (List.mem_append_right _ (List.mem_append_right _ (List.mem_append_right _ (List.mem_append_right _ (List.mem_append_left _ h))))))
def ka_6_0 := List.forall_mem_cons.mp tb_in6
def ka_6_1 := List.forall_mem_cons.mp ka_6_0.2
def ka_6_2 := List.forall_mem_cons.mp ka_6_1.2
def ka_6_3 := List.forall_mem_cons.mp ka_6_2.2
def ka_6_4 := List.forall_mem_cons.mp ka_6_3.2
def ka_6_5 := List.forall_mem_cons.mp ka_6_4.2
def ka_6_6 := List.forall_mem_cons.mp ka_6_5.2
def ka_6_7 := List.forall_mem_cons.mp ka_6_6.2
def ka_6_8 := List.forall_mem_cons.mp ka_6_7.2
def ka_6_9 := List.forall_mem_cons.mp ka_6_8.2
def ka_6_10 := List.forall_mem_cons.mp ka_6_9.2
def ka_6_11 := List.forall_mem_cons.mp ka_6_10.2
def ka_6_12 := List.forall_mem_cons.mp ka_6_11.2
def ka_6_13 := List.forall_mem_cons.mp ka_6_12.2
def ka_6_14 := List.forall_mem_cons.mp ka_6_13.2
def ka_6_15 := List.forall_mem_cons.mp ka_6_14.2
def ka_6_16 := List.forall_mem_cons.mp ka_6_15.2
def ka_6_17 := List.forall_mem_cons.mp ka_6_16.2
def ka_6_18 := List.forall_mem_cons.mp ka_6_17.2
def ka_6_19 := List.forall_mem_cons.mp ka_6_18.2
def ka_6_20 := List.forall_mem_cons.mp ka_6_19.2
def ka_6_21 := List.forall_mem_cons.mp ka_6_20.2
def ka_6_22 := List.forall_mem_cons.mp ka_6_21.2
def ka_6_23 := List.forall_mem_cons.mp ka_6_22.2
def ka_6_24 := List.forall_mem_cons.mp ka_6_23.2
def ka_6_25 := List.forall_mem_cons.mp ka_6_24.2
def ka_6_26 := List.forall_mem_cons.mp ka_6_25.2
def ka_6_27 := List.forall_mem_cons.mp ka_6_26.2
def ka_6_28 := List.forall_mem_cons.mp ka_6_27.2
def ka_6_29 := List.forall_mem_cons.mp ka_6_28.2
def ka_6_30 := List.forall_mem_cons.mp ka_6_29.2
def ka_6_31 := List.forall_mem_cons.mp ka_6_30.2
def ka_6_32 := List.forall_mem_cons.mp ka_6_31.2
def ka_6_33 := List.forall_mem_cons.mp ka_6_32.2
def ka_6_34 := List.forall_mem_cons.mp ka_6_33.2
def ka_6_35 := List.forall_mem_cons.mp ka_6_34.2
def ka_6_36 := List.forall_mem_cons.mp ka_6_35.2
def ka_6_37 := List.forall_mem_cons.mp ka_6_36.2
def ka_6_38 := List.forall_mem_cons.mp ka_6_37.2
def ka_6_39 := List.forall_mem_cons.mp ka_6_38.2
def ka_6_40 := List.forall_mem_cons.mp ka_6_39.2
def ka_6_41 := List.forall_mem_cons.mp ka_6_40.2
def ka_6_42 := List.forall_mem_cons.mp ka_6_41.2
def ka_6_43 := List.forall_mem_cons.mp ka_6_42.2
def ka_6_44 := List.forall_mem_cons.mp ka_6_43.2
def ka_6_45 := List.forall_mem_cons.mp ka_6_44.2
def ka_6_46 := List.forall_mem_cons.mp ka_6_45.2
def ka_6_47 := List.forall_mem_cons.mp ka_6_46.2
def ka_6_48 := List.forall_mem_cons.mp ka_6_47.2
def ka_6_49 := List.forall_mem_cons.mp ka_6_48.2
def ka_6_50 := List.forall_mem_cons.mp ka_6_49.2
def ka_6_51 := List.forall_mem_cons.mp ka_6_50.2
def ka_6_52 := List.forall_mem_cons.mp ka_6_51.2
def ka_6_53 := List.forall_mem_cons.mp ka_6_52.2
def ka_6_54 := List.forall_mem_cons.mp ka_6_53.2
def ka_6_55 := List.forall_mem_cons.mp ka_6_54.2
def ka_6_56 := List.forall_mem_cons.mp ka_6_55.2
def ka_6_57 := List.forall_mem_cons.mp ka_6_56.2
def ka_6_58 := List.forall_mem_cons.mp ka_6_57.2
def ka_6_59 := List.forall_mem_cons.mp ka_6_58.2
def ka_6_60 := List.forall_mem_cons.mp ka_6_59.2
def ka_6_61 := List.forall_mem_cons.mp ka_6_60.2
def ka_6_62 := List.forall_mem_cons.mp ka_6_61.2
def ka_6_63 := List.forall_mem_cons.mp ka_6_62.2
def ka_6_64 := List.forall_mem_cons.mp ka_6_63.2
def ka_6_65 := List.forall_mem_cons.mp ka_6_64.2
def ka_6_66 := List.forall_mem_cons.mp ka_6_65.2
def ka_6_67 := List.forall_mem_cons.mp ka_6_66.2
def ka_6_68 := List.forall_mem_cons.mp ka_6_67.2
def ka_6_69 := List.forall_mem_cons.mp ka_6_68.2
def ka_6_70 := List.forall_mem_cons.mp ka_6_69.2
def ka_6_71 := List.forall_mem_cons.mp ka_6_70.2
def ka_6_72 := List.forall_mem_cons.mp ka_6_71.2
def ka_6_73 := List.forall_mem_cons.mp ka_6_72.2
def ka_6_74 := List.forall_mem_cons.mp ka_6_73.2
def ka_6_75 := List.forall_mem_cons.mp ka_6_74.2
def ka_6_76 := List.forall_mem_cons.mp ka_6_75.2
def ka_6_77 := List.forall_mem_cons.mp ka_6_76.2
def ka_6_78 := List.forall_mem_cons.mp ka_6_77.2
def ka_6_79 := List.forall_mem_cons.mp ka_6_78.2
def ka_6_80 := List.forall_mem_cons.mp ka_6_79.2
def ka_6_81 := List.forall_mem_cons.mp ka_6_80.2
def ka_6_82 := List.forall_mem_cons.mp ka_6_81.2
def ka_6_83 := List.forall_mem_cons.mp ka_6_82.2
def ka_6_84 := List.forall_mem_cons.mp ka_6_83.2
def ka_6_85 := List.forall_mem_cons.mp ka_6_84.2
def ka_6_86 := List.forall_mem_cons.mp ka_6_85.2
def ka_6_87 := List.forall_mem_cons.mp ka_6_86.2
def ka_6_88 := List.forall_mem_cons.mp ka_6_87.2
def ka_6_89 := List.forall_mem_cons.mp ka_6_88.2
def ka_6_90 := List.forall_mem_cons.mp ka_6_89.2
def ka_6_91 := List.forall_mem_cons.mp ka_6_90.2
def ka_6_92 := List.forall_mem_cons.mp ka_6_91.2
def ka_6_93 := List.forall_mem_cons.mp ka_6_92.2
def ka_6_94 := List.forall_mem_cons.mp ka_6_93.2
def ka_6_95 := List.forall_mem_cons.mp ka_6_94.2
def ka_6_96 := List.forall_mem_cons.mp ka_6_95.2
def ka_6_97 := List.forall_mem_cons.mp ka_6_96.2
def ka_6_98 := List.forall_mem_cons.mp ka_6_97.2
def ka_6_99 := List.forall_mem_cons.mp ka_6_98.2
def ka_6_100 := List.forall_mem_cons.mp ka_6_99.2
def ka_6_101 := List.forall_mem_cons.mp ka_6_100.2
def ka_6_102 := List.forall_mem_cons.mp ka_6_101.2
def ka_6_103 := List.forall_mem_cons.mp ka_6_102.2
def ka_6_104 := List.forall_mem_cons.mp ka_6_103.2
def ka_6_105 := List.forall_mem_cons.mp ka_6_104.2
def ka_6_106 := List.forall_mem_cons.mp ka_6_105.2
def ka_6_107 := List.forall_mem_cons.mp ka_6_106.2
def ka_6_108 := List.forall_mem_cons.mp ka_6_107.2
def ka_6_109 := List.forall_mem_cons.mp ka_6_108.2
def ka_6_110 := List.forall_mem_cons.mp ka_6_109.2
def ka_6_111 := List.forall_mem_cons.mp ka_6_110.2
def ka_6_112 := List.forall_mem_cons.mp ka_6_111.2
def ka_6_113 := List.forall_mem_cons.mp ka_6_112.2
def ka_6_114 := List.forall_mem_cons.mp ka_6_113.2
def ka_6_115 := List.forall_mem_cons.mp ka_6_114.2
def ka_6_116 := List.forall_mem_cons.mp ka_6_115.2
def ka_6_117 := List.forall_mem_cons.mp ka_6_116.2
def ka_6_118 := List.forall_mem_cons.mp ka_6_117.2
def ka_6_119 := List.forall_mem_cons.mp ka_6_118.2
def ka_6_120 := List.forall_mem_cons.mp ka_6_119.2
def ka_6_121 := List.forall_mem_cons.mp ka_6_120.2
def ka_6_122 := List.forall_mem_cons.mp ka_6_121.2
def ka_6_123 := List.forall_mem_cons.mp ka_6_122.2
def ka_6_124 := List.forall_mem_cons.mp ka_6_123.2
def ka_6_125 := List.forall_mem_cons.mp ka_6_124.2
def ka_6_126 := List.forall_mem_cons.mp ka_6_125.2
def ka_6_127 := List.forall_mem_cons.mp ka_6_126.2
def ka_6_128 := List.forall_mem_cons.mp ka_6_127.2
def ka_6_129 := List.forall_mem_cons.mp ka_6_128.2
def ka_6_130 := List.forall_mem_cons.mp ka_6_129.2
def ka_6_131 := List.forall_mem_cons.mp ka_6_130.2
def ka_6_132 := List.forall_mem_cons.mp ka_6_131.2
def ka_6_133 := List.forall_mem_cons.mp ka_6_132.2
def ka_6_134 := List.forall_mem_cons.mp ka_6_133.2
def ka_6_135 := List.forall_mem_cons.mp ka_6_134.2
def ka_6_136 := List.forall_mem_cons.mp ka_6_135.2
def ka_6_137 := List.forall_mem_cons.mp ka_6_136.2
def ka_6_138 := List.forall_mem_cons.mp ka_6_137.2
def ka_6_139 := List.forall_mem_cons.mp ka_6_138.2
def ka_6_140 := List.forall_mem_cons.mp ka_6_139.2
def ka_6_141 := List.forall_mem_cons.mp ka_6_140.2
def ka_6_142 := List.forall_mem_cons.mp ka_6_141.2
def ka_6_143 := List.forall_mem_cons.mp ka_6_142.2
def ka_6_144 := List.forall_mem_cons.mp ka_6_143.2
def ka_6_145 := List.forall_mem_cons.mp ka_6_144.2
def ka_6_146 := List.forall_mem_cons.mp ka_6_145.2
def ka_6_147 := List.forall_mem_cons.mp ka_6_146.2
def ka_6_148 := List.forall_mem_cons.mp ka_6_147.2
def ka_6_149 := List.forall_mem_cons.mp ka_6_148.2
def ka_6_150 := List.forall_mem_cons.mp ka_6_149.2
def ka_6_151 := List.forall_mem_cons.mp ka_6_150.2
def ka_6_152 := List.forall_mem_cons.mp ka_6_151.2
def ka_6_153 := List.forall_mem_cons.mp ka_6_152.2
def ka_6_154 := List.forall_mem_cons.mp ka_6_153.2
def ka_6_155 := List.forall_mem_cons.mp ka_6_154.2
def ka_6_156 := List.forall_mem_cons.mp ka_6_155.2
def ka_6_157 := List.forall_mem_cons.mp ka_6_156.2
def ka_6_158 := List.forall_mem_cons.mp ka_6_157.2
def ka_6_159 := List.forall_mem_cons.mp ka_6_158.2
def ka_6_160 := List.forall_mem_cons.mp ka_6_159.2
def ka_6_161 := List.forall_mem_cons.mp ka_6_160.2
def ka_6_162 := List.forall_mem_cons.mp ka_6_161.2
def ka_6_163 := List.forall_mem_cons.mp ka_6_162.2
def ka_6_164 := List.forall_mem_cons.mp ka_6_163.2
def ka_6_165 := List.forall_mem_cons.mp ka_6_164.2
def ka_6_166 := List.forall_mem_cons.mp ka_6_165.2
def ka_6_167 := List.forall_mem_cons.mp ka_6_166.2
def ka_6_168 := List.forall_mem_cons.mp ka_6_167.2
def ka_6_169 := List.forall_mem_cons.mp ka_6_168.2
def ka_6_170 := List.forall_mem_cons.mp ka_6_169.2
def ka_6_171 := List.forall_mem_cons.mp ka_6_170.2
def ka_6_172 := List.forall_mem_cons.mp ka_6_171.2
def ka_6_173 := List.forall_mem_cons.mp ka_6_172.2
def ka_6_174 := List.forall_mem_cons.mp ka_6_173.2
def ka_6_175 := List.forall_mem_cons.mp ka_6_174.2
def ka_6_176 := List.forall_mem_cons.mp ka_6_175.2
def ka_6_177 := List.forall_mem_cons.mp ka_6_176.2
def ka_6_178 := List.forall_mem_cons.mp ka_6_177.2
def ka_6_179 := List.forall_mem_cons.mp ka_6_178.2
def ka_6_180 := List.forall_mem_cons.mp ka_6_179.2
def ka_6_181 := List.forall_mem_cons.mp ka_6_180.2
def ka_6_182 := List.forall_mem_cons.mp ka_6_181.2
def ka_6_183 := List.forall_mem_cons.mp ka_6_182.2
def ka_6_184 := List.forall_mem_cons.mp ka_6_183.2
def ka_6_185 := List.forall_mem_cons.mp ka_6_184.2
def ka_6_186 := List.forall_mem_cons.mp ka_6_185.2
def ka_6_187 := List.forall_mem_cons.mp ka_6_186.2
def ka_6_188 := List.forall_mem_cons.mp ka_6_187.2
def ka_6_189 := List.forall_mem_cons.mp ka_6_188.2
def ka_6_190 := List.forall_mem_cons.mp ka_6_189.2
def ka_6_191 := List.forall_mem_cons.mp ka_6_190.2
def ka_6_192 := List.forall_mem_cons.mp ka_6_191.2
def ka_6_193 := List.forall_mem_cons.mp ka_6_192.2
def ka_6_194 := List.forall_mem_cons.mp ka_6_193.2
def ka_6_195 := List.forall_mem_cons.mp ka_6_194.2
def ka_6_196 := List.forall_mem_cons.mp ka_6_195.2
def ka_6_197 := List.forall_mem_cons.mp ka_6_196.2
def ka_6_198 := List.forall_mem_cons.mp ka_6_197.2
def ka_6_199 := List.forall_mem_cons.mp ka_6_198.2
def ka_6_200 := List.forall_mem_cons.mp ka_6_199.2
def ka_6_201 := List.forall_mem_cons.mp ka_6_200.2
def ka_6_202 := List.forall_mem_cons.mp ka_6_201.2
def ka_6_203 := List.forall_mem_cons.mp ka_6_202.2
def ka_6_204 := List.forall_mem_cons.mp ka_6_203.2
def ka_6_205 := List.forall_mem_cons.mp ka_6_204.2
def ka_6_206 := List.forall_mem_cons.mp ka_6_205.2
def ka_6_207 := List.forall_mem_cons.mp ka_6_206.2
def ka_6_208 := List.forall_mem_cons.mp ka_6_207.2
def ka_6_209 := List.forall_mem_cons.mp ka_6_208.2
def ka_6_210 := List.forall_mem_cons.mp ka_6_209.2
def ka_6_211 := List.forall_mem_cons.mp ka_6_210.2
def ka_6_212 := List.forall_mem_cons.mp ka_6_211.2
def ka_6_213 := List.forall_mem_cons.mp ka_6_212.2
def ka_6_214 := List.forall_mem_cons.mp ka_6_213.2
def ka_6_215 := List.forall_mem_cons.mp ka_6_214.2
def ka_6_216 := List.forall_mem_cons.mp ka_6_215.2
def ka_6_217 := List.forall_mem_cons.mp ka_6_216.2
def ka_6_218 := List.forall_mem_cons.mp ka_6_217.2
def ka_6_219 := List.forall_mem_cons.mp ka_6_218.2
def ka_6_220 := List.forall_mem_cons.mp ka_6_219.2
def ka_6_221 := List.forall_mem_cons.mp ka_6_220.2
def ka_6_222 := List.forall_mem_cons.mp ka_6_221.2
def ka_6_223 := List.forall_mem_cons.mp ka_6_222.2
def ka_6_224 := List.forall_mem_cons.mp ka_6_223.2
def ka_6_225 := List.forall_mem_cons.mp ka_6_224.2
def ka_6_226 := List.forall_mem_cons.mp ka_6_225.2
def ka_6_227 := List.forall_mem_cons.mp ka_6_226.2
def ka_6_228 := List.forall_mem_cons.mp ka_6_227.2
def ka_6_229 := List.forall_mem_cons.mp ka_6_228.2
def ka_6_230 := List.forall_mem_cons.mp ka_6_229.2
def ka_6_231 := List.forall_mem_cons.mp ka_6_230.2
def ka_6_232 := List.forall_mem_cons.mp ka_6_231.2
def ka_6_233 := List.forall_mem_cons.mp ka_6_232.2
def ka_6_234 := List.forall_mem_cons.mp ka_6_233.2
def ka_6_235 := List.forall_mem_cons.mp ka_6_234.2
def ka_6_236 := List.forall_mem_cons.mp ka_6_235.2
def ka_6_237 := List.forall_mem_cons.mp ka_6_236.2
def ka_6_238 := List.forall_mem_cons.mp ka_6_237.2
def ka_6_239 := List.forall_mem_cons.mp ka_6_238.2
theorem tb_in7 : ∀ w ∈ tables_1_7, w ∈ lw_tbl := fun _ h => List.mem_append_right _ (List.mem_append_right _ (List.mem_append_right _ (List.mem_append_right _ (List.mem_append_right _ (List.mem_append_right _ (List.mem_append_right _ (List.mem_append_left _ h)))))))
def ka_7_0 := List.forall_mem_cons.mp tb_in7
def ka_7_1 := List.forall_mem_cons.mp ka_7_0.2
def ka_7_2 := List.forall_mem_cons.mp ka_7_1.2
def ka_7_3 := List.forall_mem_cons.mp ka_7_2.2
def ka_7_4 := List.forall_mem_cons.mp ka_7_3.2
def ka_7_5 := List.forall_mem_cons.mp ka_7_4.2
def ka_7_6 := List.forall_mem_cons.mp ka_7_5.2
def ka_7_7 := List.forall_mem_cons.mp ka_7_6.2
def ka_7_8 := List.forall_mem_cons.mp ka_7_7.2
def ka_7_9 := List.forall_mem_cons.mp ka_7_8.2
def ka_7_10 := List.forall_mem_cons.mp ka_7_9.2
def ka_7_11 := List.forall_mem_cons.mp ka_7_10.2
def ka_7_12 := List.forall_mem_cons.mp ka_7_11.2
def ka_7_13 := List.forall_mem_cons.mp ka_7_12.2
def ka_7_14 := List.forall_mem_cons.mp ka_7_13.2
def ka_7_15 := List.forall_mem_cons.mp ka_7_14.2
def ka_7_16 := List.forall_mem_cons.mp ka_7_15.2
def ka_7_17 := List.forall_mem_cons.mp ka_7_16.2
def ka_7_18 := List.forall_mem_cons.mp ka_7_17.2
def ka_7_19 := List.forall_mem_cons.mp ka_7_18.2
def ka_7_20 := List.forall_mem_cons.mp ka_7_19.2
def ka_7_21 := List.forall_mem_cons.mp ka_7_20.2
def ka_7_22 := List.forall_mem_cons.mp ka_7_21.2
def ka_7_23 := List.forall_mem_cons.mp ka_7_22.2
def ka_7_24 := List.forall_mem_cons.mp ka_7_23.2
def ka_7_25 := List.forall_mem_cons.mp ka_7_24.2
def ka_7_26 := List.forall_mem_cons.mp ka_7_25.2
def ka_7_27 := List.forall_mem_cons.mp ka_7_26.2
def ka_7_28 := List.forall_mem_cons.mp ka_7_27.2
def ka_7_29 := List.forall_mem_cons.mp ka_7_28.2
def ka_7_30 := List.forall_mem_cons.mp ka_7_29.2
def ka_7_31 := List.forall_mem_cons.mp ka_7_30.2
def ka_7_32 := List.forall_mem_cons.mp ka_7_31.2
def ka_7_33 := List.forall_mem_cons.mp ka_7_32.2
def ka_7_34 := List.forall_mem_cons.mp ka_7_33.2
def ka_7_35 := List.forall_mem_cons.mp ka_7_34.2
def ka_7_36 := List.forall_mem_cons.mp ka_7_35.2
def ka_7_37 := List.forall_mem_cons.mp ka_7_36.2
def ka_7_38 := List.forall_mem_cons.mp ka_7_37.2
def ka_7_39 := List.forall_mem_cons.mp ka_7_38.2
def ka_7_40 := List.forall_mem_cons.mp ka_7_39.2
def ka_7_41 := List.forall_mem_cons.mp ka_7_40.2
def ka_7_42 := List.forall_mem_cons.mp ka_7_41.2
def ka_7_43 := List.forall_mem_cons.mp ka_7_42.2
def ka_7_44 := List.forall_mem_cons.mp ka_7_43.2
def ka_7_45 := List.forall_mem_cons.mp ka_7_44.2
def ka_7_46 := List.forall_mem_cons.mp ka_7_45.2
def ka_7_47 := List.forall_mem_cons.mp ka_7_46.2
def ka_7_48 := List.forall_mem_cons.mp ka_7_47.2
def ka_7_49 := List.forall_mem_cons.mp ka_7_48.2
def ka_7_50 := List.forall_mem_cons.mp ka_7_49.2
def ka_7_51 := List.forall_mem_cons.mp ka_7_50.2
def ka_7_52 := List.forall_mem_cons.mp ka_7_51.2
def ka_7_53 := List.forall_mem_cons.mp ka_7_52.2
def ka_7_54 := List.forall_mem_cons.mp ka_7_53.2
def ka_7_55 := List.forall_mem_cons.mp ka_7_54.2
def ka_7_56 := List.forall_mem_cons.mp ka_7_55.2
def ka_7_57 := List.forall_mem_cons.mp ka_7_56.2
def ka_7_58 := List.forall_mem_cons.mp ka_7_57.2
def ka_7_59 := List.forall_mem_cons.mp ka_7_58.2
def ka_7_60 := List.forall_mem_cons.mp ka_7_59.2
def ka_7_61 := List.forall_mem_cons.mp ka_7_60.2
def ka_7_62 := List.forall_mem_cons.mp ka_7_61.2
def ka_7_63 := List.forall_mem_cons.mp ka_7_62.2
def ka_7_64 := List.forall_mem_cons.mp ka_7_63.2
def ka_7_65 := List.forall_mem_cons.mp ka_7_64.2
def ka_7_66 := List.forall_mem_cons.mp ka_7_65.2
def ka_7_67 := List.forall_mem_cons.mp ka_7_66.2
def ka_7_68 := List.forall_mem_cons.mp ka_7_67.2
def ka_7_69 := List.forall_mem_cons.mp ka_7_68.2
def ka_7_70 := List.forall_mem_cons.mp ka_7_69.2
def ka_7_71 := List.forall_mem_cons.mp ka_7_70.2
def ka_7_72 := List.forall_mem_cons.mp ka_7_71.2
def ka_7_73 := List.forall_mem_cons.mp ka_7_72.2
def ka_7_74 := List.forall_mem_cons.mp ka_7_73.2
def ka_7_75 := List.forall_mem_cons.mp ka_7_74.2
def ka_7_76 := List.forall_mem_cons.mp ka_7_75.2
def ka_7_77 := List.forall_mem_cons.mp ka_7_76.2
def ka_7_78 := List.forall_mem_cons.mp ka_7_77.2
def ka_7_79 := List.forall_mem_cons.mp ka_7_78.2
def ka_7_80 := List.forall_mem_cons.mp ka_7_79.2
def ka_7_81 := List.forall_mem_cons.mp ka_7_80.2
def ka_7_82 := List.forall_mem_cons.mp ka_7_81.2
def ka_7_83 := List.forall_mem_cons.mp ka_7_82.2
def ka_7_84 := List.forall_mem_cons.mp ka_7_83.2
def ka_7_85 := List.forall_mem_cons.mp ka_7_84.2
def ka_7_86 := List.forall_mem_cons.mp ka_7_85.2
def ka_7_87 := List.forall_mem_cons.mp ka_7_86.2
def ka_7_88 := List.forall_mem_cons.mp ka_7_87.2
def ka_7_89 := List.forall_mem_cons.mp ka_7_88.2
def ka_7_90 := List.forall_mem_cons.mp ka_7_89.2
def ka_7_91 := List.forall_mem_cons.mp ka_7_90.2
def ka_7_92 := List.forall_mem_cons.mp ka_7_91.2
def ka_7_93 := List.forall_mem_cons.mp ka_7_92.2
def ka_7_94 := List.forall_mem_cons.mp ka_7_93.2
def ka_7_95 := List.forall_mem_cons.mp ka_7_94.2
def ka_7_96 := List.forall_mem_cons.mp ka_7_95.2
def ka_7_97 := List.forall_mem_cons.mp ka_7_96.2
def ka_7_98 := List.forall_mem_cons.mp ka_7_97.2
def ka_7_99 := List.forall_mem_cons.mp ka_7_98.2
def ka_7_100 := List.forall_mem_cons.mp ka_7_99.2
def ka_7_101 := List.forall_mem_cons.mp ka_7_100.2
def ka_7_102 := List.forall_mem_cons.mp ka_7_101.2
def ka_7_103 := List.forall_mem_cons.mp ka_7_102.2
def ka_7_104 := List.forall_mem_cons.mp ka_7_103.2
def ka_7_105 := List.forall_mem_cons.mp ka_7_104.2
def ka_7_106 := List.forall_mem_cons.mp ka_7_105.2
def ka_7_107 := List.forall_mem_cons.mp ka_7_106.2
def ka_7_108 := List.forall_mem_cons.mp ka_7_107.2
def ka_7_109 := List.forall_mem_cons.mp ka_7_108.2
def ka_7_110 := List.forall_mem_cons.mp ka_7_109.2
def ka_7_111 := List.forall_mem_cons.mp ka_7_110.2
def ka_7_112 := List.forall_mem_cons.mp ka_7_111.2
def ka_7_113 := List.forall_mem_cons.mp ka_7_112.2
def ka_7_114 := List.forall_mem_cons.mp ka_7_113.2
def ka_7_115 := List.forall_mem_cons.mp ka_7_114.2
def ka_7_116 := List.forall_mem_cons.mp ka_7_115.2
def ka_7_117 := List.forall_mem_cons.mp ka_7_116.2
def ka_7_118 := List.forall_mem_cons.mp ka_7_117.2
def ka_7_119 := List.forall_mem_cons.mp ka_7_118.2
def ka_7_120 := List.forall_mem_cons.mp ka_7_119.2
def ka_7_121 := List.forall_mem_cons.mp ka_7_120.2
def ka_7_122 := List.forall_mem_cons.mp ka_7_121.2
def ka_7_123 := List.forall_mem_cons.mp ka_7_122.2
def ka_7_124 := List.forall_mem_cons.mp ka_7_123.2
def ka_7_125 := List.forall_mem_cons.mp ka_7_124.2
def ka_7_126 := List.forall_mem_cons.mp ka_7_125.2
def ka_7_127 := List.forall_mem_cons.mp ka_7_126.2
def ka_7_128 := List.forall_mem_cons.mp ka_7_127.2
def ka_7_129 := List.forall_mem_cons.mp ka_7_128.2
def ka_7_130 := List.forall_mem_cons.mp ka_7_129.2
def ka_7_131 := List.forall_mem_cons.mp ka_7_130.2
def ka_7_132 := List.forall_mem_cons.mp ka_7_131.2
def ka_7_133 := List.forall_mem_cons.mp ka_7_132.2
def ka_7_134 := List.forall_mem_cons.mp ka_7_133.2
def ka_7_135 := List.forall_mem_cons.mp ka_7_134.2
def ka_7_136 := List.forall_mem_cons.mp ka_7_135.2
def ka_7_137 := List.forall_mem_cons.mp ka_7_136.2
def ka_7_138 := List.forall_mem_cons.mp ka_7_137.2
def ka_7_139 := List.forall_mem_cons.mp ka_7_138.2
def ka_7_140 := List.forall_mem_cons.mp ka_7_139.2
def ka_7_141 := List.forall_mem_cons.mp ka_7_140.2
def ka_7_142 := List.forall_mem_cons.mp ka_7_141.2
def ka_7_143 := List.forall_mem_cons.mp ka_7_142.2
def ka_7_144 := List.forall_mem_cons.mp ka_7_143.2
def ka_7_145 := List.forall_mem_cons.mp ka_7_144.2
def ka_7_146 := List.forall_mem_cons.mp ka_7_145.2
def ka_7_147 := List.forall_mem_cons.mp ka_7_146.2
def ka_7_148 := List.forall_mem_cons.mp ka_7_147.2
def ka_7_149 := List.forall_mem_cons.mp ka_7_148.2
def ka_7_150 := List.forall_mem_cons.mp ka_7_149.2
def ka_7_151 := List.forall_mem_cons.mp ka_7_150.2
def ka_7_152 := List.forall_mem_cons.mp ka_7_151.2
def ka_7_153 := List.forall_mem_cons.mp ka_7_152.2
def ka_7_154 := List.forall_mem_cons.mp ka_7_153.2
def ka_7_155 := List.forall_mem_cons.mp ka_7_154.2
def ka_7_156 := List.forall_mem_cons.mp ka_7_155.2
def ka_7_157 := List.forall_mem_cons.mp ka_7_156.2
def ka_7_158 := List.forall_mem_cons.mp ka_7_157.2
def ka_7_159 := List.forall_mem_cons.mp ka_7_158.2
def ka_7_160 := List.forall_mem_cons.mp ka_7_159.2
def ka_7_161 := List.forall_mem_cons.mp ka_7_160.2
def ka_7_162 := List.forall_mem_cons.mp ka_7_161.2
def ka_7_163 := List.forall_mem_cons.mp ka_7_162.2
def ka_7_164 := List.forall_mem_cons.mp ka_7_163.2
def ka_7_165 := List.forall_mem_cons.mp ka_7_164.2
def ka_7_166 := List.forall_mem_cons.mp ka_7_165.2
def ka_7_167 := List.forall_mem_cons.mp ka_7_166.2
def ka_7_168 := List.forall_mem_cons.mp ka_7_167.2
def ka_7_169 := List.forall_mem_cons.mp ka_7_168.2
def ka_7_170 := List.forall_mem_cons.mp ka_7_169.2
def ka_7_171 := List.forall_mem_cons.mp ka_7_170.2
def ka_7_172 := List.forall_mem_cons.mp ka_7_171.2
def ka_7_173 := List.forall_mem_cons.mp ka_7_172.2
def ka_7_174 := List.forall_mem_cons.mp ka_7_173.2
def ka_7_175 := List.forall_mem_cons.mp ka_7_174.2
def ka_7_176 := List.forall_mem_cons.mp ka_7_175.2
def ka_7_177 := List.forall_mem_cons.mp ka_7_176.2
def ka_7_178 := List.forall_mem_cons.mp ka_7_177.2
def ka_7_179 := List.forall_mem_cons.mp ka_7_178.2
def ka_7_180 := List.forall_mem_cons.mp ka_7_179.2
def ka_7_181 := List.forall_mem_cons.mp ka_7_180.2
def ka_7_182 := List.forall_mem_cons.mp ka_7_181.2
def ka_7_183 := List.forall_mem_cons.mp ka_7_182.2
def ka_7_184 := List.forall_mem_cons.mp ka_7_183.2
def ka_7_185 := List.forall_mem_cons.mp ka_7_184.2
def ka_7_186 := List.forall_mem_cons.mp ka_7_185.2
def ka_7_187 := List.forall_mem_cons.mp ka_7_186.2
def ka_7_188 := List.forall_mem_cons.mp ka_7_187.2
def ka_7_189 := List.forall_mem_cons.mp ka_7_188.2
def ka_7_190 := List.forall_mem_cons.mp ka_7_189.2
def ka_7_191 := List.forall_mem_cons.mp ka_7_190.2
def ka_7_192 := List.forall_mem_cons.mp ka_7_191.2
def ka_7_193 := List.forall_mem_cons.mp ka_7_192.2
def ka_7_194 := List.forall_mem_cons.mp ka_7_193.2
def ka_7_195 := List.forall_mem_cons.mp ka_7_194.2
def ka_7_196 := List.forall_mem_cons.mp ka_7_195.2
def ka_7_197 := List.forall_mem_cons.mp ka_7_196.2
def ka_7_198 := List.forall_mem_cons.mp ka_7_197.2
def ka_7_199 := List.forall_mem_cons.mp ka_7_198.2
def ka_7_200 := List.forall_mem_cons.mp ka_7_199.2
def ka_7_201 := List.forall_mem_cons.mp ka_7_200.2
def ka_7_202 := List.forall_mem_cons.mp ka_7_201.2
def ka_7_203 := List.forall_mem_cons.mp ka_7_202.2
def ka_7_204 := List.forall_mem_cons.mp ka_7_203.2
def ka_7_205 := List.forall_mem_cons.mp ka_7_204.2
def ka_7_206 := List.forall_mem_cons.mp ka_7_205.2
def ka_7_207 := List.forall_mem_cons.mp ka_7_206.2
def ka_7_208 := List.forall_mem_cons.mp ka_7_207.2
def ka_7_209 := List.forall_mem_cons.mp ka_7_208.2
def ka_7_210 := List.forall_mem_cons.mp ka_7_209.2
def ka_7_211 := List.forall_mem_cons.mp ka_7_210.2
def ka_7_212 := List.forall_mem_cons.mp ka_7_211.2
def ka_7_213 := List.forall_mem_cons.mp ka_7_212.2
def ka_7_214 := List.forall_mem_cons.mp ka_7_213.2
def ka_7_215 := List.forall_mem_cons.mp ka_7_214.2
def ka_7_216 := List.forall_mem_cons.mp ka_7_215.2
def ka_7_217 := List.forall_mem_cons.mp ka_7_216.2
def ka_7_218 := List.forall_mem_cons.mp ka_7_217.2
def ka_7_219 := List.forall_mem_cons.mp ka_7_218.2
def ka_7_220 := List.forall_mem_cons.mp ka_7_219.2
def ka_7_221 := List.forall_mem_cons.mp ka_7_220.2
def ka_7_222 := List.forall_mem_cons.mp ka_7_221.2
def ka_7_223 := List.forall_mem_cons.mp ka_7_222.2
def ka_7_224 := List.forall_mem_cons.mp ka_7_223.2
def ka_7_225 := List.forall_mem_cons.mp ka_7_224.2
def ka_7_226 := List.forall_mem_cons.mp ka_7_225.2
def ka_7_227 := List.forall_mem_cons.mp ka_7_226.2
def ka_7_228 := List.forall_mem_cons.mp ka_7_227.2
def ka_7_229 := List.forall_mem_cons.mp ka_7_228.2
def ka_7_230 := List.forall_mem_cons.mp ka_7_229.2
def ka_7_231 := List.forall_mem_cons.mp ka_7_230.2
def ka_7_232 := List.forall_mem_cons.mp ka_7_231.2
def ka_7_233 := List.forall_mem_cons.mp ka_7_232.2
def ka_7_234 := List.forall_mem_cons.mp ka_7_233.2
def ka_7_235 := List.forall_mem_cons.mp ka_7_234.2
def ka_7_236 := List.forall_mem_cons.mp ka_7_235.2
def ka_7_237 := List.forall_mem_cons.mp ka_7_236.2
def ka_7_238 := List.forall_mem_cons.mp ka_7_237.2
def ka_7_239 := List.forall_mem_cons.mp ka_7_238.2
theorem tb_in8 : ∀ w ∈ tables_1_8, w ∈ lw_tbl := fun _ h => List.mem_append_right _ (List.mem_append_right _ (List.mem_append_right _ (List.mem_append_right _ (List.mem_append_right _ (List.mem_append_right _ (List.mem_append_right _ (List.mem_append_right _ (List.mem_append_left _ h))))))))
def ka_8_0 := List.forall_mem_cons.mp tb_in8
def ka_8_1 := List.forall_mem_cons.mp ka_8_0.2
def ka_8_2 := List.forall_mem_cons.mp ka_8_1.2
def ka_8_3 := List.forall_mem_cons.mp ka_8_2.2
def ka_8_4 := List.forall_mem_cons.mp ka_8_3.2
def ka_8_5 := List.forall_mem_cons.mp ka_8_4.2
def ka_8_6 := List.forall_mem_cons.mp ka_8_5.2
def ka_8_7 := List.forall_mem_cons.mp ka_8_6.2
def ka_8_8 := List.forall_mem_cons.mp ka_8_7.2
def ka_8_9 := List.forall_mem_cons.mp ka_8_8.2
def ka_8_10 := List.forall_mem_cons.mp ka_8_9.2
def ka_8_11 := List.forall_mem_cons.mp ka_8_10.2
def ka_8_12 := List.forall_mem_cons.mp ka_8_11.2
def ka_8_13 := List.forall_mem_cons.mp ka_8_12.2
def ka_8_14 := List.forall_mem_cons.mp ka_8_13.2
def ka_8_15 := List.forall_mem_cons.mp ka_8_14.2
def ka_8_16 := List.forall_mem_cons.mp ka_8_15.2
def ka_8_17 := List.forall_mem_cons.mp ka_8_16.2
def ka_8_18 := List.forall_mem_cons.mp ka_8_17.2
def ka_8_19 := List.forall_mem_cons.mp ka_8_18.2
def ka_8_20 := List.forall_mem_cons.mp ka_8_19.2
def ka_8_21 := List.forall_mem_cons.mp ka_8_20.2
def ka_8_22 := List.forall_mem_cons.mp ka_8_21.2
def ka_8_23 := List.forall_mem_cons.mp ka_8_22.2
def ka_8_24 := List.forall_mem_cons.mp ka_8_23.2
def ka_8_25 := List.forall_mem_cons.mp ka_8_24.2
def ka_8_26 := List.forall_mem_cons.mp ka_8_25.2
def ka_8_27 := List.forall_mem_cons.mp ka_8_26.2
def ka_8_28 := List.forall_mem_cons.mp ka_8_27.2
def ka_8_29 := List.forall_mem_cons.mp ka_8_28.2
def ka_8_30 := List.forall_mem_cons.mp ka_8_29.2
def ka_8_31 := List.forall_mem_cons.mp ka_8_30.2
def ka_8_32 := List.forall_mem_cons.mp ka_8_31.2
def ka_8_33 := List.forall_mem_cons.mp ka_8_32.2
def ka_8_34 := List.forall_mem_cons.mp ka_8_33.2
def ka_8_35 := List.forall_mem_cons.mp ka_8_34.2
def ka_8_36 := List.forall_mem_cons.mp ka_8_35.2
def ka_8_37 := List.forall_mem_cons.mp ka_8_36.2
def ka_8_38 := List.forall_mem_cons.mp ka_8_37.2
def ka_8_39 := List.forall_mem_cons.mp ka_8_38.2
def ka_8_40 := List.forall_mem_cons.mp ka_8_39.2
def ka_8_41 := List.forall_mem_cons.mp ka_8_40.2
def ka_8_42 := List.forall_mem_cons.mp ka_8_41.2
def ka_8_43 := List.forall_mem_cons.mp ka_8_42.2
def ka_8_44 := List.forall_mem_cons.mp ka_8_43.2
def ka_8_45 := List.forall_mem_cons.mp ka_8_44.2
def ka_8_46 := List.forall_mem_cons.mp ka_8_45.2
def ka_8_47 := List.forall_mem_cons.mp ka_8_46.2
def ka_8_48 := List.forall_mem_cons.mp ka_8_47.2
def ka_8_49 := List.forall_mem_cons.mp ka_8_48.2
def ka_8_50 := List.forall_mem_cons.mp ka_8_49.2
def ka_8_51 := List.forall_mem_cons.mp ka_8_50.2
def ka_8_52 := List.forall_mem_cons.mp ka_8_51.2
def ka_8_53 := List.forall_mem_cons.mp ka_8_52.2
def ka_8_54 := List.forall_mem_cons.mp ka_8_53.2
def ka_8_55 := List.forall_mem_cons.mp ka_8_54.2
def ka_8_56 := List.forall_mem_cons.mp ka_8_55.2
def ka_8_57 := List.forall_mem_cons.mp ka_8_56.2
def ka_8_58 := List.forall_mem_cons.mp ka_8_57.2
def ka_8_59 := List.forall_mem_cons.mp ka_8_58.2
def ka_8_60 := List.forall_mem_cons.mp ka_8_59.2
def ka_8_61 := List.forall_mem_cons.mp ka_8_60.2
def ka_8_62 := List.forall_mem_cons.mp ka_8_61.2
def ka_8_63 := List.forall_mem_cons.mp ka_8_62.2
def ka_8_64 := List.forall_mem_cons.mp ka_8_63.2
def ka_8_65 := List.forall_mem_cons.mp ka_8_64.2
def ka_8_66 := List.forall_mem_cons.mp ka_8_65.2
def ka_8_67 := List.forall_mem_cons.mp ka_8_66.2
def ka_8_68 := List.forall_mem_cons.mp ka_8_67.2
def ka_8_69 := List.forall_mem_cons.mp ka_8_68.2
def ka_8_70 := List.forall_mem_cons.mp ka_8_69.2
def ka_8_71 := List.forall_mem_cons.mp ka_8_70.2
def ka_8_72 := List.forall_mem_cons.mp ka_8_71.2
def ka_8_73 := List.forall_mem_cons.mp ka_8_72.2
def ka_8_74 := List.forall_mem_cons.mp ka_8_73.2
def ka_8_75 := List.forall_mem_cons.mp ka_8_74.2
def ka_8_76 := List.forall_mem_cons.mp ka_8_75.2
def ka_8_77 := List.forall_mem_cons.mp ka_8_76.2
def ka_8_78 := List.forall_mem_cons.mp ka_8_77.2
def ka_8_79 := List.forall_mem_cons.mp ka_8_78.2
def ka_8_80 := List.forall_mem_cons.mp ka_8_79.2
def ka_8_81 := List.forall_mem_cons.mp ka_8_80.2
def ka_8_82 := List.forall_mem_cons.mp ka_8_81.2
def ka_8_83 := List.forall_mem_cons.mp ka_8_82.2
def ka_8_84 := List.forall_mem_cons.mp ka_8_83.2
def ka_8_85 := List.forall_mem_cons.mp ka_8_84.2
def ka_8_86 := List.forall_mem_cons.mp ka_8_85.2
def ka_8_87 := List.forall_mem_cons.mp ka_8_86.2
def ka_8_88 := List.forall_mem_cons.mp ka_8_87.2
def ka_8_89 := List.forall_mem_cons.mp ka_8_88.2
def ka_8_90 := List.forall_mem_cons.mp ka_8_89.2
def ka_8_91 := List.forall_mem_cons.mp ka_8_90.2
def ka_8_92 := List.forall_mem_cons.mp ka_8_91.2
def ka_8_93 := List.forall_mem_cons.mp ka_8_92.2
def ka_8_94 := List.forall_mem_cons.mp ka_8_93.2
def ka_8_95 := List.forall_mem_cons.mp ka_8_94.2
def ka_8_96 := List.forall_mem_cons.mp ka_8_95.2
def ka_8_97 := List.forall_mem_cons.mp ka_8_96.2
def ka_8_98 := List.forall_mem_cons.mp ka_8_97.2
def ka_8_99 := List.forall_mem_cons.mp ka_8_98.2
def ka_8_100 := List.forall_mem_cons.mp ka_8_99.2
def ka_8_101 := List.forall_mem_cons.mp ka_8_100.2
def ka_8_102 := List.forall_mem_cons.mp ka_8_101.2
def ka_8_103 := List.forall_mem_cons.mp ka_8_102.2
def ka_8_104 := List.forall_mem_cons.mp ka_8_103.2
def ka_8_105 := List.forall_mem_cons.mp ka_8_104.2
def ka_8_106 := List.forall_mem_cons.mp ka_8_105.2
def ka_8_107 := List.forall_mem_cons.mp ka_8_106.2
def ka_8_108 := List.forall_mem_cons.mp ka_8_107.2
def ka_8_109 := List.forall_mem_cons.mp ka_8_108.2
def ka_8_110 := List.forall_mem_cons.mp ka_8_109.2
def ka_8_111 := List.forall_mem_cons.mp ka_8_110.2
def ka_8_112 := List.forall_mem_cons.mp ka_8_111.2
def ka_8_113 := List.forall_mem_cons.mp ka_8_112.2
def ka_8_114 := List.forall_mem_cons.mp ka_8_113.2
def ka_8_115 := List.forall_mem_cons.mp ka_8_114.2
def ka_8_116 := List.forall_mem_cons.mp ka_8_115.2
def ka_8_117 := List.forall_mem_cons.mp ka_8_116.2
def ka_8_118 := List.forall_mem_cons.mp ka_8_117.2
def ka_8_119 := List.forall_mem_cons.mp ka_8_118.2
def ka_8_120 := List.forall_mem_cons.mp ka_8_119.2
def ka_8_121 := List.forall_mem_cons.mp ka_8_120.2
def ka_8_122 := List.forall_mem_cons.mp ka_8_121.2
def ka_8_123 := List.forall_mem_cons.mp ka_8_122.2
def ka_8_124 := List.forall_mem_cons.mp ka_8_123.2
def ka_8_125 := List.forall_mem_cons.mp ka_8_124.2
def ka_8_126 := List.forall_mem_cons.mp ka_8_125.2
def ka_8_127 := List.forall_mem_cons.mp ka_8_126.2
def ka_8_128 := List.forall_mem_cons.mp ka_8_127.2
def ka_8_129 := List.forall_mem_cons.mp ka_8_128.2
def ka_8_130 := List.forall_mem_cons.mp ka_8_129.2
def ka_8_131 := List.forall_mem_cons.mp ka_8_130.2
def ka_8_132 := List.forall_mem_cons.mp ka_8_131.2
def ka_8_133 := List.forall_mem_cons.mp ka_8_132.2
def ka_8_134 := List.forall_mem_cons.mp ka_8_133.2
def ka_8_135 := List.forall_mem_cons.mp ka_8_134.2
def ka_8_136 := List.forall_mem_cons.mp ka_8_135.2
def ka_8_137 := List.forall_mem_cons.mp ka_8_136.2
def ka_8_138 := List.forall_mem_cons.mp ka_8_137.2
def ka_8_139 := List.forall_mem_cons.mp ka_8_138.2
def ka_8_140 := List.forall_mem_cons.mp ka_8_139.2
def ka_8_141 := List.forall_mem_cons.mp ka_8_140.2
def ka_8_142 := List.forall_mem_cons.mp ka_8_141.2
def ka_8_143 := List.forall_mem_cons.mp ka_8_142.2
def ka_8_144 := List.forall_mem_cons.mp ka_8_143.2
def ka_8_145 := List.forall_mem_cons.mp ka_8_144.2
def ka_8_146 := List.forall_mem_cons.mp ka_8_145.2
def ka_8_147 := List.forall_mem_cons.mp ka_8_146.2
def ka_8_148 := List.forall_mem_cons.mp ka_8_147.2
def ka_8_149 := List.forall_mem_cons.mp ka_8_148.2
def ka_8_150 := List.forall_mem_cons.mp ka_8_149.2
def ka_8_151 := List.forall_mem_cons.mp ka_8_150.2
def ka_8_152 := List.forall_mem_cons.mp ka_8_151.2
def ka_8_153 := List.forall_mem_cons.mp ka_8_152.2
def ka_8_154 := List.forall_mem_cons.mp ka_8_153.2
def ka_8_155 := List.forall_mem_cons.mp ka_8_154.2
def ka_8_156 := List.forall_mem_cons.mp ka_8_155.2
def ka_8_157 := List.forall_mem_cons.mp ka_8_156.2
def ka_8_158 := List.forall_mem_cons.mp ka_8_157.2
def ka_8_159 := List.forall_mem_cons.mp ka_8_158.2
def ka_8_160 := List.forall_mem_cons.mp ka_8_159.2
def ka_8_161 := List.forall_mem_cons.mp ka_8_160.2
def ka_8_162 := List.forall_mem_cons.mp ka_8_161.2
def ka_8_163 := List.forall_mem_cons.mp ka_8_162.2
def ka_8_164 := List.forall_mem_cons.mp ka_8_163.2
def ka_8_165 := List.forall_mem_cons.mp ka_8_164.2
def ka_8_166 := List.forall_mem_cons.mp ka_8_165.2
def ka_8_167 := List.forall_mem_cons.mp ka_8_166.2
def ka_8_168 := List.forall_mem_cons.mp ka_8_167.2
def ka_8_169 := List.forall_mem_cons.mp ka_8_168.2
def ka_8_170 := List.forall_mem_cons.mp ka_8_169.2
def ka_8_171 := List.forall_mem_cons.mp ka_8_170.2
def ka_8_172 := List.forall_mem_cons.mp ka_8_171.2
def ka_8_173 := List.forall_mem_cons.mp ka_8_172.2
def ka_8_174 := List.forall_mem_cons.mp ka_8_173.2
def ka_8_175 := List.forall_mem_cons.mp ka_8_174.2
def ka_8_176 := List.forall_mem_cons.mp ka_8_175.2
def ka_8_177 := List.forall_mem_cons.mp ka_8_176.2
def ka_8_178 := List.forall_mem_cons.mp ka_8_177.2
def ka_8_179 := List.forall_mem_cons.mp ka_8_178.2
def ka_8_180 := List.forall_mem_cons.mp ka_8_179.2
def ka_8_181 := List.forall_mem_cons.mp ka_8_180.2
def ka_8_182 := List.forall_mem_cons.mp ka_8_181.2
def ka_8_183 := List.forall_mem_cons.mp ka_8_182.2
def ka_8_184 := List.forall_mem_cons.mp ka_8_183.2
def ka_8_185 := List.forall_mem_cons.mp ka_8_184.2
def ka_8_186 := List.forall_mem_cons.mp ka_8_185.2
def ka_8_187 := List.forall_mem_cons.mp ka_8_186.2
def ka_8_188 := List.forall_mem_cons.mp ka_8_187.2
def ka_8_189 := List.forall_mem_cons.mp ka_8_188.2
def ka_8_190 := List.forall_mem_cons.mp ka_8_189.2
def ka_8_191 := List.forall_mem_cons.mp ka_8_190.2
def ka_8_192 := List.forall_mem_cons.mp ka_8_191.2
def ka_8_193 := List.forall_mem_cons.mp ka_8_192.2
def ka_8_194 := List.forall_mem_cons.mp ka_8_193.2
def ka_8_195 := List.forall_mem_cons.mp ka_8_194.2
def ka_8_196 := List.forall_mem_cons.mp ka_8_195.2
def ka_8_197 := List.forall_mem_cons.mp ka_8_196.2
def ka_8_198 := List.forall_mem_cons.mp ka_8_197.2
def ka_8_199 := List.forall_mem_cons.mp ka_8_198.2
def ka_8_200 := List.forall_mem_cons.mp ka_8_199.2
def ka_8_201 := List.forall_mem_cons.mp ka_8_200.2
def ka_8_202 := List.forall_mem_cons.mp ka_8_201.2
def ka_8_203 := List.forall_mem_cons.mp ka_8_202.2
def ka_8_204 := List.forall_mem_cons.mp ka_8_203.2
def ka_8_205 := List.forall_mem_cons.mp ka_8_204.2
def ka_8_206 := List.forall_mem_cons.mp ka_8_205.2
def ka_8_207 := List.forall_mem_cons.mp ka_8_206.2
def ka_8_208 := List.forall_mem_cons.mp ka_8_207.2
def ka_8_209 := List.forall_mem_cons.mp ka_8_208.2
def ka_8_210 := List.forall_mem_cons.mp ka_8_209.2
def ka_8_211 := List.forall_mem_cons.mp ka_8_210.2
def ka_8_212 := List.forall_mem_cons.mp ka_8_211.2
def ka_8_213 := List.forall_mem_cons.mp ka_8_212.2
def ka_8_214 := List.forall_mem_cons.mp ka_8_213.2
def ka_8_215 := List.forall_mem_cons.mp ka_8_214.2
def ka_8_216 := List.forall_mem_cons.mp ka_8_215.2
def ka_8_217 := List.forall_mem_cons.mp ka_8_216.2
def ka_8_218 := List.forall_mem_cons.mp ka_8_217.2
def ka_8_219 := List.forall_mem_cons.mp ka_8_218.2
def ka_8_220 := List.forall_mem_cons.mp ka_8_219.2
def ka_8_221 := List.forall_mem_cons.mp ka_8_220.2
def ka_8_222 := List.forall_mem_cons.mp ka_8_221.2
def ka_8_223 := List.forall_mem_cons.mp ka_8_222.2
def ka_8_224 := List.forall_mem_cons.mp ka_8_223.2
def ka_8_225 := List.forall_mem_cons.mp ka_8_224.2
def ka_8_226 := List.forall_mem_cons.mp ka_8_225.2
def ka_8_227 := List.forall_mem_cons.mp ka_8_226.2
def ka_8_228 := List.forall_mem_cons.mp ka_8_227.2
def ka_8_229 := List.forall_mem_cons.mp ka_8_228.2
def ka_8_230 := List.forall_mem_cons.mp ka_8_229.2
def ka_8_231 := List.forall_mem_cons.mp ka_8_230.2
def ka_8_232 := List.forall_mem_cons.mp ka_8_231.2
def ka_8_233 := List.forall_mem_cons.mp ka_8_232.2
def ka_8_234 := List.forall_mem_cons.mp ka_8_233.2
def ka_8_235 := List.forall_mem_cons.mp ka_8_234.2
def ka_8_236 := List.forall_mem_cons.mp ka_8_235.2
def ka_8_237 := List.forall_mem_cons.mp ka_8_236.2
def ka_8_238 := List.forall_mem_cons.mp ka_8_237.2
def ka_8_239 := List.forall_mem_cons.mp ka_8_238.2
theorem tb_in9 : ∀ w ∈ tables_1_9, w ∈ lw_tbl := fun _ h => List.mem_append_right _ (List.mem_append_right _ (List.mem_append_right _ (List.mem_append_right _ (List.mem_append_right _ (List.mem_append_right _ (List.mem_append_right _ (List.mem_append_right _ (List.mem_append_right _ (h)))))))))
def ka_9_0 := List.forall_mem_cons.mp tb_in9
def ka_9_1 := List.forall_mem_cons.mp ka_9_0.2
def ka_9_2 := List.forall_mem_cons.mp ka_9_1.2
def ka_9_3 := List.forall_mem_cons.mp ka_9_2.2
def ka_9_4 := List.forall_mem_cons.mp ka_9_3.2
def ka_9_5 := List.forall_mem_cons.mp ka_9_4.2
def ka_9_6 := List.forall_mem_cons.mp ka_9_5.2
def ka_9_7 := List.forall_mem_cons.mp ka_9_6.2
def ka_9_8 := List.forall_mem_cons.mp ka_9_7.2
def ka_9_9 := List.forall_mem_cons.mp ka_9_8.2
def ka_9_10 := List.forall_mem_cons.mp ka_9_9.2
def ka_9_11 := List.forall_mem_cons.mp ka_9_10.2
def ka_9_12 := List.forall_mem_cons.mp ka_9_11.2
def ka_9_13 := List.forall_mem_cons.mp ka_9_12.2
def ka_9_14 := List.forall_mem_cons.mp ka_9_13.2
def ka_9_15 := List.forall_mem_cons.mp ka_9_14.2
def ka_9_16 := List.forall_mem_cons.mp ka_9_15.2
def ka_9_17 := List.forall_mem_cons.mp ka_9_16.2
def ka_9_18 := List.forall_mem_cons.mp ka_9_17.2
def ka_9_19 := List.forall_mem_cons.mp ka_9_18.2
def ka_9_20 := List.forall_mem_cons.mp ka_9_19.2
def ka_9_21 := List.forall_mem_cons.mp ka_9_20.2
def ka_9_22 := List.forall_mem_cons.mp ka_9_21.2
def ka_9_23 := List.forall_mem_cons.mp ka_9_22.2
def ka_9_24 := List.forall_mem_cons.mp ka_9_23.2
def ka_9_25 := List.forall_mem_cons.mp ka_9_24.2
def ka_9_26 := List.forall_mem_cons.mp ka_9_25.2
def ka_9_27 := List.forall_mem_cons.mp ka_9_26.2
def ka_9_28 := List.forall_mem_cons.mp ka_9_27.2
def ka_9_29 := List.forall_mem_cons.mp ka_9_28.2
def ka_9_30 := List.forall_mem_cons.mp ka_9_29.2
def ka_9_31 := List.forall_mem_cons.mp ka_9_30.2
def ka_9_32 := List.forall_mem_cons.mp ka_9_31.2
def ka_9_33 := List.forall_mem_cons.mp ka_9_32.2
def ka_9_34 := List.forall_mem_cons.mp ka_9_33.2
def ka_9_35 := List.forall_mem_cons.mp ka_9_34.2
def ka_9_36 := List.forall_mem_cons.mp ka_9_35.2
def ka_9_37 := List.forall_mem_cons.mp ka_9_36.2
def ka_9_38 := List.forall_mem_cons.mp ka_9_37.2
def ka_9_39 := List.forall_mem_cons.mp ka_9_38.2
def ka_9_40 := List.forall_mem_cons.mp ka_9_39.2
def ka_9_41 := List.forall_mem_cons.mp ka_9_40.2
def ka_9_42 := List.forall_mem_cons.mp ka_9_41.2
def ka_9_43 := List.forall_mem_cons.mp ka_9_42.2
def ka_9_44 := List.forall_mem_cons.mp ka_9_43.2
def ka_9_45 := List.forall_mem_cons.mp ka_9_44.2
def ka_9_46 := List.forall_mem_cons.mp ka_9_45.2
def ka_9_47 := List.forall_mem_cons.mp ka_9_46.2
def ka_9_48 := List.forall_mem_cons.mp ka_9_47.2
def ka_9_49 := List.forall_mem_cons.mp ka_9_48.2
def ka_9_50 := List.forall_mem_cons.mp ka_9_49.2
def ka_9_51 := List.forall_mem_cons.mp ka_9_50.2
def ka_9_52 := List.forall_mem_cons.mp ka_9_51.2
def ka_9_53 := List.forall_mem_cons.mp ka_9_52.2
def ka_9_54 := List.forall_mem_cons.mp ka_9_53.2
def ka_9_55 := List.forall_mem_cons.mp ka_9_54.2
def ka_9_56 := List.forall_mem_cons.mp ka_9_55.2
def ka_9_57 := List.forall_mem_cons.mp ka_9_56.2
def ka_9_58 := List.forall_mem_cons.mp ka_9_57.2
def ka_9_59 := List.forall_mem_cons.mp ka_9_58.2
def ka_9_60 := List.forall_mem_cons.mp ka_9_59.2
def ka_9_61 := List.forall_mem_cons.mp ka_9_60.2
def ka_9_62 := List.forall_mem_cons.mp ka_9_61.2
def ka_9_63 := List.forall_mem_cons.mp ka_9_62.2
def ka_9_64 := List.forall_mem_cons.mp ka_9_63.2
def ka_9_65 := List.forall_mem_cons.mp ka_9_64.2
def ka_9_66 := List.forall_mem_cons.mp ka_9_65.2
theorem kp_in {q : MethodName × Nat} (h : q ∈ lw_privs) : Cond.selects q.1.cls q.1 q.1 ∈ lw_tbl := List.mem_append_left _ (List.mem_map.mpr ⟨q, h, rfl⟩)
theorem kp_in1 : ∀ q ∈ lw_privs_1, Cond.selects q.1.cls q.1 q.1 ∈ lw_tbl := fun _ h => kp_in (List.mem_append_left _ h)
def kp_1_0 := List.forall_mem_cons.mp kp_in1
def kp_1_1 := List.forall_mem_cons.mp kp_1_0.2
def kp_1_2 := List.forall_mem_cons.mp kp_1_1.2
def kp_1_3 := List.forall_mem_cons.mp kp_1_2.2
def kp_1_4 := List.forall_mem_cons.mp kp_1_3.2
def kp_1_5 := List.forall_mem_cons.mp kp_1_4.2
def kp_1_6 := List.forall_mem_cons.mp kp_1_5.2
def kp_1_7 := List.forall_mem_cons.mp kp_1_6.2
def kp_1_8 := List.forall_mem_cons.mp kp_1_7.2
def kp_1_9 := List.forall_mem_cons.mp kp_1_8.2
def kp_1_10 := List.forall_mem_cons.mp kp_1_9.2
def kp_1_11 := List.forall_mem_cons.mp kp_1_10.2
def kp_1_12 := List.forall_mem_cons.mp kp_1_11.2
def kp_1_13 := List.forall_mem_cons.mp kp_1_12.2
def kp_1_14 := List.forall_mem_cons.mp kp_1_13.2
def kp_1_15 := List.forall_mem_cons.mp kp_1_14.2
theorem kp_in2 : ∀ q ∈ lw_privs_2, Cond.selects q.1.cls q.1 q.1 ∈ lw_tbl := fun _ h => kp_in (List.mem_append_right _ (List.mem_append_left _ h))
def kp_2_0 := List.forall_mem_cons.mp kp_in2
def kp_2_1 := List.forall_mem_cons.mp kp_2_0.2
def kp_2_2 := List.forall_mem_cons.mp kp_2_1.2
def kp_2_3 := List.forall_mem_cons.mp kp_2_2.2
def kp_2_4 := List.forall_mem_cons.mp kp_2_3.2
def kp_2_5 := List.forall_mem_cons.mp kp_2_4.2
def kp_2_6 := List.forall_mem_cons.mp kp_2_5.2
def kp_2_7 := List.forall_mem_cons.mp kp_2_6.2
def kp_2_8 := List.forall_mem_cons.mp kp_2_7.2
def kp_2_9 := List.forall_mem_cons.mp kp_2_8.2
def kp_2_10 := List.forall_mem_cons.mp kp_2_9.2
def kp_2_11 := List.forall_mem_cons.mp kp_2_10.2
def kp_2_12 := List.forall_mem_cons.mp kp_2_11.2
def kp_2_13 := List.forall_mem_cons.mp kp_2_12.2
def kp_2_14 := List.forall_mem_cons.mp kp_2_13.2
def kp_2_15 := List.forall_mem_cons.mp kp_2_14.2
theorem kp_in3 : ∀ q ∈ lw_privs_3, Cond.selects q.1.cls q.1 q.1 ∈ lw_tbl := fun _ h => kp_in (List.mem_append_right _ (List.mem_append_right _ (List.mem_append_left _ h)))
def kp_3_0 := List.forall_mem_cons.mp kp_in3
def kp_3_1 := List.forall_mem_cons.mp kp_3_0.2
def kp_3_2 := List.forall_mem_cons.mp kp_3_1.2
def kp_3_3 := List.forall_mem_cons.mp kp_3_2.2
def kp_3_4 := List.forall_mem_cons.mp kp_3_3.2
def kp_3_5 := List.forall_mem_cons.mp kp_3_4.2
def kp_3_6 := List.forall_mem_cons.mp kp_3_5.2
def kp_3_7 := List.forall_mem_cons.mp kp_3_6.2
def kp_3_8 := List.forall_mem_cons.mp kp_3_7.2
def kp_3_9 := List.forall_mem_cons.mp kp_3_8.2
def kp_3_10 := List.forall_mem_cons.mp kp_3_9.2
def kp_3_11 := List.forall_mem_cons.mp kp_3_10.2
def kp_3_12 := List.forall_mem_cons.mp kp_3_11.2
def kp_3_13 := List.forall_mem_cons.mp kp_3_12.2
def kp_3_14 := List.forall_mem_cons.mp kp_3_13.2
def kp_3_15 := List.forall_mem_cons.mp kp_3_14.2
theorem kp_in4 : ∀ q ∈ lw_privs_4, Cond.selects q.1.cls q.1 q.1 ∈ lw_tbl := fun _ h => kp_in (List.mem_append_right _ (List.mem_append_right _ (List.mem_append_right _ (List.mem_append_left _ h))))
def kp_4_0 := List.forall_mem_cons.mp kp_in4
def kp_4_1 := List.forall_mem_cons.mp kp_4_0.2
def kp_4_2 := List.forall_mem_cons.mp kp_4_1.2
def kp_4_3 := List.forall_mem_cons.mp kp_4_2.2
def kp_4_4 := List.forall_mem_cons.mp kp_4_3.2
def kp_4_5 := List.forall_mem_cons.mp kp_4_4.2
def kp_4_6 := List.forall_mem_cons.mp kp_4_5.2
def kp_4_7 := List.forall_mem_cons.mp kp_4_6.2
def kp_4_8 := List.forall_mem_cons.mp kp_4_7.2
def kp_4_9 := List.forall_mem_cons.mp kp_4_8.2
def kp_4_10 := List.forall_mem_cons.mp kp_4_9.2
def kp_4_11 := List.forall_mem_cons.mp kp_4_10.2
def kp_4_12 := List.forall_mem_cons.mp kp_4_11.2
def kp_4_13 := List.forall_mem_cons.mp kp_4_12.2
def kp_4_14 := List.forall_mem_cons.mp kp_4_13.2
def kp_4_15 := List.forall_mem_cons.mp kp_4_14.2
theorem kp_in5 : ∀ q ∈ lw_privs_5, Cond.selects q.1.cls q.1 q.1 ∈ lw_tbl := fun _ h => kp_in (List.mem_append_right _ (List.mem_append_right _ (List.mem_append_right _ (List.mem_append_right _ (List.mem_append_left _ h)))))
def kp_5_0 := List.forall_mem_cons.mp kp_in5
def kp_5_1 := List.forall_mem_cons.mp kp_5_0.2
def kp_5_2 := List.forall_mem_cons.mp kp_5_1.2
def kp_5_3 := List.forall_mem_cons.mp kp_5_2.2
def kp_5_4 := List.forall_mem_cons.mp kp_5_3.2
def kp_5_5 := List.forall_mem_cons.mp kp_5_4.2
def kp_5_6 := List.forall_mem_cons.mp kp_5_5.2
def kp_5_7 := List.forall_mem_cons.mp kp_5_6.2
def kp_5_8 := List.forall_mem_cons.mp kp_5_7.2
def kp_5_9 := List.forall_mem_cons.mp kp_5_8.2
def kp_5_10 := List.forall_mem_cons.mp kp_5_9.2
def kp_5_11 := List.forall_mem_cons.mp kp_5_10.2
def kp_5_12 := List.forall_mem_cons.mp kp_5_11.2
def kp_5_13 := List.forall_mem_cons.mp kp_5_12.2
def kp_5_14 := List.forall_mem_cons.mp kp_5_13.2
def kp_5_15 := List.forall_mem_cons.mp kp_5_14.2
theorem kp_in6 : ∀ q ∈ lw_privs_6, Cond.selects q.1.cls q.1 q.1 ∈ lw_tbl := fun _ h => kp_in (List.mem_append_right _ (List.mem_append_right _ (List.mem_append_right _ (List.mem_append_right _ (List.mem_append_right _ (List.mem_append_left _ h))))))
def kp_6_0 := List.forall_mem_cons.mp kp_in6
def kp_6_1 := List.forall_mem_cons.mp kp_6_0.2
def kp_6_2 := List.forall_mem_cons.mp kp_6_1.2
def kp_6_3 := List.forall_mem_cons.mp kp_6_2.2
def kp_6_4 := List.forall_mem_cons.mp kp_6_3.2
def kp_6_5 := List.forall_mem_cons.mp kp_6_4.2
def kp_6_6 := List.forall_mem_cons.mp kp_6_5.2
def kp_6_7 := List.forall_mem_cons.mp kp_6_6.2
def kp_6_8 := List.forall_mem_cons.mp kp_6_7.2
def kp_6_9 := List.forall_mem_cons.mp kp_6_8.2
def kp_6_10 := List.forall_mem_cons.mp kp_6_9.2
def kp_6_11 := List.forall_mem_cons.mp kp_6_10.2
def kp_6_12 := List.forall_mem_cons.mp kp_6_11.2
def kp_6_13 := List.forall_mem_cons.mp kp_6_12.2
def kp_6_14 := List.forall_mem_cons.mp kp_6_13.2
def kp_6_15 := List.forall_mem_cons.mp kp_6_14.2
theorem kp_in7 : ∀ q ∈ lw_privs_7, Cond.selects q.1.cls q.1 q.1 ∈ lw_tbl := fun _ h => kp_in (List.mem_append_right _ (List.mem_append_right _ (List.mem_append_right _ (List.mem_append_right _ (List.mem_append_right _ (List.mem_append_right _ (h)))))))
def kp_7_0 := List.forall_mem_cons.mp kp_in7
def kp_7_1 := List.forall_mem_cons.mp kp_7_0.2
def kp_7_2 := List.forall_mem_cons.mp kp_7_1.2
def kp_7_3 := List.forall_mem_cons.mp kp_7_2.2
def kp_7_4 := List.forall_mem_cons.mp kp_7_3.2
def kp_7_5 := List.forall_mem_cons.mp kp_7_4.2
def kp_7_6 := List.forall_mem_cons.mp kp_7_5.2
def kp_7_7 := List.forall_mem_cons.mp kp_7_6.2
def kp_7_8 := List.forall_mem_cons.mp kp_7_7.2
end
section
/-! names, words and decode rows: written by program (wip/gen/names.py) out of the claim's own tables -/
def gw : Cond → Bool
  | .castable _ _ => true
  | .declares _ => true
  | w => goodWord w
def lwg : List Cond := lw_tbl.filter gw
theorem lwg_of {w : Cond} (h : w ∈ lw_tbl) (hg : gw w = true) : w ∈ lwg := List.mem_filter.mpr ⟨h, hg⟩
abbrev MI : Type := MethodName × ByteArray × Nat × Option FieldType × List (Nat × Nat × Nat × Nat)
def xT0 : u_T := fun k => match k with
  | 0 => ("BeardHall$Acts", "rows", "[I", true)
  | _ => ("BeardHall$Acts", "many", "I", false)
def xy0 : Nat → FieldType := fun k => match k with
  | 0 => .array .int
  | _ => .int
def xT1 : u_T := fun k => match k with
  | 0 => ("BeardHall$Game", "hair", "LBeardHall$Hair;", true)
  | 1 => ("BeardHall$Game", "roll", "LBeardHall$Roll;", true)
  | 2 => ("BeardHall$Game", "shorn", "[I", true)
  | 3 => ("BeardHall$Game", "lawsGained", "[I", true)
  | _ => ("BeardHall$Game", "debtsGained", "[I", true)
def xy1 : Nat → FieldType := fun k => match k with
  | 0 => .object "BeardHall$Hair"
  | 1 => .object "BeardHall$Roll"
  | 2 => .array .int
  | 3 => .array .int
  | _ => .array .int
def xT2 : u_T := fun k => match k with
  | 0 => ("BeardHall$Hair", "roll", "LBeardHall$Roll;", true)
  | 1 => ("BeardHall$Hair", "length", "[I", true)
  | 2 => ("BeardHall$Hair", "died", "[I", true)
  | 3 => ("BeardHall$Hair", "year", "I", false)
  | 4 => ("BeardHall$Hair", "entries", "I", false)
  | 5 => ("BeardHall$Hair", "gone", "I", false)
  | _ => ("BeardHall$Hair", "knotted", "I", false)
def xy2 : Nat → FieldType := fun k => match k with
  | 0 => .object "BeardHall$Roll"
  | 1 => .array .int
  | 2 => .array .int
  | 3 => .int
  | 4 => .int
  | 5 => .int
  | _ => .int
def xT3 : u_T := fun k => match k with
  | 0 => ("BeardHall$Image", "there", "Z", false)
  | 1 => ("BeardHall$Image", "hair", "LBeardHall$Hair;", true)
  | 2 => ("BeardHall$Image", "cells", "[I", true)
  | 3 => ("BeardHall$Image", "acts", "LBeardHall$Acts;", true)
  | 4 => ("BeardHall$Image", "seen", "LBeardHall$Seen;", true)
  | _ => ("BeardHall$Image", "status", "[I", true)
def xy3 : Nat → FieldType := fun k => match k with
  | 0 => .boolean
  | 1 => .object "BeardHall$Hair"
  | 2 => .array .int
  | 3 => .object "BeardHall$Acts"
  | 4 => .object "BeardHall$Seen"
  | _ => .array .int
def xT4 : u_T := fun k => match k with
  | 0 => ("BeardHall$Keeping", "hair", "LBeardHall$Hair;", true)
  | 1 => ("BeardHall$Keeping", "roll", "LBeardHall$Roll;", true)
  | _ => ("BeardHall$Keeping", "ofMonk", "[I", true)
def xy4 : Nat → FieldType := fun k => match k with
  | 0 => .object "BeardHall$Hair"
  | 1 => .object "BeardHall$Roll"
  | _ => .array .int
def xT5 : u_T := fun k => match k with
  | 0 => ("BeardHall$Laws", "hair", "LBeardHall$Hair;", true)
  | _ => ("BeardHall$Laws", "roll", "LBeardHall$Roll;", true)
def xy5 : Nat → FieldType := fun k => match k with
  | 0 => .object "BeardHall$Hair"
  | _ => .object "BeardHall$Roll"
def xT6 : u_T := fun k => match k with
  | 0 => ("BeardHall$Reader", "roll", "LBeardHall$Roll;", true)
  | 1 => ("BeardHall$Reader", "hair", "LBeardHall$Hair;", true)
  | 2 => ("BeardHall$Reader", "text", "[B", true)
  | 3 => ("BeardHall$Reader", "length", "I", false)
  | 4 => ("BeardHall$Reader", "start", "I", false)
  | 5 => ("BeardHall$Reader", "end", "I", false)
  | 6 => ("BeardHall$Reader", "token", "I", false)
  | 7 => ("BeardHall$Reader", "number", "I", false)
  | 8 => ("BeardHall$Reader", "told", "I", false)
  | 9 => ("BeardHall$Reader", "fault", "I", false)
  | _ => ("BeardHall$Reader", "place", "I", false)
def xy6 : Nat → FieldType := fun k => match k with
  | 0 => .object "BeardHall$Roll"
  | 1 => .object "BeardHall$Hair"
  | 2 => .array .byte
  | 3 => .int
  | 4 => .int
  | 5 => .int
  | 6 => .int
  | 7 => .int
  | 8 => .int
  | 9 => .int
  | _ => .int
def xT7 : u_T := fun k => match k with
  | 0 => ("BeardHall$Roll", "monks", "I", false)
  | 1 => ("BeardHall$Roll", "knee", "I", false)
  | 2 => ("BeardHall$Roll", "grey", "I", false)
  | 3 => ("BeardHall$Roll", "daily", "I", false)
  | 4 => ("BeardHall$Roll", "kinds", "[I", true)
  | 5 => ("BeardHall$Roll", "ages", "[I", true)
  | 6 => ("BeardHall$Roll", "cells", "[I", true)
  | _ => ("BeardHall$Roll", "rule", "LBeardHall$Rule;", true)
def xy7 : Nat → FieldType := fun k => match k with
  | 0 => .int
  | 1 => .int
  | 2 => .int
  | 3 => .int
  | 4 => .array .int
  | 5 => .array .int
  | 6 => .array .int
  | _ => .object "BeardHall$Rule"
def xT8 : u_T := fun k => match k with
  | 0 => ("BeardHall$Rule", "codes", "[I", true)
  | 1 => ("BeardHall$Rule", "values", "[I", true)
  | 2 => ("BeardHall$Rule", "waiting", "[I", true)
  | _ => ("BeardHall$Rule", "many", "I", false)
def xy8 : Nat → FieldType := fun k => match k with
  | 0 => .array .int
  | 1 => .array .int
  | 2 => .array .int
  | _ => .int
def xT9 : u_T := fun k => match k with
  | 0 => ("BeardHall$Season", "hair", "LBeardHall$Hair;", true)
  | 1 => ("BeardHall$Season", "laws", "LBeardHall$Laws;", true)
  | 2 => ("BeardHall$Season", "seed", "I", false)
  | _ => ("BeardHall$Season", "yearsOfLoss", "I", false)
def xy9 : Nat → FieldType := fun k => match k with
  | 0 => .object "BeardHall$Hair"
  | 1 => .object "BeardHall$Laws"
  | 2 => .int
  | _ => .int
def xT10 : u_T := fun k => match k with
  | 0 => ("BeardHall$Seen", "entries", "[I", true)
  | 1 => ("BeardHall$Seen", "there", "[I", true)
  | _ => ("BeardHall$Seen", "many", "I", false)
def xy10 : Nat → FieldType := fun k => match k with
  | 0 => .array .int
  | 1 => .array .int
  | _ => .int
def xT11 : u_T := fun k => match k with
  | 0 => ("BeardHall", "tape", "[B", true)
  | 1 => ("BeardHall", "tapeLength", "I", false)
  | 2 => ("BeardHall", "faultPlace", "I", false)
  | 3 => ("BeardHall", "status", "[I", true)
  | 4 => ("BeardHall", "reader", "LBeardHall$Reader;", true)
  | 5 => ("BeardHall", "roll", "LBeardHall$Roll;", true)
  | 6 => ("BeardHall", "hair", "LBeardHall$Hair;", true)
  | 7 => ("BeardHall", "acts", "LBeardHall$Acts;", true)
  | 8 => ("BeardHall", "seen", "LBeardHall$Seen;", true)
  | 9 => ("BeardHall", "kept", "LBeardHall$Image;", true)
  | 10 => ("BeardHall", "laws", "LBeardHall$Laws;", true)
  | 11 => ("BeardHall", "keeping", "LBeardHall$Keeping;", true)
  | 12 => ("BeardHall", "barberGame", "LBeardHall$Game;", true)
  | _ => ("BeardHall", "weather", "LBeardHall$Season;", true)
def xy11 : Nat → FieldType := fun k => match k with
  | 0 => .array .byte
  | 1 => .int
  | 2 => .int
  | 3 => .array .int
  | 4 => .object "BeardHall$Reader"
  | 5 => .object "BeardHall$Roll"
  | 6 => .object "BeardHall$Hair"
  | 7 => .object "BeardHall$Acts"
  | 8 => .object "BeardHall$Seen"
  | 9 => .object "BeardHall$Image"
  | 10 => .object "BeardHall$Laws"
  | 11 => .object "BeardHall$Keeping"
  | 12 => .object "BeardHall$Game"
  | _ => .object "BeardHall$Season"
def xT12 : u_T := fun k => match k with
  | 0 => ("BeardHallModel", "kinds", "[Ljava/lang/String;", true)
  | 1 => ("BeardHallModel", "sorts", "[Ljava/lang/String;", true)
  | 2 => ("BeardHallModel", "values", "[Ljava/lang/String;", true)
  | 3 => ("BeardHallModel", "code", "I", false)
  | 4 => ("BeardHallModel", "told", "[I", true)
  | 5 => ("BeardHallModel", "kind", "[I", true)
  | 6 => ("BeardHallModel", "age", "[I", true)
  | 7 => ("BeardHallModel", "lengths", "[I", true)
  | 8 => ("BeardHallModel", "entry", "[I", true)
  | 9 => ("BeardHallModel", "signs", "[I", true)
  | 10 => ("BeardHallModel", "status", "[I", true)
  | 11 => ("BeardHallModel", "tape", "[I", true)
  | 12 => ("BeardHallModel", "taped", "I", false)
  | 13 => ("BeardHallModel", "at", "I", false)
  | 14 => ("BeardHallModel", "size", "I", false)
  | 15 => ("BeardHallModel", "token", "I", false)
  | 16 => ("BeardHallModel", "number", "I", false)
  | 17 => ("BeardHallModel", "begins", "I", false)
  | 18 => ("BeardHallModel", "stops", "I", false)
  | 19 => ("BeardHallModel", "bad", "I", false)
  | 20 => ("BeardHallModel", "badPlace", "I", false)
  | 21 => ("BeardHallModel", "faultPlace", "I", false)
  | 22 => ("BeardHallModel", "died", "[I", true)
  | 23 => ("BeardHallModel", "past", "[I", true)
  | 24 => ("BeardHallModel", "year", "I", false)
  | 25 => ("BeardHallModel", "dead", "I", false)
  | 26 => ("BeardHallModel", "many", "I", false)
  | 27 => ("BeardHallModel", "acts", "I", false)
  | 28 => ("BeardHallModel", "seen", "I", false)
  | 29 => ("BeardHallModel", "asked", "[I", true)
  | 30 => ("BeardHallModel", "stack", "[I", true)
  | 31 => ("BeardHallModel", "rowThen", "[I", true)
  | 32 => ("BeardHallModel", "seenEntry", "[I", true)
  | 33 => ("BeardHallModel", "seenThere", "[I", true)
  | 34 => ("BeardHallModel", "seedNow", "I", false)
  | 35 => ("BeardHallModel", "hasImage", "Z", false)
  | 36 => ("BeardHallModel", "actsThen", "I", false)
  | 37 => ("BeardHallModel", "seenThen", "I", false)
  | 38 => ("BeardHallModel", "imageRow", "[I", true)
  | 39 => ("BeardHallModel", "pastThen", "[I", true)
  | 40 => ("BeardHallModel", "seenEntryThen", "[I", true)
  | 41 => ("BeardHallModel", "seenThereThen", "[I", true)
  | _ => ("BeardHallModel", "statusThen", "[I", true)
def xy12 : Nat → FieldType := fun k => match k with
  | 0 => .array (.object "java/lang/String")
  | 1 => .array (.object "java/lang/String")
  | 2 => .array (.object "java/lang/String")
  | 3 => .int
  | 4 => .array .int
  | 5 => .array .int
  | 6 => .array .int
  | 7 => .array .int
  | 8 => .array .int
  | 9 => .array .int
  | 10 => .array .int
  | 11 => .array .int
  | 12 => .int
  | 13 => .int
  | 14 => .int
  | 15 => .int
  | 16 => .int
  | 17 => .int
  | 18 => .int
  | 19 => .int
  | 20 => .int
  | 21 => .int
  | 22 => .array .int
  | 23 => .array .int
  | 24 => .int
  | 25 => .int
  | 26 => .int
  | 27 => .int
  | 28 => .int
  | 29 => .array .int
  | 30 => .array .int
  | 31 => .array .int
  | 32 => .array .int
  | 33 => .array .int
  | 34 => .int
  | 35 => .boolean
  | 36 => .int
  | 37 => .int
  | 38 => .array .int
  | 39 => .array .int
  | 40 => .array .int
  | 41 => .array .int
  | _ => .array .int
def xC : Nat → String := fun c => match c with
  | 0 => "BeardHall$Acts"
  | 1 => "BeardHall$Game"
  | 2 => "BeardHall$Hair"
  | 3 => "BeardHall$Image"
  | 4 => "BeardHall$Keeping"
  | 5 => "BeardHall$Laws"
  | 6 => "BeardHall$Reader"
  | 7 => "BeardHall$Roll"
  | 8 => "BeardHall$Rule"
  | 9 => "BeardHall$Season"
  | 10 => "BeardHall$Seen"
  | 11 => "BeardHall"
  | _ => "BeardHallModel"
def xT : Nat → u_T := fun c => match c with
  | 0 => xT0
  | 1 => xT1
  | 2 => xT2
  | 3 => xT3
  | 4 => xT4
  | 5 => xT5
  | 6 => xT6
  | 7 => xT7
  | 8 => xT8
  | 9 => xT9
  | 10 => xT10
  | 11 => xT11
  | _ => xT12
def xy : Nat → Nat → FieldType := fun c => match c with
  | 0 => xy0
  | 1 => xy1
  | 2 => xy2
  | 3 => xy3
  | 4 => xy4
  | 5 => xy5
  | 6 => xy6
  | 7 => xy7
  | 8 => xy8
  | 9 => xy9
  | 10 => xy10
  | 11 => xy11
  | _ => xy12
def xN : Nat → Nat := fun c => match c with
  | 0 => 2
  | 1 => 5
  | 2 => 7
  | 3 => 6
  | 4 => 3
  | 5 => 2
  | 6 => 11
  | 7 => 8
  | 8 => 4
  | 9 => 4
  | 10 => 3
  | 11 => 14
  | _ => 43
abbrev xcl : List vw_C := [(xC 0, xT 0, xN 0), (xC 1, xT 1, xN 1), (xC 2, xT 2, xN 2), (xC 3, xT 3, xN 3), (xC 4, xT 4, xN 4), (xC 5, xT 5, xN 5), (xC 6, xT 6, xN 6), (xC 7, xT 7, xN 7), (xC 8, xT 8, xN 8), (xC 9, xT 9, xN 9), (xC 10, xT 10, xN 10), (xC 11, xT 11, xN 11), (xC 12, xT 12, xN 12)]
theorem xnm0 : ∀ a, a < xN 0 → ∀ b, b < xN 0 → a ≠ b → (xT 0 a).2.1 ≠ (xT 0 b).2.1 := by decide +kernel
theorem xty0 : ∀ k, k < xN 0 → parseFieldDescriptor (xT 0 k).2.2.1 = some (xy 0 k) := by decide +kernel
theorem xin0 : ∀ w ∈ u_ws (xC 0) (xT 0) (xN 0), w ∈ lwg := by
  show ∀ w ∈ [.laysFinal "BeardHall$Acts" "BeardHall$Acts" "rows" "[I", .lays "BeardHall$Acts" "BeardHall$Acts" "many" "I"], w ∈ lwg
  simp only [List.forall_mem_cons, List.not_mem_nil, false_implies, implies_true, and_true]
  exact ⟨lwg_of ka_1_213.1 rfl, lwg_of ka_1_215.1 rfl⟩
theorem xnm1 : ∀ a, a < xN 1 → ∀ b, b < xN 1 → a ≠ b → (xT 1 a).2.1 ≠ (xT 1 b).2.1 := by decide +kernel
theorem xty1 : ∀ k, k < xN 1 → parseFieldDescriptor (xT 1 k).2.2.1 = some (xy 1 k) := by decide +kernel
theorem xin1 : ∀ w ∈ u_ws (xC 1) (xT 1) (xN 1), w ∈ lwg := by
  show ∀ w ∈ [.laysFinal "BeardHall$Game" "BeardHall$Game" "hair" "LBeardHall$Hair;", .laysFinal "BeardHall$Game" "BeardHall$Game" "roll" "LBeardHall$Roll;", .laysFinal "BeardHall$Game" "BeardHall$Game" "shorn" "[I", .laysFinal "BeardHall$Game" "BeardHall$Game" "lawsGained" "[I", .laysFinal "BeardHall$Game" "BeardHall$Game" "debtsGained" "[I"], w ∈ lwg
  simp only [List.forall_mem_cons, List.not_mem_nil, false_implies, implies_true, and_true]
  exact ⟨lwg_of ka_2_71.1 rfl, lwg_of ka_2_73.1 rfl, lwg_of ka_2_75.1 rfl, lwg_of ka_2_77.1 rfl, lwg_of ka_2_79.1 rfl⟩
theorem xnm2 : ∀ a, a < xN 2 → ∀ b, b < xN 2 → a ≠ b → (xT 2 a).2.1 ≠ (xT 2 b).2.1 := by decide +kernel
theorem xty2 : ∀ k, k < xN 2 → parseFieldDescriptor (xT 2 k).2.2.1 = some (xy 2 k) := by decide +kernel
theorem xin2 : ∀ w ∈ u_ws (xC 2) (xT 2) (xN 2), w ∈ lwg := by
  show ∀ w ∈ [.laysFinal "BeardHall$Hair" "BeardHall$Hair" "roll" "LBeardHall$Roll;", .laysFinal "BeardHall$Hair" "BeardHall$Hair" "length" "[I", .laysFinal "BeardHall$Hair" "BeardHall$Hair" "died" "[I", .lays "BeardHall$Hair" "BeardHall$Hair" "year" "I", .lays "BeardHall$Hair" "BeardHall$Hair" "entries" "I", .lays "BeardHall$Hair" "BeardHall$Hair" "gone" "I", .lays "BeardHall$Hair" "BeardHall$Hair" "knotted" "I"], w ∈ lwg
  simp only [List.forall_mem_cons, List.not_mem_nil, false_implies, implies_true, and_true]
  exact ⟨lwg_of ka_1_147.1 rfl, lwg_of ka_1_149.1 rfl, lwg_of ka_1_151.1 rfl, lwg_of ka_1_153.1 rfl, lwg_of ka_1_155.1 rfl, lwg_of ka_1_157.1 rfl, lwg_of ka_1_159.1 rfl⟩
theorem xnm3 : ∀ a, a < xN 3 → ∀ b, b < xN 3 → a ≠ b → (xT 3 a).2.1 ≠ (xT 3 b).2.1 := by decide +kernel
theorem xty3 : ∀ k, k < xN 3 → parseFieldDescriptor (xT 3 k).2.2.1 = some (xy 3 k) := by decide +kernel
theorem xin3 : ∀ w ∈ u_ws (xC 3) (xT 3) (xN 3), w ∈ lwg := by
  show ∀ w ∈ [.lays "BeardHall$Image" "BeardHall$Image" "there" "Z", .laysFinal "BeardHall$Image" "BeardHall$Image" "hair" "LBeardHall$Hair;", .laysFinal "BeardHall$Image" "BeardHall$Image" "cells" "[I", .laysFinal "BeardHall$Image" "BeardHall$Image" "acts" "LBeardHall$Acts;", .laysFinal "BeardHall$Image" "BeardHall$Image" "seen" "LBeardHall$Seen;", .laysFinal "BeardHall$Image" "BeardHall$Image" "status" "[I"], w ∈ lwg
  simp only [List.forall_mem_cons, List.not_mem_nil, false_implies, implies_true, and_true]
  exact ⟨lwg_of ka_2_18.1 rfl, lwg_of ka_2_20.1 rfl, lwg_of ka_2_22.1 rfl, lwg_of ka_2_24.1 rfl, lwg_of ka_2_26.1 rfl, lwg_of ka_2_28.1 rfl⟩
theorem xnm4 : ∀ a, a < xN 4 → ∀ b, b < xN 4 → a ≠ b → (xT 4 a).2.1 ≠ (xT 4 b).2.1 := by decide +kernel
theorem xty4 : ∀ k, k < xN 4 → parseFieldDescriptor (xT 4 k).2.2.1 = some (xy 4 k) := by decide +kernel
theorem xin4 : ∀ w ∈ u_ws (xC 4) (xT 4) (xN 4), w ∈ lwg := by
  show ∀ w ∈ [.laysFinal "BeardHall$Keeping" "BeardHall$Keeping" "hair" "LBeardHall$Hair;", .laysFinal "BeardHall$Keeping" "BeardHall$Keeping" "roll" "LBeardHall$Roll;", .laysFinal "BeardHall$Keeping" "BeardHall$Keeping" "ofMonk" "[I"], w ∈ lwg
  simp only [List.forall_mem_cons, List.not_mem_nil, false_implies, implies_true, and_true]
  exact ⟨lwg_of ka_2_53.1 rfl, lwg_of ka_2_55.1 rfl, lwg_of ka_2_57.1 rfl⟩
theorem xnm5 : ∀ a, a < xN 5 → ∀ b, b < xN 5 → a ≠ b → (xT 5 a).2.1 ≠ (xT 5 b).2.1 := by decide +kernel
theorem xty5 : ∀ k, k < xN 5 → parseFieldDescriptor (xT 5 k).2.2.1 = some (xy 5 k) := by decide +kernel
theorem xin5 : ∀ w ∈ u_ws (xC 5) (xT 5) (xN 5), w ∈ lwg := by
  show ∀ w ∈ [.laysFinal "BeardHall$Laws" "BeardHall$Laws" "hair" "LBeardHall$Hair;", .laysFinal "BeardHall$Laws" "BeardHall$Laws" "roll" "LBeardHall$Roll;"], w ∈ lwg
  simp only [List.forall_mem_cons, List.not_mem_nil, false_implies, implies_true, and_true]
  exact ⟨lwg_of ka_2_39.1 rfl, lwg_of ka_2_41.1 rfl⟩
theorem xnm6 : ∀ a, a < xN 6 → ∀ b, b < xN 6 → a ≠ b → (xT 6 a).2.1 ≠ (xT 6 b).2.1 := by decide +kernel
theorem xty6 : ∀ k, k < xN 6 → parseFieldDescriptor (xT 6 k).2.2.1 = some (xy 6 k) := by decide +kernel
theorem xin6 : ∀ w ∈ u_ws (xC 6) (xT 6) (xN 6), w ∈ lwg := by
  show ∀ w ∈ [.laysFinal "BeardHall$Reader" "BeardHall$Reader" "roll" "LBeardHall$Roll;", .laysFinal "BeardHall$Reader" "BeardHall$Reader" "hair" "LBeardHall$Hair;", .laysFinal "BeardHall$Reader" "BeardHall$Reader" "text" "[B", .lays "BeardHall$Reader" "BeardHall$Reader" "length" "I", .lays "BeardHall$Reader" "BeardHall$Reader" "start" "I", .lays "BeardHall$Reader" "BeardHall$Reader" "end" "I", .lays "BeardHall$Reader" "BeardHall$Reader" "token" "I", .lays "BeardHall$Reader" "BeardHall$Reader" "number" "I", .lays "BeardHall$Reader" "BeardHall$Reader" "told" "I", .lays "BeardHall$Reader" "BeardHall$Reader" "fault" "I", .lays "BeardHall$Reader" "BeardHall$Reader" "place" "I"], w ∈ lwg
  simp only [List.forall_mem_cons, List.not_mem_nil, false_implies, implies_true, and_true]
  exact ⟨lwg_of ka_1_177.1 rfl, lwg_of ka_1_179.1 rfl, lwg_of ka_1_181.1 rfl, lwg_of ka_1_183.1 rfl, lwg_of ka_1_185.1 rfl, lwg_of ka_1_187.1 rfl, lwg_of ka_1_189.1 rfl, lwg_of ka_1_191.1 rfl, lwg_of ka_1_193.1 rfl, lwg_of ka_1_195.1 rfl, lwg_of ka_1_197.1 rfl⟩
theorem xnm7 : ∀ a, a < xN 7 → ∀ b, b < xN 7 → a ≠ b → (xT 7 a).2.1 ≠ (xT 7 b).2.1 := by decide +kernel
theorem xty7 : ∀ k, k < xN 7 → parseFieldDescriptor (xT 7 k).2.2.1 = some (xy 7 k) := by decide +kernel
theorem xin7 : ∀ w ∈ u_ws (xC 7) (xT 7) (xN 7), w ∈ lwg := by
  show ∀ w ∈ [.lays "BeardHall$Roll" "BeardHall$Roll" "monks" "I", .lays "BeardHall$Roll" "BeardHall$Roll" "knee" "I", .lays "BeardHall$Roll" "BeardHall$Roll" "grey" "I", .lays "BeardHall$Roll" "BeardHall$Roll" "daily" "I", .laysFinal "BeardHall$Roll" "BeardHall$Roll" "kinds" "[I", .laysFinal "BeardHall$Roll" "BeardHall$Roll" "ages" "[I", .laysFinal "BeardHall$Roll" "BeardHall$Roll" "cells" "[I", .laysFinal "BeardHall$Roll" "BeardHall$Roll" "rule" "LBeardHall$Rule;"], w ∈ lwg
  simp only [List.forall_mem_cons, List.not_mem_nil, false_implies, implies_true, and_true]
  exact ⟨lwg_of ka_1_103.1 rfl, lwg_of ka_1_105.1 rfl, lwg_of ka_1_107.1 rfl, lwg_of ka_1_109.1 rfl, lwg_of ka_1_111.1 rfl, lwg_of ka_1_113.1 rfl, lwg_of ka_1_115.1 rfl, lwg_of ka_1_117.1 rfl⟩
theorem xnm8 : ∀ a, a < xN 8 → ∀ b, b < xN 8 → a ≠ b → (xT 8 a).2.1 ≠ (xT 8 b).2.1 := by decide +kernel
theorem xty8 : ∀ k, k < xN 8 → parseFieldDescriptor (xT 8 k).2.2.1 = some (xy 8 k) := by decide +kernel
theorem xin8 : ∀ w ∈ u_ws (xC 8) (xT 8) (xN 8), w ∈ lwg := by
  show ∀ w ∈ [.laysFinal "BeardHall$Rule" "BeardHall$Rule" "codes" "[I", .laysFinal "BeardHall$Rule" "BeardHall$Rule" "values" "[I", .laysFinal "BeardHall$Rule" "BeardHall$Rule" "waiting" "[I", .lays "BeardHall$Rule" "BeardHall$Rule" "many" "I"], w ∈ lwg
  simp only [List.forall_mem_cons, List.not_mem_nil, false_implies, implies_true, and_true]
  exact ⟨lwg_of ka_1_58.1 rfl, lwg_of ka_1_60.1 rfl, lwg_of ka_1_62.1 rfl, lwg_of ka_1_64.1 rfl⟩
theorem xnm9 : ∀ a, a < xN 9 → ∀ b, b < xN 9 → a ≠ b → (xT 9 a).2.1 ≠ (xT 9 b).2.1 := by decide +kernel
theorem xty9 : ∀ k, k < xN 9 → parseFieldDescriptor (xT 9 k).2.2.1 = some (xy 9 k) := by decide +kernel
theorem xin9 : ∀ w ∈ u_ws (xC 9) (xT 9) (xN 9), w ∈ lwg := by
  show ∀ w ∈ [.laysFinal "BeardHall$Season" "BeardHall$Season" "hair" "LBeardHall$Hair;", .laysFinal "BeardHall$Season" "BeardHall$Season" "laws" "LBeardHall$Laws;", .lays "BeardHall$Season" "BeardHall$Season" "seed" "I", .lays "BeardHall$Season" "BeardHall$Season" "yearsOfLoss" "I"], w ∈ lwg
  simp only [List.forall_mem_cons, List.not_mem_nil, false_implies, implies_true, and_true]
  exact ⟨lwg_of ka_2_99.1 rfl, lwg_of ka_2_101.1 rfl, lwg_of ka_2_103.1 rfl, lwg_of ka_2_105.1 rfl⟩
theorem xnm10 : ∀ a, a < xN 10 → ∀ b, b < xN 10 → a ≠ b → (xT 10 a).2.1 ≠ (xT 10 b).2.1 := by decide +kernel
theorem xty10 : ∀ k, k < xN 10 → parseFieldDescriptor (xT 10 k).2.2.1 = some (xy 10 k) := by decide +kernel
theorem xin10 : ∀ w ∈ u_ws (xC 10) (xT 10) (xN 10), w ∈ lwg := by
  show ∀ w ∈ [.laysFinal "BeardHall$Seen" "BeardHall$Seen" "entries" "[I", .laysFinal "BeardHall$Seen" "BeardHall$Seen" "there" "[I", .lays "BeardHall$Seen" "BeardHall$Seen" "many" "I"], w ∈ lwg
  simp only [List.forall_mem_cons, List.not_mem_nil, false_implies, implies_true, and_true]
  exact ⟨lwg_of ka_1_228.1 rfl, lwg_of ka_1_230.1 rfl, lwg_of ka_1_232.1 rfl⟩
theorem xnm11 : ∀ a, a < xN 11 → ∀ b, b < xN 11 → a ≠ b → (xT 11 a).2.1 ≠ (xT 11 b).2.1 := by decide +kernel
theorem xty11 : ∀ k, k < xN 11 → parseFieldDescriptor (xT 11 k).2.2.1 = some (xy 11 k) := by decide +kernel
theorem xin11 : ∀ w ∈ u_ws (xC 11) (xT 11) (xN 11), w ∈ lwg := by
  show ∀ w ∈ [.laysFinal "BeardHall" "BeardHall" "tape" "[B", .lays "BeardHall" "BeardHall" "tapeLength" "I", .lays "BeardHall" "BeardHall" "faultPlace" "I", .laysFinal "BeardHall" "BeardHall" "status" "[I", .laysFinal "BeardHall" "BeardHall" "reader" "LBeardHall$Reader;", .laysFinal "BeardHall" "BeardHall" "roll" "LBeardHall$Roll;", .laysFinal "BeardHall" "BeardHall" "hair" "LBeardHall$Hair;", .laysFinal "BeardHall" "BeardHall" "acts" "LBeardHall$Acts;", .laysFinal "BeardHall" "BeardHall" "seen" "LBeardHall$Seen;", .laysFinal "BeardHall" "BeardHall" "kept" "LBeardHall$Image;", .laysFinal "BeardHall" "BeardHall" "laws" "LBeardHall$Laws;", .laysFinal "BeardHall" "BeardHall" "keeping" "LBeardHall$Keeping;", .laysFinal "BeardHall" "BeardHall" "barberGame" "LBeardHall$Game;", .laysFinal "BeardHall" "BeardHall" "weather" "LBeardHall$Season;"], w ∈ lwg
  simp only [List.forall_mem_cons, List.not_mem_nil, false_implies, implies_true, and_true]
  exact ⟨lwg_of ka_2_137.1 rfl, lwg_of ka_2_139.1 rfl, lwg_of ka_2_141.1 rfl, lwg_of ka_2_143.1 rfl, lwg_of ka_2_145.1 rfl, lwg_of ka_2_147.1 rfl, lwg_of ka_2_149.1 rfl, lwg_of ka_2_151.1 rfl, lwg_of ka_2_153.1 rfl, lwg_of ka_2_155.1 rfl, lwg_of ka_2_157.1 rfl, lwg_of ka_2_159.1 rfl, lwg_of ka_2_161.1 rfl, lwg_of ka_2_163.1 rfl⟩
theorem xnm12 : ∀ a, a < xN 12 → ∀ b, b < xN 12 → a ≠ b → (xT 12 a).2.1 ≠ (xT 12 b).2.1 := by decide +kernel
theorem xty12 : ∀ k, k < xN 12 → parseFieldDescriptor (xT 12 k).2.2.1 = some (xy 12 k) := by decide +kernel
theorem xin12 : ∀ w ∈ u_ws (xC 12) (xT 12) (xN 12), w ∈ lwg := by
  show ∀ w ∈ [.laysFinal "BeardHallModel" "BeardHallModel" "kinds" "[Ljava/lang/String;", .laysFinal "BeardHallModel" "BeardHallModel" "sorts" "[Ljava/lang/String;", .laysFinal "BeardHallModel" "BeardHallModel" "values" "[Ljava/lang/String;", .lays "BeardHallModel" "BeardHallModel" "code" "I", .laysFinal "BeardHallModel" "BeardHallModel" "told" "[I", .laysFinal "BeardHallModel" "BeardHallModel" "kind" "[I", .laysFinal "BeardHallModel" "BeardHallModel" "age" "[I", .laysFinal "BeardHallModel" "BeardHallModel" "lengths" "[I", .laysFinal "BeardHallModel" "BeardHallModel" "entry" "[I", .laysFinal "BeardHallModel" "BeardHallModel" "signs" "[I", .laysFinal "BeardHallModel" "BeardHallModel" "status" "[I", .laysFinal "BeardHallModel" "BeardHallModel" "tape" "[I", .lays "BeardHallModel" "BeardHallModel" "taped" "I", .lays "BeardHallModel" "BeardHallModel" "at" "I", .lays "BeardHallModel" "BeardHallModel" "size" "I", .lays "BeardHallModel" "BeardHallModel" "token" "I", .lays "BeardHallModel" "BeardHallModel" "number" "I", .lays "BeardHallModel" "BeardHallModel" "begins" "I", .lays "BeardHallModel" "BeardHallModel" "stops" "I", .lays "BeardHallModel" "BeardHallModel" "bad" "I", .lays "BeardHallModel" "BeardHallModel" "badPlace" "I", .lays "BeardHallModel" "BeardHallModel" "faultPlace" "I", .laysFinal "BeardHallModel" "BeardHallModel" "died" "[I", .laysFinal "BeardHallModel" "BeardHallModel" "past" "[I", .lays "BeardHallModel" "BeardHallModel" "year" "I", .lays "BeardHallModel" "BeardHallModel" "dead" "I", .lays "BeardHallModel" "BeardHallModel" "many" "I", .lays "BeardHallModel" "BeardHallModel" "acts" "I", .lays "BeardHallModel" "BeardHallModel" "seen" "I", .laysFinal "BeardHallModel" "BeardHallModel" "asked" "[I", .laysFinal "BeardHallModel" "BeardHallModel" "stack" "[I", .laysFinal "BeardHallModel" "BeardHallModel" "rowThen" "[I", .laysFinal "BeardHallModel" "BeardHallModel" "seenEntry" "[I", .laysFinal "BeardHallModel" "BeardHallModel" "seenThere" "[I", .lays "BeardHallModel" "BeardHallModel" "seedNow" "I", .lays "BeardHallModel" "BeardHallModel" "hasImage" "Z", .lays "BeardHallModel" "BeardHallModel" "actsThen" "I", .lays "BeardHallModel" "BeardHallModel" "seenThen" "I", .laysFinal "BeardHallModel" "BeardHallModel" "imageRow" "[I", .laysFinal "BeardHallModel" "BeardHallModel" "pastThen" "[I", .laysFinal "BeardHallModel" "BeardHallModel" "seenEntryThen" "[I", .laysFinal "BeardHallModel" "BeardHallModel" "seenThereThen" "[I", .laysFinal "BeardHallModel" "BeardHallModel" "statusThen" "[I"], w ∈ lwg
  simp only [List.forall_mem_cons, List.not_mem_nil, false_implies, implies_true, and_true]
  exact ⟨lwg_of ka_6_211.1 rfl, lwg_of ka_6_213.1 rfl, lwg_of ka_6_215.1 rfl, lwg_of ka_6_217.1 rfl, lwg_of ka_6_219.1 rfl, lwg_of ka_6_221.1 rfl, lwg_of ka_6_223.1 rfl, lwg_of ka_6_225.1 rfl, lwg_of ka_6_227.1 rfl, lwg_of ka_6_229.1 rfl, lwg_of ka_6_231.1 rfl, lwg_of ka_6_233.1 rfl, lwg_of ka_6_235.1 rfl, lwg_of ka_6_237.1 rfl, lwg_of ka_6_239.1 rfl, lwg_of ka_7_1.1 rfl, lwg_of ka_7_3.1 rfl, lwg_of ka_7_5.1 rfl, lwg_of ka_7_7.1 rfl, lwg_of ka_7_9.1 rfl, lwg_of ka_7_11.1 rfl, lwg_of ka_7_13.1 rfl, lwg_of ka_7_15.1 rfl, lwg_of ka_7_17.1 rfl, lwg_of ka_7_19.1 rfl, lwg_of ka_7_21.1 rfl, lwg_of ka_7_23.1 rfl, lwg_of ka_7_25.1 rfl, lwg_of ka_7_27.1 rfl, lwg_of ka_7_29.1 rfl, lwg_of ka_7_31.1 rfl, lwg_of ka_7_33.1 rfl, lwg_of ka_7_35.1 rfl, lwg_of ka_7_37.1 rfl, lwg_of ka_7_39.1 rfl, lwg_of ka_7_41.1 rfl, lwg_of ka_7_43.1 rfl, lwg_of ka_7_45.1 rfl, lwg_of ka_7_47.1 rfl, lwg_of ka_7_49.1 rfl, lwg_of ka_7_51.1 rfl, lwg_of ka_7_53.1 rfl, lwg_of ka_7_55.1 rfl⟩
theorem xnm : ∀ c, c < 13 → ∀ a, a < xN c → ∀ b, b < xN c → a ≠ b → (xT c a).2.1 ≠ (xT c b).2.1
  | 0, _ => xnm0
  | 1, _ => xnm1
  | 2, _ => xnm2
  | 3, _ => xnm3
  | 4, _ => xnm4
  | 5, _ => xnm5
  | 6, _ => xnm6
  | 7, _ => xnm7
  | 8, _ => xnm8
  | 9, _ => xnm9
  | 10, _ => xnm10
  | 11, _ => xnm11
  | 12, _ => xnm12
  | _ + 13, h => absurd h (by omega)
theorem xty : ∀ c, c < 13 → ∀ k, k < xN c → parseFieldDescriptor (xT c k).2.2.1 = some (xy c k)
  | 0, _ => xty0
  | 1, _ => xty1
  | 2, _ => xty2
  | 3, _ => xty3
  | 4, _ => xty4
  | 5, _ => xty5
  | 6, _ => xty6
  | 7, _ => xty7
  | 8, _ => xty8
  | 9, _ => xty9
  | 10, _ => xty10
  | 11, _ => xty11
  | 12, _ => xty12
  | _ + 13, h => absurd h (by omega)
theorem xin : ∀ c, c < 13 → ∀ w ∈ u_ws (xC c) (xT c) (xN c), w ∈ lwg
  | 0, _ => xin0
  | 1, _ => xin1
  | 2, _ => xin2
  | 3, _ => xin3
  | 4, _ => xin4
  | 5, _ => xin5
  | 6, _ => xin6
  | 7, _ => xin7
  | 8, _ => xin8
  | 9, _ => xin9
  | 10, _ => xin10
  | 11, _ => xin11
  | 12, _ => xin12
  | _ + 13, h => absurd h (by omega)
theorem xcl_at : ∀ c, c < 13 → xcl[c]? = some (xC c, xT c, xN c)
  | 0, _ => rfl
  | 1, _ => rfl
  | 2, _ => rfl
  | 3, _ => rfl
  | 4, _ => rfl
  | 5, _ => rfl
  | 6, _ => rfl
  | 7, _ => rfl
  | 8, _ => rfl
  | 9, _ => rfl
  | 10, _ => rfl
  | 11, _ => rfl
  | 12, _ => rfl
  | _ + 13, h => absurd h (by omega)
theorem wi_Law : Cond.initialized "BeardHallLaw" ∈ lwg := lwg_of ka_1_0.1 rfl
theorem wi_Hall : Cond.initialized "BeardHall" ∈ lwg := lwg_of ka_1_1.1 rfl
theorem wi_Reader : Cond.initialized "BeardHall$Reader" ∈ lwg := lwg_of ka_1_2.1 rfl
theorem wi_Roll : Cond.initialized "BeardHall$Roll" ∈ lwg := lwg_of ka_1_3.1 rfl
theorem wi_Rule : Cond.initialized "BeardHall$Rule" ∈ lwg := lwg_of ka_1_4.1 rfl
theorem wi_Hair : Cond.initialized "BeardHall$Hair" ∈ lwg := lwg_of ka_1_5.1 rfl
theorem wi_Acts : Cond.initialized "BeardHall$Acts" ∈ lwg := lwg_of ka_1_6.1 rfl
theorem wi_Seen : Cond.initialized "BeardHall$Seen" ∈ lwg := lwg_of ka_1_7.1 rfl
theorem wi_Image : Cond.initialized "BeardHall$Image" ∈ lwg := lwg_of ka_1_8.1 rfl
theorem wi_Laws : Cond.initialized "BeardHall$Laws" ∈ lwg := lwg_of ka_1_9.1 rfl
theorem wi_Keeping : Cond.initialized "BeardHall$Keeping" ∈ lwg := lwg_of ka_1_10.1 rfl
theorem wi_Game : Cond.initialized "BeardHall$Game" ∈ lwg := lwg_of ka_1_11.1 rfl
theorem wi_Season : Cond.initialized "BeardHall$Season" ∈ lwg := lwg_of ka_1_12.1 rfl
theorem wi_JArrays : Cond.initialized "java/util/Arrays" ∈ lwg := lwg_of ka_1_13.1 rfl
theorem wi_Model : Cond.initialized "BeardHallModel" ∈ lwg := lwg_of ka_1_14.1 rfl
theorem wi_java_lang_Throwable : Cond.initialized "java/lang/Throwable" ∈ lwg := lwg_of ka_1_15.1 rfl
theorem wi_java_lang_Exception : Cond.initialized "java/lang/Exception" ∈ lwg := lwg_of ka_1_16.1 rfl
theorem wi_java_lang_RuntimeException : Cond.initialized "java/lang/RuntimeException" ∈ lwg := lwg_of ka_1_17.1 rfl
theorem wi_java_lang_IllegalArgumentException : Cond.initialized "java/lang/IllegalArgumentException" ∈ lwg := lwg_of ka_1_18.1 rfl
theorem wi_JMath : Cond.initialized "java/lang/Math" ∈ lwg := lwg_of ka_1_19.1 rfl
theorem wi_JString : Cond.initialized "java/lang/String" ∈ lwg := lwg_of ka_1_20.1 rfl
theorem wi_JLatin : Cond.initialized "java/lang/StringLatin1" ∈ lwg := lwg_of ka_1_21.1 rfl
theorem wi_jdk_internal_util_Preconditions : Cond.initialized "jdk/internal/util/Preconditions" ∈ lwg := lwg_of ka_1_22.1 rfl
theorem wi_JUtf : Cond.initialized "java/lang/StringUTF16" ∈ lwg := lwg_of ka_1_23.1 rfl
theorem wi_java_lang_System : Cond.initialized "java/lang/System" ∈ lwg := lwg_of ka_1_24.1 rfl
theorem wi_JInteger : Cond.initialized "java/lang/Integer" ∈ lwg := lwg_of ka_1_25.1 rfl
theorem wi_java_util_NoSuchElementException : Cond.initialized "java/util/NoSuchElementException" ∈ lwg := lwg_of ka_1_26.1 rfl
theorem wn_Hall : Cond.instantiable "BeardHall" 14 ∈ lwg := lwg_of ka_1_28.1 rfl
theorem wn_Reader : Cond.instantiable "BeardHall$Reader" 11 ∈ lwg := lwg_of ka_1_36.1 rfl
theorem wn_Roll : Cond.instantiable "BeardHall$Roll" 8 ∈ lwg := lwg_of ka_1_42.1 rfl
theorem wn_Rule : Cond.instantiable "BeardHall$Rule" 4 ∈ lwg := lwg_of ka_1_48.1 rfl
theorem wn_Hair : Cond.instantiable "BeardHall$Hair" 7 ∈ lwg := lwg_of ka_1_121.1 rfl
theorem wn_Acts : Cond.instantiable "BeardHall$Acts" 2 ∈ lwg := lwg_of ka_1_205.1 rfl
theorem wn_Seen : Cond.instantiable "BeardHall$Seen" 3 ∈ lwg := lwg_of ka_1_219.1 rfl
theorem wn_Image : Cond.instantiable "BeardHall$Image" 6 ∈ lwg := lwg_of ka_1_236.1 rfl
theorem wn_Laws : Cond.instantiable "BeardHall$Laws" 2 ∈ lwg := lwg_of ka_2_32.1 rfl
theorem wn_Keeping : Cond.instantiable "BeardHall$Keeping" 3 ∈ lwg := lwg_of ka_2_45.1 rfl
theorem wn_Game : Cond.instantiable "BeardHall$Game" 5 ∈ lwg := lwg_of ka_2_61.1 rfl
theorem wn_Season : Cond.instantiable "BeardHall$Season" 4 ∈ lwg := lwg_of ka_2_83.1 rfl
theorem wn_java_lang_IllegalArgumentException : Cond.instantiable "java/lang/IllegalArgumentException" 6 ∈ lwg := lwg_of ka_3_130.1 rfl
theorem wn_java_lang_Throwable : Cond.instantiable "java/lang/Throwable" 6 ∈ lwg := lwg_of ka_3_167.1 rfl
theorem wn_java_util_NoSuchElementException : Cond.instantiable "java/util/NoSuchElementException" 6 ∈ lwg := lwg_of ka_4_173.1 rfl
theorem wn_Model : Cond.instantiable "BeardHallModel" 43 ∈ lwg := lwg_of ka_6_146.1 rfl
theorem wa_cls_byte : Cond.arrayClass .byte ∈ lwg := lwg_of ka_1_67.1 rfl
theorem wa_cls_int : Cond.arrayClass .int ∈ lwg := lwg_of ka_1_68.1 rfl
theorem wa_cls_long : Cond.arrayClass .long ∈ lwg := lwg_of ka_9_46.1 rfl
theorem fl_Hall_9 : Cond.fieldLink "BeardHall" 9 "BeardHall" "tape" "[B" ∈ lwg := lwg_of ka_2_123.1 rfl
theorem fl_Hall_13 : Cond.fieldLink "BeardHall" 13 "BeardHall" "faultPlace" "I" ∈ lwg := lwg_of ka_2_125.1 rfl
theorem fl_Hall_17 : Cond.fieldLink "BeardHall" 17 "BeardHall" "status" "[I" ∈ lwg := lwg_of ka_2_126.1 rfl
theorem fl_Hall_26 : Cond.fieldLink "BeardHall" 26 "BeardHall" "reader" "LBeardHall$Reader;" ∈ lwg := lwg_of ka_2_127.1 rfl
theorem fl_Hall_33 : Cond.fieldLink "BeardHall" 33 "BeardHall" "roll" "LBeardHall$Roll;" ∈ lwg := lwg_of ka_2_128.1 rfl
theorem fl_Hall_42 : Cond.fieldLink "BeardHall" 42 "BeardHall" "hair" "LBeardHall$Hair;" ∈ lwg := lwg_of ka_2_129.1 rfl
theorem fl_Hall_49 : Cond.fieldLink "BeardHall" 49 "BeardHall" "acts" "LBeardHall$Acts;" ∈ lwg := lwg_of ka_2_130.1 rfl
theorem fl_Hall_56 : Cond.fieldLink "BeardHall" 56 "BeardHall" "seen" "LBeardHall$Seen;" ∈ lwg := lwg_of ka_2_131.1 rfl
theorem fl_Hall_63 : Cond.fieldLink "BeardHall" 63 "BeardHall" "kept" "LBeardHall$Image;" ∈ lwg := lwg_of ka_2_132.1 rfl
theorem fl_Hall_72 : Cond.fieldLink "BeardHall" 72 "BeardHall" "laws" "LBeardHall$Laws;" ∈ lwg := lwg_of ka_2_133.1 rfl
theorem fl_Hall_79 : Cond.fieldLink "BeardHall" 79 "BeardHall" "keeping" "LBeardHall$Keeping;" ∈ lwg := lwg_of ka_2_134.1 rfl
theorem fl_Hall_86 : Cond.fieldLink "BeardHall" 86 "BeardHall" "barberGame" "LBeardHall$Game;" ∈ lwg := lwg_of ka_2_135.1 rfl
theorem fl_Hall_93 : Cond.fieldLink "BeardHall" 93 "BeardHall" "weather" "LBeardHall$Season;" ∈ lwg := lwg_of ka_2_136.1 rfl
theorem fl_Hall_103 : Cond.fieldLink "BeardHall" 103 "BeardHall" "tapeLength" "I" ∈ lwg := lwg_of ka_2_124.1 rfl
theorem fl_Hall_120 : Cond.fieldLink "BeardHall" 120 "BeardHall$Reader" "fault" "I" ∈ lwg := lwg_of ka_1_174.1 rfl
theorem fl_Hall_123 : Cond.fieldLink "BeardHall" 123 "BeardHall$Reader" "place" "I" ∈ lwg := lwg_of ka_1_176.1 rfl
theorem fl_Hall_126 : Cond.fieldLink "BeardHall" 126 "BeardHall$Reader" "roll" "LBeardHall$Roll;" ∈ lwg := lwg_of ka_1_163.1 rfl
theorem fl_Hall_130 : Cond.fieldLink "BeardHall" 130 "BeardHall$Reader" "hair" "LBeardHall$Hair;" ∈ lwg := lwg_of ka_1_165.1 rfl
theorem fl_Hall_133 : Cond.fieldLink "BeardHall" 133 "BeardHall$Acts" "many" "I" ∈ lwg := lwg_of ka_1_212.1 rfl
theorem fl_Hall_136 : Cond.fieldLink "BeardHall" 136 "BeardHall$Seen" "many" "I" ∈ lwg := lwg_of ka_1_227.1 rfl
theorem fl_Hall_137 : Cond.fieldLink "BeardHall" 137 "BeardHall$Image" "there" "Z" ∈ lwg := lwg_of ka_2_7.1 rfl
theorem fl_Hall_141 : Cond.fieldLink "BeardHall" 141 "BeardHall$Roll" "monks" "I" ∈ lwg := lwg_of ka_1_74.1 rfl
theorem fl_Hall_144 : Cond.fieldLink "BeardHall" 144 "BeardHall$Hair" "entries" "I" ∈ lwg := lwg_of ka_1_143.1 rfl
theorem fl_Hall_147 : Cond.fieldLink "BeardHall" 147 "BeardHall$Roll" "knee" "I" ∈ lwg := lwg_of ka_1_78.1 rfl
theorem fl_Hall_150 : Cond.fieldLink "BeardHall" 150 "BeardHall$Roll" "grey" "I" ∈ lwg := lwg_of ka_1_81.1 rfl
theorem fl_Hall_153 : Cond.fieldLink "BeardHall" 153 "BeardHall$Roll" "daily" "I" ∈ lwg := lwg_of ka_1_85.1 rfl
theorem fl_Hall_156 : Cond.fieldLink "BeardHall" 156 "BeardHall$Hair" "year" "I" ∈ lwg := lwg_of ka_1_139.1 rfl
theorem fl_Hall_183 : Cond.fieldLink "BeardHall" 183 "BeardHall$Roll" "kinds" "[I" ∈ lwg := lwg_of ka_1_91.1 rfl
theorem fl_Hall_189 : Cond.fieldLink "BeardHall" 189 "BeardHall$Hair" "length" "[I" ∈ lwg := lwg_of ka_1_134.1 rfl
theorem fl_Hall_225 : Cond.fieldLink "BeardHall" 225 "BeardHall$Roll" "rule" "LBeardHall$Rule;" ∈ lwg := lwg_of ka_1_101.1 rfl
theorem fl_Hall_242 : Cond.fieldLink "BeardHall" 242 "BeardHall$Rule" "values" "[I" ∈ lwg := lwg_of ka_1_55.1 rfl
theorem fl_Hall_295 : Cond.fieldLink "BeardHall" 295 "BeardHall$Hair" "died" "[I" ∈ lwg := lwg_of ka_1_137.1 rfl
theorem fl_Hall_395 : Cond.fieldLink "BeardHall" 395 "BeardHall$Season" "hair" "LBeardHall$Hair;" ∈ lwg := lwg_of ka_2_93.1 rfl
theorem fl_Hall_396 : Cond.fieldLink "BeardHall" 396 "BeardHall$Season" "laws" "LBeardHall$Laws;" ∈ lwg := lwg_of ka_2_95.1 rfl
theorem fl_Hall_397 : Cond.fieldLink "BeardHall" 397 "BeardHall$Season" "yearsOfLoss" "I" ∈ lwg := lwg_of ka_2_98.1 rfl
theorem fl_Hall_400 : Cond.fieldLink "BeardHall" 400 "BeardHall$Image" "hair" "LBeardHall$Hair;" ∈ lwg := lwg_of ka_2_9.1 rfl
theorem fl_Hall_401 : Cond.fieldLink "BeardHall" 401 "BeardHall$Roll" "cells" "[I" ∈ lwg := lwg_of ka_1_99.1 rfl
theorem fl_Hall_404 : Cond.fieldLink "BeardHall" 404 "BeardHall$Image" "cells" "[I" ∈ lwg := lwg_of ka_2_11.1 rfl
theorem fl_Hall_411 : Cond.fieldLink "BeardHall" 411 "BeardHall$Image" "acts" "LBeardHall$Acts;" ∈ lwg := lwg_of ka_2_13.1 rfl
theorem fl_Hall_415 : Cond.fieldLink "BeardHall" 415 "BeardHall$Image" "seen" "LBeardHall$Seen;" ∈ lwg := lwg_of ka_2_15.1 rfl
theorem fl_Hall_419 : Cond.fieldLink "BeardHall" 419 "BeardHall$Image" "status" "[I" ∈ lwg := lwg_of ka_2_17.1 rfl
theorem fl_Acts_11 : Cond.fieldLink "BeardHall$Acts" 11 "BeardHall$Acts" "rows" "[I" ∈ lwg := lwg_of ka_1_210.1 rfl
theorem fl_Acts_17 : Cond.fieldLink "BeardHall$Acts" 17 "BeardHall$Acts" "many" "I" ∈ lwg := lwg_of ka_1_211.1 rfl
theorem fl_Game_9 : Cond.fieldLink "BeardHall$Game" 9 "BeardHall$Game" "shorn" "[I" ∈ lwg := lwg_of ka_2_68.1 rfl
theorem fl_Game_15 : Cond.fieldLink "BeardHall$Game" 15 "BeardHall$Game" "lawsGained" "[I" ∈ lwg := lwg_of ka_2_69.1 rfl
theorem fl_Game_18 : Cond.fieldLink "BeardHall$Game" 18 "BeardHall$Game" "debtsGained" "[I" ∈ lwg := lwg_of ka_2_70.1 rfl
theorem fl_Game_21 : Cond.fieldLink "BeardHall$Game" 21 "BeardHall$Game" "hair" "LBeardHall$Hair;" ∈ lwg := lwg_of ka_2_66.1 rfl
theorem fl_Game_25 : Cond.fieldLink "BeardHall$Game" 25 "BeardHall$Hair" "roll" "LBeardHall$Roll;" ∈ lwg := lwg_of ka_1_129.1 rfl
theorem fl_Game_31 : Cond.fieldLink "BeardHall$Game" 31 "BeardHall$Game" "roll" "LBeardHall$Roll;" ∈ lwg := lwg_of ka_2_67.1 rfl
theorem fl_Game_32 : Cond.fieldLink "BeardHall$Game" 32 "BeardHall$Roll" "monks" "I" ∈ lwg := lwg_of ka_1_72.1 rfl
theorem fl_Game_52 : Cond.fieldLink "BeardHall$Game" 52 "BeardHall$Roll" "kinds" "[I" ∈ lwg := lwg_of ka_1_89.1 rfl
theorem fl_Hair_9 : Cond.fieldLink "BeardHall$Hair" 9 "BeardHall$Hair" "length" "[I" ∈ lwg := lwg_of ka_1_131.1 rfl
theorem fl_Hair_15 : Cond.fieldLink "BeardHall$Hair" 15 "BeardHall$Hair" "died" "[I" ∈ lwg := lwg_of ka_1_136.1 rfl
theorem fl_Hair_18 : Cond.fieldLink "BeardHall$Hair" 18 "BeardHall$Hair" "roll" "LBeardHall$Roll;" ∈ lwg := lwg_of ka_1_128.1 rfl
theorem fl_Hair_22 : Cond.fieldLink "BeardHall$Hair" 22 "BeardHall$Hair" "year" "I" ∈ lwg := lwg_of ka_1_138.1 rfl
theorem fl_Hair_26 : Cond.fieldLink "BeardHall$Hair" 26 "BeardHall$Hair" "entries" "I" ∈ lwg := lwg_of ka_1_140.1 rfl
theorem fl_Hair_29 : Cond.fieldLink "BeardHall$Hair" 29 "BeardHall$Hair" "gone" "I" ∈ lwg := lwg_of ka_1_145.1 rfl
theorem fl_Hair_32 : Cond.fieldLink "BeardHall$Hair" 32 "BeardHall$Hair" "knotted" "I" ∈ lwg := lwg_of ka_1_146.1 rfl
theorem fl_Hair_47 : Cond.fieldLink "BeardHall$Hair" 47 "BeardHall$Roll" "monks" "I" ∈ lwg := lwg_of ka_1_75.1 rfl
theorem fl_Hair_56 : Cond.fieldLink "BeardHall$Hair" 56 "BeardHall$Roll" "ages" "[I" ∈ lwg := lwg_of ka_1_95.1 rfl
theorem fl_Hair_66 : Cond.fieldLink "BeardHall$Hair" 66 "BeardHall$Roll" "grey" "I" ∈ lwg := lwg_of ka_1_82.1 rfl
theorem fl_Hair_95 : Cond.fieldLink "BeardHall$Hair" 95 "BeardHall$Roll" "kinds" "[I" ∈ lwg := lwg_of ka_1_93.1 rfl
theorem fl_Hair_128 : Cond.fieldLink "BeardHall$Hair" 128 "BeardHall$Roll" "cells" "[I" ∈ lwg := lwg_of ka_1_98.1 rfl
theorem fl_Image_9 : Cond.fieldLink "BeardHall$Image" 9 "BeardHall$Image" "cells" "[I" ∈ lwg := lwg_of ka_2_10.1 rfl
theorem fl_Image_18 : Cond.fieldLink "BeardHall$Image" 18 "BeardHall$Image" "acts" "LBeardHall$Acts;" ∈ lwg := lwg_of ka_2_12.1 rfl
theorem fl_Image_25 : Cond.fieldLink "BeardHall$Image" 25 "BeardHall$Image" "seen" "LBeardHall$Seen;" ∈ lwg := lwg_of ka_2_14.1 rfl
theorem fl_Image_29 : Cond.fieldLink "BeardHall$Image" 29 "BeardHall$Image" "status" "[I" ∈ lwg := lwg_of ka_2_16.1 rfl
theorem fl_Image_37 : Cond.fieldLink "BeardHall$Image" 37 "BeardHall$Image" "hair" "LBeardHall$Hair;" ∈ lwg := lwg_of ka_2_8.1 rfl
theorem fl_Keeping_9 : Cond.fieldLink "BeardHall$Keeping" 9 "BeardHall$Keeping" "ofMonk" "[I" ∈ lwg := lwg_of ka_2_52.1 rfl
theorem fl_Keeping_15 : Cond.fieldLink "BeardHall$Keeping" 15 "BeardHall$Keeping" "hair" "LBeardHall$Hair;" ∈ lwg := lwg_of ka_2_50.1 rfl
theorem fl_Keeping_19 : Cond.fieldLink "BeardHall$Keeping" 19 "BeardHall$Hair" "roll" "LBeardHall$Roll;" ∈ lwg := lwg_of ka_1_127.1 rfl
theorem fl_Keeping_25 : Cond.fieldLink "BeardHall$Keeping" 25 "BeardHall$Keeping" "roll" "LBeardHall$Roll;" ∈ lwg := lwg_of ka_2_51.1 rfl
theorem fl_Keeping_26 : Cond.fieldLink "BeardHall$Keeping" 26 "BeardHall$Roll" "monks" "I" ∈ lwg := lwg_of ka_1_70.1 rfl
theorem fl_Keeping_52 : Cond.fieldLink "BeardHall$Keeping" 52 "BeardHall$Hair" "entries" "I" ∈ lwg := lwg_of ka_1_142.1 rfl
theorem fl_Keeping_73 : Cond.fieldLink "BeardHall$Keeping" 73 "BeardHall$Roll" "kinds" "[I" ∈ lwg := lwg_of ka_1_90.1 rfl
theorem fl_Keeping_76 : Cond.fieldLink "BeardHall$Keeping" 76 "BeardHall$Hair" "length" "[I" ∈ lwg := lwg_of ka_1_133.1 rfl
theorem fl_Keeping_95 : Cond.fieldLink "BeardHall$Keeping" 95 "BeardHall$Roll" "daily" "I" ∈ lwg := lwg_of ka_1_86.1 rfl
theorem fl_Laws_9 : Cond.fieldLink "BeardHall$Laws" 9 "BeardHall$Laws" "hair" "LBeardHall$Hair;" ∈ lwg := lwg_of ka_2_37.1 rfl
theorem fl_Laws_15 : Cond.fieldLink "BeardHall$Laws" 15 "BeardHall$Hair" "roll" "LBeardHall$Roll;" ∈ lwg := lwg_of ka_1_126.1 rfl
theorem fl_Laws_21 : Cond.fieldLink "BeardHall$Laws" 21 "BeardHall$Laws" "roll" "LBeardHall$Roll;" ∈ lwg := lwg_of ka_2_38.1 rfl
theorem fl_Laws_32 : Cond.fieldLink "BeardHall$Laws" 32 "BeardHall$Hair" "entries" "I" ∈ lwg := lwg_of ka_1_141.1 rfl
theorem fl_Laws_40 : Cond.fieldLink "BeardHall$Laws" 40 "BeardHall$Roll" "monks" "I" ∈ lwg := lwg_of ka_1_73.1 rfl
theorem fl_Reader_12 : Cond.fieldLink "BeardHall$Reader" 12 "BeardHall$Reader" "roll" "LBeardHall$Roll;" ∈ lwg := lwg_of ka_1_162.1 rfl
theorem fl_Reader_23 : Cond.fieldLink "BeardHall$Reader" 23 "BeardHall$Reader" "hair" "LBeardHall$Hair;" ∈ lwg := lwg_of ka_1_164.1 rfl
theorem fl_Reader_27 : Cond.fieldLink "BeardHall$Reader" 27 "BeardHall$Reader" "text" "[B" ∈ lwg := lwg_of ka_1_166.1 rfl
theorem fl_Reader_37 : Cond.fieldLink "BeardHall$Reader" 37 "BeardHall$Reader" "length" "I" ∈ lwg := lwg_of ka_1_167.1 rfl
theorem fl_Reader_41 : Cond.fieldLink "BeardHall$Reader" 41 "BeardHall$Reader" "end" "I" ∈ lwg := lwg_of ka_1_169.1 rfl
theorem fl_Reader_44 : Cond.fieldLink "BeardHall$Reader" 44 "BeardHall$Reader" "told" "I" ∈ lwg := lwg_of ka_1_172.1 rfl
theorem fl_Reader_47 : Cond.fieldLink "BeardHall$Reader" 47 "BeardHall$Reader" "fault" "I" ∈ lwg := lwg_of ka_1_173.1 rfl
theorem fl_Reader_50 : Cond.fieldLink "BeardHall$Reader" 50 "BeardHall$Reader" "place" "I" ∈ lwg := lwg_of ka_1_175.1 rfl
theorem fl_Reader_62 : Cond.fieldLink "BeardHall$Reader" 62 "BeardHall$Reader" "token" "I" ∈ lwg := lwg_of ka_1_170.1 rfl
theorem fl_Reader_84 : Cond.fieldLink "BeardHall$Reader" 84 "BeardHall$Reader" "start" "I" ∈ lwg := lwg_of ka_1_168.1 rfl
theorem fl_Reader_117 : Cond.fieldLink "BeardHall$Reader" 117 "BeardHall$Reader" "number" "I" ∈ lwg := lwg_of ka_1_171.1 rfl
theorem fl_Reader_126 : Cond.fieldLink "BeardHall$Reader" 126 "BeardHall$Roll" "monks" "I" ∈ lwg := lwg_of ka_1_76.1 rfl
theorem fl_Reader_136 : Cond.fieldLink "BeardHall$Reader" 136 "BeardHall$Roll" "kinds" "[I" ∈ lwg := lwg_of ka_1_92.1 rfl
theorem fl_Reader_140 : Cond.fieldLink "BeardHall$Reader" 140 "BeardHall$Roll" "ages" "[I" ∈ lwg := lwg_of ka_1_96.1 rfl
theorem fl_Reader_143 : Cond.fieldLink "BeardHall$Reader" 143 "BeardHall$Hair" "length" "[I" ∈ lwg := lwg_of ka_1_135.1 rfl
theorem fl_Reader_167 : Cond.fieldLink "BeardHall$Reader" 167 "BeardHall$Hair" "entries" "I" ∈ lwg := lwg_of ka_1_144.1 rfl
theorem fl_Reader_180 : Cond.fieldLink "BeardHall$Reader" 180 "BeardHall$Roll" "knee" "I" ∈ lwg := lwg_of ka_1_79.1 rfl
theorem fl_Reader_183 : Cond.fieldLink "BeardHall$Reader" 183 "BeardHall$Roll" "grey" "I" ∈ lwg := lwg_of ka_1_83.1 rfl
theorem fl_Reader_186 : Cond.fieldLink "BeardHall$Reader" 186 "BeardHall$Roll" "daily" "I" ∈ lwg := lwg_of ka_1_87.1 rfl
theorem fl_Reader_198 : Cond.fieldLink "BeardHall$Reader" 198 "BeardHall$Roll" "rule" "LBeardHall$Rule;" ∈ lwg := lwg_of ka_1_102.1 rfl
theorem fl_Roll_9 : Cond.fieldLink "BeardHall$Roll" 9 "BeardHall$Roll" "kinds" "[I" ∈ lwg := lwg_of ka_1_88.1 rfl
theorem fl_Roll_15 : Cond.fieldLink "BeardHall$Roll" 15 "BeardHall$Roll" "ages" "[I" ∈ lwg := lwg_of ka_1_94.1 rfl
theorem fl_Roll_18 : Cond.fieldLink "BeardHall$Roll" 18 "BeardHall$Roll" "cells" "[I" ∈ lwg := lwg_of ka_1_97.1 rfl
theorem fl_Roll_24 : Cond.fieldLink "BeardHall$Roll" 24 "BeardHall$Roll" "rule" "LBeardHall$Rule;" ∈ lwg := lwg_of ka_1_100.1 rfl
theorem fl_Roll_28 : Cond.fieldLink "BeardHall$Roll" 28 "BeardHall$Roll" "monks" "I" ∈ lwg := lwg_of ka_1_69.1 rfl
theorem fl_Roll_32 : Cond.fieldLink "BeardHall$Roll" 32 "BeardHall$Roll" "knee" "I" ∈ lwg := lwg_of ka_1_77.1 rfl
theorem fl_Roll_35 : Cond.fieldLink "BeardHall$Roll" 35 "BeardHall$Roll" "grey" "I" ∈ lwg := lwg_of ka_1_80.1 rfl
theorem fl_Roll_38 : Cond.fieldLink "BeardHall$Roll" 38 "BeardHall$Roll" "daily" "I" ∈ lwg := lwg_of ka_1_84.1 rfl
theorem fl_Rule_9 : Cond.fieldLink "BeardHall$Rule" 9 "BeardHall$Rule" "codes" "[I" ∈ lwg := lwg_of ka_1_53.1 rfl
theorem fl_Rule_15 : Cond.fieldLink "BeardHall$Rule" 15 "BeardHall$Rule" "values" "[I" ∈ lwg := lwg_of ka_1_54.1 rfl
theorem fl_Rule_18 : Cond.fieldLink "BeardHall$Rule" 18 "BeardHall$Rule" "waiting" "[I" ∈ lwg := lwg_of ka_1_56.1 rfl
theorem fl_Rule_21 : Cond.fieldLink "BeardHall$Rule" 21 "BeardHall$Rule" "many" "I" ∈ lwg := lwg_of ka_1_57.1 rfl
theorem fl_Season_12 : Cond.fieldLink "BeardHall$Season" 12 "BeardHall$Season" "hair" "LBeardHall$Hair;" ∈ lwg := lwg_of ka_2_92.1 rfl
theorem fl_Season_23 : Cond.fieldLink "BeardHall$Season" 23 "BeardHall$Season" "laws" "LBeardHall$Laws;" ∈ lwg := lwg_of ka_2_94.1 rfl
theorem fl_Season_30 : Cond.fieldLink "BeardHall$Season" 30 "BeardHall$Season" "seed" "I" ∈ lwg := lwg_of ka_2_96.1 rfl
theorem fl_Season_34 : Cond.fieldLink "BeardHall$Season" 34 "BeardHall$Season" "yearsOfLoss" "I" ∈ lwg := lwg_of ka_2_97.1 rfl
theorem fl_Season_41 : Cond.fieldLink "BeardHall$Season" 41 "BeardHall$Hair" "roll" "LBeardHall$Roll;" ∈ lwg := lwg_of ka_1_130.1 rfl
theorem fl_Season_45 : Cond.fieldLink "BeardHall$Season" 45 "BeardHall$Roll" "monks" "I" ∈ lwg := lwg_of ka_1_71.1 rfl
theorem fl_Season_68 : Cond.fieldLink "BeardHall$Season" 68 "BeardHall$Hair" "length" "[I" ∈ lwg := lwg_of ka_1_132.1 rfl
theorem fl_Seen_9 : Cond.fieldLink "BeardHall$Seen" 9 "BeardHall$Seen" "entries" "[I" ∈ lwg := lwg_of ka_1_224.1 rfl
theorem fl_Seen_15 : Cond.fieldLink "BeardHall$Seen" 15 "BeardHall$Seen" "there" "[I" ∈ lwg := lwg_of ka_1_225.1 rfl
theorem fl_Seen_18 : Cond.fieldLink "BeardHall$Seen" 18 "BeardHall$Seen" "many" "I" ∈ lwg := lwg_of ka_1_226.1 rfl
theorem fl_Model_19 : Cond.fieldLink "BeardHallModel" 19 "BeardHallModel" "kinds" "[Ljava/lang/String;" ∈ lwg := lwg_of ka_6_168.1 rfl
theorem fl_Model_31 : Cond.fieldLink "BeardHallModel" 31 "BeardHallModel" "sorts" "[Ljava/lang/String;" ∈ lwg := lwg_of ka_6_169.1 rfl
theorem fl_Model_48 : Cond.fieldLink "BeardHallModel" 48 "BeardHallModel" "values" "[Ljava/lang/String;" ∈ lwg := lwg_of ka_6_170.1 rfl
theorem fl_Model_51 : Cond.fieldLink "BeardHallModel" 51 "BeardHallModel" "told" "[I" ∈ lwg := lwg_of ka_6_172.1 rfl
theorem fl_Model_55 : Cond.fieldLink "BeardHallModel" 55 "BeardHallModel" "kind" "[I" ∈ lwg := lwg_of ka_6_173.1 rfl
theorem fl_Model_57 : Cond.fieldLink "BeardHallModel" 57 "BeardHallModel" "age" "[I" ∈ lwg := lwg_of ka_6_174.1 rfl
theorem fl_Model_59 : Cond.fieldLink "BeardHallModel" 59 "BeardHallModel" "lengths" "[I" ∈ lwg := lwg_of ka_6_175.1 rfl
theorem fl_Model_62 : Cond.fieldLink "BeardHallModel" 62 "BeardHallModel" "entry" "[I" ∈ lwg := lwg_of ka_6_176.1 rfl
theorem fl_Model_65 : Cond.fieldLink "BeardHallModel" 65 "BeardHallModel" "signs" "[I" ∈ lwg := lwg_of ka_6_177.1 rfl
theorem fl_Model_68 : Cond.fieldLink "BeardHallModel" 68 "BeardHallModel" "status" "[I" ∈ lwg := lwg_of ka_6_178.1 rfl
theorem fl_Model_71 : Cond.fieldLink "BeardHallModel" 71 "BeardHallModel" "tape" "[I" ∈ lwg := lwg_of ka_6_179.1 rfl
theorem fl_Model_74 : Cond.fieldLink "BeardHallModel" 74 "BeardHallModel" "faultPlace" "I" ∈ lwg := lwg_of ka_6_189.1 rfl
theorem fl_Model_78 : Cond.fieldLink "BeardHallModel" 78 "BeardHallModel" "died" "[I" ∈ lwg := lwg_of ka_6_190.1 rfl
theorem fl_Model_81 : Cond.fieldLink "BeardHallModel" 81 "BeardHallModel" "past" "[I" ∈ lwg := lwg_of ka_6_191.1 rfl
theorem fl_Model_84 : Cond.fieldLink "BeardHallModel" 84 "BeardHallModel" "asked" "[I" ∈ lwg := lwg_of ka_6_197.1 rfl
theorem fl_Model_87 : Cond.fieldLink "BeardHallModel" 87 "BeardHallModel" "stack" "[I" ∈ lwg := lwg_of ka_6_198.1 rfl
theorem fl_Model_90 : Cond.fieldLink "BeardHallModel" 90 "BeardHallModel" "rowThen" "[I" ∈ lwg := lwg_of ka_6_199.1 rfl
theorem fl_Model_93 : Cond.fieldLink "BeardHallModel" 93 "BeardHallModel" "seenEntry" "[I" ∈ lwg := lwg_of ka_6_200.1 rfl
theorem fl_Model_96 : Cond.fieldLink "BeardHallModel" 96 "BeardHallModel" "seenThere" "[I" ∈ lwg := lwg_of ka_6_201.1 rfl
theorem fl_Model_99 : Cond.fieldLink "BeardHallModel" 99 "BeardHallModel" "imageRow" "[I" ∈ lwg := lwg_of ka_6_206.1 rfl
theorem fl_Model_102 : Cond.fieldLink "BeardHallModel" 102 "BeardHallModel" "pastThen" "[I" ∈ lwg := lwg_of ka_6_207.1 rfl
theorem fl_Model_105 : Cond.fieldLink "BeardHallModel" 105 "BeardHallModel" "seenEntryThen" "[I" ∈ lwg := lwg_of ka_6_208.1 rfl
theorem fl_Model_108 : Cond.fieldLink "BeardHallModel" 108 "BeardHallModel" "seenThereThen" "[I" ∈ lwg := lwg_of ka_6_209.1 rfl
theorem fl_Model_111 : Cond.fieldLink "BeardHallModel" 111 "BeardHallModel" "statusThen" "[I" ∈ lwg := lwg_of ka_6_210.1 rfl
theorem fl_Model_114 : Cond.fieldLink "BeardHallModel" 114 "BeardHallModel" "code" "I" ∈ lwg := lwg_of ka_6_171.1 rfl
theorem fl_Model_121 : Cond.fieldLink "BeardHallModel" 121 "BeardHallModel" "many" "I" ∈ lwg := lwg_of ka_6_194.1 rfl
theorem fl_Model_126 : Cond.fieldLink "BeardHallModel" 126 "BeardHallModel" "taped" "I" ∈ lwg := lwg_of ka_6_180.1 rfl
theorem fl_Model_129 : Cond.fieldLink "BeardHallModel" 129 "BeardHallModel" "size" "I" ∈ lwg := lwg_of ka_6_182.1 rfl
theorem fl_Model_132 : Cond.fieldLink "BeardHallModel" 132 "BeardHallModel" "at" "I" ∈ lwg := lwg_of ka_6_181.1 rfl
theorem fl_Model_139 : Cond.fieldLink "BeardHallModel" 139 "BeardHallModel" "begins" "I" ∈ lwg := lwg_of ka_6_185.1 rfl
theorem fl_Model_142 : Cond.fieldLink "BeardHallModel" 142 "BeardHallModel" "token" "I" ∈ lwg := lwg_of ka_6_183.1 rfl
theorem fl_Model_152 : Cond.fieldLink "BeardHallModel" 152 "BeardHallModel" "number" "I" ∈ lwg := lwg_of ka_6_184.1 rfl
theorem fl_Model_165 : Cond.fieldLink "BeardHallModel" 165 "BeardHallModel" "stops" "I" ∈ lwg := lwg_of ka_6_186.1 rfl
theorem fl_Model_168 : Cond.fieldLink "BeardHallModel" 168 "BeardHallModel" "bad" "I" ∈ lwg := lwg_of ka_6_187.1 rfl
theorem fl_Model_171 : Cond.fieldLink "BeardHallModel" 171 "BeardHallModel" "badPlace" "I" ∈ lwg := lwg_of ka_6_188.1 rfl
theorem fl_Model_286 : Cond.fieldLink "BeardHallModel" 286 "BeardHallModel" "year" "I" ∈ lwg := lwg_of ka_6_192.1 rfl
theorem fl_Model_289 : Cond.fieldLink "BeardHallModel" 289 "BeardHallModel" "dead" "I" ∈ lwg := lwg_of ka_6_193.1 rfl
theorem fl_Model_295 : Cond.fieldLink "BeardHallModel" 295 "BeardHallModel" "acts" "I" ∈ lwg := lwg_of ka_6_195.1 rfl
theorem fl_Model_298 : Cond.fieldLink "BeardHallModel" 298 "BeardHallModel" "seen" "I" ∈ lwg := lwg_of ka_6_196.1 rfl
theorem fl_Model_301 : Cond.fieldLink "BeardHallModel" 301 "BeardHallModel" "hasImage" "Z" ∈ lwg := lwg_of ka_6_203.1 rfl
theorem fl_Model_438 : Cond.fieldLink "BeardHallModel" 438 "BeardHallModel" "seedNow" "I" ∈ lwg := lwg_of ka_6_202.1 rfl
theorem fl_Model_449 : Cond.fieldLink "BeardHallModel" 449 "BeardHallModel" "actsThen" "I" ∈ lwg := lwg_of ka_6_204.1 rfl
theorem fl_Model_452 : Cond.fieldLink "BeardHallModel" 452 "BeardHallModel" "seenThen" "I" ∈ lwg := lwg_of ka_6_205.1 rfl
theorem fl_JString_9 : Cond.fieldLink "java/lang/String" 9 "java/lang/String" "value" "[B" ∈ lwg := lwg_of ka_9_65.1 rfl
theorem fl_JString_15 : Cond.fieldLink "java/lang/String" 15 "java/lang/String" "coder" "B" ∈ lwg := lwg_of ka_9_66.1 rfl
theorem fl_JString_38 : Cond.fieldLink "java/lang/String" 38 "java/lang/String" "COMPACT_STRINGS" "Z" ∈ lwg := lwg_of ka_3_225.1 rfl
theorem fl_JString_1053 : Cond.fieldLink "java/lang/String" 1053 "jdk/internal/util/Preconditions" "SIOOBE_FORMATTER" "Ljava/util/function/BiFunction;" ∈ lwg := lwg_of ka_4_1.1 rfl
theorem fl_JUtf_44 : Cond.fieldLink "java/lang/StringUTF16" 44 "java/lang/StringUTF16" "$assertionsDisabled" "Z" ∈ lwg := lwg_of ka_4_19.1 rfl
theorem fl_JUtf_59 : Cond.fieldLink "java/lang/StringUTF16" 59 "java/lang/StringUTF16" "HI_BYTE_SHIFT" "I" ∈ lwg := lwg_of ka_4_21.1 rfl
theorem fl_JUtf_63 : Cond.fieldLink "java/lang/StringUTF16" 63 "java/lang/StringUTF16" "LO_BYTE_SHIFT" "I" ∈ lwg := lwg_of ka_4_23.1 rfl
theorem ml_Hall_1 : Cond.methodLink "BeardHall" 1 ⟨"java/lang/Object", "<init>", "()V"⟩ ∈ lwg := lwg_of ka_1_32.1 rfl
theorem ml_Hall_23 : Cond.methodLink "BeardHall" 23 ⟨"BeardHall$Reader", "<init>", "([B)V"⟩ ∈ lwg := lwg_of ka_1_37.1 rfl
theorem ml_Hall_39 : Cond.methodLink "BeardHall" 39 ⟨"BeardHall$Hair", "<init>", "(LBeardHall$Roll;)V"⟩ ∈ lwg := lwg_of ka_1_203.1 rfl
theorem ml_Hall_62 : Cond.methodLink "BeardHall" 62 ⟨"BeardHall$Image", "<init>", "(LBeardHall$Roll;)V"⟩ ∈ lwg := lwg_of ka_1_237.1 rfl
theorem ml_Hall_69 : Cond.methodLink "BeardHall" 69 ⟨"BeardHall$Laws", "<init>", "(LBeardHall$Hair;)V"⟩ ∈ lwg := lwg_of ka_2_33.1 rfl
theorem ml_Hall_78 : Cond.methodLink "BeardHall" 78 ⟨"BeardHall$Keeping", "<init>", "(LBeardHall$Hair;)V"⟩ ∈ lwg := lwg_of ka_2_46.1 rfl
theorem ml_Hall_85 : Cond.methodLink "BeardHall" 85 ⟨"BeardHall$Game", "<init>", "(LBeardHall$Hair;)V"⟩ ∈ lwg := lwg_of ka_2_62.1 rfl
theorem ml_Hall_92 : Cond.methodLink "BeardHall" 92 ⟨"BeardHall$Season", "<init>", "(LBeardHall$Roll;)V"⟩ ∈ lwg := lwg_of ka_2_84.1 rfl
theorem ml_Hall_97 : Cond.methodLink "BeardHall" 97 ⟨"BeardHall$Roll", "clear", "()V"⟩ ∈ lwg := lwg_of ka_2_108.1 rfl
theorem ml_Hall_100 : Cond.methodLink "BeardHall" 100 ⟨"BeardHall$Hair", "begin", "()V"⟩ ∈ lwg := lwg_of ka_2_116.1 rfl
theorem ml_Hall_106 : Cond.methodLink "BeardHall" 106 ⟨"BeardHall", "putBytes", "(I)V"⟩ ∈ lwg := lwg_of ka_2_170.1 rfl
theorem ml_Hall_114 : Cond.methodLink "BeardHall" 114 ⟨"java/lang/IllegalArgumentException", "<init>", "(Ljava/lang/String;)V"⟩ ∈ lwg := lwg_of ka_3_170.1 rfl
theorem ml_Hall_117 : Cond.methodLink "BeardHall" 117 ⟨"BeardHall$Reader", "read", "(I)V"⟩ ∈ lwg := lwg_of ka_3_195.1 rfl
theorem ml_Hall_127 : Cond.methodLink "BeardHall" 127 ⟨"BeardHall$Roll", "take", "(LBeardHall$Roll;)V"⟩ ∈ lwg := lwg_of ka_4_147.1 rfl
theorem ml_Hall_131 : Cond.methodLink "BeardHall" 131 ⟨"BeardHall$Hair", "take", "(LBeardHall$Hair;)V"⟩ ∈ lwg := lwg_of ka_3_103.1 rfl
theorem ml_Hall_159 : Cond.methodLink "BeardHall" 159 ⟨"BeardHall$Hair", "allThere", "()I"⟩ ∈ lwg := lwg_of ka_4_165.1 rfl
theorem ml_Hall_163 : Cond.methodLink "BeardHall" 163 ⟨"java/lang/Integer", "bitCount", "(I)I"⟩ ∈ lwg := lwg_of ka_4_166.1 rfl
theorem ml_Hall_169 : Cond.methodLink "BeardHall" 169 ⟨"BeardHall$Hair", "recordsThere", "()I"⟩ ∈ lwg := lwg_of ka_4_167.1 rfl
theorem ml_Hall_172 : Cond.methodLink "BeardHall" 172 ⟨"BeardHall$Hair", "deadOnes", "()I"⟩ ∈ lwg := lwg_of ka_4_168.1 rfl
theorem ml_Hall_179 : Cond.methodLink "BeardHall" 179 ⟨"java/util/NoSuchElementException", "<init>", "(Ljava/lang/String;)V"⟩ ∈ lwg := lwg_of ka_4_182.1 rfl
theorem ml_Hall_180 : Cond.methodLink "BeardHall" 180 ⟨"BeardHall", "needMonk", "(I)V"⟩ ∈ lwg := lwg_of ka_4_195.1 rfl
theorem ml_Hall_186 : Cond.methodLink "BeardHall" 186 ⟨"BeardHall$Hair", "ageOf", "(I)I"⟩ ∈ lwg := lwg_of ka_4_200.1 rfl
theorem ml_Hall_192 : Cond.methodLink "BeardHall" 192 ⟨"BeardHall$Roll", "longest", "(I)I"⟩ ∈ lwg := lwg_of ka_4_204.1 rfl
theorem ml_Hall_195 : Cond.methodLink "BeardHall" 195 ⟨"BeardHall$Hair", "isGrey", "(I)Z"⟩ ∈ lwg := lwg_of ka_4_205.1 rfl
theorem ml_Hall_199 : Cond.methodLink "BeardHall" 199 ⟨"BeardHall$Hair", "thereOf", "(I)I"⟩ ∈ lwg := lwg_of ka_4_210.1 rfl
theorem ml_Hall_204 : Cond.methodLink "BeardHall" 204 ⟨"BeardHall", "needEntry", "(I)V"⟩ ∈ lwg := lwg_of ka_4_219.1 rfl
theorem ml_Hall_209 : Cond.methodLink "BeardHall" 209 ⟨"BeardHall$Hair", "isKnotted", "(I)Z"⟩ ∈ lwg := lwg_of ka_4_225.1 rfl
theorem ml_Hall_212 : Cond.methodLink "BeardHall" 212 ⟨"BeardHall$Hair", "isThere", "(I)Z"⟩ ∈ lwg := lwg_of ka_4_229.1 rfl
theorem ml_Hall_215 : Cond.methodLink "BeardHall" 215 ⟨"BeardHall$Hair", "breadths", "(I)I"⟩ ∈ lwg := lwg_of ka_4_233.1 rfl
theorem ml_Hall_218 : Cond.methodLink "BeardHall" 218 ⟨"BeardHall$Roll", "cell", "(II)I"⟩ ∈ lwg := lwg_of ka_4_234.1 rfl
theorem ml_Hall_222 : Cond.methodLink "BeardHall" 222 ⟨"BeardHall$Hair", "monksWith", "(I)I"⟩ ∈ lwg := lwg_of ka_5_2.1 rfl
theorem ml_Hall_229 : Cond.methodLink "BeardHall" 229 ⟨"BeardHall$Rule", "isNone", "()Z"⟩ ∈ lwg := lwg_of ka_5_10.1 rfl
theorem ml_Hall_235 : Cond.methodLink "BeardHall" 235 ⟨"BeardHall", "tellRule", "(III)V"⟩ ∈ lwg := lwg_of ka_5_14.1 rfl
theorem ml_Hall_239 : Cond.methodLink "BeardHall" 239 ⟨"BeardHall$Rule", "holds", "()Z"⟩ ∈ lwg := lwg_of ka_5_18.1 rfl
theorem ml_Hall_245 : Cond.methodLink "BeardHall" 245 ⟨"BeardHall", "refuseAct", "()I"⟩ ∈ lwg := lwg_of ka_2_182.1 rfl
theorem ml_Hall_248 : Cond.methodLink "BeardHall" 248 ⟨"BeardHall$Acts", "keep", "(LBeardHall$Hair;)V"⟩ ∈ lwg := lwg_of ka_2_186.1 rfl
theorem ml_Hall_251 : Cond.methodLink "BeardHall" 251 ⟨"BeardHall$Hair", "pass", "(I)V"⟩ ∈ lwg := lwg_of ka_2_198.1 rfl
theorem ml_Hall_254 : Cond.methodLink "BeardHall" 254 ⟨"BeardHall$Hair", "isFull", "()Z"⟩ ∈ lwg := lwg_of ka_5_35.1 rfl
theorem ml_Hall_257 : Cond.methodLink "BeardHall" 257 ⟨"BeardHall$Hair", "isDead", "(I)Z"⟩ ∈ lwg := lwg_of ka_5_36.1 rfl
theorem ml_Hall_260 : Cond.methodLink "BeardHall" 260 ⟨"BeardHall", "isKind", "(I)Z"⟩ ∈ lwg := lwg_of ka_5_37.1 rfl
theorem ml_Hall_263 : Cond.methodLink "BeardHall" 263 ⟨"BeardHall", "isAbout", "(I)Z"⟩ ∈ lwg := lwg_of ka_5_43.1 rfl
theorem ml_Hall_266 : Cond.methodLink "BeardHall" 266 ⟨"BeardHall", "isWithin", "(II)Z"⟩ ∈ lwg := lwg_of ka_5_40.1 rfl
theorem ml_Hall_270 : Cond.methodLink "BeardHall" 270 ⟨"BeardHall$Hair", "braidIn", "(IIIII)I"⟩ ∈ lwg := lwg_of ka_5_46.1 rfl
theorem ml_Hall_274 : Cond.methodLink "BeardHall" 274 ⟨"BeardHall$Hair", "holds", "(II)Z"⟩ ∈ lwg := lwg_of ka_5_54.1 rfl
theorem ml_Hall_276 : Cond.methodLink "BeardHall" 276 ⟨"BeardHall$Hair", "copyInto", "(III)I"⟩ ∈ lwg := lwg_of ka_5_55.1 rfl
theorem ml_Hall_280 : Cond.methodLink "BeardHall" 280 ⟨"BeardHall", "mayBeHandled", "(I)Z"⟩ ∈ lwg := lwg_of ka_5_63.1 rfl
theorem ml_Hall_283 : Cond.methodLink "BeardHall" 283 ⟨"BeardHall$Hair", "tie", "(I)V"⟩ ∈ lwg := lwg_of ka_5_67.1 rfl
theorem ml_Hall_286 : Cond.methodLink "BeardHall" 286 ⟨"BeardHall$Hair", "lose", "(I)I"⟩ ∈ lwg := lwg_of ka_5_75.1 rfl
theorem ml_Hall_289 : Cond.methodLink "BeardHall" 289 ⟨"BeardHall$Hair", "shaveTo", "(II)I"⟩ ∈ lwg := lwg_of ka_5_83.1 rfl
theorem ml_Hall_292 : Cond.methodLink "BeardHall" 292 ⟨"BeardHall$Hair", "eatable", "(III)I"⟩ ∈ lwg := lwg_of ka_5_94.1 rfl
theorem ml_Hall_298 : Cond.methodLink "BeardHall" 298 ⟨"BeardHall$Acts", "takeBack", "(LBeardHall$Hair;)V"⟩ ∈ lwg := lwg_of ka_3_16.1 rfl
theorem ml_Hall_301 : Cond.methodLink "BeardHall" 301 ⟨"BeardHall", "needAbout", "(I)V"⟩ ∈ lwg := lwg_of ka_5_112.1 rfl
theorem ml_Hall_304 : Cond.methodLink "BeardHall" 304 ⟨"BeardHall$Laws", "standing", "(I)I"⟩ ∈ lwg := lwg_of ka_5_116.1 rfl
theorem ml_Hall_307 : Cond.methodLink "BeardHall" 307 ⟨"BeardHall$Laws", "rivalCouples", "()I"⟩ ∈ lwg := lwg_of ka_3_28.1 rfl
theorem ml_Hall_310 : Cond.methodLink "BeardHall" 310 ⟨"BeardHall$Laws", "balance", "(I)I"⟩ ∈ lwg := lwg_of ka_5_132.1 rfl
theorem ml_Hall_313 : Cond.methodLink "BeardHall" 313 ⟨"BeardHall$Keeping", "fewestWithAll", "()I"⟩ ∈ lwg := lwg_of ka_3_47.1 rfl
theorem ml_Hall_316 : Cond.methodLink "BeardHall" 316 ⟨"BeardHall$Keeping", "heldByOne", "()I"⟩ ∈ lwg := lwg_of ka_3_77.1 rfl
theorem ml_Hall_321 : Cond.methodLink "BeardHall" 321 ⟨"BeardHall$Keeping", "worstToShave", "(I)I"⟩ ∈ lwg := lwg_of ka_5_149.1 rfl
theorem ml_Hall_324 : Cond.methodLink "BeardHall" 324 ⟨"BeardHall$Keeping", "leastLength", "(I)I"⟩ ∈ lwg := lwg_of ka_5_170.1 rfl
theorem ml_Hall_327 : Cond.methodLink "BeardHall" 327 ⟨"BeardHall", "needOneOf", "(II)V"⟩ ∈ lwg := lwg_of ka_5_181.1 rfl
theorem ml_Hall_333 : Cond.methodLink "BeardHall" 333 ⟨"BeardHall$Keeping", "bestForDebtors", "(II)I"⟩ ∈ lwg := lwg_of ka_5_186.1 rfl
theorem ml_Hall_336 : Cond.methodLink "BeardHall" 336 ⟨"BeardHall$Keeping", "debtsEaten", "(III)I"⟩ ∈ lwg := lwg_of ka_5_199.1 rfl
theorem ml_Hall_341 : Cond.methodLink "BeardHall" 341 ⟨"BeardHall$Keeping", "readOn", "(II)I"⟩ ∈ lwg := lwg_of ka_5_208.1 rfl
theorem ml_Hall_346 : Cond.methodLink "BeardHall" 346 ⟨"BeardHall$Laws", "earliest", "(II)I"⟩ ∈ lwg := lwg_of ka_5_226.1 rfl
theorem ml_Hall_349 : Cond.methodLink "BeardHall" 349 ⟨"BeardHall$Laws", "mostHeld", "(I)I"⟩ ∈ lwg := lwg_of ka_5_237.1 rfl
theorem ml_Hall_352 : Cond.methodLink "BeardHall" 352 ⟨"BeardHall$Keeping", "yearsLeft", "(I)I"⟩ ∈ lwg := lwg_of ka_6_13.1 rfl
theorem ml_Hall_357 : Cond.methodLink "BeardHall" 357 ⟨"BeardHall$Keeping", "lostWithin", "(I)I"⟩ ∈ lwg := lwg_of ka_6_26.1 rfl
theorem ml_Hall_360 : Cond.methodLink "BeardHall" 360 ⟨"BeardHall$Keeping", "bestForBraiding", "()I"⟩ ∈ lwg := lwg_of ka_3_89.1 rfl
theorem ml_Hall_363 : Cond.methodLink "BeardHall" 363 ⟨"BeardHall$Keeping", "mostAlike", "(I)I"⟩ ∈ lwg := lwg_of ka_6_38.1 rfl
theorem ml_Hall_366 : Cond.methodLink "BeardHall" 366 ⟨"BeardHall$Keeping", "audit", "(I)I"⟩ ∈ lwg := lwg_of ka_6_49.1 rfl
theorem ml_Hall_369 : Cond.methodLink "BeardHall" 369 ⟨"BeardHall$Seen", "add", "(IZ)V"⟩ ∈ lwg := lwg_of ka_6_60.1 rfl
theorem ml_Hall_373 : Cond.methodLink "BeardHall" 373 ⟨"BeardHall$Seen", "waysToEat", "(LBeardHall$Hair;I)I"⟩ ∈ lwg := lwg_of ka_6_71.1 rfl
theorem ml_Hall_377 : Cond.methodLink "BeardHall" 377 ⟨"BeardHall$Seen", "firstToEat", "(LBeardHall$Hair;I)I"⟩ ∈ lwg := lwg_of ka_6_81.1 rfl
theorem ml_Hall_380 : Cond.methodLink "BeardHall" 380 ⟨"BeardHall$Game", "tellGains", "()V"⟩ ∈ lwg := lwg_of ka_6_92.1 rfl
theorem ml_Hall_383 : Cond.methodLink "BeardHall" 383 ⟨"BeardHall$Game", "resting", "()I"⟩ ∈ lwg := lwg_of ka_6_102.1 rfl
theorem ml_Hall_386 : Cond.methodLink "BeardHall" 386 ⟨"BeardHall$Game", "firstResting", "()I"⟩ ∈ lwg := lwg_of ka_6_114.1 rfl
theorem ml_Hall_391 : Cond.methodLink "BeardHall" 391 ⟨"BeardHall$Season", "run", "(LBeardHall$Hair;II)V"⟩ ∈ lwg := lwg_of ka_6_126.1 rfl
theorem ml_Hall_405 : Cond.methodLink "BeardHall" 405 ⟨"java/lang/System", "arraycopy", "(Ljava/lang/Object;ILjava/lang/Object;II)V"⟩ ∈ lwg := lwg_of ka_3_107.1 rfl
theorem ml_Hall_412 : Cond.methodLink "BeardHall" 412 ⟨"BeardHall$Acts", "take", "(LBeardHall$Acts;)V"⟩ ∈ lwg := lwg_of ka_3_108.1 rfl
theorem ml_Hall_416 : Cond.methodLink "BeardHall" 416 ⟨"BeardHall$Seen", "take", "(LBeardHall$Seen;)V"⟩ ∈ lwg := lwg_of ka_3_112.1 rfl
theorem ml_Acts_3 : Cond.methodLink "BeardHall$Acts" 3 ⟨"java/lang/Object", "<init>", "()V"⟩ ∈ lwg := lwg_of ka_1_209.1 rfl
theorem ml_Acts_21 : Cond.methodLink "BeardHall$Acts" 21 ⟨"java/lang/System", "arraycopy", "(Ljava/lang/Object;ILjava/lang/Object;II)V"⟩ ∈ lwg := lwg_of ka_2_190.1 rfl
theorem ml_Acts_27 : Cond.methodLink "BeardHall$Acts" 27 ⟨"BeardHall$Hair", "writeTo", "([II)V"⟩ ∈ lwg := lwg_of ka_2_193.1 rfl
theorem ml_Acts_31 : Cond.methodLink "BeardHall$Acts" 31 ⟨"BeardHall$Hair", "readFrom", "([II)V"⟩ ∈ lwg := lwg_of ka_3_20.1 rfl
theorem ml_Game_3 : Cond.methodLink "BeardHall$Game" 3 ⟨"java/lang/Object", "<init>", "()V"⟩ ∈ lwg := lwg_of ka_2_65.1 rfl
theorem ml_Game_38 : Cond.methodLink "BeardHall$Game" 38 ⟨"BeardHall$Hair", "beyond", "(II)I"⟩ ∈ lwg := lwg_of ka_6_96.1 rfl
theorem ml_Game_42 : Cond.methodLink "BeardHall$Game" 42 ⟨"BeardHall$Hair", "recordsLostBy", "(I)I"⟩ ∈ lwg := lwg_of ka_6_97.1 rfl
theorem ml_Game_46 : Cond.methodLink "BeardHall$Game" 46 ⟨"BeardHall$Game", "couple", "(II)I"⟩ ∈ lwg := lwg_of ka_6_98.1 rfl
theorem ml_Game_49 : Cond.methodLink "BeardHall$Game" 49 ⟨"BeardHall$Hair", "valuesOf", "(II)I"⟩ ∈ lwg := lwg_of ka_6_101.1 rfl
theorem ml_Game_55 : Cond.methodLink "BeardHall$Game" 55 ⟨"BeardHall$Game", "isShavable", "(I)Z"⟩ ∈ lwg := lwg_of ka_6_110.1 rfl
theorem ml_Game_59 : Cond.methodLink "BeardHall$Game" 59 ⟨"BeardHall$Game", "rests", "(II)Z"⟩ ∈ lwg := lwg_of ka_6_106.1 rfl
theorem ml_Hair_3 : Cond.methodLink "BeardHall$Hair" 3 ⟨"java/lang/Object", "<init>", "()V"⟩ ∈ lwg := lwg_of ka_1_125.1 rfl
theorem ml_Hair_35 : Cond.methodLink "BeardHall$Hair" 35 ⟨"java/util/Arrays", "fill", "([II)V"⟩ ∈ lwg := lwg_of ka_2_120.1 rfl
theorem ml_Hair_41 : Cond.methodLink "BeardHall$Hair" 41 ⟨"java/lang/System", "arraycopy", "(Ljava/lang/Object;ILjava/lang/Object;II)V"⟩ ∈ lwg := lwg_of ka_2_197.1 rfl
theorem ml_Hair_52 : Cond.methodLink "BeardHall$Hair" 52 ⟨"BeardHall$Hair", "isDead", "(I)Z"⟩ ∈ lwg := lwg_of ka_2_202.1 rfl
theorem ml_Hair_59 : Cond.methodLink "BeardHall$Hair" 59 ⟨"BeardHall$Hair", "yearOf", "(I)I"⟩ ∈ lwg := lwg_of ka_2_235.1 rfl
theorem ml_Hair_63 : Cond.methodLink "BeardHall$Hair" 63 ⟨"BeardHall$Hair", "ageOf", "(I)I"⟩ ∈ lwg := lwg_of ka_4_209.1 rfl
theorem ml_Hair_69 : Cond.methodLink "BeardHall$Hair" 69 ⟨"BeardHall$Roll", "cell", "(II)I"⟩ ∈ lwg := lwg_of ka_2_227.1 rfl
theorem ml_Hair_73 : Cond.methodLink "BeardHall$Hair" 73 ⟨"BeardHall$Hair", "allThere", "()I"⟩ ∈ lwg := lwg_of ka_3_63.1 rfl
theorem ml_Hair_81 : Cond.methodLink "BeardHall$Hair" 81 ⟨"BeardHall$Hair", "recordsOf", "(I)I"⟩ ∈ lwg := lwg_of ka_3_55.1 rfl
theorem ml_Hair_84 : Cond.methodLink "BeardHall$Hair" 84 ⟨"BeardHall$Hair", "thereOf", "(I)I"⟩ ∈ lwg := lwg_of ka_2_223.1 rfl
theorem ml_Hair_87 : Cond.methodLink "BeardHall$Hair" 87 ⟨"BeardHall$Hair", "monksWith", "(I)I"⟩ ∈ lwg := lwg_of ka_4_98.1 rfl
theorem ml_Hair_91 : Cond.methodLink "BeardHall$Hair" 91 ⟨"BeardHall$Hair", "between", "(III)I"⟩ ∈ lwg := lwg_of ka_2_219.1 rfl
theorem ml_Hair_98 : Cond.methodLink "BeardHall$Hair" 98 ⟨"BeardHall$Hair", "breadths", "(I)I"⟩ ∈ lwg := lwg_of ka_2_231.1 rfl
theorem ml_Hair_101 : Cond.methodLink "BeardHall$Hair" 101 ⟨"java/lang/Integer", "bitCount", "(I)I"⟩ ∈ lwg := lwg_of ka_3_6.1 rfl
theorem ml_Hair_106 : Cond.methodLink "BeardHall$Hair" 106 ⟨"BeardHall$Hair", "beyond", "(II)I"⟩ ∈ lwg := lwg_of ka_2_214.1 rfl
theorem ml_Hair_109 : Cond.methodLink "BeardHall$Hair" 109 ⟨"BeardHall$Hair", "lose", "(I)I"⟩ ∈ lwg := lwg_of ka_3_2.1 rfl
theorem ml_Hair_112 : Cond.methodLink "BeardHall$Hair" 112 ⟨"BeardHall$Roll", "longest", "(I)I"⟩ ∈ lwg := lwg_of ka_2_206.1 rfl
theorem ml_Hair_115 : Cond.methodLink "BeardHall$Hair" 115 ⟨"java/lang/Math", "min", "(II)I"⟩ ∈ lwg := lwg_of ka_2_213.1 rfl
theorem ml_Hair_120 : Cond.methodLink "BeardHall$Hair" 120 ⟨"BeardHall$Roll", "put", "(III)V"⟩ ∈ lwg := lwg_of ka_4_72.1 rfl
theorem ml_Hair_124 : Cond.methodLink "BeardHall$Hair" 124 ⟨"BeardHall$Hair", "settle", "(II)V"⟩ ∈ lwg := lwg_of ka_4_76.1 rfl
theorem ml_Image_3 : Cond.methodLink "BeardHall$Image" 3 ⟨"java/lang/Object", "<init>", "()V"⟩ ∈ lwg := lwg_of ka_2_0.1 rfl
theorem ml_Image_34 : Cond.methodLink "BeardHall$Image" 34 ⟨"BeardHall$Hair", "<init>", "(LBeardHall$Roll;)V"⟩ ∈ lwg := lwg_of ka_2_6.1 rfl
theorem ml_Keeping_3 : Cond.methodLink "BeardHall$Keeping" 3 ⟨"java/lang/Object", "<init>", "()V"⟩ ∈ lwg := lwg_of ka_2_49.1 rfl
theorem ml_Keeping_36 : Cond.methodLink "BeardHall$Keeping" 36 ⟨"BeardHall$Hair", "recordsHeldBy", "(I)I"⟩ ∈ lwg := lwg_of ka_3_51.1 rfl
theorem ml_Keeping_40 : Cond.methodLink "BeardHall$Keeping" 40 ⟨"BeardHall$Hair", "recordsThere", "()I"⟩ ∈ lwg := lwg_of ka_3_59.1 rfl
theorem ml_Keeping_44 : Cond.methodLink "BeardHall$Keeping" 44 ⟨"java/lang/Integer", "bitCount", "(I)I"⟩ ∈ lwg := lwg_of ka_3_67.1 rfl
theorem ml_Keeping_49 : Cond.methodLink "BeardHall$Keeping" 49 ⟨"BeardHall$Keeping", "unionOf", "(I)I"⟩ ∈ lwg := lwg_of ka_3_68.1 rfl
theorem ml_Keeping_55 : Cond.methodLink "BeardHall$Keeping" 55 ⟨"BeardHall$Hair", "monksWith", "(I)I"⟩ ∈ lwg := lwg_of ka_3_81.1 rfl
theorem ml_Keeping_58 : Cond.methodLink "BeardHall$Keeping" 58 ⟨"BeardHall$Keeping", "shavableOnes", "()I"⟩ ∈ lwg := lwg_of ka_5_153.1 rfl
theorem ml_Keeping_61 : Cond.methodLink "BeardHall$Keeping" 61 ⟨"java/lang/Math", "min", "(II)I"⟩ ∈ lwg := lwg_of ka_5_158.1 rfl
theorem ml_Keeping_67 : Cond.methodLink "BeardHall$Keeping" 67 ⟨"BeardHall$Hair", "recordsLostBy", "(I)I"⟩ ∈ lwg := lwg_of ka_5_159.1 rfl
theorem ml_Keeping_70 : Cond.methodLink "BeardHall$Keeping" 70 ⟨"BeardHall$Hair", "beyond", "(II)I"⟩ ∈ lwg := lwg_of ka_5_157.1 rfl
theorem ml_Keeping_79 : Cond.methodLink "BeardHall$Keeping" 79 ⟨"BeardHall$Keeping", "debtsEaten", "(III)I"⟩ ∈ lwg := lwg_of ka_5_190.1 rfl
theorem ml_Keeping_83 : Cond.methodLink "BeardHall$Keeping" 83 ⟨"BeardHall$Hair", "eatable", "(III)I"⟩ ∈ lwg := lwg_of ka_5_194.1 rfl
theorem ml_Keeping_86 : Cond.methodLink "BeardHall$Keeping" 86 ⟨"BeardHall$Hair", "valuesOf", "(II)I"⟩ ∈ lwg := lwg_of ka_5_195.1 rfl
theorem ml_Keeping_89 : Cond.methodLink "BeardHall$Keeping" 89 ⟨"BeardHall$Hair", "thereOf", "(I)I"⟩ ∈ lwg := lwg_of ka_5_212.1 rfl
theorem ml_Keeping_92 : Cond.methodLink "BeardHall$Keeping" 92 ⟨"BeardHall$Keeping", "dayOf", "(I)I"⟩ ∈ lwg := lwg_of ka_5_213.1 rfl
theorem ml_Keeping_98 : Cond.methodLink "BeardHall$Keeping" 98 ⟨"BeardHall$Hair", "breadths", "(I)I"⟩ ∈ lwg := lwg_of ka_5_217.1 rfl
theorem ml_Keeping_101 : Cond.methodLink "BeardHall$Keeping" 101 ⟨"BeardHall$Roll", "cell", "(II)I"⟩ ∈ lwg := lwg_of ka_6_17.1 rfl
theorem ml_Keeping_104 : Cond.methodLink "BeardHall$Keeping" 104 ⟨"BeardHall$Hair", "isDead", "(I)Z"⟩ ∈ lwg := lwg_of ka_3_93.1 rfl
theorem ml_Keeping_108 : Cond.methodLink "BeardHall$Keeping" 108 ⟨"BeardHall$Roll", "longest", "(I)I"⟩ ∈ lwg := lwg_of ka_3_94.1 rfl
theorem ml_Keeping_111 : Cond.methodLink "BeardHall$Keeping" 111 ⟨"BeardHall$Keeping", "yearsLeft", "(I)I"⟩ ∈ lwg := lwg_of ka_6_30.1 rfl
theorem ml_Laws_3 : Cond.methodLink "BeardHall$Laws" 3 ⟨"java/lang/Object", "<init>", "()V"⟩ ∈ lwg := lwg_of ka_2_36.1 rfl
theorem ml_Laws_22 : Cond.methodLink "BeardHall$Laws" 22 ⟨"BeardHall$Hair", "isThere", "(I)Z"⟩ ∈ lwg := lwg_of ka_5_124.1 rfl
theorem ml_Laws_26 : Cond.methodLink "BeardHall$Laws" 26 ⟨"BeardHall$Roll", "cell", "(II)I"⟩ ∈ lwg := lwg_of ka_3_42.1 rfl
theorem ml_Laws_36 : Cond.methodLink "BeardHall$Laws" 36 ⟨"BeardHall$Laws", "isThereOf", "(III)Z"⟩ ∈ lwg := lwg_of ka_5_120.1 rfl
theorem ml_Laws_43 : Cond.methodLink "BeardHall$Laws" 43 ⟨"BeardHall$Laws", "areRivals", "(II)Z"⟩ ∈ lwg := lwg_of ka_3_32.1 rfl
theorem ml_Laws_47 : Cond.methodLink "BeardHall$Laws" 47 ⟨"BeardHall$Hair", "thereOf", "(I)I"⟩ ∈ lwg := lwg_of ka_3_36.1 rfl
theorem ml_Laws_54 : Cond.methodLink "BeardHall$Laws" 54 ⟨"BeardHall$Laws", "differ", "(II)Z"⟩ ∈ lwg := lwg_of ka_3_38.1 rfl
theorem ml_Laws_57 : Cond.methodLink "BeardHall$Laws" 57 ⟨"BeardHall$Hair", "recordsThere", "()I"⟩ ∈ lwg := lwg_of ka_5_136.1 rfl
theorem ml_Laws_61 : Cond.methodLink "BeardHall$Laws" 61 ⟨"BeardHall$Laws", "owing", "(I)I"⟩ ∈ lwg := lwg_of ka_5_137.1 rfl
theorem ml_Laws_64 : Cond.methodLink "BeardHall$Laws" 64 ⟨"BeardHall$Laws", "monksSaying", "(II)I"⟩ ∈ lwg := lwg_of ka_6_1.1 rfl
theorem ml_Laws_67 : Cond.methodLink "BeardHall$Laws" 67 ⟨"java/lang/Integer", "bitCount", "(I)I"⟩ ∈ lwg := lwg_of ka_6_5.1 rfl
theorem ml_Reader_3 : Cond.methodLink "BeardHall$Reader" 3 ⟨"java/lang/Object", "<init>", "()V"⟩ ∈ lwg := lwg_of ka_1_40.1 rfl
theorem ml_Reader_20 : Cond.methodLink "BeardHall$Reader" 20 ⟨"BeardHall$Hair", "<init>", "(LBeardHall$Roll;)V"⟩ ∈ lwg := lwg_of ka_1_122.1 rfl
theorem ml_Reader_31 : Cond.methodLink "BeardHall$Reader" 31 ⟨"java/lang/Math", "min", "(II)I"⟩ ∈ lwg := lwg_of ka_3_199.1 rfl
theorem ml_Reader_53 : Cond.methodLink "BeardHall$Reader" 53 ⟨"BeardHall$Roll", "clear", "()V"⟩ ∈ lwg := lwg_of ka_3_200.1 rfl
theorem ml_Reader_56 : Cond.methodLink "BeardHall$Reader" 56 ⟨"BeardHall$Hair", "begin", "()V"⟩ ∈ lwg := lwg_of ka_3_201.1 rfl
theorem ml_Reader_59 : Cond.methodLink "BeardHall$Reader" 59 ⟨"BeardHall$Reader", "advance", "()V"⟩ ∈ lwg := lwg_of ka_3_202.1 rfl
theorem ml_Reader_65 : Cond.methodLink "BeardHall$Reader" 65 ⟨"BeardHall$Reader", "readMonk", "(I)V"⟩ ∈ lwg := lwg_of ka_4_35.1 rfl
theorem ml_Reader_69 : Cond.methodLink "BeardHall$Reader" 69 ⟨"BeardHall$Reader", "readEntry", "(I)V"⟩ ∈ lwg := lwg_of ka_4_56.1 rfl
theorem ml_Reader_72 : Cond.methodLink "BeardHall$Reader" 72 ⟨"BeardHall$Reader", "readCopy", "()V"⟩ ∈ lwg := lwg_of ka_4_85.1 rfl
theorem ml_Reader_75 : Cond.methodLink "BeardHall$Reader" 75 ⟨"BeardHall$Reader", "readSetting", "(I)V"⟩ ∈ lwg := lwg_of ka_4_103.1 rfl
theorem ml_Reader_78 : Cond.methodLink "BeardHall$Reader" 78 ⟨"BeardHall$Reader", "fail", "(I)V"⟩ ∈ lwg := lwg_of ka_4_39.1 rfl
theorem ml_Reader_81 : Cond.methodLink "BeardHall$Reader" 81 ⟨"BeardHall$Reader", "expect", "(I)V"⟩ ∈ lwg := lwg_of ka_4_139.1 rfl
theorem ml_Reader_87 : Cond.methodLink "BeardHall$Reader" 87 ⟨"BeardHall$Reader", "isBlank", "(I)Z"⟩ ∈ lwg := lwg_of ka_3_206.1 rfl
theorem ml_Reader_91 : Cond.methodLink "BeardHall$Reader" 91 ⟨"BeardHall$Reader", "isLetter", "(I)Z"⟩ ∈ lwg := lwg_of ka_3_209.1 rfl
theorem ml_Reader_94 : Cond.methodLink "BeardHall$Reader" 94 ⟨"BeardHall$Reader", "takeWord", "()V"⟩ ∈ lwg := lwg_of ka_3_212.1 rfl
theorem ml_Reader_97 : Cond.methodLink "BeardHall$Reader" 97 ⟨"BeardHall$Reader", "isDigit", "(I)Z"⟩ ∈ lwg := lwg_of ka_4_25.1 rfl
theorem ml_Reader_100 : Cond.methodLink "BeardHall$Reader" 100 ⟨"BeardHall$Reader", "takeDigits", "()V"⟩ ∈ lwg := lwg_of ka_4_28.1 rfl
theorem ml_Reader_103 : Cond.methodLink "BeardHall$Reader" 103 ⟨"BeardHall$Reader", "isSign", "(I)Z"⟩ ∈ lwg := lwg_of ka_4_32.1 rfl
theorem ml_Reader_108 : Cond.methodLink "BeardHall$Reader" 108 ⟨"java/lang/String", "length", "()I"⟩ ∈ lwg := lwg_of ka_3_217.1 rfl
theorem ml_Reader_113 : Cond.methodLink "BeardHall$Reader" 113 ⟨"java/lang/String", "charAt", "(I)C"⟩ ∈ lwg := lwg_of ka_3_227.1 rfl
theorem ml_Reader_120 : Cond.methodLink "BeardHall$Reader" 120 ⟨"BeardHall$Reader", "needNumber", "()V"⟩ ∈ lwg := lwg_of ka_4_47.1 rfl
theorem ml_Reader_123 : Cond.methodLink "BeardHall$Reader" 123 ⟨"BeardHall$Reader", "takenOrNone", "()I"⟩ ∈ lwg := lwg_of ka_4_51.1 rfl
theorem ml_Reader_129 : Cond.methodLink "BeardHall$Reader" 129 ⟨"BeardHall$Hair", "holds", "(II)Z"⟩ ∈ lwg := lwg_of ka_4_94.1 rfl
theorem ml_Reader_133 : Cond.methodLink "BeardHall$Reader" 133 ⟨"BeardHall$Reader", "takeNumber", "(II)I"⟩ ∈ lwg := lwg_of ka_4_43.1 rfl
theorem ml_Reader_145 : Cond.methodLink "BeardHall$Reader" 145 ⟨"BeardHall$Roll", "longest", "(I)I"⟩ ∈ lwg := lwg_of ka_4_55.1 rfl
theorem ml_Reader_149 : Cond.methodLink "BeardHall$Reader" 149 ⟨"BeardHall$Hair", "isFull", "()Z"⟩ ∈ lwg := lwg_of ka_4_60.1 rfl
theorem ml_Reader_153 : Cond.methodLink "BeardHall$Reader" 153 ⟨"BeardHall$Reader", "takeTold", "(I)I"⟩ ∈ lwg := lwg_of ka_4_64.1 rfl
theorem ml_Reader_156 : Cond.methodLink "BeardHall$Reader" 156 ⟨"BeardHall$Hair", "braidIn", "(IIIII)I"⟩ ∈ lwg := lwg_of ka_4_68.1 rfl
theorem ml_Reader_160 : Cond.methodLink "BeardHall$Reader" 160 ⟨"BeardHall$Roll", "put", "(III)V"⟩ ∈ lwg := lwg_of ka_4_80.1 rfl
theorem ml_Reader_164 : Cond.methodLink "BeardHall$Reader" 164 ⟨"BeardHall$Hair", "tie", "(I)V"⟩ ∈ lwg := lwg_of ka_4_81.1 rfl
theorem ml_Reader_170 : Cond.methodLink "BeardHall$Reader" 170 ⟨"BeardHall$Roll", "cell", "(II)I"⟩ ∈ lwg := lwg_of ka_4_89.1 rfl
theorem ml_Reader_173 : Cond.methodLink "BeardHall$Reader" 173 ⟨"BeardHall$Reader", "takeCopier", "(I)I"⟩ ∈ lwg := lwg_of ka_4_90.1 rfl
theorem ml_Reader_176 : Cond.methodLink "BeardHall$Reader" 176 ⟨"BeardHall$Hair", "copyInto", "(III)I"⟩ ∈ lwg := lwg_of ka_4_99.1 rfl
theorem ml_Reader_189 : Cond.methodLink "BeardHall$Reader" 189 ⟨"BeardHall$Reader", "readExpr", "(I)V"⟩ ∈ lwg := lwg_of ka_4_107.1 rfl
theorem ml_Reader_192 : Cond.methodLink "BeardHall$Reader" 192 ⟨"BeardHall$Reader", "canBegin", "()Z"⟩ ∈ lwg := lwg_of ka_4_111.1 rfl
theorem ml_Reader_195 : Cond.methodLink "BeardHall$Reader" 195 ⟨"BeardHall$Reader", "readAnd", "(I)V"⟩ ∈ lwg := lwg_of ka_4_115.1 rfl
theorem ml_Reader_204 : Cond.methodLink "BeardHall$Reader" 204 ⟨"BeardHall$Rule", "add", "(I)V"⟩ ∈ lwg := lwg_of ka_4_143.1 rfl
theorem ml_Reader_207 : Cond.methodLink "BeardHall$Reader" 207 ⟨"BeardHall$Reader", "readNot", "(I)V"⟩ ∈ lwg := lwg_of ka_4_119.1 rfl
theorem ml_Reader_210 : Cond.methodLink "BeardHall$Reader" 210 ⟨"BeardHall$Reader", "readTest", "(I)V"⟩ ∈ lwg := lwg_of ka_4_123.1 rfl
theorem ml_Reader_213 : Cond.methodLink "BeardHall$Reader" 213 ⟨"BeardHall$Reader", "readSum", "(I)V"⟩ ∈ lwg := lwg_of ka_4_127.1 rfl
theorem ml_Reader_216 : Cond.methodLink "BeardHall$Reader" 216 ⟨"BeardHall$Reader", "readProduct", "(I)V"⟩ ∈ lwg := lwg_of ka_4_131.1 rfl
theorem ml_Reader_219 : Cond.methodLink "BeardHall$Reader" 219 ⟨"BeardHall$Reader", "readPart", "(I)V"⟩ ∈ lwg := lwg_of ka_4_135.1 rfl
theorem ml_Roll_3 : Cond.methodLink "BeardHall$Roll" 3 ⟨"java/lang/Object", "<init>", "()V"⟩ ∈ lwg := lwg_of ka_1_46.1 rfl
theorem ml_Roll_41 : Cond.methodLink "BeardHall$Roll" 41 ⟨"BeardHall$Rule", "clear", "()V"⟩ ∈ lwg := lwg_of ka_2_112.1 rfl
theorem ml_Roll_44 : Cond.methodLink "BeardHall$Roll" 44 ⟨"java/lang/System", "arraycopy", "(Ljava/lang/Object;ILjava/lang/Object;II)V"⟩ ∈ lwg := lwg_of ka_4_151.1 rfl
theorem ml_Roll_50 : Cond.methodLink "BeardHall$Roll" 50 ⟨"BeardHall$Rule", "take", "(LBeardHall$Rule;)V"⟩ ∈ lwg := lwg_of ka_4_152.1 rfl
theorem ml_Roll_54 : Cond.methodLink "BeardHall$Roll" 54 ⟨"java/lang/Math", "min", "(II)I"⟩ ∈ lwg := lwg_of ka_2_210.1 rfl
theorem ml_Rule_3 : Cond.methodLink "BeardHall$Rule" 3 ⟨"java/lang/Object", "<init>", "()V"⟩ ∈ lwg := lwg_of ka_1_52.1 rfl
theorem ml_Rule_25 : Cond.methodLink "BeardHall$Rule" 25 ⟨"java/lang/System", "arraycopy", "(Ljava/lang/Object;ILjava/lang/Object;II)V"⟩ ∈ lwg := lwg_of ka_4_156.1 rfl
theorem ml_Rule_31 : Cond.methodLink "BeardHall$Rule" 31 ⟨"BeardHall$Rule", "truth", "(Z)I"⟩ ∈ lwg := lwg_of ka_5_22.1 rfl
theorem ml_Rule_35 : Cond.methodLink "BeardHall$Rule" 35 ⟨"BeardHall$Rule", "joined", "(III)I"⟩ ∈ lwg := lwg_of ka_5_25.1 rfl
theorem ml_Season_1 : Cond.methodLink "BeardHall$Season" 1 ⟨"java/lang/Object", "<init>", "()V"⟩ ∈ lwg := lwg_of ka_2_87.1 rfl
theorem ml_Season_9 : Cond.methodLink "BeardHall$Season" 9 ⟨"BeardHall$Hair", "<init>", "(LBeardHall$Roll;)V"⟩ ∈ lwg := lwg_of ka_2_89.1 rfl
theorem ml_Season_20 : Cond.methodLink "BeardHall$Season" 20 ⟨"BeardHall$Laws", "<init>", "(LBeardHall$Hair;)V"⟩ ∈ lwg := lwg_of ka_2_91.1 rfl
theorem ml_Season_27 : Cond.methodLink "BeardHall$Season" 27 ⟨"BeardHall$Hair", "take", "(LBeardHall$Hair;)V"⟩ ∈ lwg := lwg_of ka_6_130.1 rfl
theorem ml_Season_37 : Cond.methodLink "BeardHall$Season" 37 ⟨"BeardHall$Hair", "recordsThere", "()I"⟩ ∈ lwg := lwg_of ka_6_131.1 rfl
theorem ml_Season_50 : Cond.methodLink "BeardHall$Season" 50 ⟨"BeardHall$Season", "draw", "(I)I"⟩ ∈ lwg := lwg_of ka_6_132.1 rfl
theorem ml_Season_54 : Cond.methodLink "BeardHall$Season" 54 ⟨"BeardHall$Season", "visit", "(I)V"⟩ ∈ lwg := lwg_of ka_6_137.1 rfl
theorem ml_Season_58 : Cond.methodLink "BeardHall$Season" 58 ⟨"BeardHall$Hair", "pass", "(I)V"⟩ ∈ lwg := lwg_of ka_6_144.1 rfl
theorem ml_Season_61 : Cond.methodLink "BeardHall$Season" 61 ⟨"BeardHall$Hair", "eatable", "(III)I"⟩ ∈ lwg := lwg_of ka_6_141.1 rfl
theorem ml_Season_65 : Cond.methodLink "BeardHall$Season" 65 ⟨"BeardHall$Hair", "lose", "(I)I"⟩ ∈ lwg := lwg_of ka_6_142.1 rfl
theorem ml_Season_72 : Cond.methodLink "BeardHall$Season" 72 ⟨"BeardHall$Hair", "shaveTo", "(II)I"⟩ ∈ lwg := lwg_of ka_6_143.1 rfl
theorem ml_Seen_3 : Cond.methodLink "BeardHall$Seen" 3 ⟨"java/lang/Object", "<init>", "()V"⟩ ∈ lwg := lwg_of ka_1_223.1 rfl
theorem ml_Seen_22 : Cond.methodLink "BeardHall$Seen" 22 ⟨"java/lang/System", "arraycopy", "(Ljava/lang/Object;ILjava/lang/Object;II)V"⟩ ∈ lwg := lwg_of ka_3_116.1 rfl
theorem ml_Seen_28 : Cond.methodLink "BeardHall$Seen" 28 ⟨"BeardHall$Hair", "eatable", "(III)I"⟩ ∈ lwg := lwg_of ka_6_75.1 rfl
theorem ml_Seen_34 : Cond.methodLink "BeardHall$Seen" 34 ⟨"BeardHall$Seen", "wouldBeSo", "(LBeardHall$Hair;I)Z"⟩ ∈ lwg := lwg_of ka_6_76.1 rfl
theorem ml_Seen_38 : Cond.methodLink "BeardHall$Seen" 38 ⟨"BeardHall$Hair", "allThere", "()I"⟩ ∈ lwg := lwg_of ka_6_80.1 rfl
theorem ml_Law_7 : Cond.methodLink "BeardHallLaw" 7 ⟨"BeardHall", "archive", "(I)I"⟩ ∈ lwg := lwg_of ka_3_125.1 rfl
theorem ml_Law_15 : Cond.methodLink "BeardHallLaw" 15 ⟨"BeardHall", "count", "(I)I"⟩ ∈ lwg := lwg_of ka_4_161.1 rfl
theorem ml_Law_20 : Cond.methodLink "BeardHallLaw" 20 ⟨"BeardHall", "monk", "(II)I"⟩ ∈ lwg := lwg_of ka_4_191.1 rfl
theorem ml_Law_24 : Cond.methodLink "BeardHallLaw" 24 ⟨"BeardHall", "entry", "(II)I"⟩ ∈ lwg := lwg_of ka_4_215.1 rfl
theorem ml_Law_27 : Cond.methodLink "BeardHallLaw" 27 ⟨"BeardHall", "holders", "(I)I"⟩ ∈ lwg := lwg_of ka_4_238.1 rfl
theorem ml_Law_30 : Cond.methodLink "BeardHallLaw" 30 ⟨"BeardHall", "may", "(II)Z"⟩ ∈ lwg := lwg_of ka_5_6.1 rfl
theorem ml_Law_34 : Cond.methodLink "BeardHallLaw" 34 ⟨"BeardHall", "braid", "(IIII)I"⟩ ∈ lwg := lwg_of ka_5_31.1 rfl
theorem ml_Law_38 : Cond.methodLink "BeardHallLaw" 38 ⟨"BeardHall", "copy", "(II)I"⟩ ∈ lwg := lwg_of ka_5_50.1 rfl
theorem ml_Law_41 : Cond.methodLink "BeardHallLaw" 41 ⟨"BeardHall", "knot", "(I)Z"⟩ ∈ lwg := lwg_of ka_5_59.1 rfl
theorem ml_Law_45 : Cond.methodLink "BeardHallLaw" 45 ⟨"BeardHall", "comb", "(I)Z"⟩ ∈ lwg := lwg_of ka_5_71.1 rfl
theorem ml_Law_48 : Cond.methodLink "BeardHallLaw" 48 ⟨"BeardHall", "shave", "(II)I"⟩ ∈ lwg := lwg_of ka_5_79.1 rfl
theorem ml_Law_51 : Cond.methodLink "BeardHallLaw" 51 ⟨"BeardHall", "moths", "(III)I"⟩ ∈ lwg := lwg_of ka_5_90.1 rfl
theorem ml_Law_55 : Cond.methodLink "BeardHallLaw" 55 ⟨"BeardHall", "die", "(I)Z"⟩ ∈ lwg := lwg_of ka_5_101.1 rfl
theorem ml_Law_58 : Cond.methodLink "BeardHallLaw" 58 ⟨"BeardHall", "law", "(I)I"⟩ ∈ lwg := lwg_of ka_5_108.1 rfl
theorem ml_Law_61 : Cond.methodLink "BeardHallLaw" 61 ⟨"BeardHall", "owed", "(I)I"⟩ ∈ lwg := lwg_of ka_5_128.1 rfl
theorem ml_Law_64 : Cond.methodLink "BeardHallLaw" 64 ⟨"BeardHall", "barbers", "(I)I"⟩ ∈ lwg := lwg_of ka_5_144.1 rfl
theorem ml_Law_67 : Cond.methodLink "BeardHallLaw" 67 ⟨"BeardHall", "shortest", "(I)I"⟩ ∈ lwg := lwg_of ka_5_166.1 rfl
theorem ml_Law_70 : Cond.methodLink "BeardHallLaw" 70 ⟨"BeardHall", "amnesty", "(III)I"⟩ ∈ lwg := lwg_of ka_5_177.1 rfl
theorem ml_Law_73 : Cond.methodLink "BeardHallLaw" 73 ⟨"BeardHall", "week", "(II)I"⟩ ∈ lwg := lwg_of ka_5_203.1 rfl
theorem ml_Law_76 : Cond.methodLink "BeardHallLaw" 76 ⟨"BeardHall", "oldest", "(II)I"⟩ ∈ lwg := lwg_of ka_5_221.1 rfl
theorem ml_Law_79 : Cond.methodLink "BeardHallLaw" 79 ⟨"BeardHall", "believed", "(I)I"⟩ ∈ lwg := lwg_of ka_5_233.1 rfl
theorem ml_Law_82 : Cond.methodLink "BeardHallLaw" 82 ⟨"BeardHall", "until", "(I)I"⟩ ∈ lwg := lwg_of ka_6_9.1 rfl
theorem ml_Law_85 : Cond.methodLink "BeardHallLaw" 85 ⟨"BeardHall", "doomed", "(I)I"⟩ ∈ lwg := lwg_of ka_6_21.1 rfl
theorem ml_Law_88 : Cond.methodLink "BeardHallLaw" 88 ⟨"BeardHall", "heir", "(I)I"⟩ ∈ lwg := lwg_of ka_6_34.1 rfl
theorem ml_Law_91 : Cond.methodLink "BeardHallLaw" 91 ⟨"BeardHall", "lice", "(I)I"⟩ ∈ lwg := lwg_of ka_6_45.1 rfl
theorem ml_Law_94 : Cond.methodLink "BeardHallLaw" 94 ⟨"BeardHall", "see", "(IZ)I"⟩ ∈ lwg := lwg_of ka_6_56.1 rfl
theorem ml_Law_98 : Cond.methodLink "BeardHallLaw" 98 ⟨"BeardHall", "ate", "(II)I"⟩ ∈ lwg := lwg_of ka_6_67.1 rfl
theorem ml_Law_101 : Cond.methodLink "BeardHallLaw" 101 ⟨"BeardHall", "game", "(I)I"⟩ ∈ lwg := lwg_of ka_6_88.1 rfl
theorem ml_Law_104 : Cond.methodLink "BeardHallLaw" 104 ⟨"BeardHall", "season", "(III)I"⟩ ∈ lwg := lwg_of ka_6_121.1 rfl
theorem ml_Law_107 : Cond.methodLink "BeardHallLaw" 107 ⟨"BeardHall", "<init>", "()V"⟩ ∈ lwg := lwg_of ka_1_29.1 rfl
theorem ml_Law_110 : Cond.methodLink "BeardHallLaw" 110 ⟨"BeardHallModel", "<init>", "()V"⟩ ∈ lwg := lwg_of ka_6_147.1 rfl
theorem ml_Law_111 : Cond.methodLink "BeardHallLaw" 111 ⟨"BeardHall", "feed", "(IIIII)I"⟩ ∈ lwg := lwg_of ka_2_166.1 rfl
theorem ml_Law_115 : Cond.methodLink "BeardHallLaw" 115 ⟨"BeardHallModel", "feed", "(IIIII)I"⟩ ∈ lwg := lwg_of ka_7_62.1 rfl
theorem ml_Law_116 : Cond.methodLink "BeardHallLaw" 116 ⟨"BeardHallLaw", "archive", "(LBeardHall;I[J)I"⟩ ∈ lwg := lwg_of ka_3_121.1 rfl
theorem ml_Law_121 : Cond.methodLink "BeardHallLaw" 121 ⟨"BeardHallModel", "archive", "(I)I"⟩ ∈ lwg := lwg_of ka_7_66.1 rfl
theorem ml_Law_122 : Cond.methodLink "BeardHallLaw" 122 ⟨"BeardHallModel", "thrown", "()I"⟩ ∈ lwg := lwg_of ka_7_58.1 rfl
theorem ml_Law_126 : Cond.methodLink "BeardHallLaw" 126 ⟨"BeardHall", "fault", "()I"⟩ ∈ lwg := lwg_of ka_2_174.1 rfl
theorem ml_Law_129 : Cond.methodLink "BeardHallLaw" 129 ⟨"BeardHallModel", "fault", "()I"⟩ ∈ lwg := lwg_of ka_7_228.1 rfl
theorem ml_Law_130 : Cond.methodLink "BeardHallLaw" 130 ⟨"BeardHallLaw", "count", "(LBeardHall;I[J)I"⟩ ∈ lwg := lwg_of ka_4_157.1 rfl
theorem ml_Law_132 : Cond.methodLink "BeardHallLaw" 132 ⟨"BeardHallModel", "count", "(I)I"⟩ ∈ lwg := lwg_of ka_7_232.1 rfl
theorem ml_Law_133 : Cond.methodLink "BeardHallLaw" 133 ⟨"BeardHallLaw", "monk", "(LBeardHall;II[J)I"⟩ ∈ lwg := lwg_of ka_4_188.1 rfl
theorem ml_Law_136 : Cond.methodLink "BeardHallLaw" 136 ⟨"BeardHallModel", "monk", "(II)I"⟩ ∈ lwg := lwg_of ka_8_7.1 rfl
theorem ml_Law_137 : Cond.methodLink "BeardHallLaw" 137 ⟨"BeardHallLaw", "entry", "(LBeardHall;II[J)I"⟩ ∈ lwg := lwg_of ka_4_212.1 rfl
theorem ml_Law_139 : Cond.methodLink "BeardHallLaw" 139 ⟨"BeardHallModel", "entry", "(II)I"⟩ ∈ lwg := lwg_of ka_8_26.1 rfl
theorem ml_Law_140 : Cond.methodLink "BeardHallLaw" 140 ⟨"BeardHallLaw", "holders", "(LBeardHall;I[J)I"⟩ ∈ lwg := lwg_of ka_4_235.1 rfl
theorem ml_Law_142 : Cond.methodLink "BeardHallLaw" 142 ⟨"BeardHallModel", "holders", "(I)I"⟩ ∈ lwg := lwg_of ka_8_35.1 rfl
theorem ml_Law_143 : Cond.methodLink "BeardHallLaw" 143 ⟨"BeardHallLaw", "may", "(LBeardHall;II[J)I"⟩ ∈ lwg := lwg_of ka_5_3.1 rfl
theorem ml_Law_145 : Cond.methodLink "BeardHallLaw" 145 ⟨"BeardHallModel", "may", "(II)Z"⟩ ∈ lwg := lwg_of ka_8_43.1 rfl
theorem ml_Law_146 : Cond.methodLink "BeardHallLaw" 146 ⟨"BeardHall", "years", "(I)I"⟩ ∈ lwg := lwg_of ka_2_178.1 rfl
theorem ml_Law_149 : Cond.methodLink "BeardHallLaw" 149 ⟨"BeardHallModel", "years", "(I)I"⟩ ∈ lwg := lwg_of ka_8_58.1 rfl
theorem ml_Law_150 : Cond.methodLink "BeardHallLaw" 150 ⟨"BeardHallLaw", "braid", "(LBeardHall;IIII[J)I"⟩ ∈ lwg := lwg_of ka_5_28.1 rfl
theorem ml_Law_153 : Cond.methodLink "BeardHallLaw" 153 ⟨"BeardHallModel", "braid", "(IIII)I"⟩ ∈ lwg := lwg_of ka_8_79.1 rfl
theorem ml_Law_154 : Cond.methodLink "BeardHallLaw" 154 ⟨"BeardHallLaw", "copy", "(LBeardHall;II[J)I"⟩ ∈ lwg := lwg_of ka_5_47.1 rfl
theorem ml_Law_156 : Cond.methodLink "BeardHallLaw" 156 ⟨"BeardHallModel", "copy", "(II)I"⟩ ∈ lwg := lwg_of ka_8_93.1 rfl
theorem ml_Law_157 : Cond.methodLink "BeardHallLaw" 157 ⟨"BeardHallLaw", "knot", "(LBeardHall;I[J)I"⟩ ∈ lwg := lwg_of ka_5_56.1 rfl
theorem ml_Law_159 : Cond.methodLink "BeardHallLaw" 159 ⟨"BeardHallModel", "knot", "(I)Z"⟩ ∈ lwg := lwg_of ka_8_97.1 rfl
theorem ml_Law_160 : Cond.methodLink "BeardHallLaw" 160 ⟨"BeardHallLaw", "comb", "(LBeardHall;I[J)I"⟩ ∈ lwg := lwg_of ka_5_68.1 rfl
theorem ml_Law_162 : Cond.methodLink "BeardHallLaw" 162 ⟨"BeardHallModel", "comb", "(I)Z"⟩ ∈ lwg := lwg_of ka_8_105.1 rfl
theorem ml_Law_163 : Cond.methodLink "BeardHallLaw" 163 ⟨"BeardHallLaw", "shave", "(LBeardHall;II[J)I"⟩ ∈ lwg := lwg_of ka_5_76.1 rfl
theorem ml_Law_165 : Cond.methodLink "BeardHallLaw" 165 ⟨"BeardHallModel", "shave", "(II)I"⟩ ∈ lwg := lwg_of ka_8_109.1 rfl
theorem ml_Law_166 : Cond.methodLink "BeardHallLaw" 166 ⟨"BeardHallLaw", "moths", "(LBeardHall;III[J)I"⟩ ∈ lwg := lwg_of ka_5_87.1 rfl
theorem ml_Law_169 : Cond.methodLink "BeardHallLaw" 169 ⟨"BeardHallModel", "moths", "(III)I"⟩ ∈ lwg := lwg_of ka_8_113.1 rfl
theorem ml_Law_170 : Cond.methodLink "BeardHallLaw" 170 ⟨"BeardHallLaw", "die", "(LBeardHall;I[J)I"⟩ ∈ lwg := lwg_of ka_5_98.1 rfl
theorem ml_Law_172 : Cond.methodLink "BeardHallLaw" 172 ⟨"BeardHallModel", "die", "(I)Z"⟩ ∈ lwg := lwg_of ka_8_122.1 rfl
theorem ml_Law_173 : Cond.methodLink "BeardHallLaw" 173 ⟨"BeardHall", "undo", "()I"⟩ ∈ lwg := lwg_of ka_3_12.1 rfl
theorem ml_Law_176 : Cond.methodLink "BeardHallLaw" 176 ⟨"BeardHallModel", "undo", "()I"⟩ ∈ lwg := lwg_of ka_8_126.1 rfl
theorem ml_Law_177 : Cond.methodLink "BeardHallLaw" 177 ⟨"BeardHallLaw", "law", "(LBeardHall;I[J)I"⟩ ∈ lwg := lwg_of ka_5_105.1 rfl
theorem ml_Law_179 : Cond.methodLink "BeardHallLaw" 179 ⟨"BeardHallModel", "law", "(I)I"⟩ ∈ lwg := lwg_of ka_8_134.1 rfl
theorem ml_Law_180 : Cond.methodLink "BeardHallLaw" 180 ⟨"BeardHall", "rivals", "()I"⟩ ∈ lwg := lwg_of ka_3_24.1 rfl
theorem ml_Law_183 : Cond.methodLink "BeardHallLaw" 183 ⟨"BeardHallModel", "rivals", "()I"⟩ ∈ lwg := lwg_of ka_8_142.1 rfl
theorem ml_Law_184 : Cond.methodLink "BeardHallLaw" 184 ⟨"BeardHallLaw", "owed", "(LBeardHall;I[J)I"⟩ ∈ lwg := lwg_of ka_5_125.1 rfl
theorem ml_Law_186 : Cond.methodLink "BeardHallLaw" 186 ⟨"BeardHallModel", "owed", "(I)I"⟩ ∈ lwg := lwg_of ka_8_150.1 rfl
theorem ml_Law_187 : Cond.methodLink "BeardHallLaw" 187 ⟨"BeardHall", "cover", "()I"⟩ ∈ lwg := lwg_of ka_3_43.1 rfl
theorem ml_Law_190 : Cond.methodLink "BeardHallLaw" 190 ⟨"BeardHallModel", "cover", "()I"⟩ ∈ lwg := lwg_of ka_8_158.1 rfl
theorem ml_Law_191 : Cond.methodLink "BeardHallLaw" 191 ⟨"BeardHall", "alone", "()I"⟩ ∈ lwg := lwg_of ka_3_73.1 rfl
theorem ml_Law_194 : Cond.methodLink "BeardHallLaw" 194 ⟨"BeardHallModel", "alone", "()I"⟩ ∈ lwg := lwg_of ka_8_162.1 rfl
theorem ml_Law_195 : Cond.methodLink "BeardHallLaw" 195 ⟨"BeardHallLaw", "barbers", "(LBeardHall;I[J)I"⟩ ∈ lwg := lwg_of ka_5_141.1 rfl
theorem ml_Law_197 : Cond.methodLink "BeardHallLaw" 197 ⟨"BeardHallModel", "barbers", "(I)I"⟩ ∈ lwg := lwg_of ka_8_166.1 rfl
theorem ml_Law_198 : Cond.methodLink "BeardHallLaw" 198 ⟨"BeardHallLaw", "shortest", "(LBeardHall;I[J)I"⟩ ∈ lwg := lwg_of ka_5_163.1 rfl
theorem ml_Law_200 : Cond.methodLink "BeardHallLaw" 200 ⟨"BeardHallModel", "shortest", "(I)I"⟩ ∈ lwg := lwg_of ka_8_183.1 rfl
theorem ml_Law_201 : Cond.methodLink "BeardHallLaw" 201 ⟨"BeardHallLaw", "amnesty", "(LBeardHall;III[J)I"⟩ ∈ lwg := lwg_of ka_5_174.1 rfl
theorem ml_Law_203 : Cond.methodLink "BeardHallLaw" 203 ⟨"BeardHallModel", "amnesty", "(III)I"⟩ ∈ lwg := lwg_of ka_8_187.1 rfl
theorem ml_Law_204 : Cond.methodLink "BeardHallLaw" 204 ⟨"BeardHallLaw", "week", "(LBeardHall;II[J)I"⟩ ∈ lwg := lwg_of ka_5_200.1 rfl
theorem ml_Law_206 : Cond.methodLink "BeardHallLaw" 206 ⟨"BeardHallModel", "week", "(II)I"⟩ ∈ lwg := lwg_of ka_8_195.1 rfl
theorem ml_Law_207 : Cond.methodLink "BeardHallLaw" 207 ⟨"BeardHallLaw", "oldest", "(LBeardHall;II[J)I"⟩ ∈ lwg := lwg_of ka_5_218.1 rfl
theorem ml_Law_209 : Cond.methodLink "BeardHallLaw" 209 ⟨"BeardHallModel", "oldest", "(II)I"⟩ ∈ lwg := lwg_of ka_8_200.1 rfl
theorem ml_Law_210 : Cond.methodLink "BeardHallLaw" 210 ⟨"BeardHallLaw", "believed", "(LBeardHall;I[J)I"⟩ ∈ lwg := lwg_of ka_5_230.1 rfl
theorem ml_Law_212 : Cond.methodLink "BeardHallLaw" 212 ⟨"BeardHallModel", "believed", "(I)I"⟩ ∈ lwg := lwg_of ka_8_204.1 rfl
theorem ml_Law_213 : Cond.methodLink "BeardHallLaw" 213 ⟨"BeardHallLaw", "until", "(LBeardHall;I[J)I"⟩ ∈ lwg := lwg_of ka_6_6.1 rfl
theorem ml_Law_215 : Cond.methodLink "BeardHallLaw" 215 ⟨"BeardHallModel", "until", "(I)I"⟩ ∈ lwg := lwg_of ka_8_212.1 rfl
theorem ml_Law_216 : Cond.methodLink "BeardHallLaw" 216 ⟨"BeardHallLaw", "doomed", "(LBeardHall;I[J)I"⟩ ∈ lwg := lwg_of ka_6_18.1 rfl
theorem ml_Law_218 : Cond.methodLink "BeardHallLaw" 218 ⟨"BeardHallModel", "doomed", "(I)I"⟩ ∈ lwg := lwg_of ka_8_216.1 rfl
theorem ml_Law_219 : Cond.methodLink "BeardHallLaw" 219 ⟨"BeardHall", "safest", "()I"⟩ ∈ lwg := lwg_of ka_3_85.1 rfl
theorem ml_Law_222 : Cond.methodLink "BeardHallLaw" 222 ⟨"BeardHallModel", "safest", "()I"⟩ ∈ lwg := lwg_of ka_8_220.1 rfl
theorem ml_Law_223 : Cond.methodLink "BeardHallLaw" 223 ⟨"BeardHallLaw", "heir", "(LBeardHall;I[J)I"⟩ ∈ lwg := lwg_of ka_6_31.1 rfl
theorem ml_Law_225 : Cond.methodLink "BeardHallLaw" 225 ⟨"BeardHallModel", "heir", "(I)I"⟩ ∈ lwg := lwg_of ka_8_224.1 rfl
theorem ml_Law_226 : Cond.methodLink "BeardHallLaw" 226 ⟨"BeardHallLaw", "lice", "(LBeardHall;I[J)I"⟩ ∈ lwg := lwg_of ka_6_42.1 rfl
theorem ml_Law_228 : Cond.methodLink "BeardHallLaw" 228 ⟨"BeardHallModel", "lice", "(I)I"⟩ ∈ lwg := lwg_of ka_8_232.1 rfl
theorem ml_Law_229 : Cond.methodLink "BeardHallLaw" 229 ⟨"BeardHallLaw", "see", "(LBeardHall;IZ[J)I"⟩ ∈ lwg := lwg_of ka_6_53.1 rfl
theorem ml_Law_232 : Cond.methodLink "BeardHallLaw" 232 ⟨"BeardHallModel", "see", "(IZ)I"⟩ ∈ lwg := lwg_of ka_8_236.1 rfl
theorem ml_Law_233 : Cond.methodLink "BeardHallLaw" 233 ⟨"BeardHallLaw", "ate", "(LBeardHall;II[J)I"⟩ ∈ lwg := lwg_of ka_6_64.1 rfl
theorem ml_Law_235 : Cond.methodLink "BeardHallLaw" 235 ⟨"BeardHallModel", "ate", "(II)I"⟩ ∈ lwg := lwg_of ka_9_0.1 rfl
theorem ml_Law_236 : Cond.methodLink "BeardHallLaw" 236 ⟨"BeardHall", "forget", "()I"⟩ ∈ lwg := lwg_of ka_3_95.1 rfl
theorem ml_Law_239 : Cond.methodLink "BeardHallLaw" 239 ⟨"BeardHallModel", "forget", "()I"⟩ ∈ lwg := lwg_of ka_9_8.1 rfl
theorem ml_Law_240 : Cond.methodLink "BeardHallLaw" 240 ⟨"BeardHallLaw", "game", "(LBeardHall;I[J)I"⟩ ∈ lwg := lwg_of ka_6_85.1 rfl
theorem ml_Law_242 : Cond.methodLink "BeardHallLaw" 242 ⟨"BeardHallModel", "game", "(I)I"⟩ ∈ lwg := lwg_of ka_9_12.1 rfl
theorem ml_Law_243 : Cond.methodLink "BeardHallLaw" 243 ⟨"BeardHallLaw", "season", "(LBeardHall;III[J)I"⟩ ∈ lwg := lwg_of ka_6_118.1 rfl
theorem ml_Law_245 : Cond.methodLink "BeardHallLaw" 245 ⟨"BeardHallModel", "season", "(III)I"⟩ ∈ lwg := lwg_of ka_9_24.1 rfl
theorem ml_Law_246 : Cond.methodLink "BeardHallLaw" 246 ⟨"BeardHall", "image", "()V"⟩ ∈ lwg := lwg_of ka_3_99.1 rfl
theorem ml_Law_249 : Cond.methodLink "BeardHallLaw" 249 ⟨"BeardHallModel", "image", "()V"⟩ ∈ lwg := lwg_of ka_9_35.1 rfl
theorem ml_Law_250 : Cond.methodLink "BeardHallLaw" 250 ⟨"BeardHall", "restore", "()Z"⟩ ∈ lwg := lwg_of ka_3_117.1 rfl
theorem ml_Law_254 : Cond.methodLink "BeardHallLaw" 254 ⟨"BeardHallModel", "restore", "()Z"⟩ ∈ lwg := lwg_of ka_9_42.1 rfl
theorem ml_Model_3 : Cond.methodLink "BeardHallModel" 3 ⟨"java/lang/Object", "<init>", "()V"⟩ ∈ lwg := lwg_of ka_6_150.1 rfl
theorem ml_Model_117 : Cond.methodLink "BeardHallModel" 117 ⟨"BeardHallModel", "isIn", "(JJJ)Z"⟩ ∈ lwg := lwg_of ka_8_15.1 rfl
theorem ml_Model_135 : Cond.methodLink "BeardHallModel" 135 ⟨"BeardHallModel", "byteAt", "(I)I"⟩ ∈ lwg := lwg_of ka_7_78.1 rfl
theorem ml_Model_145 : Cond.methodLink "BeardHallModel" 145 ⟨"BeardHallModel", "isLetter", "(I)Z"⟩ ∈ lwg := lwg_of ka_7_82.1 rfl
theorem ml_Model_149 : Cond.methodLink "BeardHallModel" 149 ⟨"BeardHallModel", "isDigit", "(I)Z"⟩ ∈ lwg := lwg_of ka_7_85.1 rfl
theorem ml_Model_156 : Cond.methodLink "BeardHallModel" 156 ⟨"java/lang/Math", "min", "(II)I"⟩ ∈ lwg := lwg_of ka_7_89.1 rfl
theorem ml_Model_162 : Cond.methodLink "BeardHallModel" 162 ⟨"BeardHallModel", "isMark", "(I)Z"⟩ ∈ lwg := lwg_of ka_7_90.1 rfl
theorem ml_Model_174 : Cond.methodLink "BeardHallModel" 174 ⟨"java/lang/String", "length", "()I"⟩ ∈ lwg := lwg_of ka_7_102.1 rfl
theorem ml_Model_178 : Cond.methodLink "BeardHallModel" 178 ⟨"java/lang/String", "charAt", "(I)C"⟩ ∈ lwg := lwg_of ka_7_103.1 rfl
theorem ml_Model_182 : Cond.methodLink "BeardHallModel" 182 ⟨"BeardHallModel", "is", "(Ljava/lang/String;)Z"⟩ ∈ lwg := lwg_of ka_7_98.1 rfl
theorem ml_Model_186 : Cond.methodLink "BeardHallModel" 186 ⟨"BeardHallModel", "isMarked", "(I)Z"⟩ ∈ lwg := lwg_of ka_7_126.1 rfl
theorem ml_Model_189 : Cond.methodLink "BeardHallModel" 189 ⟨"BeardHallModel", "wrong", "(I)V"⟩ ∈ lwg := lwg_of ka_7_110.1 rfl
theorem ml_Model_193 : Cond.methodLink "BeardHallModel" 193 ⟨"BeardHallModel", "stepOn", "()V"⟩ ∈ lwg := lwg_of ka_7_74.1 rfl
theorem ml_Model_196 : Cond.methodLink "BeardHallModel" 196 ⟨"BeardHallModel", "numberNow", "(II)I"⟩ ∈ lwg := lwg_of ka_7_118.1 rfl
theorem ml_Model_199 : Cond.methodLink "BeardHallModel" 199 ⟨"BeardHallModel", "oneNow", "(I)I"⟩ ∈ lwg := lwg_of ka_7_183.1 rfl
theorem ml_Model_202 : Cond.methodLink "BeardHallModel" 202 ⟨"BeardHallModel", "readNumber", "(II)I"⟩ ∈ lwg := lwg_of ka_7_114.1 rfl
theorem ml_Model_205 : Cond.methodLink "BeardHallModel" 205 ⟨"BeardHallModel", "lay", "(I)V"⟩ ∈ lwg := lwg_of ka_7_151.1 rfl
theorem ml_Model_208 : Cond.methodLink "BeardHallModel" 208 ⟨"BeardHallModel", "which", "([Ljava/lang/String;)I"⟩ ∈ lwg := lwg_of ka_7_106.1 rfl
theorem ml_Model_212 : Cond.methodLink "BeardHallModel" 212 ⟨"BeardHallModel", "mark", "(I)V"⟩ ∈ lwg := lwg_of ka_7_155.1 rfl
theorem ml_Model_215 : Cond.methodLink "BeardHallModel" 215 ⟨"BeardHallModel", "readExpression", "(I)V"⟩ ∈ lwg := lwg_of ka_7_122.1 rfl
theorem ml_Model_218 : Cond.methodLink "BeardHallModel" 218 ⟨"BeardHallModel", "readPart", "(I)V"⟩ ∈ lwg := lwg_of ka_7_147.1 rfl
theorem ml_Model_221 : Cond.methodLink "BeardHallModel" 221 ⟨"BeardHallModel", "readProduct", "(I)V"⟩ ∈ lwg := lwg_of ka_7_143.1 rfl
theorem ml_Model_226 : Cond.methodLink "BeardHallModel" 226 ⟨"BeardHallModel", "readSum", "(I)V"⟩ ∈ lwg := lwg_of ka_7_139.1 rfl
theorem ml_Model_229 : Cond.methodLink "BeardHallModel" 229 ⟨"BeardHallModel", "readNot", "(I)V"⟩ ∈ lwg := lwg_of ka_7_134.1 rfl
theorem ml_Model_234 : Cond.methodLink "BeardHallModel" 234 ⟨"BeardHallModel", "readAnd", "(I)V"⟩ ∈ lwg := lwg_of ka_7_130.1 rfl
theorem ml_Model_239 : Cond.methodLink "BeardHallModel" 239 ⟨"BeardHallModel", "mayHave", "(II)I"⟩ ∈ lwg := lwg_of ka_7_165.1 rfl
theorem ml_Model_242 : Cond.methodLink "BeardHallModel" 242 ⟨"BeardHallModel", "anotherEntry", "()Z"⟩ ∈ lwg := lwg_of ka_7_172.1 rfl
theorem ml_Model_246 : Cond.methodLink "BeardHallModel" 246 ⟨"BeardHallModel", "readAt", "(I)I"⟩ ∈ lwg := lwg_of ka_7_176.1 rfl
theorem ml_Model_249 : Cond.methodLink "BeardHallModel" 249 ⟨"BeardHallModel", "readOne", "(I)I"⟩ ∈ lwg := lwg_of ka_7_179.1 rfl
theorem ml_Model_262 : Cond.methodLink "BeardHallModel" 262 ⟨"BeardHallModel", "readMonk", "(I)V"⟩ ∈ lwg := lwg_of ka_7_161.1 rfl
theorem ml_Model_265 : Cond.methodLink "BeardHallModel" 265 ⟨"BeardHallModel", "readEntry", "(I)V"⟩ ∈ lwg := lwg_of ka_7_168.1 rfl
theorem ml_Model_270 : Cond.methodLink "BeardHallModel" 270 ⟨"BeardHallModel", "readCopy", "()V"⟩ ∈ lwg := lwg_of ka_7_190.1 rfl
theorem ml_Model_273 : Cond.methodLink "BeardHallModel" 273 ⟨"BeardHallModel", "fail", "(I)I"⟩ ∈ lwg := lwg_of ka_7_70.1 rfl
theorem ml_Model_276 : Cond.methodLink "BeardHallModel" 276 ⟨"BeardHallModel", "readLine", "(I)I"⟩ ∈ lwg := lwg_of ka_7_93.1 rfl
theorem ml_Model_279 : Cond.methodLink "BeardHallModel" 279 ⟨"BeardHallModel", "takeOver", "()V"⟩ ∈ lwg := lwg_of ka_7_194.1 rfl
theorem ml_Model_282 : Cond.methodLink "BeardHallModel" 282 ⟨"BeardHallModel", "takeHalf", "([I)V"⟩ ∈ lwg := lwg_of ka_7_198.1 rfl
theorem ml_Model_292 : Cond.methodLink "BeardHallModel" 292 ⟨"BeardHallModel", "loseFar", "()I"⟩ ∈ lwg := lwg_of ka_7_201.1 rfl
theorem ml_Model_305 : Cond.methodLink "BeardHallModel" 305 ⟨"BeardHallModel", "of", "(II)I"⟩ ∈ lwg := lwg_of ka_7_209.1 rfl
theorem ml_Model_308 : Cond.methodLink "BeardHallModel" 308 ⟨"BeardHallModel", "isOf", "(II)Z"⟩ ∈ lwg := lwg_of ka_7_221.1 rfl
theorem ml_Model_312 : Cond.methodLink "BeardHallModel" 312 ⟨"BeardHallModel", "yearOf", "(I)I"⟩ ∈ lwg := lwg_of ka_7_217.1 rfl
theorem ml_Model_315 : Cond.methodLink "BeardHallModel" 315 ⟨"BeardHallModel", "isThere", "(I)Z"⟩ ∈ lwg := lwg_of ka_7_205.1 rfl
theorem ml_Model_318 : Cond.methodLink "BeardHallModel" 318 ⟨"BeardHallModel", "old", "(I)I"⟩ ∈ lwg := lwg_of ka_7_213.1 rfl
theorem ml_Model_320 : Cond.methodLink "BeardHallModel" 320 ⟨"BeardHallModel", "lose", "(I)V"⟩ ∈ lwg := lwg_of ka_7_224.1 rfl
theorem ml_Model_323 : Cond.methodLink "BeardHallModel" 323 ⟨"BeardHallModel", "ageOf", "(I)I"⟩ ∈ lwg := lwg_of ka_8_18.1 rfl
theorem ml_Model_326 : Cond.methodLink "BeardHallModel" 326 ⟨"BeardHallModel", "thereMany", "()I"⟩ ∈ lwg := lwg_of ka_7_236.1 rfl
theorem ml_Model_329 : Cond.methodLink "BeardHallModel" 329 ⟨"BeardHallModel", "records", "()I"⟩ ∈ lwg := lwg_of ka_8_0.1 rfl
theorem ml_Model_332 : Cond.methodLink "BeardHallModel" 332 ⟨"BeardHallModel", "bitsOf", "(I)I"⟩ ∈ lwg := lwg_of ka_8_4.1 rfl
theorem ml_Model_335 : Cond.methodLink "BeardHallModel" 335 ⟨"BeardHallModel", "isMonk", "(I)Z"⟩ ∈ lwg := lwg_of ka_8_11.1 rfl
theorem ml_Model_338 : Cond.methodLink "BeardHallModel" 338 ⟨"BeardHallModel", "isGrey", "(I)Z"⟩ ∈ lwg := lwg_of ka_8_22.1 rfl
theorem ml_Model_341 : Cond.methodLink "BeardHallModel" 341 ⟨"BeardHallModel", "isEntry", "(I)Z"⟩ ∈ lwg := lwg_of ka_8_30.1 rfl
theorem ml_Model_346 : Cond.methodLink "BeardHallModel" 346 ⟨"BeardHallModel", "holdersOf", "(I)I"⟩ ∈ lwg := lwg_of ka_8_39.1 rfl
theorem ml_Model_349 : Cond.methodLink "BeardHallModel" 349 ⟨"BeardHallModel", "reckon", "(III)I"⟩ ∈ lwg := lwg_of ka_8_55.1 rfl
theorem ml_Model_353 : Cond.methodLink "BeardHallModel" 353 ⟨"BeardHallModel", "failing", "(I)Z"⟩ ∈ lwg := lwg_of ka_8_47.1 rfl
theorem ml_Model_356 : Cond.methodLink "BeardHallModel" 356 ⟨"BeardHallModel", "valueNow", "()I"⟩ ∈ lwg := lwg_of ka_8_51.1 rfl
theorem ml_Model_359 : Cond.methodLink "BeardHallModel" 359 ⟨"BeardHallModel", "pack", "([II)V"⟩ ∈ lwg := lwg_of ka_8_71.1 rfl
theorem ml_Model_365 : Cond.methodLink "BeardHallModel" 365 ⟨"BeardHallModel", "refuse", "(I)I"⟩ ∈ lwg := lwg_of ka_8_63.1 rfl
theorem ml_Model_368 : Cond.methodLink "BeardHallModel" 368 ⟨"BeardHallModel", "keep", "()V"⟩ ∈ lwg := lwg_of ka_8_67.1 rfl
theorem ml_Model_371 : Cond.methodLink "BeardHallModel" 371 ⟨"BeardHallModel", "yearGoes", "()V"⟩ ∈ lwg := lwg_of ka_8_75.1 rfl
theorem ml_Model_376 : Cond.methodLink "BeardHallModel" 376 ⟨"BeardHallModel", "isAbout", "(I)Z"⟩ ∈ lwg := lwg_of ka_8_84.1 rfl
theorem ml_Model_381 : Cond.methodLink "BeardHallModel" 381 ⟨"BeardHallModel", "putEntry", "(IIIIII)I"⟩ ∈ lwg := lwg_of ka_8_89.1 rfl
theorem ml_Model_385 : Cond.methodLink "BeardHallModel" 385 ⟨"BeardHallModel", "isLoose", "(I)Z"⟩ ∈ lwg := lwg_of ka_8_101.1 rfl
theorem ml_Model_390 : Cond.methodLink "BeardHallModel" 390 ⟨"BeardHallModel", "mothsEat", "(III)I"⟩ ∈ lwg := lwg_of ka_8_118.1 rfl
theorem ml_Model_393 : Cond.methodLink "BeardHallModel" 393 ⟨"BeardHallModel", "unpack", "([II)V"⟩ ∈ lwg := lwg_of ka_8_130.1 rfl
theorem ml_Model_396 : Cond.methodLink "BeardHallModel" 396 ⟨"BeardHallModel", "isOfKind", "(III)Z"⟩ ∈ lwg := lwg_of ka_8_138.1 rfl
theorem ml_Model_400 : Cond.methodLink "BeardHallModel" 400 ⟨"BeardHallModel", "areRivals", "(II)Z"⟩ ∈ lwg := lwg_of ka_8_146.1 rfl
theorem ml_Model_403 : Cond.methodLink "BeardHallModel" 403 ⟨"BeardHallModel", "owedNow", "(I)I"⟩ ∈ lwg := lwg_of ka_8_154.1 rfl
theorem ml_Model_406 : Cond.methodLink "BeardHallModel" 406 ⟨"BeardHallModel", "shaveNow", "(II)V"⟩ ∈ lwg := lwg_of ka_8_179.1 rfl
theorem ml_Model_412 : Cond.methodLink "BeardHallModel" 412 ⟨"BeardHallModel", "noPlaits", "()I"⟩ ∈ lwg := lwg_of ka_8_171.1 rfl
theorem ml_Model_415 : Cond.methodLink "BeardHallModel" 415 ⟨"BeardHallModel", "lostByRazors", "(I)I"⟩ ∈ lwg := lwg_of ka_8_175.1 rfl
theorem ml_Model_418 : Cond.methodLink "BeardHallModel" 418 ⟨"BeardHallModel", "forgiven", "(III)I"⟩ ∈ lwg := lwg_of ka_8_191.1 rfl
theorem ml_Model_423 : Cond.methodLink "BeardHallModel" 423 ⟨"BeardHallModel", "believers", "(II)I"⟩ ∈ lwg := lwg_of ka_8_208.1 rfl
theorem ml_Model_426 : Cond.methodLink "BeardHallModel" 426 ⟨"BeardHallModel", "recordsOf", "(I)I"⟩ ∈ lwg := lwg_of ka_8_228.1 rfl
theorem ml_Model_429 : Cond.methodLink "BeardHallModel" 429 ⟨"BeardHallModel", "isAsSeen", "()Z"⟩ ∈ lwg := lwg_of ka_9_4.1 rfl
theorem ml_Model_432 : Cond.methodLink "BeardHallModel" 432 ⟨"BeardHallModel", "gain", "(III)I"⟩ ∈ lwg := lwg_of ka_9_20.1 rfl
theorem ml_Model_435 : Cond.methodLink "BeardHallModel" 435 ⟨"BeardHallModel", "rests", "(III)Z"⟩ ∈ lwg := lwg_of ka_9_16.1 rfl
theorem ml_Model_446 : Cond.methodLink "BeardHallModel" 446 ⟨"BeardHallModel", "drawOf", "(I)I"⟩ ∈ lwg := lwg_of ka_9_30.1 rfl
theorem ml_Model_455 : Cond.methodLink "BeardHallModel" 455 ⟨"BeardHallModel", "be", "([I[I)V"⟩ ∈ lwg := lwg_of ka_9_39.1 rfl
theorem ml_JString_335 : Cond.methodLink "java/lang/String" 335 ⟨"java/lang/String", "coder", "()B"⟩ ∈ lwg := lwg_of ka_3_221.1 rfl
theorem ml_JString_492 : Cond.methodLink "java/lang/String" 492 ⟨"java/lang/String", "isLatin1", "()Z"⟩ ∈ lwg := lwg_of ka_3_231.1 rfl
theorem ml_JString_495 : Cond.methodLink "java/lang/String" 495 ⟨"java/lang/StringLatin1", "charAt", "([BI)C"⟩ ∈ lwg := lwg_of ka_3_235.1 rfl
theorem ml_JString_498 : Cond.methodLink "java/lang/String" 498 ⟨"java/lang/StringUTF16", "charAt", "([BI)C"⟩ ∈ lwg := lwg_of ka_4_6.1 rfl
theorem ml_JString_1059 : Cond.methodLink "java/lang/String" 1059 ⟨"jdk/internal/util/Preconditions", "checkIndex", "(IILjava/util/function/BiFunction;)I"⟩ ∈ lwg := lwg_of ka_4_3.1 rfl
theorem ml_JLatin_9 : Cond.methodLink "java/lang/StringLatin1" 9 ⟨"java/lang/String", "checkIndex", "(II)V"⟩ ∈ lwg := lwg_of ka_3_238.1 rfl
theorem ml_JUtf_48 : Cond.methodLink "java/lang/StringUTF16" 48 ⟨"java/lang/StringUTF16", "length", "([B)I"⟩ ∈ lwg := lwg_of ka_4_12.1 rfl
theorem ml_JUtf_67 : Cond.methodLink "java/lang/StringUTF16" 67 ⟨"java/lang/StringUTF16", "checkIndex", "(I[B)V"⟩ ∈ lwg := lwg_of ka_4_9.1 rfl
theorem ml_JUtf_71 : Cond.methodLink "java/lang/StringUTF16" 71 ⟨"java/lang/StringUTF16", "getChar", "([BI)C"⟩ ∈ lwg := lwg_of ka_4_16.1 rfl
theorem ml_JUtf_414 : Cond.methodLink "java/lang/StringUTF16" 414 ⟨"java/lang/String", "checkIndex", "(II)V"⟩ ∈ lwg := lwg_of ka_4_15.1 rfl
theorem kl_Hall_21 : Cond.classLink "BeardHall" 21 "BeardHall$Reader" ∈ lwg := lwg_of ka_1_35.1 rfl
theorem kl_Hall_30 : Cond.classLink "BeardHall" 30 "BeardHall$Roll" ∈ lwg := lwg_of ka_1_200.1 rfl
theorem kl_Hall_37 : Cond.classLink "BeardHall" 37 "BeardHall$Hair" ∈ lwg := lwg_of ka_1_202.1 rfl
theorem kl_Hall_46 : Cond.classLink "BeardHall" 46 "BeardHall$Acts" ∈ lwg := lwg_of ka_1_204.1 rfl
theorem kl_Hall_53 : Cond.classLink "BeardHall" 53 "BeardHall$Seen" ∈ lwg := lwg_of ka_1_218.1 rfl
theorem kl_Hall_60 : Cond.classLink "BeardHall" 60 "BeardHall$Image" ∈ lwg := lwg_of ka_1_235.1 rfl
theorem kl_Hall_67 : Cond.classLink "BeardHall" 67 "BeardHall$Laws" ∈ lwg := lwg_of ka_2_31.1 rfl
theorem kl_Hall_76 : Cond.classLink "BeardHall" 76 "BeardHall$Keeping" ∈ lwg := lwg_of ka_2_44.1 rfl
theorem kl_Hall_83 : Cond.classLink "BeardHall" 83 "BeardHall$Game" ∈ lwg := lwg_of ka_2_60.1 rfl
theorem kl_Hall_90 : Cond.classLink "BeardHall" 90 "BeardHall$Season" ∈ lwg := lwg_of ka_2_82.1 rfl
theorem kl_Hall_110 : Cond.classLink "BeardHall" 110 "java/lang/IllegalArgumentException" ∈ lwg := lwg_of ka_3_129.1 rfl
theorem kl_Hall_175 : Cond.classLink "BeardHall" 175 "java/util/NoSuchElementException" ∈ lwg := lwg_of ka_4_172.1 rfl
theorem kl_Image_15 : Cond.classLink "BeardHall$Image" 15 "BeardHall$Acts" ∈ lwg := lwg_of ka_2_1.1 rfl
theorem kl_Image_22 : Cond.classLink "BeardHall$Image" 22 "BeardHall$Seen" ∈ lwg := lwg_of ka_2_3.1 rfl
theorem kl_Image_32 : Cond.classLink "BeardHall$Image" 32 "BeardHall$Hair" ∈ lwg := lwg_of ka_2_5.1 rfl
theorem kl_Reader_9 : Cond.classLink "BeardHall$Reader" 9 "BeardHall$Roll" ∈ lwg := lwg_of ka_1_41.1 rfl
theorem kl_Reader_18 : Cond.classLink "BeardHall$Reader" 18 "BeardHall$Hair" ∈ lwg := lwg_of ka_1_120.1 rfl
theorem kl_Roll_21 : Cond.classLink "BeardHall$Roll" 21 "BeardHall$Rule" ∈ lwg := lwg_of ka_1_47.1 rfl
theorem kl_Season_7 : Cond.classLink "BeardHall$Season" 7 "BeardHall$Hair" ∈ lwg := lwg_of ka_2_88.1 rfl
theorem kl_Season_18 : Cond.classLink "BeardHall$Season" 18 "BeardHall$Laws" ∈ lwg := lwg_of ka_2_90.1 rfl
theorem kl_Law_8 : Cond.classLink "BeardHallLaw" 8 "BeardHall" ∈ lwg := lwg_of ka_1_27.1 rfl
theorem kl_Law_13 : Cond.classLink "BeardHallLaw" 13 "java/lang/IllegalArgumentException" ∈ lwg := lwg_of ka_3_124.1 rfl
theorem kl_Law_18 : Cond.classLink "BeardHallLaw" 18 "java/util/NoSuchElementException" ∈ lwg := lwg_of ka_4_160.1 rfl
theorem kl_Law_108 : Cond.classLink "BeardHallLaw" 108 "BeardHallModel" ∈ lwg := lwg_of ka_6_145.1 rfl
theorem kl_Model_9 : Cond.classLink "BeardHallModel" 9 "java/lang/String" ∈ lwg := lwg_of ka_6_151.1 rfl
theorem co_Hair_90 : Cond.constant "BeardHall$Hair" 90 2147483647 ∈ lwg := lwg_of ka_2_218.1 rfl
theorem co_Season_76 : Cond.constant "BeardHall$Season" 76 1103515245 ∈ lwg := lwg_of ka_6_136.1 rfl
theorem co_Model_155 : Cond.constant "BeardHallModel" 155 100000 ∈ lwg := lwg_of ka_7_88.1 rfl
theorem co_Model_441 : Cond.constant "BeardHallModel" 441 1103515245 ∈ lwg := lwg_of ka_9_34.1 rfl
theorem co_JInteger_265 : Cond.constant "java/lang/Integer" 265 1431655765 ∈ lwg := lwg_of ka_3_9.1 rfl
theorem co_JInteger_266 : Cond.constant "java/lang/Integer" 266 858993459 ∈ lwg := lwg_of ka_3_10.1 rfl
theorem co_JInteger_267 : Cond.constant "java/lang/Integer" 267 252645135 ∈ lwg := lwg_of ka_3_11.1 rfl
theorem lo_Model_124 : Cond.constantLong "BeardHallModel" 124 (7) ∈ lwg := lwg_of ka_8_87.1 rfl
theorem lo_Model_344 : Cond.constantLong "BeardHallModel" 344 (9) ∈ lwg := lwg_of ka_8_34.1 rfl
theorem lo_Model_363 : Cond.constantLong "BeardHallModel" 363 (30) ∈ lwg := lwg_of ka_8_62.1 rfl
theorem lo_Model_374 : Cond.constantLong "BeardHallModel" 374 (3) ∈ lwg := lwg_of ka_8_83.1 rfl
theorem lo_Model_379 : Cond.constantLong "BeardHallModel" 379 (999) ∈ lwg := lwg_of ka_8_88.1 rfl
theorem lo_Model_388 : Cond.constantLong "BeardHallModel" 388 (60) ∈ lwg := lwg_of ka_8_117.1 rfl
theorem lo_Model_410 : Cond.constantLong "BeardHallModel" 410 (6) ∈ lwg := lwg_of ka_8_170.1 rfl
theorem lo_Model_421 : Cond.constantLong "BeardHallModel" 421 (-1) ∈ lwg := lwg_of ka_8_199.1 rfl
theorem lo_Model_442 : Cond.constantLong "BeardHallModel" 442 (2) ∈ lwg := lwg_of ka_9_28.1 rfl
theorem lo_Model_444 : Cond.constantLong "BeardHallModel" 444 (40) ∈ lwg := lwg_of ka_9_29.1 rfl
/-- what a called method needs of the tables: its code; how it is called -/
abbrev MWc (M : MI) : Cond := if M.2.2.2.2 = [] then Cond.code M.1 M.2.1 M.2.2.1 M.2.2.2.1 else Cond.codeWith M.1 M.2.1 M.2.2.1 M.2.2.2.1 M.2.2.2.2
abbrev MWb (M : MI) (np : Nat) : Prop := MWc M ∈ lwg ∧ Cond.initialized M.1.cls ∈ lwg ∧ plainFor M.1 = true ∧ M.1.cls ≠ "java/lang/invoke/MethodHandle" ∧ M.1.cls ≠ "java/lang/invoke/VarHandle" ∧ (parseMethodDescriptor M.1.desc).map (fun d => d.parameters.length) = some np
abbrev MWv (M : MI) (np : Nat) : Prop := MWb M np ∧ M.2.2.2.2 = [] ∧ Cond.instanceMethod M.1 ∈ lwg ∧ Cond.selects M.1.cls M.1 M.1 ∈ lwg
abbrev MWi (M : MI) (np : Nat) : Prop := MWb M np ∧ M.2.2.2.2 = [] ∧ Cond.instanceMethod M.1 ∈ lwg ∧ M.1.name = "<init>" ∧ M.2.2.2.1 = none
abbrev MWs (M : MI) (np : Nat) : Prop := MWb M np ∧ M.2.2.2.2 = [] ∧ Cond.static M.1 ∈ lwg
abbrev MWh (M : MI) (np : Nat) : Prop := MWb M np ∧ M.2.2.2.2 ≠ [] ∧ Cond.static M.1 ∈ lwg
def M_Acts_init : MI := (⟨"BeardHall$Acts", "<init>", "()V"⟩, prog_2_method_1_code, 1, none, [])
theorem mw_Acts_init : MWi M_Acts_init 0 := ⟨⟨lwg_of ka_1_208.1 rfl, lwg_of ka_1_6.1 rfl, by decide +kernel, by decide, by decide, by decide +kernel⟩, rfl, lwg_of ka_1_207.1 rfl, rfl, rfl⟩
def M_Acts_keep : MI := (⟨"BeardHall$Acts", "keep", "(LBeardHall$Hair;)V"⟩, prog_2_method_2_code, 2, none, [])
theorem mw_Acts_keep : MWv M_Acts_keep 1 := ⟨⟨lwg_of ka_2_189.1 rfl, lwg_of ka_1_6.1 rfl, by decide +kernel, by decide, by decide, by decide +kernel⟩, rfl, lwg_of ka_2_187.1 rfl, lwg_of ka_2_188.1 rfl⟩
def M_Acts_takeBack : MI := (⟨"BeardHall$Acts", "takeBack", "(LBeardHall$Hair;)V"⟩, prog_2_method_3_code, 2, none, [])
theorem mw_Acts_takeBack : MWv M_Acts_takeBack 1 := ⟨⟨lwg_of ka_3_19.1 rfl, lwg_of ka_1_6.1 rfl, by decide +kernel, by decide, by decide, by decide +kernel⟩, rfl, lwg_of ka_3_17.1 rfl, lwg_of ka_3_18.1 rfl⟩
def M_Acts_take : MI := (⟨"BeardHall$Acts", "take", "(LBeardHall$Acts;)V"⟩, prog_2_method_4_code, 2, none, [])
theorem mw_Acts_take : MWv M_Acts_take 1 := ⟨⟨lwg_of ka_3_111.1 rfl, lwg_of ka_1_6.1 rfl, by decide +kernel, by decide, by decide, by decide +kernel⟩, rfl, lwg_of ka_3_109.1 rfl, lwg_of ka_3_110.1 rfl⟩
def M_Game_init : MI := (⟨"BeardHall$Game", "<init>", "(LBeardHall$Hair;)V"⟩, prog_3_method_1_code, 2, none, [])
theorem mw_Game_init : MWi M_Game_init 1 := ⟨⟨lwg_of ka_2_64.1 rfl, lwg_of ka_1_11.1 rfl, by decide +kernel, by decide, by decide, by decide +kernel⟩, rfl, lwg_of ka_2_63.1 rfl, rfl, rfl⟩
def M_Game_couple : MI := (⟨"BeardHall$Game", "couple", "(II)I"⟩, prog_3_method_2_code, 2, (some .int), [])
theorem mw_Game_couple : MWs M_Game_couple 2 := ⟨⟨lwg_of ka_6_100.1 rfl, lwg_of ka_1_11.1 rfl, by decide +kernel, by decide, by decide, by decide +kernel⟩, rfl, lwg_of ka_6_99.1 rfl⟩
def M_Game_tellGains : MI := (⟨"BeardHall$Game", "tellGains", "()V"⟩, prog_3_method_3_code, 4, none, [])
theorem mw_Game_tellGains : MWv M_Game_tellGains 0 := ⟨⟨lwg_of ka_6_95.1 rfl, lwg_of ka_1_11.1 rfl, by decide +kernel, by decide, by decide, by decide +kernel⟩, rfl, lwg_of ka_6_93.1 rfl, lwg_of ka_6_94.1 rfl⟩
def M_Game_isShavable : MI := (⟨"BeardHall$Game", "isShavable", "(I)Z"⟩, prog_3_method_4_code, 2, (some .boolean), [])
theorem mw_Game_isShavable : MWv M_Game_isShavable 1 := ⟨⟨lwg_of ka_6_113.1 rfl, lwg_of ka_1_11.1 rfl, by decide +kernel, by decide, by decide, by decide +kernel⟩, rfl, lwg_of ka_6_112.1 rfl, lwg_of kp_3_9.1 rfl⟩
def M_Game_rests : MI := (⟨"BeardHall$Game", "rests", "(II)Z"⟩, prog_3_method_5_code, 4, (some .boolean), [])
theorem mw_Game_rests : MWv M_Game_rests 2 := ⟨⟨lwg_of ka_6_109.1 rfl, lwg_of ka_1_11.1 rfl, by decide +kernel, by decide, by decide, by decide +kernel⟩, rfl, lwg_of ka_6_108.1 rfl, lwg_of kp_3_8.1 rfl⟩
def M_Game_resting : MI := (⟨"BeardHall$Game", "resting", "()I"⟩, prog_3_method_6_code, 4, (some .int), [])
theorem mw_Game_resting : MWv M_Game_resting 0 := ⟨⟨lwg_of ka_6_105.1 rfl, lwg_of ka_1_11.1 rfl, by decide +kernel, by decide, by decide, by decide +kernel⟩, rfl, lwg_of ka_6_103.1 rfl, lwg_of ka_6_104.1 rfl⟩
def M_Game_firstResting : MI := (⟨"BeardHall$Game", "firstResting", "()I"⟩, prog_3_method_7_code, 3, (some .int), [])
theorem mw_Game_firstResting : MWv M_Game_firstResting 0 := ⟨⟨lwg_of ka_6_117.1 rfl, lwg_of ka_1_11.1 rfl, by decide +kernel, by decide, by decide, by decide +kernel⟩, rfl, lwg_of ka_6_115.1 rfl, lwg_of ka_6_116.1 rfl⟩
def M_Hair_init : MI := (⟨"BeardHall$Hair", "<init>", "(LBeardHall$Roll;)V"⟩, prog_4_method_1_code, 2, none, [])
theorem mw_Hair_init : MWi M_Hair_init 1 := ⟨⟨lwg_of ka_1_124.1 rfl, lwg_of ka_1_5.1 rfl, by decide +kernel, by decide, by decide, by decide +kernel⟩, rfl, lwg_of ka_1_123.1 rfl, rfl, rfl⟩
def M_Hair_begin : MI := (⟨"BeardHall$Hair", "begin", "()V"⟩, prog_4_method_2_code, 1, none, [])
theorem mw_Hair_begin : MWv M_Hair_begin 0 := ⟨⟨lwg_of ka_2_119.1 rfl, lwg_of ka_1_5.1 rfl, by decide +kernel, by decide, by decide, by decide +kernel⟩, rfl, lwg_of ka_2_117.1 rfl, lwg_of ka_2_118.1 rfl⟩
def M_Hair_take : MI := (⟨"BeardHall$Hair", "take", "(LBeardHall$Hair;)V"⟩, prog_4_method_3_code, 2, none, [])
theorem mw_Hair_take : MWv M_Hair_take 1 := ⟨⟨lwg_of ka_3_106.1 rfl, lwg_of ka_1_5.1 rfl, by decide +kernel, by decide, by decide, by decide +kernel⟩, rfl, lwg_of ka_3_104.1 rfl, lwg_of ka_3_105.1 rfl⟩
def M_Hair_writeTo : MI := (⟨"BeardHall$Hair", "writeTo", "([II)V"⟩, prog_4_method_4_code, 3, none, [])
theorem mw_Hair_writeTo : MWv M_Hair_writeTo 2 := ⟨⟨lwg_of ka_2_196.1 rfl, lwg_of ka_1_5.1 rfl, by decide +kernel, by decide, by decide, by decide +kernel⟩, rfl, lwg_of ka_2_194.1 rfl, lwg_of ka_2_195.1 rfl⟩
def M_Hair_readFrom : MI := (⟨"BeardHall$Hair", "readFrom", "([II)V"⟩, prog_4_method_5_code, 3, none, [])
theorem mw_Hair_readFrom : MWv M_Hair_readFrom 2 := ⟨⟨lwg_of ka_3_23.1 rfl, lwg_of ka_1_5.1 rfl, by decide +kernel, by decide, by decide, by decide +kernel⟩, rfl, lwg_of ka_3_21.1 rfl, lwg_of ka_3_22.1 rfl⟩
def M_Hair_isDead : MI := (⟨"BeardHall$Hair", "isDead", "(I)Z"⟩, prog_4_method_6_code, 2, (some .boolean), [])
theorem mw_Hair_isDead : MWv M_Hair_isDead 1 := ⟨⟨lwg_of ka_2_205.1 rfl, lwg_of ka_1_5.1 rfl, by decide +kernel, by decide, by decide, by decide +kernel⟩, rfl, lwg_of ka_2_203.1 rfl, lwg_of ka_2_204.1 rfl⟩
def M_Hair_deadOnes : MI := (⟨"BeardHall$Hair", "deadOnes", "()I"⟩, prog_4_method_7_code, 3, (some .int), [])
theorem mw_Hair_deadOnes : MWv M_Hair_deadOnes 0 := ⟨⟨lwg_of ka_4_171.1 rfl, lwg_of ka_1_5.1 rfl, by decide +kernel, by decide, by decide, by decide +kernel⟩, rfl, lwg_of ka_4_169.1 rfl, lwg_of ka_4_170.1 rfl⟩
def M_Hair_yearOf : MI := (⟨"BeardHall$Hair", "yearOf", "(I)I"⟩, prog_4_method_8_code, 2, (some .int), [])
theorem mw_Hair_yearOf : MWv M_Hair_yearOf 1 := ⟨⟨lwg_of ka_2_238.1 rfl, lwg_of ka_1_5.1 rfl, by decide +kernel, by decide, by decide, by decide +kernel⟩, rfl, lwg_of ka_2_236.1 rfl, lwg_of ka_2_237.1 rfl⟩
def M_Hair_ageOf : MI := (⟨"BeardHall$Hair", "ageOf", "(I)I"⟩, prog_4_method_9_code, 2, (some .int), [])
theorem mw_Hair_ageOf : MWv M_Hair_ageOf 1 := ⟨⟨lwg_of ka_4_203.1 rfl, lwg_of ka_1_5.1 rfl, by decide +kernel, by decide, by decide, by decide +kernel⟩, rfl, lwg_of ka_4_201.1 rfl, lwg_of ka_4_202.1 rfl⟩
def M_Hair_isGrey : MI := (⟨"BeardHall$Hair", "isGrey", "(I)Z"⟩, prog_4_method_10_code, 2, (some .boolean), [])
theorem mw_Hair_isGrey : MWv M_Hair_isGrey 1 := ⟨⟨lwg_of ka_4_208.1 rfl, lwg_of ka_1_5.1 rfl, by decide +kernel, by decide, by decide, by decide +kernel⟩, rfl, lwg_of ka_4_206.1 rfl, lwg_of ka_4_207.1 rfl⟩
def M_Hair_breadths : MI := (⟨"BeardHall$Hair", "breadths", "(I)I"⟩, prog_4_method_11_code, 2, (some .int), [])
theorem mw_Hair_breadths : MWv M_Hair_breadths 1 := ⟨⟨lwg_of ka_2_234.1 rfl, lwg_of ka_1_5.1 rfl, by decide +kernel, by decide, by decide, by decide +kernel⟩, rfl, lwg_of ka_2_232.1 rfl, lwg_of ka_2_233.1 rfl⟩
def M_Hair_isFull : MI := (⟨"BeardHall$Hair", "isFull", "()Z"⟩, prog_4_method_12_code, 1, (some .boolean), [])
theorem mw_Hair_isFull : MWv M_Hair_isFull 0 := ⟨⟨lwg_of ka_4_63.1 rfl, lwg_of ka_1_5.1 rfl, by decide +kernel, by decide, by decide, by decide +kernel⟩, rfl, lwg_of ka_4_61.1 rfl, lwg_of ka_4_62.1 rfl⟩
def M_Hair_isThere : MI := (⟨"BeardHall$Hair", "isThere", "(I)Z"⟩, prog_4_method_13_code, 2, (some .boolean), [])
theorem mw_Hair_isThere : MWv M_Hair_isThere 1 := ⟨⟨lwg_of ka_4_232.1 rfl, lwg_of ka_1_5.1 rfl, by decide +kernel, by decide, by decide, by decide +kernel⟩, rfl, lwg_of ka_4_230.1 rfl, lwg_of ka_4_231.1 rfl⟩
def M_Hair_isKnotted : MI := (⟨"BeardHall$Hair", "isKnotted", "(I)Z"⟩, prog_4_method_14_code, 2, (some .boolean), [])
theorem mw_Hair_isKnotted : MWv M_Hair_isKnotted 1 := ⟨⟨lwg_of ka_4_228.1 rfl, lwg_of ka_1_5.1 rfl, by decide +kernel, by decide, by decide, by decide +kernel⟩, rfl, lwg_of ka_4_226.1 rfl, lwg_of ka_4_227.1 rfl⟩
def M_Hair_allThere : MI := (⟨"BeardHall$Hair", "allThere", "()I"⟩, prog_4_method_15_code, 1, (some .int), [])
theorem mw_Hair_allThere : MWv M_Hair_allThere 0 := ⟨⟨lwg_of ka_3_66.1 rfl, lwg_of ka_1_5.1 rfl, by decide +kernel, by decide, by decide, by decide +kernel⟩, rfl, lwg_of ka_3_64.1 rfl, lwg_of ka_3_65.1 rfl⟩
def M_Hair_thereOf : MI := (⟨"BeardHall$Hair", "thereOf", "(I)I"⟩, prog_4_method_16_code, 4, (some .int), [])
theorem mw_Hair_thereOf : MWv M_Hair_thereOf 1 := ⟨⟨lwg_of ka_2_226.1 rfl, lwg_of ka_1_5.1 rfl, by decide +kernel, by decide, by decide, by decide +kernel⟩, rfl, lwg_of ka_2_224.1 rfl, lwg_of ka_2_225.1 rfl⟩
def M_Hair_recordsOf : MI := (⟨"BeardHall$Hair", "recordsOf", "(I)I"⟩, prog_4_method_17_code, 4, (some .int), [])
theorem mw_Hair_recordsOf : MWv M_Hair_recordsOf 1 := ⟨⟨lwg_of ka_3_58.1 rfl, lwg_of ka_1_5.1 rfl, by decide +kernel, by decide, by decide, by decide +kernel⟩, rfl, lwg_of ka_3_56.1 rfl, lwg_of ka_3_57.1 rfl⟩
def M_Hair_recordsThere : MI := (⟨"BeardHall$Hair", "recordsThere", "()I"⟩, prog_4_method_18_code, 1, (some .int), [])
theorem mw_Hair_recordsThere : MWv M_Hair_recordsThere 0 := ⟨⟨lwg_of ka_3_62.1 rfl, lwg_of ka_1_5.1 rfl, by decide +kernel, by decide, by decide, by decide +kernel⟩, rfl, lwg_of ka_3_60.1 rfl, lwg_of ka_3_61.1 rfl⟩
def M_Hair_recordsHeldBy : MI := (⟨"BeardHall$Hair", "recordsHeldBy", "(I)I"⟩, prog_4_method_19_code, 2, (some .int), [])
theorem mw_Hair_recordsHeldBy : MWv M_Hair_recordsHeldBy 1 := ⟨⟨lwg_of ka_3_54.1 rfl, lwg_of ka_1_5.1 rfl, by decide +kernel, by decide, by decide, by decide +kernel⟩, rfl, lwg_of ka_3_52.1 rfl, lwg_of ka_3_53.1 rfl⟩
def M_Hair_holds : MI := (⟨"BeardHall$Hair", "holds", "(II)Z"⟩, prog_4_method_20_code, 3, (some .boolean), [])
theorem mw_Hair_holds : MWv M_Hair_holds 2 := ⟨⟨lwg_of ka_4_97.1 rfl, lwg_of ka_1_5.1 rfl, by decide +kernel, by decide, by decide, by decide +kernel⟩, rfl, lwg_of ka_4_95.1 rfl, lwg_of ka_4_96.1 rfl⟩
def M_Hair_monksWith : MI := (⟨"BeardHall$Hair", "monksWith", "(I)I"⟩, prog_4_method_21_code, 5, (some .int), [])
theorem mw_Hair_monksWith : MWv M_Hair_monksWith 1 := ⟨⟨lwg_of ka_3_84.1 rfl, lwg_of ka_1_5.1 rfl, by decide +kernel, by decide, by decide, by decide +kernel⟩, rfl, lwg_of ka_3_82.1 rfl, lwg_of ka_3_83.1 rfl⟩
def M_Hair_recordsLostBy : MI := (⟨"BeardHall$Hair", "recordsLostBy", "(I)I"⟩, prog_4_method_22_code, 3, (some .int), [])
theorem mw_Hair_recordsLostBy : MWv M_Hair_recordsLostBy 1 := ⟨⟨lwg_of ka_5_162.1 rfl, lwg_of ka_1_5.1 rfl, by decide +kernel, by decide, by decide, by decide +kernel⟩, rfl, lwg_of ka_5_160.1 rfl, lwg_of ka_5_161.1 rfl⟩
def M_Hair_valuesOf : MI := (⟨"BeardHall$Hair", "valuesOf", "(II)I"⟩, prog_4_method_23_code, 5, (some .int), [])
theorem mw_Hair_valuesOf : MWv M_Hair_valuesOf 2 := ⟨⟨lwg_of ka_5_198.1 rfl, lwg_of ka_1_5.1 rfl, by decide +kernel, by decide, by decide, by decide +kernel⟩, rfl, lwg_of ka_5_196.1 rfl, lwg_of ka_5_197.1 rfl⟩
def M_Hair_beyond : MI := (⟨"BeardHall$Hair", "beyond", "(II)I"⟩, prog_4_method_24_code, 3, (some .int), [])
theorem mw_Hair_beyond : MWv M_Hair_beyond 2 := ⟨⟨lwg_of ka_2_217.1 rfl, lwg_of ka_1_5.1 rfl, by decide +kernel, by decide, by decide, by decide +kernel⟩, rfl, lwg_of ka_2_215.1 rfl, lwg_of ka_2_216.1 rfl⟩
def M_Hair_eatable : MI := (⟨"BeardHall$Hair", "eatable", "(III)I"⟩, prog_4_method_25_code, 4, (some .int), [])
theorem mw_Hair_eatable : MWv M_Hair_eatable 3 := ⟨⟨lwg_of ka_5_97.1 rfl, lwg_of ka_1_5.1 rfl, by decide +kernel, by decide, by decide, by decide +kernel⟩, rfl, lwg_of ka_5_95.1 rfl, lwg_of ka_5_96.1 rfl⟩
def M_Hair_between : MI := (⟨"BeardHall$Hair", "between", "(III)I"⟩, prog_4_method_26_code, 8, (some .int), [])
theorem mw_Hair_between : MWv M_Hair_between 3 := ⟨⟨lwg_of ka_2_222.1 rfl, lwg_of ka_1_5.1 rfl, by decide +kernel, by decide, by decide, by decide +kernel⟩, rfl, lwg_of ka_2_221.1 rfl, lwg_of kp_1_2.1 rfl⟩
def M_Hair_lose : MI := (⟨"BeardHall$Hair", "lose", "(I)I"⟩, prog_4_method_27_code, 2, (some .int), [])
theorem mw_Hair_lose : MWv M_Hair_lose 1 := ⟨⟨lwg_of ka_3_5.1 rfl, lwg_of ka_1_5.1 rfl, by decide +kernel, by decide, by decide, by decide +kernel⟩, rfl, lwg_of ka_3_3.1 rfl, lwg_of ka_3_4.1 rfl⟩
def M_Hair_shaveTo : MI := (⟨"BeardHall$Hair", "shaveTo", "(II)I"⟩, prog_4_method_28_code, 3, (some .int), [])
theorem mw_Hair_shaveTo : MWv M_Hair_shaveTo 2 := ⟨⟨lwg_of ka_5_86.1 rfl, lwg_of ka_1_5.1 rfl, by decide +kernel, by decide, by decide, by decide +kernel⟩, rfl, lwg_of ka_5_84.1 rfl, lwg_of ka_5_85.1 rfl⟩
def M_Hair_tie : MI := (⟨"BeardHall$Hair", "tie", "(I)V"⟩, prog_4_method_29_code, 2, none, [])
theorem mw_Hair_tie : MWv M_Hair_tie 1 := ⟨⟨lwg_of ka_4_84.1 rfl, lwg_of ka_1_5.1 rfl, by decide +kernel, by decide, by decide, by decide +kernel⟩, rfl, lwg_of ka_4_82.1 rfl, lwg_of ka_4_83.1 rfl⟩
def M_Hair_pass : MI := (⟨"BeardHall$Hair", "pass", "(I)V"⟩, prog_4_method_30_code, 3, none, [])
theorem mw_Hair_pass : MWv M_Hair_pass 1 := ⟨⟨lwg_of ka_2_201.1 rfl, lwg_of ka_1_5.1 rfl, by decide +kernel, by decide, by decide, by decide +kernel⟩, rfl, lwg_of ka_2_199.1 rfl, lwg_of ka_2_200.1 rfl⟩
def M_Hair_braidIn : MI := (⟨"BeardHall$Hair", "braidIn", "(IIIII)I"⟩, prog_4_method_31_code, 7, (some .int), [])
theorem mw_Hair_braidIn : MWv M_Hair_braidIn 5 := ⟨⟨lwg_of ka_4_71.1 rfl, lwg_of ka_1_5.1 rfl, by decide +kernel, by decide, by decide, by decide +kernel⟩, rfl, lwg_of ka_4_69.1 rfl, lwg_of ka_4_70.1 rfl⟩
def M_Hair_copyInto : MI := (⟨"BeardHall$Hair", "copyInto", "(III)I"⟩, prog_4_method_32_code, 5, (some .int), [])
theorem mw_Hair_copyInto : MWv M_Hair_copyInto 3 := ⟨⟨lwg_of ka_4_102.1 rfl, lwg_of ka_1_5.1 rfl, by decide +kernel, by decide, by decide, by decide +kernel⟩, rfl, lwg_of ka_4_100.1 rfl, lwg_of ka_4_101.1 rfl⟩
def M_Hair_settle : MI := (⟨"BeardHall$Hair", "settle", "(II)V"⟩, prog_4_method_33_code, 4, none, [])
theorem mw_Hair_settle : MWv M_Hair_settle 2 := ⟨⟨lwg_of ka_4_79.1 rfl, lwg_of ka_1_5.1 rfl, by decide +kernel, by decide, by decide, by decide +kernel⟩, rfl, lwg_of ka_4_78.1 rfl, lwg_of kp_2_1.1 rfl⟩
def M_Image_init : MI := (⟨"BeardHall$Image", "<init>", "(LBeardHall$Roll;)V"⟩, prog_5_method_1_code, 2, none, [])
theorem mw_Image_init : MWi M_Image_init 1 := ⟨⟨lwg_of ka_1_239.1 rfl, lwg_of ka_1_8.1 rfl, by decide +kernel, by decide, by decide, by decide +kernel⟩, rfl, lwg_of ka_1_238.1 rfl, rfl, rfl⟩
def M_Keeping_init : MI := (⟨"BeardHall$Keeping", "<init>", "(LBeardHall$Hair;)V"⟩, prog_6_method_1_code, 2, none, [])
theorem mw_Keeping_init : MWi M_Keeping_init 1 := ⟨⟨lwg_of ka_2_48.1 rfl, lwg_of ka_1_10.1 rfl, by decide +kernel, by decide, by decide, by decide +kernel⟩, rfl, lwg_of ka_2_47.1 rfl, rfl, rfl⟩
def M_Keeping_unionOf : MI := (⟨"BeardHall$Keeping", "unionOf", "(I)I"⟩, prog_6_method_2_code, 4, (some .int), [])
theorem mw_Keeping_unionOf : MWv M_Keeping_unionOf 1 := ⟨⟨lwg_of ka_3_71.1 rfl, lwg_of ka_1_10.1 rfl, by decide +kernel, by decide, by decide, by decide +kernel⟩, rfl, lwg_of ka_3_70.1 rfl, lwg_of kp_1_5.1 rfl⟩
def M_Keeping_fewestWithAll : MI := (⟨"BeardHall$Keeping", "fewestWithAll", "()I"⟩, prog_6_method_3_code, 5, (some .int), [])
theorem mw_Keeping_fewestWithAll : MWv M_Keeping_fewestWithAll 0 := ⟨⟨lwg_of ka_3_50.1 rfl, lwg_of ka_1_10.1 rfl, by decide +kernel, by decide, by decide, by decide +kernel⟩, rfl, lwg_of ka_3_48.1 rfl, lwg_of ka_3_49.1 rfl⟩
def M_Keeping_heldByOne : MI := (⟨"BeardHall$Keeping", "heldByOne", "()I"⟩, prog_6_method_4_code, 4, (some .int), [])
theorem mw_Keeping_heldByOne : MWv M_Keeping_heldByOne 0 := ⟨⟨lwg_of ka_3_80.1 rfl, lwg_of ka_1_10.1 rfl, by decide +kernel, by decide, by decide, by decide +kernel⟩, rfl, lwg_of ka_3_78.1 rfl, lwg_of ka_3_79.1 rfl⟩
def M_Keeping_worstToShave : MI := (⟨"BeardHall$Keeping", "worstToShave", "(I)I"⟩, prog_6_method_5_code, 8, (some .int), [])
theorem mw_Keeping_worstToShave : MWv M_Keeping_worstToShave 1 := ⟨⟨lwg_of ka_5_152.1 rfl, lwg_of ka_1_10.1 rfl, by decide +kernel, by decide, by decide, by decide +kernel⟩, rfl, lwg_of ka_5_150.1 rfl, lwg_of ka_5_151.1 rfl⟩
def M_Keeping_shavableOnes : MI := (⟨"BeardHall$Keeping", "shavableOnes", "()I"⟩, prog_6_method_6_code, 3, (some .int), [])
theorem mw_Keeping_shavableOnes : MWv M_Keeping_shavableOnes 0 := ⟨⟨lwg_of ka_5_156.1 rfl, lwg_of ka_1_10.1 rfl, by decide +kernel, by decide, by decide, by decide +kernel⟩, rfl, lwg_of ka_5_155.1 rfl, lwg_of kp_3_4.1 rfl⟩
def M_Keeping_leastLength : MI := (⟨"BeardHall$Keeping", "leastLength", "(I)I"⟩, prog_6_method_7_code, 4, (some .int), [])
theorem mw_Keeping_leastLength : MWv M_Keeping_leastLength 1 := ⟨⟨lwg_of ka_5_173.1 rfl, lwg_of ka_1_10.1 rfl, by decide +kernel, by decide, by decide, by decide +kernel⟩, rfl, lwg_of ka_5_171.1 rfl, lwg_of ka_5_172.1 rfl⟩
def M_Keeping_bestForDebtors : MI := (⟨"BeardHall$Keeping", "bestForDebtors", "(II)I"⟩, prog_6_method_8_code, 7, (some .int), [])
theorem mw_Keeping_bestForDebtors : MWv M_Keeping_bestForDebtors 2 := ⟨⟨lwg_of ka_5_189.1 rfl, lwg_of ka_1_10.1 rfl, by decide +kernel, by decide, by decide, by decide +kernel⟩, rfl, lwg_of ka_5_187.1 rfl, lwg_of ka_5_188.1 rfl⟩
def M_Keeping_debtsEaten : MI := (⟨"BeardHall$Keeping", "debtsEaten", "(III)I"⟩, prog_6_method_9_code, 4, (some .int), [])
theorem mw_Keeping_debtsEaten : MWv M_Keeping_debtsEaten 3 := ⟨⟨lwg_of ka_5_193.1 rfl, lwg_of ka_1_10.1 rfl, by decide +kernel, by decide, by decide, by decide +kernel⟩, rfl, lwg_of ka_5_191.1 rfl, lwg_of ka_5_192.1 rfl⟩
def M_Keeping_readOn : MI := (⟨"BeardHall$Keeping", "readOn", "(II)I"⟩, prog_6_method_10_code, 6, (some .int), [])
theorem mw_Keeping_readOn : MWv M_Keeping_readOn 2 := ⟨⟨lwg_of ka_5_211.1 rfl, lwg_of ka_1_10.1 rfl, by decide +kernel, by decide, by decide, by decide +kernel⟩, rfl, lwg_of ka_5_209.1 rfl, lwg_of ka_5_210.1 rfl⟩
def M_Keeping_dayOf : MI := (⟨"BeardHall$Keeping", "dayOf", "(I)I"⟩, prog_6_method_11_code, 3, (some .int), [])
theorem mw_Keeping_dayOf : MWv M_Keeping_dayOf 1 := ⟨⟨lwg_of ka_5_216.1 rfl, lwg_of ka_1_10.1 rfl, by decide +kernel, by decide, by decide, by decide +kernel⟩, rfl, lwg_of ka_5_215.1 rfl, lwg_of kp_3_5.1 rfl⟩
def M_Keeping_yearsLeft : MI := (⟨"BeardHall$Keeping", "yearsLeft", "(I)I"⟩, prog_6_method_12_code, 3, (some .int), [])
theorem mw_Keeping_yearsLeft : MWv M_Keeping_yearsLeft 1 := ⟨⟨lwg_of ka_6_16.1 rfl, lwg_of ka_1_10.1 rfl, by decide +kernel, by decide, by decide, by decide +kernel⟩, rfl, lwg_of ka_6_14.1 rfl, lwg_of ka_6_15.1 rfl⟩
def M_Keeping_lostWithin : MI := (⟨"BeardHall$Keeping", "lostWithin", "(I)I"⟩, prog_6_method_13_code, 5, (some .int), [])
theorem mw_Keeping_lostWithin : MWv M_Keeping_lostWithin 1 := ⟨⟨lwg_of ka_6_29.1 rfl, lwg_of ka_1_10.1 rfl, by decide +kernel, by decide, by decide, by decide +kernel⟩, rfl, lwg_of ka_6_27.1 rfl, lwg_of ka_6_28.1 rfl⟩
def M_Keeping_bestForBraiding : MI := (⟨"BeardHall$Keeping", "bestForBraiding", "()I"⟩, prog_6_method_14_code, 3, (some .int), [])
theorem mw_Keeping_bestForBraiding : MWv M_Keeping_bestForBraiding 0 := ⟨⟨lwg_of ka_3_92.1 rfl, lwg_of ka_1_10.1 rfl, by decide +kernel, by decide, by decide, by decide +kernel⟩, rfl, lwg_of ka_3_90.1 rfl, lwg_of ka_3_91.1 rfl⟩
def M_Keeping_mostAlike : MI := (⟨"BeardHall$Keeping", "mostAlike", "(I)I"⟩, prog_6_method_15_code, 7, (some .int), [])
theorem mw_Keeping_mostAlike : MWv M_Keeping_mostAlike 1 := ⟨⟨lwg_of ka_6_41.1 rfl, lwg_of ka_1_10.1 rfl, by decide +kernel, by decide, by decide, by decide +kernel⟩, rfl, lwg_of ka_6_39.1 rfl, lwg_of ka_6_40.1 rfl⟩
def M_Keeping_audit : MI := (⟨"BeardHall$Keeping", "audit", "(I)I"⟩, prog_6_method_16_code, 5, (some .int), [])
theorem mw_Keeping_audit : MWv M_Keeping_audit 1 := ⟨⟨lwg_of ka_6_52.1 rfl, lwg_of ka_1_10.1 rfl, by decide +kernel, by decide, by decide, by decide +kernel⟩, rfl, lwg_of ka_6_50.1 rfl, lwg_of ka_6_51.1 rfl⟩
def M_Laws_init : MI := (⟨"BeardHall$Laws", "<init>", "(LBeardHall$Hair;)V"⟩, prog_7_method_1_code, 2, none, [])
theorem mw_Laws_init : MWi M_Laws_init 1 := ⟨⟨lwg_of ka_2_35.1 rfl, lwg_of ka_1_9.1 rfl, by decide +kernel, by decide, by decide, by decide +kernel⟩, rfl, lwg_of ka_2_34.1 rfl, rfl, rfl⟩
def M_Laws_isThereOf : MI := (⟨"BeardHall$Laws", "isThereOf", "(III)Z"⟩, prog_7_method_2_code, 4, (some .boolean), [])
theorem mw_Laws_isThereOf : MWv M_Laws_isThereOf 3 := ⟨⟨lwg_of ka_5_123.1 rfl, lwg_of ka_1_9.1 rfl, by decide +kernel, by decide, by decide, by decide +kernel⟩, rfl, lwg_of ka_5_122.1 rfl, lwg_of kp_3_2.1 rfl⟩
def M_Laws_standing : MI := (⟨"BeardHall$Laws", "standing", "(I)I"⟩, prog_7_method_3_code, 7, (some .int), [])
theorem mw_Laws_standing : MWv M_Laws_standing 1 := ⟨⟨lwg_of ka_5_119.1 rfl, lwg_of ka_1_9.1 rfl, by decide +kernel, by decide, by decide, by decide +kernel⟩, rfl, lwg_of ka_5_117.1 rfl, lwg_of ka_5_118.1 rfl⟩
def M_Laws_rivalCouples : MI := (⟨"BeardHall$Laws", "rivalCouples", "()I"⟩, prog_7_method_4_code, 4, (some .int), [])
theorem mw_Laws_rivalCouples : MWv M_Laws_rivalCouples 0 := ⟨⟨lwg_of ka_3_31.1 rfl, lwg_of ka_1_9.1 rfl, by decide +kernel, by decide, by decide, by decide +kernel⟩, rfl, lwg_of ka_3_29.1 rfl, lwg_of ka_3_30.1 rfl⟩
def M_Laws_areRivals : MI := (⟨"BeardHall$Laws", "areRivals", "(II)Z"⟩, prog_7_method_5_code, 7, (some .boolean), [])
theorem mw_Laws_areRivals : MWv M_Laws_areRivals 2 := ⟨⟨lwg_of ka_3_35.1 rfl, lwg_of ka_1_9.1 rfl, by decide +kernel, by decide, by decide, by decide +kernel⟩, rfl, lwg_of ka_3_34.1 rfl, lwg_of kp_1_3.1 rfl⟩
def M_Laws_differ : MI := (⟨"BeardHall$Laws", "differ", "(II)Z"⟩, prog_7_method_6_code, 3, (some .boolean), [])
theorem mw_Laws_differ : MWv M_Laws_differ 2 := ⟨⟨lwg_of ka_3_41.1 rfl, lwg_of ka_1_9.1 rfl, by decide +kernel, by decide, by decide, by decide +kernel⟩, rfl, lwg_of ka_3_40.1 rfl, lwg_of kp_1_4.1 rfl⟩
def M_Laws_balance : MI := (⟨"BeardHall$Laws", "balance", "(I)I"⟩, prog_7_method_7_code, 5, (some .int), [])
theorem mw_Laws_balance : MWv M_Laws_balance 1 := ⟨⟨lwg_of ka_5_135.1 rfl, lwg_of ka_1_9.1 rfl, by decide +kernel, by decide, by decide, by decide +kernel⟩, rfl, lwg_of ka_5_133.1 rfl, lwg_of ka_5_134.1 rfl⟩
def M_Laws_owing : MI := (⟨"BeardHall$Laws", "owing", "(I)I"⟩, prog_7_method_8_code, 2, (some .int), [])
theorem mw_Laws_owing : MWv M_Laws_owing 1 := ⟨⟨lwg_of ka_5_140.1 rfl, lwg_of ka_1_9.1 rfl, by decide +kernel, by decide, by decide, by decide +kernel⟩, rfl, lwg_of ka_5_139.1 rfl, lwg_of kp_3_3.1 rfl⟩
def M_Laws_earliest : MI := (⟨"BeardHall$Laws", "earliest", "(II)I"⟩, prog_7_method_9_code, 5, (some .int), [])
theorem mw_Laws_earliest : MWv M_Laws_earliest 2 := ⟨⟨lwg_of ka_5_229.1 rfl, lwg_of ka_1_9.1 rfl, by decide +kernel, by decide, by decide, by decide +kernel⟩, rfl, lwg_of ka_5_227.1 rfl, lwg_of ka_5_228.1 rfl⟩
def M_Laws_mostHeld : MI := (⟨"BeardHall$Laws", "mostHeld", "(I)I"⟩, prog_7_method_10_code, 7, (some .int), [])
theorem mw_Laws_mostHeld : MWv M_Laws_mostHeld 1 := ⟨⟨lwg_of ka_6_0.1 rfl, lwg_of ka_1_9.1 rfl, by decide +kernel, by decide, by decide, by decide +kernel⟩, rfl, lwg_of ka_5_238.1 rfl, lwg_of ka_5_239.1 rfl⟩
def M_Laws_monksSaying : MI := (⟨"BeardHall$Laws", "monksSaying", "(II)I"⟩, prog_7_method_11_code, 5, (some .int), [])
theorem mw_Laws_monksSaying : MWv M_Laws_monksSaying 2 := ⟨⟨lwg_of ka_6_4.1 rfl, lwg_of ka_1_9.1 rfl, by decide +kernel, by decide, by decide, by decide +kernel⟩, rfl, lwg_of ka_6_3.1 rfl, lwg_of kp_3_6.1 rfl⟩
def M_Reader_init : MI := (⟨"BeardHall$Reader", "<init>", "([B)V"⟩, prog_8_method_1_code, 2, none, [])
theorem mw_Reader_init : MWi M_Reader_init 1 := ⟨⟨lwg_of ka_1_39.1 rfl, lwg_of ka_1_2.1 rfl, by decide +kernel, by decide, by decide, by decide +kernel⟩, rfl, lwg_of ka_1_38.1 rfl, rfl, rfl⟩
def M_Reader_read : MI := (⟨"BeardHall$Reader", "read", "(I)V"⟩, prog_8_method_2_code, 3, none, [])
theorem mw_Reader_read : MWv M_Reader_read 1 := ⟨⟨lwg_of ka_3_198.1 rfl, lwg_of ka_1_2.1 rfl, by decide +kernel, by decide, by decide, by decide +kernel⟩, rfl, lwg_of ka_3_196.1 rfl, lwg_of ka_3_197.1 rfl⟩
def M_Reader_fail : MI := (⟨"BeardHall$Reader", "fail", "(I)V"⟩, prog_8_method_3_code, 2, none, [])
theorem mw_Reader_fail : MWv M_Reader_fail 1 := ⟨⟨lwg_of ka_4_42.1 rfl, lwg_of ka_1_2.1 rfl, by decide +kernel, by decide, by decide, by decide +kernel⟩, rfl, lwg_of ka_4_41.1 rfl, lwg_of kp_1_11.1 rfl⟩
def M_Reader_advance : MI := (⟨"BeardHall$Reader", "advance", "()V"⟩, prog_8_method_4_code, 2, none, [])
theorem mw_Reader_advance : MWv M_Reader_advance 0 := ⟨⟨lwg_of ka_3_205.1 rfl, lwg_of ka_1_2.1 rfl, by decide +kernel, by decide, by decide, by decide +kernel⟩, rfl, lwg_of ka_3_204.1 rfl, lwg_of kp_1_7.1 rfl⟩
def M_Reader_takeWord : MI := (⟨"BeardHall$Reader", "takeWord", "()V"⟩, prog_8_method_5_code, 6, none, [])
theorem mw_Reader_takeWord : MWv M_Reader_takeWord 0 := ⟨⟨lwg_of ka_3_215.1 rfl, lwg_of ka_1_2.1 rfl, by decide +kernel, by decide, by decide, by decide +kernel⟩, rfl, lwg_of ka_3_214.1 rfl, lwg_of kp_1_8.1 rfl⟩
def M_Reader_takeDigits : MI := (⟨"BeardHall$Reader", "takeDigits", "()V"⟩, prog_8_method_6_code, 2, none, [])
theorem mw_Reader_takeDigits : MWv M_Reader_takeDigits 0 := ⟨⟨lwg_of ka_4_31.1 rfl, lwg_of ka_1_2.1 rfl, by decide +kernel, by decide, by decide, by decide +kernel⟩, rfl, lwg_of ka_4_30.1 rfl, lwg_of kp_1_9.1 rfl⟩
def M_Reader_isBlank : MI := (⟨"BeardHall$Reader", "isBlank", "(I)Z"⟩, prog_8_method_7_code, 1, (some .boolean), [])
theorem mw_Reader_isBlank : MWs M_Reader_isBlank 1 := ⟨⟨lwg_of ka_3_208.1 rfl, lwg_of ka_1_2.1 rfl, by decide +kernel, by decide, by decide, by decide +kernel⟩, rfl, lwg_of ka_3_207.1 rfl⟩
def M_Reader_isLetter : MI := (⟨"BeardHall$Reader", "isLetter", "(I)Z"⟩, prog_8_method_8_code, 1, (some .boolean), [])
theorem mw_Reader_isLetter : MWs M_Reader_isLetter 1 := ⟨⟨lwg_of ka_3_211.1 rfl, lwg_of ka_1_2.1 rfl, by decide +kernel, by decide, by decide, by decide +kernel⟩, rfl, lwg_of ka_3_210.1 rfl⟩
def M_Reader_isDigit : MI := (⟨"BeardHall$Reader", "isDigit", "(I)Z"⟩, prog_8_method_9_code, 1, (some .boolean), [])
theorem mw_Reader_isDigit : MWs M_Reader_isDigit 1 := ⟨⟨lwg_of ka_4_27.1 rfl, lwg_of ka_1_2.1 rfl, by decide +kernel, by decide, by decide, by decide +kernel⟩, rfl, lwg_of ka_4_26.1 rfl⟩
def M_Reader_isSign : MI := (⟨"BeardHall$Reader", "isSign", "(I)Z"⟩, prog_8_method_10_code, 1, (some .boolean), [])
theorem mw_Reader_isSign : MWs M_Reader_isSign 1 := ⟨⟨lwg_of ka_4_34.1 rfl, lwg_of ka_1_2.1 rfl, by decide +kernel, by decide, by decide, by decide +kernel⟩, rfl, lwg_of ka_4_33.1 rfl⟩
def M_Reader_expect : MI := (⟨"BeardHall$Reader", "expect", "(I)V"⟩, prog_8_method_11_code, 2, none, [])
theorem mw_Reader_expect : MWv M_Reader_expect 1 := ⟨⟨lwg_of ka_4_142.1 rfl, lwg_of ka_1_2.1 rfl, by decide +kernel, by decide, by decide, by decide +kernel⟩, rfl, lwg_of ka_4_141.1 rfl, lwg_of kp_2_13.1 rfl⟩
def M_Reader_needNumber : MI := (⟨"BeardHall$Reader", "needNumber", "()V"⟩, prog_8_method_12_code, 1, none, [])
theorem mw_Reader_needNumber : MWv M_Reader_needNumber 0 := ⟨⟨lwg_of ka_4_50.1 rfl, lwg_of ka_1_2.1 rfl, by decide +kernel, by decide, by decide, by decide +kernel⟩, rfl, lwg_of ka_4_49.1 rfl, lwg_of kp_1_13.1 rfl⟩
def M_Reader_takeNumber : MI := (⟨"BeardHall$Reader", "takeNumber", "(II)I"⟩, prog_8_method_13_code, 3, (some .int), [])
theorem mw_Reader_takeNumber : MWv M_Reader_takeNumber 2 := ⟨⟨lwg_of ka_4_46.1 rfl, lwg_of ka_1_2.1 rfl, by decide +kernel, by decide, by decide, by decide +kernel⟩, rfl, lwg_of ka_4_45.1 rfl, lwg_of kp_1_12.1 rfl⟩
def M_Reader_takeTold : MI := (⟨"BeardHall$Reader", "takeTold", "(I)I"⟩, prog_8_method_14_code, 2, (some .int), [])
theorem mw_Reader_takeTold : MWv M_Reader_takeTold 1 := ⟨⟨lwg_of ka_4_67.1 rfl, lwg_of ka_1_2.1 rfl, by decide +kernel, by decide, by decide, by decide +kernel⟩, rfl, lwg_of ka_4_66.1 rfl, lwg_of kp_2_0.1 rfl⟩
def M_Reader_takeCopier : MI := (⟨"BeardHall$Reader", "takeCopier", "(I)I"⟩, prog_8_method_15_code, 2, (some .int), [])
theorem mw_Reader_takeCopier : MWv M_Reader_takeCopier 1 := ⟨⟨lwg_of ka_4_93.1 rfl, lwg_of ka_1_2.1 rfl, by decide +kernel, by decide, by decide, by decide +kernel⟩, rfl, lwg_of ka_4_92.1 rfl, lwg_of kp_2_3.1 rfl⟩
def M_Reader_takenOrNone : MI := (⟨"BeardHall$Reader", "takenOrNone", "()I"⟩, prog_8_method_16_code, 2, (some .int), [])
theorem mw_Reader_takenOrNone : MWv M_Reader_takenOrNone 0 := ⟨⟨lwg_of ka_4_54.1 rfl, lwg_of ka_1_2.1 rfl, by decide +kernel, by decide, by decide, by decide +kernel⟩, rfl, lwg_of ka_4_53.1 rfl, lwg_of kp_1_14.1 rfl⟩
def M_Reader_readMonk : MI := (⟨"BeardHall$Reader", "readMonk", "(I)V"⟩, prog_8_method_17_code, 5, none, [])
theorem mw_Reader_readMonk : MWv M_Reader_readMonk 1 := ⟨⟨lwg_of ka_4_38.1 rfl, lwg_of ka_1_2.1 rfl, by decide +kernel, by decide, by decide, by decide +kernel⟩, rfl, lwg_of ka_4_37.1 rfl, lwg_of kp_1_10.1 rfl⟩
def M_Reader_readEntry : MI := (⟨"BeardHall$Reader", "readEntry", "(I)V"⟩, prog_8_method_18_code, 7, none, [])
theorem mw_Reader_readEntry : MWv M_Reader_readEntry 1 := ⟨⟨lwg_of ka_4_59.1 rfl, lwg_of ka_1_2.1 rfl, by decide +kernel, by decide, by decide, by decide +kernel⟩, rfl, lwg_of ka_4_58.1 rfl, lwg_of kp_1_15.1 rfl⟩
def M_Reader_readCopy : MI := (⟨"BeardHall$Reader", "readCopy", "()V"⟩, prog_8_method_19_code, 4, none, [])
theorem mw_Reader_readCopy : MWv M_Reader_readCopy 0 := ⟨⟨lwg_of ka_4_88.1 rfl, lwg_of ka_1_2.1 rfl, by decide +kernel, by decide, by decide, by decide +kernel⟩, rfl, lwg_of ka_4_87.1 rfl, lwg_of kp_2_2.1 rfl⟩
def M_Reader_readSetting : MI := (⟨"BeardHall$Reader", "readSetting", "(I)V"⟩, prog_8_method_20_code, 3, none, [])
theorem mw_Reader_readSetting : MWv M_Reader_readSetting 1 := ⟨⟨lwg_of ka_4_106.1 rfl, lwg_of ka_1_2.1 rfl, by decide +kernel, by decide, by decide, by decide +kernel⟩, rfl, lwg_of ka_4_105.1 rfl, lwg_of kp_2_4.1 rfl⟩
def M_Reader_readExpr : MI := (⟨"BeardHall$Reader", "readExpr", "(I)V"⟩, prog_8_method_21_code, 3, none, [])
theorem mw_Reader_readExpr : MWv M_Reader_readExpr 1 := ⟨⟨lwg_of ka_4_110.1 rfl, lwg_of ka_1_2.1 rfl, by decide +kernel, by decide, by decide, by decide +kernel⟩, rfl, lwg_of ka_4_109.1 rfl, lwg_of kp_2_5.1 rfl⟩
def M_Reader_canBegin : MI := (⟨"BeardHall$Reader", "canBegin", "()Z"⟩, prog_8_method_22_code, 1, (some .boolean), [])
theorem mw_Reader_canBegin : MWv M_Reader_canBegin 0 := ⟨⟨lwg_of ka_4_114.1 rfl, lwg_of ka_1_2.1 rfl, by decide +kernel, by decide, by decide, by decide +kernel⟩, rfl, lwg_of ka_4_113.1 rfl, lwg_of kp_2_6.1 rfl⟩
def M_Reader_readAnd : MI := (⟨"BeardHall$Reader", "readAnd", "(I)V"⟩, prog_8_method_23_code, 3, none, [])
theorem mw_Reader_readAnd : MWv M_Reader_readAnd 1 := ⟨⟨lwg_of ka_4_118.1 rfl, lwg_of ka_1_2.1 rfl, by decide +kernel, by decide, by decide, by decide +kernel⟩, rfl, lwg_of ka_4_117.1 rfl, lwg_of kp_2_7.1 rfl⟩
def M_Reader_readNot : MI := (⟨"BeardHall$Reader", "readNot", "(I)V"⟩, prog_8_method_24_code, 4, none, [])
theorem mw_Reader_readNot : MWv M_Reader_readNot 1 := ⟨⟨lwg_of ka_4_122.1 rfl, lwg_of ka_1_2.1 rfl, by decide +kernel, by decide, by decide, by decide +kernel⟩, rfl, lwg_of ka_4_121.1 rfl, lwg_of kp_2_8.1 rfl⟩
def M_Reader_readTest : MI := (⟨"BeardHall$Reader", "readTest", "(I)V"⟩, prog_8_method_25_code, 3, none, [])
theorem mw_Reader_readTest : MWv M_Reader_readTest 1 := ⟨⟨lwg_of ka_4_126.1 rfl, lwg_of ka_1_2.1 rfl, by decide +kernel, by decide, by decide, by decide +kernel⟩, rfl, lwg_of ka_4_125.1 rfl, lwg_of kp_2_9.1 rfl⟩
def M_Reader_readSum : MI := (⟨"BeardHall$Reader", "readSum", "(I)V"⟩, prog_8_method_26_code, 4, none, [])
theorem mw_Reader_readSum : MWv M_Reader_readSum 1 := ⟨⟨lwg_of ka_4_130.1 rfl, lwg_of ka_1_2.1 rfl, by decide +kernel, by decide, by decide, by decide +kernel⟩, rfl, lwg_of ka_4_129.1 rfl, lwg_of kp_2_10.1 rfl⟩
def M_Reader_readProduct : MI := (⟨"BeardHall$Reader", "readProduct", "(I)V"⟩, prog_8_method_27_code, 4, none, [])
theorem mw_Reader_readProduct : MWv M_Reader_readProduct 1 := ⟨⟨lwg_of ka_4_134.1 rfl, lwg_of ka_1_2.1 rfl, by decide +kernel, by decide, by decide, by decide +kernel⟩, rfl, lwg_of ka_4_133.1 rfl, lwg_of kp_2_11.1 rfl⟩
def M_Reader_readPart : MI := (⟨"BeardHall$Reader", "readPart", "(I)V"⟩, prog_8_method_28_code, 2, none, [])
theorem mw_Reader_readPart : MWv M_Reader_readPart 1 := ⟨⟨lwg_of ka_4_138.1 rfl, lwg_of ka_1_2.1 rfl, by decide +kernel, by decide, by decide, by decide +kernel⟩, rfl, lwg_of ka_4_137.1 rfl, lwg_of kp_2_12.1 rfl⟩
def M_Roll_init : MI := (⟨"BeardHall$Roll", "<init>", "()V"⟩, prog_9_method_1_code, 1, none, [])
theorem mw_Roll_init : MWi M_Roll_init 0 := ⟨⟨lwg_of ka_1_45.1 rfl, lwg_of ka_1_3.1 rfl, by decide +kernel, by decide, by decide, by decide +kernel⟩, rfl, lwg_of ka_1_44.1 rfl, rfl, rfl⟩
def M_Roll_clear : MI := (⟨"BeardHall$Roll", "clear", "()V"⟩, prog_9_method_2_code, 1, none, [])
theorem mw_Roll_clear : MWv M_Roll_clear 0 := ⟨⟨lwg_of ka_2_111.1 rfl, lwg_of ka_1_3.1 rfl, by decide +kernel, by decide, by decide, by decide +kernel⟩, rfl, lwg_of ka_2_109.1 rfl, lwg_of ka_2_110.1 rfl⟩
def M_Roll_take : MI := (⟨"BeardHall$Roll", "take", "(LBeardHall$Roll;)V"⟩, prog_9_method_3_code, 2, none, [])
theorem mw_Roll_take : MWv M_Roll_take 1 := ⟨⟨lwg_of ka_4_150.1 rfl, lwg_of ka_1_3.1 rfl, by decide +kernel, by decide, by decide, by decide +kernel⟩, rfl, lwg_of ka_4_148.1 rfl, lwg_of ka_4_149.1 rfl⟩
def M_Roll_cell : MI := (⟨"BeardHall$Roll", "cell", "(II)I"⟩, prog_9_method_4_code, 3, (some .int), [])
theorem mw_Roll_cell : MWv M_Roll_cell 2 := ⟨⟨lwg_of ka_2_230.1 rfl, lwg_of ka_1_3.1 rfl, by decide +kernel, by decide, by decide, by decide +kernel⟩, rfl, lwg_of ka_2_228.1 rfl, lwg_of ka_2_229.1 rfl⟩
def M_Roll_put : MI := (⟨"BeardHall$Roll", "put", "(III)V"⟩, prog_9_method_5_code, 4, none, [])
theorem mw_Roll_put : MWv M_Roll_put 3 := ⟨⟨lwg_of ka_4_75.1 rfl, lwg_of ka_1_3.1 rfl, by decide +kernel, by decide, by decide, by decide +kernel⟩, rfl, lwg_of ka_4_73.1 rfl, lwg_of ka_4_74.1 rfl⟩
def M_Roll_longest : MI := (⟨"BeardHall$Roll", "longest", "(I)I"⟩, prog_9_method_6_code, 2, (some .int), [])
theorem mw_Roll_longest : MWv M_Roll_longest 1 := ⟨⟨lwg_of ka_2_209.1 rfl, lwg_of ka_1_3.1 rfl, by decide +kernel, by decide, by decide, by decide +kernel⟩, rfl, lwg_of ka_2_207.1 rfl, lwg_of ka_2_208.1 rfl⟩
def M_Rule_init : MI := (⟨"BeardHall$Rule", "<init>", "()V"⟩, prog_10_method_1_code, 1, none, [])
theorem mw_Rule_init : MWi M_Rule_init 0 := ⟨⟨lwg_of ka_1_51.1 rfl, lwg_of ka_1_4.1 rfl, by decide +kernel, by decide, by decide, by decide +kernel⟩, rfl, lwg_of ka_1_50.1 rfl, rfl, rfl⟩
def M_Rule_clear : MI := (⟨"BeardHall$Rule", "clear", "()V"⟩, prog_10_method_2_code, 1, none, [])
theorem mw_Rule_clear : MWv M_Rule_clear 0 := ⟨⟨lwg_of ka_2_115.1 rfl, lwg_of ka_1_4.1 rfl, by decide +kernel, by decide, by decide, by decide +kernel⟩, rfl, lwg_of ka_2_113.1 rfl, lwg_of ka_2_114.1 rfl⟩
def M_Rule_take : MI := (⟨"BeardHall$Rule", "take", "(LBeardHall$Rule;)V"⟩, prog_10_method_3_code, 2, none, [])
theorem mw_Rule_take : MWv M_Rule_take 1 := ⟨⟨lwg_of ka_4_155.1 rfl, lwg_of ka_1_4.1 rfl, by decide +kernel, by decide, by decide, by decide +kernel⟩, rfl, lwg_of ka_4_153.1 rfl, lwg_of ka_4_154.1 rfl⟩
def M_Rule_isNone : MI := (⟨"BeardHall$Rule", "isNone", "()Z"⟩, prog_10_method_4_code, 1, (some .boolean), [])
theorem mw_Rule_isNone : MWv M_Rule_isNone 0 := ⟨⟨lwg_of ka_5_13.1 rfl, lwg_of ka_1_4.1 rfl, by decide +kernel, by decide, by decide, by decide +kernel⟩, rfl, lwg_of ka_5_11.1 rfl, lwg_of ka_5_12.1 rfl⟩
def M_Rule_add : MI := (⟨"BeardHall$Rule", "add", "(I)V"⟩, prog_10_method_5_code, 2, none, [])
theorem mw_Rule_add : MWv M_Rule_add 1 := ⟨⟨lwg_of ka_4_146.1 rfl, lwg_of ka_1_4.1 rfl, by decide +kernel, by decide, by decide, by decide +kernel⟩, rfl, lwg_of ka_4_144.1 rfl, lwg_of ka_4_145.1 rfl⟩
def M_Rule_holds : MI := (⟨"BeardHall$Rule", "holds", "()Z"⟩, prog_10_method_6_code, 4, (some .boolean), [])
theorem mw_Rule_holds : MWv M_Rule_holds 0 := ⟨⟨lwg_of ka_5_21.1 rfl, lwg_of ka_1_4.1 rfl, by decide +kernel, by decide, by decide, by decide +kernel⟩, rfl, lwg_of ka_5_19.1 rfl, lwg_of ka_5_20.1 rfl⟩
def M_Rule_joined : MI := (⟨"BeardHall$Rule", "joined", "(III)I"⟩, prog_10_method_7_code, 3, (some .int), [])
theorem mw_Rule_joined : MWs M_Rule_joined 3 := ⟨⟨lwg_of ka_5_27.1 rfl, lwg_of ka_1_4.1 rfl, by decide +kernel, by decide, by decide, by decide +kernel⟩, rfl, lwg_of ka_5_26.1 rfl⟩
def M_Rule_truth : MI := (⟨"BeardHall$Rule", "truth", "(Z)I"⟩, prog_10_method_8_code, 1, (some .int), [])
theorem mw_Rule_truth : MWs M_Rule_truth 1 := ⟨⟨lwg_of ka_5_24.1 rfl, lwg_of ka_1_4.1 rfl, by decide +kernel, by decide, by decide, by decide +kernel⟩, rfl, lwg_of ka_5_23.1 rfl⟩
def M_Season_init : MI := (⟨"BeardHall$Season", "<init>", "(LBeardHall$Roll;)V"⟩, prog_11_method_1_code, 2, none, [])
theorem mw_Season_init : MWi M_Season_init 1 := ⟨⟨lwg_of ka_2_86.1 rfl, lwg_of ka_1_12.1 rfl, by decide +kernel, by decide, by decide, by decide +kernel⟩, rfl, lwg_of ka_2_85.1 rfl, rfl, rfl⟩
def M_Season_run : MI := (⟨"BeardHall$Season", "run", "(LBeardHall$Hair;II)V"⟩, prog_11_method_2_code, 6, none, [])
theorem mw_Season_run : MWv M_Season_run 3 := ⟨⟨lwg_of ka_6_129.1 rfl, lwg_of ka_1_12.1 rfl, by decide +kernel, by decide, by decide, by decide +kernel⟩, rfl, lwg_of ka_6_127.1 rfl, lwg_of ka_6_128.1 rfl⟩
def M_Season_visit : MI := (⟨"BeardHall$Season", "visit", "(I)V"⟩, prog_11_method_3_code, 4, none, [])
theorem mw_Season_visit : MWv M_Season_visit 1 := ⟨⟨lwg_of ka_6_140.1 rfl, lwg_of ka_1_12.1 rfl, by decide +kernel, by decide, by decide, by decide +kernel⟩, rfl, lwg_of ka_6_139.1 rfl, lwg_of kp_3_11.1 rfl⟩
def M_Season_draw : MI := (⟨"BeardHall$Season", "draw", "(I)I"⟩, prog_11_method_4_code, 2, (some .int), [])
theorem mw_Season_draw : MWv M_Season_draw 1 := ⟨⟨lwg_of ka_6_135.1 rfl, lwg_of ka_1_12.1 rfl, by decide +kernel, by decide, by decide, by decide +kernel⟩, rfl, lwg_of ka_6_134.1 rfl, lwg_of kp_3_10.1 rfl⟩
def M_Seen_init : MI := (⟨"BeardHall$Seen", "<init>", "()V"⟩, prog_12_method_1_code, 1, none, [])
theorem mw_Seen_init : MWi M_Seen_init 0 := ⟨⟨lwg_of ka_1_222.1 rfl, lwg_of ka_1_7.1 rfl, by decide +kernel, by decide, by decide, by decide +kernel⟩, rfl, lwg_of ka_1_221.1 rfl, rfl, rfl⟩
def M_Seen_take : MI := (⟨"BeardHall$Seen", "take", "(LBeardHall$Seen;)V"⟩, prog_12_method_2_code, 2, none, [])
theorem mw_Seen_take : MWv M_Seen_take 1 := ⟨⟨lwg_of ka_3_115.1 rfl, lwg_of ka_1_7.1 rfl, by decide +kernel, by decide, by decide, by decide +kernel⟩, rfl, lwg_of ka_3_113.1 rfl, lwg_of ka_3_114.1 rfl⟩
def M_Seen_add : MI := (⟨"BeardHall$Seen", "add", "(IZ)V"⟩, prog_12_method_3_code, 3, none, [])
theorem mw_Seen_add : MWv M_Seen_add 2 := ⟨⟨lwg_of ka_6_63.1 rfl, lwg_of ka_1_7.1 rfl, by decide +kernel, by decide, by decide, by decide +kernel⟩, rfl, lwg_of ka_6_61.1 rfl, lwg_of ka_6_62.1 rfl⟩
def M_Seen_waysToEat : MI := (⟨"BeardHall$Seen", "waysToEat", "(LBeardHall$Hair;I)I"⟩, prog_12_method_4_code, 6, (some .int), [])
theorem mw_Seen_waysToEat : MWv M_Seen_waysToEat 2 := ⟨⟨lwg_of ka_6_74.1 rfl, lwg_of ka_1_7.1 rfl, by decide +kernel, by decide, by decide, by decide +kernel⟩, rfl, lwg_of ka_6_72.1 rfl, lwg_of ka_6_73.1 rfl⟩
def M_Seen_firstToEat : MI := (⟨"BeardHall$Seen", "firstToEat", "(LBeardHall$Hair;I)I"⟩, prog_12_method_5_code, 5, (some .int), [])
theorem mw_Seen_firstToEat : MWv M_Seen_firstToEat 2 := ⟨⟨lwg_of ka_6_84.1 rfl, lwg_of ka_1_7.1 rfl, by decide +kernel, by decide, by decide, by decide +kernel⟩, rfl, lwg_of ka_6_82.1 rfl, lwg_of ka_6_83.1 rfl⟩
def M_Seen_wouldBeSo : MI := (⟨"BeardHall$Seen", "wouldBeSo", "(LBeardHall$Hair;I)Z"⟩, prog_12_method_6_code, 5, (some .boolean), [])
theorem mw_Seen_wouldBeSo : MWv M_Seen_wouldBeSo 2 := ⟨⟨lwg_of ka_6_79.1 rfl, lwg_of ka_1_7.1 rfl, by decide +kernel, by decide, by decide, by decide +kernel⟩, rfl, lwg_of ka_6_78.1 rfl, lwg_of kp_3_7.1 rfl⟩
def M_Hall_init : MI := (⟨"BeardHall", "<init>", "()V"⟩, prog_1_method_1_code, 1, none, [])
theorem mw_Hall_init : MWi M_Hall_init 0 := ⟨⟨lwg_of ka_1_31.1 rfl, lwg_of ka_1_1.1 rfl, by decide +kernel, by decide, by decide, by decide +kernel⟩, rfl, lwg_of ka_1_30.1 rfl, rfl, rfl⟩
def M_Hall_feed : MI := (⟨"BeardHall", "feed", "(IIIII)I"⟩, prog_1_method_2_code, 6, (some .int), [])
theorem mw_Hall_feed : MWv M_Hall_feed 5 := ⟨⟨lwg_of ka_2_169.1 rfl, lwg_of ka_1_1.1 rfl, by decide +kernel, by decide, by decide, by decide +kernel⟩, rfl, lwg_of ka_2_167.1 rfl, lwg_of ka_2_168.1 rfl⟩
def M_Hall_putBytes : MI := (⟨"BeardHall", "putBytes", "(I)V"⟩, prog_1_method_3_code, 3, none, [])
theorem mw_Hall_putBytes : MWv M_Hall_putBytes 1 := ⟨⟨lwg_of ka_2_173.1 rfl, lwg_of ka_1_1.1 rfl, by decide +kernel, by decide, by decide, by decide +kernel⟩, rfl, lwg_of ka_2_172.1 rfl, lwg_of kp_1_0.1 rfl⟩
def M_Hall_archive : MI := (⟨"BeardHall", "archive", "(I)I"⟩, prog_1_method_4_code, 2, (some .int), [])
theorem mw_Hall_archive : MWv M_Hall_archive 1 := ⟨⟨lwg_of ka_3_128.1 rfl, lwg_of ka_1_1.1 rfl, by decide +kernel, by decide, by decide, by decide +kernel⟩, rfl, lwg_of ka_3_126.1 rfl, lwg_of ka_3_127.1 rfl⟩
def M_Hall_fault : MI := (⟨"BeardHall", "fault", "()I"⟩, prog_1_method_5_code, 1, (some .int), [])
theorem mw_Hall_fault : MWv M_Hall_fault 0 := ⟨⟨lwg_of ka_2_177.1 rfl, lwg_of ka_1_1.1 rfl, by decide +kernel, by decide, by decide, by decide +kernel⟩, rfl, lwg_of ka_2_175.1 rfl, lwg_of ka_2_176.1 rfl⟩
def M_Hall_count : MI := (⟨"BeardHall", "count", "(I)I"⟩, prog_1_method_6_code, 2, (some .int), [])
theorem mw_Hall_count : MWv M_Hall_count 1 := ⟨⟨lwg_of ka_4_164.1 rfl, lwg_of ka_1_1.1 rfl, by decide +kernel, by decide, by decide, by decide +kernel⟩, rfl, lwg_of ka_4_162.1 rfl, lwg_of ka_4_163.1 rfl⟩
def M_Hall_monk : MI := (⟨"BeardHall", "monk", "(II)I"⟩, prog_1_method_7_code, 3, (some .int), [])
theorem mw_Hall_monk : MWv M_Hall_monk 2 := ⟨⟨lwg_of ka_4_194.1 rfl, lwg_of ka_1_1.1 rfl, by decide +kernel, by decide, by decide, by decide +kernel⟩, rfl, lwg_of ka_4_192.1 rfl, lwg_of ka_4_193.1 rfl⟩
def M_Hall_entry : MI := (⟨"BeardHall", "entry", "(II)I"⟩, prog_1_method_8_code, 3, (some .int), [])
theorem mw_Hall_entry : MWv M_Hall_entry 2 := ⟨⟨lwg_of ka_4_218.1 rfl, lwg_of ka_1_1.1 rfl, by decide +kernel, by decide, by decide, by decide +kernel⟩, rfl, lwg_of ka_4_216.1 rfl, lwg_of ka_4_217.1 rfl⟩
def M_Hall_holders : MI := (⟨"BeardHall", "holders", "(I)I"⟩, prog_1_method_9_code, 2, (some .int), [])
theorem mw_Hall_holders : MWv M_Hall_holders 1 := ⟨⟨lwg_of ka_5_1.1 rfl, lwg_of ka_1_1.1 rfl, by decide +kernel, by decide, by decide, by decide +kernel⟩, rfl, lwg_of ka_4_239.1 rfl, lwg_of ka_5_0.1 rfl⟩
def M_Hall_may : MI := (⟨"BeardHall", "may", "(II)Z"⟩, prog_1_method_10_code, 4, (some .boolean), [])
theorem mw_Hall_may : MWv M_Hall_may 2 := ⟨⟨lwg_of ka_5_9.1 rfl, lwg_of ka_1_1.1 rfl, by decide +kernel, by decide, by decide, by decide +kernel⟩, rfl, lwg_of ka_5_7.1 rfl, lwg_of ka_5_8.1 rfl⟩
def M_Hall_tellRule : MI := (⟨"BeardHall", "tellRule", "(III)V"⟩, prog_1_method_11_code, 5, none, [])
theorem mw_Hall_tellRule : MWv M_Hall_tellRule 3 := ⟨⟨lwg_of ka_5_17.1 rfl, lwg_of ka_1_1.1 rfl, by decide +kernel, by decide, by decide, by decide +kernel⟩, rfl, lwg_of ka_5_16.1 rfl, lwg_of kp_3_0.1 rfl⟩
def M_Hall_years : MI := (⟨"BeardHall", "years", "(I)I"⟩, prog_1_method_12_code, 2, (some .int), [])
theorem mw_Hall_years : MWv M_Hall_years 1 := ⟨⟨lwg_of ka_2_181.1 rfl, lwg_of ka_1_1.1 rfl, by decide +kernel, by decide, by decide, by decide +kernel⟩, rfl, lwg_of ka_2_179.1 rfl, lwg_of ka_2_180.1 rfl⟩
def M_Hall_braid : MI := (⟨"BeardHall", "braid", "(IIII)I"⟩, prog_1_method_13_code, 5, (some .int), [])
theorem mw_Hall_braid : MWv M_Hall_braid 4 := ⟨⟨lwg_of ka_5_34.1 rfl, lwg_of ka_1_1.1 rfl, by decide +kernel, by decide, by decide, by decide +kernel⟩, rfl, lwg_of ka_5_32.1 rfl, lwg_of ka_5_33.1 rfl⟩
def M_Hall_copy : MI := (⟨"BeardHall", "copy", "(II)I"⟩, prog_1_method_14_code, 3, (some .int), [])
theorem mw_Hall_copy : MWv M_Hall_copy 2 := ⟨⟨lwg_of ka_5_53.1 rfl, lwg_of ka_1_1.1 rfl, by decide +kernel, by decide, by decide, by decide +kernel⟩, rfl, lwg_of ka_5_51.1 rfl, lwg_of ka_5_52.1 rfl⟩
def M_Hall_knot : MI := (⟨"BeardHall", "knot", "(I)Z"⟩, prog_1_method_15_code, 2, (some .boolean), [])
theorem mw_Hall_knot : MWv M_Hall_knot 1 := ⟨⟨lwg_of ka_5_62.1 rfl, lwg_of ka_1_1.1 rfl, by decide +kernel, by decide, by decide, by decide +kernel⟩, rfl, lwg_of ka_5_60.1 rfl, lwg_of ka_5_61.1 rfl⟩
def M_Hall_comb : MI := (⟨"BeardHall", "comb", "(I)Z"⟩, prog_1_method_16_code, 2, (some .boolean), [])
theorem mw_Hall_comb : MWv M_Hall_comb 1 := ⟨⟨lwg_of ka_5_74.1 rfl, lwg_of ka_1_1.1 rfl, by decide +kernel, by decide, by decide, by decide +kernel⟩, rfl, lwg_of ka_5_72.1 rfl, lwg_of ka_5_73.1 rfl⟩
def M_Hall_mayBeHandled : MI := (⟨"BeardHall", "mayBeHandled", "(I)Z"⟩, prog_1_method_17_code, 2, (some .boolean), [])
theorem mw_Hall_mayBeHandled : MWv M_Hall_mayBeHandled 1 := ⟨⟨lwg_of ka_5_66.1 rfl, lwg_of ka_1_1.1 rfl, by decide +kernel, by decide, by decide, by decide +kernel⟩, rfl, lwg_of ka_5_65.1 rfl, lwg_of kp_3_1.1 rfl⟩
def M_Hall_shave : MI := (⟨"BeardHall", "shave", "(II)I"⟩, prog_1_method_18_code, 3, (some .int), [])
theorem mw_Hall_shave : MWv M_Hall_shave 2 := ⟨⟨lwg_of ka_5_82.1 rfl, lwg_of ka_1_1.1 rfl, by decide +kernel, by decide, by decide, by decide +kernel⟩, rfl, lwg_of ka_5_80.1 rfl, lwg_of ka_5_81.1 rfl⟩
def M_Hall_moths : MI := (⟨"BeardHall", "moths", "(III)I"⟩, prog_1_method_19_code, 4, (some .int), [])
theorem mw_Hall_moths : MWv M_Hall_moths 3 := ⟨⟨lwg_of ka_5_93.1 rfl, lwg_of ka_1_1.1 rfl, by decide +kernel, by decide, by decide, by decide +kernel⟩, rfl, lwg_of ka_5_91.1 rfl, lwg_of ka_5_92.1 rfl⟩
def M_Hall_die : MI := (⟨"BeardHall", "die", "(I)Z"⟩, prog_1_method_20_code, 2, (some .boolean), [])
theorem mw_Hall_die : MWv M_Hall_die 1 := ⟨⟨lwg_of ka_5_104.1 rfl, lwg_of ka_1_1.1 rfl, by decide +kernel, by decide, by decide, by decide +kernel⟩, rfl, lwg_of ka_5_102.1 rfl, lwg_of ka_5_103.1 rfl⟩
def M_Hall_undo : MI := (⟨"BeardHall", "undo", "()I"⟩, prog_1_method_21_code, 1, (some .int), [])
theorem mw_Hall_undo : MWv M_Hall_undo 0 := ⟨⟨lwg_of ka_3_15.1 rfl, lwg_of ka_1_1.1 rfl, by decide +kernel, by decide, by decide, by decide +kernel⟩, rfl, lwg_of ka_3_13.1 rfl, lwg_of ka_3_14.1 rfl⟩
def M_Hall_refuseAct : MI := (⟨"BeardHall", "refuseAct", "()I"⟩, prog_1_method_22_code, 1, (some .int), [])
theorem mw_Hall_refuseAct : MWv M_Hall_refuseAct 0 := ⟨⟨lwg_of ka_2_185.1 rfl, lwg_of ka_1_1.1 rfl, by decide +kernel, by decide, by decide, by decide +kernel⟩, rfl, lwg_of ka_2_184.1 rfl, lwg_of kp_1_1.1 rfl⟩
def M_Hall_law : MI := (⟨"BeardHall", "law", "(I)I"⟩, prog_1_method_23_code, 2, (some .int), [])
theorem mw_Hall_law : MWv M_Hall_law 1 := ⟨⟨lwg_of ka_5_111.1 rfl, lwg_of ka_1_1.1 rfl, by decide +kernel, by decide, by decide, by decide +kernel⟩, rfl, lwg_of ka_5_109.1 rfl, lwg_of ka_5_110.1 rfl⟩
def M_Hall_rivals : MI := (⟨"BeardHall", "rivals", "()I"⟩, prog_1_method_24_code, 1, (some .int), [])
theorem mw_Hall_rivals : MWv M_Hall_rivals 0 := ⟨⟨lwg_of ka_3_27.1 rfl, lwg_of ka_1_1.1 rfl, by decide +kernel, by decide, by decide, by decide +kernel⟩, rfl, lwg_of ka_3_25.1 rfl, lwg_of ka_3_26.1 rfl⟩
def M_Hall_owed : MI := (⟨"BeardHall", "owed", "(I)I"⟩, prog_1_method_25_code, 2, (some .int), [])
theorem mw_Hall_owed : MWv M_Hall_owed 1 := ⟨⟨lwg_of ka_5_131.1 rfl, lwg_of ka_1_1.1 rfl, by decide +kernel, by decide, by decide, by decide +kernel⟩, rfl, lwg_of ka_5_129.1 rfl, lwg_of ka_5_130.1 rfl⟩
def M_Hall_cover : MI := (⟨"BeardHall", "cover", "()I"⟩, prog_1_method_26_code, 1, (some .int), [])
theorem mw_Hall_cover : MWv M_Hall_cover 0 := ⟨⟨lwg_of ka_3_46.1 rfl, lwg_of ka_1_1.1 rfl, by decide +kernel, by decide, by decide, by decide +kernel⟩, rfl, lwg_of ka_3_44.1 rfl, lwg_of ka_3_45.1 rfl⟩
def M_Hall_alone : MI := (⟨"BeardHall", "alone", "()I"⟩, prog_1_method_27_code, 1, (some .int), [])
theorem mw_Hall_alone : MWv M_Hall_alone 0 := ⟨⟨lwg_of ka_3_76.1 rfl, lwg_of ka_1_1.1 rfl, by decide +kernel, by decide, by decide, by decide +kernel⟩, rfl, lwg_of ka_3_74.1 rfl, lwg_of ka_3_75.1 rfl⟩
def M_Hall_barbers : MI := (⟨"BeardHall", "barbers", "(I)I"⟩, prog_1_method_28_code, 2, (some .int), [])
theorem mw_Hall_barbers : MWv M_Hall_barbers 1 := ⟨⟨lwg_of ka_5_147.1 rfl, lwg_of ka_1_1.1 rfl, by decide +kernel, by decide, by decide, by decide +kernel⟩, rfl, lwg_of ka_5_145.1 rfl, lwg_of ka_5_146.1 rfl⟩
def M_Hall_shortest : MI := (⟨"BeardHall", "shortest", "(I)I"⟩, prog_1_method_29_code, 2, (some .int), [])
theorem mw_Hall_shortest : MWv M_Hall_shortest 1 := ⟨⟨lwg_of ka_5_169.1 rfl, lwg_of ka_1_1.1 rfl, by decide +kernel, by decide, by decide, by decide +kernel⟩, rfl, lwg_of ka_5_167.1 rfl, lwg_of ka_5_168.1 rfl⟩
def M_Hall_amnesty : MI := (⟨"BeardHall", "amnesty", "(III)I"⟩, prog_1_method_30_code, 5, (some .int), [])
theorem mw_Hall_amnesty : MWv M_Hall_amnesty 3 := ⟨⟨lwg_of ka_5_180.1 rfl, lwg_of ka_1_1.1 rfl, by decide +kernel, by decide, by decide, by decide +kernel⟩, rfl, lwg_of ka_5_178.1 rfl, lwg_of ka_5_179.1 rfl⟩
def M_Hall_week : MI := (⟨"BeardHall", "week", "(II)I"⟩, prog_1_method_31_code, 3, (some .int), [])
theorem mw_Hall_week : MWv M_Hall_week 2 := ⟨⟨lwg_of ka_5_206.1 rfl, lwg_of ka_1_1.1 rfl, by decide +kernel, by decide, by decide, by decide +kernel⟩, rfl, lwg_of ka_5_204.1 rfl, lwg_of ka_5_205.1 rfl⟩
def M_Hall_oldest : MI := (⟨"BeardHall", "oldest", "(II)I"⟩, prog_1_method_32_code, 3, (some .int), [])
theorem mw_Hall_oldest : MWv M_Hall_oldest 2 := ⟨⟨lwg_of ka_5_224.1 rfl, lwg_of ka_1_1.1 rfl, by decide +kernel, by decide, by decide, by decide +kernel⟩, rfl, lwg_of ka_5_222.1 rfl, lwg_of ka_5_223.1 rfl⟩
def M_Hall_believed : MI := (⟨"BeardHall", "believed", "(I)I"⟩, prog_1_method_33_code, 2, (some .int), [])
theorem mw_Hall_believed : MWv M_Hall_believed 1 := ⟨⟨lwg_of ka_5_236.1 rfl, lwg_of ka_1_1.1 rfl, by decide +kernel, by decide, by decide, by decide +kernel⟩, rfl, lwg_of ka_5_234.1 rfl, lwg_of ka_5_235.1 rfl⟩
def M_Hall_until : MI := (⟨"BeardHall", "until", "(I)I"⟩, prog_1_method_34_code, 2, (some .int), [])
theorem mw_Hall_until : MWv M_Hall_until 1 := ⟨⟨lwg_of ka_6_12.1 rfl, lwg_of ka_1_1.1 rfl, by decide +kernel, by decide, by decide, by decide +kernel⟩, rfl, lwg_of ka_6_10.1 rfl, lwg_of ka_6_11.1 rfl⟩
def M_Hall_doomed : MI := (⟨"BeardHall", "doomed", "(I)I"⟩, prog_1_method_35_code, 2, (some .int), [])
theorem mw_Hall_doomed : MWv M_Hall_doomed 1 := ⟨⟨lwg_of ka_6_24.1 rfl, lwg_of ka_1_1.1 rfl, by decide +kernel, by decide, by decide, by decide +kernel⟩, rfl, lwg_of ka_6_22.1 rfl, lwg_of ka_6_23.1 rfl⟩
def M_Hall_safest : MI := (⟨"BeardHall", "safest", "()I"⟩, prog_1_method_36_code, 1, (some .int), [])
theorem mw_Hall_safest : MWv M_Hall_safest 0 := ⟨⟨lwg_of ka_3_88.1 rfl, lwg_of ka_1_1.1 rfl, by decide +kernel, by decide, by decide, by decide +kernel⟩, rfl, lwg_of ka_3_86.1 rfl, lwg_of ka_3_87.1 rfl⟩
def M_Hall_heir : MI := (⟨"BeardHall", "heir", "(I)I"⟩, prog_1_method_37_code, 2, (some .int), [])
theorem mw_Hall_heir : MWv M_Hall_heir 1 := ⟨⟨lwg_of ka_6_37.1 rfl, lwg_of ka_1_1.1 rfl, by decide +kernel, by decide, by decide, by decide +kernel⟩, rfl, lwg_of ka_6_35.1 rfl, lwg_of ka_6_36.1 rfl⟩
def M_Hall_lice : MI := (⟨"BeardHall", "lice", "(I)I"⟩, prog_1_method_38_code, 2, (some .int), [])
theorem mw_Hall_lice : MWv M_Hall_lice 1 := ⟨⟨lwg_of ka_6_48.1 rfl, lwg_of ka_1_1.1 rfl, by decide +kernel, by decide, by decide, by decide +kernel⟩, rfl, lwg_of ka_6_46.1 rfl, lwg_of ka_6_47.1 rfl⟩
def M_Hall_see : MI := (⟨"BeardHall", "see", "(IZ)I"⟩, prog_1_method_39_code, 3, (some .int), [])
theorem mw_Hall_see : MWv M_Hall_see 2 := ⟨⟨lwg_of ka_6_59.1 rfl, lwg_of ka_1_1.1 rfl, by decide +kernel, by decide, by decide, by decide +kernel⟩, rfl, lwg_of ka_6_57.1 rfl, lwg_of ka_6_58.1 rfl⟩
def M_Hall_ate : MI := (⟨"BeardHall", "ate", "(II)I"⟩, prog_1_method_40_code, 3, (some .int), [])
theorem mw_Hall_ate : MWv M_Hall_ate 2 := ⟨⟨lwg_of ka_6_70.1 rfl, lwg_of ka_1_1.1 rfl, by decide +kernel, by decide, by decide, by decide +kernel⟩, rfl, lwg_of ka_6_68.1 rfl, lwg_of ka_6_69.1 rfl⟩
def M_Hall_forget : MI := (⟨"BeardHall", "forget", "()I"⟩, prog_1_method_41_code, 1, (some .int), [])
theorem mw_Hall_forget : MWv M_Hall_forget 0 := ⟨⟨lwg_of ka_3_98.1 rfl, lwg_of ka_1_1.1 rfl, by decide +kernel, by decide, by decide, by decide +kernel⟩, rfl, lwg_of ka_3_96.1 rfl, lwg_of ka_3_97.1 rfl⟩
def M_Hall_game : MI := (⟨"BeardHall", "game", "(I)I"⟩, prog_1_method_42_code, 2, (some .int), [])
theorem mw_Hall_game : MWv M_Hall_game 1 := ⟨⟨lwg_of ka_6_91.1 rfl, lwg_of ka_1_1.1 rfl, by decide +kernel, by decide, by decide, by decide +kernel⟩, rfl, lwg_of ka_6_89.1 rfl, lwg_of ka_6_90.1 rfl⟩
def M_Hall_season : MI := (⟨"BeardHall", "season", "(III)I"⟩, prog_1_method_43_code, 4, (some .int), [])
theorem mw_Hall_season : MWv M_Hall_season 3 := ⟨⟨lwg_of ka_6_124.1 rfl, lwg_of ka_1_1.1 rfl, by decide +kernel, by decide, by decide, by decide +kernel⟩, rfl, lwg_of ka_6_122.1 rfl, lwg_of ka_6_123.1 rfl⟩
def M_Hall_image : MI := (⟨"BeardHall", "image", "()V"⟩, prog_1_method_44_code, 1, none, [])
theorem mw_Hall_image : MWv M_Hall_image 0 := ⟨⟨lwg_of ka_3_102.1 rfl, lwg_of ka_1_1.1 rfl, by decide +kernel, by decide, by decide, by decide +kernel⟩, rfl, lwg_of ka_3_100.1 rfl, lwg_of ka_3_101.1 rfl⟩
def M_Hall_restore : MI := (⟨"BeardHall", "restore", "()Z"⟩, prog_1_method_45_code, 1, (some .boolean), [])
theorem mw_Hall_restore : MWv M_Hall_restore 0 := ⟨⟨lwg_of ka_3_120.1 rfl, lwg_of ka_1_1.1 rfl, by decide +kernel, by decide, by decide, by decide +kernel⟩, rfl, lwg_of ka_3_118.1 rfl, lwg_of ka_3_119.1 rfl⟩
def M_Hall_needMonk : MI := (⟨"BeardHall", "needMonk", "(I)V"⟩, prog_1_method_46_code, 2, none, [])
theorem mw_Hall_needMonk : MWv M_Hall_needMonk 1 := ⟨⟨lwg_of ka_4_198.1 rfl, lwg_of ka_1_1.1 rfl, by decide +kernel, by decide, by decide, by decide +kernel⟩, rfl, lwg_of ka_4_197.1 rfl, lwg_of kp_2_14.1 rfl⟩
def M_Hall_needEntry : MI := (⟨"BeardHall", "needEntry", "(I)V"⟩, prog_1_method_47_code, 2, none, [])
theorem mw_Hall_needEntry : MWv M_Hall_needEntry 1 := ⟨⟨lwg_of ka_4_222.1 rfl, lwg_of ka_1_1.1 rfl, by decide +kernel, by decide, by decide, by decide +kernel⟩, rfl, lwg_of ka_4_221.1 rfl, lwg_of kp_2_15.1 rfl⟩
def M_Hall_needAbout : MI := (⟨"BeardHall", "needAbout", "(I)V"⟩, prog_1_method_48_code, 1, none, [])
theorem mw_Hall_needAbout : MWs M_Hall_needAbout 1 := ⟨⟨lwg_of ka_5_114.1 rfl, lwg_of ka_1_1.1 rfl, by decide +kernel, by decide, by decide, by decide +kernel⟩, rfl, lwg_of ka_5_113.1 rfl⟩
def M_Hall_needOneOf : MI := (⟨"BeardHall", "needOneOf", "(II)V"⟩, prog_1_method_49_code, 2, none, [])
theorem mw_Hall_needOneOf : MWs M_Hall_needOneOf 2 := ⟨⟨lwg_of ka_5_183.1 rfl, lwg_of ka_1_1.1 rfl, by decide +kernel, by decide, by decide, by decide +kernel⟩, rfl, lwg_of ka_5_182.1 rfl⟩
def M_Hall_isKind : MI := (⟨"BeardHall", "isKind", "(I)Z"⟩, prog_1_method_50_code, 1, (some .boolean), [])
theorem mw_Hall_isKind : MWs M_Hall_isKind 1 := ⟨⟨lwg_of ka_5_39.1 rfl, lwg_of ka_1_1.1 rfl, by decide +kernel, by decide, by decide, by decide +kernel⟩, rfl, lwg_of ka_5_38.1 rfl⟩
def M_Hall_isAbout : MI := (⟨"BeardHall", "isAbout", "(I)Z"⟩, prog_1_method_51_code, 1, (some .boolean), [])
theorem mw_Hall_isAbout : MWs M_Hall_isAbout 1 := ⟨⟨lwg_of ka_5_45.1 rfl, lwg_of ka_1_1.1 rfl, by decide +kernel, by decide, by decide, by decide +kernel⟩, rfl, lwg_of ka_5_44.1 rfl⟩
def M_Hall_isWithin : MI := (⟨"BeardHall", "isWithin", "(II)Z"⟩, prog_1_method_52_code, 2, (some .boolean), [])
theorem mw_Hall_isWithin : MWs M_Hall_isWithin 2 := ⟨⟨lwg_of ka_5_42.1 rfl, lwg_of ka_1_1.1 rfl, by decide +kernel, by decide, by decide, by decide +kernel⟩, rfl, lwg_of ka_5_41.1 rfl⟩
def M_Hall_hasBit : MI := (⟨"BeardHall", "hasBit", "(II)Z"⟩, prog_1_method_53_code, 2, (some .boolean), [])
theorem mw_Hall_hasBit : MWs M_Hall_hasBit 2 := ⟨⟨lwg_of ka_3_1.1 rfl, lwg_of ka_1_1.1 rfl, by decide +kernel, by decide, by decide, by decide +kernel⟩, rfl, lwg_of ka_3_0.1 rfl⟩
def M_Model_init : MI := (⟨"BeardHallModel", "<init>", "()V"⟩, prog_14_method_1_code, 1, none, [])
theorem mw_Model_init : MWi M_Model_init 0 := ⟨⟨lwg_of ka_6_149.1 rfl, lwg_of ka_1_14.1 rfl, by decide +kernel, by decide, by decide, by decide +kernel⟩, rfl, lwg_of ka_6_148.1 rfl, rfl, rfl⟩
def M_Model_thrown : MI := (⟨"BeardHallModel", "thrown", "()I"⟩, prog_14_method_2_code, 1, (some .int), [])
theorem mw_Model_thrown : MWv M_Model_thrown 0 := ⟨⟨lwg_of ka_7_61.1 rfl, lwg_of ka_1_14.1 rfl, by decide +kernel, by decide, by decide, by decide +kernel⟩, rfl, lwg_of ka_7_59.1 rfl, lwg_of ka_7_60.1 rfl⟩
def M_Model_fail : MI := (⟨"BeardHallModel", "fail", "(I)I"⟩, prog_14_method_3_code, 2, (some .int), [])
theorem mw_Model_fail : MWv M_Model_fail 1 := ⟨⟨lwg_of ka_7_73.1 rfl, lwg_of ka_1_14.1 rfl, by decide +kernel, by decide, by decide, by decide +kernel⟩, rfl, lwg_of ka_7_72.1 rfl, lwg_of kp_3_12.1 rfl⟩
def M_Model_failing : MI := (⟨"BeardHallModel", "failing", "(I)Z"⟩, prog_14_method_4_code, 2, (some .boolean), [])
theorem mw_Model_failing : MWv M_Model_failing 1 := ⟨⟨lwg_of ka_8_50.1 rfl, lwg_of ka_1_14.1 rfl, by decide +kernel, by decide, by decide, by decide +kernel⟩, rfl, lwg_of ka_8_49.1 rfl, lwg_of kp_6_2.1 rfl⟩
def M_Model_isIn : MI := (⟨"BeardHallModel", "isIn", "(JJJ)Z"⟩, prog_14_method_5_code, 6, (some .boolean), [])
theorem mw_Model_isIn : MWs M_Model_isIn 3 := ⟨⟨lwg_of ka_8_17.1 rfl, lwg_of ka_1_14.1 rfl, by decide +kernel, by decide, by decide, by decide +kernel⟩, rfl, lwg_of ka_8_16.1 rfl⟩
def M_Model_isOf : MI := (⟨"BeardHallModel", "isOf", "(II)Z"⟩, prog_14_method_6_code, 2, (some .boolean), [])
theorem mw_Model_isOf : MWs M_Model_isOf 2 := ⟨⟨lwg_of ka_7_223.1 rfl, lwg_of ka_1_14.1 rfl, by decide +kernel, by decide, by decide, by decide +kernel⟩, rfl, lwg_of ka_7_222.1 rfl⟩
def M_Model_isMonk : MI := (⟨"BeardHallModel", "isMonk", "(I)Z"⟩, prog_14_method_7_code, 2, (some .boolean), [])
theorem mw_Model_isMonk : MWv M_Model_isMonk 1 := ⟨⟨lwg_of ka_8_14.1 rfl, lwg_of ka_1_14.1 rfl, by decide +kernel, by decide, by decide, by decide +kernel⟩, rfl, lwg_of ka_8_13.1 rfl, lwg_of kp_5_13.1 rfl⟩
def M_Model_isEntry : MI := (⟨"BeardHallModel", "isEntry", "(I)Z"⟩, prog_14_method_8_code, 2, (some .boolean), [])
theorem mw_Model_isEntry : MWv M_Model_isEntry 1 := ⟨⟨lwg_of ka_8_33.1 rfl, lwg_of ka_1_14.1 rfl, by decide +kernel, by decide, by decide, by decide +kernel⟩, rfl, lwg_of ka_8_32.1 rfl, lwg_of kp_6_0.1 rfl⟩
def M_Model_isAbout : MI := (⟨"BeardHallModel", "isAbout", "(I)Z"⟩, prog_14_method_9_code, 1, (some .boolean), [])
theorem mw_Model_isAbout : MWs M_Model_isAbout 1 := ⟨⟨lwg_of ka_8_86.1 rfl, lwg_of ka_1_14.1 rfl, by decide +kernel, by decide, by decide, by decide +kernel⟩, rfl, lwg_of ka_8_85.1 rfl⟩
def M_Model_feed : MI := (⟨"BeardHallModel", "feed", "(IIIII)I"⟩, prog_14_method_10_code, 8, (some .int), [])
theorem mw_Model_feed : MWv M_Model_feed 5 := ⟨⟨lwg_of ka_7_65.1 rfl, lwg_of ka_1_14.1 rfl, by decide +kernel, by decide, by decide, by decide +kernel⟩, rfl, lwg_of ka_7_63.1 rfl, lwg_of ka_7_64.1 rfl⟩
def M_Model_byteAt : MI := (⟨"BeardHallModel", "byteAt", "(I)I"⟩, prog_14_method_11_code, 2, (some .int), [])
theorem mw_Model_byteAt : MWv M_Model_byteAt 1 := ⟨⟨lwg_of ka_7_81.1 rfl, lwg_of ka_1_14.1 rfl, by decide +kernel, by decide, by decide, by decide +kernel⟩, rfl, lwg_of ka_7_80.1 rfl, lwg_of kp_3_14.1 rfl⟩
def M_Model_isLetter : MI := (⟨"BeardHallModel", "isLetter", "(I)Z"⟩, prog_14_method_12_code, 1, (some .boolean), [])
theorem mw_Model_isLetter : MWs M_Model_isLetter 1 := ⟨⟨lwg_of ka_7_84.1 rfl, lwg_of ka_1_14.1 rfl, by decide +kernel, by decide, by decide, by decide +kernel⟩, rfl, lwg_of ka_7_83.1 rfl⟩
def M_Model_isDigit : MI := (⟨"BeardHallModel", "isDigit", "(I)Z"⟩, prog_14_method_13_code, 1, (some .boolean), [])
theorem mw_Model_isDigit : MWs M_Model_isDigit 1 := ⟨⟨lwg_of ka_7_87.1 rfl, lwg_of ka_1_14.1 rfl, by decide +kernel, by decide, by decide, by decide +kernel⟩, rfl, lwg_of ka_7_86.1 rfl⟩
def M_Model_isMark : MI := (⟨"BeardHallModel", "isMark", "(I)Z"⟩, prog_14_method_14_code, 1, (some .boolean), [])
theorem mw_Model_isMark : MWs M_Model_isMark 1 := ⟨⟨lwg_of ka_7_92.1 rfl, lwg_of ka_1_14.1 rfl, by decide +kernel, by decide, by decide, by decide +kernel⟩, rfl, lwg_of ka_7_91.1 rfl⟩
def M_Model_stepOn : MI := (⟨"BeardHallModel", "stepOn", "()V"⟩, prog_14_method_15_code, 2, none, [])
theorem mw_Model_stepOn : MWv M_Model_stepOn 0 := ⟨⟨lwg_of ka_7_77.1 rfl, lwg_of ka_1_14.1 rfl, by decide +kernel, by decide, by decide, by decide +kernel⟩, rfl, lwg_of ka_7_76.1 rfl, lwg_of kp_3_13.1 rfl⟩
def M_Model_wrong : MI := (⟨"BeardHallModel", "wrong", "(I)V"⟩, prog_14_method_16_code, 2, none, [])
theorem mw_Model_wrong : MWv M_Model_wrong 1 := ⟨⟨lwg_of ka_7_113.1 rfl, lwg_of ka_1_14.1 rfl, by decide +kernel, by decide, by decide, by decide +kernel⟩, rfl, lwg_of ka_7_112.1 rfl, lwg_of kp_4_2.1 rfl⟩
def M_Model_is : MI := (⟨"BeardHallModel", "is", "(Ljava/lang/String;)Z"⟩, prog_14_method_17_code, 4, (some .boolean), [])
theorem mw_Model_is : MWv M_Model_is 1 := ⟨⟨lwg_of ka_7_101.1 rfl, lwg_of ka_1_14.1 rfl, by decide +kernel, by decide, by decide, by decide +kernel⟩, rfl, lwg_of ka_7_100.1 rfl, lwg_of kp_4_0.1 rfl⟩
def M_Model_which : MI := (⟨"BeardHallModel", "which", "([Ljava/lang/String;)I"⟩, prog_14_method_18_code, 3, (some .int), [])
theorem mw_Model_which : MWv M_Model_which 1 := ⟨⟨lwg_of ka_7_109.1 rfl, lwg_of ka_1_14.1 rfl, by decide +kernel, by decide, by decide, by decide +kernel⟩, rfl, lwg_of ka_7_108.1 rfl, lwg_of kp_4_1.1 rfl⟩
def M_Model_isMarked : MI := (⟨"BeardHallModel", "isMarked", "(I)Z"⟩, prog_14_method_19_code, 2, (some .boolean), [])
theorem mw_Model_isMarked : MWv M_Model_isMarked 1 := ⟨⟨lwg_of ka_7_129.1 rfl, lwg_of ka_1_14.1 rfl, by decide +kernel, by decide, by decide, by decide +kernel⟩, rfl, lwg_of ka_7_128.1 rfl, lwg_of kp_4_6.1 rfl⟩
def M_Model_mark : MI := (⟨"BeardHallModel", "mark", "(I)V"⟩, prog_14_method_20_code, 2, none, [])
theorem mw_Model_mark : MWv M_Model_mark 1 := ⟨⟨lwg_of ka_7_158.1 rfl, lwg_of ka_1_14.1 rfl, by decide +kernel, by decide, by decide, by decide +kernel⟩, rfl, lwg_of ka_7_157.1 rfl, lwg_of kp_4_13.1 rfl⟩
def M_Model_numberNow : MI := (⟨"BeardHallModel", "numberNow", "(II)I"⟩, prog_14_method_21_code, 3, (some .int), [])
theorem mw_Model_numberNow : MWv M_Model_numberNow 2 := ⟨⟨lwg_of ka_7_121.1 rfl, lwg_of ka_1_14.1 rfl, by decide +kernel, by decide, by decide, by decide +kernel⟩, rfl, lwg_of ka_7_120.1 rfl, lwg_of kp_4_4.1 rfl⟩
def M_Model_readNumber : MI := (⟨"BeardHallModel", "readNumber", "(II)I"⟩, prog_14_method_22_code, 4, (some .int), [])
theorem mw_Model_readNumber : MWv M_Model_readNumber 2 := ⟨⟨lwg_of ka_7_117.1 rfl, lwg_of ka_1_14.1 rfl, by decide +kernel, by decide, by decide, by decide +kernel⟩, rfl, lwg_of ka_7_116.1 rfl, lwg_of kp_4_3.1 rfl⟩
def M_Model_oneNow : MI := (⟨"BeardHallModel", "oneNow", "(I)I"⟩, prog_14_method_23_code, 3, (some .int), [])
theorem mw_Model_oneNow : MWv M_Model_oneNow 1 := ⟨⟨lwg_of ka_7_186.1 rfl, lwg_of ka_1_14.1 rfl, by decide +kernel, by decide, by decide, by decide +kernel⟩, rfl, lwg_of ka_7_185.1 rfl, lwg_of kp_5_2.1 rfl⟩
def M_Model_readOne : MI := (⟨"BeardHallModel", "readOne", "(I)I"⟩, prog_14_method_24_code, 3, (some .int), [])
theorem mw_Model_readOne : MWv M_Model_readOne 1 := ⟨⟨lwg_of ka_7_182.1 rfl, lwg_of ka_1_14.1 rfl, by decide +kernel, by decide, by decide, by decide +kernel⟩, rfl, lwg_of ka_7_181.1 rfl, lwg_of kp_5_1.1 rfl⟩
def M_Model_lay : MI := (⟨"BeardHallModel", "lay", "(I)V"⟩, prog_14_method_25_code, 2, none, [])
theorem mw_Model_lay : MWv M_Model_lay 1 := ⟨⟨lwg_of ka_7_154.1 rfl, lwg_of ka_1_14.1 rfl, by decide +kernel, by decide, by decide, by decide +kernel⟩, rfl, lwg_of ka_7_153.1 rfl, lwg_of kp_4_12.1 rfl⟩
def M_Model_readPart : MI := (⟨"BeardHallModel", "readPart", "(I)V"⟩, prog_14_method_26_code, 3, none, [])
theorem mw_Model_readPart : MWv M_Model_readPart 1 := ⟨⟨lwg_of ka_7_150.1 rfl, lwg_of ka_1_14.1 rfl, by decide +kernel, by decide, by decide, by decide +kernel⟩, rfl, lwg_of ka_7_149.1 rfl, lwg_of kp_4_11.1 rfl⟩
def M_Model_readProduct : MI := (⟨"BeardHallModel", "readProduct", "(I)V"⟩, prog_14_method_27_code, 3, none, [])
theorem mw_Model_readProduct : MWv M_Model_readProduct 1 := ⟨⟨lwg_of ka_7_146.1 rfl, lwg_of ka_1_14.1 rfl, by decide +kernel, by decide, by decide, by decide +kernel⟩, rfl, lwg_of ka_7_145.1 rfl, lwg_of kp_4_10.1 rfl⟩
def M_Model_readSum : MI := (⟨"BeardHallModel", "readSum", "(I)V"⟩, prog_14_method_28_code, 3, none, [])
theorem mw_Model_readSum : MWv M_Model_readSum 1 := ⟨⟨lwg_of ka_7_142.1 rfl, lwg_of ka_1_14.1 rfl, by decide +kernel, by decide, by decide, by decide +kernel⟩, rfl, lwg_of ka_7_141.1 rfl, lwg_of kp_4_9.1 rfl⟩
def M_Model_readNot : MI := (⟨"BeardHallModel", "readNot", "(I)V"⟩, prog_14_method_29_code, 4, none, [])
theorem mw_Model_readNot : MWv M_Model_readNot 1 := ⟨⟨lwg_of ka_7_137.1 rfl, lwg_of ka_1_14.1 rfl, by decide +kernel, by decide, by decide, by decide +kernel⟩, rfl, lwg_of ka_7_136.1 rfl, lwg_of kp_4_8.1 rfl⟩
def M_Model_readAnd : MI := (⟨"BeardHallModel", "readAnd", "(I)V"⟩, prog_14_method_30_code, 2, none, [])
theorem mw_Model_readAnd : MWv M_Model_readAnd 1 := ⟨⟨lwg_of ka_7_133.1 rfl, lwg_of ka_1_14.1 rfl, by decide +kernel, by decide, by decide, by decide +kernel⟩, rfl, lwg_of ka_7_132.1 rfl, lwg_of kp_4_7.1 rfl⟩
def M_Model_readExpression : MI := (⟨"BeardHallModel", "readExpression", "(I)V"⟩, prog_14_method_31_code, 3, none, [])
theorem mw_Model_readExpression : MWv M_Model_readExpression 1 := ⟨⟨lwg_of ka_7_125.1 rfl, lwg_of ka_1_14.1 rfl, by decide +kernel, by decide, by decide, by decide +kernel⟩, rfl, lwg_of ka_7_124.1 rfl, lwg_of kp_4_5.1 rfl⟩
def M_Model_mayHave : MI := (⟨"BeardHallModel", "mayHave", "(II)I"⟩, prog_14_method_32_code, 2, (some .int), [])
theorem mw_Model_mayHave : MWs M_Model_mayHave 2 := ⟨⟨lwg_of ka_7_167.1 rfl, lwg_of ka_1_14.1 rfl, by decide +kernel, by decide, by decide, by decide +kernel⟩, rfl, lwg_of ka_7_166.1 rfl⟩
def M_Model_readMonk : MI := (⟨"BeardHallModel", "readMonk", "(I)V"⟩, prog_14_method_33_code, 3, none, [])
theorem mw_Model_readMonk : MWv M_Model_readMonk 1 := ⟨⟨lwg_of ka_7_164.1 rfl, lwg_of ka_1_14.1 rfl, by decide +kernel, by decide, by decide, by decide +kernel⟩, rfl, lwg_of ka_7_163.1 rfl, lwg_of kp_4_14.1 rfl⟩
def M_Model_readAt : MI := (⟨"BeardHallModel", "readAt", "(I)I"⟩, prog_14_method_34_code, 1, (some .int), [])
theorem mw_Model_readAt : MWs M_Model_readAt 1 := ⟨⟨lwg_of ka_7_178.1 rfl, lwg_of ka_1_14.1 rfl, by decide +kernel, by decide, by decide, by decide +kernel⟩, rfl, lwg_of ka_7_177.1 rfl⟩
def M_Model_anotherEntry : MI := (⟨"BeardHallModel", "anotherEntry", "()Z"⟩, prog_14_method_35_code, 1, (some .boolean), [])
theorem mw_Model_anotherEntry : MWv M_Model_anotherEntry 0 := ⟨⟨lwg_of ka_7_175.1 rfl, lwg_of ka_1_14.1 rfl, by decide +kernel, by decide, by decide, by decide +kernel⟩, rfl, lwg_of ka_7_174.1 rfl, lwg_of kp_5_0.1 rfl⟩
def M_Model_readEntry : MI := (⟨"BeardHallModel", "readEntry", "(I)V"⟩, prog_14_method_36_code, 3, none, [])
theorem mw_Model_readEntry : MWv M_Model_readEntry 1 := ⟨⟨lwg_of ka_7_171.1 rfl, lwg_of ka_1_14.1 rfl, by decide +kernel, by decide, by decide, by decide +kernel⟩, rfl, lwg_of ka_7_170.1 rfl, lwg_of kp_4_15.1 rfl⟩
def M_Model_readCopy : MI := (⟨"BeardHallModel", "readCopy", "()V"⟩, prog_14_method_37_code, 6, none, [])
theorem mw_Model_readCopy : MWv M_Model_readCopy 0 := ⟨⟨lwg_of ka_7_193.1 rfl, lwg_of ka_1_14.1 rfl, by decide +kernel, by decide, by decide, by decide +kernel⟩, rfl, lwg_of ka_7_192.1 rfl, lwg_of kp_5_3.1 rfl⟩
def M_Model_readLine : MI := (⟨"BeardHallModel", "readLine", "(I)I"⟩, prog_14_method_38_code, 5, (some .int), [])
theorem mw_Model_readLine : MWv M_Model_readLine 1 := ⟨⟨lwg_of ka_7_96.1 rfl, lwg_of ka_1_14.1 rfl, by decide +kernel, by decide, by decide, by decide +kernel⟩, rfl, lwg_of ka_7_95.1 rfl, lwg_of kp_3_15.1 rfl⟩
def M_Model_archive : MI := (⟨"BeardHallModel", "archive", "(I)I"⟩, prog_14_method_39_code, 3, (some .int), [])
theorem mw_Model_archive : MWv M_Model_archive 1 := ⟨⟨lwg_of ka_7_69.1 rfl, lwg_of ka_1_14.1 rfl, by decide +kernel, by decide, by decide, by decide +kernel⟩, rfl, lwg_of ka_7_67.1 rfl, lwg_of ka_7_68.1 rfl⟩
def M_Model_takeHalf : MI := (⟨"BeardHallModel", "takeHalf", "([I)V"⟩, prog_14_method_40_code, 2, none, [])
theorem mw_Model_takeHalf : MWs M_Model_takeHalf 1 := ⟨⟨lwg_of ka_7_200.1 rfl, lwg_of ka_1_14.1 rfl, by decide +kernel, by decide, by decide, by decide +kernel⟩, rfl, lwg_of ka_7_199.1 rfl⟩
def M_Model_takeOver : MI := (⟨"BeardHallModel", "takeOver", "()V"⟩, prog_14_method_41_code, 2, none, [])
theorem mw_Model_takeOver : MWv M_Model_takeOver 0 := ⟨⟨lwg_of ka_7_197.1 rfl, lwg_of ka_1_14.1 rfl, by decide +kernel, by decide, by decide, by decide +kernel⟩, rfl, lwg_of ka_7_196.1 rfl, lwg_of kp_5_4.1 rfl⟩
def M_Model_fault : MI := (⟨"BeardHallModel", "fault", "()I"⟩, prog_14_method_42_code, 1, (some .int), [])
theorem mw_Model_fault : MWv M_Model_fault 0 := ⟨⟨lwg_of ka_7_231.1 rfl, lwg_of ka_1_14.1 rfl, by decide +kernel, by decide, by decide, by decide +kernel⟩, rfl, lwg_of ka_7_229.1 rfl, lwg_of ka_7_230.1 rfl⟩
def M_Model_pack : MI := (⟨"BeardHallModel", "pack", "([II)V"⟩, prog_14_method_43_code, 5, none, [])
theorem mw_Model_pack : MWv M_Model_pack 2 := ⟨⟨lwg_of ka_8_74.1 rfl, lwg_of ka_1_14.1 rfl, by decide +kernel, by decide, by decide, by decide +kernel⟩, rfl, lwg_of ka_8_73.1 rfl, lwg_of kp_6_6.1 rfl⟩
def M_Model_unpack : MI := (⟨"BeardHallModel", "unpack", "([II)V"⟩, prog_14_method_44_code, 5, none, [])
theorem mw_Model_unpack : MWv M_Model_unpack 2 := ⟨⟨lwg_of ka_8_133.1 rfl, lwg_of ka_1_14.1 rfl, by decide +kernel, by decide, by decide, by decide +kernel⟩, rfl, lwg_of ka_8_132.1 rfl, lwg_of kp_6_11.1 rfl⟩
def M_Model_of : MI := (⟨"BeardHallModel", "of", "(II)I"⟩, prog_14_method_45_code, 3, (some .int), [])
theorem mw_Model_of : MWv M_Model_of 2 := ⟨⟨lwg_of ka_7_212.1 rfl, lwg_of ka_1_14.1 rfl, by decide +kernel, by decide, by decide, by decide +kernel⟩, rfl, lwg_of ka_7_211.1 rfl, lwg_of kp_5_7.1 rfl⟩
def M_Model_isThere : MI := (⟨"BeardHallModel", "isThere", "(I)Z"⟩, prog_14_method_46_code, 2, (some .boolean), [])
theorem mw_Model_isThere : MWv M_Model_isThere 1 := ⟨⟨lwg_of ka_7_208.1 rfl, lwg_of ka_1_14.1 rfl, by decide +kernel, by decide, by decide, by decide +kernel⟩, rfl, lwg_of ka_7_207.1 rfl, lwg_of kp_5_6.1 rfl⟩
def M_Model_yearOf : MI := (⟨"BeardHallModel", "yearOf", "(I)I"⟩, prog_14_method_47_code, 2, (some .int), [])
theorem mw_Model_yearOf : MWv M_Model_yearOf 1 := ⟨⟨lwg_of ka_7_220.1 rfl, lwg_of ka_1_14.1 rfl, by decide +kernel, by decide, by decide, by decide +kernel⟩, rfl, lwg_of ka_7_219.1 rfl, lwg_of kp_5_9.1 rfl⟩
def M_Model_old : MI := (⟨"BeardHallModel", "old", "(I)I"⟩, prog_14_method_48_code, 2, (some .int), [])
theorem mw_Model_old : MWv M_Model_old 1 := ⟨⟨lwg_of ka_7_216.1 rfl, lwg_of ka_1_14.1 rfl, by decide +kernel, by decide, by decide, by decide +kernel⟩, rfl, lwg_of ka_7_215.1 rfl, lwg_of kp_5_8.1 rfl⟩
def M_Model_lose : MI := (⟨"BeardHallModel", "lose", "(I)V"⟩, prog_14_method_49_code, 2, none, [])
theorem mw_Model_lose : MWv M_Model_lose 1 := ⟨⟨lwg_of ka_7_227.1 rfl, lwg_of ka_1_14.1 rfl, by decide +kernel, by decide, by decide, by decide +kernel⟩, rfl, lwg_of ka_7_226.1 rfl, lwg_of kp_5_10.1 rfl⟩
def M_Model_loseFar : MI := (⟨"BeardHallModel", "loseFar", "()I"⟩, prog_14_method_50_code, 3, (some .int), [])
theorem mw_Model_loseFar : MWv M_Model_loseFar 0 := ⟨⟨lwg_of ka_7_204.1 rfl, lwg_of ka_1_14.1 rfl, by decide +kernel, by decide, by decide, by decide +kernel⟩, rfl, lwg_of ka_7_203.1 rfl, lwg_of kp_5_5.1 rfl⟩
def M_Model_yearGoes : MI := (⟨"BeardHallModel", "yearGoes", "()V"⟩, prog_14_method_51_code, 2, none, [])
theorem mw_Model_yearGoes : MWv M_Model_yearGoes 0 := ⟨⟨lwg_of ka_8_78.1 rfl, lwg_of ka_1_14.1 rfl, by decide +kernel, by decide, by decide, by decide +kernel⟩, rfl, lwg_of ka_8_77.1 rfl, lwg_of kp_6_7.1 rfl⟩
def M_Model_mothsEat : MI := (⟨"BeardHallModel", "mothsEat", "(III)I"⟩, prog_14_method_52_code, 6, (some .int), [])
theorem mw_Model_mothsEat : MWv M_Model_mothsEat 3 := ⟨⟨lwg_of ka_8_121.1 rfl, lwg_of ka_1_14.1 rfl, by decide +kernel, by decide, by decide, by decide +kernel⟩, rfl, lwg_of ka_8_120.1 rfl, lwg_of kp_6_10.1 rfl⟩
def M_Model_holdersOf : MI := (⟨"BeardHallModel", "holdersOf", "(I)I"⟩, prog_14_method_53_code, 4, (some .int), [])
theorem mw_Model_holdersOf : MWv M_Model_holdersOf 1 := ⟨⟨lwg_of ka_8_42.1 rfl, lwg_of ka_1_14.1 rfl, by decide +kernel, by decide, by decide, by decide +kernel⟩, rfl, lwg_of ka_8_41.1 rfl, lwg_of kp_6_1.1 rfl⟩
def M_Model_records : MI := (⟨"BeardHallModel", "records", "()I"⟩, prog_14_method_54_code, 3, (some .int), [])
theorem mw_Model_records : MWv M_Model_records 0 := ⟨⟨lwg_of ka_8_3.1 rfl, lwg_of ka_1_14.1 rfl, by decide +kernel, by decide, by decide, by decide +kernel⟩, rfl, lwg_of ka_8_2.1 rfl, lwg_of kp_5_12.1 rfl⟩
def M_Model_bitsOf : MI := (⟨"BeardHallModel", "bitsOf", "(I)I"⟩, prog_14_method_55_code, 3, (some .int), [])
theorem mw_Model_bitsOf : MWs M_Model_bitsOf 1 := ⟨⟨lwg_of ka_8_6.1 rfl, lwg_of ka_1_14.1 rfl, by decide +kernel, by decide, by decide, by decide +kernel⟩, rfl, lwg_of ka_8_5.1 rfl⟩
def M_Model_ageOf : MI := (⟨"BeardHallModel", "ageOf", "(I)I"⟩, prog_14_method_56_code, 2, (some .int), [])
theorem mw_Model_ageOf : MWv M_Model_ageOf 1 := ⟨⟨lwg_of ka_8_21.1 rfl, lwg_of ka_1_14.1 rfl, by decide +kernel, by decide, by decide, by decide +kernel⟩, rfl, lwg_of ka_8_20.1 rfl, lwg_of kp_5_14.1 rfl⟩
def M_Model_isGrey : MI := (⟨"BeardHallModel", "isGrey", "(I)Z"⟩, prog_14_method_57_code, 2, (some .boolean), [])
theorem mw_Model_isGrey : MWv M_Model_isGrey 1 := ⟨⟨lwg_of ka_8_25.1 rfl, lwg_of ka_1_14.1 rfl, by decide +kernel, by decide, by decide, by decide +kernel⟩, rfl, lwg_of ka_8_24.1 rfl, lwg_of kp_5_15.1 rfl⟩
def M_Model_thereMany : MI := (⟨"BeardHallModel", "thereMany", "()I"⟩, prog_14_method_58_code, 3, (some .int), [])
theorem mw_Model_thereMany : MWv M_Model_thereMany 0 := ⟨⟨lwg_of ka_7_239.1 rfl, lwg_of ka_1_14.1 rfl, by decide +kernel, by decide, by decide, by decide +kernel⟩, rfl, lwg_of ka_7_238.1 rfl, lwg_of kp_5_11.1 rfl⟩
def M_Model_count : MI := (⟨"BeardHallModel", "count", "(I)I"⟩, prog_14_method_59_code, 2, (some .int), [])
theorem mw_Model_count : MWv M_Model_count 1 := ⟨⟨lwg_of ka_7_235.1 rfl, lwg_of ka_1_14.1 rfl, by decide +kernel, by decide, by decide, by decide +kernel⟩, rfl, lwg_of ka_7_233.1 rfl, lwg_of ka_7_234.1 rfl⟩
def M_Model_monk : MI := (⟨"BeardHallModel", "monk", "(II)I"⟩, prog_14_method_60_code, 5, (some .int), [])
theorem mw_Model_monk : MWv M_Model_monk 2 := ⟨⟨lwg_of ka_8_10.1 rfl, lwg_of ka_1_14.1 rfl, by decide +kernel, by decide, by decide, by decide +kernel⟩, rfl, lwg_of ka_8_8.1 rfl, lwg_of ka_8_9.1 rfl⟩
def M_Model_entry : MI := (⟨"BeardHallModel", "entry", "(II)I"⟩, prog_14_method_61_code, 3, (some .int), [])
theorem mw_Model_entry : MWv M_Model_entry 2 := ⟨⟨lwg_of ka_8_29.1 rfl, lwg_of ka_1_14.1 rfl, by decide +kernel, by decide, by decide, by decide +kernel⟩, rfl, lwg_of ka_8_27.1 rfl, lwg_of ka_8_28.1 rfl⟩
def M_Model_holders : MI := (⟨"BeardHallModel", "holders", "(I)I"⟩, prog_14_method_62_code, 2, (some .int), [])
theorem mw_Model_holders : MWv M_Model_holders 1 := ⟨⟨lwg_of ka_8_38.1 rfl, lwg_of ka_1_14.1 rfl, by decide +kernel, by decide, by decide, by decide +kernel⟩, rfl, lwg_of ka_8_36.1 rfl, lwg_of ka_8_37.1 rfl⟩
def M_Model_reckon : MI := (⟨"BeardHallModel", "reckon", "(III)I"⟩, prog_14_method_63_code, 3, (some .int), [])
theorem mw_Model_reckon : MWs M_Model_reckon 3 := ⟨⟨lwg_of ka_8_57.1 rfl, lwg_of ka_1_14.1 rfl, by decide +kernel, by decide, by decide, by decide +kernel⟩, rfl, lwg_of ka_8_56.1 rfl⟩
def M_Model_valueNow : MI := (⟨"BeardHallModel", "valueNow", "()I"⟩, prog_14_method_64_code, 4, (some .int), [])
theorem mw_Model_valueNow : MWv M_Model_valueNow 0 := ⟨⟨lwg_of ka_8_54.1 rfl, lwg_of ka_1_14.1 rfl, by decide +kernel, by decide, by decide, by decide +kernel⟩, rfl, lwg_of ka_8_53.1 rfl, lwg_of kp_6_3.1 rfl⟩
def M_Model_may : MI := (⟨"BeardHallModel", "may", "(II)Z"⟩, prog_14_method_65_code, 4, (some .boolean), [])
theorem mw_Model_may : MWv M_Model_may 2 := ⟨⟨lwg_of ka_8_46.1 rfl, lwg_of ka_1_14.1 rfl, by decide +kernel, by decide, by decide, by decide +kernel⟩, rfl, lwg_of ka_8_44.1 rfl, lwg_of ka_8_45.1 rfl⟩
def M_Model_refuse : MI := (⟨"BeardHallModel", "refuse", "(I)I"⟩, prog_14_method_66_code, 2, (some .int), [])
theorem mw_Model_refuse : MWv M_Model_refuse 1 := ⟨⟨lwg_of ka_8_66.1 rfl, lwg_of ka_1_14.1 rfl, by decide +kernel, by decide, by decide, by decide +kernel⟩, rfl, lwg_of ka_8_65.1 rfl, lwg_of kp_6_4.1 rfl⟩
def M_Model_keep : MI := (⟨"BeardHallModel", "keep", "()V"⟩, prog_14_method_67_code, 2, none, [])
theorem mw_Model_keep : MWv M_Model_keep 0 := ⟨⟨lwg_of ka_8_70.1 rfl, lwg_of ka_1_14.1 rfl, by decide +kernel, by decide, by decide, by decide +kernel⟩, rfl, lwg_of ka_8_69.1 rfl, lwg_of kp_6_5.1 rfl⟩
def M_Model_years : MI := (⟨"BeardHallModel", "years", "(I)I"⟩, prog_14_method_68_code, 3, (some .int), [])
theorem mw_Model_years : MWv M_Model_years 1 := ⟨⟨lwg_of ka_8_61.1 rfl, lwg_of ka_1_14.1 rfl, by decide +kernel, by decide, by decide, by decide +kernel⟩, rfl, lwg_of ka_8_59.1 rfl, lwg_of ka_8_60.1 rfl⟩
def M_Model_putEntry : MI := (⟨"BeardHallModel", "putEntry", "(IIIIII)I"⟩, prog_14_method_69_code, 8, (some .int), [])
theorem mw_Model_putEntry : MWv M_Model_putEntry 6 := ⟨⟨lwg_of ka_8_92.1 rfl, lwg_of ka_1_14.1 rfl, by decide +kernel, by decide, by decide, by decide +kernel⟩, rfl, lwg_of ka_8_91.1 rfl, lwg_of kp_6_8.1 rfl⟩
def M_Model_braid : MI := (⟨"BeardHallModel", "braid", "(IIII)I"⟩, prog_14_method_70_code, 5, (some .int), [])
theorem mw_Model_braid : MWv M_Model_braid 4 := ⟨⟨lwg_of ka_8_82.1 rfl, lwg_of ka_1_14.1 rfl, by decide +kernel, by decide, by decide, by decide +kernel⟩, rfl, lwg_of ka_8_80.1 rfl, lwg_of ka_8_81.1 rfl⟩
def M_Model_copy : MI := (⟨"BeardHallModel", "copy", "(II)I"⟩, prog_14_method_71_code, 3, (some .int), [])
theorem mw_Model_copy : MWv M_Model_copy 2 := ⟨⟨lwg_of ka_8_96.1 rfl, lwg_of ka_1_14.1 rfl, by decide +kernel, by decide, by decide, by decide +kernel⟩, rfl, lwg_of ka_8_94.1 rfl, lwg_of ka_8_95.1 rfl⟩
def M_Model_isLoose : MI := (⟨"BeardHallModel", "isLoose", "(I)Z"⟩, prog_14_method_72_code, 2, (some .boolean), [])
theorem mw_Model_isLoose : MWv M_Model_isLoose 1 := ⟨⟨lwg_of ka_8_104.1 rfl, lwg_of ka_1_14.1 rfl, by decide +kernel, by decide, by decide, by decide +kernel⟩, rfl, lwg_of ka_8_103.1 rfl, lwg_of kp_6_9.1 rfl⟩
def M_Model_knot : MI := (⟨"BeardHallModel", "knot", "(I)Z"⟩, prog_14_method_73_code, 2, (some .boolean), [])
theorem mw_Model_knot : MWv M_Model_knot 1 := ⟨⟨lwg_of ka_8_100.1 rfl, lwg_of ka_1_14.1 rfl, by decide +kernel, by decide, by decide, by decide +kernel⟩, rfl, lwg_of ka_8_98.1 rfl, lwg_of ka_8_99.1 rfl⟩
def M_Model_comb : MI := (⟨"BeardHallModel", "comb", "(I)Z"⟩, prog_14_method_74_code, 2, (some .boolean), [])
theorem mw_Model_comb : MWv M_Model_comb 1 := ⟨⟨lwg_of ka_8_108.1 rfl, lwg_of ka_1_14.1 rfl, by decide +kernel, by decide, by decide, by decide +kernel⟩, rfl, lwg_of ka_8_106.1 rfl, lwg_of ka_8_107.1 rfl⟩
def M_Model_shave : MI := (⟨"BeardHallModel", "shave", "(II)I"⟩, prog_14_method_75_code, 3, (some .int), [])
theorem mw_Model_shave : MWv M_Model_shave 2 := ⟨⟨lwg_of ka_8_112.1 rfl, lwg_of ka_1_14.1 rfl, by decide +kernel, by decide, by decide, by decide +kernel⟩, rfl, lwg_of ka_8_110.1 rfl, lwg_of ka_8_111.1 rfl⟩
def M_Model_moths : MI := (⟨"BeardHallModel", "moths", "(III)I"⟩, prog_14_method_76_code, 4, (some .int), [])
theorem mw_Model_moths : MWv M_Model_moths 3 := ⟨⟨lwg_of ka_8_116.1 rfl, lwg_of ka_1_14.1 rfl, by decide +kernel, by decide, by decide, by decide +kernel⟩, rfl, lwg_of ka_8_114.1 rfl, lwg_of ka_8_115.1 rfl⟩
def M_Model_die : MI := (⟨"BeardHallModel", "die", "(I)Z"⟩, prog_14_method_77_code, 2, (some .boolean), [])
theorem mw_Model_die : MWv M_Model_die 1 := ⟨⟨lwg_of ka_8_125.1 rfl, lwg_of ka_1_14.1 rfl, by decide +kernel, by decide, by decide, by decide +kernel⟩, rfl, lwg_of ka_8_123.1 rfl, lwg_of ka_8_124.1 rfl⟩
def M_Model_undo : MI := (⟨"BeardHallModel", "undo", "()I"⟩, prog_14_method_78_code, 1, (some .int), [])
theorem mw_Model_undo : MWv M_Model_undo 0 := ⟨⟨lwg_of ka_8_129.1 rfl, lwg_of ka_1_14.1 rfl, by decide +kernel, by decide, by decide, by decide +kernel⟩, rfl, lwg_of ka_8_127.1 rfl, lwg_of ka_8_128.1 rfl⟩
def M_Model_isOfKind : MI := (⟨"BeardHallModel", "isOfKind", "(III)Z"⟩, prog_14_method_79_code, 4, (some .boolean), [])
theorem mw_Model_isOfKind : MWv M_Model_isOfKind 3 := ⟨⟨lwg_of ka_8_141.1 rfl, lwg_of ka_1_14.1 rfl, by decide +kernel, by decide, by decide, by decide +kernel⟩, rfl, lwg_of ka_8_140.1 rfl, lwg_of kp_6_12.1 rfl⟩
def M_Model_law : MI := (⟨"BeardHallModel", "law", "(I)I"⟩, prog_14_method_80_code, 6, (some .int), [])
theorem mw_Model_law : MWv M_Model_law 1 := ⟨⟨lwg_of ka_8_137.1 rfl, lwg_of ka_1_14.1 rfl, by decide +kernel, by decide, by decide, by decide +kernel⟩, rfl, lwg_of ka_8_135.1 rfl, lwg_of ka_8_136.1 rfl⟩
def M_Model_areRivals : MI := (⟨"BeardHallModel", "areRivals", "(II)Z"⟩, prog_14_method_81_code, 5, (some .boolean), [])
theorem mw_Model_areRivals : MWv M_Model_areRivals 2 := ⟨⟨lwg_of ka_8_149.1 rfl, lwg_of ka_1_14.1 rfl, by decide +kernel, by decide, by decide, by decide +kernel⟩, rfl, lwg_of ka_8_148.1 rfl, lwg_of kp_6_13.1 rfl⟩
def M_Model_rivals : MI := (⟨"BeardHallModel", "rivals", "()I"⟩, prog_14_method_82_code, 4, (some .int), [])
theorem mw_Model_rivals : MWv M_Model_rivals 0 := ⟨⟨lwg_of ka_8_145.1 rfl, lwg_of ka_1_14.1 rfl, by decide +kernel, by decide, by decide, by decide +kernel⟩, rfl, lwg_of ka_8_143.1 rfl, lwg_of ka_8_144.1 rfl⟩
def M_Model_owedNow : MI := (⟨"BeardHallModel", "owedNow", "(I)I"⟩, prog_14_method_83_code, 5, (some .int), [])
theorem mw_Model_owedNow : MWv M_Model_owedNow 1 := ⟨⟨lwg_of ka_8_157.1 rfl, lwg_of ka_1_14.1 rfl, by decide +kernel, by decide, by decide, by decide +kernel⟩, rfl, lwg_of ka_8_156.1 rfl, lwg_of kp_6_14.1 rfl⟩
def M_Model_owed : MI := (⟨"BeardHallModel", "owed", "(I)I"⟩, prog_14_method_84_code, 2, (some .int), [])
theorem mw_Model_owed : MWv M_Model_owed 1 := ⟨⟨lwg_of ka_8_153.1 rfl, lwg_of ka_1_14.1 rfl, by decide +kernel, by decide, by decide, by decide +kernel⟩, rfl, lwg_of ka_8_151.1 rfl, lwg_of ka_8_152.1 rfl⟩
def M_Model_cover : MI := (⟨"BeardHallModel", "cover", "()I"⟩, prog_14_method_85_code, 6, (some .int), [])
theorem mw_Model_cover : MWv M_Model_cover 0 := ⟨⟨lwg_of ka_8_161.1 rfl, lwg_of ka_1_14.1 rfl, by decide +kernel, by decide, by decide, by decide +kernel⟩, rfl, lwg_of ka_8_159.1 rfl, lwg_of ka_8_160.1 rfl⟩
def M_Model_alone : MI := (⟨"BeardHallModel", "alone", "()I"⟩, prog_14_method_86_code, 3, (some .int), [])
theorem mw_Model_alone : MWv M_Model_alone 0 := ⟨⟨lwg_of ka_8_165.1 rfl, lwg_of ka_1_14.1 rfl, by decide +kernel, by decide, by decide, by decide +kernel⟩, rfl, lwg_of ka_8_163.1 rfl, lwg_of ka_8_164.1 rfl⟩
def M_Model_shaveNow : MI := (⟨"BeardHallModel", "shaveNow", "(II)V"⟩, prog_14_method_87_code, 3, none, [])
theorem mw_Model_shaveNow : MWv M_Model_shaveNow 2 := ⟨⟨lwg_of ka_8_182.1 rfl, lwg_of ka_1_14.1 rfl, by decide +kernel, by decide, by decide, by decide +kernel⟩, rfl, lwg_of ka_8_181.1 rfl, lwg_of kp_7_1.1 rfl⟩
def M_Model_lostByRazors : MI := (⟨"BeardHallModel", "lostByRazors", "(I)I"⟩, prog_14_method_88_code, 4, (some .int), [])
theorem mw_Model_lostByRazors : MWv M_Model_lostByRazors 1 := ⟨⟨lwg_of ka_8_178.1 rfl, lwg_of ka_1_14.1 rfl, by decide +kernel, by decide, by decide, by decide +kernel⟩, rfl, lwg_of ka_8_177.1 rfl, lwg_of kp_7_0.1 rfl⟩
def M_Model_noPlaits : MI := (⟨"BeardHallModel", "noPlaits", "()I"⟩, prog_14_method_89_code, 3, (some .int), [])
theorem mw_Model_noPlaits : MWv M_Model_noPlaits 0 := ⟨⟨lwg_of ka_8_174.1 rfl, lwg_of ka_1_14.1 rfl, by decide +kernel, by decide, by decide, by decide +kernel⟩, rfl, lwg_of ka_8_173.1 rfl, lwg_of kp_6_15.1 rfl⟩
def M_Model_barbers : MI := (⟨"BeardHallModel", "barbers", "(I)I"⟩, prog_14_method_90_code, 6, (some .int), [])
theorem mw_Model_barbers : MWv M_Model_barbers 1 := ⟨⟨lwg_of ka_8_169.1 rfl, lwg_of ka_1_14.1 rfl, by decide +kernel, by decide, by decide, by decide +kernel⟩, rfl, lwg_of ka_8_167.1 rfl, lwg_of ka_8_168.1 rfl⟩
def M_Model_shortest : MI := (⟨"BeardHallModel", "shortest", "(I)I"⟩, prog_14_method_91_code, 5, (some .int), [])
theorem mw_Model_shortest : MWv M_Model_shortest 1 := ⟨⟨lwg_of ka_8_186.1 rfl, lwg_of ka_1_14.1 rfl, by decide +kernel, by decide, by decide, by decide +kernel⟩, rfl, lwg_of ka_8_184.1 rfl, lwg_of ka_8_185.1 rfl⟩
def M_Model_forgiven : MI := (⟨"BeardHallModel", "forgiven", "(III)I"⟩, prog_14_method_92_code, 8, (some .int), [])
theorem mw_Model_forgiven : MWv M_Model_forgiven 3 := ⟨⟨lwg_of ka_8_194.1 rfl, lwg_of ka_1_14.1 rfl, by decide +kernel, by decide, by decide, by decide +kernel⟩, rfl, lwg_of ka_8_193.1 rfl, lwg_of kp_7_2.1 rfl⟩
def M_Model_amnesty : MI := (⟨"BeardHallModel", "amnesty", "(III)I"⟩, prog_14_method_93_code, 8, (some .int), [])
theorem mw_Model_amnesty : MWv M_Model_amnesty 3 := ⟨⟨lwg_of ka_8_190.1 rfl, lwg_of ka_1_14.1 rfl, by decide +kernel, by decide, by decide, by decide +kernel⟩, rfl, lwg_of ka_8_188.1 rfl, lwg_of ka_8_189.1 rfl⟩
def M_Model_week : MI := (⟨"BeardHallModel", "week", "(II)I"⟩, prog_14_method_94_code, 6, (some .int), [])
theorem mw_Model_week : MWv M_Model_week 2 := ⟨⟨lwg_of ka_8_198.1 rfl, lwg_of ka_1_14.1 rfl, by decide +kernel, by decide, by decide, by decide +kernel⟩, rfl, lwg_of ka_8_196.1 rfl, lwg_of ka_8_197.1 rfl⟩
def M_Model_oldest : MI := (⟨"BeardHallModel", "oldest", "(II)I"⟩, prog_14_method_95_code, 5, (some .int), [])
theorem mw_Model_oldest : MWv M_Model_oldest 2 := ⟨⟨lwg_of ka_8_203.1 rfl, lwg_of ka_1_14.1 rfl, by decide +kernel, by decide, by decide, by decide +kernel⟩, rfl, lwg_of ka_8_201.1 rfl, lwg_of ka_8_202.1 rfl⟩
def M_Model_believers : MI := (⟨"BeardHallModel", "believers", "(II)I"⟩, prog_14_method_96_code, 5, (some .int), [])
theorem mw_Model_believers : MWv M_Model_believers 2 := ⟨⟨lwg_of ka_8_211.1 rfl, lwg_of ka_1_14.1 rfl, by decide +kernel, by decide, by decide, by decide +kernel⟩, rfl, lwg_of ka_8_210.1 rfl, lwg_of kp_7_3.1 rfl⟩
def M_Model_believed : MI := (⟨"BeardHallModel", "believed", "(I)I"⟩, prog_14_method_97_code, 7, (some .int), [])
theorem mw_Model_believed : MWv M_Model_believed 1 := ⟨⟨lwg_of ka_8_207.1 rfl, lwg_of ka_1_14.1 rfl, by decide +kernel, by decide, by decide, by decide +kernel⟩, rfl, lwg_of ka_8_205.1 rfl, lwg_of ka_8_206.1 rfl⟩
def M_Model_until : MI := (⟨"BeardHallModel", "until", "(I)I"⟩, prog_14_method_98_code, 3, (some .int), [])
theorem mw_Model_until : MWv M_Model_until 1 := ⟨⟨lwg_of ka_8_215.1 rfl, lwg_of ka_1_14.1 rfl, by decide +kernel, by decide, by decide, by decide +kernel⟩, rfl, lwg_of ka_8_213.1 rfl, lwg_of ka_8_214.1 rfl⟩
def M_Model_doomed : MI := (⟨"BeardHallModel", "doomed", "(I)I"⟩, prog_14_method_99_code, 4, (some .int), [])
theorem mw_Model_doomed : MWv M_Model_doomed 1 := ⟨⟨lwg_of ka_8_219.1 rfl, lwg_of ka_1_14.1 rfl, by decide +kernel, by decide, by decide, by decide +kernel⟩, rfl, lwg_of ka_8_217.1 rfl, lwg_of ka_8_218.1 rfl⟩
def M_Model_safest : MI := (⟨"BeardHallModel", "safest", "()I"⟩, prog_14_method_100_code, 3, (some .int), [])
theorem mw_Model_safest : MWv M_Model_safest 0 := ⟨⟨lwg_of ka_8_223.1 rfl, lwg_of ka_1_14.1 rfl, by decide +kernel, by decide, by decide, by decide +kernel⟩, rfl, lwg_of ka_8_221.1 rfl, lwg_of ka_8_222.1 rfl⟩
def M_Model_recordsOf : MI := (⟨"BeardHallModel", "recordsOf", "(I)I"⟩, prog_14_method_101_code, 4, (some .int), [])
theorem mw_Model_recordsOf : MWv M_Model_recordsOf 1 := ⟨⟨lwg_of ka_8_231.1 rfl, lwg_of ka_1_14.1 rfl, by decide +kernel, by decide, by decide, by decide +kernel⟩, rfl, lwg_of ka_8_230.1 rfl, lwg_of kp_7_4.1 rfl⟩
def M_Model_heir : MI := (⟨"BeardHallModel", "heir", "(I)I"⟩, prog_14_method_102_code, 5, (some .int), [])
theorem mw_Model_heir : MWv M_Model_heir 1 := ⟨⟨lwg_of ka_8_227.1 rfl, lwg_of ka_1_14.1 rfl, by decide +kernel, by decide, by decide, by decide +kernel⟩, rfl, lwg_of ka_8_225.1 rfl, lwg_of ka_8_226.1 rfl⟩
def M_Model_lice : MI := (⟨"BeardHallModel", "lice", "(I)I"⟩, prog_14_method_103_code, 4, (some .int), [])
theorem mw_Model_lice : MWv M_Model_lice 1 := ⟨⟨lwg_of ka_8_235.1 rfl, lwg_of ka_1_14.1 rfl, by decide +kernel, by decide, by decide, by decide +kernel⟩, rfl, lwg_of ka_8_233.1 rfl, lwg_of ka_8_234.1 rfl⟩
def M_Model_see : MI := (⟨"BeardHallModel", "see", "(IZ)I"⟩, prog_14_method_104_code, 3, (some .int), [])
theorem mw_Model_see : MWv M_Model_see 2 := ⟨⟨lwg_of ka_8_239.1 rfl, lwg_of ka_1_14.1 rfl, by decide +kernel, by decide, by decide, by decide +kernel⟩, rfl, lwg_of ka_8_237.1 rfl, lwg_of ka_8_238.1 rfl⟩
def M_Model_isAsSeen : MI := (⟨"BeardHallModel", "isAsSeen", "()Z"⟩, prog_14_method_105_code, 2, (some .boolean), [])
theorem mw_Model_isAsSeen : MWv M_Model_isAsSeen 0 := ⟨⟨lwg_of ka_9_7.1 rfl, lwg_of ka_1_14.1 rfl, by decide +kernel, by decide, by decide, by decide +kernel⟩, rfl, lwg_of ka_9_6.1 rfl, lwg_of kp_7_5.1 rfl⟩
def M_Model_ate : MI := (⟨"BeardHallModel", "ate", "(II)I"⟩, prog_14_method_106_code, 8, (some .int), [])
theorem mw_Model_ate : MWv M_Model_ate 2 := ⟨⟨lwg_of ka_9_3.1 rfl, lwg_of ka_1_14.1 rfl, by decide +kernel, by decide, by decide, by decide +kernel⟩, rfl, lwg_of ka_9_1.1 rfl, lwg_of ka_9_2.1 rfl⟩
def M_Model_forget : MI := (⟨"BeardHallModel", "forget", "()I"⟩, prog_14_method_107_code, 1, (some .int), [])
theorem mw_Model_forget : MWv M_Model_forget 0 := ⟨⟨lwg_of ka_9_11.1 rfl, lwg_of ka_1_14.1 rfl, by decide +kernel, by decide, by decide, by decide +kernel⟩, rfl, lwg_of ka_9_9.1 rfl, lwg_of ka_9_10.1 rfl⟩
def M_Model_gain : MI := (⟨"BeardHallModel", "gain", "(III)I"⟩, prog_14_method_108_code, 7, (some .int), [])
theorem mw_Model_gain : MWv M_Model_gain 3 := ⟨⟨lwg_of ka_9_23.1 rfl, lwg_of ka_1_14.1 rfl, by decide +kernel, by decide, by decide, by decide +kernel⟩, rfl, lwg_of ka_9_22.1 rfl, lwg_of kp_7_7.1 rfl⟩
def M_Model_rests : MI := (⟨"BeardHallModel", "rests", "(III)Z"⟩, prog_14_method_109_code, 5, (some .boolean), [])
theorem mw_Model_rests : MWv M_Model_rests 3 := ⟨⟨lwg_of ka_9_19.1 rfl, lwg_of ka_1_14.1 rfl, by decide +kernel, by decide, by decide, by decide +kernel⟩, rfl, lwg_of ka_9_18.1 rfl, lwg_of kp_7_6.1 rfl⟩
def M_Model_game : MI := (⟨"BeardHallModel", "game", "(I)I"⟩, prog_14_method_110_code, 7, (some .int), [])
theorem mw_Model_game : MWv M_Model_game 1 := ⟨⟨lwg_of ka_9_15.1 rfl, lwg_of ka_1_14.1 rfl, by decide +kernel, by decide, by decide, by decide +kernel⟩, rfl, lwg_of ka_9_13.1 rfl, lwg_of ka_9_14.1 rfl⟩
def M_Model_drawOf : MI := (⟨"BeardHallModel", "drawOf", "(I)I"⟩, prog_14_method_111_code, 2, (some .int), [])
theorem mw_Model_drawOf : MWv M_Model_drawOf 1 := ⟨⟨lwg_of ka_9_33.1 rfl, lwg_of ka_1_14.1 rfl, by decide +kernel, by decide, by decide, by decide +kernel⟩, rfl, lwg_of ka_9_32.1 rfl, lwg_of kp_7_8.1 rfl⟩
def M_Model_season : MI := (⟨"BeardHallModel", "season", "(III)I"⟩, prog_14_method_112_code, 10, (some .int), [])
theorem mw_Model_season : MWv M_Model_season 3 := ⟨⟨lwg_of ka_9_27.1 rfl, lwg_of ka_1_14.1 rfl, by decide +kernel, by decide, by decide, by decide +kernel⟩, rfl, lwg_of ka_9_25.1 rfl, lwg_of ka_9_26.1 rfl⟩
def M_Model_be : MI := (⟨"BeardHallModel", "be", "([I[I)V"⟩, prog_14_method_113_code, 3, none, [])
theorem mw_Model_be : MWs M_Model_be 2 := ⟨⟨lwg_of ka_9_41.1 rfl, lwg_of ka_1_14.1 rfl, by decide +kernel, by decide, by decide, by decide +kernel⟩, rfl, lwg_of ka_9_40.1 rfl⟩
def M_Model_image : MI := (⟨"BeardHallModel", "image", "()V"⟩, prog_14_method_114_code, 1, none, [])
theorem mw_Model_image : MWv M_Model_image 0 := ⟨⟨lwg_of ka_9_38.1 rfl, lwg_of ka_1_14.1 rfl, by decide +kernel, by decide, by decide, by decide +kernel⟩, rfl, lwg_of ka_9_36.1 rfl, lwg_of ka_9_37.1 rfl⟩
def M_Model_restore : MI := (⟨"BeardHallModel", "restore", "()Z"⟩, prog_14_method_115_code, 1, (some .boolean), [])
theorem mw_Model_restore : MWv M_Model_restore 0 := ⟨⟨lwg_of ka_9_45.1 rfl, lwg_of ka_1_14.1 rfl, by decide +kernel, by decide, by decide, by decide +kernel⟩, rfl, lwg_of ka_9_43.1 rfl, lwg_of ka_9_44.1 rfl⟩
def M_JInteger_bitCount : MI := (⟨"java/lang/Integer", "bitCount", "(I)I"⟩, prog_20_method_49_code, 1, (some .int), [])
theorem mw_JInteger_bitCount : MWs M_JInteger_bitCount 1 := ⟨⟨lwg_of ka_3_8.1 rfl, lwg_of ka_1_25.1 rfl, by decide +kernel, by decide, by decide, by decide +kernel⟩, rfl, lwg_of ka_3_7.1 rfl⟩
def M_JMath_min : MI := (⟨"java/lang/Math", "min", "(II)I"⟩, prog_21_method_69_code, 2, (some .int), [])
theorem mw_JMath_min : MWs M_JMath_min 2 := ⟨⟨lwg_of ka_2_212.1 rfl, lwg_of ka_1_19.1 rfl, by decide +kernel, by decide, by decide, by decide +kernel⟩, rfl, lwg_of ka_2_211.1 rfl⟩
def M_JString_length : MI := (⟨"java/lang/String", "length", "()I"⟩, prog_23_method_54_code, 1, (some .int), [])
theorem mw_JString_length : MWv M_JString_length 0 := ⟨⟨lwg_of ka_3_220.1 rfl, lwg_of ka_1_20.1 rfl, by decide +kernel, by decide, by decide, by decide +kernel⟩, rfl, lwg_of ka_3_218.1 rfl, lwg_of ka_3_219.1 rfl⟩
def M_JString_charAt : MI := (⟨"java/lang/String", "charAt", "(I)C"⟩, prog_23_method_56_code, 2, (some .char), [])
theorem mw_JString_charAt : MWv M_JString_charAt 1 := ⟨⟨lwg_of ka_3_230.1 rfl, lwg_of ka_1_20.1 rfl, by decide +kernel, by decide, by decide, by decide +kernel⟩, rfl, lwg_of ka_3_228.1 rfl, lwg_of ka_3_229.1 rfl⟩
def M_JString_coder : MI := (⟨"java/lang/String", "coder", "()B"⟩, prog_23_method_152_code, 1, (some .byte), [])
theorem mw_JString_coder : MWv M_JString_coder 0 := ⟨⟨lwg_of ka_3_224.1 rfl, lwg_of ka_1_20.1 rfl, by decide +kernel, by decide, by decide, by decide +kernel⟩, rfl, lwg_of ka_3_222.1 rfl, lwg_of ka_3_223.1 rfl⟩
def M_JString_isLatin1 : MI := (⟨"java/lang/String", "isLatin1", "()Z"⟩, prog_23_method_154_code, 1, (some .boolean), [])
theorem mw_JString_isLatin1 : MWv M_JString_isLatin1 0 := ⟨⟨lwg_of ka_3_234.1 rfl, lwg_of ka_1_20.1 rfl, by decide +kernel, by decide, by decide, by decide +kernel⟩, rfl, lwg_of ka_3_232.1 rfl, lwg_of ka_3_233.1 rfl⟩
def M_JString_checkIndex : MI := (⟨"java/lang/String", "checkIndex", "(II)V"⟩, prog_23_method_155_code, 2, none, [])
theorem mw_JString_checkIndex : MWs M_JString_checkIndex 2 := ⟨⟨lwg_of ka_4_0.1 rfl, lwg_of ka_1_20.1 rfl, by decide +kernel, by decide, by decide, by decide +kernel⟩, rfl, lwg_of ka_3_239.1 rfl⟩
def M_JLatin_charAt : MI := (⟨"java/lang/StringLatin1", "charAt", "([BI)C"⟩, prog_24_method_2_code, 2, (some .char), [])
theorem mw_JLatin_charAt : MWs M_JLatin_charAt 2 := ⟨⟨lwg_of ka_3_237.1 rfl, lwg_of ka_1_21.1 rfl, by decide +kernel, by decide, by decide, by decide +kernel⟩, rfl, lwg_of ka_3_236.1 rfl⟩
def M_JUtf_getChar : MI := (⟨"java/lang/StringUTF16", "getChar", "([BI)C"⟩, prog_25_method_5_code, 2, (some .char), [])
theorem mw_JUtf_getChar : MWs M_JUtf_getChar 2 := ⟨⟨lwg_of ka_4_18.1 rfl, lwg_of ka_1_23.1 rfl, by decide +kernel, by decide, by decide, by decide +kernel⟩, rfl, lwg_of ka_4_17.1 rfl⟩
def M_JUtf_length : MI := (⟨"java/lang/StringUTF16", "length", "([B)I"⟩, prog_25_method_6_code, 1, (some .int), [])
theorem mw_JUtf_length : MWs M_JUtf_length 1 := ⟨⟨lwg_of ka_4_14.1 rfl, lwg_of ka_1_23.1 rfl, by decide +kernel, by decide, by decide, by decide +kernel⟩, rfl, lwg_of ka_4_13.1 rfl⟩
def M_JUtf_charAt : MI := (⟨"java/lang/StringUTF16", "charAt", "([BI)C"⟩, prog_25_method_83_code, 2, (some .char), [])
theorem mw_JUtf_charAt : MWs M_JUtf_charAt 2 := ⟨⟨lwg_of ka_4_8.1 rfl, lwg_of ka_1_23.1 rfl, by decide +kernel, by decide, by decide, by decide +kernel⟩, rfl, lwg_of ka_4_7.1 rfl⟩
def M_JUtf_checkIndex : MI := (⟨"java/lang/StringUTF16", "checkIndex", "(I[B)V"⟩, prog_25_method_91_code, 2, none, [])
theorem mw_JUtf_checkIndex : MWs M_JUtf_checkIndex 2 := ⟨⟨lwg_of ka_4_11.1 rfl, lwg_of ka_1_23.1 rfl, by decide +kernel, by decide, by decide, by decide +kernel⟩, rfl, lwg_of ka_4_10.1 rfl⟩
def M_JArrays_fill : MI := (⟨"java/util/Arrays", "fill", "([II)V"⟩, prog_30_method_103_code, 4, none, [])
theorem mw_JArrays_fill : MWs M_JArrays_fill 2 := ⟨⟨lwg_of ka_2_122.1 rfl, lwg_of ka_1_13.1 rfl, by decide +kernel, by decide, by decide, by decide +kernel⟩, rfl, lwg_of ka_2_121.1 rfl⟩
def M_jdk_internal_util_Preconditions_checkIndex : MI := (⟨"jdk/internal/util/Preconditions", "checkIndex", "(IILjava/util/function/BiFunction;)I"⟩, prog_32_method_11_code, 3, (some .int), [])
theorem mw_jdk_internal_util_Preconditions_checkIndex : MWs M_jdk_internal_util_Preconditions_checkIndex 3 := ⟨⟨lwg_of ka_4_5.1 rfl, lwg_of ka_1_22.1 rfl, by decide +kernel, by decide, by decide, by decide +kernel⟩, rfl, lwg_of ka_4_4.1 rfl⟩
def M_Law_archive : MI := (⟨"BeardHallLaw", "archive", "(LBeardHall;I[J)I"⟩, method_3_code, 4, (some .int), [(0, 9, 12, 13)])
theorem mw_Law_archive : MWh M_Law_archive 3 := ⟨⟨lwg_of ka_3_123.1 rfl, lwg_of ka_1_0.1 rfl, by decide +kernel, by decide, by decide, by decide +kernel⟩, by decide, lwg_of ka_3_122.1 rfl⟩
def M_Law_count : MI := (⟨"BeardHallLaw", "count", "(LBeardHall;I[J)I"⟩, method_4_code, 4, (some .int), [(0, 9, 12, 18)])
theorem mw_Law_count : MWh M_Law_count 3 := ⟨⟨lwg_of ka_4_159.1 rfl, lwg_of ka_1_0.1 rfl, by decide +kernel, by decide, by decide, by decide +kernel⟩, by decide, lwg_of ka_4_158.1 rfl⟩
def M_Law_monk : MI := (⟨"BeardHallLaw", "monk", "(LBeardHall;II[J)I"⟩, method_5_code, 5, (some .int), [(0, 10, 13, 18)])
theorem mw_Law_monk : MWh M_Law_monk 4 := ⟨⟨lwg_of ka_4_190.1 rfl, lwg_of ka_1_0.1 rfl, by decide +kernel, by decide, by decide, by decide +kernel⟩, by decide, lwg_of ka_4_189.1 rfl⟩
def M_Law_entry : MI := (⟨"BeardHallLaw", "entry", "(LBeardHall;II[J)I"⟩, method_6_code, 5, (some .int), [(0, 10, 13, 18)])
theorem mw_Law_entry : MWh M_Law_entry 4 := ⟨⟨lwg_of ka_4_214.1 rfl, lwg_of ka_1_0.1 rfl, by decide +kernel, by decide, by decide, by decide +kernel⟩, by decide, lwg_of ka_4_213.1 rfl⟩
def M_Law_holders : MI := (⟨"BeardHallLaw", "holders", "(LBeardHall;I[J)I"⟩, method_7_code, 4, (some .int), [(0, 9, 12, 18)])
theorem mw_Law_holders : MWh M_Law_holders 3 := ⟨⟨lwg_of ka_4_237.1 rfl, lwg_of ka_1_0.1 rfl, by decide +kernel, by decide, by decide, by decide +kernel⟩, by decide, lwg_of ka_4_236.1 rfl⟩
def M_Law_may : MI := (⟨"BeardHallLaw", "may", "(LBeardHall;II[J)I"⟩, method_8_code, 5, (some .int), [(0, 17, 20, 18)])
theorem mw_Law_may : MWh M_Law_may 4 := ⟨⟨lwg_of ka_5_5.1 rfl, lwg_of ka_1_0.1 rfl, by decide +kernel, by decide, by decide, by decide +kernel⟩, by decide, lwg_of ka_5_4.1 rfl⟩
def M_Law_braid : MI := (⟨"BeardHallLaw", "braid", "(LBeardHall;IIII[J)I"⟩, method_9_code, 7, (some .int), [(0, 14, 17, 18)])
theorem mw_Law_braid : MWh M_Law_braid 6 := ⟨⟨lwg_of ka_5_30.1 rfl, lwg_of ka_1_0.1 rfl, by decide +kernel, by decide, by decide, by decide +kernel⟩, by decide, lwg_of ka_5_29.1 rfl⟩
def M_Law_copy : MI := (⟨"BeardHallLaw", "copy", "(LBeardHall;II[J)I"⟩, method_10_code, 5, (some .int), [(0, 10, 13, 18)])
theorem mw_Law_copy : MWh M_Law_copy 4 := ⟨⟨lwg_of ka_5_49.1 rfl, lwg_of ka_1_0.1 rfl, by decide +kernel, by decide, by decide, by decide +kernel⟩, by decide, lwg_of ka_5_48.1 rfl⟩
def M_Law_knot : MI := (⟨"BeardHallLaw", "knot", "(LBeardHall;I[J)I"⟩, method_11_code, 4, (some .int), [(0, 16, 19, 18)])
theorem mw_Law_knot : MWh M_Law_knot 3 := ⟨⟨lwg_of ka_5_58.1 rfl, lwg_of ka_1_0.1 rfl, by decide +kernel, by decide, by decide, by decide +kernel⟩, by decide, lwg_of ka_5_57.1 rfl⟩
def M_Law_comb : MI := (⟨"BeardHallLaw", "comb", "(LBeardHall;I[J)I"⟩, method_12_code, 4, (some .int), [(0, 16, 19, 18)])
theorem mw_Law_comb : MWh M_Law_comb 3 := ⟨⟨lwg_of ka_5_70.1 rfl, lwg_of ka_1_0.1 rfl, by decide +kernel, by decide, by decide, by decide +kernel⟩, by decide, lwg_of ka_5_69.1 rfl⟩
def M_Law_shave : MI := (⟨"BeardHallLaw", "shave", "(LBeardHall;II[J)I"⟩, method_13_code, 5, (some .int), [(0, 10, 13, 18)])
theorem mw_Law_shave : MWh M_Law_shave 4 := ⟨⟨lwg_of ka_5_78.1 rfl, lwg_of ka_1_0.1 rfl, by decide +kernel, by decide, by decide, by decide +kernel⟩, by decide, lwg_of ka_5_77.1 rfl⟩
def M_Law_moths : MI := (⟨"BeardHallLaw", "moths", "(LBeardHall;III[J)I"⟩, method_14_code, 6, (some .int), [(0, 12, 15, 18)])
theorem mw_Law_moths : MWh M_Law_moths 5 := ⟨⟨lwg_of ka_5_89.1 rfl, lwg_of ka_1_0.1 rfl, by decide +kernel, by decide, by decide, by decide +kernel⟩, by decide, lwg_of ka_5_88.1 rfl⟩
def M_Law_die : MI := (⟨"BeardHallLaw", "die", "(LBeardHall;I[J)I"⟩, method_15_code, 4, (some .int), [(0, 16, 19, 18)])
theorem mw_Law_die : MWh M_Law_die 3 := ⟨⟨lwg_of ka_5_100.1 rfl, lwg_of ka_1_0.1 rfl, by decide +kernel, by decide, by decide, by decide +kernel⟩, by decide, lwg_of ka_5_99.1 rfl⟩
def M_Law_law : MI := (⟨"BeardHallLaw", "law", "(LBeardHall;I[J)I"⟩, method_16_code, 4, (some .int), [(0, 9, 12, 18)])
theorem mw_Law_law : MWh M_Law_law 3 := ⟨⟨lwg_of ka_5_107.1 rfl, lwg_of ka_1_0.1 rfl, by decide +kernel, by decide, by decide, by decide +kernel⟩, by decide, lwg_of ka_5_106.1 rfl⟩
def M_Law_owed : MI := (⟨"BeardHallLaw", "owed", "(LBeardHall;I[J)I"⟩, method_17_code, 4, (some .int), [(0, 9, 12, 18)])
theorem mw_Law_owed : MWh M_Law_owed 3 := ⟨⟨lwg_of ka_5_127.1 rfl, lwg_of ka_1_0.1 rfl, by decide +kernel, by decide, by decide, by decide +kernel⟩, by decide, lwg_of ka_5_126.1 rfl⟩
def M_Law_barbers : MI := (⟨"BeardHallLaw", "barbers", "(LBeardHall;I[J)I"⟩, method_18_code, 4, (some .int), [(0, 9, 12, 13)])
theorem mw_Law_barbers : MWh M_Law_barbers 3 := ⟨⟨lwg_of ka_5_143.1 rfl, lwg_of ka_1_0.1 rfl, by decide +kernel, by decide, by decide, by decide +kernel⟩, by decide, lwg_of ka_5_142.1 rfl⟩
def M_Law_shortest : MI := (⟨"BeardHallLaw", "shortest", "(LBeardHall;I[J)I"⟩, method_19_code, 4, (some .int), [(0, 9, 12, 18)])
theorem mw_Law_shortest : MWh M_Law_shortest 3 := ⟨⟨lwg_of ka_5_165.1 rfl, lwg_of ka_1_0.1 rfl, by decide +kernel, by decide, by decide, by decide +kernel⟩, by decide, lwg_of ka_5_164.1 rfl⟩
def M_Law_amnesty : MI := (⟨"BeardHallLaw", "amnesty", "(LBeardHall;III[J)I"⟩, method_20_code, 6, (some .int), [(0, 12, 15, 18), (0, 12, 19, 13)])
theorem mw_Law_amnesty : MWh M_Law_amnesty 5 := ⟨⟨lwg_of ka_5_176.1 rfl, lwg_of ka_1_0.1 rfl, by decide +kernel, by decide, by decide, by decide +kernel⟩, by decide, lwg_of ka_5_175.1 rfl⟩
def M_Law_week : MI := (⟨"BeardHallLaw", "week", "(LBeardHall;II[J)I"⟩, method_21_code, 5, (some .int), [(0, 10, 13, 18)])
theorem mw_Law_week : MWh M_Law_week 4 := ⟨⟨lwg_of ka_5_202.1 rfl, lwg_of ka_1_0.1 rfl, by decide +kernel, by decide, by decide, by decide +kernel⟩, by decide, lwg_of ka_5_201.1 rfl⟩
def M_Law_oldest : MI := (⟨"BeardHallLaw", "oldest", "(LBeardHall;II[J)I"⟩, method_22_code, 5, (some .int), [(0, 10, 13, 18)])
theorem mw_Law_oldest : MWh M_Law_oldest 4 := ⟨⟨lwg_of ka_5_220.1 rfl, lwg_of ka_1_0.1 rfl, by decide +kernel, by decide, by decide, by decide +kernel⟩, by decide, lwg_of ka_5_219.1 rfl⟩
def M_Law_believed : MI := (⟨"BeardHallLaw", "believed", "(LBeardHall;I[J)I"⟩, method_23_code, 4, (some .int), [(0, 9, 12, 18)])
theorem mw_Law_believed : MWh M_Law_believed 3 := ⟨⟨lwg_of ka_5_232.1 rfl, lwg_of ka_1_0.1 rfl, by decide +kernel, by decide, by decide, by decide +kernel⟩, by decide, lwg_of ka_5_231.1 rfl⟩
def M_Law_until : MI := (⟨"BeardHallLaw", "until", "(LBeardHall;I[J)I"⟩, method_24_code, 4, (some .int), [(0, 9, 12, 18)])
theorem mw_Law_until : MWh M_Law_until 3 := ⟨⟨lwg_of ka_6_8.1 rfl, lwg_of ka_1_0.1 rfl, by decide +kernel, by decide, by decide, by decide +kernel⟩, by decide, lwg_of ka_6_7.1 rfl⟩
def M_Law_doomed : MI := (⟨"BeardHallLaw", "doomed", "(LBeardHall;I[J)I"⟩, method_25_code, 4, (some .int), [(0, 9, 12, 13)])
theorem mw_Law_doomed : MWh M_Law_doomed 3 := ⟨⟨lwg_of ka_6_20.1 rfl, lwg_of ka_1_0.1 rfl, by decide +kernel, by decide, by decide, by decide +kernel⟩, by decide, lwg_of ka_6_19.1 rfl⟩
def M_Law_heir : MI := (⟨"BeardHallLaw", "heir", "(LBeardHall;I[J)I"⟩, method_26_code, 4, (some .int), [(0, 9, 12, 18)])
theorem mw_Law_heir : MWh M_Law_heir 3 := ⟨⟨lwg_of ka_6_33.1 rfl, lwg_of ka_1_0.1 rfl, by decide +kernel, by decide, by decide, by decide +kernel⟩, by decide, lwg_of ka_6_32.1 rfl⟩
def M_Law_lice : MI := (⟨"BeardHallLaw", "lice", "(LBeardHall;I[J)I"⟩, method_27_code, 4, (some .int), [(0, 9, 12, 18)])
theorem mw_Law_lice : MWh M_Law_lice 3 := ⟨⟨lwg_of ka_6_44.1 rfl, lwg_of ka_1_0.1 rfl, by decide +kernel, by decide, by decide, by decide +kernel⟩, by decide, lwg_of ka_6_43.1 rfl⟩
def M_Law_see : MI := (⟨"BeardHallLaw", "see", "(LBeardHall;IZ[J)I"⟩, method_28_code, 5, (some .int), [(0, 10, 13, 18)])
theorem mw_Law_see : MWh M_Law_see 4 := ⟨⟨lwg_of ka_6_55.1 rfl, lwg_of ka_1_0.1 rfl, by decide +kernel, by decide, by decide, by decide +kernel⟩, by decide, lwg_of ka_6_54.1 rfl⟩
def M_Law_ate : MI := (⟨"BeardHallLaw", "ate", "(LBeardHall;II[J)I"⟩, method_29_code, 5, (some .int), [(0, 10, 13, 18)])
theorem mw_Law_ate : MWh M_Law_ate 4 := ⟨⟨lwg_of ka_6_66.1 rfl, lwg_of ka_1_0.1 rfl, by decide +kernel, by decide, by decide, by decide +kernel⟩, by decide, lwg_of ka_6_65.1 rfl⟩
def M_Law_game : MI := (⟨"BeardHallLaw", "game", "(LBeardHall;I[J)I"⟩, method_30_code, 4, (some .int), [(0, 9, 12, 18)])
theorem mw_Law_game : MWh M_Law_game 3 := ⟨⟨lwg_of ka_6_87.1 rfl, lwg_of ka_1_0.1 rfl, by decide +kernel, by decide, by decide, by decide +kernel⟩, by decide, lwg_of ka_6_86.1 rfl⟩
def M_Law_season : MI := (⟨"BeardHallLaw", "season", "(LBeardHall;III[J)I"⟩, method_31_code, 6, (some .int), [(0, 12, 15, 18), (0, 12, 19, 13)])
theorem mw_Law_season : MWh M_Law_season 5 := ⟨⟨lwg_of ka_6_120.1 rfl, lwg_of ka_1_0.1 rfl, by decide +kernel, by decide, by decide, by decide +kernel⟩, by decide, lwg_of ka_6_119.1 rfl⟩
def M_Law_main : MI := (⟨"BeardHallLaw", "law", "([I)Z"⟩, code, 7, (some .boolean), [])
end
section
/-! The walker's own layer. A world is a list of shapes (what lies at each place, by number) and a memory (a number for each place and slot); references are places; the machine's addresses are gz + place. -/
abbrev GG : Type := Launch × Nat × va_G × (Nat → ClassId) × (Nat → Nat) × (Nat → Nat) × (Nat × Nat × (Nat → Int32))
abbrev gl (γ : GG) : Launch := γ.1
abbrev gz (γ : GG) : Nat := γ.2.1
abbrev gD (γ : GG) : va_G := γ.2.2.1
abbrev gc (γ : GG) : Nat → ClassId := γ.2.2.2.1
abbrev gK (γ : GG) : Nat → Nat := γ.2.2.2.2.1
abbrev gV (γ : GG) : Nat → Nat := γ.2.2.2.2.2.1
abbrev gS (γ : GG) : Nat × Nat × (Nat → Int32) := γ.2.2.2.2.2.2
def gA (γ : GG) : Nat → Prop := fun q => gz γ ≤ q
def gtys (γ : GG) : List (ClassId × FieldType) := [(gc γ 0, .int), (gc γ 1, .byte), (gc γ 2, .long), (gc γ 3, .object "java/lang/String")]
abbrev Mem : Type := Nat → Nat → Int32
/-- 0 an object: its class, its fields (0 a number, 1 null, k + 2 the thing at place k); 1 a row of ints or bytes, 2 of longs: its length; 3 a row of texts (0 null, k + 1 the thing at place k) -/
abbrev Sh : Type := Nat × Nat × List Nat × Nat
def cr (γ : GG) (k : Nat) : Nat := if k < 1048576 then gz γ + k else if k < 1572864 then gK γ (k - 1048576) else if k < 2097152 then gV γ (k - 1572864) else (gS γ).1
def cv (γ : GG) : Value → Value
  | .ref k => .ref (cr γ k)
  | v => v
theorem cv_cat (γ : GG) (v : Value) : (cv γ v).category = v.category := by cases v <;> rfl
def tv (γ : GG) (t : Nat) (x : Int32) : Value := match t with
  | 0 => .int x
  | 1 => .null
  | t + 2 => .ref (cr γ t)
def cf (γ : GG) (f : Nat → Int32) : List Nat → Nat → List Value
  | [], _ => []
  | t :: ts, j => tv γ t (f j) :: cf γ f ts (j + 1)
theorem cf_get (γ : GG) (f : Nat → Int32) : ∀ (tm : List Nat) (i j : Nat), (cf γ f tm i)[j]? = (tm[j]?).map (fun t => tv γ t (f (i + j))) := by
  intro tm
  induction tm with
  | nil => intro i j; rfl
  | cons t ts ih =>
    intro i j
    cases j with
    | zero => rfl
    | succ j =>
      show (cf γ f ts (i + 1))[j]? = _
      rw [ih (i + 1) j]
      show _ = (ts[j]?).map _
      rw [Nat.add_right_comm i 1 j]
      rfl
theorem cf_len (γ : GG) (f : Nat → Int32) : ∀ (tm : List Nat) (i : Nat), (cf γ f tm i).length = tm.length := by
  intro tm
  induction tm with
  | nil => intro i; rfl
  | cons t ts ih => intro i; simp [cf, ih]
theorem upd_self (f : Nat → Int32) (k : Nat) (x : Int32) : upd f k x k = x := by simp [upd]
theorem upd_other (f : Nat → Int32) {k j : Nat} (x : Int32) (h : j ≠ k) : upd f k x j = f j := by simp [upd, h]
theorem cf_setI (γ : GG) (f : Nat → Int32) (tm : List Nat) (j : Nat) (x : Int32) (h : tm[j]? = some 0) : (cf γ f tm 0).set j (.int x) = cf γ (upd f j x) tm 0 := by
  apply List.ext_getElem?
  intro k
  rw [List.getElem?_set, cf_get, cf_get, cf_len]
  by_cases hk : j = k
  · subst hk
    have hl : j < tm.length := (List.getElem?_eq_some_iff.mp h).1
    rw [if_pos rfl, if_pos hl, h]
    simp [tv, upd]
  · rw [if_neg hk]
    have : upd f j x (0 + k) = f (0 + k) := upd_other f x (by omega)
    rw [this]
theorem cf_setR (γ : GG) (f : Nat → Int32) (tm : List Nat) (j t : Nat) : (cf γ f tm 0).set j (.ref (cr γ t)) = cf γ f (tm.set j (t + 2)) 0 := by
  apply List.ext_getElem?
  intro k
  rw [List.getElem?_set, cf_get, cf_get, cf_len, List.getElem?_set]
  by_cases hk : j = k
  · subst hk
    rw [if_pos rfl, if_pos rfl]
    by_cases hl : j < tm.length
    · rw [if_pos hl, if_pos hl]
      simp [tv]
    · rw [if_neg hl, if_neg hl]
      rfl
  · rw [if_neg hk, if_neg hk]
def rt (γ : GG) (t : Nat) : Option Nat := match t with
  | 0 => none
  | t + 1 => some (cr γ t)
def cellE (γ : GG) (s : Sh) (f : Nat → Int32) : va_E := match s.1 with
  | 0 => .inr (s.2.1, cf γ f s.2.2.1 0)
  | 1 => .inl (gc γ s.2.1, s.2.2.2, .inl f)
  | 2 => .inl (gc γ 2, s.2.2.2, .inr (.inl (fun j => (f j).toInt64)))
  | _ => .inl (gc γ 3, s.2.2.2, .inr (.inr (.inr (.inr (fun j => rt γ (s.2.2.1.getD j 0))))))
def mrow (g : Mem) (k : Nat) (f : Nat → Int32) : Mem := fun k' => if k' = k then f else g k'
theorem mrow_self (g : Mem) (k : Nat) (f : Nat → Int32) : mrow g k f k = f := by simp [mrow]
theorem mrow_other (g : Mem) {k j : Nat} (f : Nat → Int32) (h : j ≠ k) : mrow g k f j = g j := by simp [mrow, h]
def mset (g : Mem) (k j : Nat) (x : Int32) : Mem := mrow g k (upd (g k) j x)
def wsO (γ : GG) (g : Mem) : List Sh → Nat → va_W
  | [], _ => []
  | s :: l, k => (gz γ + k, cellE γ s (g k)) :: wsO γ g l (k + 1)
theorem wsO_get (γ : GG) (g : Mem) : ∀ (sh : List Sh) (i k : Nat), (wsO γ g sh i)[k]? = (sh[k]?).map (fun s => (gz γ + (i + k), cellE γ s (g (i + k)))) := by
  intro sh
  induction sh with
  | nil => intro i k; rfl
  | cons s l ih =>
    intro i k
    cases k with
    | zero => rfl
    | succ k =>
      show (wsO γ g l (i + 1))[k]? = _
      rw [ih (i + 1) k]
      show _ = (l[k]?).map _
      rw [Nat.add_right_comm i 1 k]
      rfl
theorem wsO_at (γ : GG) (g : Mem) {sh : List Sh} {k : Nat} {s : Sh} (h : sh[k]? = some s) : (wsO γ g sh 0)[k]? = some (gz γ + k, cellE γ s (g k)) := by
  rw [wsO_get, h, Nat.zero_add]; rfl
theorem wsO_len (γ : GG) (g : Mem) : ∀ (sh : List Sh) (i : Nat), (wsO γ g sh i).length = sh.length := by
  intro sh
  induction sh with
  | nil => intro i; rfl
  | cons s l ih => intro i; simp [wsO, ih]
theorem wsO_set (γ : GG) (g : Mem) {sh : List Sh} {k : Nat} (s' : Sh) (f : Nat → Int32) (h : k < sh.length) : (wsO γ g sh 0).set k (gz γ + k, cellE γ s' f) = wsO γ (mrow g k f) (sh.set k s') 0 := by
  apply List.ext_getElem?
  intro j
  rw [List.getElem?_set, wsO_get, wsO_get, wsO_len, List.getElem?_set]
  by_cases hj : k = j
  · subst hj
    rw [if_pos rfl, if_pos h, if_pos rfl, if_pos h]
    simp [mrow]
  · rw [if_neg hj, if_neg hj, mrow_other g f (by omega)]
theorem set_same {α : Type} {l : List α} {k : Nat} {a : α} (h : l[k]? = some a) : l.set k a = l := by
  apply List.ext_getElem?
  intro j
  rw [List.getElem?_set]
  by_cases hj : k = j
  · subst hj
    rw [if_pos rfl, if_pos (List.getElem?_eq_some_iff.mp h).1, h]
  · rw [if_neg hj]
theorem wsO_set0 (γ : GG) (g : Mem) {sh : List Sh} {k : Nat} {s : Sh} (f : Nat → Int32) (h : sh[k]? = some s) : (wsO γ g sh 0).set k (gz γ + k, cellE γ s f) = wsO γ (mrow g k f) sh 0 := by
  rw [wsO_set γ g s f (List.getElem?_eq_some_iff.mp h).1, set_same h]
theorem wsO_app (γ : GG) (g : Mem) (s : Sh) (f : Nat → Int32) : ∀ (sh : List Sh), wsO γ (mrow g sh.length f) (sh ++ [s]) 0 = wsO γ g sh 0 ++ [(gz γ + sh.length, cellE γ s f)] := by
  intro sh
  apply List.ext_getElem?
  intro j
  rw [wsO_get, List.getElem?_append, List.getElem?_append, wsO_len, wsO_get]
  by_cases hj : j < sh.length
  · rw [if_pos hj, if_pos hj, mrow_other g f (by omega)]
  · rw [if_neg hj, if_neg hj]
    by_cases he : j = sh.length
    · subst he
      simp [mrow]
    · have : j - sh.length ≠ 0 := by omega
      obtain ⟨q, hq⟩ := Nat.exists_eq_succ_of_ne_zero this
      rw [hq]
      rfl
theorem wsO_D (γ : GG) (g : Mem) (sh : List Sh) : va_D (gA γ) (wsO γ g sh 0) := by
  refine ⟨fun i j p q hi hj e => ?_, fun k q hk => ?_⟩
  · rw [wsO_get] at hi hj
    cases h1 : sh[i]? with
    | none => rw [h1] at hi; cases hi
    | some a =>
      cases h2 : sh[j]? with
      | none => rw [h2] at hj; cases hj
      | some b =>
        rw [h1] at hi
        rw [h2] at hj
        cases hi
        cases hj
        simp only [] at e
        omega
  · rw [wsO_get] at hk
    cases h1 : sh[k]? with
    | none => rw [h1] at hk; cases hk
    | some a =>
      rw [h1] at hk
      cases hk
      exact Nat.le_add_right _ _
/-- the heap holds the world -/
def Rel (γ : GG) (sh : List Sh) (g : Mem) (H : Heap) : Prop := va_P (gD γ) xcl (wsO γ g sh 0) H ∧ gz γ + sh.length ≤ H.size
theorem gw_at {args a' : Array Value} {s U : State} (hW : s.WarmedH U.vm) {w : Cond} (hg : gw w = true) (h : w.before args s = true) : w.before a' U = true := by
  have face : ∀ w : Cond, w.onTables = true → w.keepsFace = true → w.before args s = true → w.before a' U = true := fun w h1 h2 h3 => va_tabs h1 (rfl : (s.setVm U.vm).vm = U.vm) (Cond.before_shiftedFace (State.Shifted.of_warmed hW) w h2 h3)
  cases w with
  | castable a b => exact face _ rfl rfl h
  | declares a => exact face _ rfl rfl h
  | _ => exact word_at hW (good_of_word hg) h
end
section
/-! what stands in the tables and below the world, all along; the two judgements: WA (a walk from a place in a method), CA (a contract) -/
def strL : List (String × Nat × String) := [("BeardHall", 112, "the tape has not so many bytes"), ("BeardHall$Reader", 106, "monk clerk bald plait law debt grant note copy knee grey daily reads dyed knot or and not kind dye about old own age "), ("BeardHall", 177, "no such count"), ("BeardHall", 420, "no such monk"), ("BeardHall", 202, "no such thing of a monk"), ("BeardHall", 422, "no such entry"), ("BeardHall", 207, "no such thing of an entry"), ("BeardHall", 424, "about no such thing"), ("BeardHall", 319, "not 0 to 6 barbers"), ("BeardHall", 426, "no such answer"), ("BeardHall", 331, "not 0 to 9 breadths more"), ("BeardHall", 339, "no such day"), ("BeardHall", 344, "no such kind"), ("BeardHall", 355, "not 0 to 60 years"), ("BeardHall", 389, "not 0 to 40 years"), ("BeardHallModel", 11, "monk"), ("BeardHallModel", 13, "clerk"), ("BeardHallModel", 15, "bald"), ("BeardHallModel", 17, "plait"), ("BeardHallModel", 23, "law"), ("BeardHallModel", 25, "debt"), ("BeardHallModel", 27, "grant"), ("BeardHallModel", 29, "note"), ("BeardHallModel", 34, "kind"), ("BeardHallModel", 36, "dye"), ("BeardHallModel", 38, "about"), ("BeardHallModel", 40, "old"), ("BeardHallModel", 42, "grey"), ("BeardHallModel", 44, "own"), ("BeardHallModel", 46, "age"), ("BeardHallModel", 256, "knee"), ("BeardHallModel", 258, "daily"), ("BeardHallModel", 260, "reads"), ("BeardHallModel", 224, "not"), ("BeardHallModel", 232, "and"), ("BeardHallModel", 237, "or"), ("BeardHallModel", 252, "dyed"), ("BeardHallModel", 254, "knot"), ("BeardHallModel", 268, "copy")]
def lenL : List Nat := [30, 117, 13, 12, 23, 13, 25, 19, 18, 14, 24, 11, 12, 17, 17, 4, 5, 4, 5, 3, 4, 5, 4, 4, 3, 5, 3, 4, 3, 3, 4, 5, 5, 3, 3, 2, 4, 4, 4]
def bytL : List (List Int32) := [[116, 104, 101, 32, 116, 97, 112, 101, 32, 104, 97, 115, 32, 110, 111, 116, 32, 115, 111, 32, 109, 97, 110, 121, 32, 98, 121, 116, 101, 115], [109, 111, 110, 107, 32, 99, 108, 101, 114, 107, 32, 98, 97, 108, 100, 32, 112, 108, 97, 105, 116, 32, 108, 97, 119, 32, 100, 101, 98, 116, 32, 103, 114, 97, 110, 116, 32, 110, 111, 116, 101, 32, 99, 111, 112, 121, 32, 107, 110, 101, 101, 32, 103, 114, 101, 121, 32, 100, 97, 105, 108, 121, 32, 114, 101, 97, 100, 115, 32, 100, 121, 101, 100, 32, 107, 110, 111, 116, 32, 111, 114, 32, 97, 110, 100, 32, 110, 111, 116, 32, 107, 105, 110, 100, 32, 100, 121, 101, 32, 97, 98, 111, 117, 116, 32, 111, 108, 100, 32, 111, 119, 110, 32, 97, 103, 101, 32], [110, 111, 32, 115, 117, 99, 104, 32, 99, 111, 117, 110, 116], [110, 111, 32, 115, 117, 99, 104, 32, 109, 111, 110, 107], [110, 111, 32, 115, 117, 99, 104, 32, 116, 104, 105, 110, 103, 32, 111, 102, 32, 97, 32, 109, 111, 110, 107], [110, 111, 32, 115, 117, 99, 104, 32, 101, 110, 116, 114, 121], [110, 111, 32, 115, 117, 99, 104, 32, 116, 104, 105, 110, 103, 32, 111, 102, 32, 97, 110, 32, 101, 110, 116, 114, 121], [97, 98, 111, 117, 116, 32, 110, 111, 32, 115, 117, 99, 104, 32, 116, 104, 105, 110, 103], [110, 111, 116, 32, 48, 32, 116, 111, 32, 54, 32, 98, 97, 114, 98, 101, 114, 115], [110, 111, 32, 115, 117, 99, 104, 32, 97, 110, 115, 119, 101, 114], [110, 111, 116, 32, 48, 32, 116, 111, 32, 57, 32, 98, 114, 101, 97, 100, 116, 104, 115, 32, 109, 111, 114, 101], [110, 111, 32, 115, 117, 99, 104, 32, 100, 97, 121], [110, 111, 32, 115, 117, 99, 104, 32, 107, 105, 110, 100], [110, 111, 116, 32, 48, 32, 116, 111, 32, 54, 48, 32, 121, 101, 97, 114, 115], [110, 111, 116, 32, 48, 32, 116, 111, 32, 52, 48, 32, 121, 101, 97, 114, 115], [109, 111, 110, 107], [99, 108, 101, 114, 107], [98, 97, 108, 100], [112, 108, 97, 105, 116], [108, 97, 119], [100, 101, 98, 116], [103, 114, 97, 110, 116], [110, 111, 116, 101], [107, 105, 110, 100], [100, 121, 101], [97, 98, 111, 117, 116], [111, 108, 100], [103, 114, 101, 121], [111, 119, 110], [97, 103, 101], [107, 110, 101, 101], [100, 97, 105, 108, 121], [114, 101, 97, 100, 115], [110, 111, 116], [97, 110, 100], [111, 114], [100, 121, 101, 100], [107, 110, 111, 116], [99, 111, 112, 121]]
def nestL : List (String × Nat × MethodName × String) := [("BeardHall", 32, ⟨"BeardHall$Roll", "<init>", "()V"⟩, "BeardHall"), ("BeardHall", 48, ⟨"BeardHall$Acts", "<init>", "()V"⟩, "BeardHall"), ("BeardHall", 55, ⟨"BeardHall$Seen", "<init>", "()V"⟩, "BeardHall"), ("BeardHall$Hair", 77, ⟨"BeardHall", "hasBit", "(II)Z"⟩, "BeardHall"), ("BeardHall$Image", 17, ⟨"BeardHall$Acts", "<init>", "()V"⟩, "BeardHall"), ("BeardHall$Image", 24, ⟨"BeardHall$Seen", "<init>", "()V"⟩, "BeardHall"), ("BeardHall$Keeping", 32, ⟨"BeardHall", "hasBit", "(II)Z"⟩, "BeardHall"), ("BeardHall$Laws", 51, ⟨"BeardHall", "hasBit", "(II)Z"⟩, "BeardHall"), ("BeardHall$Reader", 11, ⟨"BeardHall$Roll", "<init>", "()V"⟩, "BeardHall"), ("BeardHall$Roll", 23, ⟨"BeardHall$Rule", "<init>", "()V"⟩, "BeardHall")]
def SF (γ : GG) (s : State) : Prop :=
  va_K (gD γ) xcl (gtys γ) s ∧ (∀ args : Array Value, ∀ w ∈ lwg, w.before args s = true) ∧ (∀ q ∈ nestL, va_Nw (.methodLinkNest q.1 q.2.1 q.2.2.1 q.2.2.2) s) ∧ (∀ (i : Nat) (q : String × Nat × String), strL[i]? = some q → vk_R q.1 q.2.1 q.2.2 (gK γ i) s) ∧
  vk_S 39 lenL bytL (gK γ) (gV γ) (gA γ) s s.heap ∧ va_Z "java/lang/String" "COMPACT_STRINGS" "Z" (.int 1) (gA γ) s s.heap ∧ vx_Zq Bundle.tN "UNASSIGNED_STACK" Bundle.steD (gA γ) s s.heap ∧ vx_Zq Bundle.tN "SUPPRESSED_SENTINEL" Bundle.listD (gA γ) s s.heap ∧
  va_AO "java/lang/String" s ∧ va_X (gS γ).1 (gS γ).2.1 (gS γ).2.2 s s.heap ∧ gz γ ≤ s.heap.size ∧ (gS γ).1 < gz γ ∧ va_Nc "java/lang/IllegalArgumentException" "java/util/NoSuchElementException" s ∧ (gl γ).stackTraces = false
theorem SF.go {γ : GG} {s U : State} (h : SF γ s) (hW : s.WarmedH U.vm) (hz : s.heap.size ≤ U.heap.size) (hk : ∀ q : Nat, q < s.heap.size → ¬ gA γ q → U.heap[q]? = s.heap[q]?) : SF γ U := by
  obtain ⟨h1, h2, h3, h4, h5, h6, h7, h8, h9, h10, h11, h12, h13, h14⟩ := h
  refine ⟨va_K.moved hW.alike h1, fun args w hw => gw_at (args := args) hW (List.mem_filter.mp hw).2 (h2 args w hw), fun q hq => va_Nw.warmM hW (h3 q hq), fun i q hq => vk_R.warm hW (h4 i q hq), vk_S.kept (vk_S.moved hW.alike h5) hk, va_Z.kept (va_Z.moved hW.alike h6) hk, vx_Zq.kept (vx_Zq.moved hW.alike h7) hk, vx_Zq.kept (vx_Zq.moved hW.alike h8) hk, va_AO.moved hW.alike h9, va_X.kept (va_X.moved hW.alike h10) ?_, Nat.le_trans h11 hz, h12, va_Nc.moved hW.alike h13, h14⟩
  exact hk _ (Nat.lt_of_lt_of_le h12 h11) (fun h => absurd h12 (Nat.not_lt.mpr h))
theorem SF.tr {γ : GG} {s : State} (h : SF γ s) : (gl γ).stackTraces = false := h.2.2.2.2.2.2.2.2.2.2.2.2.2
theorem SF.nc {γ : GG} {s : State} (h : SF γ s) : va_Nc "java/lang/IllegalArgumentException" "java/util/NoSuchElementException" s := h.2.2.2.2.2.2.2.2.2.2.2.2.1
theorem SF.blind {γ : GG} {U : State} (g : JFrame) (mk : MethodId) (a : Array Value) (h : SF γ U) : SF γ (U.calling g mk a) := SF.go (s := U) (U := U.calling g mk a) h (State.WarmedH.refl U) (Nat.le_refl _) (fun _ _ _ => rfl)
/-- what holds all along a walk of the method M, with room for n calls one in another -/
def frN (n : Nat) : Nat := n + 8
def loN (n : Nat) : Nat := 200 * (n + 1)
def CX (γ : GG) (M : MI) (n : Nat) (p : Program) (e : Env) (R : Room) (s : State) (m : MethodId) (args : Array Value) (below : List Frame) (meth : Method) (c : Code) : Prop :=
  p.tables.exec = Jvm.exec ∧ c.code = M.2.1 ∧ meth.sig.returnType = M.2.2.2.1 ∧ c.maxLocals = M.2.2.1 ∧ s.vm.findClass M.1.cls = some m.cls ∧ meth.locks = false ∧ meth.name = M.1.name ∧ c.exceptionTable.toList = tableOf M.2.2.2.2 ∧ frN n ≤ R.frames ∧ loN n ≤ R.locals ∧ SF γ s
def la (γ : GG) : List (Option Value) → Nat → List (Nat × Value)
  | [], _ => []
  | none :: l, i => la γ l (i + 1)
  | some v :: l, i => (i, cv γ v) :: la γ l (i + 1)
theorem la_mem (γ : GG) : ∀ (ls : List (Option Value)) (i : Nat) (q : Nat × Value), q ∈ la γ ls i ↔ ∃ (j : Nat) (v : Value), ls[j]? = some (some v) ∧ q = (i + j, cv γ v) := by
  intro ls
  induction ls with
  | nil => intro i q; simp [la]
  | cons o l ih =>
    intro i q
    cases o with
    | none =>
      show q ∈ la γ l (i + 1) ↔ _
      rw [ih (i + 1) q]
      constructor
      · rintro ⟨j, v, h1, h2⟩
        exact ⟨j + 1, v, h1, by rw [h2]; congr 1; omega⟩
      · rintro ⟨j, v, h1, h2⟩
        cases j with
        | zero => cases h1
        | succ j => exact ⟨j, v, h1, by rw [h2]; congr 1; omega⟩
    | some w =>
      show q ∈ (i, cv γ w) :: la γ l (i + 1) ↔ _
      rw [List.mem_cons, ih (i + 1) q]
      constructor
      · rintro (h | ⟨j, v, h1, h2⟩)
        · exact ⟨0, w, rfl, h⟩
        · exact ⟨j + 1, v, h1, by rw [h2]; congr 1; omega⟩
      · rintro ⟨j, v, h1, h2⟩
        cases j with
        | zero => cases h1; exact Or.inl h2
        | succ j => exact Or.inr ⟨j, v, h1, by rw [h2]; congr 1; omega⟩
/-- the method's locals hold ls -/
def LH (γ : GG) (Ls : Array Slot) (nL : Nat) (ls : List (Option Value)) : Prop := lv_has Ls nL (la γ ls 0)
theorem LH.at {γ : GG} {Ls : Array Slot} {nL : Nat} {ls : List (Option Value)} (h : LH γ Ls nL ls) {i : Nat} {v : Value} (hi : ls[i]? = some (some v)) : Ls[i]? = some (.val (cv γ v)) :=
  h.2.2 (i, cv γ v) ((la_mem γ ls 0 _).mpr ⟨i, v, hi, by rw [Nat.zero_add]⟩)
def okS (ls : List (Option Value)) (i : Nat) : Bool := match i with
  | 0 => true
  | i + 1 => match ls[i]? with
    | some (some (.long _)) => false
    | some (some (.double _)) => false
    | _ => true
theorem LH.put {γ : GG} {Ls : Array Slot} {nL : Nat} {ls : List (Option Value)} {i : Nat} {v : Value} (hok : okS ls i = true) (h : lv_has Ls nL ((i, cv γ v) :: (la γ ls 0).filter (fun q => !(q.1 == i) && !(q.1 + 1 == i && q.2.category == 2)))) : LH γ Ls nL (ls.set i (some v)) := by
  refine ⟨h.1, h.2.1, fun q hq => ?_⟩
  obtain ⟨j, w, h1, h2⟩ := (la_mem γ _ 0 q).mp hq
  rw [Nat.zero_add] at h2
  rw [List.getElem?_set] at h1
  by_cases hj : i = j
  · subst hj
    rw [if_pos rfl] at h1
    split at h1
    · cases h1
      rw [h2]
      exact h.2.2 _ List.mem_cons_self
    · cases h1
  · rw [if_neg hj] at h1
    refine h.2.2 q (List.mem_cons_of_mem _ (List.mem_filter.mpr ⟨(la_mem γ ls 0 q).mpr ⟨j, w, h1, by rw [Nat.zero_add]; exact h2⟩, ?_⟩))
    subst h2
    simp only [Bool.and_eq_true, Bool.not_eq_true', beq_eq_false_iff_ne, ne_eq, Bool.and_eq_false_iff]
    refine ⟨fun e => hj e.symm, ?_⟩
    by_cases hji : j + 1 = i
    · right
      subst hji
      rw [cv_cat]
      simp only [okS, h1] at hok
      cases w <;> simp_all [Value.category]
    · left
      exact hji
theorem LH.less {γ : GG} {Ls : Array Slot} {nL : Nat} {ls ls' : List (Option Value)} (h : LH γ Ls nL ls) (hs : ∀ (i : Nat) (v : Value), ls'[i]? = some (some v) → ls[i]? = some (some v)) : LH γ Ls nL ls' := by
  refine ⟨h.1, h.2.1, fun q hq => ?_⟩
  obtain ⟨j, w, h1, h2⟩ := (la_mem γ _ 0 q).mp hq
  exact h.2.2 q ((la_mem γ ls 0 q).mpr ⟨j, w, hs j w h1, h2⟩)
/-- how a method ends: it returns something or nothing, or throws a thing of the class named -/
abbrev XO : Type := Option Value ⊕ String
abbrev PO : Type := XO → List Sh → Mem → Bool → Prop
/-- 'tight': nothing but the world was made since it began -/
def TT (γ : GG) (tt : Bool) (sh : List Sh) (H : Heap) : Prop := tt = true → H.size = gz γ + sh.length
def TN (γ : GG) (tt : Bool) (sh : List Sh) (s : State) (cells : Nat) : Prop := tt = true → gz γ + sh.length = s.heap.size + cells
def ER (γ : GG) (sh : List Sh) (g : Mem) (tt : Bool) (st t : State) : Prop := Rel γ sh g t.heap ∧ TT γ tt sh t.heap ∧ va_F (gA γ) st t
def QR (γ : GG) (Φ : PO) : Array Value → State → Outcome → State → Prop := fun _ st o t => ∃ (v : Option Value) (sh : List Sh) (g : Mem) (tt : Bool), o = .returned (v.map (cv γ)) ∧ Φ (.inl v) sh g tt ∧ ER γ sh g tt st t
def QX (γ : GG) (Φ : PO) : String → State → State → Prop := fun E st t => ∃ (sh : List Sh) (g : Mem) (tt : Bool), Φ (.inr E) sh g tt ∧ ER γ sh g tt st t
def WA (γ : GG) (M : MI) (n pc : Nat) (ls : List (Option Value)) (st : List Value) (sh : List Sh) (g : Mem) (tt : Bool) (b : Nat × Nat) (Φ : PO) : Prop :=
  ∀ (p : Program) (e : Env) (R : Room) (s : State) (m : MethodId) (args : Array Value) (below : List Frame) (meth : Method) (c : Code) (H : Heap) (locs : List Loc) (cells slots : Nat) (Ls : Array Slot),
    CX γ M n p e R s m args below meth c → Rel γ sh g H → TN γ tt sh s cells → va_S (gA γ) s.heap H locs → cells + b.1 ≤ R.cells → slots + b.2 ≤ R.slots → LH γ Ls M.2.2.1 ls →
    W p (gl γ) e R s m args below meth c H locs cells slots (vx_MQ below (QR γ Φ) (QX γ Φ) args s (cells + b.1) (slots + b.2) (gA γ)) (F0 m pc Ls (st.map (cv γ)))
def PcA (γ : GG) (av : List Value) (sh : List Sh) (g : Mem) (tt : Bool) : Array Value → State → Prop := fun a U => a = (av.map (cv γ)).toArray ∧ SF γ U ∧ Rel γ sh g U.heap ∧ TT γ tt sh U.heap
def CA (γ : GG) (M : MI) (n : Nat) (av : List Value) (sh : List Sh) (g : Mem) (tt : Bool) (b : Nat × Nat) (Φ : PO) : Prop :=
  ∀ rm : Room, rm.cells = b.1 → rm.slots = b.2 → frN n ≤ rm.frames → loN n ≤ rm.locals → vx_Met (gl γ) M.1 [MWc M] rm (PcA γ av sh g tt) (QR γ Φ) (QX γ Φ) b.1 b.2 (gA γ)
theorem PcA.blind {γ : GG} {av : List Value} {sh : List Sh} {g : Mem} {tt : Bool} : FrameBlind (PcA γ av sh g tt) := by
  rintro a U f mk ⟨h1, h2, h3, h4⟩
  exact ⟨h1, h2.blind f mk a, h3, h4⟩
end
section
/-! A contract out of a walk; the one-instruction rules (by program: wip/gen/rules.py) -/
def entL : List Value → List (Option Value)
  | [] => []
  | v :: vs => if v.category = 2 then some v :: none :: entL vs else some v :: entL vs
theorem entL_mem (γ : GG) : ∀ (av : List Value) (i j : Nat) (v : Value), (entL av)[j]? = some (some v) → (i + j, cv γ v) ∈ lv_args i (av.map (cv γ)) := by
  intro av
  induction av with
  | nil => intro i j v h; cases h
  | cons a av ih =>
    intro i j v h
    unfold entL at h
    show _ ∈ (i, cv γ a) :: lv_args (if (cv γ a).category = 2 then i + 2 else i + 1) (av.map (cv γ))
    rw [cv_cat]
    by_cases hc : a.category = 2
    · rw [if_pos hc] at h ⊢
      match j, h with
      | 0, h => cases h; exact List.mem_cons_self
      | j + 2, h =>
        have := ih (i + 2) j v h
        rw [show i + (j + 2) = i + 2 + j by omega]
        exact List.mem_cons_of_mem _ this
    · rw [if_neg hc] at h ⊢
      match j, h with
      | 0, h => cases h; exact List.mem_cons_self
      | j + 1, h =>
        have := ih (i + 1) j v h
        rw [show i + (j + 1) = i + 1 + j by omega]
        exact List.mem_cons_of_mem _ this
set_option maxHeartbeats 1000000 in
theorem CA.of {γ : GG} {M : MI} {n np : Nat} {av : List Value} {sh : List Sh} {g : Mem} {tt : Bool} {b : Nat × Nat} {Φ : PO} (hM : MWb M np) (k : Nat) (hsz : (lg_sl (av.map (cv γ))).length + k = M.2.2.1)
    (h : WA γ M n 0 (entL av ++ List.replicate k none) [] sh g tt b Φ) : CA γ M n av sh g tt b Φ := by
  intro rm hc hs hf hl
  have body : ∀ p e s m args below meth c s₁, BodyLoose p (gl γ) M.1 (headSpec [MWc M] rm) M.2.1 M.2.2.1 M.2.2.2.1 e s m args below meth c s₁ → c.maxLocals = M.2.2.1 → c.exceptionTable.toList = tableOf M.2.2.2.2 → PcA γ av sh g tt args s →
      W p (gl γ) e (headSpec [MWc M] rm).room s m args below meth c s.heap [] 0 0 (vx_MQ below (QR γ Φ) (QX γ Φ) args s b.1 b.2 (gA γ)) (entryFrame m args M.2.2.1) := by
    intro p e s m args below meth c s₁ B hml htab hP
    obtain ⟨rfl, hSF, hR, hT⟩ := hP
    have hl0 := lv_entry (av.map (cv γ)) (n := M.2.2.1) (by omega)
    rw [lg_entry_eq]
    have hls : LH γ ((lg_sl (av.map (cv γ)) ++ List.replicate (M.2.2.1 - (lg_sl (av.map (cv γ))).length) Slot.unset).toArray) M.2.2.1 (entL av ++ List.replicate k none) := by
      refine ⟨hl0.1, hl0.2.1, fun q hq => ?_⟩
      obtain ⟨j, v, h1, h2⟩ := (la_mem γ _ 0 q).mp hq
      rw [List.getElem?_append] at h1
      split at h1
      · rw [h2]
        exact hl0.2.2 _ (entL_mem γ av 0 j v h1)
      · rw [List.getElem?_replicate] at h1
        split at h1 <;> cases h1
    have := h p e (headSpec [MWc M] rm).room s m ((av.map (cv γ)).toArray) below meth c s.heap [] 0 0 _ ⟨B.exec, B.bytes, B.returns, hml, findClass_of_methodNamed B.named, B.notSynchronized, (name_of_methodNamed B.named B.method).1, htab, hf, hl, hSF⟩ hR (fun h => (hT h).symm) va_S.rf (by rw [Nat.zero_add]; exact Nat.le_of_eq hc.symm) (by rw [Nat.zero_add]; exact Nat.le_of_eq hs.symm) hls
    rw [Nat.zero_add, Nat.zero_add] at this
    exact this
  have hcw : ∀ (args : Array Value) (s : State), (allAtoms [MWc M]).before args s = true → (MWc M).before args s = true := fun args s q => atoms_spec (ws := [MWc M]) q _ List.mem_cons_self
  refine MetFree.of_bodySF (code := M.2.1) (maxLocals := M.2.2.1) (ret := M.2.2.2.1) hM.2.2.1 ?_ ?_
  · intro args s m h1 hn
    have h2 := hcw args s h1
    by_cases hh : M.2.2.2.2 = []
    · rw [MWc, if_pos hh] at h2
      obtain ⟨meth, c, h1, h2, h3, h4, h5, h6, -, -⟩ := Cond.code_spec hn h2
      exact ⟨meth, c, h1, h2, h3, h4, h5, h6⟩
    · rw [MWc, if_neg hh] at h2
      obtain ⟨m9, meth, c, hn9, h1, h2, h3, h4, -, h5, h6, -⟩ := Cond.codeWith_spec h2
      cases hn.symm.trans hn9
      exact ⟨meth, c, h1, h2, h3, h4, h5, h6⟩
  · intro p e s m args below meth c s₁ B hml hP _
    have hh0 : s₁.heap = s.heap := by rw [B.state]; rfl
    have htab : c.exceptionTable.toList = tableOf M.2.2.2.2 := by
      have h2 := hcw args s B.pre
      by_cases hh : M.2.2.2.2 = []
      · rw [MWc, if_pos hh] at h2
        obtain ⟨meth9, c9, h1, h2, -, -, -, -, h7, -⟩ := Cond.code_spec B.named h2
        cases Option.some.inj (h1.symm.trans B.method)
        cases Option.some.inj (h2.symm.trans (Stand.of_body B).code)
        rw [hh, Array.isEmpty_iff.mp h7]
        rfl
      · rw [MWc, if_neg hh] at h2
        exact vx_table (x := M.1) B h2
    obtain ⟨t, a1, o, b1, b2, b3⟩ := body p e s m args below meth c s₁ B hml htab hP s₁ hh0 (Stand.of_body B)
    exact ⟨t, o, a1, b1, b2, b3⟩
section Rules
variable {γ : GG} {M : MI} {n pc q : Nat} {ls : List (Option Value)} {st : List Value} {sh : List Sh} {g : Mem} {tt : Bool} {b : Nat × Nat} {Φ : PO}
theorem w_iconst {i : Int} {v : Int32} (hd : decode M.2.1 pc = .ok (.iconst i, 1)) (hq : pc + 1 = q) (hv : Int32.ofInt i = v) (k : WA γ M n q ls (.int v :: st) sh g tt b Φ) : WA γ M n pc ls st sh g tt b Φ := by
  subst hq
  intro p e R s m args below meth c H locs cells slots Ls C hR ht hS hc hs hl
  exact lv_iconst C.1 C.2.1 hd hv (k p e R s m args below meth c H locs cells slots Ls C hR ht hS hc hs hl)
theorem w_bipush {i : Int} {v : Int32} (hd : decode M.2.1 pc = .ok (.bipush i, 2)) (hq : pc + 2 = q) (hv : (Int8.ofInt i).toInt32 = v) (k : WA γ M n q ls (.int v :: st) sh g tt b Φ) : WA γ M n pc ls st sh g tt b Φ := by
  subst hq
  intro p e R s m args below meth c H locs cells slots Ls C hR ht hS hc hs hl
  exact lv_bipush C.1 C.2.1 hd hv (k p e R s m args below meth c H locs cells slots Ls C hR ht hS hc hs hl)
theorem w_sipush {i : Int} {v : Int32} (hd : decode M.2.1 pc = .ok (.sipush i, 3)) (hq : pc + 3 = q) (hv : (Int16.ofInt i).toInt32 = v) (k : WA γ M n q ls (.int v :: st) sh g tt b Φ) : WA γ M n pc ls st sh g tt b Φ := by
  subst hq
  intro p e R s m args below meth c H locs cells slots Ls C hR ht hS hc hs hl
  exact lv_sipush C.1 C.2.1 hd hv (k p e R s m args below meth c H locs cells slots Ls C hR ht hS hc hs hl)
theorem w_lconst {i : Fin 2} {v : Int64} (hd : decode M.2.1 pc = .ok (.lconst i, 1)) (hq : pc + 1 = q) (hv : Int64.ofNat (i : Nat) = v) (k : WA γ M n q ls (.long v :: st) sh g tt b Φ) : WA γ M n pc ls st sh g tt b Φ := by
  subst hq
  intro p e R s m args below meth c H locs cells slots Ls C hR ht hS hc hs hl
  exact lv_lconst C.1 C.2.1 hd hv (k p e R s m args below meth c H locs cells slots Ls C hR ht hS hc hs hl)
theorem w_iload_n {i : Fin 4} {x : Int32} (hd : decode M.2.1 pc = .ok (.iload_n i, 1)) (hq : pc + 1 = q) (hv : ls[(i : Nat)]? = some (some (.int x))) (k : WA γ M n q ls (.int x :: st) sh g tt b Φ) : WA γ M n pc ls st sh g tt b Φ := by
  subst hq
  intro p e R s m args below meth c H locs cells slots Ls C hR ht hS hc hs hl
  exact lv_iload_n C.1 C.2.1 hd rfl (hl.at hv) (k p e R s m args below meth c H locs cells slots Ls C hR ht hS hc hs hl)
theorem w_iload {i : Nat} {x : Int32} (hd : decode M.2.1 pc = .ok (.iload i, 2)) (hq : pc + 2 = q) (hv : ls[i]? = some (some (.int x))) (k : WA γ M n q ls (.int x :: st) sh g tt b Φ) : WA γ M n pc ls st sh g tt b Φ := by
  subst hq
  intro p e R s m args below meth c H locs cells slots Ls C hR ht hS hc hs hl
  exact lv_iload C.1 C.2.1 hd (hl.at hv) (k p e R s m args below meth c H locs cells slots Ls C hR ht hS hc hs hl)
theorem w_lload_n {i : Fin 4} {x : Int64} (hd : decode M.2.1 pc = .ok (.lload_n i, 1)) (hq : pc + 1 = q) (hv : ls[(i : Nat)]? = some (some (.long x))) (k : WA γ M n q ls (.long x :: st) sh g tt b Φ) : WA γ M n pc ls st sh g tt b Φ := by
  subst hq
  intro p e R s m args below meth c H locs cells slots Ls C hR ht hS hc hs hl
  exact lv_lload_n C.1 C.2.1 hd rfl (hl.at hv) (k p e R s m args below meth c H locs cells slots Ls C hR ht hS hc hs hl)
theorem w_lload {i : Nat} {x : Int64} (hd : decode M.2.1 pc = .ok (.lload i, 2)) (hq : pc + 2 = q) (hv : ls[i]? = some (some (.long x))) (k : WA γ M n q ls (.long x :: st) sh g tt b Φ) : WA γ M n pc ls st sh g tt b Φ := by
  subst hq
  intro p e R s m args below meth c H locs cells slots Ls C hR ht hS hc hs hl
  exact lv_lload C.1 C.2.1 hd (hl.at hv) (k p e R s m args below meth c H locs cells slots Ls C hR ht hS hc hs hl)
theorem w_aload_n {i : Fin 4} {x : Nat} (hd : decode M.2.1 pc = .ok (.aload_n i, 1)) (hq : pc + 1 = q) (hv : ls[(i : Nat)]? = some (some (.ref x))) (k : WA γ M n q ls (.ref x :: st) sh g tt b Φ) : WA γ M n pc ls st sh g tt b Φ := by
  subst hq
  intro p e R s m args below meth c H locs cells slots Ls C hR ht hS hc hs hl
  exact lv_aload_n C.1 C.2.1 hd rfl (hl.at hv) (k p e R s m args below meth c H locs cells slots Ls C hR ht hS hc hs hl)
theorem w_aload {i : Nat} {x : Nat} (hd : decode M.2.1 pc = .ok (.aload i, 2)) (hq : pc + 2 = q) (hv : ls[i]? = some (some (.ref x))) (k : WA γ M n q ls (.ref x :: st) sh g tt b Φ) : WA γ M n pc ls st sh g tt b Φ := by
  subst hq
  intro p e R s m args below meth c H locs cells slots Ls C hR ht hS hc hs hl
  exact lv_aload C.1 C.2.1 hd (hl.at hv) (k p e R s m args below meth c H locs cells slots Ls C hR ht hS hc hs hl)
theorem w_iadd {x y : Int32} (hd : decode M.2.1 pc = .ok (.iadd, 1)) (hq : pc + 1 = q) (k : WA γ M n q ls (.int (x + y) :: st) sh g tt b Φ) : WA γ M n pc ls (.int y :: .int x :: st) sh g tt b Φ := by
  subst hq
  intro p e R s m args below meth c H locs cells slots Ls C hR ht hS hc hs hl
  exact lv_iadd C.1 C.2.1 hd (k p e R s m args below meth c H locs cells slots Ls C hR ht hS hc hs hl)
theorem w_isub {x y : Int32} (hd : decode M.2.1 pc = .ok (.isub, 1)) (hq : pc + 1 = q) (k : WA γ M n q ls (.int (x - y) :: st) sh g tt b Φ) : WA γ M n pc ls (.int y :: .int x :: st) sh g tt b Φ := by
  subst hq
  intro p e R s m args below meth c H locs cells slots Ls C hR ht hS hc hs hl
  exact lv_isub C.1 C.2.1 hd (k p e R s m args below meth c H locs cells slots Ls C hR ht hS hc hs hl)
theorem w_imul {x y : Int32} (hd : decode M.2.1 pc = .ok (.imul, 1)) (hq : pc + 1 = q) (k : WA γ M n q ls (.int (x * y) :: st) sh g tt b Φ) : WA γ M n pc ls (.int y :: .int x :: st) sh g tt b Φ := by
  subst hq
  intro p e R s m args below meth c H locs cells slots Ls C hR ht hS hc hs hl
  exact lv_imul C.1 C.2.1 hd (k p e R s m args below meth c H locs cells slots Ls C hR ht hS hc hs hl)
theorem w_iand {x y : Int32} (hd : decode M.2.1 pc = .ok (.iand, 1)) (hq : pc + 1 = q) (k : WA γ M n q ls (.int (x &&& y) :: st) sh g tt b Φ) : WA γ M n pc ls (.int y :: .int x :: st) sh g tt b Φ := by
  subst hq
  intro p e R s m args below meth c H locs cells slots Ls C hR ht hS hc hs hl
  exact lv_iand C.1 C.2.1 hd (k p e R s m args below meth c H locs cells slots Ls C hR ht hS hc hs hl)
theorem w_ior {x y : Int32} (hd : decode M.2.1 pc = .ok (.ior, 1)) (hq : pc + 1 = q) (k : WA γ M n q ls (.int (x ||| y) :: st) sh g tt b Φ) : WA γ M n pc ls (.int y :: .int x :: st) sh g tt b Φ := by
  subst hq
  intro p e R s m args below meth c H locs cells slots Ls C hR ht hS hc hs hl
  exact lv_ior C.1 C.2.1 hd (k p e R s m args below meth c H locs cells slots Ls C hR ht hS hc hs hl)
theorem w_ixor {x y : Int32} (hd : decode M.2.1 pc = .ok (.ixor, 1)) (hq : pc + 1 = q) (k : WA γ M n q ls (.int (x ^^^ y) :: st) sh g tt b Φ) : WA γ M n pc ls (.int y :: .int x :: st) sh g tt b Φ := by
  subst hq
  intro p e R s m args below meth c H locs cells slots Ls C hR ht hS hc hs hl
  exact lv_ixor C.1 C.2.1 hd (k p e R s m args below meth c H locs cells slots Ls C hR ht hS hc hs hl)
theorem w_ishl {x y : Int32} (hd : decode M.2.1 pc = .ok (.ishl, 1)) (hq : pc + 1 = q) (k : WA γ M n q ls (.int (x <<< (y &&& 31)) :: st) sh g tt b Φ) : WA γ M n pc ls (.int y :: .int x :: st) sh g tt b Φ := by
  subst hq
  intro p e R s m args below meth c H locs cells slots Ls C hR ht hS hc hs hl
  exact lv_ishl C.1 C.2.1 hd (k p e R s m args below meth c H locs cells slots Ls C hR ht hS hc hs hl)
theorem w_ishr {x y : Int32} (hd : decode M.2.1 pc = .ok (.ishr, 1)) (hq : pc + 1 = q) (k : WA γ M n q ls (.int (x >>> (y &&& 31)) :: st) sh g tt b Φ) : WA γ M n pc ls (.int y :: .int x :: st) sh g tt b Φ := by
  subst hq
  intro p e R s m args below meth c H locs cells slots Ls C hR ht hS hc hs hl
  exact lv_ishr C.1 C.2.1 hd (k p e R s m args below meth c H locs cells slots Ls C hR ht hS hc hs hl)
theorem w_iushr {x y : Int32} (hd : decode M.2.1 pc = .ok (.iushr, 1)) (hq : pc + 1 = q) (k : WA γ M n q ls (.int (x.toUInt32 >>> (y.toUInt32 &&& Int32.toUInt32 31)).toInt32 :: st) sh g tt b Φ) : WA γ M n pc ls (.int y :: .int x :: st) sh g tt b Φ := by
  subst hq
  intro p e R s m args below meth c H locs cells slots Ls C hR ht hS hc hs hl
  exact lv_iushr C.1 C.2.1 hd rfl (k p e R s m args below meth c H locs cells slots Ls C hR ht hS hc hs hl)
theorem w_idiv {x y : Int32} (hd : decode M.2.1 pc = .ok (.idiv, 1)) (hq : pc + 1 = q) (hy : ¬ y = 0) (k : WA γ M n q ls (.int (x / y) :: st) sh g tt b Φ) : WA γ M n pc ls (.int y :: .int x :: st) sh g tt b Φ := by
  subst hq
  intro p e R s m args below meth c H locs cells slots Ls C hR ht hS hc hs hl
  exact lv_idiv C.1 C.2.1 hd hy (k p e R s m args below meth c H locs cells slots Ls C hR ht hS hc hs hl)
theorem w_irem {x y : Int32} (hd : decode M.2.1 pc = .ok (.irem, 1)) (hq : pc + 1 = q) (hy : ¬ y = 0) (k : WA γ M n q ls (.int (x - x / y * y) :: st) sh g tt b Φ) : WA γ M n pc ls (.int y :: .int x :: st) sh g tt b Φ := by
  subst hq
  intro p e R s m args below meth c H locs cells slots Ls C hR ht hS hc hs hl
  exact lv_irem C.1 C.2.1 hd hy (k p e R s m args below meth c H locs cells slots Ls C hR ht hS hc hs hl)
theorem w_ineg {x : Int32} (hd : decode M.2.1 pc = .ok (.ineg, 1)) (hq : pc + 1 = q) (k : WA γ M n q ls (.int (-x) :: st) sh g tt b Φ) : WA γ M n pc ls (.int x :: st) sh g tt b Φ := by
  subst hq
  intro p e R s m args below meth c H locs cells slots Ls C hR ht hS hc hs hl
  exact lv_ineg C.1 C.2.1 hd (k p e R s m args below meth c H locs cells slots Ls C hR ht hS hc hs hl)
theorem w_i2l {x : Int32} (hd : decode M.2.1 pc = .ok (.i2l, 1)) (hq : pc + 1 = q) (k : WA γ M n q ls (.long x.toInt64 :: st) sh g tt b Φ) : WA γ M n pc ls (.int x :: st) sh g tt b Φ := by
  subst hq
  intro p e R s m args below meth c H locs cells slots Ls C hR ht hS hc hs hl
  exact lv_i2l C.1 C.2.1 hd rfl (k p e R s m args below meth c H locs cells slots Ls C hR ht hS hc hs hl)
theorem w_i2b {x : Int32} (hd : decode M.2.1 pc = .ok (.i2b, 1)) (hq : pc + 1 = q) (k : WA γ M n q ls (.int x.toInt8.toInt32 :: st) sh g tt b Φ) : WA γ M n pc ls (.int x :: st) sh g tt b Φ := by
  subst hq
  intro p e R s m args below meth c H locs cells slots Ls C hR ht hS hc hs hl
  exact lv_i2b C.1 C.2.1 hd rfl (k p e R s m args below meth c H locs cells slots Ls C hR ht hS hc hs hl)
theorem w_lcmp {x y : Int64} (hd : decode M.2.1 pc = .ok (.lcmp, 1)) (hq : pc + 1 = q) (k : WA γ M n q ls (.int (lg_cmp x y) :: st) sh g tt b Φ) : WA γ M n pc ls (.long y :: .long x :: st) sh g tt b Φ := by
  subst hq
  intro p e R s m args below meth c H locs cells slots Ls C hR ht hS hc hs hl
  exact W.lcmp C.1 C.2.1 hd (k p e R s m args below meth c H locs cells slots Ls C hR ht hS hc hs hl)
theorem w_dup {v : Value} (hd : decode M.2.1 pc = .ok (.dup, 1)) (hq : pc + 1 = q) (hv : v.category = 1) (k : WA γ M n q ls (v :: v :: st) sh g tt b Φ) : WA γ M n pc ls (v :: st) sh g tt b Φ := by
  subst hq
  intro p e R s m args below meth c H locs cells slots Ls C hR ht hS hc hs hl
  exact lv_dup C.1 C.2.1 hd (by rw [cv_cat]; exact hv) (k p e R s m args below meth c H locs cells slots Ls C hR ht hS hc hs hl)
theorem w_pop {v : Value} (hd : decode M.2.1 pc = .ok (.pop, 1)) (hq : pc + 1 = q) (hv : v.category = 1) (k : WA γ M n q ls st sh g tt b Φ) : WA γ M n pc ls (v :: st) sh g tt b Φ := by
  subst hq
  intro p e R s m args below meth c H locs cells slots Ls C hR ht hS hc hs hl
  exact lv_pop C.1 C.2.1 hd (by rw [cv_cat]; exact hv) (k p e R s m args below meth c H locs cells slots Ls C hR ht hS hc hs hl)
theorem w_dup2 {v u : Value} (hd : decode M.2.1 pc = .ok (.dup2, 1)) (hq : pc + 1 = q) (hv : v.category = 1) (hu : u.category = 1) (k : WA γ M n q ls (v :: u :: v :: u :: st) sh g tt b Φ) : WA γ M n pc ls (v :: u :: st) sh g tt b Φ := by
  subst hq
  intro p e R s m args below meth c H locs cells slots Ls C hR ht hS hc hs hl
  exact lv_dup2_11 C.1 C.2.1 hd (by rw [cv_cat]; exact hv) (by rw [cv_cat]; exact hu) (k p e R s m args below meth c H locs cells slots Ls C hR ht hS hc hs hl)
theorem w_ldc {i : Nat} {v : Int32} (hd : decode M.2.1 pc = .ok (.ldc i, 2)) (hq : pc + 2 = q) (hw : Cond.constant M.1.cls i v ∈ lwg) (k : WA γ M n q ls (.int v :: st) sh g tt b Φ) : WA γ M n pc ls st sh g tt b Φ := by
  subst hq
  intro p e R s m args below meth c H locs cells slots Ls C hR ht hS hc hs hl
  exact lv_ldc C.1 C.2.1 C.2.2.2.2.1 (C.2.2.2.2.2.2.2.2.2.2.2.1 args _ hw) hd (k p e R s m args below meth c H locs cells slots Ls C hR ht hS hc hs hl)
theorem w_ldcw {i : Nat} {v : Int32} (hd : decode M.2.1 pc = .ok (.ldc_w i, 3)) (hq : pc + 3 = q) (hw : Cond.constant M.1.cls i v ∈ lwg) (k : WA γ M n q ls (.int v :: st) sh g tt b Φ) : WA γ M n pc ls st sh g tt b Φ := by
  subst hq
  intro p e R s m args below meth c H locs cells slots Ls C hR ht hS hc hs hl
  exact lv_ldcw C.1 C.2.1 C.2.2.2.2.1 (C.2.2.2.2.2.2.2.2.2.2.2.1 args _ hw) hd (k p e R s m args below meth c H locs cells slots Ls C hR ht hS hc hs hl)
theorem w_ldc2 {i : Nat} {v : Int64} (hd : decode M.2.1 pc = .ok (.ldc2_w i, 3)) (hq : pc + 3 = q) (hw : Cond.constantLong M.1.cls i v ∈ lwg) (k : WA γ M n q ls (.long v :: st) sh g tt b Φ) : WA γ M n pc ls st sh g tt b Φ := by
  subst hq
  intro p e R s m args below meth c H locs cells slots Ls C hR ht hS hc hs hl
  exact lv_ldc2 C.1 C.2.1 C.2.2.2.2.1 (C.2.2.2.2.2.2.2.2.2.2.2.1 args _ hw) hd (k p e R s m args below meth c H locs cells slots Ls C hR ht hS hc hs hl)
theorem w_ldcS {i j : Nat} {tx : String} (hd : decode M.2.1 pc = .ok (.ldc i, 2)) (hq : pc + 2 = q) (hj : j < 39) (hw : strL[j]? = some (M.1.cls, i, tx)) (k : WA γ M n q ls (.ref (1048576 + j) :: st) sh g tt b Φ) : WA γ M n pc ls st sh g tt b Φ := by
  subst hq
  intro p e R s m args below meth c H locs cells slots Ls C hR ht hS hc hs hl
  have hcr : cr γ (1048576 + j) = gK γ j := by unfold cr; rw [if_neg (by omega), if_pos (by omega), Nat.add_sub_cancel_left]
  exact va_ldcS (q := cr γ (1048576 + j)) C.1 C.2.1 C.2.2.2.2.1 (by rw [hcr]; exact C.2.2.2.2.2.2.2.2.2.2.2.2.2.1 j _ hw) hd (k p e R s m args below meth c H locs cells slots Ls C hR ht hS hc hs hl)
theorem w_goto {off : Int} (hd : decode M.2.1 pc = .ok (.goto off, 3)) (hq : (pc : Int) + off = (q : Int)) (k : WA γ M n q ls st sh g tt b Φ) : WA γ M n pc ls st sh g tt b Φ := by
  intro p e R s m args below meth c H locs cells slots Ls C hR ht hS hc hs hl
  exact lv_goto C.1 C.2.1 hd hq (k p e R s m args below meth c H locs cells slots Ls C hR ht hS hc hs hl)
theorem w_if_eq_t {x : Int32} {off : Int} (hd : decode M.2.1 pc = .ok (.ifCond .eq off, 3)) (hq : (pc : Int) + off = (q : Int)) (hx : x = 0) (k : WA γ M n q ls st sh g tt b Φ) : WA γ M n pc ls (.int x :: st) sh g tt b Φ := by
  intro p e R s m args below meth c H locs cells slots Ls C hR ht hS hc hs hl
  exact lv_if_eq C.1 C.2.1 hd hq (fun _ => k p e R s m args below meth c H locs cells slots Ls C hR ht hS hc hs hl) (fun h => absurd hx h)
theorem w_if_eq_f {x : Int32} {off : Int} (hd : decode M.2.1 pc = .ok (.ifCond .eq off, 3)) (tq : Nat) (hq0 : (pc : Int) + off = (tq : Int)) (hq : pc + 3 = q) (hx : ¬ (x = 0)) (k : WA γ M n q ls st sh g tt b Φ) : WA γ M n pc ls (.int x :: st) sh g tt b Φ := by
  subst hq
  intro p e R s m args below meth c H locs cells slots Ls C hR ht hS hc hs hl
  exact lv_if_eq C.1 C.2.1 hd hq0 (fun h => absurd h hx) (fun _ => k p e R s m args below meth c H locs cells slots Ls C hR ht hS hc hs hl)
theorem w_icmp_eq_t {x y : Int32} {off : Int} (hd : decode M.2.1 pc = .ok (.if_icmp .eq off, 3)) (hq : (pc : Int) + off = (q : Int)) (hx : x = y) (k : WA γ M n q ls st sh g tt b Φ) : WA γ M n pc ls (.int y :: .int x :: st) sh g tt b Φ := by
  intro p e R s m args below meth c H locs cells slots Ls C hR ht hS hc hs hl
  exact lv_icmp_eq C.1 C.2.1 hd hq (fun _ => k p e R s m args below meth c H locs cells slots Ls C hR ht hS hc hs hl) (fun h => absurd hx h)
theorem w_icmp_eq_f {x y : Int32} {off : Int} (hd : decode M.2.1 pc = .ok (.if_icmp .eq off, 3)) (tq : Nat) (hq0 : (pc : Int) + off = (tq : Int)) (hq : pc + 3 = q) (hx : ¬ (x = y)) (k : WA γ M n q ls st sh g tt b Φ) : WA γ M n pc ls (.int y :: .int x :: st) sh g tt b Φ := by
  subst hq
  intro p e R s m args below meth c H locs cells slots Ls C hR ht hS hc hs hl
  exact lv_icmp_eq C.1 C.2.1 hd hq0 (fun h => absurd h hx) (fun _ => k p e R s m args below meth c H locs cells slots Ls C hR ht hS hc hs hl)
theorem w_if_ne_t {x : Int32} {off : Int} (hd : decode M.2.1 pc = .ok (.ifCond .ne off, 3)) (hq : (pc : Int) + off = (q : Int)) (hx : ¬ x = 0) (k : WA γ M n q ls st sh g tt b Φ) : WA γ M n pc ls (.int x :: st) sh g tt b Φ := by
  intro p e R s m args below meth c H locs cells slots Ls C hR ht hS hc hs hl
  exact lv_if_ne C.1 C.2.1 hd hq (fun _ => k p e R s m args below meth c H locs cells slots Ls C hR ht hS hc hs hl) (fun h => absurd h hx)
theorem w_if_ne_f {x : Int32} {off : Int} (hd : decode M.2.1 pc = .ok (.ifCond .ne off, 3)) (tq : Nat) (hq0 : (pc : Int) + off = (tq : Int)) (hq : pc + 3 = q) (hx : x = 0) (k : WA γ M n q ls st sh g tt b Φ) : WA γ M n pc ls (.int x :: st) sh g tt b Φ := by
  subst hq
  intro p e R s m args below meth c H locs cells slots Ls C hR ht hS hc hs hl
  exact lv_if_ne C.1 C.2.1 hd hq0 (fun h => absurd hx h) (fun _ => k p e R s m args below meth c H locs cells slots Ls C hR ht hS hc hs hl)
theorem w_icmp_ne_t {x y : Int32} {off : Int} (hd : decode M.2.1 pc = .ok (.if_icmp .ne off, 3)) (hq : (pc : Int) + off = (q : Int)) (hx : ¬ x = y) (k : WA γ M n q ls st sh g tt b Φ) : WA γ M n pc ls (.int y :: .int x :: st) sh g tt b Φ := by
  intro p e R s m args below meth c H locs cells slots Ls C hR ht hS hc hs hl
  exact lv_icmp_ne C.1 C.2.1 hd hq (fun _ => k p e R s m args below meth c H locs cells slots Ls C hR ht hS hc hs hl) (fun h => absurd h hx)
theorem w_icmp_ne_f {x y : Int32} {off : Int} (hd : decode M.2.1 pc = .ok (.if_icmp .ne off, 3)) (tq : Nat) (hq0 : (pc : Int) + off = (tq : Int)) (hq : pc + 3 = q) (hx : x = y) (k : WA γ M n q ls st sh g tt b Φ) : WA γ M n pc ls (.int y :: .int x :: st) sh g tt b Φ := by
  subst hq
  intro p e R s m args below meth c H locs cells slots Ls C hR ht hS hc hs hl
  exact lv_icmp_ne C.1 C.2.1 hd hq0 (fun h => absurd hx h) (fun _ => k p e R s m args below meth c H locs cells slots Ls C hR ht hS hc hs hl)
theorem w_if_lt_t {x : Int32} {off : Int} (hd : decode M.2.1 pc = .ok (.ifCond .lt off, 3)) (hq : (pc : Int) + off = (q : Int)) (hx : x < 0) (k : WA γ M n q ls st sh g tt b Φ) : WA γ M n pc ls (.int x :: st) sh g tt b Φ := by
  intro p e R s m args below meth c H locs cells slots Ls C hR ht hS hc hs hl
  exact lv_if_lt C.1 C.2.1 hd hq (fun _ => k p e R s m args below meth c H locs cells slots Ls C hR ht hS hc hs hl) (fun h => absurd hx h)
theorem w_if_lt_f {x : Int32} {off : Int} (hd : decode M.2.1 pc = .ok (.ifCond .lt off, 3)) (tq : Nat) (hq0 : (pc : Int) + off = (tq : Int)) (hq : pc + 3 = q) (hx : ¬ (x < 0)) (k : WA γ M n q ls st sh g tt b Φ) : WA γ M n pc ls (.int x :: st) sh g tt b Φ := by
  subst hq
  intro p e R s m args below meth c H locs cells slots Ls C hR ht hS hc hs hl
  exact lv_if_lt C.1 C.2.1 hd hq0 (fun h => absurd h hx) (fun _ => k p e R s m args below meth c H locs cells slots Ls C hR ht hS hc hs hl)
theorem w_icmp_lt_t {x y : Int32} {off : Int} (hd : decode M.2.1 pc = .ok (.if_icmp .lt off, 3)) (hq : (pc : Int) + off = (q : Int)) (hx : x < y) (k : WA γ M n q ls st sh g tt b Φ) : WA γ M n pc ls (.int y :: .int x :: st) sh g tt b Φ := by
  intro p e R s m args below meth c H locs cells slots Ls C hR ht hS hc hs hl
  exact lv_icmp_lt C.1 C.2.1 hd hq (fun _ => k p e R s m args below meth c H locs cells slots Ls C hR ht hS hc hs hl) (fun h => absurd hx h)
theorem w_icmp_lt_f {x y : Int32} {off : Int} (hd : decode M.2.1 pc = .ok (.if_icmp .lt off, 3)) (tq : Nat) (hq0 : (pc : Int) + off = (tq : Int)) (hq : pc + 3 = q) (hx : ¬ (x < y)) (k : WA γ M n q ls st sh g tt b Φ) : WA γ M n pc ls (.int y :: .int x :: st) sh g tt b Φ := by
  subst hq
  intro p e R s m args below meth c H locs cells slots Ls C hR ht hS hc hs hl
  exact lv_icmp_lt C.1 C.2.1 hd hq0 (fun h => absurd h hx) (fun _ => k p e R s m args below meth c H locs cells slots Ls C hR ht hS hc hs hl)
theorem w_if_ge_t {x : Int32} {off : Int} (hd : decode M.2.1 pc = .ok (.ifCond .ge off, 3)) (hq : (pc : Int) + off = (q : Int)) (hx : 0 ≤ x) (k : WA γ M n q ls st sh g tt b Φ) : WA γ M n pc ls (.int x :: st) sh g tt b Φ := by
  intro p e R s m args below meth c H locs cells slots Ls C hR ht hS hc hs hl
  exact lv_if_ge C.1 C.2.1 hd hq (fun _ => k p e R s m args below meth c H locs cells slots Ls C hR ht hS hc hs hl) (fun h => absurd hx h)
theorem w_if_ge_f {x : Int32} {off : Int} (hd : decode M.2.1 pc = .ok (.ifCond .ge off, 3)) (tq : Nat) (hq0 : (pc : Int) + off = (tq : Int)) (hq : pc + 3 = q) (hx : ¬ (0 ≤ x)) (k : WA γ M n q ls st sh g tt b Φ) : WA γ M n pc ls (.int x :: st) sh g tt b Φ := by
  subst hq
  intro p e R s m args below meth c H locs cells slots Ls C hR ht hS hc hs hl
  exact lv_if_ge C.1 C.2.1 hd hq0 (fun h => absurd h hx) (fun _ => k p e R s m args below meth c H locs cells slots Ls C hR ht hS hc hs hl)
theorem w_icmp_ge_t {x y : Int32} {off : Int} (hd : decode M.2.1 pc = .ok (.if_icmp .ge off, 3)) (hq : (pc : Int) + off = (q : Int)) (hx : y ≤ x) (k : WA γ M n q ls st sh g tt b Φ) : WA γ M n pc ls (.int y :: .int x :: st) sh g tt b Φ := by
  intro p e R s m args below meth c H locs cells slots Ls C hR ht hS hc hs hl
  exact lv_icmp_ge C.1 C.2.1 hd hq (fun _ => k p e R s m args below meth c H locs cells slots Ls C hR ht hS hc hs hl) (fun h => absurd hx h)
theorem w_icmp_ge_f {x y : Int32} {off : Int} (hd : decode M.2.1 pc = .ok (.if_icmp .ge off, 3)) (tq : Nat) (hq0 : (pc : Int) + off = (tq : Int)) (hq : pc + 3 = q) (hx : ¬ (y ≤ x)) (k : WA γ M n q ls st sh g tt b Φ) : WA γ M n pc ls (.int y :: .int x :: st) sh g tt b Φ := by
  subst hq
  intro p e R s m args below meth c H locs cells slots Ls C hR ht hS hc hs hl
  exact lv_icmp_ge C.1 C.2.1 hd hq0 (fun h => absurd h hx) (fun _ => k p e R s m args below meth c H locs cells slots Ls C hR ht hS hc hs hl)
theorem w_if_gt_t {x : Int32} {off : Int} (hd : decode M.2.1 pc = .ok (.ifCond .gt off, 3)) (hq : (pc : Int) + off = (q : Int)) (hx : 0 < x) (k : WA γ M n q ls st sh g tt b Φ) : WA γ M n pc ls (.int x :: st) sh g tt b Φ := by
  intro p e R s m args below meth c H locs cells slots Ls C hR ht hS hc hs hl
  exact lv_if_gt C.1 C.2.1 hd hq (fun _ => k p e R s m args below meth c H locs cells slots Ls C hR ht hS hc hs hl) (fun h => absurd hx h)
theorem w_if_gt_f {x : Int32} {off : Int} (hd : decode M.2.1 pc = .ok (.ifCond .gt off, 3)) (tq : Nat) (hq0 : (pc : Int) + off = (tq : Int)) (hq : pc + 3 = q) (hx : ¬ (0 < x)) (k : WA γ M n q ls st sh g tt b Φ) : WA γ M n pc ls (.int x :: st) sh g tt b Φ := by
  subst hq
  intro p e R s m args below meth c H locs cells slots Ls C hR ht hS hc hs hl
  exact lv_if_gt C.1 C.2.1 hd hq0 (fun h => absurd h hx) (fun _ => k p e R s m args below meth c H locs cells slots Ls C hR ht hS hc hs hl)
theorem w_icmp_gt_t {x y : Int32} {off : Int} (hd : decode M.2.1 pc = .ok (.if_icmp .gt off, 3)) (hq : (pc : Int) + off = (q : Int)) (hx : y < x) (k : WA γ M n q ls st sh g tt b Φ) : WA γ M n pc ls (.int y :: .int x :: st) sh g tt b Φ := by
  intro p e R s m args below meth c H locs cells slots Ls C hR ht hS hc hs hl
  exact lv_icmp_gt C.1 C.2.1 hd hq (fun _ => k p e R s m args below meth c H locs cells slots Ls C hR ht hS hc hs hl) (fun h => absurd hx h)
theorem w_icmp_gt_f {x y : Int32} {off : Int} (hd : decode M.2.1 pc = .ok (.if_icmp .gt off, 3)) (tq : Nat) (hq0 : (pc : Int) + off = (tq : Int)) (hq : pc + 3 = q) (hx : ¬ (y < x)) (k : WA γ M n q ls st sh g tt b Φ) : WA γ M n pc ls (.int y :: .int x :: st) sh g tt b Φ := by
  subst hq
  intro p e R s m args below meth c H locs cells slots Ls C hR ht hS hc hs hl
  exact lv_icmp_gt C.1 C.2.1 hd hq0 (fun h => absurd h hx) (fun _ => k p e R s m args below meth c H locs cells slots Ls C hR ht hS hc hs hl)
theorem w_if_le_t {x : Int32} {off : Int} (hd : decode M.2.1 pc = .ok (.ifCond .le off, 3)) (hq : (pc : Int) + off = (q : Int)) (hx : x ≤ 0) (k : WA γ M n q ls st sh g tt b Φ) : WA γ M n pc ls (.int x :: st) sh g tt b Φ := by
  intro p e R s m args below meth c H locs cells slots Ls C hR ht hS hc hs hl
  exact lv_if_le C.1 C.2.1 hd hq (fun _ => k p e R s m args below meth c H locs cells slots Ls C hR ht hS hc hs hl) (fun h => absurd hx h)
theorem w_if_le_f {x : Int32} {off : Int} (hd : decode M.2.1 pc = .ok (.ifCond .le off, 3)) (tq : Nat) (hq0 : (pc : Int) + off = (tq : Int)) (hq : pc + 3 = q) (hx : ¬ (x ≤ 0)) (k : WA γ M n q ls st sh g tt b Φ) : WA γ M n pc ls (.int x :: st) sh g tt b Φ := by
  subst hq
  intro p e R s m args below meth c H locs cells slots Ls C hR ht hS hc hs hl
  exact lv_if_le C.1 C.2.1 hd hq0 (fun h => absurd h hx) (fun _ => k p e R s m args below meth c H locs cells slots Ls C hR ht hS hc hs hl)
theorem w_icmp_le_t {x y : Int32} {off : Int} (hd : decode M.2.1 pc = .ok (.if_icmp .le off, 3)) (hq : (pc : Int) + off = (q : Int)) (hx : x ≤ y) (k : WA γ M n q ls st sh g tt b Φ) : WA γ M n pc ls (.int y :: .int x :: st) sh g tt b Φ := by
  intro p e R s m args below meth c H locs cells slots Ls C hR ht hS hc hs hl
  exact lv_icmp_le C.1 C.2.1 hd hq (fun _ => k p e R s m args below meth c H locs cells slots Ls C hR ht hS hc hs hl) (fun h => absurd hx h)
theorem w_icmp_le_f {x y : Int32} {off : Int} (hd : decode M.2.1 pc = .ok (.if_icmp .le off, 3)) (tq : Nat) (hq0 : (pc : Int) + off = (tq : Int)) (hq : pc + 3 = q) (hx : ¬ (x ≤ y)) (k : WA γ M n q ls st sh g tt b Φ) : WA γ M n pc ls (.int y :: .int x :: st) sh g tt b Φ := by
  subst hq
  intro p e R s m args below meth c H locs cells slots Ls C hR ht hS hc hs hl
  exact lv_icmp_le C.1 C.2.1 hd hq0 (fun h => absurd h hx) (fun _ => k p e R s m args below meth c H locs cells slots Ls C hR ht hS hc hs hl)
theorem w_istore_n {i : Fin 4} {x : Int32} {ls' : List (Option Value)} (hd : decode M.2.1 pc = .ok (.istore_n i, 1)) (hq : pc + 1 = q) (hi : (i : Nat) < M.2.2.1) (hok : okS ls (i : Nat) = true) (hs9 : ls.set (i : Nat) (some (.int x)) = ls') (k : WA γ M n q ls' st sh g tt b Φ) : WA γ M n pc ls (.int x :: st) sh g tt b Φ := by
  subst hq; subst hs9
  intro p e R s m args below meth c H locs cells slots Ls C hR ht hS hc hs hl
  exact lv_istore_n C.1 C.2.1 hd rfl hl hi rfl (fun Ls hl9 => k p e R s m args below meth c H locs cells slots Ls C hR ht hS hc hs (LH.put hok hl9))
theorem w_istore {i : Nat} {x : Int32} {ls' : List (Option Value)} (hd : decode M.2.1 pc = .ok (.istore i, 2)) (hq : pc + 2 = q) (hi : (i : Nat) < M.2.2.1) (hok : okS ls (i : Nat) = true) (hs9 : ls.set (i : Nat) (some (.int x)) = ls') (k : WA γ M n q ls' st sh g tt b Φ) : WA γ M n pc ls (.int x :: st) sh g tt b Φ := by
  subst hq; subst hs9
  intro p e R s m args below meth c H locs cells slots Ls C hR ht hS hc hs hl
  exact lv_istore C.1 C.2.1 hd hl hi rfl (fun Ls hl9 => k p e R s m args below meth c H locs cells slots Ls C hR ht hS hc hs (LH.put hok hl9))
theorem w_astore_n {i : Fin 4} {x : Nat} {ls' : List (Option Value)} (hd : decode M.2.1 pc = .ok (.astore_n i, 1)) (hq : pc + 1 = q) (hi : (i : Nat) < M.2.2.1) (hok : okS ls (i : Nat) = true) (hs9 : ls.set (i : Nat) (some (.ref x)) = ls') (k : WA γ M n q ls' st sh g tt b Φ) : WA γ M n pc ls (.ref x :: st) sh g tt b Φ := by
  subst hq; subst hs9
  intro p e R s m args below meth c H locs cells slots Ls C hR ht hS hc hs hl
  exact lv_astore_n C.1 C.2.1 hd rfl hl hi rfl (fun Ls hl9 => k p e R s m args below meth c H locs cells slots Ls C hR ht hS hc hs (LH.put hok hl9))
theorem w_astore {i : Nat} {x : Nat} {ls' : List (Option Value)} (hd : decode M.2.1 pc = .ok (.astore i, 2)) (hq : pc + 2 = q) (hi : (i : Nat) < M.2.2.1) (hok : okS ls (i : Nat) = true) (hs9 : ls.set (i : Nat) (some (.ref x)) = ls') (k : WA γ M n q ls' st sh g tt b Φ) : WA γ M n pc ls (.ref x :: st) sh g tt b Φ := by
  subst hq; subst hs9
  intro p e R s m args below meth c H locs cells slots Ls C hR ht hS hc hs hl
  exact lv_astore C.1 C.2.1 hd hl hi rfl (fun Ls hl9 => k p e R s m args below meth c H locs cells slots Ls C hR ht hS hc hs (LH.put hok hl9))
theorem w_iinc {i : Nat} {d : Int} {x : Int32} {ls' : List (Option Value)} (hd : decode M.2.1 pc = .ok (.iinc i d, 3)) (hq : pc + 3 = q) (hi : i < M.2.2.1) (hv : ls[i]? = some (some (.int x))) (hok : okS ls i = true) (hs9 : ls.set i (some (.int (x + Int32.ofInt d))) = ls') (k : WA γ M n q ls' st sh g tt b Φ) : WA γ M n pc ls st sh g tt b Φ := by
  subst hq; subst hs9
  intro p e R s m args below meth c H locs cells slots Ls C hR ht hS hc hs hl
  obtain ⟨j, hj⟩ := List.getElem?_of_mem ((la_mem γ ls 0 (i, cv γ (.int x))).mpr ⟨i, .int x, hv, by rw [Nat.zero_add]⟩)
  exact lv_iinc C.1 C.2.1 hd hl hj rfl hi rfl (fun Ls hl9 => k p e R s m args below meth c H locs cells slots Ls C hR ht hS hc hs (LH.put hok hl9))
/-- fewer locals are known -/
theorem w_less {ls' : List (Option Value)} (h : ∀ (i : Nat) (v : Value), ls'[i]? = some (some v) → ls[i]? = some (some v)) (k : WA γ M n pc ls' st sh g tt b Φ) : WA γ M n pc ls st sh g tt b Φ := by
  intro p e R s m args below meth c H locs cells slots Ls C hR ht hS hc hs hl
  exact k p e R s m args below meth c H locs cells slots Ls C hR ht hS hc hs (hl.less h)
end Rules
end
section
/-! rules that read and write the world; returns -/
def fv (t : Nat) (x : Int32) : Value := match t with
  | 0 => .int x
  | 1 => .null
  | t + 2 => .ref t
theorem tv_fv (γ : GG) (t : Nat) (x : Int32) : tv γ t x = cv γ (fv t x) := by
  match t with
  | 0 => rfl
  | 1 => rfl
  | t + 2 => rfl
def inb (i : Int32) (n : Nat) : Bool := !(decide (i < 0)) && decide (i.toNatClampNeg < n)
theorem inb_vp {i : Int32} {n : Nat} (h : inb i n = true) : vp_in i n := by
  simp only [inb, Bool.and_eq_true, Bool.not_eq_true', decide_eq_false_iff_not, decide_eq_true_eq] at h
  rintro (h1 | h1)
  · exact h.1 h1
  · omega
theorem tys_at (γ : GG) : (gtys γ)[0]? = some (gc γ 0, .int) ∧ (gtys γ)[1]? = some (gc γ 1, .byte) ∧ (gtys γ)[2]? = some (gc γ 2, .long) ∧ (gtys γ)[3]? = some (gc γ 3, .object "java/lang/String") := ⟨rfl, rfl, rfl, rfl⟩
section Heap
variable {γ : GG} {M : MI} {n pc q : Nat} {ls : List (Option Value)} {st : List Value} {sh : List Sh} {g : Mem} {tt : Bool} {b : Nat × Nat} {Φ : PO}
theorem cr_lo (γ : GG) {k : Nat} (h : k < 1048576) : cr γ k = gz γ + k := by unfold cr; rw [if_pos h]
theorem Rel.lt {H : Heap} (_ : Rel γ sh g H) {k : Nat} {s : Sh} (hk : sh[k]? = some s) : k < sh.length := (List.getElem?_eq_some_iff.mp hk).1
theorem Rel.ofP {H : Heap} (hP : va_P (gD γ) xcl (wsO γ g sh 0) H) {k : Nat} {s : Sh} (hk : sh[k]? = some s) : Rel γ sh g H := by
  refine ⟨hP, ?_⟩
  have h0 : sh.length - 1 < sh.length := by
    have := (List.getElem?_eq_some_iff.mp hk).1
    omega
  obtain ⟨s9, hs9⟩ : ∃ s9, sh[sh.length - 1]? = some s9 := ⟨_, List.getElem?_eq_getElem h0⟩
  have := (hP (sh.length - 1) _ (wsO_at γ _ hs9)).lt
  simp only [] at this
  omega
/-- a field is read -/
theorem w_get {i k ci j ln t : Nat} {tm : List Nat} (hd : decode M.2.1 pc = .ok (.getfield i, 3)) (hq : pc + 3 = q) (hc : ci < 13) (hw : Cond.fieldLink M.1.cls i (xT ci j).1 (xT ci j).2.1 (xT ci j).2.2.1 ∈ lwg) (hj : j < xN ci) (hk : k < 1048576) (hs : sh[k]? = some (0, ci, tm, ln)) (ht : tm[j]? = some t) {v : Value} (hv : fv t (g k j) = v)
    (kk : WA γ M n q ls (v :: st) sh g tt b Φ) : WA γ M n pc ls (.ref k :: st) sh g tt b Φ := by
  subst hq; subst hv
  intro p e R s m args below meth c H locs cells slots Ls C hR ht9 hS hc9 hs9 hl
  obtain ⟨hx, hb, -, -, hown, -, -, -, -, -, hSF⟩ := id C
  have he := wsO_at γ g hs
  show W p (gl γ) e R s m args below meth c H locs cells slots _ (F0 m pc Ls (.ref (cr γ k) :: st.map (cv γ)))
  rw [cr_lo γ hk]
  refine va_get (v := tv γ t (g k j)) hx hb (hSF.2.1 args) (xin ci hc) hown hSF.1 hR.1 k he (xcl_at ci hc) j hj (hSF.2.1 args _ hw) (fun _ h9 => h9) (by rw [cf_get, ht, Nat.zero_add]; rfl) hd ?_
  rw [tv_fv]
  exact kk p e R s m args below meth c H locs cells slots Ls C hR ht9 hS hc9 hs9 hl
/-- a number is written into a field that isn't final -/
theorem w_put {i k ci j ln : Nat} {tm : List Nat} {x : Int32} {ty : FieldType} {g' : Mem} (hd : decode M.2.1 pc = .ok (.putfield i, 3)) (hq : pc + 3 = q) (hc : ci < 13) (hw : Cond.fieldLink M.1.cls i (xT ci j).1 (xT ci j).2.1 (xT ci j).2.2.1 ∈ lwg) (hj : j < xN ci) (hk : k < 1048576) (hs : sh[k]? = some (0, ci, tm, ln)) (ht : tm[j]? = some 0)
    (hf : (xT ci j).2.2.2 = false) (hty : parseFieldDescriptor (xT ci j).2.2.1 = some ty) (hn : narrow ty (.int x) = .int x) (hfit : fits ty (.int x) = true) (hg : mset g k j x = g')
    (kk : WA γ M n q ls st sh g' tt b Φ) : WA γ M n pc ls (.int x :: .ref k :: st) sh g tt b Φ := by
  subst hq; subst hg
  intro p e R s m args below meth c H locs cells slots Ls C hR ht9 hS hc9 hs9 hl
  obtain ⟨hx, hb, -, -, hown, -, -, -, -, -, hSF⟩ := id C
  have he := wsO_at γ g hs
  show W p (gl γ) e R s m args below meth c H locs cells slots _ (F0 m pc Ls (.int x :: .ref (cr γ k) :: st.map (cv γ)))
  rw [cr_lo γ hk]
  refine va_put (v := .int x) hx hb (hSF.2.1 args) (xin ci hc) (xy ci) (xty ci hc) (xnm ci hc) hown hSF.1 hR.1 (wsO_D γ g sh) hS k he (xcl_at ci hc) j hj (hSF.2.1 args _ hw) (fun _ h9 => h9) hf hty hn hfit (by rw [cf_len]; exact (List.getElem?_eq_some_iff.mp ht).1) hd ?_
  intro H1 locs1 hP1 hD1 hS1
  have e1 : (wsO γ g sh 0).set k (gz γ + k, .inr (ci, (cf γ (g k) tm 0).set j (.int x))) = wsO γ (mset g k j x) sh 0 := by
    rw [cf_setI γ (g k) tm j x ht]
    exact wsO_set0 γ g (upd (g k) j x) hs
  exact kk p e R s m args below meth c H1 locs1 cells slots Ls C (Rel.ofP (by rw [← e1]; exact hP1) hs) ht9 hS1 hc9 hs9 hl
/-- a number is written into a final field, in a constructor -/
theorem w_putF {i k ci j ln : Nat} {tm : List Nat} {x : Int32} {ty : FieldType} {g' : Mem} (hd : decode M.2.1 pc = .ok (.putfield i, 3)) (hq : pc + 3 = q) (hc : ci < 13) (hw : Cond.fieldLink M.1.cls i (xT ci j).1 (xT ci j).2.1 (xT ci j).2.2.1 ∈ lwg) (hj : j < xN ci) (hk : k < 1048576) (hs : sh[k]? = some (0, ci, tm, ln)) (ht : tm[j]? = some 0)
    (hf : (xT ci j).2.2.2 = true) (hi : M.1.name = "<init>") (hde : (xT ci j).1 = M.1.cls) (hty : parseFieldDescriptor (xT ci j).2.2.1 = some ty) (hn : narrow ty (.int x) = .int x) (hfit : fits ty (.int x) = true) (hg : mset g k j x = g')
    (kk : WA γ M n q ls st sh g' tt b Φ) : WA γ M n pc ls (.int x :: .ref k :: st) sh g tt b Φ := by
  subst hq; subst hg
  intro p e R s m args below meth c H locs cells slots Ls C hR ht9 hS hc9 hs9 hl
  obtain ⟨hx, hb, -, -, hown, -, hnm, -, -, -, hSF⟩ := id C
  have he := wsO_at γ g hs
  show W p (gl γ) e R s m args below meth c H locs cells slots _ (F0 m pc Ls (.int x :: .ref (cr γ k) :: st.map (cv γ)))
  rw [cr_lo γ hk]
  refine va_putF (v := .int x) hx hb (hSF.2.1 args) (xin ci hc) (xy ci) (xty ci hc) (xnm ci hc) hown hSF.1 hR.1 (wsO_D γ g sh) hS k he (xcl_at ci hc) j hj (hSF.2.1 args _ hw) (fun _ h9 => h9) hf (hnm.trans hi) hde hty hn hfit (by rw [cf_len]; exact (List.getElem?_eq_some_iff.mp ht).1) hd ?_
  intro H1 locs1 hP1 hD1 hS1
  have e1 : (wsO γ g sh 0).set k (gz γ + k, .inr (ci, (cf γ (g k) tm 0).set j (.int x))) = wsO γ (mset g k j x) sh 0 := by
    rw [cf_setI γ (g k) tm j x ht]
    exact wsO_set0 γ g (upd (g k) j x) hs
  exact kk p e R s m args below meth c H1 locs1 cells slots Ls C (Rel.ofP (by rw [← e1]; exact hP1) hs) ht9 hS1 hc9 hs9 hl
/-- a reference is written into a final field, in a constructor -/
theorem w_putR {i k ci j ln r t0 : Nat} {tm : List Nat} {ty : FieldType} {sh' : List Sh} (hd : decode M.2.1 pc = .ok (.putfield i, 3)) (hq : pc + 3 = q) (hc : ci < 13) (hw : Cond.fieldLink M.1.cls i (xT ci j).1 (xT ci j).2.1 (xT ci j).2.2.1 ∈ lwg) (hj : j < xN ci) (hk : k < 1048576) (hs : sh[k]? = some (0, ci, tm, ln)) (ht : tm[j]? = some t0)
    (hf : (xT ci j).2.2.2 = true) (hi : M.1.name = "<init>") (hde : (xT ci j).1 = M.1.cls) (hty : parseFieldDescriptor (xT ci j).2.2.1 = some ty) (hn : ∀ a : Nat, narrow ty (.ref a) = .ref a) (hfit : ∀ a : Nat, fits ty (.ref a) = true) (hsh : sh.set k (0, ci, tm.set j (r + 2), ln) = sh')
    (kk : WA γ M n q ls st sh' g tt b Φ) : WA γ M n pc ls (.ref r :: .ref k :: st) sh g tt b Φ := by
  subst hq; subst hsh
  intro p e R s m args below meth c H locs cells slots Ls C hR ht9 hS hc9 hs9 hl
  obtain ⟨hx, hb, -, -, hown, -, hnm, -, -, -, hSF⟩ := id C
  have he := wsO_at γ g hs
  show W p (gl γ) e R s m args below meth c H locs cells slots _ (F0 m pc Ls (.ref (cr γ r) :: .ref (cr γ k) :: st.map (cv γ)))
  rw [cr_lo γ hk]
  refine va_putF (v := .ref (cr γ r)) hx hb (hSF.2.1 args) (xin ci hc) (xy ci) (xty ci hc) (xnm ci hc) hown hSF.1 hR.1 (wsO_D γ g sh) hS k he (xcl_at ci hc) j hj (hSF.2.1 args _ hw) (fun _ h9 => h9) hf (hnm.trans hi) hde hty (hn _) (hfit _) (by rw [cf_len]; exact (List.getElem?_eq_some_iff.mp ht).1) hd ?_
  intro H1 locs1 hP1 hD1 hS1
  have hlt := (List.getElem?_eq_some_iff.mp hs).1
  have e1 : (wsO γ g sh 0).set k (gz γ + k, .inr (ci, (cf γ (g k) tm 0).set j (.ref (cr γ r)))) = wsO γ g (sh.set k (0, ci, tm.set j (r + 2), ln)) 0 := by
    rw [cf_setR γ (g k) tm j r]
    have e2 : mrow g k (g k) = g := by
      funext k'
      by_cases h : k' = k
      · subst h; exact mrow_self _ _ _
      · exact mrow_other _ _ h
    have := wsO_set γ g (0, ci, tm.set j (r + 2), ln) (g k) hlt
    rw [e2] at this
    exact this
  have hs2 : (sh.set k (0, ci, tm.set j (r + 2), ln))[k]? = some (0, ci, tm.set j (r + 2), ln) := by rw [List.getElem?_set, if_pos rfl, if_pos hlt]
  exact kk p e R s m args below meth c H1 locs1 cells slots Ls C (Rel.ofP (by rw [← e1]; exact hP1) hs2) (fun h => by rw [List.length_set]; exact ht9 h) hS1 hc9 hs9 hl
theorem w_iald {k t ln : Nat} {tm : List Nat} {x : Int32} (hd : decode M.2.1 pc = .ok (.iaload, 1)) (hq : pc + 1 = q) (hk : k < 1048576) (hs : sh[k]? = some (1, 0, tm, ln)) (hi : inb x ln = true) (_ : t = 0)
    (kk : WA γ M n q ls (.int (g k x.toNatClampNeg) :: st) sh g tt b Φ) : WA γ M n pc ls (.int x :: .ref k :: st) sh g tt b Φ := by
  subst hq
  intro p e R s m args below meth c H locs cells slots Ls C hR ht9 hS hc9 hs9 hl
  obtain ⟨hx, hb, -, -, hown, -, -, -, -, -, hSF⟩ := id C
  show W p (gl γ) e R s m args below meth c H locs cells slots _ (F0 m pc Ls (.int x :: .ref (cr γ k) :: st.map (cv γ)))
  rw [cr_lo γ hk]
  exact va_iald hx hb hSF.1 hR.1 k 0 (wsO_at γ g hs) (tys_at γ).1 (inb_vp hi) hd (kk p e R s m args below meth c H locs cells slots Ls C hR ht9 hS hc9 hs9 hl)
theorem w_bald {k ln : Nat} {tm : List Nat} {x : Int32} (hd : decode M.2.1 pc = .ok (.baload, 1)) (hq : pc + 1 = q) (hk : k < 1048576) (hs : sh[k]? = some (1, 1, tm, ln)) (hi : inb x ln = true)
    (kk : WA γ M n q ls (.int (g k x.toNatClampNeg) :: st) sh g tt b Φ) : WA γ M n pc ls (.int x :: .ref k :: st) sh g tt b Φ := by
  subst hq
  intro p e R s m args below meth c H locs cells slots Ls C hR ht9 hS hc9 hs9 hl
  obtain ⟨hx, hb, -, -, hown, -, -, -, -, -, hSF⟩ := id C
  show W p (gl γ) e R s m args below meth c H locs cells slots _ (F0 m pc Ls (.int x :: .ref (cr γ k) :: st.map (cv γ)))
  rw [cr_lo γ hk]
  exact va_bald hx hb hSF.1 hR.1 k 1 (wsO_at γ g hs) (tys_at γ).2.1 (inb_vp hi) hd (kk p e R s m args below meth c H locs cells slots Ls C hR ht9 hS hc9 hs9 hl)
theorem w_lald {k ln : Nat} {tm : List Nat} {x : Int32} (hd : decode M.2.1 pc = .ok (.laload, 1)) (hq : pc + 1 = q) (hk : k < 1048576) (hs : sh[k]? = some (2, 0, tm, ln)) (hi : inb x ln = true)
    (kk : WA γ M n q ls (.long (g k x.toNatClampNeg).toInt64 :: st) sh g tt b Φ) : WA γ M n pc ls (.int x :: .ref k :: st) sh g tt b Φ := by
  subst hq
  intro p e R s m args below meth c H locs cells slots Ls C hR ht9 hS hc9 hs9 hl
  obtain ⟨hx, hb, -, -, hown, -, -, -, -, -, hSF⟩ := id C
  show W p (gl γ) e R s m args below meth c H locs cells slots _ (F0 m pc Ls (.int x :: .ref (cr γ k) :: st.map (cv γ)))
  rw [cr_lo γ hk]
  exact va_lald hx hb hSF.1 hR.1 k 2 (wsO_at γ g hs) (tys_at γ).2.2.1 (inb_vp hi) hd (kk p e R s m args below meth c H locs cells slots Ls C hR ht9 hS hc9 hs9 hl)
/-- a text out of a row of texts -/
theorem w_aald {k ln r : Nat} {tm : List Nat} {x : Int32} (hd : decode M.2.1 pc = .ok (.aaload, 1)) (hq : pc + 1 = q) (hk : k < 1048576) (hs : sh[k]? = some (3, 0, tm, ln)) (hi : inb x ln = true) (hr : tm.getD x.toNatClampNeg 0 = r + 1)
    (kk : WA γ M n q ls (.ref r :: st) sh g tt b Φ) : WA γ M n pc ls (.int x :: .ref k :: st) sh g tt b Φ := by
  subst hq
  intro p e R s m args below meth c H locs cells slots Ls C hR ht9 hS hc9 hs9 hl
  obtain ⟨hx, hb, -, -, hown, -, -, -, -, -, hSF⟩ := id C
  show W p (gl γ) e R s m args below meth c H locs cells slots _ (F0 m pc Ls (.int x :: .ref (cr γ k) :: st.map (cv γ)))
  rw [cr_lo γ hk]
  refine va_aldq hx hb hSF.1 hR.1 k 3 (wsO_at γ g hs) (tys_at γ).2.2.2 (inb_vp hi) hd ?_
  simp only [hr, rt, va_rf]
  exact kk p e R s m args below meth c H locs cells slots Ls C hR ht9 hS hc9 hs9 hl
theorem w_iast {k ln : Nat} {tm : List Nat} {x v : Int32} {g' : Mem} (hd : decode M.2.1 pc = .ok (.iastore, 1)) (hq : pc + 1 = q) (hk : k < 1048576) (hs : sh[k]? = some (1, 0, tm, ln)) (hi : inb x ln = true) (hg : mset g k x.toNatClampNeg v = g')
    (kk : WA γ M n q ls st sh g' tt b Φ) : WA γ M n pc ls (.int v :: .int x :: .ref k :: st) sh g tt b Φ := by
  subst hq; subst hg
  intro p e R s m args below meth c H locs cells slots Ls C hR ht9 hS hc9 hs9 hl
  obtain ⟨hx, hb, -, -, hown, -, -, -, -, -, hSF⟩ := id C
  show W p (gl γ) e R s m args below meth c H locs cells slots _ (F0 m pc Ls (.int v :: .int x :: .ref (cr γ k) :: st.map (cv γ)))
  rw [cr_lo γ hk]
  refine va_iast hx hb hSF.1 hR.1 (wsO_D γ g sh) hS k 0 (wsO_at γ g hs) (tys_at γ).1 (inb_vp hi) hd ?_
  intro H1 locs1 hP1 hD1 hS1
  have e1 := wsO_set0 γ g (upd (g k) x.toNatClampNeg v) hs
  exact kk p e R s m args below meth c H1 locs1 cells slots Ls C (Rel.ofP (by unfold mset; rw [← e1]; exact hP1) hs) ht9 hS1 hc9 hs9 hl
theorem w_bast {k ln : Nat} {tm : List Nat} {x v : Int32} {g' : Mem} (hd : decode M.2.1 pc = .ok (.bastore, 1)) (hq : pc + 1 = q) (hk : k < 1048576) (hs : sh[k]? = some (1, 1, tm, ln)) (hi : inb x ln = true) (hg : mset g k x.toNatClampNeg v.toInt8.toInt32 = g')
    (kk : WA γ M n q ls st sh g' tt b Φ) : WA γ M n pc ls (.int v :: .int x :: .ref k :: st) sh g tt b Φ := by
  subst hq; subst hg
  intro p e R s m args below meth c H locs cells slots Ls C hR ht9 hS hc9 hs9 hl
  obtain ⟨hx, hb, -, -, hown, -, -, -, -, -, hSF⟩ := id C
  show W p (gl γ) e R s m args below meth c H locs cells slots _ (F0 m pc Ls (.int v :: .int x :: .ref (cr γ k) :: st.map (cv γ)))
  rw [cr_lo γ hk]
  refine va_bast hx hb hSF.1 hR.1 (wsO_D γ g sh) hS k 1 (wsO_at γ g hs) (tys_at γ).2.1 (inb_vp hi) hd ?_
  intro H1 locs1 hP1 hD1 hS1
  have e1 := wsO_set0 γ g (upd (g k) x.toNatClampNeg v.toInt8.toInt32) hs
  rw [vp_nar_byte] at hP1
  exact kk p e R s m args below meth c H1 locs1 cells slots Ls C (Rel.ofP (by unfold mset; rw [← e1]; exact hP1) hs) ht9 hS1 hc9 hs9 hl
theorem w_last {k ln : Nat} {tm : List Nat} {x v : Int32} {g' : Mem} {lv : Int64} (hd : decode M.2.1 pc = .ok (.lastore, 1)) (hq : pc + 1 = q) (hk : k < 1048576) (hs : sh[k]? = some (2, 0, tm, ln)) (hi : inb x ln = true) (hlv : v.toInt64 = lv) (hg : mset g k x.toNatClampNeg v = g')
    (kk : WA γ M n q ls st sh g' tt b Φ) : WA γ M n pc ls (.long lv :: .int x :: .ref k :: st) sh g tt b Φ := by
  subst hq; subst hg; subst hlv
  intro p e R s m args below meth c H locs cells slots Ls C hR ht9 hS hc9 hs9 hl
  obtain ⟨hx, hb, -, -, hown, -, -, -, -, -, hSF⟩ := id C
  show W p (gl γ) e R s m args below meth c H locs cells slots _ (F0 m pc Ls (.long v.toInt64 :: .int x :: .ref (cr γ k) :: st.map (cv γ)))
  rw [cr_lo γ hk]
  refine va_last hx hb hSF.1 hR.1 (wsO_D γ g sh) hS k 2 (wsO_at γ g hs) (tys_at γ).2.2.1 (inb_vp hi) hd ?_
  intro H1 locs1 hP1 hD1 hS1
  have e1 := wsO_set0 γ g (upd (g k) x.toNatClampNeg v) hs
  have e2 : (fun j => (upd (g k) x.toNatClampNeg v j).toInt64) = vp_updL (fun j => (g k j).toInt64) x.toNatClampNeg v.toInt64 := by
    funext j
    by_cases h : j = x.toNatClampNeg <;> simp [upd, vp_updL, h]
  exact kk p e R s m args below meth c H1 locs1 cells slots Ls C (Rel.ofP (by unfold mset; rw [← e1]; simp only [cellE, e2]; exact hP1) hs) ht9 hS1 hc9 hs9 hl
theorem w_alen {k kd t ln : Nat} {tm : List Nat} {v : Int32} (hd : decode M.2.1 pc = .ok (.arraylength, 1)) (hq : pc + 1 = q) (hk : k < 1048576) (hs : sh[k]? = some (kd, t, tm, ln)) (hkd : (kd = 1 ∧ (t = 0 ∨ t = 1)) ∨ kd = 3) (hv : Int32.ofNat ln = v)
    (kk : WA γ M n q ls (.int v :: st) sh g tt b Φ) : WA γ M n pc ls (.ref k :: st) sh g tt b Φ := by
  subst hq; subst hv
  intro p e R s m args below meth c H locs cells slots Ls C hR ht9 hS hc9 hs9 hl
  obtain ⟨hx, hb, -, -, hown, -, -, -, -, -, hSF⟩ := id C
  show W p (gl γ) e R s m args below meth c H locs cells slots _ (F0 m pc Ls (.ref (cr γ k) :: st.map (cv γ)))
  rw [cr_lo γ hk]
  have he := wsO_at γ g hs
  rcases hkd with ⟨rfl, rfl | rfl⟩ | rfl
  · exact va_alen (v := Int32.ofNat ln) hx hb hSF.1 hR.1 k 0 he (tys_at γ).1 rfl hd (kk p e R s m args below meth c H locs cells slots Ls C hR ht9 hS hc9 hs9 hl)
  · exact va_alen (v := Int32.ofNat ln) hx hb hSF.1 hR.1 k 1 he (tys_at γ).2.1 rfl hd (kk p e R s m args below meth c H locs cells slots Ls C hR ht9 hS hc9 hs9 hl)
  · exact va_alen (v := Int32.ofNat ln) hx hb hSF.1 hR.1 k 3 he (tys_at γ).2.2.2 rfl hd (kk p e R s m args below meth c H locs cells slots Ls C hR ht9 hS hc9 hs9 hl)
end Heap
end
section
/-! returns and calls -/
def pI (sh : List Sh) (r : Int32) (g1 : Mem) (tt : Bool) : PO := fun o s' g' t' => o = .inl (some (.int r)) ∧ s' = sh ∧ g' = g1 ∧ t' = tt
def pV (sh : List Sh) (g1 : Mem) (tt : Bool) : PO := fun o s' g' t' => o = .inl none ∧ s' = sh ∧ g' = g1 ∧ t' = tt
def pX (sh : List Sh) (E : String) (g1 : Mem) : PO := fun o s' g' t' => o = .inr E ∧ s' = sh ∧ g' = g1 ∧ t' = false
section Rets
variable {γ : GG} {M : MI} {n pc q : Nat} {ls : List (Option Value)} {st : List Value} {sh : List Sh} {g : Mem} {tt : Bool} {b : Nat × Nat} {Φ : PO}
theorem TT.of {s : State} {H : Heap} {cells : Nat} (hR : Rel γ sh g H) (h : TN γ tt sh s cells) (hz : H.size ≤ s.heap.size + cells) : TT γ tt sh H := by
  intro e
  have h1 := h e
  have h2 := hR.2
  omega
theorem w_ireturn {v : Int32} {ty : FieldType} (hd : decode M.2.1 pc = .ok (.ireturn, 1)) (hr : M.2.2.2.1 = some ty) (hn : narrow ty (.int v) = .int v) (hΦ : Φ (.inl (some (.int v))) sh g tt) : WA γ M n pc ls [.int v] sh g tt b Φ := by
  intro p e R s m args below meth c H locs cells slots Ls C hR ht9 hS hc9 hs9 hl T hT X
  obtain ⟨hx, hb, hrt, -, hown, hlocks, -, -, -, -, hSF⟩ := id C
  have hT2 : TT γ tt sh H := TT.of hR ht9 (by rw [← hT]; exact X.heapSize)
  exact (W.widen (k := cells + b.1) (n := slots + b.2) (Nat.le_add_right _ _) (Nat.le_add_right _ _) (vx_ret (W.zret (v := v) (ty := ty) hx hb (hrt.trans hr) hn (fun t ht hW => ⟨some (.int v), sh, g, tt, rfl, hΦ, by rw [ht]; exact hR, by rw [ht]; exact hT2, hS.F ht⟩) hS.2.2 hd hlocks))) T hT X
theorem w_return (hd : decode M.2.1 pc = .ok (.return_, 1)) (hr : M.2.2.2.1 = none) (hΦ : Φ (.inl none) sh g tt) : WA γ M n pc ls [] sh g tt b Φ := by
  intro p e R s m args below meth c H locs cells slots Ls C hR ht9 hS hc9 hs9 hl T hT X
  obtain ⟨hx, hb, hrt, -, hown, hlocks, -, -, -, -, hSF⟩ := id C
  have hT2 : TT γ tt sh H := TT.of hR ht9 (by rw [← hT]; exact X.heapSize)
  exact (W.widen (k := cells + b.1) (n := slots + b.2) (Nat.le_add_right _ _) (Nat.le_add_right _ _) (vx_ret (W.vret hx hb (hrt.trans hr) (fun t ht hW => ⟨none, sh, g, tt, rfl, hΦ, by rw [ht]; exact hR, by rw [ht]; exact hT2, hS.F ht⟩) hS.2.2 hd hlocks))) T hT X
/-- behind a call that returned -/
theorem run_ret {p : Program} {e : Env} {R : Room} {s : State} {m : MethodId} {args : Array Value} {below : List Frame} {meth : Method} {c : Code} {H : Heap} {locs : List Loc} {cells slots : Nat} {Ls : Array Slot} {b1 b2 : Nat × Nat} {st0 : List Value} {a : Array Value} {Φ1 : PO} {v : Option Value} {sh' : List Sh} {g' : Mem} {tt' : Bool}
    (hr : vx_Run p (gl γ) e R s m args below meth c H locs cells slots b1.1 b1.2 (F0 m pc Ls st0) (st.map (cv γ)) (QR γ Φ1 a) (QX γ Φ1) (gA γ)) (C : CX γ M n p e R s m args below meth c) (hS : va_S (gA γ) s.heap H locs) (ht9 : TN γ tt sh s cells) (hc9 : cells + b.1 ≤ R.cells) (hs9 : slots + b.2 ≤ R.slots) (hl : LH γ Ls M.2.2.1 ls)
    (hb : b = (b1.1 + b2.1, b1.2 + b2.2)) (hq : pc + 3 = q) (h1 : ∀ o s9 g9 t9, Φ1 o s9 g9 t9 → o = .inl v ∧ s9 = sh' ∧ g9 = g' ∧ t9 = tt') (htt : tt' = true → tt = true ∧ sh'.length = sh.length + b1.1)
    (kk : WA γ M n q ls (v.toList ++ st) sh' g' tt' b2 Φ) : W p (gl γ) e R s m args below meth c H locs cells slots (vx_MQ below (QR γ Φ) (QX γ Φ) args s (cells + b.1) (slots + b.2) (gA γ)) (F0 m pc Ls st0) := by
  subst hq; subst hb
  intro T hT X
  rcases hr T hT X with ⟨v9, st₀, t, T', L, h0, X', hL, e1, e2, ⟨w, s2, g2, t2, hv, hΦ, hER⟩, st1⟩ | ⟨q9, st₀, t, T', L, E, ce, h0, X', hL, e1, e2, ⟨s2, g2, t2, hΦ, hER⟩, hce, hcv, hcl, st1⟩
  · obtain ⟨hw, rfl, rfl, rfl⟩ := h1 _ _ _ _ hΦ
    cases hw
    cases hv
    obtain ⟨k1, k2, k3⟩ := vx_keep h0 e1 hS (fun _ _ h => h) (fun _ h => h) hL hER.2.2
    have := kk p e R s m args below meth c T'.heap (locs ++ L) (cells + b1.1) (slots + b1.2) Ls C (by rw [e1]; exact hER.1) (fun h => by
      obtain ⟨a1, a2⟩ := htt h
      have := ht9 a1
      omega) k3 (by rw [Nat.add_assoc]; exact hc9) (by rw [Nat.add_assoc]; exact hs9) hl
    rw [Nat.add_assoc, Nat.add_assoc] at this
    obtain ⟨t2, a1, b1⟩ := this T' rfl X'
    refine ⟨t2, st1 t2 ?_, b1⟩
    have e3 : List.map (cv γ) (v.toList ++ st) = (v.map (cv γ)).toList ++ st.map (cv γ) := by cases v <;> rfl
    rw [e3] at a1
    exact a1
  · obtain ⟨hw, -⟩ := h1 _ _ _ _ hΦ
    cases hw
/-- behind a call that threw, where nothing here catches it -/
theorem run_thr {p : Program} {e : Env} {R : Room} {s : State} {m : MethodId} {args : Array Value} {below : List Frame} {meth : Method} {c : Code} {H : Heap} {locs : List Loc} {cells slots : Nat} {Ls : Array Slot} {st0 rest : List Value} {a : Array Value} {Φ1 : PO} {E : String} {sh' : List Sh} {g' : Mem}
    (hr : vx_Run p (gl γ) e R s m args below meth c H locs cells slots b.1 b.2 (F0 m pc Ls st0) rest (QR γ Φ1 a) (QX γ Φ1) (gA γ)) (C : CX γ M n p e R s m args below meth c) (hS : va_S (gA γ) s.heap H locs)
    (h1 : ∀ o s9 g9 t9, Φ1 o s9 g9 t9 → o = .inr E ∧ s9 = sh' ∧ g9 = g' ∧ t9 = false) (hh : M.2.2.2.2 = [])
    (kk : Φ (.inr E) sh' g' false) : W p (gl γ) e R s m args below meth c H locs cells slots (vx_MQ below (QR γ Φ) (QX γ Φ) args s (cells + b.1) (slots + b.2) (gA γ)) (F0 m pc Ls st0) := by
  obtain ⟨hx, hb, hrt, -, hown, hlocks, -, htab, -, -, hSF⟩ := id C
  intro T hT X
  rcases hr T hT X with ⟨v9, st₀, t, T', L, h0, X', hL, e1, e2, ⟨w, s2, g2, t2, hv, hΦ, hER⟩, st1⟩ | ⟨q9, st₀, t, T', L, E9, ce, h0, X', hL, e1, e2, ⟨s2, g2, t2, hΦ, hER⟩, hce, hcv, hcl, st1⟩
  · obtain ⟨hw, -⟩ := h1 _ _ _ _ hΦ
    cases hw
  · obtain ⟨hw, rfl, rfl, rfl⟩ := h1 _ _ _ _ hΦ
    cases hw
    obtain ⟨k1, k2, k3⟩ := vx_keep h0 e1 hS (fun _ _ h => h) (fun _ h => h) hL hER.2.2
    obtain ⟨t2, a1, b1⟩ := vx_out (Qc := QR γ Φ) (XC := QX γ Φ) (free := gA γ) (pc := pc) (E := E) (ce := ce) (q := q9) (mc := cells + b.1) (ms := slots + b.2) (ls := Ls) (rest := rest) (H := T'.heap) (locs := locs ++ L) (cells := cells + b.1) (slots := slots + b.2) (by rw [htab, hh]; intro x hx; cases hx) hlocks (by rw [e1]; exact hce) hcv hcl
      (fun t9 ht9 hW9 => ⟨s2, g2, false, kk, by rw [ht9, e1]; exact hER.1, (fun h => by cases h), k3.F ht9⟩) k3.2.2 (Nat.le_refl _) (Nat.le_refl _) T' rfl X'
    exact ⟨t2, st1.trans a1, b1⟩
theorem cats (γ : GG) (st : List Value) : ((st.map (cv γ)).map fun v => v.category).sum = (st.map fun v => v.category).sum := by
  rw [List.map_map]
  congr 1
  apply List.map_congr_left
  intro v _
  exact cv_cat γ v
/-- what the caller brings to a call -/
theorem call_B {p : Program} {e : Env} {R : Room} {s : State} {m : MethodId} {args : Array Value} {below : List Frame} {meth : Method} {c : Code} {M' : MI} {n' np idx : Nat} {b1 : Nat × Nat} (C : CX γ M n p e R s m args below meth c) (hM : MWb M' np) (hh : M'.2.2.2.2 = []) (hn : n' + 1 ≤ n) (hml : M'.2.2.1 ≤ 180) (hw : Cond.methodLink M.1.cls idx M'.1 ∈ lwg) :
    CallB R s args M.1.cls idx M'.1 M'.2.1 M'.2.2.1 M'.2.2.2.1 [MWc M'] { frames := frN n', cells := b1.1, slots := b1.2, locals := loN n' } b1.1 b1.2 np := by
  obtain ⟨hx, hb, hrt, -, hown, hlocks, -, htab, hf, hlo, hSF⟩ := id C
  have e1 : MWc M' = Cond.code M'.1 M'.2.1 M'.2.2.1 M'.2.2.2.1 := if_pos hh
  have hcw : Cond.code M'.1 M'.2.1 M'.2.2.1 M'.2.2.2.1 ∈ lwg := by rw [← e1]; exact hM.1
  refine ⟨rfl, rfl, ?_, ?_, ?_, ?_, hSF.2.1 args _ hcw, hSF.2.1 args _ hM.2.1, ⟨hM.2.2.2.1, hM.2.2.2.2.1⟩, ?_, hSF.2.1 args _ hw⟩
  · simp only [frN] at *; omega
  · simp only [loN] at *; omega
  · intro w hw9 a' U hW
    rw [List.mem_singleton.mp hw9]
    exact gw_at (args := args) hW (List.mem_filter.mp hM.1).2 (hSF.2.1 args _ hM.1)
  · rw [e1]; exact List.mem_cons_self
  · intro sig h
    have h2 := hM.2.2.2.2.2
    rw [h] at h2
    exact (Option.some.inj h2).symm
theorem call_P {s : State} {H : Heap} {locs : List Loc} {av : List Value} {cells : Nat} (hSF : SF γ s) (hR : Rel γ sh g H) (hT2 : TT γ tt sh H) (hS : va_S (gA γ) s.heap H locs) : ∀ U : State, U.heap = H → s.WarmedH U.vm → PcA γ av sh g tt (av.map (cv γ)).toArray U := by
  intro U hU hW
  exact ⟨rfl, hSF.go hW (by rw [hU]; exact hS.1) (by rw [hU]; exact hS.2.1), by rw [hU]; exact hR, by rw [hU]; exact hT2⟩
theorem run_V {p : Program} {e : Env} {R : Room} {s : State} {m : MethodId} {args : Array Value} {below : List Frame} {meth : Method} {c : Code} {H : Heap} {locs : List Loc} {cells slots : Nat} {Ls : Array Slot} {M' : MI} {n' np idx k ci ln : Nat} {tm : List Nat} {b1 : Nat × Nat} {As S : List Value} {Φ1 : PO}
    (C : CX γ M n p e R s m args below meth c) (hR : Rel γ sh g H) (ht9 : TN γ tt sh s cells) (hS : va_S (gA γ) s.heap H locs) (hl : LH γ Ls M.2.2.1 ls) (hc9 : cells + b1.1 ≤ R.cells) (hs9 : slots + b1.2 ≤ R.slots) (hz : H.size ≤ s.heap.size + cells)
    (hd : decode M.2.1 pc = .ok (.invokevirtual idx, 3)) (hM : MWv M' np) (hn : n' + 1 ≤ n) (hml : M'.2.2.1 ≤ 180) (hw : Cond.methodLink M.1.cls idx M'.1 ∈ lwg) (hk : k < 1048576) (hs : sh[k]? = some (0, ci, tm, ln)) (hci : ci < 13) (hcl : xC ci = M'.1.cls) (hS9 : S = As.reverse ++ .ref k :: st) (hlen : As.length = np) (hcat : (st.map fun v => v.category).sum ≤ 8)
    (hC : CA γ M' n' (.ref k :: As) sh g tt b1 Φ1) :
    vx_Run p (gl γ) e R s m args below meth c H locs cells slots b1.1 b1.2 (F0 m pc Ls (S.map (cv γ))) (st.map (cv γ)) (QR γ Φ1 (Value.ref (cr γ k) :: As.map (cv γ)).toArray) (QX γ Φ1) (gA γ) := by
  obtain ⟨hx, hb, hrt, hmx, hown, hlocks, -, htab, hf, hlo, hSF⟩ := id C
  have hT2 : TT γ tt sh H := TT.of hR ht9 hz
  refine vx_runV (C := M'.1.cls) (b := cr γ k) (As := As.map (cv γ)) (rest := st.map (cv γ)) (nL := M.2.2.1) (Ts := lwg) ⟨hx, hb, hmx, hown, hSF.2.1 args⟩ (hC _ rfl rfl (Nat.le_refl _) (Nat.le_refl _)) ⟨call_B C hM.1 hM.2.1 hn hml hw, hSF.2.1 args _ hM.2.2.1, hSF.2.1 args _ hM.2.2.2⟩ ⟨PcA.blind, ?_, ?_⟩ rfl (by rw [List.length_map]; exact hlen) hl.1 ?_ ?_ hd ⟨hc9, hs9⟩
  · have := va_recv hSF.1 hR.1 (xcl_at ci hci) (wsO_at γ g hs)
    rw [cr_lo γ hk, ← hcl]
    exact this
  · exact call_P (av := .ref k :: As) (cells := cells) hSF hR hT2 hS
  · show S.map (cv γ) = _
    rw [hS9, List.map_append, List.map_reverse]
    rfl
  · show 2 * 0 + ((st.map (cv γ)).map fun v => v.category).sum ≤ 8
    rw [cats, Nat.mul_zero, Nat.zero_add]
    exact hcat
theorem run_S {p : Program} {e : Env} {R : Room} {s : State} {m : MethodId} {args : Array Value} {below : List Frame} {meth : Method} {c : Code} {H : Heap} {locs : List Loc} {cells slots : Nat} {Ls : Array Slot} {M' : MI} {n' np idx : Nat} {b1 : Nat × Nat} {As S : List Value} {Φ1 : PO}
    (C : CX γ M n p e R s m args below meth c) (hR : Rel γ sh g H) (ht9 : TN γ tt sh s cells) (hS : va_S (gA γ) s.heap H locs) (hl : LH γ Ls M.2.2.1 ls) (hc9 : cells + b1.1 ≤ R.cells) (hs9 : slots + b1.2 ≤ R.slots) (hz : H.size ≤ s.heap.size + cells)
    (hd : decode M.2.1 pc = .ok (.invokestatic idx, 3)) (hM : MWs M' np) (hn : n' + 1 ≤ n) (hml : M'.2.2.1 ≤ 180) (hw : Cond.methodLink M.1.cls idx M'.1 ∈ lwg) (hS9 : S = As.reverse ++ st) (hlen : As.length = np) (hcat : (st.map fun v => v.category).sum ≤ 8)
    (hC : CA γ M' n' As sh g tt b1 Φ1) :
    vx_Run p (gl γ) e R s m args below meth c H locs cells slots b1.1 b1.2 (F0 m pc Ls (S.map (cv γ))) (st.map (cv γ)) (QR γ Φ1 (As.map (cv γ)).toArray) (QX γ Φ1) (gA γ) := by
  obtain ⟨hx, hb, hrt, hmx, hown, hlocks, -, htab, hf, hlo, hSF⟩ := id C
  have hT2 : TT γ tt sh H := TT.of hR ht9 hz
  refine vx_runS (As := As.map (cv γ)) (rest := st.map (cv γ)) (nL := M.2.2.1) (Ts := lwg) ⟨hx, hb, hmx, hown, hSF.2.1 args⟩ (hC _ rfl rfl (Nat.le_refl _) (Nat.le_refl _)) ⟨call_B C hM.1 hM.2.1 hn hml hw, hSF.2.1 args _ hM.2.2⟩ ⟨PcA.blind, ?_⟩ rfl (by rw [List.length_map]; exact hlen) hl.1 ?_ ?_ hd ⟨hc9, hs9⟩
  · exact call_P (av := As) (cells := cells) hSF hR hT2 hS
  · show S.map (cv γ) = _
    rw [hS9, List.map_append, List.map_reverse]
  · show 2 * 0 + ((st.map (cv γ)).map fun v => v.category).sum ≤ 8
    rw [cats, Nat.mul_zero, Nat.zero_add]
    exact hcat
theorem w_callVi {M' : MI} {n' np idx k ci ln : Nat} {tm : List Nat} {As S : List Value} {g1 : Mem} {sh' : List Sh} {b1 b2 : Nat × Nat} {r : Int32} (hd : decode M.2.1 pc = .ok (.invokevirtual idx, 3)) (hq : pc + 3 = q) (hM : MWv M' np) (hn : n' + 1 ≤ n) (hml : M'.2.2.1 ≤ 180) (hw : Cond.methodLink M.1.cls idx M'.1 ∈ lwg) (hk : k < 1048576) (hs : sh[k]? = some (0, ci, tm, ln)) (hci : ci < 13) (hcl : xC ci = M'.1.cls) (hS9 : S = As.reverse ++ .ref k :: st) (hlen : As.length = np) (hcat : (st.map fun v => v.category).sum ≤ 8) (hb : b = (b1.1 + b2.1, b1.2 + b2.2)) (hlen9 : tt = true → sh'.length = sh.length + b1.1) (hC : CA γ M' n' (.ref k :: As) sh g tt b1 (pI sh' r g1 tt)) (kk : WA γ M n q ls (.int r :: st) sh' g1 tt b2 Φ) : WA γ M n pc ls S sh g tt b Φ := by
  intro p e R s m args below meth c H locs cells slots Ls C hR ht9 hS hc9 hs9 hl T hT X
  have hbc : cells + b1.1 ≤ R.cells := by rw [hb] at hc9; simp only [] at hc9; omega
  have hbs : slots + b1.2 ≤ R.slots := by rw [hb] at hs9; simp only [] at hs9; omega
  exact (run_ret (b1 := b1) (b2 := b2) (v := some (.int r)) (sh' := sh') (g' := g1) (tt' := tt) (run_V (M' := M') (n' := n') C hR ht9 hS hl hbc hbs (by rw [← hT]; exact X.heapSize) hd hM hn hml hw hk hs hci hcl hS9 hlen hcat hC) C hS ht9 hc9 hs9 hl hb hq (fun _ _ _ _ h => h) (fun h => ⟨h, hlen9 h⟩) kk) T hT X
theorem w_callVv {M' : MI} {n' np idx k ci ln : Nat} {tm : List Nat} {As S : List Value} {g1 : Mem} {sh' : List Sh} {b1 b2 : Nat × Nat} (hd : decode M.2.1 pc = .ok (.invokevirtual idx, 3)) (hq : pc + 3 = q) (hM : MWv M' np) (hn : n' + 1 ≤ n) (hml : M'.2.2.1 ≤ 180) (hw : Cond.methodLink M.1.cls idx M'.1 ∈ lwg) (hk : k < 1048576) (hs : sh[k]? = some (0, ci, tm, ln)) (hci : ci < 13) (hcl : xC ci = M'.1.cls) (hS9 : S = As.reverse ++ .ref k :: st) (hlen : As.length = np) (hcat : (st.map fun v => v.category).sum ≤ 8) (hb : b = (b1.1 + b2.1, b1.2 + b2.2)) (hlen9 : tt = true → sh'.length = sh.length + b1.1) (hC : CA γ M' n' (.ref k :: As) sh g tt b1 (pV sh' g1 tt)) (kk : WA γ M n q ls st sh' g1 tt b2 Φ) : WA γ M n pc ls S sh g tt b Φ := by
  intro p e R s m args below meth c H locs cells slots Ls C hR ht9 hS hc9 hs9 hl T hT X
  have hbc : cells + b1.1 ≤ R.cells := by rw [hb] at hc9; simp only [] at hc9; omega
  have hbs : slots + b1.2 ≤ R.slots := by rw [hb] at hs9; simp only [] at hs9; omega
  exact (run_ret (b1 := b1) (b2 := b2) (v := none) (sh' := sh') (g' := g1) (tt' := tt) (run_V (M' := M') (n' := n') C hR ht9 hS hl hbc hbs (by rw [← hT]; exact X.heapSize) hd hM hn hml hw hk hs hci hcl hS9 hlen hcat hC) C hS ht9 hc9 hs9 hl hb hq (fun _ _ _ _ h => h) (fun h => ⟨h, hlen9 h⟩) kk) T hT X
theorem w_callVx {M' : MI} {n' np idx k ci ln : Nat} {tm : List Nat} {As S : List Value} {g1 : Mem} {sh' : List Sh} {E : String} (hd : decode M.2.1 pc = .ok (.invokevirtual idx, 3)) (hM : MWv M' np) (hn : n' + 1 ≤ n) (hml : M'.2.2.1 ≤ 180) (hw : Cond.methodLink M.1.cls idx M'.1 ∈ lwg) (hk : k < 1048576) (hs : sh[k]? = some (0, ci, tm, ln)) (hci : ci < 13) (hcl : xC ci = M'.1.cls) (hS9 : S = As.reverse ++ .ref k :: st) (hlen : As.length = np) (hcat : (st.map fun v => v.category).sum ≤ 8) (hh : M.2.2.2.2 = []) (hC : CA γ M' n' (.ref k :: As) sh g tt b (pX sh' E g1)) (kk : Φ (.inr E) sh' g1 false) : WA γ M n pc ls S sh g tt b Φ := by
  intro p e R s m args below meth c H locs cells slots Ls C hR ht9 hS hc9 hs9 hl T hT X
  exact (run_thr (E := E) (sh' := sh') (g' := g1) (run_V (M' := M') (n' := n') C hR ht9 hS hl hc9 hs9 (by rw [← hT]; exact X.heapSize) hd hM hn hml hw hk hs hci hcl hS9 hlen hcat hC) C hS (fun _ _ _ _ h => h) hh kk) T hT X
theorem w_callSi {M' : MI} {n' np idx : Nat} {As S : List Value} {g1 : Mem} {sh' : List Sh} {b1 b2 : Nat × Nat} {r : Int32} (hd : decode M.2.1 pc = .ok (.invokestatic idx, 3)) (hq : pc + 3 = q) (hM : MWs M' np) (hn : n' + 1 ≤ n) (hml : M'.2.2.1 ≤ 180) (hw : Cond.methodLink M.1.cls idx M'.1 ∈ lwg) (hS9 : S = As.reverse ++ st) (hlen : As.length = np) (hcat : (st.map fun v => v.category).sum ≤ 8) (hb : b = (b1.1 + b2.1, b1.2 + b2.2)) (hlen9 : tt = true → sh'.length = sh.length + b1.1) (hC : CA γ M' n' As sh g tt b1 (pI sh' r g1 tt)) (kk : WA γ M n q ls (.int r :: st) sh' g1 tt b2 Φ) : WA γ M n pc ls S sh g tt b Φ := by
  intro p e R s m args below meth c H locs cells slots Ls C hR ht9 hS hc9 hs9 hl T hT X
  have hbc : cells + b1.1 ≤ R.cells := by rw [hb] at hc9; simp only [] at hc9; omega
  have hbs : slots + b1.2 ≤ R.slots := by rw [hb] at hs9; simp only [] at hs9; omega
  exact (run_ret (b1 := b1) (b2 := b2) (v := some (.int r)) (sh' := sh') (g' := g1) (tt' := tt) (run_S (M' := M') (n' := n') C hR ht9 hS hl hbc hbs (by rw [← hT]; exact X.heapSize) hd hM hn hml hw hS9 hlen hcat hC) C hS ht9 hc9 hs9 hl hb hq (fun _ _ _ _ h => h) (fun h => ⟨h, hlen9 h⟩) kk) T hT X
theorem w_callSv {M' : MI} {n' np idx : Nat} {As S : List Value} {g1 : Mem} {sh' : List Sh} {b1 b2 : Nat × Nat} (hd : decode M.2.1 pc = .ok (.invokestatic idx, 3)) (hq : pc + 3 = q) (hM : MWs M' np) (hn : n' + 1 ≤ n) (hml : M'.2.2.1 ≤ 180) (hw : Cond.methodLink M.1.cls idx M'.1 ∈ lwg) (hS9 : S = As.reverse ++ st) (hlen : As.length = np) (hcat : (st.map fun v => v.category).sum ≤ 8) (hb : b = (b1.1 + b2.1, b1.2 + b2.2)) (hlen9 : tt = true → sh'.length = sh.length + b1.1) (hC : CA γ M' n' As sh g tt b1 (pV sh' g1 tt)) (kk : WA γ M n q ls st sh' g1 tt b2 Φ) : WA γ M n pc ls S sh g tt b Φ := by
  intro p e R s m args below meth c H locs cells slots Ls C hR ht9 hS hc9 hs9 hl T hT X
  have hbc : cells + b1.1 ≤ R.cells := by rw [hb] at hc9; simp only [] at hc9; omega
  have hbs : slots + b1.2 ≤ R.slots := by rw [hb] at hs9; simp only [] at hs9; omega
  exact (run_ret (b1 := b1) (b2 := b2) (v := none) (sh' := sh') (g' := g1) (tt' := tt) (run_S (M' := M') (n' := n') C hR ht9 hS hl hbc hbs (by rw [← hT]; exact X.heapSize) hd hM hn hml hw hS9 hlen hcat hC) C hS ht9 hc9 hs9 hl hb hq (fun _ _ _ _ h => h) (fun h => ⟨h, hlen9 h⟩) kk) T hT X
theorem w_callSx {M' : MI} {n' np idx : Nat} {As S : List Value} {g1 : Mem} {sh' : List Sh} {E : String} (hd : decode M.2.1 pc = .ok (.invokestatic idx, 3)) (hM : MWs M' np) (hn : n' + 1 ≤ n) (hml : M'.2.2.1 ≤ 180) (hw : Cond.methodLink M.1.cls idx M'.1 ∈ lwg) (hS9 : S = As.reverse ++ st) (hlen : As.length = np) (hcat : (st.map fun v => v.category).sum ≤ 8) (hh : M.2.2.2.2 = []) (hC : CA γ M' n' As sh g tt b (pX sh' E g1)) (kk : Φ (.inr E) sh' g1 false) : WA γ M n pc ls S sh g tt b Φ := by
  intro p e R s m args below meth c H locs cells slots Ls C hR ht9 hS hc9 hs9 hl T hT X
  exact (run_thr (E := E) (sh' := sh') (g' := g1) (run_S (M' := M') (n' := n') C hR ht9 hS hl hc9 hs9 (by rw [← hT]; exact X.heapSize) hd hM hn hml hw hS9 hlen hcat hC) C hS (fun _ _ _ _ h => h) hh kk) T hT X
end Rets
end
section
/-! what is made: objects, rows; constructors' calls; texts; copies; throws; switches; the script -/
section Make
variable {γ : GG} {M : MI} {n pc q : Nat} {ls : List (Option Value)} {st : List Value} {sh : List Sh} {g : Mem} {tt : Bool} {b : Nat × Nat} {Φ : PO}
theorem new_addr {a : Nat} {E : va_E} {H1 : Heap} (hP : va_P (gD γ) xcl (wsO γ g sh 0 ++ [(a, E)]) H1) (hD : va_D (gA γ) (wsO γ g sh 0 ++ [(a, E)])) (hz : H1.size ≤ gz γ + sh.length + 1) : a = gz γ + sh.length := by
  have hlast : (wsO γ g sh 0 ++ [(a, E)])[sh.length]? = some (a, E) := by
    rw [List.getElem?_append_right (by rw [wsO_len]; omega), wsO_len, Nat.sub_self]
    rfl
  have h1 := (hP _ _ hlast).lt
  have h2 : gz γ ≤ a := hD.2 _ _ hlast
  simp only [] at h1
  rcases Nat.lt_or_ge a (gz γ + sh.length) with h | h
  · have hi : a - gz γ < sh.length := by omega
    obtain ⟨s9, hs9⟩ : ∃ s9, sh[a - gz γ]? = some s9 := ⟨_, List.getElem?_eq_getElem hi⟩
    have h3 : (wsO γ g sh 0 ++ [(a, E)])[a - gz γ]? = some (gz γ + (a - gz γ), cellE γ s9 (g (a - gz γ))) := by
      rw [List.getElem?_append_left (by rw [wsO_len]; omega)]
      exact wsO_at γ g hs9
    have := hD.1 _ _ _ _ h3 hlast (by simp only []; omega)
    omega
  · omega
theorem Rel.new {a : Nat} {s0 : Sh} {f : Nat → Int32} {H1 : Heap} (hP : va_P (gD γ) xcl (wsO γ g sh 0 ++ [(a, cellE γ s0 f)]) H1) (ha : a = gz γ + sh.length) : Rel γ (sh ++ [s0]) (mrow g sh.length f) H1 := by
  subst ha
  have e1 := wsO_app γ g s0 f sh
  exact Rel.ofP (k := sh.length) (s := s0) (by rw [e1]; exact hP) (by rw [List.getElem?_append_right (Nat.le_refl _), Nat.sub_self]; rfl)
theorem gA_top (γ : GG) {s : State} (h : gz γ ≤ s.heap.size) : ∀ q, s.heap.size ≤ q → gA γ q := fun _ h9 => Nat.le_trans h h9
theorem SF.z {s : State} (h : SF γ s) : gz γ ≤ s.heap.size := h.2.2.2.2.2.2.2.2.2.2.1
theorem w_new {i ci : Nat} {tm : List Nat} {b2 : Nat × Nat} {sh' : List Sh} {g' : Mem} (hd : decode M.2.1 pc = .ok (.new i, 3)) (hq : pc + 3 = q) (hci : ci < 13) (hwk : Cond.classLink M.1.cls i (xC ci) ∈ lwg) (hwn : Cond.instantiable (xC ci) (xN ci) ∈ lwg) (hwi : Cond.initialized (xC ci) ∈ lwg)
    (hdf : ∀ j, j < xN ci → tm[j]? = some (tm.getD j 2) ∧ tm.getD j 2 < 2 ∧ defaultValue (xy ci j) = fv (tm.getD j 2) 0) (hlt : sh.length < 1048576) (hb : b = (1 + b2.1, xN ci + b2.2)) (hsh : sh ++ [(0, ci, tm, 0)] = sh') (hg : mrow g sh.length (fun _ => 0) = g')
    (kk : WA γ M n q ls (.ref sh.length :: st) sh' g' true b2 Φ) : WA γ M n pc ls st sh g true b Φ := by
  subst hq; subst hb; subst hsh; subst hg
  intro p e R s m args below meth c H locs cells slots Ls C hR ht9 hS hc9 hs9 hl
  obtain ⟨hx, hbt, -, -, hown, -, -, -, -, -, hSF⟩ := id C
  simp only [] at hc9 hs9
  refine va_new (fs := cf γ (fun _ => 0) tm 0) hx hbt (hSF.2.1 args) (xin ci hci) (xy ci) (xty ci hci) hown (hSF.2.1 args _ hwk) (hSF.2.1 args _ hwn) (hSF.2.1 args _ hwi) hSF.1 hR.1 (wsO_D γ g sh) hS (gA_top γ hSF.z) (xcl_at ci hci) ?_ (by omega) (by omega) hd ?_
  · intro j hj
    obtain ⟨h1, h2, h3⟩ := hdf j hj
    rw [h3]
    generalize tm.getD j 2 = t at h1 h2
    have e5 : vp_V (cf γ (fun _ => 0) tm 0) j = tv γ t 0 := by
      simp only [vp_V, List.getD_eq_getElem?_getD, cf_get, h1, Option.map_some, Option.getD_some]
    rw [e5]
    match t, h2 with
    | 0, _ => rfl
    | 1, _ => rfl
  · intro a H1 hP1 hD1 hS1 T1 hT1 X1
    have hz1 := X1.heapSize
    rw [hT1] at hz1
    have h9 := ht9 rfl
    have ha := new_addr hP1 hD1 (by omega)
    have hR1 : Rel γ (sh ++ [(0, ci, tm, 0)]) (mrow g sh.length (fun _ => 0)) H1 := Rel.new (s0 := (0, ci, tm, 0)) hP1 ha
    have := kk p e R s m args below meth c H1 locs (cells + 1) (slots + xN ci) Ls C hR1 (fun _ => by rw [List.length_append]; simp only [List.length_cons, List.length_nil]; omega) hS1 (by omega) (by omega) hl
    rw [Nat.add_assoc, Nat.add_assoc] at this
    have e3 : (Value.ref sh.length :: st).map (cv γ) = .ref a :: st.map (cv γ) := by
      rw [ha, ← cr_lo γ hlt]; rfl
    rw [e3] at this
    exact this T1 hT1 X1
theorem w_newI {x : Int32} {N : Nat} {b2 : Nat × Nat} {sh' : List Sh} {g' : Mem} (hd : decode M.2.1 pc = .ok (.newarray .int, 2)) (hq : pc + 2 = q) (hx0 : ¬ x < 0) (hN : x.toNatClampNeg = N) (hNb : N ≤ 100000) (hlt : sh.length < 1048576) (hb : b = (1 + b2.1, N + b2.2)) (hsh : sh ++ [(1, 0, [], N)] = sh') (hg : mrow g sh.length (fun _ => 0) = g')
    (kk : WA γ M n q ls (.ref sh.length :: st) sh' g' true b2 Φ) : WA γ M n pc ls (.int x :: st) sh g true b Φ := by
  subst hq; subst hb; subst hsh; subst hg
  intro p e R s m args below meth c H locs cells slots Ls C hR ht9 hS hc9 hs9 hl
  obtain ⟨hx, hbt, -, -, hown, -, -, -, -, -, hSF⟩ := id C
  simp only [] at hc9 hs9
  refine va_newa (N' := N) (a0 := (N, .inl (fun _ => 0))) hx hbt (atype := .int) (ty := .int) (hSF.2.1 args _ wa_cls_int) rfl hSF.1 hR.1 (wsO_D γ g sh) hS (gA_top γ hSF.z) (fun cA => rfl) hx0 hN (by show N * 4 ≤ _; omega) (by omega) (by omega) hd ?_
  intro a cA H1 hK1 hP1 hD1 hS1 T1 hT1 X1
  have hz1 := X1.heapSize
  rw [hT1] at hz1
  have h9 := ht9 rfl
  have hcA : cA = gc γ 0 := by
    have h1 : s.vm.findClass ("[" ++ FieldType.int.toString) = some cA := (hK1.2 4 (cA, .int) rfl).2
    have h2 : s.vm.findClass ("[" ++ FieldType.int.toString) = some (gc γ 0) := (hSF.1.2 0 _ (tys_at γ).1).2
    exact Option.some.inj (h1.symm.trans h2)
  subst hcA
  have ha := new_addr hP1 hD1 (by omega)
  have hR1 : Rel γ (sh ++ [(1, 0, [], N)]) (mrow g sh.length (fun _ => 0)) H1 := Rel.new (s0 := (1, 0, [], N)) hP1 ha
  have := kk p e R s m args below meth c H1 locs (cells + 1) (slots + N) Ls C hR1 (fun _ => by rw [List.length_append]; simp only [List.length_cons, List.length_nil]; omega) hS1 (by omega) (by omega) hl
  rw [Nat.add_assoc, Nat.add_assoc] at this
  have e3 : (Value.ref sh.length :: st).map (cv γ) = .ref a :: st.map (cv γ) := by
    rw [ha, ← cr_lo γ hlt]; rfl
  rw [e3] at this
  exact this T1 hT1 X1
theorem w_newB {x : Int32} {N : Nat} {b2 : Nat × Nat} {sh' : List Sh} {g' : Mem} (hd : decode M.2.1 pc = .ok (.newarray .byte, 2)) (hq : pc + 2 = q) (hx0 : ¬ x < 0) (hN : x.toNatClampNeg = N) (hNb : N ≤ 100000) (hlt : sh.length < 1048576) (hb : b = (1 + b2.1, N + b2.2)) (hsh : sh ++ [(1, 1, [], N)] = sh') (hg : mrow g sh.length (fun _ => 0) = g')
    (kk : WA γ M n q ls (.ref sh.length :: st) sh' g' true b2 Φ) : WA γ M n pc ls (.int x :: st) sh g true b Φ := by
  subst hq; subst hb; subst hsh; subst hg
  intro p e R s m args below meth c H locs cells slots Ls C hR ht9 hS hc9 hs9 hl
  obtain ⟨hx, hbt, -, -, hown, -, -, -, -, -, hSF⟩ := id C
  simp only [] at hc9 hs9
  refine va_newa (N' := N) (a0 := (N, .inl (fun _ => 0))) hx hbt (atype := .byte) (ty := .byte) (hSF.2.1 args _ wa_cls_byte) rfl hSF.1 hR.1 (wsO_D γ g sh) hS (gA_top γ hSF.z) (fun cA => rfl) hx0 hN (by show N * 1 ≤ _; omega) (by omega) (by omega) hd ?_
  intro a cA H1 hK1 hP1 hD1 hS1 T1 hT1 X1
  have hz1 := X1.heapSize
  rw [hT1] at hz1
  have h9 := ht9 rfl
  have hcA : cA = gc γ 1 := by
    have h1 : s.vm.findClass ("[" ++ FieldType.byte.toString) = some cA := (hK1.2 4 (cA, .byte) rfl).2
    have h2 : s.vm.findClass ("[" ++ FieldType.byte.toString) = some (gc γ 1) := (hSF.1.2 1 _ (tys_at γ).2.1).2
    exact Option.some.inj (h1.symm.trans h2)
  subst hcA
  have ha := new_addr hP1 hD1 (by omega)
  have hR1 : Rel γ (sh ++ [(1, 1, [], N)]) (mrow g sh.length (fun _ => 0)) H1 := Rel.new (s0 := (1, 1, [], N)) hP1 ha
  have := kk p e R s m args below meth c H1 locs (cells + 1) (slots + N) Ls C hR1 (fun _ => by rw [List.length_append]; simp only [List.length_cons, List.length_nil]; omega) hS1 (by omega) (by omega) hl
  rw [Nat.add_assoc, Nat.add_assoc] at this
  have e3 : (Value.ref sh.length :: st).map (cv γ) = .ref a :: st.map (cv γ) := by
    rw [ha, ← cr_lo γ hlt]; rfl
  rw [e3] at this
  exact this T1 hT1 X1
theorem w_newL {x : Int32} {N : Nat} {b2 : Nat × Nat} {sh' : List Sh} {g' : Mem} (hd : decode M.2.1 pc = .ok (.newarray .long, 2)) (hq : pc + 2 = q) (hx0 : ¬ x < 0) (hN : x.toNatClampNeg = N) (hNb : N ≤ 100000) (hlt : sh.length < 1048576) (hb : b = (1 + b2.1, N + b2.2)) (hsh : sh ++ [(2, 0, [], N)] = sh') (hg : mrow g sh.length (fun _ => 0) = g')
    (kk : WA γ M n q ls (.ref sh.length :: st) sh' g' true b2 Φ) : WA γ M n pc ls (.int x :: st) sh g true b Φ := by
  subst hq; subst hb; subst hsh; subst hg
  intro p e R s m args below meth c H locs cells slots Ls C hR ht9 hS hc9 hs9 hl
  obtain ⟨hx, hbt, -, -, hown, -, -, -, -, -, hSF⟩ := id C
  simp only [] at hc9 hs9
  refine va_newa (N' := N) (a0 := (N, .inr (.inl (fun _ => 0)))) hx hbt (atype := .long) (ty := .long) (hSF.2.1 args _ wa_cls_long) rfl hSF.1 hR.1 (wsO_D γ g sh) hS (gA_top γ hSF.z) (fun cA => rfl) hx0 hN (by show N * 8 ≤ _; omega) (by omega) (by omega) hd ?_
  intro a cA H1 hK1 hP1 hD1 hS1 T1 hT1 X1
  have hz1 := X1.heapSize
  rw [hT1] at hz1
  have h9 := ht9 rfl
  have hcA : cA = gc γ 2 := by
    have h1 : s.vm.findClass ("[" ++ FieldType.long.toString) = some cA := (hK1.2 4 (cA, .long) rfl).2
    have h2 : s.vm.findClass ("[" ++ FieldType.long.toString) = some (gc γ 2) := (hSF.1.2 2 _ (tys_at γ).2.2.1).2
    exact Option.some.inj (h1.symm.trans h2)
  subst hcA
  have ha := new_addr hP1 hD1 (by omega)
  have hR1 : Rel γ (sh ++ [(2, 0, [], N)]) (mrow g sh.length (fun _ => 0)) H1 := Rel.new (s0 := (2, 0, [], N)) (f := fun _ => 0) hP1 ha
  have := kk p e R s m args below meth c H1 locs (cells + 1) (slots + N) Ls C hR1 (fun _ => by rw [List.length_append]; simp only [List.length_cons, List.length_nil]; omega) hS1 (by omega) (by omega) hl
  rw [Nat.add_assoc, Nat.add_assoc] at this
  have e3 : (Value.ref sh.length :: st).map (cv γ) = .ref a :: st.map (cv γ) := by
    rw [ha, ← cr_lo γ hlt]; rfl
  rw [e3] at this
  exact this T1 hT1 X1
/-- a row of texts -/
theorem w_newS {i : Nat} {x : Int32} {N : Nat} {b2 : Nat × Nat} {sh' : List Sh} {g' : Mem} (hd : decode M.2.1 pc = .ok (.anewarray i, 3)) (hq : pc + 3 = q) (hwk : Cond.classLink M.1.cls i "java/lang/String" ∈ lwg) (hx0 : ¬ x < 0) (hN : x.toNatClampNeg = N) (hNb : N ≤ 100000) (hlt : sh.length < 1048576) (hb : b = (1 + b2.1, N + b2.2)) (hsh : sh ++ [(3, 0, [], N)] = sh') (hg : mrow g sh.length (fun _ => 0) = g')
    (kk : WA γ M n q ls (.ref sh.length :: st) sh' g' true b2 Φ) : WA γ M n pc ls (.int x :: st) sh g true b Φ := by
  subst hq; subst hb; subst hsh; subst hg
  intro p e R s m args below meth c H locs cells slots Ls C hR ht9 hS hc9 hs9 hl
  obtain ⟨hx, hbt, -, -, hown, -, -, -, -, -, hSF⟩ := id C
  simp only [] at hc9 hs9
  refine va_newq (N' := N) hx hbt hown (hSF.2.1 args _ hwk) hSF.2.2.2.2.2.2.2.2.1 hSF.1 hR.1 (wsO_D γ g sh) hS (gA_top γ hSF.z) hx0 hN (by omega) (by omega) (by omega) hd ?_
  intro a cA H1 hK1 hP1 hD1 hS1 T1 hT1 X1
  have hz1 := X1.heapSize
  rw [hT1] at hz1
  have h9 := ht9 rfl
  have hcA : cA = gc γ 3 := by
    obtain ⟨_, _, -, -, -, h1⟩ := (hK1.2 4 (cA, .object "java/lang/String") rfl).2
    obtain ⟨_, _, -, -, -, h2⟩ := (hSF.1.2 3 _ (tys_at γ).2.2.2).2
    exact Option.some.inj (h1.symm.trans h2)
  subst hcA
  have ha := new_addr hP1 hD1 (by omega)
  have hR1 : Rel γ (sh ++ [(3, 0, [], N)]) (mrow g sh.length (fun _ => 0)) H1 := Rel.new (s0 := (3, 0, [], N)) (f := fun _ => 0) hP1 ha
  have := kk p e R s m args below meth c H1 locs (cells + 1) (slots + N) Ls C hR1 (fun _ => by rw [List.length_append]; simp only [List.length_cons, List.length_nil]; omega) hS1 (by omega) (by omega) hl
  rw [Nat.add_assoc, Nat.add_assoc] at this
  have e3 : (Value.ref sh.length :: st).map (cv γ) = .ref a :: st.map (cv γ) := by
    rw [ha, ← cr_lo γ hlt]; rfl
  rw [e3] at this
  exact this T1 hT1 X1
/-- a text is put behind the others of a row -/
theorem w_aast {k ln j : Nat} {tm : List Nat} {x : Int32} {sh' : List Sh} (hd : decode M.2.1 pc = .ok (.aastore, 1)) (hq : pc + 1 = q) (hk : k < 1048576) (hs : sh[k]? = some (3, 0, tm, ln)) (hi : inb x ln = true) (hx9 : x.toNatClampNeg = tm.length) (hj : j < 39) (hsh : sh.set k (3, 0, tm ++ [1048576 + j + 1], ln) = sh')
    (kk : WA γ M n q ls st sh' g tt b Φ) : WA γ M n pc ls (.ref (1048576 + j) :: .int x :: .ref k :: st) sh g tt b Φ := by
  subst hq; subst hsh
  intro p e R s m args below meth c H locs cells slots Ls C hR ht9 hS hc9 hs9 hl
  obtain ⟨hx, hb, -, -, hown, -, -, -, -, -, hSF⟩ := id C
  have hcr : cr γ (1048576 + j) = gK γ j := by unfold cr; rw [if_neg (by omega), if_pos (by omega), Nat.add_sub_cancel_left]
  show W p (gl γ) e R s m args below meth c H locs cells slots _ (F0 m pc Ls (.ref (cr γ (1048576 + j)) :: .int x :: .ref (cr γ k) :: st.map (cv γ)))
  rw [cr_lo γ hk]
  refine vb_astq (E := "java/lang/String") (C := "java/lang/String") hx hb hSF.1 hR.1 (wsO_D γ g sh) hS k 3 (wsO_at γ g hs) (tys_at γ).2.2.2 (by rw [hcr]; exact vk_recv hSF.2.2.2.2.1 hj hS) vb_asgS (inb_vp hi) hd ?_
  intro H1 locs1 hP1 hD1 hS1
  have hlt := (List.getElem?_eq_some_iff.mp hs).1
  have e2 : mrow g k (g k) = g := by
    funext k'
    by_cases h : k' = k
    · subst h; exact mrow_self _ _ _
    · exact mrow_other _ _ h
  have e1 := wsO_set γ g (3, 0, tm ++ [1048576 + j + 1], ln) (g k) hlt
  rw [e2] at e1
  have e4 : cellE γ (3, 0, tm ++ [1048576 + j + 1], ln) (g k) = .inl (gc γ 3, ln, .inr (.inr (.inr (.inr (va_up (fun j => rt γ (tm.getD j 0)) x.toNatClampNeg (some (cr γ (1048576 + j)))))))) := by
    simp only [cellE]
    congr 7
    funext i
    rw [hx9]
    by_cases h : i = tm.length
    · subst h
      simp [va_up, rt]
    · simp only [va_up, h, if_false]
      rcases Nat.lt_or_ge i tm.length with h2 | h2
      · simp [List.getD_eq_getElem?_getD, List.getElem?_append_left h2]
      · have h3 : (tm ++ [1048576 + j + 1]).length ≤ i := by simp; omega
        simp [List.getD_eq_getElem?_getD, List.getElem?_eq_none h3, List.getElem?_eq_none h2]
  have hs2 : (sh.set k (3, 0, tm ++ [1048576 + j + 1], ln))[k]? = some (3, 0, tm ++ [1048576 + j + 1], ln) := by rw [List.getElem?_set, if_pos rfl, if_pos hlt]
  exact kk p e R s m args below meth c H1 locs1 cells slots Ls C (Rel.ofP (by rw [← e1, e4]; exact hP1) hs2) (fun h => by rw [List.length_set]; exact ht9 h) hS1 hc9 hs9 hl
end Make
end
section
/-! constructors' calls; nest mates; copies; throws and catches; texts; the script; switches -/
section More
variable {γ : GG} {M : MI} {n pc q : Nat} {ls : List (Option Value)} {st : List Value} {sh : List Sh} {g : Mem} {tt : Bool} {b : Nat × Nat} {Φ : PO}
theorem met_of {M' : MI} {rm : Room} {Pc : Array Value → State → Prop} {Φ1 : PO} {mc ms : Nat} (h : vx_Met (gl γ) M'.1 [MWc M'] rm Pc (QR γ Φ1) (QX γ Φ1) mc ms (gA γ)) (hno : ∀ E s9 g9 t9, ¬ Φ1 (.inr E) s9 g9 t9) : Met (gl γ) M'.1 [MWc M'] rm Pc (QR γ Φ1) mc ms (gA γ) := by
  intro p e ha hc hk s m args below h1 h2 h3 h4
  obtain ⟨k, o, a1, a2, a3, a4⟩ := h p e ha hc hk s m args below h1 h2 h3 h4
  refine ⟨k, o, a1, a2, a3, ?_⟩
  rcases a4 with a4 | ⟨q9, -, E, ce, L, ⟨s9, g9, t9, hΦ, -⟩, -⟩
  · exact a4
  · exact absurd hΦ (hno E s9 g9 t9)
theorem va_to_vx {p : Program} {l : Launch} {e : Env} {R : Room} {s : State} {m : MethodId} {args : Array Value} {below : List Frame} {meth : Method} {c : Code} {H : Heap} {locs : List Loc} {cells slots mc ms : Nat} {f : JFrame} {rest : List Value} {Qa : State → Outcome → State → Prop} {XC : String → State → State → Prop} {free : Addr → Prop}
    (h : va_Run p l e R s m args below meth c H locs cells slots mc ms f rest Qa free) : vx_Run p l e R s m args below meth c H locs cells slots mc ms f rest Qa XC free := fun T hT X => Or.inl (h T hT X)
theorem w_objInit {idx k : Nat} (hd : decode M.2.1 pc = .ok (.invokespecial idx, 3)) (hq : pc + 3 = q) (hw : Cond.methodLink M.1.cls idx Lib.objectInit ∈ lwg) (hw2 : Cond.instanceMethod Lib.objectInit ∈ lwg) (hw3 : Cond.code Lib.objectInit ⟨#[0xb1]⟩ 1 none ∈ lwg) (hcat : (st.map fun v => v.category).sum ≤ 8) (kk : WA γ M n q ls st sh g tt b Φ) : WA γ M n pc ls (.ref k :: st) sh g tt b Φ := by
  subst hq
  intro p e R s m args below meth c H locs cells slots Ls C hR ht9 hS hc9 hs9 hl
  obtain ⟨hx, hb, hrt, hmx, hown, hlocks, -, htab, hf, hlo, hSF⟩ := id C
  refine W.objInit (a := cr γ k) (rest := st.map (cv γ)) hx hb hown (hSF.2.1 args _ hw) (hSF.2.1 args _ hw2) (hSF.2.1 args _ hw3) rfl (hl.1.trans hmx.symm) rfl hd (by simp only [frN] at hf; omega) ?_ ?_
  · show 2 * 0 + ((st.map (cv γ)).map fun v => v.category).sum + 12 ≤ R.locals
    rw [cats]
    simp only [loN] at hlo
    omega
  · exact kk p e R s m args below meth c H locs cells slots Ls C hR ht9 hS hc9 hs9 hl
theorem w_callI {M' : MI} {n' np idx k : Nat} {As S : List Value} {g1 : Mem} {sh' : List Sh} {b1 b2 : Nat × Nat} (hd : decode M.2.1 pc = .ok (.invokespecial idx, 3)) (hq : pc + 3 = q) (hM : MWi M' np) (hn : n' + 1 ≤ n) (hml : M'.2.2.1 ≤ 180) (hw : Cond.methodLink M.1.cls idx M'.1 ∈ lwg) (hS9 : S = As.reverse ++ .ref k :: st) (hlen : As.length = np) (hcat : (st.map fun v => v.category).sum ≤ 8) (hb : b = (b1.1 + b2.1, b1.2 + b2.2)) (hlen9 : tt = true → sh'.length = sh.length + b1.1) (hC : CA γ M' n' (.ref k :: As) sh g tt b1 (pV sh' g1 tt)) (kk : WA γ M n q ls st sh' g1 tt b2 Φ) : WA γ M n pc ls S sh g tt b Φ := by
  intro p e R s m args below meth c H locs cells slots Ls C hR ht9 hS hc9 hs9 hl T hT X
  have hbc : cells + b1.1 ≤ R.cells := by rw [hb] at hc9; simp only [] at hc9; omega
  have hbs : slots + b1.2 ≤ R.slots := by rw [hb] at hs9; simp only [] at hs9; omega
  obtain ⟨hx, hbt, hrt, hmx, hown, hlocks, -, htab, hf, hlo, hSF⟩ := id C
  have hT2 : TT γ tt sh H := TT.of hR ht9 (by rw [← hT]; exact X.heapSize)
  have hB := call_B (b1 := b1) C hM.1 hM.2.1 hn hml hw
  rw [hM.2.2.2.2] at hB
  refine (run_ret (b1 := b1) (b2 := b2) (v := none) (sh' := sh') (g' := g1) (tt' := tt) (va_to_vx (va_runI (b := cr γ k) (As := As.map (cv γ)) (rest := st.map (cv γ)) (nL := M.2.2.1) (Ts := lwg) ⟨hx, hbt, hmx, hown, hSF.2.1 args⟩ (met_of (hC _ rfl rfl (Nat.le_refl _) (Nat.le_refl _)) (fun E s9 g9 t9 h => by cases h.1)) ⟨hB, hM.2.2.2.1, hSF.2.1 args _ hM.2.2.1⟩ ⟨PcA.blind, call_P (av := .ref k :: As) (cells := cells) hSF hR hT2 hS⟩ rfl (by rw [List.length_map]; exact hlen) hl.1 ?_ ?_ hd ⟨hbc, hbs⟩)) C hS ht9 hc9 hs9 hl hb hq (fun _ _ _ _ h => h) (fun h => ⟨h, hlen9 h⟩) kk) T hT X
  · show S.map (cv γ) = _
    rw [hS9, List.map_append, List.map_reverse]
    rfl
  · show 2 * 0 + ((st.map (cv γ)).map fun v => v.category).sum ≤ 8
    rw [cats, Nat.mul_zero, Nat.zero_add]
    exact hcat
theorem call_N {p : Program} {e : Env} {R : Room} {s : State} {m : MethodId} {args : Array Value} {below : List Frame} {meth : Method} {c : Code} {M' : MI} {n' np idx : Nat} {host : String} {b1 : Nat × Nat} (C : CX γ M n p e R s m args below meth c) (hM : MWb M' np) (hh : M'.2.2.2.2 = []) (hn : n' + 1 ≤ n) (hml : M'.2.2.1 ≤ 180) (hw : (M.1.cls, idx, M'.1, host) ∈ nestL) :
    va_CN R s args M.1.cls idx M'.1 host M'.2.1 M'.2.2.1 M'.2.2.2.1 [MWc M'] { frames := frN n', cells := b1.1, slots := b1.2, locals := loN n' } b1.1 b1.2 np := by
  obtain ⟨hx, hb, hrt, -, hown, hlocks, -, htab, hf, hlo, hSF⟩ := id C
  have e1 : MWc M' = Cond.code M'.1 M'.2.1 M'.2.2.1 M'.2.2.2.1 := if_pos hh
  have hcw : Cond.code M'.1 M'.2.1 M'.2.2.1 M'.2.2.2.1 ∈ lwg := by rw [← e1]; exact hM.1
  refine ⟨⟨rfl, rfl, ?_, ?_, ?_, ?_⟩, hSF.2.1 args _ hcw, hSF.2.1 args _ hM.2.1, ⟨hM.2.2.2.1, hM.2.2.2.2.1⟩, ?_, va_Nw.use rfl (hSF.2.2.1 _ hw)⟩
  · simp only [frN] at *; omega
  · simp only [loN] at *; omega
  · intro w hw9 a' U hW
    rw [List.mem_singleton.mp hw9]
    exact gw_at (args := args) hW (List.mem_filter.mp hM.1).2 (hSF.2.1 args _ hM.1)
  · rw [e1]; exact List.mem_cons_self
  · intro sig h
    have h2 := hM.2.2.2.2.2
    rw [h] at h2
    exact (Option.some.inj h2).symm
theorem w_callIN {M' : MI} {n' np idx k : Nat} {host : String} {As S : List Value} {g1 : Mem} {sh' : List Sh} {b1 b2 : Nat × Nat} (hd : decode M.2.1 pc = .ok (.invokespecial idx, 3)) (hq : pc + 3 = q) (hM : MWi M' np) (hn : n' + 1 ≤ n) (hml : M'.2.2.1 ≤ 180) (hw : (M.1.cls, idx, M'.1, host) ∈ nestL) (hS9 : S = As.reverse ++ .ref k :: st) (hlen : As.length = np) (hcat : (st.map fun v => v.category).sum ≤ 8) (hb : b = (b1.1 + b2.1, b1.2 + b2.2)) (hlen9 : tt = true → sh'.length = sh.length + b1.1) (hC : CA γ M' n' (.ref k :: As) sh g tt b1 (pV sh' g1 tt)) (kk : WA γ M n q ls st sh' g1 tt b2 Φ) : WA γ M n pc ls S sh g tt b Φ := by
  intro p e R s m args below meth c H locs cells slots Ls C hR ht9 hS hc9 hs9 hl T hT X
  have hbc : cells + b1.1 ≤ R.cells := by rw [hb] at hc9; simp only [] at hc9; omega
  have hbs : slots + b1.2 ≤ R.slots := by rw [hb] at hs9; simp only [] at hs9; omega
  obtain ⟨hx, hbt, hrt, hmx, hown, hlocks, -, htab, hf, hlo, hSF⟩ := id C
  have hT2 : TT γ tt sh H := TT.of hR ht9 (by rw [← hT]; exact X.heapSize)
  have hB := call_N (b1 := b1) C hM.1 hM.2.1 hn hml hw
  rw [hM.2.2.2.2] at hB
  refine (run_ret (b1 := b1) (b2 := b2) (v := none) (sh' := sh') (g' := g1) (tt' := tt) (va_to_vx (va_runIN (b := cr γ k) (As := As.map (cv γ)) (rest := st.map (cv γ)) (nL := M.2.2.1) (Ts := lwg) ⟨hx, hbt, hmx, hown, hSF.2.1 args⟩ (met_of (hC _ rfl rfl (Nat.le_refl _) (Nat.le_refl _)) (fun E s9 g9 t9 h => by cases h.1)) ⟨hB, hM.2.2.2.1, hSF.2.1 args _ hM.2.2.1⟩ ⟨PcA.blind, call_P (av := .ref k :: As) (cells := cells) hSF hR hT2 hS⟩ rfl (by rw [List.length_map]; exact hlen) hl.1 ?_ ?_ hd ⟨hbc, hbs⟩)) C hS ht9 hc9 hs9 hl hb hq (fun _ _ _ _ h => h) (fun h => ⟨h, hlen9 h⟩) kk) T hT X
  · show S.map (cv γ) = _
    rw [hS9, List.map_append, List.map_reverse]
    rfl
  · show 2 * 0 + ((st.map (cv γ)).map fun v => v.category).sum ≤ 8
    rw [cats, Nat.mul_zero, Nat.zero_add]
    exact hcat
theorem w_callNi {M' : MI} {n' np idx : Nat} {host : String} {As S : List Value} {r : Int32} {g1 : Mem} {sh' : List Sh} {b1 b2 : Nat × Nat} (hd : decode M.2.1 pc = .ok (.invokestatic idx, 3)) (hq : pc + 3 = q) (hM : MWs M' np) (hn : n' + 1 ≤ n) (hml : M'.2.2.1 ≤ 180) (hw : (M.1.cls, idx, M'.1, host) ∈ nestL) (hS9 : S = As.reverse ++ st) (hlen : As.length = np) (hcat : (st.map fun v => v.category).sum ≤ 8) (hb : b = (b1.1 + b2.1, b1.2 + b2.2)) (hlen9 : tt = true → sh'.length = sh.length + b1.1) (hC : CA γ M' n' As sh g tt b1 (pI sh' r g1 tt)) (kk : WA γ M n q ls (.int r :: st) sh' g1 tt b2 Φ) : WA γ M n pc ls S sh g tt b Φ := by
  intro p e R s m args below meth c H locs cells slots Ls C hR ht9 hS hc9 hs9 hl T hT X
  have hbc : cells + b1.1 ≤ R.cells := by rw [hb] at hc9; simp only [] at hc9; omega
  have hbs : slots + b1.2 ≤ R.slots := by rw [hb] at hs9; simp only [] at hs9; omega
  obtain ⟨hx, hbt, hrt, hmx, hown, hlocks, -, htab, hf, hlo, hSF⟩ := id C
  have hT2 : TT γ tt sh H := TT.of hR ht9 (by rw [← hT]; exact X.heapSize)
  have hB := call_N (b1 := b1) C hM.1 hM.2.1 hn hml hw
  refine (run_ret (b1 := b1) (b2 := b2) (v := some (.int r)) (sh' := sh') (g' := g1) (tt' := tt) (va_to_vx (va_runSN (As := As.map (cv γ)) (rest := st.map (cv γ)) (nL := M.2.2.1) (Ts := lwg) ⟨hx, hbt, hmx, hown, hSF.2.1 args⟩ (met_of (hC _ rfl rfl (Nat.le_refl _) (Nat.le_refl _)) (fun E s9 g9 t9 h => by cases h.1)) ⟨hB, hSF.2.1 args _ hM.2.2, trivial⟩ ⟨PcA.blind, call_P (av := As) (cells := cells) hSF hR hT2 hS⟩ rfl (by rw [List.length_map]; exact hlen) hl.1 ?_ ?_ hd ⟨hbc, hbs⟩)) C hS ht9 hc9 hs9 hl hb hq (fun _ _ _ _ h => h) (fun h => ⟨h, hlen9 h⟩) kk) T hT X
  · show S.map (cv γ) = _
    rw [hS9, List.map_append, List.map_reverse]
  · show 2 * 0 + ((st.map (cv γ)).map fun v => v.category).sum ≤ 8
    rw [cats, Nat.mul_zero, Nat.zero_add]
    exact hcat
/-- a copy of a stretch of a row -/
def cpk (sp dp m : Int32) (n0 n1 : Nat) : Bool := !(decide (sp < 0)) && (!(decide (dp < 0)) && (!(decide (m < 0)) && (decide (sp.toNatClampNeg + m.toNatClampNeg ≤ n0) && decide (dp.toNatClampNeg + m.toNatClampNeg ≤ n1))))
theorem w_copy {idx k0 k1 n0 n1 : Nat} {tm0 tm1 : List Nat} {sp dp len : Int32} {g' : Mem} (hd : decode M.2.1 pc = .ok (.invokestatic idx, 3)) (hq : pc + 3 = q) (hw : Cond.methodLink M.1.cls idx arraycopyName ∈ lwg) (hwn : Cond.native arraycopyName ∈ lwg) (hws : Cond.static arraycopyName ∈ lwg) (hwi : Cond.initialized "java/lang/System" ∈ lwg) (hk0 : k0 < 1048576) (hk1 : k1 < 1048576) (hs0 : sh[k0]? = some (1, 0, tm0, n0)) (hs1 : sh[k1]? = some (1, 0, tm1, n1)) (hck : cpk sp dp len n0 n1 = true) (hcat : (st.map fun v => v.category).sum ≤ 8)
    (hg : mrow g k1 (va_cpy (g k0) (g k1) sp.toNatClampNeg dp.toNatClampNeg len.toNatClampNeg) = g') (kk : WA γ M n q ls st sh g' tt b Φ) : WA γ M n pc ls (.int len :: .int dp :: .ref k1 :: .int sp :: .ref k0 :: st) sh g tt b Φ := by
  subst hq; subst hg
  intro p e R s m args below meth c H locs cells slots Ls C hR ht9 hS hc9 hs9 hl
  obtain ⟨hx, hb, hrt, hmx, hown, hlocks, -, htab, hf, hlo, hSF⟩ := id C
  simp only [cpk, Bool.and_eq_true, Bool.not_eq_true', decide_eq_false_iff_not, decide_eq_true_eq] at hck
  obtain ⟨c1, c2, c3, c4, c5⟩ := hck
  show W p (gl γ) e R s m args below meth c H locs cells slots _ (F0 m pc Ls (.int len :: .int dp :: .ref (cr γ k1) :: .int sp :: .ref (cr γ k0) :: st.map (cv γ)))
  rw [cr_lo γ hk0, cr_lo γ hk1]
  refine va_copyi hx hb (hmx.trans hl.1.symm) hown (hSF.2.1 args _ hw) (hSF.2.1 args _ hwn) (hSF.2.1 args _ hws) (hSF.2.1 args _ hwi) hSF.1 hR.1 (wsO_D γ g sh) hS k0 k1 0 0 (wsO_at γ g hs0) (wsO_at γ g hs1) (tys_at γ).1 (tys_at γ).1 rfl c1 c2 c3 c4 c5 (fun _ _ => rfl) (by simp only [frN] at hf; omega) ?_ hd ?_
  · rw [cats]
    have e0 : nativeFrameWords "java/lang/System" "arraycopy" 5 = 7 := by decide
    rw [e0]
    simp only [loN] at hlo
    omega
  · intro H1 locs1 hP1 hD1 hS1
    have e1 := wsO_set0 γ g (va_cpy (g k0) (g k1) sp.toNatClampNeg dp.toNatClampNeg len.toNatClampNeg) hs1
    exact kk p e R s m args below meth c H1 locs1 cells slots Ls C (Rel.ofP (by rw [← e1]; exact hP1) hs1) ht9 hS1 hc9 hs9 hl
/-- the script -/
theorem w_slen {v : Int32} (hd : decode M.2.1 pc = .ok (.arraylength, 1)) (hq : pc + 1 = q) (hv : Int32.ofNat (gS γ).2.1 = v) (kk : WA γ M n q ls (.int v :: st) sh g tt b Φ) : WA γ M n pc ls (.ref 2097152 :: st) sh g tt b Φ := by
  subst hq; subst hv
  intro p e R s m args below meth c H locs cells slots Ls C hR ht9 hS hc9 hs9 hl
  obtain ⟨hx, hb, hrt, hmx, hown, hlocks, -, htab, hf, hlo, hSF⟩ := id C
  obtain ⟨-, -, -, -, -, -, -, -, -, hX, hz, hlt, -⟩ := id hSF
  exact va_slen hx hb hX (Nat.lt_of_lt_of_le hlt hz) (Nat.not_le.mpr hlt) hS hd (kk p e R s m args below meth c H locs cells slots Ls C hR ht9 hS hc9 hs9 hl)
theorem w_sld {x : Int32} (hd : decode M.2.1 pc = .ok (.iaload, 1)) (hq : pc + 1 = q) (hi : inb x (gS γ).2.1 = true) (kk : WA γ M n q ls (.int ((gS γ).2.2 x.toNatClampNeg) :: st) sh g tt b Φ) : WA γ M n pc ls (.int x :: .ref 2097152 :: st) sh g tt b Φ := by
  subst hq
  intro p e R s m args below meth c H locs cells slots Ls C hR ht9 hS hc9 hs9 hl
  obtain ⟨hx, hb, hrt, hmx, hown, hlocks, -, htab, hf, hlo, hSF⟩ := id C
  obtain ⟨-, -, -, -, -, -, -, -, -, hX, hz, hlt, -⟩ := id hSF
  exact va_sld hx hb hX (Nat.lt_of_lt_of_le hlt hz) (Nat.not_le.mpr hlt) hS (inb_vp hi) hd (kk p e R s m args below meth c H locs cells slots Ls C hR ht9 hS hc9 hs9 hl)
/-- texts: their fields, their bytes -/
theorem cr_K (γ : GG) {j : Nat} (h : j < 39) : cr γ (1048576 + j) = gK γ j := by unfold cr; rw [if_neg (by omega), if_pos (by omega), Nat.add_sub_cancel_left]
theorem cr_V (γ : GG) {j : Nat} (h : j < 39) : cr γ (1572864 + j) = gV γ j := by unfold cr; rw [if_neg (by omega), if_neg (by omega), if_pos (by omega), Nat.add_sub_cancel_left]
theorem w_strV {i j : Nat} (hd : decode M.2.1 pc = .ok (.getfield i, 3)) (hq : pc + 3 = q) (hj : j < 39) (hw : Cond.fieldLink M.1.cls i "java/lang/String" "value" "[B" ∈ lwg) (kk : WA γ M n q ls (.ref (1572864 + j) :: st) sh g tt b Φ) : WA γ M n pc ls (.ref (1048576 + j) :: st) sh g tt b Φ := by
  subst hq
  intro p e R s m args below meth c H locs cells slots Ls C hR ht9 hS hc9 hs9 hl
  obtain ⟨hx, hb, hrt, hmx, hown, hlocks, -, htab, hf, hlo, hSF⟩ := id C
  show W p (gl γ) e R s m args below meth c H locs cells slots _ (F0 m pc Ls (.ref (cr γ (1048576 + j)) :: st.map (cv γ)))
  rw [cr_K γ hj]
  refine vk_getf hx hb (hSF.2.2.2.2.1.1 j hj).2.2.1 hS hown (hSF.2.1 args _ hw) (fun _ h9 => h9) hd ?_
  rw [← cr_V γ hj]
  exact kk p e R s m args below meth c H locs cells slots Ls C hR ht9 hS hc9 hs9 hl
theorem w_strC {i j : Nat} (hd : decode M.2.1 pc = .ok (.getfield i, 3)) (hq : pc + 3 = q) (hj : j < 39) (hw : Cond.fieldLink M.1.cls i "java/lang/String" "coder" "B" ∈ lwg) (kk : WA γ M n q ls (.int 0 :: st) sh g tt b Φ) : WA γ M n pc ls (.ref (1048576 + j) :: st) sh g tt b Φ := by
  subst hq
  intro p e R s m args below meth c H locs cells slots Ls C hR ht9 hS hc9 hs9 hl
  obtain ⟨hx, hb, hrt, hmx, hown, hlocks, -, htab, hf, hlo, hSF⟩ := id C
  show W p (gl γ) e R s m args below meth c H locs cells slots _ (F0 m pc Ls (.ref (cr γ (1048576 + j)) :: st.map (cv γ)))
  rw [cr_K γ hj]
  exact vk_getf hx hb (hSF.2.2.2.2.1.1 j hj).2.1 hS hown (hSF.2.1 args _ hw) (fun _ h9 => h9) hd (kk p e R s m args below meth c H locs cells slots Ls C hR ht9 hS hc9 hs9 hl)
theorem w_strZ {i : Nat} (hd : decode M.2.1 pc = .ok (.getstatic i, 3)) (hq : pc + 3 = q) (hw : Cond.fieldLink M.1.cls i "java/lang/String" "COMPACT_STRINGS" "Z" ∈ lwg) (kk : WA γ M n q ls (.int 1 :: st) sh g tt b Φ) : WA γ M n pc ls st sh g tt b Φ := by
  subst hq
  intro p e R s m args below meth c H locs cells slots Ls C hR ht9 hS hc9 hs9 hl
  obtain ⟨hx, hb, hrt, hmx, hown, hlocks, -, htab, hf, hlo, hSF⟩ := id C
  exact va_gets hx hb hSF.2.2.2.2.2.1 hS hown (hSF.2.1 args _ hw) (fun _ h9 => h9) hd (kk p e R s m args below meth c H locs cells slots Ls C hR ht9 hS hc9 hs9 hl)
theorem w_strN {j : Nat} {v : Int32} (hd : decode M.2.1 pc = .ok (.arraylength, 1)) (hq : pc + 1 = q) (hj : j < 39) (hv : Int32.ofNat (lenL.getD j 0) = v) (kk : WA γ M n q ls (.int v :: st) sh g tt b Φ) : WA γ M n pc ls (.ref (1572864 + j) :: st) sh g tt b Φ := by
  subst hq
  intro p e R s m args below meth c H locs cells slots Ls C hR ht9 hS hc9 hs9 hl
  obtain ⟨hx, hb, hrt, hmx, hown, hlocks, -, htab, hf, hlo, hSF⟩ := id C
  show W p (gl γ) e R s m args below meth c H locs cells slots _ (F0 m pc Ls (.ref (cr γ (1572864 + j)) :: st.map (cv γ)))
  rw [cr_V γ hj]
  exact va_tlen hx hb (hSF.2.2.2.2.1.1 j hj).2.2.2 hS hv hd (kk p e R s m args below meth c H locs cells slots Ls C hR ht9 hS hc9 hs9 hl)
theorem w_strB {j : Nat} {x : Int32} (hd : decode M.2.1 pc = .ok (.baload, 1)) (hq : pc + 1 = q) (hj : j < 39) (hi : inb x (lenL.getD j 0) = true) (kk : WA γ M n q ls (.int ((bytL.getD j []).getD x.toNatClampNeg 0) :: st) sh g tt b Φ) : WA γ M n pc ls (.int x :: .ref (1572864 + j) :: st) sh g tt b Φ := by
  subst hq
  intro p e R s m args below meth c H locs cells slots Ls C hR ht9 hS hc9 hs9 hl
  obtain ⟨hx, hb, hrt, hmx, hown, hlocks, -, htab, hf, hlo, hSF⟩ := id C
  show W p (gl γ) e R s m args below meth c H locs cells slots _ (F0 m pc Ls (.int x :: .ref (cr γ (1572864 + j)) :: st.map (cv γ)))
  rw [cr_V γ hj]
  exact va_tb hx hb (hSF.2.2.2.2.1.1 j hj).2.2.2 hS (inb_vp hi) rfl hd (kk p e R s m args below meth c H locs cells slots Ls C hR ht9 hS hc9 hs9 hl)
/-- a call on a text -/
theorem w_callKi {M' : MI} {n' np idx j : Nat} {As S : List Value} {r : Int32} (hd : decode M.2.1 pc = .ok (.invokevirtual idx, 3)) (hq : pc + 3 = q) (hM : MWv M' np) (hn : n' + 1 ≤ n) (hml : M'.2.2.1 ≤ 180) (hw : Cond.methodLink M.1.cls idx M'.1 ∈ lwg) (hj : j < 39) (hcl : M'.1.cls = "java/lang/String") (hS9 : S = As.reverse ++ .ref (1048576 + j) :: st) (hlen : As.length = np) (hcat : (st.map fun v => v.category).sum ≤ 8) (hC : CA γ M' n' (.ref (1048576 + j) :: As) sh g tt (0, 0) (pI sh r g tt)) (kk : WA γ M n q ls (.int r :: st) sh g tt b Φ) : WA γ M n pc ls S sh g tt b Φ := by
  intro p e R s m args below meth c H locs cells slots Ls C hR ht9 hS hc9 hs9 hl T hT X
  obtain ⟨hx, hbt, hrt, hmx, hown, hlocks, -, htab, hf, hlo, hSF⟩ := id C
  have hT2 : TT γ tt sh H := TT.of hR ht9 (by rw [← hT]; exact X.heapSize)
  refine (run_ret (b1 := (0, 0)) (b2 := b) (v := some (.int r)) (sh' := sh) (g' := g) (tt' := tt) (vx_runV (C := M'.1.cls) (b := cr γ (1048576 + j)) (As := As.map (cv γ)) (rest := st.map (cv γ)) (nL := M.2.2.1) (Ts := lwg) ⟨hx, hbt, hmx, hown, hSF.2.1 args⟩ (hC _ rfl rfl (Nat.le_refl _) (Nat.le_refl _)) ⟨call_B C hM.1 hM.2.1 hn hml hw, hSF.2.1 args _ hM.2.2.1, hSF.2.1 args _ hM.2.2.2⟩ ⟨PcA.blind, ?_, call_P (av := .ref (1048576 + j) :: As) (cells := cells) hSF hR hT2 hS⟩ rfl (by rw [List.length_map]; exact hlen) hl.1 ?_ ?_ hd ⟨by simp only []; omega, by simp only []; omega⟩) C hS ht9 hc9 hs9 hl (by simp) hq (fun _ _ _ _ h => h) (fun h => ⟨h, rfl⟩) kk) T hT X
  · rw [cr_K γ hj, hcl]
    exact vk_recv hSF.2.2.2.2.1 hj hS
  · show S.map (cv γ) = _
    rw [hS9, List.map_append, List.map_reverse]
    rfl
  · show 2 * 0 + ((st.map (cv γ)).map fun v => v.category).sum ≤ 8
    rw [cats, Nat.mul_zero, Nat.zero_add]
    exact hcat
/-- i2c of a number that is one byte -/
theorem w_i2c {x : Int32} (hd : decode M.2.1 pc = .ok (.i2c, 1)) (hq : pc + 1 = q) {v : Int32} (hv : (x.toUInt32 % 65536).toInt32 = v) (k : WA γ M n q ls (.int v :: st) sh g tt b Φ) : WA γ M n pc ls (.int x :: st) sh g tt b Φ := by
  subst hq
  intro p e R s m args below meth c H locs cells slots Ls C hR ht hS hc hs hl
  exact lv_i2c C.1 C.2.1 hd hv (k p e R s m args below meth c H locs cells slots Ls C hR ht hS hc hs hl)
/-- switches -/
theorem w_tabIn {dflt lo hi : Int} {offs : Array Int} {len : Nat} {x : Int32} {off : Int} (hd : decode M.2.1 pc = .ok (.tableswitch dflt lo hi offs, len)) (h1 : ¬ x.toInt < lo) (h2 : ¬ hi < x.toInt) (ho : offs[(x.toInt - lo).toNat]? = some off) (hq : (pc : Int) + off = (q : Int)) (k : WA γ M n q ls st sh g tt b Φ) : WA γ M n pc ls (.int x :: st) sh g tt b Φ := by
  intro p e R s m args below meth c H locs cells slots Ls C hR ht hS hc hs hl
  exact lv_tableIn C.1 C.2.1 hd h1 h2 ho hq (k p e R s m args below meth c H locs cells slots Ls C hR ht hS hc hs hl)
theorem w_tabOut {dflt lo hi : Int} {offs : Array Int} {len : Nat} {x : Int32} (hd : decode M.2.1 pc = .ok (.tableswitch dflt lo hi offs, len)) (h : x.toInt < lo ∨ hi < x.toInt) (hq : (pc : Int) + dflt = (q : Int)) (k : WA γ M n q ls st sh g tt b Φ) : WA γ M n pc ls (.int x :: st) sh g tt b Φ := by
  intro p e R s m args below meth c H locs cells slots Ls C hR ht hS hc hs hl
  exact lv_tableOut C.1 C.2.1 hd h hq (k p e R s m args below meth c H locs cells slots Ls C hR ht hS hc hs hl)
theorem w_lookup {dflt : Int} {ps : Array (Int × Int)} {len : Nat} {x : Int32} {off : Int} (hd : decode M.2.1 pc = .ok (.lookupswitch dflt ps, len)) (hp : (ps.toList.zip (ps.toList.drop 1)).all (fun (a, next) => a.1 < next.1) = true) (ho : Op.lookupswitch.offset ps.toList dflt x.toInt = off) (hq : (pc : Int) + off = (q : Int)) (k : WA γ M n q ls st sh g tt b Φ) : WA γ M n pc ls (.int x :: st) sh g tt b Φ := by
  intro p e R s m args below meth c H locs cells slots Ls C hR ht hS hc hs hl
  exact lv_lookup C.1 C.2.1 hd hp ho hq (k p e R s m args below meth c H locs cells slots Ls C hR ht hS hc hs hl)
end More
end
section
/-! 'throw new E("text")' where E's own constructor links its superclass's by any place of its pool (the JDK's NoSuchElementException by 13): the library's law has 7; own rows, after the library's road -/
def xt_atoms (own : String) (ic : Nat) (X : String) (k1 : Nat) (by1 : ByteArray) (Y : String) (r : List String) : List Cond :=
  Bundle.throwableAtoms ++ Bundle.throwableSAtoms ++ (Bundle.passSAtoms X Y k1 by1 ++ Bundle.chainSAtoms Y r) ++
  [.methodLink own ic (Bundle.initS X), .instantiable X 6, .castable X X, .selects X Bundle.tFill0 Bundle.tFill0, .selects X Bundle.tFill Bundle.tFill,
   .lays X Bundle.tN "cause" "Ljava/lang/Throwable;", .lays X Bundle.tN "stackTrace" Bundle.steD, .lays X Bundle.tN "suppressedExceptions" Bundle.listD, .lays X Bundle.tN "detailMessage" "Ljava/lang/String;",
   .isRef (.static Bundle.tN "UNASSIGNED_STACK" Bundle.steD), .isRef (.static Bundle.tN "SUPPRESSED_SENTINEL" Bundle.listD),
   .fieldLink Bundle.tN 198 Bundle.tN "backtrace" "Ljava/lang/Object;", .lays Bundle.tN Bundle.tN "backtrace" "Ljava/lang/Object;", .lays X Bundle.tN "backtrace" "Ljava/lang/Object;"]
def xt_at (own : String) (ic : Nat) (X : String) (k1 : Nat) (by1 : ByteArray) (Y : String) (r : List String) : List Cond := (xt_atoms own ic X k1 by1 Y r).filter vx_no
section XT
variable {p : Program} {l : Launch} {e : Env} {R : Room} {s : State} {m : MethodId} {args : Array Value} {below : List Frame} {meth : Method} {c : Code} {locs : List Loc} {cells slots : Nat}
set_option maxHeartbeats 2000000 in
theorem xt_ctor {W9 : State} (X : Stand p l e R s m args below meth c W9 locs cells slots) (hexec : p.tables.exec = Jvm.exec) (htr : e.platform.stackTraces = false) {own cls : String} {k1 : Nat} {by1 : ByteArray} {sup : String} {names : List String} {ic : Nat}
    (b0 : decode by1 0 = .ok (.aload_n 0, 1)) (b1 : decode by1 1 = .ok (.aload_n 1, 1)) (b2 : decode by1 2 = .ok (.invokespecial k1, 3)) (b5 : decode by1 5 = .ok (.return_, 1))
    (hown : s.vm.findClass own = some m.cls) (hcls : Bundle.fit cls = true) (hsup : Bundle.fit sup = true) (hnames : ∀ n ∈ names, Bundle.fit n = true)
    (h : ∀ a ∈ xt_atoms own ic cls k1 by1 sup names, a.before args s = true)
    (hlocs : ∀ x ∈ locs, ∀ cell, s.heap[x.base]? = some cell → cell.vm.isStatics = false)
    {a : Addr} {cX : ClassId} {kX : Class} (hfoundX : s.vm.findClass cls = some cX) (hkX : s.vm.classes[cX]? = some kX) (hcell : W9.heap[a]? = some (freshCell cX kX)) (hnew : s.heap.size ≤ a)
    {msg : Value} (hmsg : msg.isRef = true)
    {g : JFrame} (hg : g.method = m) (hsize : g.locals.size = c.maxLocals) (hlocked : g.locked = none) (hentered : g.entered = []) {rest : List Value} (hstack : g.stack = msg :: .ref a :: .ref a :: rest)
    (hd6 : decode c.code g.pc = .ok (.invokespecial ic, 3)) (hd9 : decode c.code (g.pc + 3) = .ok (.athrow, 1)) (hout : ∀ x ∈ c.exceptionTable.toList, covers x (g.pc + 3) = false)
    (hRframes : names.length + 4 < R.frames) (hRlocals : 2 * g.monitorRoom + ((Value.ref a :: rest).map fun v => v.category).sum + (13 * (names.length + 2) + 42) ≤ R.locals) (hlocks : meth.locks = false) :
    ∃ U : State, Steps p.tables e below (W9.setTop g) U ∧ U.status = .running ∧ Ended U below (.threw a) ∧ s.WarmedH U.vm ∧ s.sameButNew ({ U with vm := s.vm } : State) locs cells slots ∧
      ∃ ce, U.heap[a]? = some ce ∧ ce.vm = .none ∧ s.vm.findClass cls = some ce.cls := by
  have howns : e.platform.frameOwnsMonitors = true := by rw [X.admits.platform]
  have hfin : e.platform.finalization = false := by rw [X.admits.platform]
  have hpl : e.platform.magicAccessors = ({} : Platform).magicAccessors := by rw [X.admits.platform]
  have a' : ∀ x, x ∈ xt_atoms own ic cls k1 by1 sup names → x.holds args s none s [] = true := fun x hx => h x hx
  obtain ⟨T, Z0, L, -, Y⟩ := ThrowableC.of_atoms (args := args) howns hfin hpl (fun x hx => h x (by simp [xt_atoms, hx]))
  obtain ⟨Z, M, LZ, LM, hnZ⟩ := Init0T.ofS_atoms (args := args) hpl L Y (fun x hx => h x (by simp [xt_atoms, hx]))
  obtain ⟨P2, Ps, hlen, L2, hL, hP2m, hlink2, hlink⟩ := Bundle.chainS (args := args) hpl hnZ names sup hsup hnames (fun x hx => h x (by simp [xt_atoms, hx]))
  obtain ⟨P1, L1, hP1m, hs1⟩ := PassC.ofS_atoms (args := args) (s := s) hpl (X := cls) (Y := sup) (Bundle.fit_spec hcls).1 (Bundle.fit_spec hsup).2 b0 b1 b2 b5 (fun x hx => h x (by simp [xt_atoms, hx]))
  have hlink1 : P1.sup = P2.m := Option.some.inj (hs1.symm.trans hP2m)
  have hfound : s.vm.findClass cls = some P1.m.cls := findClass_of_methodNamed hP1m
  cases Option.some.inj (hfoundX.symm.trans hfound)
  obtain ⟨c1, kX', hc1, hk, hord, -, -, hn6⟩ := Cond.instantiable_spec (a' (.instantiable cls 6) (by simp [xt_atoms]))
  cases Option.some.inj (hc1.symm.trans hfound)
  cases Option.some.inj (hkX.symm.trans hk)
  have hsel0 : selectMethod e.platform s.vm P1.m.cls T.fill0 = .method T.fill0 := by
    obtain ⟨c2, r2, m2, q1, q2, q3, q4, -⟩ := Cond.selects_spec (a' (.selects cls Bundle.tFill0 Bundle.tFill0) (by simp [xt_atoms]))
    cases Option.some.inj (q1.symm.trans hfound)
    cases Option.some.inj (q2.symm.trans (State.methodFound?_of_named Y.fill0 (by decide)))
    cases Option.some.inj (q3.symm.trans Y.fill0)
    rw [Launch.admits_selectMethod X.admits]; exact q4
  have hselF : selectMethod e.platform s.vm P1.m.cls T.fill = .method T.fill := by
    obtain ⟨c2, r2, m2, q1, q2, q3, q4, -⟩ := Cond.selects_spec (a' (.selects cls Bundle.tFill Bundle.tFill) (by simp [xt_atoms]))
    cases Option.some.inj (q1.symm.trans hfound)
    cases Option.some.inj (q2.symm.trans (State.methodFound?_of_named Y.fill (by decide)))
    cases Option.some.inj (q3.symm.trans Y.fill)
    rw [Launch.admits_selectMethod X.admits]; exact q4
  obtain ⟨cellS0, hcS0, hiss⟩ := Y.statics
  obtain ⟨u0, hu0⟩ := Cond.staticRefV Y.unassigned L.unassignedStatic L.statics hcS0 hiss (a' (.isRef (.static Bundle.tN "UNASSIGNED_STACK" Bundle.steD)) (by simp [xt_atoms]))
  obtain ⟨sen, hsen⟩ := Cond.staticRefV Y.sentinel L.sentinelStatic L.statics hcS0 hiss (a' (.isRef (.static Bundle.tN "SUPPRESSED_SENTINEL" Bundle.listD)) (by simp [xt_atoms]))
  obtain ⟨ci198, i198, fB, hk198, hg198, ha198, hsB, -, hnB, htB, hffB⟩ := Cond.ownField (t := .object "java/lang/Object") Y.found L.cls (by decide +kernel) (a' (.fieldLink Bundle.tN 198 Bundle.tN "backtrace" "Ljava/lang/Object;") (by simp [xt_atoms])) (a' (.lays Bundle.tN Bundle.tN "backtrace" "Ljava/lang/Object;") (by simp [xt_atoms])) e.platform hpl
  obtain ⟨cellS, hcS', heS, -, hkeep⟩ := X.same.2.2.2.2.2 T.aS cellS0 hcS0
  have hcellS : W9.heap[T.aS]? = some cellS := hcS'
  have hout' : ∀ i, (⟨T.aS, i⟩ : Loc) ∉ locs := fun i hmem => by
    have := hlocs _ hmem cellS0 hcS0
    rw [hiss] at this; cases this
  have hknownS : cellS.vm ≠ .unknown := by
    rw [heS]; intro hu
    rw [show cellS0.vm = .unknown from hu] at hiss
    cases hiss
  have hneS : T.aS ≠ a := Nat.ne_of_lt (Nat.lt_of_lt_of_le (Array.getElem?_eq_some_iff.mp hcS0).1 hnew)
  obtain ⟨iM, hffM⟩ := Y.msg
  obtain ⟨tyC, dC, hdC, hdnC⟩ := Cond.laysAt hfound hk Y.cause (a' (.lays cls Bundle.tN "cause" "Ljava/lang/Throwable;") (by simp [xt_atoms]))
  obtain ⟨tyS, dS, hdS, hdnS⟩ := Cond.laysAt hfound hk Y.stack (a' (.lays cls Bundle.tN "stackTrace" Bundle.steD) (by simp [xt_atoms]))
  obtain ⟨tyP, dP, hdP, hdnP⟩ := Cond.laysAt hfound hk Y.supp (a' (.lays cls Bundle.tN "suppressedExceptions" Bundle.listD) (by simp [xt_atoms]))
  obtain ⟨tyM, dM, hdM, hdnM⟩ := Cond.laysAt hfound hk hffM (a' (.lays cls Bundle.tN "detailMessage" "Ljava/lang/String;") (by simp [xt_atoms]))
  obtain ⟨tyB, dB, hdB, hdnB⟩ := Cond.laysAt hfound hk hffB (a' (.lays cls Bundle.tN "backtrace" "Ljava/lang/Object;") (by simp [xt_atoms]))
  have bC := Cond.laysApart hdB hdC hdnB hdnC (by rw [hnB, Y.causeName]; decide)
  have bS := Cond.laysApart hdB hdS hdnB hdnS (by rw [hnB, Y.stackName]; decide)
  have bP := Cond.laysApart hdB hdP hdnB hdnP (by rw [hnB, Y.suppName]; decide)
  have hskip : SkipFacts T e.platform s (fun u => u) u0 ((preparedCellV T.toThrowableT (freshCell P1.m.cls kX) a u0 sen).withEntry W9.cur) :=
    ⟨{ ci198 := ci198, i198 := i198, fBack := fB }, ⟨hk198, hg198, ha198, hsB⟩, by
      have := fresh_default (c := P1.m.cls) tyB
      rw [htB] at this
      simpa [preparedCellV, Cell.setSlot, Cell.withEntry, Array.getElem?_setIfInBounds, bC, bS, bP, bC.symm, bS.symm, bP.symm, defaultValue] using this, fun _ _ => rfl⟩
  obtain ⟨tm, methC, cdC, kC, vm₁, hnC, -, -, -, -, -, -, -, hW₁, st1⟩ := Steps.initColdS (tb := p.tables) (e := e) (below := below) (s := s) (U := W9) X.here hexec X.warmed hpl hown (t := Bundle.initS cls) rfl rfl (Bundle.fit_spec hcls).2
    (a' (.methodLink own ic (Bundle.initS cls)) (by simp [xt_atoms])) (h (.instanceMethod (Bundle.initS cls)) (by simp [xt_atoms, Bundle.passSAtoms])) (bytes := by1) (maxL := 2) (h (.code (Bundle.initS cls) by1 2 none) (by simp [xt_atoms, Bundle.passSAtoms]))
    (f := g) hg (a := a) (msg := msg) (rest := .ref a :: rest) hstack hd6
  cases Option.some.inj (hnC.symm.trans hP1m)
  have X₁ := X.noted hW₁
  obtain ⟨vm₂, X₂, st2⟩ := X₁.ctorMessageOffV hexec (g := { g with stack := .ref a :: rest }) hg hsize T L Z LZ M LM (P1 :: P2 :: Ps)
    (fun P hP => by
      rcases List.mem_cons.mp hP with rfl | hP
      · exact L1
      · rcases List.mem_cons.mp hP with rfl | hP
        · exact L2
        · exact hL P hP) ⟨hlink1, hlink2, hlink⟩ (u0 := u0) (sen := sen) (self := a) hmsg (cell := freshCell P1.m.cls kX) (cellS := cellS)
    hcell (fun _ => by simp) (by simp) rfl rfl hsel0 hselF hcellS hneS hknownS (by rw [hkeep _ (hout' _)]; exact hu0) (by rw [hkeep _ (hout' _)]; exact hsen)
    (Takes.of_laid hk hord tyC (by rw [Y.causeType]; rfl)) (Takes.of_laid hk hord tyS (by rw [Y.stackType]; exact fits_refV_array _ u0)) (Takes.of_laid hk hord tyP (by rw [Y.suppType]; exact fits_refV_object _ sen))
    (Takes.of_laid hk hord tyM (by rw [Y.msgType]; exact fits_refV_object _ ⟨msg, hmsg⟩)) Y.objLocals hskip htr [] hd6
    (by simp only [List.length_cons, hlen]; omega) (by simp only [List.length_cons, hlen]; exact hRlocals)
  obtain ⟨hwalk, hrun, hended, hWU, hsame⟩ := X₂.athrowLeaves hexec (g := { g with stack := .ref a :: rest, pc := g.pc + 3 }) hg hlocked hentered hout (a := a) (rest := rest) rfl hd9
  have hlt : a < ((W9.setVm vm₁).setVm vm₂).heap.size := (Array.getElem?_eq_some_iff.mp hcell).1
  have hU := heapAt_setCell_self (s := (W9.setVm vm₁).setVm vm₂) (plainBareV T.toThrowableT (freshCell P1.m.cls kX) a u0 sen msg) hlt
  refine ⟨_, st1 _ (fun acts => ?_), hrun, hended, hWU, hsame.weaken (fun y hy hlt' => ?_) (Nat.le_refl _) (Nat.le_refl _), _, hU, rfl, hfound⟩
  · rw [doInvoke_state]
    exact st2 _ hwalk
  · rcases List.mem_append.mp hy with h9 | h9
    · exact h9
    · exact absurd hlt' (Nat.not_lt.mpr (by
        simp only [List.mem_cons, List.not_mem_nil, or_false] at h9
        rcases h9 with rfl | rfl | rfl | rfl | rfl <;> exact hnew))
end XT
section XU
variable {p : Program} {l : Launch} {e : Env} {R : Room} {s : State} {m : MethodId} {args : Array Value} {below : List Frame} {meth : Method} {c : Code} {H : Heap} {locs : List Loc} {cells slots : Nat} {free : Addr → Prop} {ls : Array Slot} {rest : List Value} {Qc : Array Value → State → Outcome → State → Prop} {XC : String → State → State → Prop}
theorem xt_throw {cc : ByteArray} {pc : Nat} (hexec : p.tables.exec = Jvm.exec) (hb : c.code = cc) (hl : l.stackTraces = false) {own cls text sup : String} {k1 : Nat} {by1 : ByteArray} {names : List String} {ik is ic mc ms sa : Nat} {A : Nat → Prop}
    (b0 : decode by1 0 = .ok (.aload_n 0, 1)) (b1 : decode by1 1 = .ok (.aload_n 1, 1)) (b2 : decode by1 2 = .ok (.invokespecial k1, 3)) (b5 : decode by1 5 = .ok (.return_, 1)) (hown : s.vm.findClass own = some m.cls) (hcls : Bundle.fit cls = true) (hsup : Bundle.fit sup = true) (hnames : ∀ n ∈ names, Bundle.fit n = true)
    (hk : (Cond.classLink own ik cls).before args s = true) (hini : (Cond.initialized cls).before args s = true) (hstr : vk_R own is text sa s) (hat : ∀ w ∈ xt_at own ic cls k1 by1 sup names, w.before args s = true)
    (hgood : ∀ w ∈ Cond.classLink own ik cls :: Cond.initialized cls :: xt_at own ic cls k1 by1 sup names, vx_ot w = true)
    (hU : vx_Zq Bundle.tN "UNASSIGNED_STACK" Bundle.steD A s s.heap) (hN : vx_Zq Bundle.tN "SUPPRESSED_SENTINEL" Bundle.listD A s s.heap) (hS : va_S A s.heap H locs) (hsize : ls.size = c.maxLocals)
    (d0 : decode cc pc = .ok (.new ik, 3)) (d3 : decode cc (pc + 3) = .ok (.dup, 1)) (d4 : decode cc (pc + 4) = .ok (.ldc is, 2)) (d6 : decode cc (pc + 6) = .ok (.invokespecial ic, 3)) (d9 : decode cc (pc + 9) = .ok (.athrow, 1))
    (hout : ∀ x ∈ c.exceptionTable.toList, covers x (pc + 9) = false)
    (hRframes : names.length + 4 < R.frames) (hRlocals : (rest.map fun v => v.category).sum + (13 * (names.length + 2) + 43) ≤ R.locals) (hRcells : cells + 1 ≤ R.cells) (hRslots : slots + 6 ≤ R.slots) (hlocks : meth.locks = false)
    (hx : ∀ t : State, s.vm.Alike t.vm → H.size ≤ t.heap.size → (∀ q : Nat, q < H.size → t.heap[q]? = H[q]?) → XC cls s t)
    (hf : ∀ z ∈ locs, free z.base) (hc : cells + 1 ≤ mc) (hs : slots + 6 ≤ ms) :
    W p l e R s m args below meth c H locs cells slots (vx_MQ below Qc XC args s mc ms free) (F0 m pc ls rest) := by
  intro T hT X
  have htr : e.platform.stackTraces = false := (show e.platform.stackTraces = l.stackTraces by rw [X.admits.platform]).trans hl
  have Y := vx_rebase X (R' := { frames := R.frames, locals := R.locals, cells := 1, slots := 6 }) (Nat.le_refl _) (Nat.le_refl _) hRcells hRslots
  obtain ⟨s', hA⟩ : ∃ z, z = (T.setVm s.vm).setFrames (.invoking m args :: below) := ⟨_, rfl⟩
  rw [← hA] at Y
  have hvm : s'.vm = s.vm := by rw [hA]; rfl
  have hhp : s'.heap = H := by rw [hA]; exact hT
  have hW0 : s.WarmedH s'.vm := by rw [hvm]; exact State.WarmedH.refl s
  have hat' : ∀ w ∈ xt_at own ic cls k1 by1 sup names, w.before args s' = true := fun w hw => vx_ot_at hW0 hvm.symm (hgood w (List.mem_cons_of_mem _ (List.mem_cons_of_mem _ hw))) (hat w hw)
  have hk' : (Cond.classLink own ik cls).before args s' = true := vx_ot_at hW0 hvm.symm (hgood _ List.mem_cons_self) hk
  have hini' : (Cond.initialized cls).before args s' = true := vx_ot_at hW0 hvm.symm (hgood _ (List.mem_cons_of_mem _ List.mem_cons_self)) hini
  have hU' : vx_Zq Bundle.tN "UNASSIGNED_STACK" Bundle.steD A s' s'.heap := by rw [hhp]; exact vx_Zq.moved hW0.alike (hU.kept hS.2.1)
  have hN' : vx_Zq Bundle.tN "SUPPRESSED_SENTINEL" Bundle.listD A s' s'.heap := by rw [hhp]; exact vx_Zq.moved hW0.alike (hN.kept hS.2.1)
  have h : ∀ w ∈ xt_atoms own ic cls k1 by1 sup names, w.before args s' = true := vx_own hat' (vx_isRefq hU'.1) (vx_isRefq hN'.1) hU'.2.word hN'.2.word
  have hown' : s'.vm.findClass own = some m.cls := by rw [hvm]; exact hown
  have hins : (Cond.instantiable cls 6).before args s' = true := h _ (by simp [xt_atoms])
  obtain ⟨vm₁, cX, kX, hfX, hkX, -, -, X₁, st1⟩ := Y.newCold hexec (own := own) (C := cls) (index := ik) (n := 6) hown' hk' hins hini'
    (g := F0 m pc ls rest) rfl (by rw [hb]; exact d0) (Nat.le_refl _) (Nat.le_refl _)
  generalize hT1 : (T.setVm vm₁).pushCell { cls := cX, slots := kX.instanceTypes.map defaultValue, vm := .none } = T1 at X₁ st1
  have hcat : (Value.ref T.heap.size).category = 1 := rfl
  have hcellA : T1.heap[T.heap.size]? = some (freshCell cX kX) := by rw [← hT1]; exact State.heap_pushCell_size _ _
  have d3' : decode c.code (pc + 3) = .ok (.dup, 1) := by rw [hb]; exact d3
  have d4' : decode c.code (pc + 4) = .ok (.ldc is, 2) := by rw [hb]; exact d4
  have hstr' : vk_R own is text sa s' := vk_R.warm hW0 hstr
  obtain ⟨U, hsteps, hrun, hend, hW, hsame, ce, hce, hOv, hOc⟩ := xt_ctor X₁ hexec htr (own := own) (cls := cls) (sup := sup) (names := names) (ic := ic) b0 b1 b2 b5 hown' hcls hsup hnames h (fun x hx => nomatch hx) hfX hkX hcellA (by rw [hhp, hT]; exact Nat.le_refl _) (msg := .ref sa) rfl
    (g := { method := m, pc := pc + 6, locals := ls, stack := .ref sa :: .ref T.heap.size :: .ref T.heap.size :: rest, locked := none }) rfl hsize rfl rfl (rest := rest) rfl
    (by rw [hb]; exact d6) (by rw [hb]; exact d9) hout hRframes (by simp only [List.map_cons, List.sum_cons, hcat]; omega) hlocks
  obtain ⟨f1, f2⟩ := vx_frame hsame
  rw [hhp] at f1 f2
  have hWs : s.WarmedH U.vm := State.WarmedH.trans hW0 hW
  have hcl : s.vm.findClass cls = some ce.cls := by
    have h9 := hOc
    rw [hvm] at h9
    exact h9
  have hall : s.sameButNew ({ U with vm := s.vm } : State) locs mc ms := by
    subst hA
    obtain ⟨e1, e2⟩ := hsame
    rw [State.setFrames_setFrames] at e1
    have h2 : (T.setVm s.vm).sameButNew ({ U with vm := s.vm } : State) [] (0 + 1) (0 + 6) := ⟨e1, e2⟩
    have h3 := X.same.trans h2
    rw [List.append_nil] at h3
    exact h3.mono hc hs
  refine ⟨U, ?_, .threw T.heap.size, hrun, hend, Or.inr ⟨T.heap.size, rfl, cls, ce, locs, hx U hWs.alike f1 (fun q hq => f2 q hq (fun z hz => nomatch hz)), hce, hOv, hcl, hWs, hall, hf⟩⟩
  refine st1 _ ?_
  show Steps p.tables e below (T1.setTop { method := m, pc := pc + 3, locals := ls, stack := .ref T.heap.size :: rest, locked := none }) _
  jvm_step X₁.here [X₁.here.top, hexec, d3', Value.category]
  exact X₁.ldcString hexec (own := own) (text := text) (index := is) (a := sa) hown' hstr'.1 hstr'.2
    (g := { method := m, pc := pc + 4, locals := ls, stack := .ref T.heap.size :: .ref T.heap.size :: rest, locked := none }) rfl d4' _ hsteps
theorem xt_throwW {cc : ByteArray} {pc : Nat} (hexec : p.tables.exec = Jvm.exec) (hb : c.code = cc) (hl : l.stackTraces = false) {own cls text sup : String} {k1 : Nat} {by1 : ByteArray} {names : List String} {ik is ic mc ms sa : Nat} {A : Nat → Prop}
    (b0 : decode by1 0 = .ok (.aload_n 0, 1)) (b1 : decode by1 1 = .ok (.aload_n 1, 1)) (b2 : decode by1 2 = .ok (.invokespecial k1, 3)) (b5 : decode by1 5 = .ok (.return_, 1)) (hown : s.vm.findClass own = some m.cls) (hcls : Bundle.fit cls = true) (hsup : Bundle.fit sup = true) (hnames : ∀ n ∈ names, Bundle.fit n = true)
    (hk : (Cond.classLink own ik cls).before args s = true) (hini : (Cond.initialized cls).before args s = true) (hstr : vk_R own is text sa s) (hat : ∀ w ∈ xt_at own ic cls k1 by1 sup names, w.before args s = true)
    (hgood : ∀ w ∈ Cond.classLink own ik cls :: Cond.initialized cls :: xt_at own ic cls k1 by1 sup names, vx_ot w = true)
    (hU : vx_Zq Bundle.tN "UNASSIGNED_STACK" Bundle.steD A s s.heap) (hN : vx_Zq Bundle.tN "SUPPRESSED_SENTINEL" Bundle.listD A s s.heap) (hS : va_S A s.heap H locs) (hsize : ls.size = c.maxLocals)
    (d0 : decode cc pc = .ok (.new ik, 3)) (d3 : decode cc (pc + 3) = .ok (.dup, 1)) (d4 : decode cc (pc + 4) = .ok (.ldc_w is, 3)) (d7 : decode cc (pc + 7) = .ok (.invokespecial ic, 3)) (d10 : decode cc (pc + 10) = .ok (.athrow, 1))
    (hout : ∀ x ∈ c.exceptionTable.toList, covers x (pc + 10) = false)
    (hRframes : names.length + 4 < R.frames) (hRlocals : (rest.map fun v => v.category).sum + (13 * (names.length + 2) + 43) ≤ R.locals) (hRcells : cells + 1 ≤ R.cells) (hRslots : slots + 6 ≤ R.slots) (hlocks : meth.locks = false)
    (hx : ∀ t : State, s.vm.Alike t.vm → H.size ≤ t.heap.size → (∀ q : Nat, q < H.size → t.heap[q]? = H[q]?) → XC cls s t)
    (hf : ∀ z ∈ locs, free z.base) (hc : cells + 1 ≤ mc) (hs : slots + 6 ≤ ms) :
    W p l e R s m args below meth c H locs cells slots (vx_MQ below Qc XC args s mc ms free) (F0 m pc ls rest) := by
  intro T hT X
  have htr : e.platform.stackTraces = false := (show e.platform.stackTraces = l.stackTraces by rw [X.admits.platform]).trans hl
  have Y := vx_rebase X (R' := { frames := R.frames, locals := R.locals, cells := 1, slots := 6 }) (Nat.le_refl _) (Nat.le_refl _) hRcells hRslots
  obtain ⟨s', hA⟩ : ∃ z, z = (T.setVm s.vm).setFrames (.invoking m args :: below) := ⟨_, rfl⟩
  rw [← hA] at Y
  have hvm : s'.vm = s.vm := by rw [hA]; rfl
  have hhp : s'.heap = H := by rw [hA]; exact hT
  have hW0 : s.WarmedH s'.vm := by rw [hvm]; exact State.WarmedH.refl s
  have hat' : ∀ w ∈ xt_at own ic cls k1 by1 sup names, w.before args s' = true := fun w hw => vx_ot_at hW0 hvm.symm (hgood w (List.mem_cons_of_mem _ (List.mem_cons_of_mem _ hw))) (hat w hw)
  have hk' : (Cond.classLink own ik cls).before args s' = true := vx_ot_at hW0 hvm.symm (hgood _ List.mem_cons_self) hk
  have hini' : (Cond.initialized cls).before args s' = true := vx_ot_at hW0 hvm.symm (hgood _ (List.mem_cons_of_mem _ List.mem_cons_self)) hini
  have hU' : vx_Zq Bundle.tN "UNASSIGNED_STACK" Bundle.steD A s' s'.heap := by rw [hhp]; exact vx_Zq.moved hW0.alike (hU.kept hS.2.1)
  have hN' : vx_Zq Bundle.tN "SUPPRESSED_SENTINEL" Bundle.listD A s' s'.heap := by rw [hhp]; exact vx_Zq.moved hW0.alike (hN.kept hS.2.1)
  have h : ∀ w ∈ xt_atoms own ic cls k1 by1 sup names, w.before args s' = true := vx_own hat' (vx_isRefq hU'.1) (vx_isRefq hN'.1) hU'.2.word hN'.2.word
  have hown' : s'.vm.findClass own = some m.cls := by rw [hvm]; exact hown
  have hins : (Cond.instantiable cls 6).before args s' = true := h _ (by simp [xt_atoms])
  obtain ⟨vm₁, cX, kX, hfX, hkX, -, -, X₁, st1⟩ := Y.newCold hexec (own := own) (C := cls) (index := ik) (n := 6) hown' hk' hins hini'
    (g := F0 m pc ls rest) rfl (by rw [hb]; exact d0) (Nat.le_refl _) (Nat.le_refl _)
  generalize hT1 : (T.setVm vm₁).pushCell { cls := cX, slots := kX.instanceTypes.map defaultValue, vm := .none } = T1 at X₁ st1
  have hcat : (Value.ref T.heap.size).category = 1 := rfl
  have hcellA : T1.heap[T.heap.size]? = some (freshCell cX kX) := by rw [← hT1]; exact State.heap_pushCell_size _ _
  have d3' : decode c.code (pc + 3) = .ok (.dup, 1) := by rw [hb]; exact d3
  have d4' : decode c.code (pc + 4) = .ok (.ldc_w is, 3) := by rw [hb]; exact d4
  have hstr' : vk_R own is text sa s' := vk_R.warm hW0 hstr
  obtain ⟨U, hsteps, hrun, hend, hW, hsame, ce, hce, hOv, hOc⟩ := xt_ctor X₁ hexec htr (own := own) (cls := cls) (sup := sup) (names := names) (ic := ic) b0 b1 b2 b5 hown' hcls hsup hnames h (fun x hx => nomatch hx) hfX hkX hcellA (by rw [hhp, hT]; exact Nat.le_refl _) (msg := .ref sa) rfl
    (g := { method := m, pc := pc + 7, locals := ls, stack := .ref sa :: .ref T.heap.size :: .ref T.heap.size :: rest, locked := none }) rfl hsize rfl rfl (rest := rest) rfl
    (by rw [hb]; exact d7) (by rw [hb]; exact d10) hout hRframes (by simp only [List.map_cons, List.sum_cons, hcat]; omega) hlocks
  obtain ⟨f1, f2⟩ := vx_frame hsame
  rw [hhp] at f1 f2
  have hWs : s.WarmedH U.vm := State.WarmedH.trans hW0 hW
  have hcl : s.vm.findClass cls = some ce.cls := by
    have h9 := hOc
    rw [hvm] at h9
    exact h9
  have hall : s.sameButNew ({ U with vm := s.vm } : State) locs mc ms := by
    subst hA
    obtain ⟨e1, e2⟩ := hsame
    rw [State.setFrames_setFrames] at e1
    have h2 : (T.setVm s.vm).sameButNew ({ U with vm := s.vm } : State) [] (0 + 1) (0 + 6) := ⟨e1, e2⟩
    have h3 := X.same.trans h2
    rw [List.append_nil] at h3
    exact h3.mono hc hs
  refine ⟨U, ?_, .threw T.heap.size, hrun, hend, Or.inr ⟨T.heap.size, rfl, cls, ce, locs, hx U hWs.alike f1 (fun q hq => f2 q hq (fun z hz => nomatch hz)), hce, hOv, hcl, hWs, hall, hf⟩⟩
  refine st1 _ ?_
  show Steps p.tables e below (T1.setTop { method := m, pc := pc + 3, locals := ls, stack := .ref T.heap.size :: rest, locked := none }) _
  jvm_step X₁.here [X₁.here.top, hexec, d3', Value.category]
  exact X₁.ldcStringW hexec (own := own) (text := text) (index := is) (a := sa) hown' hstr'.1 hstr'.2
    (g := { method := m, pc := pc + 4, locals := ls, stack := .ref T.heap.size :: .ref T.heap.size :: rest, locked := none }) rfl d4' _ hsteps
end XU
end
section
/-! the words of the two exceptions -/
abbrev exN : List String := ["java/lang/Exception"]
abbrev exS : String := "java/lang/RuntimeException"
abbrev exI : String := "java/lang/IllegalArgumentException"
abbrev exE : String := "java/util/NoSuchElementException"
theorem exW_iae : ∀ w ∈ xt_at "BeardHall" 114 exI 7 prog_19_method_2_code exS exN, w ∈ lwg := by decide +kernel
theorem exW_nse : ∀ w ∈ xt_at "BeardHall" 179 exE 13 prog_31_method_4_code exS exN, w ∈ lwg := by decide +kernel
theorem exG_iae : ∀ w ∈ Cond.classLink "BeardHall" 110 exI :: Cond.initialized exI :: xt_at "BeardHall" 114 exI 7 prog_19_method_2_code exS exN, vx_ot w = true := by decide +kernel
theorem exG_nse : ∀ w ∈ Cond.classLink "BeardHall" 175 exE :: Cond.initialized exE :: xt_at "BeardHall" 179 exE 13 prog_31_method_4_code exS exN, vx_ot w = true := by decide +kernel
theorem exF : Bundle.fit exI = true ∧ Bundle.fit exE = true ∧ Bundle.fit exS = true ∧ ∀ n ∈ exN, Bundle.fit n = true := by decide +kernel
theorem exB_iae : decode prog_19_method_2_code 0 = .ok (.aload_n 0, 1) ∧ decode prog_19_method_2_code 1 = .ok (.aload_n 1, 1) ∧ decode prog_19_method_2_code 2 = .ok (.invokespecial 7, 3) ∧ decode prog_19_method_2_code 5 = .ok (.return_, 1) := by decide +kernel
theorem exB_nse : decode prog_31_method_4_code 0 = .ok (.aload_n 0, 1) ∧ decode prog_31_method_4_code 1 = .ok (.aload_n 1, 1) ∧ decode prog_31_method_4_code 2 = .ok (.invokespecial 13, 3) ∧ decode prog_31_method_4_code 5 = .ok (.return_, 1) := by decide +kernel
end
section
/-! throws, and their catching -/
section Thr
variable {γ : GG} {M : MI} {n pc q : Nat} {ls : List (Option Value)} {st : List Value} {sh : List Sh} {g : Mem} {tt : Bool} {b : Nat × Nat} {Φ : PO}
theorem Rel.kept {H H1 : Heap} (h : Rel γ sh g H) (hz : H.size ≤ H1.size) (hk : ∀ q : Nat, q < H.size → H1[q]? = H[q]?) : Rel γ sh g H1 := ⟨h.1.kept (fun k x hx => hk x.1 ((h.1 k x hx).lt)), Nat.le_trans h.2 hz⟩
theorem w_throw {ik is ic j k1 : Nat} {by1 : ByteArray} {cls text : String} (b0 : decode by1 0 = .ok (.aload_n 0, 1) ∧ decode by1 1 = .ok (.aload_n 1, 1) ∧ decode by1 2 = .ok (.invokespecial k1, 3) ∧ decode by1 5 = .ok (.return_, 1)) (hcls : Bundle.fit cls = true) (hwk : Cond.classLink M.1.cls ik cls ∈ lwg) (hwi : Cond.initialized cls ∈ lwg) (hstr : strL[j]? = some (M.1.cls, is, text)) (hat : ∀ w ∈ xt_at M.1.cls ic cls k1 by1 exS exN, w ∈ lwg) (hgood : ∀ w ∈ Cond.classLink M.1.cls ik cls :: Cond.initialized cls :: xt_at M.1.cls ic cls k1 by1 exS exN, vx_ot w = true)
    (d0 : decode M.2.1 pc = .ok (.new ik, 3)) (d3 : decode M.2.1 (pc + 3) = .ok (.dup, 1)) (d4 : decode M.2.1 (pc + 4) = .ok (.ldc is, 2)) (d6 : decode M.2.1 (pc + 6) = .ok (.invokespecial ic, 3)) (d9 : decode M.2.1 (pc + 9) = .ok (.athrow, 1)) (hh : M.2.2.2.2 = []) (hcat : (st.map fun v => v.category).sum ≤ 8) (hb : b = (1, 6)) (hΦ : Φ (.inr cls) sh g false) : WA γ M n pc ls st sh g tt b Φ := by
  subst hb
  intro p e R s m args below meth c H locs cells slots Ls C hR ht9 hS hc9 hs9 hl
  obtain ⟨hx, hb, hrt, hmx, hown, hlocks, -, htab, hf, hlo, hSF⟩ := id C
  simp only [] at hc9 hs9
  refine xt_throw (names := exN) (sa := gK γ j) hx hb hSF.tr b0.1 b0.2.1 b0.2.2.1 b0.2.2.2 hown hcls exF.2.2.1 exF.2.2.2 (hSF.2.1 args _ hwk) (hSF.2.1 args _ hwi) (hSF.2.2.2.1 j _ hstr) (fun w hw => hSF.2.1 args _ (hat w hw)) hgood hSF.2.2.2.2.2.2.1 hSF.2.2.2.2.2.2.2.1 hS (hl.1.trans hmx.symm) d0 d3 d4 d6 d9 (by rw [htab, hh]; intro x hx; cases hx) ?_ ?_ hc9 hs9 hlocks ?_ hS.2.2 (Nat.le_refl _) (Nat.le_refl _)
  · simp only [frN] at hf; simp only [List.length_cons, List.length_nil]; omega
  · rw [cats]; simp only [loN] at hlo; simp only [List.length_cons, List.length_nil]; omega
  · intro t hW hz hk
    exact ⟨sh, g, false, hΦ, hR.kept hz hk, (fun h => by cases h), Nat.le_trans hS.1 hz, fun q9 h1 h2 => by rw [hk q9 (Nat.lt_of_lt_of_le h1 hS.1)]; exact hS.2.1 q9 h1 h2⟩
theorem w_throwW {ik is ic j k1 : Nat} {by1 : ByteArray} {cls text : String} (b0 : decode by1 0 = .ok (.aload_n 0, 1) ∧ decode by1 1 = .ok (.aload_n 1, 1) ∧ decode by1 2 = .ok (.invokespecial k1, 3) ∧ decode by1 5 = .ok (.return_, 1)) (hcls : Bundle.fit cls = true) (hwk : Cond.classLink M.1.cls ik cls ∈ lwg) (hwi : Cond.initialized cls ∈ lwg) (hstr : strL[j]? = some (M.1.cls, is, text)) (hat : ∀ w ∈ xt_at M.1.cls ic cls k1 by1 exS exN, w ∈ lwg) (hgood : ∀ w ∈ Cond.classLink M.1.cls ik cls :: Cond.initialized cls :: xt_at M.1.cls ic cls k1 by1 exS exN, vx_ot w = true)
    (d0 : decode M.2.1 pc = .ok (.new ik, 3)) (d3 : decode M.2.1 (pc + 3) = .ok (.dup, 1)) (d4 : decode M.2.1 (pc + 4) = .ok (.ldc_w is, 3)) (d6 : decode M.2.1 (pc + 7) = .ok (.invokespecial ic, 3)) (d9 : decode M.2.1 (pc + 10) = .ok (.athrow, 1)) (hh : M.2.2.2.2 = []) (hcat : (st.map fun v => v.category).sum ≤ 8) (hb : b = (1, 6)) (hΦ : Φ (.inr cls) sh g false) : WA γ M n pc ls st sh g tt b Φ := by
  subst hb
  intro p e R s m args below meth c H locs cells slots Ls C hR ht9 hS hc9 hs9 hl
  obtain ⟨hx, hb, hrt, hmx, hown, hlocks, -, htab, hf, hlo, hSF⟩ := id C
  simp only [] at hc9 hs9
  refine xt_throwW (names := exN) (sa := gK γ j) hx hb hSF.tr b0.1 b0.2.1 b0.2.2.1 b0.2.2.2 hown hcls exF.2.2.1 exF.2.2.2 (hSF.2.1 args _ hwk) (hSF.2.1 args _ hwi) (hSF.2.2.2.1 j _ hstr) (fun w hw => hSF.2.1 args _ (hat w hw)) hgood hSF.2.2.2.2.2.2.1 hSF.2.2.2.2.2.2.2.1 hS (hl.1.trans hmx.symm) d0 d3 d4 d6 d9 (by rw [htab, hh]; intro x hx; cases hx) ?_ ?_ hc9 hs9 hlocks ?_ hS.2.2 (Nat.le_refl _) (Nat.le_refl _)
  · simp only [frN] at hf; simp only [List.length_cons, List.length_nil]; omega
  · rw [cats]; simp only [loN] at hlo; simp only [List.length_cons, List.length_nil]; omega
  · intro t hW hz hk
    exact ⟨sh, g, false, hΦ, hR.kept hz hk, (fun h => by cases h), Nat.le_trans hS.1 hz, fun q9 h1 h2 => by rw [hk q9 (Nat.lt_of_lt_of_le h1 hS.1)]; exact hS.2.1 q9 h1 h2⟩
theorem LH.drop {Ls : Array Slot} {nL i : Nat} {w : Value} (hok : okS ls i = true) (h : lv_has Ls nL ((i, w) :: (la γ ls 0).filter (fun q => !(q.1 == i) && !(q.1 + 1 == i && q.2.category == 2)))) : LH γ Ls nL (ls.set i none) := by
  refine ⟨h.1, h.2.1, fun q hq => ?_⟩
  obtain ⟨j, v, h1, h2⟩ := (la_mem γ _ 0 q).mp hq
  rw [Nat.zero_add] at h2
  rw [List.getElem?_set] at h1
  by_cases hj : i = j
  · subst hj
    rw [if_pos rfl] at h1
    split at h1 <;> cases h1
  · rw [if_neg hj] at h1
    refine h.2.2 q (List.mem_cons_of_mem _ (List.mem_filter.mpr ⟨(la_mem γ ls 0 q).mpr ⟨j, v, h1, by rw [Nat.zero_add]; exact h2⟩, ?_⟩))
    subst h2
    simp only [Bool.and_eq_true, Bool.not_eq_true', beq_eq_false_iff_ne, ne_eq, Bool.and_eq_false_iff]
    refine ⟨fun e => hj e.symm, ?_⟩
    by_cases hji : j + 1 = i
    · right
      subst hji
      rw [cv_cat]
      simp only [okS, h1] at hok
      cases v <;> simp_all [Value.category]
    · left
      exact hji
/-- a call threw, and a row of this method's table takes it; behind the store of what was thrown -/
theorem w_callVc {M' : MI} {n' np idx k ci ln q0 li ct : Nat} {tm : List Nat} {As S : List Value} {g1 : Mem} {b1 b2 : Nat × Nat} {E nm : String} {ls' : List (Option Value)} (pre suf : List (Nat × Nat × Nat × Nat)) (lo hi : Nat)
    (hd : decode M.2.1 pc = .ok (.invokevirtual idx, 3)) (hM : MWv M' np) (hn : n' + 1 ≤ n) (hml : M'.2.2.1 ≤ 180) (hw : Cond.methodLink M.1.cls idx M'.1 ∈ lwg) (hk : k < 1048576) (hs : sh[k]? = some (0, ci, tm, ln)) (hci : ci < 13) (hcl : xC ci = M'.1.cls) (hS9 : S = As.reverse ++ .ref k :: st) (hlen : As.length = np) (hcat : (st.map fun v => v.category).sum ≤ 8)
    (hb : b = (b1.1 + b2.1, b1.2 + b2.2)) (hC : CA γ M' n' (.ref k :: As) sh g tt b1 (pX sh E g1))
    (hsp : M.2.2.2.2 = pre ++ (lo, hi, q0, ct) :: suf) (hlo : lo ≤ pc) (hhi : pc < hi) (hct : ct ≠ 0) (hwc : Cond.classLink M.1.cls ct nm ∈ lwg) (hca : Cond.castable E nm ∈ lwg)
    (hpass : ∀ z ∈ pre, z.2.2.2 ≠ 0 ∧ ∃ nm2 : String, Cond.classLink M.1.cls z.2.2.2 nm2 ∈ lwg ∧ ∀ s : State, SF γ s → va_Nc E nm2 s)
    (hd2 : (∃ f : Fin 4, (f : Nat) = li ∧ decode M.2.1 q0 = .ok (.astore_n f, 1) ∧ q0 + 1 = q) ∨ (decode M.2.1 q0 = .ok (.astore li, 2) ∧ q0 + 2 = q)) (hli : li < M.2.2.1) (hok : okS ls li = true) (hls : ls.set li none = ls')
    (kk : WA γ M n q ls' [] sh g1 false b2 Φ) : WA γ M n pc ls S sh g tt b Φ := by
  subst hls
  intro p e R s m args below meth c H locs cells slots Ls C hR ht9 hS hc9 hs9 hl T hT X
  have hbc : cells + b1.1 ≤ R.cells := by rw [hb] at hc9; simp only [] at hc9; omega
  have hbs : slots + b1.2 ≤ R.slots := by rw [hb] at hs9; simp only [] at hs9; omega
  obtain ⟨hx, hbt, hrt, hmx, hown, hlocks, -, htab, hf, hlo9, hSF⟩ := id C
  have hrun := run_V (M' := M') (n' := n') C hR ht9 hS hl hbc hbs (by rw [← hT]; exact X.heapSize) hd hM hn hml hw hk hs hci hcl hS9 hlen hcat hC
  rcases hrun T hT X with ⟨v9, st₀, t, T', L, h0, X', hL, e1, e2, ⟨w, s2, g2, t2, hv, hΦ, hER⟩, st1⟩ | ⟨q9, st₀, t, T', L, E9, ce, h0, X', hL, e1, e2, ⟨s2, g2, t2, hΦ, hER⟩, hce, hcv, hcl9, st1⟩
  · cases hΦ.1
  · obtain ⟨hw9, rfl, rfl, rfl⟩ := hΦ
    cases hw9
    obtain ⟨k1, k2, k3⟩ := vx_keep h0 e1 hS (fun _ _ h => h) (fun _ h => h) hL hER.2.2
    subst hb
    have kW : W p (gl γ) e R s m args below meth c T'.heap (locs ++ L) (cells + b1.1) (slots + b1.2) (vx_MQ below (QR γ Φ) (QX γ Φ) args s (cells + (b1.1 + b2.1)) (slots + (b1.2 + b2.2)) (gA γ)) (F0 m q0 Ls [.ref q9]) := by
      have k9 : ∀ Ls' : Array Slot, lv_has Ls' M.2.2.1 ((li, Value.ref q9) :: (la γ ls 0).filter (fun q => !(q.1 == li) && !(q.1 + 1 == li && q.2.category == 2))) → W p (gl γ) e R s m args below meth c T'.heap (locs ++ L) (cells + b1.1) (slots + b1.2) (vx_MQ below (QR γ Φ) (QX γ Φ) args s (cells + (b1.1 + b2.1)) (slots + (b1.2 + b2.2)) (gA γ)) (F0 m q Ls' []) := by
        intro Ls' hL'
        have := kk p e R s m args below meth c T'.heap (locs ++ L) (cells + b1.1) (slots + b1.2) Ls' C (by rw [e1]; exact hER.1) (fun h => by cases h) k3 (by rw [Nat.add_assoc]; exact hc9) (by rw [Nat.add_assoc]; exact hs9) (LH.drop hok hL')
        rw [Nat.add_assoc, Nat.add_assoc] at this
        exact this
      rcases hd2 with ⟨f, hf9, hdd, hqq⟩ | ⟨hdd, hqq⟩
      · subst hqq
        exact lv_astore_n hx hbt hdd hf9 hl hli rfl k9
      · subst hqq
        exact lv_astore hx hbt hdd hl hli rfl k9
    have hvx : vx_W p (gl γ) e R s m args below meth c T'.heap (locs ++ L) (cells + b1.1) (slots + b1.2) (vx_MQ below (QR γ Φ) (QX γ Φ) args s (cells + (b1.1 + b2.1)) (slots + (b1.2 + b2.2)) (gA γ)) (F0 m pc Ls (st.map (cv γ))) q9 := by
      refine vx_catch (own := M.1.cls) (name := nm) (E := E) (ce := ce) hown (tableOf pre) ⟨lo, hi, q0, ct⟩ (tableOf suf) ?_ ?_ ?_ hct (hSF.2.1 args _ hwc) (hSF.2.1 args _ hca) (by rw [e1]; exact hce) hcv hcl9 kW
      · rw [htab, hsp]
        simp [tableOf]
      · intro z hz
        obtain ⟨y, hy, rfl⟩ := List.mem_map.mp hz
        obtain ⟨a1, nm2, a2, a3⟩ := hpass y hy
        exact Or.inr ⟨a1, nm2, hSF.2.1 args _ a2, a3 s hSF⟩
      · simp [covers]; omega
    obtain ⟨t2, a1, b1⟩ := hvx T' rfl X'
    exact ⟨t2, st1.trans a1, b1⟩
end Thr
end
