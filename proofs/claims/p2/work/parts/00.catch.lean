/-! A handler's search where the classes of the table are linked, not yet resolved: own rows (the search, a row at a time). -/
section XF
theorem xf_link {Q : Handler → Pre} {E : CtlPost} {e : Env} {d : Bool} {acts : List Action} {u : State} {f : JFrame} {a : Addr} {x : ExceptionTableEntry} {t : List ExceptionTableEntry} {c : ClassId} {cell : Cell} (hx : covers x f.pc = true) (h0 : x.catchType ≠ 0)
    (hl : u.vm.ClassLinks e.platform f.method.cls x.catchType c) (hcell : u.heap[a]? = some cell) (hobj : ∀ k, cell.vm ≠ .statics k) (hk : ∃ k, u.vm.classes[cell.cls]? = some k) (hc : ∃ k, u.vm.classes[c]? = some k) :
    wp (findHandler.go f a (x :: t)) Q E e d acts u ↔ if u.vm.assignable cell.cls c = true then Q (.found x.handlerPc) d acts (u.setVm (u.vm.noted f.method.cls x.catchType (.cls c))) else wp (findHandler.go f a t) Q E e d acts (u.setVm (u.vm.noted f.method.cls x.catchType (.cls c))) := by
  simp only [covers] at hx
  obtain ⟨ha, ht⟩ := (resolveClass_links e.toSetting hl).op (op := VmOp.resolveClass f.method.cls x.catchType) rfl
  have hal : u.vm.Alike (u.vm.noted f.method.cls x.catchType (.cls c)) := (Vm.Alike.refl u.vm).noted _ _ _
  obtain ⟨k1, hk1⟩ := hk
  obtain ⟨k2, hk2⟩ := hc
  obtain ⟨k1', hk1', -⟩ := hal.2.2 _ _ hk1
  obtain ⟨k2', hk2', -⟩ := hal.2.2 _ _ hk2
  by_cases hfit : u.vm.assignable cell.cls c = true
  · have hfit' : (u.vm.noted f.method.cls x.catchType (.cls c)).assignable cell.cls c = true := by rw [hal.assignable]; exact hfit
    simp [findHandler.go, hx, h0, ha, ht, hcell, hobj, hk1', hk2', hfit', hfit, VmOp.dirties, VmOp.acts]
  · have hfit' : (u.vm.noted f.method.cls x.catchType (.cls c)).assignable cell.cls c = false := by rw [hal.assignable]; simpa using hfit
    simp [findHandler.go, hx, h0, ha, ht, hcell, hobj, hk1', hk2', hfit', hfit, VmOp.dirties, VmOp.acts]
/-- the whole search: rows that are passed, then one that takes it -/
theorem xf_search {e : Env} {s : State} {f : JFrame} {a : Addr} {cell : Cell} {x : ExceptionTableEntry} {suf : List ExceptionTableEntry} {c4 : ClassId} (hobj : cell.vm.isStatics = false) (hk : ∃ k, s.vm.classes[cell.cls]? = some k)
    (hx : covers x f.pc = true) (h0 : x.catchType ≠ 0) (hl4 : s.vm.ClassLinks e.platform f.method.cls x.catchType c4) (hasg : s.vm.assignable cell.cls c4 = true) :
    ∀ (pre : List ExceptionTableEntry), (∀ z ∈ pre, covers z f.pc = false ∨ (z.catchType ≠ 0 ∧ ∃ c6, s.vm.ClassLinks e.platform f.method.cls z.catchType c6 ∧ s.vm.assignable cell.cls c6 = false)) →
    ∀ u : State, u.heap[a]? = some cell → s.WarmedH u.vm → ∃ vm', s.WarmedH vm' ∧ ∀ (Q : Handler → Pre) (E : CtlPost) (d : Bool) (acts : List Action), wp (findHandler.go f a (pre ++ x :: suf)) Q E e d acts u ↔ Q (.found x.handlerPc) d acts (u.setVm vm') := by
  have look : ∀ (z : ExceptionTableEntry) (c : ClassId) (u : State), s.vm.ClassLinks e.platform f.method.cls z.catchType c → s.WarmedH u.vm → u.vm.ClassLinks e.platform f.method.cls z.catchType c ∧ s.WarmedH (u.vm.noted f.method.cls z.catchType (.cls c)) ∧ (∃ k, u.vm.classes[cell.cls]? = some k) ∧ (∃ k, u.vm.classes[c]? = some k) := by
    intro z c u hl hW
    obtain ⟨dk, _, _, kt, hd, _, _, _, _, hkt, _, hopen⟩ := hl.here
    obtain ⟨k1, hk1⟩ := hk
    obtain ⟨k1', hk1', -⟩ := hW.alike.2.2 _ _ hk1
    obtain ⟨k2', hk2', -⟩ := hW.alike.2.2 _ _ hkt
    exact ⟨hW.classLinks hl, hW.noted hd hopen (State.rightAt_cls hl), ⟨k1', hk1'⟩, ⟨k2', hk2'⟩⟩
  intro pre
  induction pre with
  | nil =>
    intro _ u hcell hW
    obtain ⟨q1, q2, q3, q4⟩ := look x c4 u hl4 hW
    refine ⟨_, q2, fun Q E d acts => ?_⟩
    rw [List.nil_append, xf_link hx h0 q1 hcell (VmData.ne_statics_of hobj) q3 q4, if_pos (by rw [hW.alike.assignable]; exact hasg)]
  | cons y ys ih =>
    intro hp u hcell hW
    have hp' := fun z hz => hp z (List.mem_cons_of_mem _ hz)
    cases hcv : covers y f.pc with
    | false =>
      obtain ⟨vm', w1, w2⟩ := ih hp' u hcell hW
      exact ⟨vm', w1, fun Q E d acts => by rw [List.cons_append, W.findHandler_go_skip hcv]; exact w2 Q E d acts⟩
    | true =>
      rcases hp y List.mem_cons_self with hn | ⟨hy0, c6, hl6, hn6⟩
      · rw [hcv] at hn; cases hn
      · obtain ⟨q1, q2, q3, q4⟩ := look y c6 u hl6 hW
        obtain ⟨vm', w1, w2⟩ := ih hp' (u.setVm (u.vm.noted f.method.cls y.catchType (.cls c6))) hcell q2
        refine ⟨vm', w1, fun Q E d acts => ?_⟩
        rw [List.cons_append, xf_link hcv hy0 q1 hcell (VmData.ne_statics_of hobj) q3 q4, if_neg (by rw [hW.alike.assignable, hn6]; decide), w2, State.setVm_twice]
theorem xf_through {p : Program} {l : Launch} {e : Env} {R : Room} {s : State} {m : MethodId} {args : Array Value} {below : List Frame} {meth : Method} {c : Code} {T : State} {locs : List Loc} {cells slots : Nat}
    (X : Stand p l e R s m args below meth c T locs cells slots) (q : Addr) {g : JFrame} (hg : g.method = m) {cell : Cell} (hcell : T.heap[q]? = some cell) (hobj : cell.vm.isStatics = false) (hk : ∃ k, s.vm.classes[cell.cls]? = some k)
    (pre : List ExceptionTableEntry) (x : ExceptionTableEntry) (suf : List ExceptionTableEntry) (hsplit : c.exceptionTable.toList = pre ++ x :: suf)
    (hpass : ∀ z ∈ pre, covers z g.pc = false ∨ (z.catchType ≠ 0 ∧ ∃ c6, s.vm.ClassLinks e.platform m.cls z.catchType c6 ∧ s.vm.assignable cell.cls c6 = false)) (hx : covers x g.pc = true) (h0 : x.catchType ≠ 0)
    {c4 : ClassId} (hl4 : s.vm.ClassLinks e.platform m.cls x.catchType c4) (hasg : s.vm.assignable cell.cls c4 = true) :
    ∃ vm', Stand p l e R s m args below meth c (T.setVm vm') locs cells slots ∧
      ∀ target, Steps p.tables e below ((T.setVm vm').setTop { g with pc := x.handlerPc, stack := [.ref q] }) target → Steps p.tables e below ((T.setTop g).pushFrame (.throwing q)) target := by
  subst hg
  obtain ⟨vm', w1, w2⟩ := xf_search (e := e) (s := s) (f := g) (a := q) (suf := suf) hobj hk hx h0 hl4 hasg pre hpass ((T.setTop g).pushFrame (.throwing q)) (by rw [Stand.throwing_heap]; exact hcell) (by rw [Stand.throwing_vm]; exact X.warmed)
  refine ⟨vm', X.noted w1, fun target hrest => ?_⟩
  obtain ⟨hgo, hw⟩ := X.here.throwing q
  refine Steps.head hgo hw ?_
  have hm : ((T.setTop g).pushFrame (.throwing q)).vm.method? g.method = some meth := by rw [Stand.throwing_vm]; exact X.method'
  have hF : ∀ (Q : Handler → Pre) (E : CtlPost) (d : Bool) (acts : List Action), wp (findHandler g q) Q E e d acts ((T.setTop g).pushFrame (.throwing q)) ↔ Q (.found x.handlerPc) d acts (((T.setTop g).pushFrame (.throwing q)).setVm vm') := fun Q E d acts => by rw [W.findHandler_eq hm X.code, hsplit]; exact w2 Q E d acts
  have hstep : (stepThrowing e ((T.setTop g).pushFrame (.throwing q)) q (.java g :: T.frames.tail)).Is ((((T.setTop g).pushFrame (.throwing q)).setVm vm').setFrames (.java { g with pc := x.handlerPc, stack := [.ref q] } :: T.frames.tail)) [] := by
    simp only [stepThrowing, searchFrame, vmDo]
    generalize hr : Sem.go _ e false [] ((T.setTop g).pushFrame (.throwing q)) = res
    obtain ⟨as, rfl, ha⟩ := Sem.eq_ok_of hr (a := Handler.found x.handlerPc) (s' := ((T.setTop g).pushFrame (.throwing q)).setVm vm') (acts' := []) (by simp [hF _ _ _ _])
    exact ⟨rfl, ha⟩
  rw [stepThread_throwing (frames_entered X.here.top _), hstep.1]
  obtain ⟨g₀, hg0⟩ := Option.isSome_iff_exists.mp X.here.top
  obtain ⟨r, hr⟩ := State.topJava?_eq_some.mp hg0
  have hr' : (T.setVm vm').frames = .java g₀ :: r := hr
  have e1 : ∀ (U : State) (F G : List Frame), ((U.setFrames F).setVm vm').setFrames G = (U.setVm vm').setFrames G := by
    intro U F G
    have h1 : (U.setFrames F).setVm vm' = (U.setVm vm').setFrames F := rfl
    rw [h1, State.setFrames_setFrames]
  rw [State.setTop_of_frames _ hr'] at hrest
  rw [hr, List.tail_cons, State.pushFrame, e1, State.setTop_of_frames _ hr, e1]
  exact hrest
end XF
