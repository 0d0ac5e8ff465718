/-! the law ahead of its loop (by program: wip/gen/ctor.py) -/
theorem d_Law_main_0 : decode M_Law_main.2.1 0 = .ok (.new 8, 3) := by decide +kernel
theorem d_Law_main_3 : decode M_Law_main.2.1 3 = .ok (.dup, 1) := by decide +kernel
theorem d_Law_main_4 : decode M_Law_main.2.1 4 = .ok (.invokespecial 107, 3) := by decide +kernel
theorem d_Law_main_7 : decode M_Law_main.2.1 7 = .ok (.astore_n 1, 1) := by decide +kernel
theorem d_Law_main_8 : decode M_Law_main.2.1 8 = .ok (.new 108, 3) := by decide +kernel
theorem d_Law_main_11 : decode M_Law_main.2.1 11 = .ok (.dup, 1) := by decide +kernel
theorem d_Law_main_12 : decode M_Law_main.2.1 12 = .ok (.invokespecial 110, 3) := by decide +kernel
theorem d_Law_main_15 : decode M_Law_main.2.1 15 = .ok (.astore_n 2, 1) := by decide +kernel
theorem d_Law_main_16 : decode M_Law_main.2.1 16 = .ok (.iconst 1, 1) := by decide +kernel
theorem d_Law_main_17 : decode M_Law_main.2.1 17 = .ok (.newarray .long, 2) := by decide +kernel
theorem d_Law_main_19 : decode M_Law_main.2.1 19 = .ok (.astore_n 3, 1) := by decide +kernel
theorem d_Law_main_20 : decode M_Law_main.2.1 20 = .ok (.iconst 0, 1) := by decide +kernel
theorem d_Law_main_21 : decode M_Law_main.2.1 21 = .ok (.istore 4, 2) := by decide +kernel
def GF (g : Mem) : Mem := (mrow (gm_20 (mrow (gm_19 (mrow g 0 (fun _ => 0))) 54 (fun _ => 0))) 78 (fun _ => 0))
theorem swf : SW_183 = SH := rfl
theorem law_begin {γ : GG} {g : Mem} {Φ : PO} (k : WA γ M_Law_main 130 23 [some (.ref 2097152), some (.ref 0), some (.ref 54), some (.ref 78), some (.int 0), none, none] [] SH (GF g) true (1000, 6000) Φ) : WA γ M_Law_main 130 0 [some (.ref 2097152), none, none, none, none, none, none] [] SW_0 g true (1079, 32049) Φ := by
  refine w_new (q := 3) (ci := 11) (tm := [1, 0, 0, 1, 1, 1, 1, 1, 1, 1, 1, 1, 1, 1]) (b2 := (1078, 32035)) (sh' := SW_1) (g' := (mrow g 0 (fun _ => 0))) d_Law_main_0 rfl (by decide) kl_Law_8 wn_Hall wi_Hall df_11 (by decide) rfl rfl rfl ?_
  show WA γ M_Law_main 130 3 [some (.ref 2097152), none, none, none, none, none, none] [.ref 0] SW_1 _ true (1078, 32035) _
  refine w_dup (q := 4) d_Law_main_3 rfl rfl ?_
  refine w_callI (q := 7) (M' := M_Hall_init) (n' := 3) (k := 0) (As := []) (g1 := (gm_19 (mrow g 0 (fun _ => 0)))) (sh' := SW_120) (b1 := (53, 4339)) (b2 := (1025, 27696)) d_Law_main_4 rfl mw_Hall_init (by decide) (by decide) ml_Law_107 rfl rfl (leb rfl) rfl (fun _ => rfl) (ct_19) ?_
  refine w_astore_n (q := 8) (ls' := [some (.ref 2097152), some (.ref 0), none, none, none, none, none]) d_Law_main_7 rfl (by decide) rfl rfl ?_
  refine w_new (q := 11) (ci := 12) (tm := [1, 1, 1, 0, 1, 1, 1, 1, 1, 1, 1, 1, 0, 0, 0, 0, 0, 0, 0, 0, 0, 0, 1, 1, 0, 0, 0, 0, 0, 1, 1, 1, 1, 1, 0, 0, 0, 0, 1, 1, 1, 1, 1]) (b2 := (1024, 27653)) (sh' := SW_121) (g' := (mrow (gm_19 (mrow g 0 (fun _ => 0))) 54 (fun _ => 0))) d_Law_main_8 rfl (by decide) kl_Law_108 wn_Model wi_Model df_12 (by decide) rfl rfl rfl ?_
  show WA γ M_Law_main 130 11 [some (.ref 2097152), some (.ref 0), none, none, none, none, none] [.ref 54] SW_121 _ true (1024, 27653) _
  refine w_dup (q := 12) d_Law_main_11 rfl rfl ?_
  refine w_callI (q := 15) (M' := M_Model_init) (n' := 0) (k := 54) (As := []) (g1 := (gm_20 (mrow (gm_19 (mrow g 0 (fun _ => 0))) 54 (fun _ => 0)))) (sh' := SW_182) (b1 := (23, 21652)) (b2 := (1001, 6001)) d_Law_main_12 rfl mw_Model_init (by decide) (by decide) ml_Law_110 rfl rfl (leb rfl) rfl (fun _ => rfl) (ct_20) ?_
  refine w_astore_n (q := 16) (ls' := [some (.ref 2097152), some (.ref 0), some (.ref 54), none, none, none, none]) d_Law_main_15 rfl (by decide) rfl rfl ?_
  refine w_iconst (q := 17) (v := 1) d_Law_main_16 rfl (by decide) ?_
  refine w_newL (q := 19) (N := 1) (b2 := (1000, 6000)) (sh' := SW_183) (g' := (mrow (gm_20 (mrow (gm_19 (mrow g 0 (fun _ => 0))) 54 (fun _ => 0))) 78 (fun _ => 0))) d_Law_main_17 rfl (by decide) rfl (by decide) (by decide) rfl rfl rfl ?_
  show WA γ M_Law_main 130 19 [some (.ref 2097152), some (.ref 0), some (.ref 54), none, none, none, none] [.ref 78] SW_183 _ true (1000, 6000) _
  refine w_astore_n (q := 20) (ls' := [some (.ref 2097152), some (.ref 0), some (.ref 54), some (.ref 78), none, none, none]) d_Law_main_19 rfl (by decide) rfl rfl ?_
  refine w_iconst (q := 21) (v := 0) d_Law_main_20 rfl (by decide) ?_
  refine w_istore (q := 23) (ls' := [some (.ref 2097152), some (.ref 0), some (.ref 54), some (.ref 78), some (.int 0), none, none]) d_Law_main_21 rfl (by decide) rfl rfl ?_
  rw [swf]
  exact k
