/-! functions and theorems of 24.laws (by program: wip/gen/main.py) -/
def sp_Game_couple (p0 : Int32) (p1 : Int32) (g : Mem) : Option (Int32) := some ((p0 * 6) + p1)
theorem ok_Game_couple {γ : GG} {sh : List Sh} {tt : Bool} {p0 : Int32} {p1 : Int32} {g : Mem} {res : Int32} (h : sp_Game_couple p0 p1 g = some res) : CA γ M_Game_couple 0 [.int p0, .int p1] sh g tt (0, 0) (pI sh res g tt) := by
  refine CA.of mw_Game_couple.1 0 rfl ?_
  show WA γ M_Game_couple 0 0 [some (.int p0), some (.int p1)] [] sh g tt (0, 0) (pI sh res g tt)
  unfold sp_Game_couple at h
  refine w_iload_n (q := 1) d_Game_couple_0 rfl rfl ?_
  refine w_bipush (q := 3) (v := 6) d_Game_couple_1 rfl (by decide) ?_
  refine w_imul (q := 4) d_Game_couple_3 rfl ?_
  refine w_iload_n (q := 5) d_Game_couple_4 rfl rfl ?_
  refine w_iadd (q := 6) d_Game_couple_5 rfl ?_
  cases h
  exact w_ireturn d_Game_couple_6 rfl rfl ⟨rfl, rfl, rfl, rfl⟩
def PL_Game_tellGains_2 (γ : GG) (tt : Bool) (g : Mem) (b : Nat × Nat) (Φ : PO) (s : Int32 × Mem) : Prop := WA γ M_Game_tellGains 4 2 [some (.ref 45), some (.int s.1), none, none] [] SH s.2 tt b Φ
def QL_Game_tellGains_2 (γ : GG) (tt : Bool) (g : Mem) (b : Nat × Nat) (Φ : PO) (x : (Mem)) : Prop := WA γ M_Game_tellGains 4 34 [some (.ref 45), none, none, none] [] SH x tt b Φ
def st_Game_tellGains_2 (F : Nat) (g : Mem) (s : Int32 × Mem) : Option ((Int32 × Mem) ⊕ ((Mem))) := if (s.2 15 0) ≤ s.1 then some (.inr s.2) else (sp_Hair_beyond F 23 15 s.1 0 s.2).bind fun v2 => (wr s.2 46 6 s.1 v2).bind fun g3 => some (.inl (s.1 + 1, g3))
theorem kl_Game_tellGains_2 {γ : GG} {tt : Bool} {F : Nat} {g : Mem} {b : Nat × Nat} {Φ : PO} : ∀ (s : Int32 × Mem) (r : (Int32 × Mem) ⊕ ((Mem))), st_Game_tellGains_2 F g s = some r → RQ (PL_Game_tellGains_2 γ tt g b Φ) (QL_Game_tellGains_2 γ tt g b Φ) r → PL_Game_tellGains_2 γ tt g b Φ s := by
  intro s r h hr
  unfold st_Game_tellGains_2 at h
  unfold PL_Game_tellGains_2
  refine w_iload_n (q := 3) d_Game_tellGains_2 rfl rfl ?_
  refine w_aload_n (q := 4) d_Game_tellGains_3 rfl rfl ?_
  refine w_get (q := 7) (ci := 1) (j := 1) d_Game_tellGains_4 rfl (by decide) fl_Game_31 (by decide) (by decide) s_45 rfl rfl ?_
  refine w_get (q := 10) (ci := 7) (j := 0) d_Game_tellGains_7 rfl (by decide) fl_Game_32 (by decide) i_15.2.1 i_15.1 rfl rfl ?_
  by_cases c1 : (s.2 15 0) ≤ s.1
  · rw [if_pos c1] at h
    refine w_icmp_ge_t (q := 34) d_Game_tellGains_10 rfl c1 ?_
    cases h
    exact w_ls (by exact (And.intro rfl trivial)) hr
  · rw [if_neg c1] at h
    refine w_icmp_ge_f (q := 13) d_Game_tellGains_10 34 rfl rfl c1 ?_
    refine w_aload_n (q := 14) d_Game_tellGains_13 rfl rfl ?_
    refine w_get (q := 17) (ci := 1) (j := 2) d_Game_tellGains_14 rfl (by decide) fl_Game_9 (by decide) (by decide) s_45 rfl rfl ?_
    refine w_iload_n (q := 18) d_Game_tellGains_17 rfl rfl ?_
    refine w_aload_n (q := 19) d_Game_tellGains_18 rfl rfl ?_
    refine w_get (q := 22) (ci := 1) (j := 0) d_Game_tellGains_19 rfl (by decide) fl_Game_21 (by decide) (by decide) s_45 rfl rfl ?_
    refine w_iload_n (q := 23) d_Game_tellGains_22 rfl rfl ?_
    refine w_iconst (q := 24) (v := 0) d_Game_tellGains_23 rfl (by decide) ?_
    obtain ⟨v2, hv, h⟩ := bnd h
    refine w_callVi (q := 27) (M' := M_Hair_beyond) (n' := 3) (k := 23) (As := [.int s.1, .int 0]) (sh' := SH) (b1 := (0, 0)) d_Game_tellGains_24 rfl mw_Hair_beyond (by decide) (by decide) ml_Game_38 i_23.2.1 i_23.1 (by decide) rfl rfl rfl (leb rfl) (bz _) (fun _ => rfl) (ok_Hair_beyond i_23 hv) ?_
    obtain ⟨g3, hv, h⟩ := bnd h
    obtain ⟨hi, hv⟩ := wr_ok hv
    refine w_iast (q := 28) d_Game_tellGains_27 rfl a_46.2 a_46.1 hi hv ?_
    refine w_iinc (q := 31) (ls' := [some (.ref 45), some (.int (s.1 + 1)), none, none]) d_Game_tellGains_28 rfl (by decide) rfl rfl rfl ?_
    refine w_goto (q := 2) d_Game_tellGains_31 rfl ?_
    cases h
    exact w_ls (by exact (And.intro rfl (And.intro rfl trivial))) hr
def PL_Game_tellGains_36 (γ : GG) (tt : Bool) (g : Mem) (b : Nat × Nat) (Φ : PO) (s : Int32 × Mem) : Prop := WA γ M_Game_tellGains 4 36 [some (.ref 45), some (.int s.1), none, none] [] SH s.2 tt b Φ
def QL_Game_tellGains_36 (γ : GG) (tt : Bool) (g : Mem) (b : Nat × Nat) (Φ : PO) (x : (Mem)) : Prop := WA γ M_Game_tellGains 4 131 [none, none, none, none] [] SH x tt b Φ
def PL_Game_tellGains_49 (γ : GG) (tt : Bool) (g : Mem) (k1 : Int32) (b : Nat × Nat) (Φ : PO) (s : Int32 × Mem) : Prop := WA γ M_Game_tellGains 4 49 [some (.ref 45), some (.int k1), some (.int s.1), none] [] SH s.2 tt b Φ
def QL_Game_tellGains_49 (γ : GG) (tt : Bool) (g : Mem) (k1 : Int32) (b : Nat × Nat) (Φ : PO) (x : (Mem)) : Prop := WA γ M_Game_tellGains 4 125 [some (.ref 45), some (.int k1), none, none] [] SH x tt b Φ
def st_Game_tellGains_49 (F : Nat) (g : Mem) (k1 : Int32) (s : Int32 × Mem) : Option ((Int32 × Mem) ⊕ ((Mem))) := if (s.2 15 0) ≤ s.1 then some (.inr s.2) else (rd s.2 46 6 k1).bind fun v7 => (rd s.2 46 6 s.1).bind fun v8 => (sp_Hair_recordsLostBy F 23 15 (v7 ||| v8) s.2).bind fun v9 => (sp_Game_couple k1 s.1 s.2).bind fun v10 => (sp_Hair_valuesOf F 23 15 v9 0 s.2).bind fun v11 => (wr s.2 47 36 v10 v11).bind fun g12 => (sp_Game_couple k1 s.1 g12).bind fun v13 => (sp_Hair_valuesOf F 23 15 v9 1 g12).bind fun v14 => (wr g12 48 36 v13 v14).bind fun g15 => some (.inl (s.1 + 1, g15))
theorem kl_Game_tellGains_49 {γ : GG} {tt : Bool} {F : Nat} {g : Mem} {k1 : Int32} {b : Nat × Nat} {Φ : PO} : ∀ (s : Int32 × Mem) (r : (Int32 × Mem) ⊕ ((Mem))), st_Game_tellGains_49 F g k1 s = some r → RQ (PL_Game_tellGains_49 γ tt g k1 b Φ) (QL_Game_tellGains_49 γ tt g k1 b Φ) r → PL_Game_tellGains_49 γ tt g k1 b Φ s := by
  intro s r h hr
  unfold st_Game_tellGains_49 at h
  unfold PL_Game_tellGains_49
  refine w_iload_n (q := 50) d_Game_tellGains_49 rfl rfl ?_
  refine w_aload_n (q := 51) d_Game_tellGains_50 rfl rfl ?_
  refine w_get (q := 54) (ci := 1) (j := 1) d_Game_tellGains_51 rfl (by decide) fl_Game_31 (by decide) (by decide) s_45 rfl rfl ?_
  refine w_get (q := 57) (ci := 7) (j := 0) d_Game_tellGains_54 rfl (by decide) fl_Game_32 (by decide) i_15.2.1 i_15.1 rfl rfl ?_
  by_cases c6 : (s.2 15 0) ≤ s.1
  · rw [if_pos c6] at h
    refine w_icmp_ge_t (q := 125) d_Game_tellGains_57 rfl c6 ?_
    cases h
    exact w_ls (by exact (And.intro rfl (And.intro rfl trivial))) hr
  · rw [if_neg c6] at h
    refine w_icmp_ge_f (q := 60) d_Game_tellGains_57 125 rfl rfl c6 ?_
    refine w_aload_n (q := 61) d_Game_tellGains_60 rfl rfl ?_
    refine w_get (q := 64) (ci := 1) (j := 0) d_Game_tellGains_61 rfl (by decide) fl_Game_21 (by decide) (by decide) s_45 rfl rfl ?_
    refine w_aload_n (q := 65) d_Game_tellGains_64 rfl rfl ?_
    refine w_get (q := 68) (ci := 1) (j := 2) d_Game_tellGains_65 rfl (by decide) fl_Game_9 (by decide) (by decide) s_45 rfl rfl ?_
    refine w_iload_n (q := 69) d_Game_tellGains_68 rfl rfl ?_
    obtain ⟨v7, hv, h⟩ := bnd h
    obtain ⟨hi, hv⟩ := rd_ok hv
    refine w_iald (q := 70) (t := 0) d_Game_tellGains_69 rfl a_46.2 a_46.1 hi rfl ?_
    rw [hv]
    refine w_aload_n (q := 71) d_Game_tellGains_70 rfl rfl ?_
    refine w_get (q := 74) (ci := 1) (j := 2) d_Game_tellGains_71 rfl (by decide) fl_Game_9 (by decide) (by decide) s_45 rfl rfl ?_
    refine w_iload_n (q := 75) d_Game_tellGains_74 rfl rfl ?_
    obtain ⟨v8, hv, h⟩ := bnd h
    obtain ⟨hi, hv⟩ := rd_ok hv
    refine w_iald (q := 76) (t := 0) d_Game_tellGains_75 rfl a_46.2 a_46.1 hi rfl ?_
    rw [hv]
    refine w_ior (q := 77) d_Game_tellGains_76 rfl ?_
    obtain ⟨v9, hv, h⟩ := bnd h
    refine w_callVi (q := 80) (M' := M_Hair_recordsLostBy) (n' := 2) (k := 23) (As := [.int (v7 ||| v8)]) (sh' := SH) (b1 := (0, 0)) d_Game_tellGains_77 rfl mw_Hair_recordsLostBy (by decide) (by decide) ml_Game_42 i_23.2.1 i_23.1 (by decide) rfl rfl rfl (leb rfl) (bz _) (fun _ => rfl) (ok_Hair_recordsLostBy i_23 hv) ?_
    refine w_istore_n (q := 81) (ls' := [some (.ref 45), some (.int k1), some (.int s.1), some (.int v9)]) d_Game_tellGains_80 rfl (by decide) rfl rfl ?_
    refine w_aload_n (q := 82) d_Game_tellGains_81 rfl rfl ?_
    refine w_get (q := 85) (ci := 1) (j := 3) d_Game_tellGains_82 rfl (by decide) fl_Game_15 (by decide) (by decide) s_45 rfl rfl ?_
    refine w_iload_n (q := 86) d_Game_tellGains_85 rfl rfl ?_
    refine w_iload_n (q := 87) d_Game_tellGains_86 rfl rfl ?_
    obtain ⟨v10, hv, h⟩ := bnd h
    refine w_callSi (q := 90) (M' := M_Game_couple) (n' := 0) (As := [.int k1, .int s.1]) (sh' := SH) (b1 := (0, 0)) d_Game_tellGains_87 rfl mw_Game_couple (by decide) (by decide) ml_Game_46 rfl rfl (leb rfl) (bz _) (fun _ => rfl) (ok_Game_couple hv) ?_
    refine w_aload_n (q := 91) d_Game_tellGains_90 rfl rfl ?_
    refine w_get (q := 94) (ci := 1) (j := 0) d_Game_tellGains_91 rfl (by decide) fl_Game_21 (by decide) (by decide) s_45 rfl rfl ?_
    refine w_iload_n (q := 95) d_Game_tellGains_94 rfl rfl ?_
    refine w_iconst (q := 96) (v := 0) d_Game_tellGains_95 rfl (by decide) ?_
    obtain ⟨v11, hv, h⟩ := bnd h
    refine w_callVi (q := 99) (M' := M_Hair_valuesOf) (n' := 1) (k := 23) (As := [.int v9, .int 0]) (sh' := SH) (b1 := (0, 0)) d_Game_tellGains_96 rfl mw_Hair_valuesOf (by decide) (by decide) ml_Game_49 i_23.2.1 i_23.1 (by decide) rfl rfl rfl (leb rfl) (bz _) (fun _ => rfl) (ok_Hair_valuesOf i_23 hv) ?_
    obtain ⟨g12, hv, h⟩ := bnd h
    obtain ⟨hi, hv⟩ := wr_ok hv
    refine w_iast (q := 100) d_Game_tellGains_99 rfl a_47.2 a_47.1 hi hv ?_
    refine w_aload_n (q := 101) d_Game_tellGains_100 rfl rfl ?_
    refine w_get (q := 104) (ci := 1) (j := 4) d_Game_tellGains_101 rfl (by decide) fl_Game_18 (by decide) (by decide) s_45 rfl rfl ?_
    refine w_iload_n (q := 105) d_Game_tellGains_104 rfl rfl ?_
    refine w_iload_n (q := 106) d_Game_tellGains_105 rfl rfl ?_
    obtain ⟨v13, hv, h⟩ := bnd h
    refine w_callSi (q := 109) (M' := M_Game_couple) (n' := 0) (As := [.int k1, .int s.1]) (sh' := SH) (b1 := (0, 0)) d_Game_tellGains_106 rfl mw_Game_couple (by decide) (by decide) ml_Game_46 rfl rfl (leb rfl) (bz _) (fun _ => rfl) (ok_Game_couple hv) ?_
    refine w_aload_n (q := 110) d_Game_tellGains_109 rfl rfl ?_
    refine w_get (q := 113) (ci := 1) (j := 0) d_Game_tellGains_110 rfl (by decide) fl_Game_21 (by decide) (by decide) s_45 rfl rfl ?_
    refine w_iload_n (q := 114) d_Game_tellGains_113 rfl rfl ?_
    refine w_iconst (q := 115) (v := 1) d_Game_tellGains_114 rfl (by decide) ?_
    obtain ⟨v14, hv, h⟩ := bnd h
    refine w_callVi (q := 118) (M' := M_Hair_valuesOf) (n' := 1) (k := 23) (As := [.int v9, .int 1]) (sh' := SH) (b1 := (0, 0)) d_Game_tellGains_115 rfl mw_Hair_valuesOf (by decide) (by decide) ml_Game_49 i_23.2.1 i_23.1 (by decide) rfl rfl rfl (leb rfl) (bz _) (fun _ => rfl) (ok_Hair_valuesOf i_23 hv) ?_
    obtain ⟨g15, hv, h⟩ := bnd h
    obtain ⟨hi, hv⟩ := wr_ok hv
    refine w_iast (q := 119) d_Game_tellGains_118 rfl a_48.2 a_48.1 hi hv ?_
    refine w_iinc (q := 122) (ls' := [some (.ref 45), some (.int k1), some (.int (s.1 + 1)), some (.int v9)]) d_Game_tellGains_119 rfl (by decide) rfl rfl rfl ?_
    refine w_goto (q := 49) d_Game_tellGains_122 rfl ?_
    cases h
    exact w_ls (by exact (And.intro rfl (And.intro rfl (And.intro rfl trivial)))) hr
def st_Game_tellGains_36 (F : Nat) (g : Mem) (s : Int32 × Mem) : Option ((Int32 × Mem) ⊕ ((Mem))) := if (s.2 15 0) ≤ s.1 then some (.inr s.2) else (lpO (st_Game_tellGains_49 F g s.1) F (0, s.2)).bind fun x16 => some (.inl (s.1 + 1, x16))
theorem kl_Game_tellGains_36 {γ : GG} {tt : Bool} {F : Nat} {g : Mem} {b : Nat × Nat} {Φ : PO} : ∀ (s : Int32 × Mem) (r : (Int32 × Mem) ⊕ ((Mem))), st_Game_tellGains_36 F g s = some r → RQ (PL_Game_tellGains_36 γ tt g b Φ) (QL_Game_tellGains_36 γ tt g b Φ) r → PL_Game_tellGains_36 γ tt g b Φ s := by
  intro s r h hr
  unfold st_Game_tellGains_36 at h
  unfold PL_Game_tellGains_36
  refine w_iload_n (q := 37) d_Game_tellGains_36 rfl rfl ?_
  refine w_aload_n (q := 38) d_Game_tellGains_37 rfl rfl ?_
  refine w_get (q := 41) (ci := 1) (j := 1) d_Game_tellGains_38 rfl (by decide) fl_Game_31 (by decide) (by decide) s_45 rfl rfl ?_
  refine w_get (q := 44) (ci := 7) (j := 0) d_Game_tellGains_41 rfl (by decide) fl_Game_32 (by decide) i_15.2.1 i_15.1 rfl rfl ?_
  by_cases c5 : (s.2 15 0) ≤ s.1
  · rw [if_pos c5] at h
    refine w_icmp_ge_t (q := 131) d_Game_tellGains_44 rfl c5 ?_
    cases h
    exact w_ls (by exact trivial) hr
  · rw [if_neg c5] at h
    refine w_icmp_ge_f (q := 47) d_Game_tellGains_44 131 rfl rfl c5 ?_
    refine w_iconst (q := 48) (v := 0) d_Game_tellGains_47 rfl (by decide) ?_
    refine w_istore_n (q := 49) (ls' := [some (.ref 45), some (.int s.1), some (.int 0), none]) d_Game_tellGains_48 rfl (by decide) rfl rfl ?_
    obtain ⟨x16, hx, h⟩ := bnd h
    refine w_ls (ls' := [some (.ref 45), some (.int s.1), some (.int 0), none]) (And.intro rfl (And.intro rfl (And.intro rfl trivial))) ?_
    show PL_Game_tellGains_49 γ tt g s.1 _ _ (0, s.2)
    refine lp_ok (kl_Game_tellGains_49) F _ x16 hx ?_
    unfold QL_Game_tellGains_49
    refine w_iinc (q := 128) (ls' := [some (.ref 45), some (.int (s.1 + 1)), none, none]) d_Game_tellGains_125 rfl (by decide) rfl rfl rfl ?_
    refine w_goto (q := 36) d_Game_tellGains_128 rfl ?_
    cases h
    exact w_ls (by exact (And.intro rfl (And.intro rfl trivial))) hr
def sp_Game_tellGains (F : Nat) (g : Mem) : Option (Mem) := (lpO (st_Game_tellGains_2 F g) F (0, g)).bind fun x4 => (lpO (st_Game_tellGains_36 F g) F (0, x4)).bind fun x17 => some x17
theorem ok_Game_tellGains {γ : GG} {tt : Bool} {F : Nat} {g : Mem} {res : Mem} (h : sp_Game_tellGains F g = some res) : CA γ M_Game_tellGains 4 [.ref 45] SH g tt (0, 0) (pV SH res tt) := by
  refine CA.of mw_Game_tellGains.1 3 rfl ?_
  show WA γ M_Game_tellGains 4 0 [some (.ref 45), none, none, none] [] SH g tt (0, 0) (pV SH res tt)
  unfold sp_Game_tellGains at h
  refine w_iconst (q := 1) (v := 0) d_Game_tellGains_0 rfl (by decide) ?_
  refine w_istore_n (q := 2) (ls' := [some (.ref 45), some (.int 0), none, none]) d_Game_tellGains_1 rfl (by decide) rfl rfl ?_
  obtain ⟨x4, hx, h⟩ := bnd h
  refine w_ls (ls' := [some (.ref 45), some (.int 0), none, none]) (And.intro rfl (And.intro rfl trivial)) ?_
  show PL_Game_tellGains_2 γ tt g _ _ (0, g)
  refine lp_ok (kl_Game_tellGains_2) F _ x4 hx ?_
  unfold QL_Game_tellGains_2
  refine w_iconst (q := 35) (v := 0) d_Game_tellGains_34 rfl (by decide) ?_
  refine w_istore_n (q := 36) (ls' := [some (.ref 45), some (.int 0), none, none]) d_Game_tellGains_35 rfl (by decide) rfl rfl ?_
  obtain ⟨x17, hx, h⟩ := bnd h
  refine w_ls (ls' := [some (.ref 45), some (.int 0), none, none]) (And.intro rfl (And.intro rfl trivial)) ?_
  show PL_Game_tellGains_36 γ tt g _ _ (0, x4)
  refine lp_ok (kl_Game_tellGains_36) F _ x17 hx ?_
  unfold QL_Game_tellGains_36
  cases h
  exact w_return d_Game_tellGains_131 rfl ⟨rfl, rfl, rfl, rfl⟩
def sp_Game_isShavable (p0 : Int32) (g : Mem) : Option (Int32) := (rd g (15 + 1) 6 p0).bind fun v1 => if v1 = 3 then some 0 else some 1
theorem ok_Game_isShavable {γ : GG} {tt : Bool} {p0 : Int32} {g : Mem} {res : Int32} (h : sp_Game_isShavable p0 g = some res) : CA γ M_Game_isShavable 0 [.ref 45, .int p0] SH g tt (0, 0) (pI SH res g tt) := by
  refine CA.of mw_Game_isShavable.1 0 rfl ?_
  show WA γ M_Game_isShavable 0 0 [some (.ref 45), some (.int p0)] [] SH g tt (0, 0) (pI SH res g tt)
  unfold sp_Game_isShavable at h
  refine w_aload_n (q := 1) d_Game_isShavable_0 rfl rfl ?_
  refine w_get (q := 4) (ci := 1) (j := 1) d_Game_isShavable_1 rfl (by decide) fl_Game_31 (by decide) (by decide) s_45 rfl rfl ?_
  refine w_get (q := 7) (ci := 7) (j := 4) d_Game_isShavable_4 rfl (by decide) fl_Game_52 (by decide) i_15.2.1 i_15.1 rfl rfl ?_
  refine w_iload_n (q := 8) d_Game_isShavable_7 rfl rfl ?_
  obtain ⟨v1, hv, h⟩ := bnd h
  obtain ⟨hi, hv⟩ := rd_ok hv
  refine w_iald (q := 9) (t := 0) d_Game_isShavable_8 rfl i_15.2.2.1.2 i_15.2.2.1.1 hi rfl ?_
  rw [hv]
  refine w_iconst (q := 10) (v := 3) d_Game_isShavable_9 rfl (by decide) ?_
  by_cases c2 : v1 = 3
  · rw [if_pos c2] at h
    refine w_icmp_eq_t (q := 17) d_Game_isShavable_10 rfl c2 ?_
    refine w_iconst (q := 18) (v := 0) d_Game_isShavable_17 rfl (by decide) ?_
    cases h
    exact w_ireturn d_Game_isShavable_18 rfl rfl ⟨rfl, rfl, rfl, rfl⟩
  · rw [if_neg c2] at h
    refine w_icmp_eq_f (q := 13) d_Game_isShavable_10 17 rfl rfl c2 ?_
    refine w_iconst (q := 14) (v := 1) d_Game_isShavable_13 rfl (by decide) ?_
    refine w_goto (q := 18) d_Game_isShavable_14 rfl ?_
    cases h
    exact w_ireturn d_Game_isShavable_18 rfl rfl ⟨rfl, rfl, rfl, rfl⟩
def PL_Game_rests_20 (γ : GG) (tt : Bool) (p0 : Int32) (p1 : Int32) (g : Mem) (k1 : Int32) (k2 : Int32) (b : Nat × Nat) (Φ : PO) (s : Int32) : Prop := WA γ M_Game_rests 1 20 [some (.ref 45), some (.int k1), some (.int k2), some (.int s)] [] SH g tt b Φ
def QL_Game_rests_20 (γ : GG) (tt : Bool) (p0 : Int32) (p1 : Int32) (g : Mem) (k1 : Int32) (k2 : Int32) (b : Nat × Nat) (Φ : PO) (x : (Unit) ⊕ (Unit)) : Prop := match x with
  | .inl x => WA γ M_Game_rests 1 85 [none, none, none, none] [] SH g tt b Φ
  | .inr x => WA γ M_Game_rests 1 93 [none, none, none, none] [] SH g tt b Φ
def st_Game_rests_20 (F : Nat) (p0 : Int32) (p1 : Int32) (g : Mem) (k1 : Int32) (k2 : Int32) (s : Int32) : Option ((Int32) ⊕ ((Unit) ⊕ (Unit))) := if (g 15 0) ≤ s then some (.inr (.inr ())) else (sp_Game_isShavable s g).bind fun v6 => if v6 = 0 then some (.inl (s + 1)) else (sp_Game_couple s k2 g).bind fun v8 => (rd g 47 36 v8).bind fun v9 => (sp_Game_couple k1 k2 g).bind fun v10 => (rd g 47 36 v10).bind fun v11 => if v11 < v9 then some (.inr (.inl ())) else (sp_Game_couple k1 s g).bind fun v13 => (rd g 48 36 v13).bind fun v14 => (sp_Game_couple k1 k2 g).bind fun v15 => (rd g 48 36 v15).bind fun v16 => if v14 ≤ v16 then some (.inl (s + 1)) else some (.inr (.inl ()))
theorem kl_Game_rests_20 {γ : GG} {tt : Bool} {F : Nat} {p0 : Int32} {p1 : Int32} {g : Mem} {k1 : Int32} {k2 : Int32} {b : Nat × Nat} {Φ : PO} : ∀ (s : Int32) (r : (Int32) ⊕ ((Unit) ⊕ (Unit))), st_Game_rests_20 F p0 p1 g k1 k2 s = some r → RQ (PL_Game_rests_20 γ tt p0 p1 g k1 k2 b Φ) (QL_Game_rests_20 γ tt p0 p1 g k1 k2 b Φ) r → PL_Game_rests_20 γ tt p0 p1 g k1 k2 b Φ s := by
  intro s r h hr
  unfold st_Game_rests_20 at h
  unfold PL_Game_rests_20
  refine w_iload_n (q := 21) d_Game_rests_20 rfl rfl ?_
  refine w_aload_n (q := 22) d_Game_rests_21 rfl rfl ?_
  refine w_get (q := 25) (ci := 1) (j := 1) d_Game_rests_22 rfl (by decide) fl_Game_31 (by decide) (by decide) s_45 rfl rfl ?_
  refine w_get (q := 28) (ci := 7) (j := 0) d_Game_rests_25 rfl (by decide) fl_Game_32 (by decide) i_15.2.1 i_15.1 rfl rfl ?_
  by_cases c5 : (g 15 0) ≤ s
  · rw [if_pos c5] at h
    refine w_icmp_ge_t (q := 93) d_Game_rests_28 rfl c5 ?_
    cases h
    exact w_ls (by exact trivial) hr
  · rw [if_neg c5] at h
    refine w_icmp_ge_f (q := 31) d_Game_rests_28 93 rfl rfl c5 ?_
    refine w_aload_n (q := 32) d_Game_rests_31 rfl rfl ?_
    refine w_iload_n (q := 33) d_Game_rests_32 rfl rfl ?_
    obtain ⟨v6, hv, h⟩ := bnd h
    refine w_callVi (q := 36) (M' := M_Game_isShavable) (n' := 0) (k := 45) (As := [.int s]) (sh' := SH) (b1 := (0, 0)) d_Game_rests_33 rfl mw_Game_isShavable (by decide) (by decide) ml_Game_55 (by decide) s_45 (by decide) rfl rfl rfl (leb rfl) (bz _) (fun _ => rfl) (ok_Game_isShavable hv) ?_
    by_cases c7 : v6 = 0
    · rw [if_pos c7] at h
      refine w_if_eq_t (q := 87) d_Game_rests_36 rfl c7 ?_
      refine w_iinc (q := 90) (ls' := [some (.ref 45), some (.int k1), some (.int k2), some (.int (s + 1))]) d_Game_rests_87 rfl (by decide) rfl rfl rfl ?_
      refine w_goto (q := 20) d_Game_rests_90 rfl ?_
      cases h
      exact w_ls (by exact (And.intro rfl (And.intro rfl (And.intro rfl (And.intro rfl trivial))))) hr
    · rw [if_neg c7] at h
      refine w_if_eq_f (q := 39) d_Game_rests_36 87 rfl rfl c7 ?_
      refine w_aload_n (q := 40) d_Game_rests_39 rfl rfl ?_
      refine w_get (q := 43) (ci := 1) (j := 3) d_Game_rests_40 rfl (by decide) fl_Game_15 (by decide) (by decide) s_45 rfl rfl ?_
      refine w_iload_n (q := 44) d_Game_rests_43 rfl rfl ?_
      refine w_iload_n (q := 45) d_Game_rests_44 rfl rfl ?_
      obtain ⟨v8, hv, h⟩ := bnd h
      refine w_callSi (q := 48) (M' := M_Game_couple) (n' := 0) (As := [.int s, .int k2]) (sh' := SH) (b1 := (0, 0)) d_Game_rests_45 rfl mw_Game_couple (by decide) (by decide) ml_Game_46 rfl rfl (leb rfl) (bz _) (fun _ => rfl) (ok_Game_couple hv) ?_
      obtain ⟨v9, hv, h⟩ := bnd h
      obtain ⟨hi, hv⟩ := rd_ok hv
      refine w_iald (q := 49) (t := 0) d_Game_rests_48 rfl a_47.2 a_47.1 hi rfl ?_
      rw [hv]
      refine w_aload_n (q := 50) d_Game_rests_49 rfl rfl ?_
      refine w_get (q := 53) (ci := 1) (j := 3) d_Game_rests_50 rfl (by decide) fl_Game_15 (by decide) (by decide) s_45 rfl rfl ?_
      refine w_iload_n (q := 54) d_Game_rests_53 rfl rfl ?_
      refine w_iload_n (q := 55) d_Game_rests_54 rfl rfl ?_
      obtain ⟨v10, hv, h⟩ := bnd h
      refine w_callSi (q := 58) (M' := M_Game_couple) (n' := 0) (As := [.int k1, .int k2]) (sh' := SH) (b1 := (0, 0)) d_Game_rests_55 rfl mw_Game_couple (by decide) (by decide) ml_Game_46 rfl rfl (leb rfl) (bz _) (fun _ => rfl) (ok_Game_couple hv) ?_
      obtain ⟨v11, hv, h⟩ := bnd h
      obtain ⟨hi, hv⟩ := rd_ok hv
      refine w_iald (q := 59) (t := 0) d_Game_rests_58 rfl a_47.2 a_47.1 hi rfl ?_
      rw [hv]
      by_cases c12 : v11 < v9
      · rw [if_pos c12] at h
        refine w_icmp_gt_t (q := 85) d_Game_rests_59 rfl c12 ?_
        cases h
        exact w_ls (by exact trivial) hr
      · rw [if_neg c12] at h
        refine w_icmp_gt_f (q := 62) d_Game_rests_59 85 rfl rfl c12 ?_
        refine w_aload_n (q := 63) d_Game_rests_62 rfl rfl ?_
        refine w_get (q := 66) (ci := 1) (j := 4) d_Game_rests_63 rfl (by decide) fl_Game_18 (by decide) (by decide) s_45 rfl rfl ?_
        refine w_iload_n (q := 67) d_Game_rests_66 rfl rfl ?_
        refine w_iload_n (q := 68) d_Game_rests_67 rfl rfl ?_
        obtain ⟨v13, hv, h⟩ := bnd h
        refine w_callSi (q := 71) (M' := M_Game_couple) (n' := 0) (As := [.int k1, .int s]) (sh' := SH) (b1 := (0, 0)) d_Game_rests_68 rfl mw_Game_couple (by decide) (by decide) ml_Game_46 rfl rfl (leb rfl) (bz _) (fun _ => rfl) (ok_Game_couple hv) ?_
        obtain ⟨v14, hv, h⟩ := bnd h
        obtain ⟨hi, hv⟩ := rd_ok hv
        refine w_iald (q := 72) (t := 0) d_Game_rests_71 rfl a_48.2 a_48.1 hi rfl ?_
        rw [hv]
        refine w_aload_n (q := 73) d_Game_rests_72 rfl rfl ?_
        refine w_get (q := 76) (ci := 1) (j := 4) d_Game_rests_73 rfl (by decide) fl_Game_18 (by decide) (by decide) s_45 rfl rfl ?_
        refine w_iload_n (q := 77) d_Game_rests_76 rfl rfl ?_
        refine w_iload_n (q := 78) d_Game_rests_77 rfl rfl ?_
        obtain ⟨v15, hv, h⟩ := bnd h
        refine w_callSi (q := 81) (M' := M_Game_couple) (n' := 0) (As := [.int k1, .int k2]) (sh' := SH) (b1 := (0, 0)) d_Game_rests_78 rfl mw_Game_couple (by decide) (by decide) ml_Game_46 rfl rfl (leb rfl) (bz _) (fun _ => rfl) (ok_Game_couple hv) ?_
        obtain ⟨v16, hv, h⟩ := bnd h
        obtain ⟨hi, hv⟩ := rd_ok hv
        refine w_iald (q := 82) (t := 0) d_Game_rests_81 rfl a_48.2 a_48.1 hi rfl ?_
        rw [hv]
        by_cases c17 : v14 ≤ v16
        · rw [if_pos c17] at h
          refine w_icmp_le_t (q := 87) d_Game_rests_82 rfl c17 ?_
          refine w_iinc (q := 90) (ls' := [some (.ref 45), some (.int k1), some (.int k2), some (.int (s + 1))]) d_Game_rests_87 rfl (by decide) rfl rfl rfl ?_
          refine w_goto (q := 20) d_Game_rests_90 rfl ?_
          cases h
          exact w_ls (by exact (And.intro rfl (And.intro rfl (And.intro rfl (And.intro rfl trivial))))) hr
        · rw [if_neg c17] at h
          refine w_icmp_le_f (q := 85) d_Game_rests_82 87 rfl rfl c17 ?_
          cases h
          exact w_ls (by exact trivial) hr
def sp_Game_rests (F : Nat) (p0 : Int32) (p1 : Int32) (g : Mem) : Option (Int32) := (sp_Game_isShavable p0 g).bind fun v1 => if v1 = 0 then some 0 else (sp_Game_isShavable p1 g).bind fun v3 => if v3 = 0 then some 0 else (lpO (st_Game_rests_20 F p0 p1 g p0 p1) F 0).bind fun x18 => match x18 with | .inl x19 => some 0 | .inr x20 => some 1
theorem ok_Game_rests {γ : GG} {tt : Bool} {F : Nat} {p0 : Int32} {p1 : Int32} {g : Mem} {res : Int32} (h : sp_Game_rests F p0 p1 g = some res) : CA γ M_Game_rests 1 [.ref 45, .int p0, .int p1] SH g tt (0, 0) (pI SH res g tt) := by
  refine CA.of mw_Game_rests.1 1 rfl ?_
  show WA γ M_Game_rests 1 0 [some (.ref 45), some (.int p0), some (.int p1), none] [] SH g tt (0, 0) (pI SH res g tt)
  unfold sp_Game_rests at h
  refine w_aload_n (q := 1) d_Game_rests_0 rfl rfl ?_
  refine w_iload_n (q := 2) d_Game_rests_1 rfl rfl ?_
  obtain ⟨v1, hv, h⟩ := bnd h
  refine w_callVi (q := 5) (M' := M_Game_isShavable) (n' := 0) (k := 45) (As := [.int p0]) (sh' := SH) (b1 := (0, 0)) d_Game_rests_2 rfl mw_Game_isShavable (by decide) (by decide) ml_Game_55 (by decide) s_45 (by decide) rfl rfl rfl (leb rfl) (bz _) (fun _ => rfl) (ok_Game_isShavable hv) ?_
  by_cases c2 : v1 = 0
  · rw [if_pos c2] at h
    refine w_if_eq_t (q := 16) d_Game_rests_5 rfl c2 ?_
    refine w_iconst (q := 17) (v := 0) d_Game_rests_16 rfl (by decide) ?_
    cases h
    exact w_ireturn d_Game_rests_17 rfl rfl ⟨rfl, rfl, rfl, rfl⟩
  · rw [if_neg c2] at h
    refine w_if_eq_f (q := 8) d_Game_rests_5 16 rfl rfl c2 ?_
    refine w_aload_n (q := 9) d_Game_rests_8 rfl rfl ?_
    refine w_iload_n (q := 10) d_Game_rests_9 rfl rfl ?_
    obtain ⟨v3, hv, h⟩ := bnd h
    refine w_callVi (q := 13) (M' := M_Game_isShavable) (n' := 0) (k := 45) (As := [.int p1]) (sh' := SH) (b1 := (0, 0)) d_Game_rests_10 rfl mw_Game_isShavable (by decide) (by decide) ml_Game_55 (by decide) s_45 (by decide) rfl rfl rfl (leb rfl) (bz _) (fun _ => rfl) (ok_Game_isShavable hv) ?_
    by_cases c4 : v3 = 0
    · rw [if_pos c4] at h
      refine w_if_ne_f (q := 16) d_Game_rests_13 18 rfl rfl c4 ?_
      refine w_iconst (q := 17) (v := 0) d_Game_rests_16 rfl (by decide) ?_
      cases h
      exact w_ireturn d_Game_rests_17 rfl rfl ⟨rfl, rfl, rfl, rfl⟩
    · rw [if_neg c4] at h
      refine w_if_ne_t (q := 18) d_Game_rests_13 rfl c4 ?_
      refine w_iconst (q := 19) (v := 0) d_Game_rests_18 rfl (by decide) ?_
      refine w_istore_n (q := 20) (ls' := [some (.ref 45), some (.int p0), some (.int p1), some (.int 0)]) d_Game_rests_19 rfl (by decide) rfl rfl ?_
      obtain ⟨x18, hx, h⟩ := bnd h
      refine w_ls (ls' := [some (.ref 45), some (.int p0), some (.int p1), some (.int 0)]) (And.intro rfl (And.intro rfl (And.intro rfl (And.intro rfl trivial)))) ?_
      show PL_Game_rests_20 γ tt p0 p1 g p0 p1 _ _ 0
      refine lp_ok (kl_Game_rests_20) F _ x18 hx ?_
      unfold QL_Game_rests_20
      rcases x18 with x19 | x20
      · dsimp only at h ⊢
        refine w_iconst (q := 86) (v := 0) d_Game_rests_85 rfl (by decide) ?_
        cases h
        exact w_ireturn d_Game_rests_86 rfl rfl ⟨rfl, rfl, rfl, rfl⟩
      · dsimp only at h ⊢
        refine w_iconst (q := 94) (v := 1) d_Game_rests_93 rfl (by decide) ?_
        cases h
        exact w_ireturn d_Game_rests_94 rfl rfl ⟨rfl, rfl, rfl, rfl⟩
def PL_Game_resting_4 (γ : GG) (tt : Bool) (g : Mem) (b : Nat × Nat) (Φ : PO) (s : Int32 × Int32) : Prop := WA γ M_Game_resting 2 4 [some (.ref 45), some (.int s.1), some (.int s.2), none] [] SH g tt b Φ
def QL_Game_resting_4 (γ : GG) (tt : Bool) (g : Mem) (b : Nat × Nat) (Φ : PO) (x : (Int32)) : Prop := WA γ M_Game_resting 2 52 [none, some (.int x), none, none] [] SH g tt b Φ
def PL_Game_resting_17 (γ : GG) (tt : Bool) (g : Mem) (k2 : Int32) (b : Nat × Nat) (Φ : PO) (s : Int32 × Int32) : Prop := WA γ M_Game_resting 2 17 [some (.ref 45), some (.int s.1), some (.int k2), some (.int s.2)] [] SH g tt b Φ
def QL_Game_resting_17 (γ : GG) (tt : Bool) (g : Mem) (k2 : Int32) (b : Nat × Nat) (Φ : PO) (x : (Int32)) : Prop := WA γ M_Game_resting 2 46 [some (.ref 45), some (.int x), some (.int k2), none] [] SH g tt b Φ
def st_Game_resting_17 (F : Nat) (g : Mem) (k2 : Int32) (s : Int32 × Int32) : Option ((Int32 × Int32) ⊕ ((Int32))) := if (g 15 0) ≤ s.2 then some (.inr s.1) else (sp_Game_rests F k2 s.2 g).bind fun v3 => if v3 = 0 then some (.inl (s.1, s.2 + 1)) else some (.inl (s.1 + 1, s.2 + 1))
theorem kl_Game_resting_17 {γ : GG} {tt : Bool} {F : Nat} {g : Mem} {k2 : Int32} {b : Nat × Nat} {Φ : PO} : ∀ (s : Int32 × Int32) (r : (Int32 × Int32) ⊕ ((Int32))), st_Game_resting_17 F g k2 s = some r → RQ (PL_Game_resting_17 γ tt g k2 b Φ) (QL_Game_resting_17 γ tt g k2 b Φ) r → PL_Game_resting_17 γ tt g k2 b Φ s := by
  intro s r h hr
  unfold st_Game_resting_17 at h
  unfold PL_Game_resting_17
  refine w_iload_n (q := 18) d_Game_resting_17 rfl rfl ?_
  refine w_aload_n (q := 19) d_Game_resting_18 rfl rfl ?_
  refine w_get (q := 22) (ci := 1) (j := 1) d_Game_resting_19 rfl (by decide) fl_Game_31 (by decide) (by decide) s_45 rfl rfl ?_
  refine w_get (q := 25) (ci := 7) (j := 0) d_Game_resting_22 rfl (by decide) fl_Game_32 (by decide) i_15.2.1 i_15.1 rfl rfl ?_
  by_cases c2 : (g 15 0) ≤ s.2
  · rw [if_pos c2] at h
    refine w_icmp_ge_t (q := 46) d_Game_resting_25 rfl c2 ?_
    cases h
    exact w_ls (by exact (And.intro rfl (And.intro rfl (And.intro rfl trivial)))) hr
  · rw [if_neg c2] at h
    refine w_icmp_ge_f (q := 28) d_Game_resting_25 46 rfl rfl c2 ?_
    refine w_aload_n (q := 29) d_Game_resting_28 rfl rfl ?_
    refine w_iload_n (q := 30) d_Game_resting_29 rfl rfl ?_
    refine w_iload_n (q := 31) d_Game_resting_30 rfl rfl ?_
    obtain ⟨v3, hv, h⟩ := bnd h
    refine w_callVi (q := 34) (M' := M_Game_rests) (n' := 1) (k := 45) (As := [.int k2, .int s.2]) (sh' := SH) (b1 := (0, 0)) d_Game_resting_31 rfl mw_Game_rests (by decide) (by decide) ml_Game_59 (by decide) s_45 (by decide) rfl rfl rfl (leb rfl) (bz _) (fun _ => rfl) (ok_Game_rests hv) ?_
    by_cases c4 : v3 = 0
    · rw [if_pos c4] at h
      refine w_if_eq_t (q := 40) d_Game_resting_34 rfl c4 ?_
      refine w_iinc (q := 43) (ls' := [some (.ref 45), some (.int s.1), some (.int k2), some (.int (s.2 + 1))]) d_Game_resting_40 rfl (by decide) rfl rfl rfl ?_
      refine w_goto (q := 17) d_Game_resting_43 rfl ?_
      cases h
      exact w_ls (by exact (And.intro rfl (And.intro rfl (And.intro rfl (And.intro rfl trivial))))) hr
    · rw [if_neg c4] at h
      refine w_if_eq_f (q := 37) d_Game_resting_34 40 rfl rfl c4 ?_
      refine w_iinc (q := 40) (ls' := [some (.ref 45), some (.int (s.1 + 1)), some (.int k2), some (.int s.2)]) d_Game_resting_37 rfl (by decide) rfl rfl rfl ?_
      refine w_iinc (q := 43) (ls' := [some (.ref 45), some (.int (s.1 + 1)), some (.int k2), some (.int (s.2 + 1))]) d_Game_resting_40 rfl (by decide) rfl rfl rfl ?_
      refine w_goto (q := 17) d_Game_resting_43 rfl ?_
      cases h
      exact w_ls (by exact (And.intro rfl (And.intro rfl (And.intro rfl (And.intro rfl trivial))))) hr
def st_Game_resting_4 (F : Nat) (g : Mem) (s : Int32 × Int32) : Option ((Int32 × Int32) ⊕ ((Int32))) := if (g 15 0) ≤ s.2 then some (.inr s.1) else (lpO (st_Game_resting_17 F g s.2) F (s.1, 0)).bind fun x5 => some (.inl (x5, s.2 + 1))
theorem kl_Game_resting_4 {γ : GG} {tt : Bool} {F : Nat} {g : Mem} {b : Nat × Nat} {Φ : PO} : ∀ (s : Int32 × Int32) (r : (Int32 × Int32) ⊕ ((Int32))), st_Game_resting_4 F g s = some r → RQ (PL_Game_resting_4 γ tt g b Φ) (QL_Game_resting_4 γ tt g b Φ) r → PL_Game_resting_4 γ tt g b Φ s := by
  intro s r h hr
  unfold st_Game_resting_4 at h
  unfold PL_Game_resting_4
  refine w_iload_n (q := 5) d_Game_resting_4 rfl rfl ?_
  refine w_aload_n (q := 6) d_Game_resting_5 rfl rfl ?_
  refine w_get (q := 9) (ci := 1) (j := 1) d_Game_resting_6 rfl (by decide) fl_Game_31 (by decide) (by decide) s_45 rfl rfl ?_
  refine w_get (q := 12) (ci := 7) (j := 0) d_Game_resting_9 rfl (by decide) fl_Game_32 (by decide) i_15.2.1 i_15.1 rfl rfl ?_
  by_cases c1 : (g 15 0) ≤ s.2
  · rw [if_pos c1] at h
    refine w_icmp_ge_t (q := 52) d_Game_resting_12 rfl c1 ?_
    cases h
    exact w_ls (by exact (And.intro rfl trivial)) hr
  · rw [if_neg c1] at h
    refine w_icmp_ge_f (q := 15) d_Game_resting_12 52 rfl rfl c1 ?_
    refine w_iconst (q := 16) (v := 0) d_Game_resting_15 rfl (by decide) ?_
    refine w_istore_n (q := 17) (ls' := [some (.ref 45), some (.int s.1), some (.int s.2), some (.int 0)]) d_Game_resting_16 rfl (by decide) rfl rfl ?_
    obtain ⟨x5, hx, h⟩ := bnd h
    refine w_ls (ls' := [some (.ref 45), some (.int s.1), some (.int s.2), some (.int 0)]) (And.intro rfl (And.intro rfl (And.intro rfl (And.intro rfl trivial)))) ?_
    show PL_Game_resting_17 γ tt g s.2 _ _ (s.1, 0)
    refine lp_ok (kl_Game_resting_17) F _ x5 hx ?_
    unfold QL_Game_resting_17
    refine w_iinc (q := 49) (ls' := [some (.ref 45), some (.int x5), some (.int (s.2 + 1)), none]) d_Game_resting_46 rfl (by decide) rfl rfl rfl ?_
    refine w_goto (q := 4) d_Game_resting_49 rfl ?_
    cases h
    exact w_ls (by exact (And.intro rfl (And.intro rfl (And.intro rfl trivial)))) hr
def sp_Game_resting (F : Nat) (g : Mem) : Option (Int32) := (lpO (st_Game_resting_4 F g) F (0, 0)).bind fun x6 => some x6
theorem ok_Game_resting {γ : GG} {tt : Bool} {F : Nat} {g : Mem} {res : Int32} (h : sp_Game_resting F g = some res) : CA γ M_Game_resting 2 [.ref 45] SH g tt (0, 0) (pI SH res g tt) := by
  refine CA.of mw_Game_resting.1 3 rfl ?_
  show WA γ M_Game_resting 2 0 [some (.ref 45), none, none, none] [] SH g tt (0, 0) (pI SH res g tt)
  unfold sp_Game_resting at h
  refine w_iconst (q := 1) (v := 0) d_Game_resting_0 rfl (by decide) ?_
  refine w_istore_n (q := 2) (ls' := [some (.ref 45), some (.int 0), none, none]) d_Game_resting_1 rfl (by decide) rfl rfl ?_
  refine w_iconst (q := 3) (v := 0) d_Game_resting_2 rfl (by decide) ?_
  refine w_istore_n (q := 4) (ls' := [some (.ref 45), some (.int 0), some (.int 0), none]) d_Game_resting_3 rfl (by decide) rfl rfl ?_
  obtain ⟨x6, hx, h⟩ := bnd h
  refine w_ls (ls' := [some (.ref 45), some (.int 0), some (.int 0), none]) (And.intro rfl (And.intro rfl (And.intro rfl trivial))) ?_
  show PL_Game_resting_4 γ tt g _ _ (0, 0)
  refine lp_ok (kl_Game_resting_4) F _ x6 hx ?_
  unfold QL_Game_resting_4
  refine w_iload_n (q := 53) d_Game_resting_52 rfl rfl ?_
  cases h
  exact w_ireturn d_Game_resting_53 rfl rfl ⟨rfl, rfl, rfl, rfl⟩
def PL_Game_firstResting_2 (γ : GG) (tt : Bool) (g : Mem) (b : Nat × Nat) (Φ : PO) (s : Int32) : Prop := WA γ M_Game_firstResting 2 2 [some (.ref 45), some (.int s), none] [] SH g tt b Φ
def QL_Game_firstResting_2 (γ : GG) (tt : Bool) (g : Mem) (b : Nat × Nat) (Φ : PO) (x : (Int32 × Int32) ⊕ (Unit)) : Prop := match x with
  | .inl x => WA γ M_Game_firstResting 2 35 [none, some (.int x.1), some (.int x.2)] [] SH g tt b Φ
  | .inr x => WA γ M_Game_firstResting 2 54 [none, none, none] [] SH g tt b Φ
def PL_Game_firstResting_15 (γ : GG) (tt : Bool) (g : Mem) (k1 : Int32) (b : Nat × Nat) (Φ : PO) (s : Int32) : Prop := WA γ M_Game_firstResting 2 15 [some (.ref 45), some (.int k1), some (.int s)] [] SH g tt b Φ
def QL_Game_firstResting_15 (γ : GG) (tt : Bool) (g : Mem) (k1 : Int32) (b : Nat × Nat) (Φ : PO) (x : (Int32) ⊕ (Unit)) : Prop := match x with
  | .inl x => WA γ M_Game_firstResting 2 35 [none, some (.int k1), some (.int x)] [] SH g tt b Φ
  | .inr x => WA γ M_Game_firstResting 2 48 [some (.ref 45), some (.int k1), none] [] SH g tt b Φ
def st_Game_firstResting_15 (F : Nat) (g : Mem) (k1 : Int32) (s : Int32) : Option ((Int32) ⊕ ((Int32) ⊕ (Unit))) := if (g 15 0) ≤ s then some (.inr (.inr ())) else (sp_Game_rests F k1 s g).bind fun v3 => if v3 = 0 then some (.inl (s + 1)) else some (.inr (.inl s))
theorem kl_Game_firstResting_15 {γ : GG} {tt : Bool} {F : Nat} {g : Mem} {k1 : Int32} {b : Nat × Nat} {Φ : PO} : ∀ (s : Int32) (r : (Int32) ⊕ ((Int32) ⊕ (Unit))), st_Game_firstResting_15 F g k1 s = some r → RQ (PL_Game_firstResting_15 γ tt g k1 b Φ) (QL_Game_firstResting_15 γ tt g k1 b Φ) r → PL_Game_firstResting_15 γ tt g k1 b Φ s := by
  intro s r h hr
  unfold st_Game_firstResting_15 at h
  unfold PL_Game_firstResting_15
  refine w_iload_n (q := 16) d_Game_firstResting_15 rfl rfl ?_
  refine w_aload_n (q := 17) d_Game_firstResting_16 rfl rfl ?_
  refine w_get (q := 20) (ci := 1) (j := 1) d_Game_firstResting_17 rfl (by decide) fl_Game_31 (by decide) (by decide) s_45 rfl rfl ?_
  refine w_get (q := 23) (ci := 7) (j := 0) d_Game_firstResting_20 rfl (by decide) fl_Game_32 (by decide) i_15.2.1 i_15.1 rfl rfl ?_
  by_cases c2 : (g 15 0) ≤ s
  · rw [if_pos c2] at h
    refine w_icmp_ge_t (q := 48) d_Game_firstResting_23 rfl c2 ?_
    cases h
    exact w_ls (by exact (And.intro rfl (And.intro rfl trivial))) hr
  · rw [if_neg c2] at h
    refine w_icmp_ge_f (q := 26) d_Game_firstResting_23 48 rfl rfl c2 ?_
    refine w_aload_n (q := 27) d_Game_firstResting_26 rfl rfl ?_
    refine w_iload_n (q := 28) d_Game_firstResting_27 rfl rfl ?_
    refine w_iload_n (q := 29) d_Game_firstResting_28 rfl rfl ?_
    obtain ⟨v3, hv, h⟩ := bnd h
    refine w_callVi (q := 32) (M' := M_Game_rests) (n' := 1) (k := 45) (As := [.int k1, .int s]) (sh' := SH) (b1 := (0, 0)) d_Game_firstResting_29 rfl mw_Game_rests (by decide) (by decide) ml_Game_59 (by decide) s_45 (by decide) rfl rfl rfl (leb rfl) (bz _) (fun _ => rfl) (ok_Game_rests hv) ?_
    by_cases c4 : v3 = 0
    · rw [if_pos c4] at h
      refine w_if_eq_t (q := 42) d_Game_firstResting_32 rfl c4 ?_
      refine w_iinc (q := 45) (ls' := [some (.ref 45), some (.int k1), some (.int (s + 1))]) d_Game_firstResting_42 rfl (by decide) rfl rfl rfl ?_
      refine w_goto (q := 15) d_Game_firstResting_45 rfl ?_
      cases h
      exact w_ls (by exact (And.intro rfl (And.intro rfl (And.intro rfl trivial)))) hr
    · rw [if_neg c4] at h
      refine w_if_eq_f (q := 35) d_Game_firstResting_32 42 rfl rfl c4 ?_
      cases h
      exact w_ls (by exact (And.intro rfl (And.intro rfl trivial))) hr
def st_Game_firstResting_2 (F : Nat) (g : Mem) (s : Int32) : Option ((Int32) ⊕ ((Int32 × Int32) ⊕ (Unit))) := if (g 15 0) ≤ s then some (.inr (.inr ())) else (lpO (st_Game_firstResting_15 F g s) F 0).bind fun x5 => match x5 with | .inl x6 => some (.inr (.inl (s, x6))) | .inr x7 => some (.inl (s + 1))
theorem kl_Game_firstResting_2 {γ : GG} {tt : Bool} {F : Nat} {g : Mem} {b : Nat × Nat} {Φ : PO} : ∀ (s : Int32) (r : (Int32) ⊕ ((Int32 × Int32) ⊕ (Unit))), st_Game_firstResting_2 F g s = some r → RQ (PL_Game_firstResting_2 γ tt g b Φ) (QL_Game_firstResting_2 γ tt g b Φ) r → PL_Game_firstResting_2 γ tt g b Φ s := by
  intro s r h hr
  unfold st_Game_firstResting_2 at h
  unfold PL_Game_firstResting_2
  refine w_iload_n (q := 3) d_Game_firstResting_2 rfl rfl ?_
  refine w_aload_n (q := 4) d_Game_firstResting_3 rfl rfl ?_
  refine w_get (q := 7) (ci := 1) (j := 1) d_Game_firstResting_4 rfl (by decide) fl_Game_31 (by decide) (by decide) s_45 rfl rfl ?_
  refine w_get (q := 10) (ci := 7) (j := 0) d_Game_firstResting_7 rfl (by decide) fl_Game_32 (by decide) i_15.2.1 i_15.1 rfl rfl ?_
  by_cases c1 : (g 15 0) ≤ s
  · rw [if_pos c1] at h
    refine w_icmp_ge_t (q := 54) d_Game_firstResting_10 rfl c1 ?_
    cases h
    exact w_ls (by exact trivial) hr
  · rw [if_neg c1] at h
    refine w_icmp_ge_f (q := 13) d_Game_firstResting_10 54 rfl rfl c1 ?_
    refine w_iconst (q := 14) (v := 0) d_Game_firstResting_13 rfl (by decide) ?_
    refine w_istore_n (q := 15) (ls' := [some (.ref 45), some (.int s), some (.int 0)]) d_Game_firstResting_14 rfl (by decide) rfl rfl ?_
    obtain ⟨x5, hx, h⟩ := bnd h
    refine w_ls (ls' := [some (.ref 45), some (.int s), some (.int 0)]) (And.intro rfl (And.intro rfl (And.intro rfl trivial))) ?_
    show PL_Game_firstResting_15 γ tt g s _ _ 0
    refine lp_ok (kl_Game_firstResting_15) F _ x5 hx ?_
    unfold QL_Game_firstResting_15
    rcases x5 with x6 | x7
    · dsimp only at h ⊢
      cases h
      exact w_ls (by exact (And.intro rfl (And.intro rfl trivial))) hr
    · dsimp only at h ⊢
      refine w_iinc (q := 51) (ls' := [some (.ref 45), some (.int (s + 1)), none]) d_Game_firstResting_48 rfl (by decide) rfl rfl rfl ?_
      refine w_goto (q := 2) d_Game_firstResting_51 rfl ?_
      cases h
      exact w_ls (by exact (And.intro rfl (And.intro rfl trivial))) hr
def sp_Game_firstResting (F : Nat) (g : Mem) : Option (Int32) := (lpO (st_Game_firstResting_2 F g) F 0).bind fun x8 => match x8 with | .inl x9 => some ((10 * x9.1) + x9.2) | .inr x10 => some (-1)
theorem ok_Game_firstResting {γ : GG} {tt : Bool} {F : Nat} {g : Mem} {res : Int32} (h : sp_Game_firstResting F g = some res) : CA γ M_Game_firstResting 2 [.ref 45] SH g tt (0, 0) (pI SH res g tt) := by
  refine CA.of mw_Game_firstResting.1 2 rfl ?_
  show WA γ M_Game_firstResting 2 0 [some (.ref 45), none, none] [] SH g tt (0, 0) (pI SH res g tt)
  unfold sp_Game_firstResting at h
  refine w_iconst (q := 1) (v := 0) d_Game_firstResting_0 rfl (by decide) ?_
  refine w_istore_n (q := 2) (ls' := [some (.ref 45), some (.int 0), none]) d_Game_firstResting_1 rfl (by decide) rfl rfl ?_
  obtain ⟨x8, hx, h⟩ := bnd h
  refine w_ls (ls' := [some (.ref 45), some (.int 0), none]) (And.intro rfl (And.intro rfl trivial)) ?_
  show PL_Game_firstResting_2 γ tt g _ _ 0
  refine lp_ok (kl_Game_firstResting_2) F _ x8 hx ?_
  unfold QL_Game_firstResting_2
  rcases x8 with x9 | x10
  · dsimp only at h ⊢
    refine w_bipush (q := 37) (v := 10) d_Game_firstResting_35 rfl (by decide) ?_
    refine w_iload_n (q := 38) d_Game_firstResting_37 rfl rfl ?_
    refine w_imul (q := 39) d_Game_firstResting_38 rfl ?_
    refine w_iload_n (q := 40) d_Game_firstResting_39 rfl rfl ?_
    refine w_iadd (q := 41) d_Game_firstResting_40 rfl ?_
    cases h
    exact w_ireturn d_Game_firstResting_41 rfl rfl ⟨rfl, rfl, rfl, rfl⟩
  · dsimp only at h ⊢
    refine w_iconst (q := 55) (v := (-1)) d_Game_firstResting_54 rfl (by decide) ?_
    cases h
    exact w_ireturn d_Game_firstResting_55 rfl rfl ⟨rfl, rfl, rfl, rfl⟩
def PL_Keeping_unionOf_4 (γ : GG) (tt : Bool) (p0 : Int32) (g : Mem) (k1 : Int32) (b : Nat × Nat) (Φ : PO) (s : Int32 × Int32) : Prop := WA γ M_Keeping_unionOf 1 4 [some (.ref 43), some (.int k1), some (.int s.1), some (.int s.2)] [] SH g tt b Φ
def QL_Keeping_unionOf_4 (γ : GG) (tt : Bool) (p0 : Int32) (g : Mem) (k1 : Int32) (b : Nat × Nat) (Φ : PO) (x : (Int32)) : Prop := WA γ M_Keeping_unionOf 1 38 [none, none, some (.int x), none] [] SH g tt b Φ
def st_Keeping_unionOf_4 (F : Nat) (p0 : Int32) (g : Mem) (k1 : Int32) (s : Int32 × Int32) : Option ((Int32 × Int32) ⊕ ((Int32))) := if (g 15 0) ≤ s.2 then some (.inr s.1) else (sp_Hall_hasBit k1 s.2 g).bind fun v2 => if v2 = 0 then some (.inl (s.1, s.2 + 1)) else (rd g 44 6 s.2).bind fun v4 => some (.inl (s.1 ||| v4, s.2 + 1))
theorem kl_Keeping_unionOf_4 {γ : GG} {tt : Bool} {F : Nat} {p0 : Int32} {g : Mem} {k1 : Int32} {b : Nat × Nat} {Φ : PO} : ∀ (s : Int32 × Int32) (r : (Int32 × Int32) ⊕ ((Int32))), st_Keeping_unionOf_4 F p0 g k1 s = some r → RQ (PL_Keeping_unionOf_4 γ tt p0 g k1 b Φ) (QL_Keeping_unionOf_4 γ tt p0 g k1 b Φ) r → PL_Keeping_unionOf_4 γ tt p0 g k1 b Φ s := by
  intro s r h hr
  unfold st_Keeping_unionOf_4 at h
  unfold PL_Keeping_unionOf_4
  refine w_iload_n (q := 5) d_Keeping_unionOf_4 rfl rfl ?_
  refine w_aload_n (q := 6) d_Keeping_unionOf_5 rfl rfl ?_
  refine w_get (q := 9) (ci := 4) (j := 1) d_Keeping_unionOf_6 rfl (by decide) fl_Keeping_25 (by decide) (by decide) s_43 rfl rfl ?_
  refine w_get (q := 12) (ci := 7) (j := 0) d_Keeping_unionOf_9 rfl (by decide) fl_Keeping_26 (by decide) i_15.2.1 i_15.1 rfl rfl ?_
  by_cases c1 : (g 15 0) ≤ s.2
  · rw [if_pos c1] at h
    refine w_icmp_ge_t (q := 38) d_Keeping_unionOf_12 rfl c1 ?_
    cases h
    exact w_ls (by exact (And.intro rfl trivial)) hr
  · rw [if_neg c1] at h
    refine w_icmp_ge_f (q := 15) d_Keeping_unionOf_12 38 rfl rfl c1 ?_
    refine w_iload_n (q := 16) d_Keeping_unionOf_15 rfl rfl ?_
    refine w_iload_n (q := 17) d_Keeping_unionOf_16 rfl rfl ?_
    obtain ⟨v2, hv, h⟩ := bnd h
    refine w_callNi (q := 20) (host := "BeardHall") (M' := M_Hall_hasBit) (n' := 0) (As := [.int k1, .int s.2]) (sh' := SH) (b1 := (0, 0)) d_Keeping_unionOf_17 rfl mw_Hall_hasBit (by decide) (by decide) (by decide) rfl rfl (leb rfl) (bz _) (fun _ => rfl) (ok_Hall_hasBit hv) ?_
    by_cases c3 : v2 = 0
    · rw [if_pos c3] at h
      refine w_if_eq_t (q := 32) d_Keeping_unionOf_20 rfl c3 ?_
      refine w_iinc (q := 35) (ls' := [some (.ref 43), some (.int k1), some (.int s.1), some (.int (s.2 + 1))]) d_Keeping_unionOf_32 rfl (by decide) rfl rfl rfl ?_
      refine w_goto (q := 4) d_Keeping_unionOf_35 rfl ?_
      cases h
      exact w_ls (by exact (And.intro rfl (And.intro rfl (And.intro rfl (And.intro rfl trivial))))) hr
    · rw [if_neg c3] at h
      refine w_if_eq_f (q := 23) d_Keeping_unionOf_20 32 rfl rfl c3 ?_
      refine w_iload_n (q := 24) d_Keeping_unionOf_23 rfl rfl ?_
      refine w_aload_n (q := 25) d_Keeping_unionOf_24 rfl rfl ?_
      refine w_get (q := 28) (ci := 4) (j := 2) d_Keeping_unionOf_25 rfl (by decide) fl_Keeping_9 (by decide) (by decide) s_43 rfl rfl ?_
      refine w_iload_n (q := 29) d_Keeping_unionOf_28 rfl rfl ?_
      obtain ⟨v4, hv, h⟩ := bnd h
      obtain ⟨hi, hv⟩ := rd_ok hv
      refine w_iald (q := 30) (t := 0) d_Keeping_unionOf_29 rfl a_44.2 a_44.1 hi rfl ?_
      rw [hv]
      refine w_ior (q := 31) d_Keeping_unionOf_30 rfl ?_
      refine w_istore_n (q := 32) (ls' := [some (.ref 43), some (.int k1), some (.int (s.1 ||| v4)), some (.int s.2)]) d_Keeping_unionOf_31 rfl (by decide) rfl rfl ?_
      refine w_iinc (q := 35) (ls' := [some (.ref 43), some (.int k1), some (.int (s.1 ||| v4)), some (.int (s.2 + 1))]) d_Keeping_unionOf_32 rfl (by decide) rfl rfl rfl ?_
      refine w_goto (q := 4) d_Keeping_unionOf_35 rfl ?_
      cases h
      exact w_ls (by exact (And.intro rfl (And.intro rfl (And.intro rfl (And.intro rfl trivial))))) hr
def sp_Keeping_unionOf (F : Nat) (p0 : Int32) (g : Mem) : Option (Int32) := (lpO (st_Keeping_unionOf_4 F p0 g p0) F (0, 0)).bind fun x5 => some x5
theorem ok_Keeping_unionOf {γ : GG} {tt : Bool} {F : Nat} {p0 : Int32} {g : Mem} {res : Int32} (h : sp_Keeping_unionOf F p0 g = some res) : CA γ M_Keeping_unionOf 1 [.ref 43, .int p0] SH g tt (0, 0) (pI SH res g tt) := by
  refine CA.of mw_Keeping_unionOf.1 2 rfl ?_
  show WA γ M_Keeping_unionOf 1 0 [some (.ref 43), some (.int p0), none, none] [] SH g tt (0, 0) (pI SH res g tt)
  unfold sp_Keeping_unionOf at h
  refine w_iconst (q := 1) (v := 0) d_Keeping_unionOf_0 rfl (by decide) ?_
  refine w_istore_n (q := 2) (ls' := [some (.ref 43), some (.int p0), some (.int 0), none]) d_Keeping_unionOf_1 rfl (by decide) rfl rfl ?_
  refine w_iconst (q := 3) (v := 0) d_Keeping_unionOf_2 rfl (by decide) ?_
  refine w_istore_n (q := 4) (ls' := [some (.ref 43), some (.int p0), some (.int 0), some (.int 0)]) d_Keeping_unionOf_3 rfl (by decide) rfl rfl ?_
  obtain ⟨x5, hx, h⟩ := bnd h
  refine w_ls (ls' := [some (.ref 43), some (.int p0), some (.int 0), some (.int 0)]) (And.intro rfl (And.intro rfl (And.intro rfl (And.intro rfl trivial)))) ?_
  show PL_Keeping_unionOf_4 γ tt p0 g p0 _ _ (0, 0)
  refine lp_ok (kl_Keeping_unionOf_4) F _ x5 hx ?_
  unfold QL_Keeping_unionOf_4
  refine w_iload_n (q := 39) d_Keeping_unionOf_38 rfl rfl ?_
  cases h
  exact w_ireturn d_Keeping_unionOf_39 rfl rfl ⟨rfl, rfl, rfl, rfl⟩
def PL_Keeping_fewestWithAll_2 (γ : GG) (tt : Bool) (g : Mem) (b : Nat × Nat) (Φ : PO) (s : Int32 × Mem) : Prop := WA γ M_Keeping_fewestWithAll 3 2 [some (.ref 43), some (.int s.1), none, none, none] [] SH s.2 tt b Φ
def QL_Keeping_fewestWithAll_2 (γ : GG) (tt : Bool) (g : Mem) (b : Nat × Nat) (Φ : PO) (x : (Mem)) : Prop := WA γ M_Keeping_fewestWithAll 3 33 [some (.ref 43), none, none, none, none] [] SH x tt b Φ
def st_Keeping_fewestWithAll_2 (F : Nat) (g : Mem) (s : Int32 × Mem) : Option ((Int32 × Mem) ⊕ ((Mem))) := if (s.2 15 0) ≤ s.1 then some (.inr s.2) else (sp_Hair_recordsHeldBy F 23 15 s.1 s.2).bind fun v2 => (wr s.2 44 6 s.1 v2).bind fun g3 => some (.inl (s.1 + 1, g3))
theorem kl_Keeping_fewestWithAll_2 {γ : GG} {tt : Bool} {F : Nat} {g : Mem} {b : Nat × Nat} {Φ : PO} : ∀ (s : Int32 × Mem) (r : (Int32 × Mem) ⊕ ((Mem))), st_Keeping_fewestWithAll_2 F g s = some r → RQ (PL_Keeping_fewestWithAll_2 γ tt g b Φ) (QL_Keeping_fewestWithAll_2 γ tt g b Φ) r → PL_Keeping_fewestWithAll_2 γ tt g b Φ s := by
  intro s r h hr
  unfold st_Keeping_fewestWithAll_2 at h
  unfold PL_Keeping_fewestWithAll_2
  refine w_iload_n (q := 3) d_Keeping_fewestWithAll_2 rfl rfl ?_
  refine w_aload_n (q := 4) d_Keeping_fewestWithAll_3 rfl rfl ?_
  refine w_get (q := 7) (ci := 4) (j := 1) d_Keeping_fewestWithAll_4 rfl (by decide) fl_Keeping_25 (by decide) (by decide) s_43 rfl rfl ?_
  refine w_get (q := 10) (ci := 7) (j := 0) d_Keeping_fewestWithAll_7 rfl (by decide) fl_Keeping_26 (by decide) i_15.2.1 i_15.1 rfl rfl ?_
  by_cases c1 : (s.2 15 0) ≤ s.1
  · rw [if_pos c1] at h
    refine w_icmp_ge_t (q := 33) d_Keeping_fewestWithAll_10 rfl c1 ?_
    cases h
    exact w_ls (by exact (And.intro rfl trivial)) hr
  · rw [if_neg c1] at h
    refine w_icmp_ge_f (q := 13) d_Keeping_fewestWithAll_10 33 rfl rfl c1 ?_
    refine w_aload_n (q := 14) d_Keeping_fewestWithAll_13 rfl rfl ?_
    refine w_get (q := 17) (ci := 4) (j := 2) d_Keeping_fewestWithAll_14 rfl (by decide) fl_Keeping_9 (by decide) (by decide) s_43 rfl rfl ?_
    refine w_iload_n (q := 18) d_Keeping_fewestWithAll_17 rfl rfl ?_
    refine w_aload_n (q := 19) d_Keeping_fewestWithAll_18 rfl rfl ?_
    refine w_get (q := 22) (ci := 4) (j := 0) d_Keeping_fewestWithAll_19 rfl (by decide) fl_Keeping_15 (by decide) (by decide) s_43 rfl rfl ?_
    refine w_iload_n (q := 23) d_Keeping_fewestWithAll_22 rfl rfl ?_
    obtain ⟨v2, hv, h⟩ := bnd h
    refine w_callVi (q := 26) (M' := M_Hair_recordsHeldBy) (n' := 2) (k := 23) (As := [.int s.1]) (sh' := SH) (b1 := (0, 0)) d_Keeping_fewestWithAll_23 rfl mw_Hair_recordsHeldBy (by decide) (by decide) ml_Keeping_36 i_23.2.1 i_23.1 (by decide) rfl rfl rfl (leb rfl) (bz _) (fun _ => rfl) (ok_Hair_recordsHeldBy i_23 hv) ?_
    obtain ⟨g3, hv, h⟩ := bnd h
    obtain ⟨hi, hv⟩ := wr_ok hv
    refine w_iast (q := 27) d_Keeping_fewestWithAll_26 rfl a_44.2 a_44.1 hi hv ?_
    refine w_iinc (q := 30) (ls' := [some (.ref 43), some (.int (s.1 + 1)), none, none, none]) d_Keeping_fewestWithAll_27 rfl (by decide) rfl rfl rfl ?_
    refine w_goto (q := 2) d_Keeping_fewestWithAll_30 rfl ?_
    cases h
    exact w_ls (by exact (And.intro rfl (And.intro rfl trivial))) hr
def PL_Keeping_fewestWithAll_58 (γ : GG) (tt : Bool) (g : Mem) (k1 : Int32) (k2 : Int32) (m0 : Mem) (b : Nat × Nat) (Φ : PO) (s : Int32 × Int32) : Prop := WA γ M_Keeping_fewestWithAll 3 58 [some (.ref 43), some (.int k1), some (.int k2), some (.int s.1), some (.int s.2)] [] SH m0 tt b Φ
def QL_Keeping_fewestWithAll_58 (γ : GG) (tt : Bool) (g : Mem) (k1 : Int32) (k2 : Int32) (m0 : Mem) (b : Nat × Nat) (Φ : PO) (x : (Int32)) : Prop := WA γ M_Keeping_fewestWithAll 3 95 [none, none, none, some (.int x), none] [] SH m0 tt b Φ
def st_Keeping_fewestWithAll_58 (F : Nat) (g : Mem) (k1 : Int32) (k2 : Int32) (m0 : Mem) (s : Int32 × Int32) : Option ((Int32 × Int32) ⊕ ((Int32))) := if k2 ≤ s.2 then some (.inr s.1) else (sp_JInteger_bitCount s.2 m0).bind fun v7 => (sp_JInteger_bitCount s.1 m0).bind fun v8 => if v8 ≤ v7 then some (.inl (s.1, s.2 + 1)) else (sp_Keeping_unionOf F s.2 m0).bind fun v10 => if v10 = k1 then some (.inl (s.2, s.2 + 1)) else some (.inl (s.1, s.2 + 1))
theorem kl_Keeping_fewestWithAll_58 {γ : GG} {tt : Bool} {F : Nat} {g : Mem} {k1 : Int32} {k2 : Int32} {m0 : Mem} {b : Nat × Nat} {Φ : PO} : ∀ (s : Int32 × Int32) (r : (Int32 × Int32) ⊕ ((Int32))), st_Keeping_fewestWithAll_58 F g k1 k2 m0 s = some r → RQ (PL_Keeping_fewestWithAll_58 γ tt g k1 k2 m0 b Φ) (QL_Keeping_fewestWithAll_58 γ tt g k1 k2 m0 b Φ) r → PL_Keeping_fewestWithAll_58 γ tt g k1 k2 m0 b Φ s := by
  intro s r h hr
  unfold st_Keeping_fewestWithAll_58 at h
  unfold PL_Keeping_fewestWithAll_58
  refine w_iload (q := 60) d_Keeping_fewestWithAll_58 rfl rfl ?_
  refine w_iload_n (q := 61) d_Keeping_fewestWithAll_60 rfl rfl ?_
  by_cases c6 : k2 ≤ s.2
  · rw [if_pos c6] at h
    refine w_icmp_ge_t (q := 95) d_Keeping_fewestWithAll_61 rfl c6 ?_
    cases h
    exact w_ls (by exact (And.intro rfl trivial)) hr
  · rw [if_neg c6] at h
    refine w_icmp_ge_f (q := 64) d_Keeping_fewestWithAll_61 95 rfl rfl c6 ?_
    refine w_iload (q := 66) d_Keeping_fewestWithAll_64 rfl rfl ?_
    obtain ⟨v7, hv, h⟩ := bnd h
    refine w_callSi (q := 69) (M' := M_JInteger_bitCount) (n' := 0) (As := [.int s.2]) (sh' := SH) (b1 := (0, 0)) d_Keeping_fewestWithAll_66 rfl mw_JInteger_bitCount (by decide) (by decide) ml_Keeping_44 rfl rfl (leb rfl) (bz _) (fun _ => rfl) (ok_JInteger_bitCount hv) ?_
    refine w_iload_n (q := 70) d_Keeping_fewestWithAll_69 rfl rfl ?_
    obtain ⟨v8, hv, h⟩ := bnd h
    refine w_callSi (q := 73) (M' := M_JInteger_bitCount) (n' := 0) (As := [.int s.1]) (sh' := SH) (b1 := (0, 0)) d_Keeping_fewestWithAll_70 rfl mw_JInteger_bitCount (by decide) (by decide) ml_Keeping_44 rfl rfl (leb rfl) (bz _) (fun _ => rfl) (ok_JInteger_bitCount hv) ?_
    by_cases c9 : v8 ≤ v7
    · rw [if_pos c9] at h
      refine w_icmp_ge_t (q := 89) d_Keeping_fewestWithAll_73 rfl c9 ?_
      refine w_iinc (q := 92) (ls' := [some (.ref 43), some (.int k1), some (.int k2), some (.int s.1), some (.int (s.2 + 1))]) d_Keeping_fewestWithAll_89 rfl (by decide) rfl rfl rfl ?_
      refine w_goto (q := 58) d_Keeping_fewestWithAll_92 rfl ?_
      cases h
      exact w_ls (by exact (And.intro rfl (And.intro rfl (And.intro rfl (And.intro rfl (And.intro rfl trivial)))))) hr
    · rw [if_neg c9] at h
      refine w_icmp_ge_f (q := 76) d_Keeping_fewestWithAll_73 89 rfl rfl c9 ?_
      refine w_aload_n (q := 77) d_Keeping_fewestWithAll_76 rfl rfl ?_
      refine w_iload (q := 79) d_Keeping_fewestWithAll_77 rfl rfl ?_
      obtain ⟨v10, hv, h⟩ := bnd h
      refine w_callVi (q := 82) (M' := M_Keeping_unionOf) (n' := 1) (k := 43) (As := [.int s.2]) (sh' := SH) (b1 := (0, 0)) d_Keeping_fewestWithAll_79 rfl mw_Keeping_unionOf (by decide) (by decide) ml_Keeping_49 (by decide) s_43 (by decide) rfl rfl rfl (leb rfl) (bz _) (fun _ => rfl) (ok_Keeping_unionOf hv) ?_
      refine w_iload_n (q := 83) d_Keeping_fewestWithAll_82 rfl rfl ?_
      by_cases c11 : v10 = k1
      · rw [if_pos c11] at h
        refine w_icmp_ne_f (q := 86) d_Keeping_fewestWithAll_83 89 rfl rfl c11 ?_
        refine w_iload (q := 88) d_Keeping_fewestWithAll_86 rfl rfl ?_
        refine w_istore_n (q := 89) (ls' := [some (.ref 43), some (.int k1), some (.int k2), some (.int s.2), some (.int s.2)]) d_Keeping_fewestWithAll_88 rfl (by decide) rfl rfl ?_
        refine w_iinc (q := 92) (ls' := [some (.ref 43), some (.int k1), some (.int k2), some (.int s.2), some (.int (s.2 + 1))]) d_Keeping_fewestWithAll_89 rfl (by decide) rfl rfl rfl ?_
        refine w_goto (q := 58) d_Keeping_fewestWithAll_92 rfl ?_
        cases h
        exact w_ls (by exact (And.intro rfl (And.intro rfl (And.intro rfl (And.intro rfl (And.intro rfl trivial)))))) hr
      · rw [if_neg c11] at h
        refine w_icmp_ne_t (q := 89) d_Keeping_fewestWithAll_83 rfl c11 ?_
        refine w_iinc (q := 92) (ls' := [some (.ref 43), some (.int k1), some (.int k2), some (.int s.1), some (.int (s.2 + 1))]) d_Keeping_fewestWithAll_89 rfl (by decide) rfl rfl rfl ?_
        refine w_goto (q := 58) d_Keeping_fewestWithAll_92 rfl ?_
        cases h
        exact w_ls (by exact (And.intro rfl (And.intro rfl (And.intro rfl (And.intro rfl (And.intro rfl trivial)))))) hr
def sp_Keeping_fewestWithAll (F : Nat) (g : Mem) : Option (Int32 × Mem) := (lpO (st_Keeping_fewestWithAll_2 F g) F (0, g)).bind fun x4 => (sp_Hair_recordsThere F 23 15 x4).bind fun v5 => (lpO (st_Keeping_fewestWithAll_58 F g v5 (1 <<< ((x4 15 0) &&& 31)) x4) F ((1 <<< ((x4 15 0) &&& 31)) - 1, 0)).bind fun x12 => some (x12, x4)
theorem ok_Keeping_fewestWithAll {γ : GG} {tt : Bool} {F : Nat} {g : Mem} {res : Int32 × Mem} (h : sp_Keeping_fewestWithAll F g = some res) : CA γ M_Keeping_fewestWithAll 3 [.ref 43] SH g tt (0, 0) (pI SH res.1 res.2 tt) := by
  refine CA.of mw_Keeping_fewestWithAll.1 4 rfl ?_
  show WA γ M_Keeping_fewestWithAll 3 0 [some (.ref 43), none, none, none, none] [] SH g tt (0, 0) (pI SH res.1 res.2 tt)
  unfold sp_Keeping_fewestWithAll at h
  refine w_iconst (q := 1) (v := 0) d_Keeping_fewestWithAll_0 rfl (by decide) ?_
  refine w_istore_n (q := 2) (ls' := [some (.ref 43), some (.int 0), none, none, none]) d_Keeping_fewestWithAll_1 rfl (by decide) rfl rfl ?_
  obtain ⟨x4, hx, h⟩ := bnd h
  refine w_ls (ls' := [some (.ref 43), some (.int 0), none, none, none]) (And.intro rfl (And.intro rfl trivial)) ?_
  show PL_Keeping_fewestWithAll_2 γ tt g _ _ (0, g)
  refine lp_ok (kl_Keeping_fewestWithAll_2) F _ x4 hx ?_
  unfold QL_Keeping_fewestWithAll_2
  refine w_aload_n (q := 34) d_Keeping_fewestWithAll_33 rfl rfl ?_
  refine w_get (q := 37) (ci := 4) (j := 0) d_Keeping_fewestWithAll_34 rfl (by decide) fl_Keeping_15 (by decide) (by decide) s_43 rfl rfl ?_
  obtain ⟨v5, hv, h⟩ := bnd h
  refine w_callVi (q := 40) (M' := M_Hair_recordsThere) (n' := 2) (k := 23) (As := []) (sh' := SH) (b1 := (0, 0)) d_Keeping_fewestWithAll_37 rfl mw_Hair_recordsThere (by decide) (by decide) ml_Keeping_40 i_23.2.1 i_23.1 (by decide) rfl rfl rfl (leb rfl) (bz _) (fun _ => rfl) (ok_Hair_recordsThere i_23 hv) ?_
  refine w_istore_n (q := 41) (ls' := [some (.ref 43), some (.int v5), none, none, none]) d_Keeping_fewestWithAll_40 rfl (by decide) rfl rfl ?_
  refine w_iconst (q := 42) (v := 1) d_Keeping_fewestWithAll_41 rfl (by decide) ?_
  refine w_aload_n (q := 43) d_Keeping_fewestWithAll_42 rfl rfl ?_
  refine w_get (q := 46) (ci := 4) (j := 1) d_Keeping_fewestWithAll_43 rfl (by decide) fl_Keeping_25 (by decide) (by decide) s_43 rfl rfl ?_
  refine w_get (q := 49) (ci := 7) (j := 0) d_Keeping_fewestWithAll_46 rfl (by decide) fl_Keeping_26 (by decide) i_15.2.1 i_15.1 rfl rfl ?_
  refine w_ishl (q := 50) d_Keeping_fewestWithAll_49 rfl ?_
  refine w_istore_n (q := 51) (ls' := [some (.ref 43), some (.int v5), some (.int (1 <<< ((x4 15 0) &&& 31))), none, none]) d_Keeping_fewestWithAll_50 rfl (by decide) rfl rfl ?_
  refine w_iload_n (q := 52) d_Keeping_fewestWithAll_51 rfl rfl ?_
  refine w_iconst (q := 53) (v := 1) d_Keeping_fewestWithAll_52 rfl (by decide) ?_
  refine w_isub (q := 54) d_Keeping_fewestWithAll_53 rfl ?_
  refine w_istore_n (q := 55) (ls' := [some (.ref 43), some (.int v5), some (.int (1 <<< ((x4 15 0) &&& 31))), some (.int ((1 <<< ((x4 15 0) &&& 31)) - 1)), none]) d_Keeping_fewestWithAll_54 rfl (by decide) rfl rfl ?_
  refine w_iconst (q := 56) (v := 0) d_Keeping_fewestWithAll_55 rfl (by decide) ?_
  refine w_istore (q := 58) (ls' := [some (.ref 43), some (.int v5), some (.int (1 <<< ((x4 15 0) &&& 31))), some (.int ((1 <<< ((x4 15 0) &&& 31)) - 1)), some (.int 0)]) d_Keeping_fewestWithAll_56 rfl (by decide) rfl rfl ?_
  obtain ⟨x12, hx, h⟩ := bnd h
  refine w_ls (ls' := [some (.ref 43), some (.int v5), some (.int (1 <<< ((x4 15 0) &&& 31))), some (.int ((1 <<< ((x4 15 0) &&& 31)) - 1)), some (.int 0)]) (And.intro rfl (And.intro rfl (And.intro rfl (And.intro rfl (And.intro rfl trivial))))) ?_
  show PL_Keeping_fewestWithAll_58 γ tt g v5 (1 <<< ((x4 15 0) &&& 31)) x4 _ _ ((1 <<< ((x4 15 0) &&& 31)) - 1, 0)
  refine lp_ok (kl_Keeping_fewestWithAll_58) F _ x12 hx ?_
  unfold QL_Keeping_fewestWithAll_58
  refine w_iload_n (q := 96) d_Keeping_fewestWithAll_95 rfl rfl ?_
  cases h
  exact w_ireturn d_Keeping_fewestWithAll_96 rfl rfl ⟨rfl, rfl, rfl, rfl⟩
def PL_Keeping_heldByOne_12 (γ : GG) (tt : Bool) (g : Mem) (k1 : Int32) (b : Nat × Nat) (Φ : PO) (s : Int32 × Int32) : Prop := WA γ M_Keeping_heldByOne 3 12 [some (.ref 43), some (.int k1), some (.int s.1), some (.int s.2)] [] SH g tt b Φ
def QL_Keeping_heldByOne_12 (γ : GG) (tt : Bool) (g : Mem) (k1 : Int32) (b : Nat × Nat) (Φ : PO) (x : (Int32)) : Prop := WA γ M_Keeping_heldByOne 3 55 [none, none, some (.int x), none] [] SH g tt b Φ
def st_Keeping_heldByOne_12 (F : Nat) (g : Mem) (k1 : Int32) (s : Int32 × Int32) : Option ((Int32 × Int32) ⊕ ((Int32))) := if (g 23 4) ≤ s.2 then some (.inr s.1) else (sp_Hall_hasBit k1 s.2 g).bind fun v3 => if v3 = 0 then some (.inl (s.1, s.2 + 1)) else (sp_Hair_monksWith F 23 15 s.2 g).bind fun v5 => (sp_JInteger_bitCount v5 g).bind fun v6 => if v6 = 1 then some (.inl (s.1 + 1, s.2 + 1)) else some (.inl (s.1, s.2 + 1))
theorem kl_Keeping_heldByOne_12 {γ : GG} {tt : Bool} {F : Nat} {g : Mem} {k1 : Int32} {b : Nat × Nat} {Φ : PO} : ∀ (s : Int32 × Int32) (r : (Int32 × Int32) ⊕ ((Int32))), st_Keeping_heldByOne_12 F g k1 s = some r → RQ (PL_Keeping_heldByOne_12 γ tt g k1 b Φ) (QL_Keeping_heldByOne_12 γ tt g k1 b Φ) r → PL_Keeping_heldByOne_12 γ tt g k1 b Φ s := by
  intro s r h hr
  unfold st_Keeping_heldByOne_12 at h
  unfold PL_Keeping_heldByOne_12
  refine w_iload_n (q := 13) d_Keeping_heldByOne_12 rfl rfl ?_
  refine w_aload_n (q := 14) d_Keeping_heldByOne_13 rfl rfl ?_
  refine w_get (q := 17) (ci := 4) (j := 0) d_Keeping_heldByOne_14 rfl (by decide) fl_Keeping_15 (by decide) (by decide) s_43 rfl rfl ?_
  refine w_get (q := 20) (ci := 2) (j := 4) d_Keeping_heldByOne_17 rfl (by decide) fl_Keeping_52 (by decide) i_23.2.1 i_23.1 rfl rfl ?_
  by_cases c2 : (g 23 4) ≤ s.2
  · rw [if_pos c2] at h
    refine w_icmp_ge_t (q := 55) d_Keeping_heldByOne_20 rfl c2 ?_
    cases h
    exact w_ls (by exact (And.intro rfl trivial)) hr
  · rw [if_neg c2] at h
    refine w_icmp_ge_f (q := 23) d_Keeping_heldByOne_20 55 rfl rfl c2 ?_
    refine w_iload_n (q := 24) d_Keeping_heldByOne_23 rfl rfl ?_
    refine w_iload_n (q := 25) d_Keeping_heldByOne_24 rfl rfl ?_
    obtain ⟨v3, hv, h⟩ := bnd h
    refine w_callNi (q := 28) (host := "BeardHall") (M' := M_Hall_hasBit) (n' := 0) (As := [.int k1, .int s.2]) (sh' := SH) (b1 := (0, 0)) d_Keeping_heldByOne_25 rfl mw_Hall_hasBit (by decide) (by decide) (by decide) rfl rfl (leb rfl) (bz _) (fun _ => rfl) (ok_Hall_hasBit hv) ?_
    by_cases c4 : v3 = 0
    · rw [if_pos c4] at h
      refine w_if_eq_t (q := 49) d_Keeping_heldByOne_28 rfl c4 ?_
      refine w_iinc (q := 52) (ls' := [some (.ref 43), some (.int k1), some (.int s.1), some (.int (s.2 + 1))]) d_Keeping_heldByOne_49 rfl (by decide) rfl rfl rfl ?_
      refine w_goto (q := 12) d_Keeping_heldByOne_52 rfl ?_
      cases h
      exact w_ls (by exact (And.intro rfl (And.intro rfl (And.intro rfl (And.intro rfl trivial))))) hr
    · rw [if_neg c4] at h
      refine w_if_eq_f (q := 31) d_Keeping_heldByOne_28 49 rfl rfl c4 ?_
      refine w_aload_n (q := 32) d_Keeping_heldByOne_31 rfl rfl ?_
      refine w_get (q := 35) (ci := 4) (j := 0) d_Keeping_heldByOne_32 rfl (by decide) fl_Keeping_15 (by decide) (by decide) s_43 rfl rfl ?_
      refine w_iload_n (q := 36) d_Keeping_heldByOne_35 rfl rfl ?_
      obtain ⟨v5, hv, h⟩ := bnd h
      refine w_callVi (q := 39) (M' := M_Hair_monksWith) (n' := 1) (k := 23) (As := [.int s.2]) (sh' := SH) (b1 := (0, 0)) d_Keeping_heldByOne_36 rfl mw_Hair_monksWith (by decide) (by decide) ml_Keeping_55 i_23.2.1 i_23.1 (by decide) rfl rfl rfl (leb rfl) (bz _) (fun _ => rfl) (ok_Hair_monksWith i_23 hv) ?_
      obtain ⟨v6, hv, h⟩ := bnd h
      refine w_callSi (q := 42) (M' := M_JInteger_bitCount) (n' := 0) (As := [.int v5]) (sh' := SH) (b1 := (0, 0)) d_Keeping_heldByOne_39 rfl mw_JInteger_bitCount (by decide) (by decide) ml_Keeping_44 rfl rfl (leb rfl) (bz _) (fun _ => rfl) (ok_JInteger_bitCount hv) ?_
      refine w_iconst (q := 43) (v := 1) d_Keeping_heldByOne_42 rfl (by decide) ?_
      by_cases c7 : v6 = 1
      · rw [if_pos c7] at h
        refine w_icmp_ne_f (q := 46) d_Keeping_heldByOne_43 49 rfl rfl c7 ?_
        refine w_iinc (q := 49) (ls' := [some (.ref 43), some (.int k1), some (.int (s.1 + 1)), some (.int s.2)]) d_Keeping_heldByOne_46 rfl (by decide) rfl rfl rfl ?_
        refine w_iinc (q := 52) (ls' := [some (.ref 43), some (.int k1), some (.int (s.1 + 1)), some (.int (s.2 + 1))]) d_Keeping_heldByOne_49 rfl (by decide) rfl rfl rfl ?_
        refine w_goto (q := 12) d_Keeping_heldByOne_52 rfl ?_
        cases h
        exact w_ls (by exact (And.intro rfl (And.intro rfl (And.intro rfl (And.intro rfl trivial))))) hr
      · rw [if_neg c7] at h
        refine w_icmp_ne_t (q := 49) d_Keeping_heldByOne_43 rfl c7 ?_
        refine w_iinc (q := 52) (ls' := [some (.ref 43), some (.int k1), some (.int s.1), some (.int (s.2 + 1))]) d_Keeping_heldByOne_49 rfl (by decide) rfl rfl rfl ?_
        refine w_goto (q := 12) d_Keeping_heldByOne_52 rfl ?_
        cases h
        exact w_ls (by exact (And.intro rfl (And.intro rfl (And.intro rfl (And.intro rfl trivial))))) hr
def sp_Keeping_heldByOne (F : Nat) (g : Mem) : Option (Int32) := (sp_Hair_recordsThere F 23 15 g).bind fun v1 => (lpO (st_Keeping_heldByOne_12 F g v1) F (0, 0)).bind fun x8 => some x8
theorem ok_Keeping_heldByOne {γ : GG} {tt : Bool} {F : Nat} {g : Mem} {res : Int32} (h : sp_Keeping_heldByOne F g = some res) : CA γ M_Keeping_heldByOne 3 [.ref 43] SH g tt (0, 0) (pI SH res g tt) := by
  refine CA.of mw_Keeping_heldByOne.1 3 rfl ?_
  show WA γ M_Keeping_heldByOne 3 0 [some (.ref 43), none, none, none] [] SH g tt (0, 0) (pI SH res g tt)
  unfold sp_Keeping_heldByOne at h
  refine w_aload_n (q := 1) d_Keeping_heldByOne_0 rfl rfl ?_
  refine w_get (q := 4) (ci := 4) (j := 0) d_Keeping_heldByOne_1 rfl (by decide) fl_Keeping_15 (by decide) (by decide) s_43 rfl rfl ?_
  obtain ⟨v1, hv, h⟩ := bnd h
  refine w_callVi (q := 7) (M' := M_Hair_recordsThere) (n' := 2) (k := 23) (As := []) (sh' := SH) (b1 := (0, 0)) d_Keeping_heldByOne_4 rfl mw_Hair_recordsThere (by decide) (by decide) ml_Keeping_40 i_23.2.1 i_23.1 (by decide) rfl rfl rfl (leb rfl) (bz _) (fun _ => rfl) (ok_Hair_recordsThere i_23 hv) ?_
  refine w_istore_n (q := 8) (ls' := [some (.ref 43), some (.int v1), none, none]) d_Keeping_heldByOne_7 rfl (by decide) rfl rfl ?_
  refine w_iconst (q := 9) (v := 0) d_Keeping_heldByOne_8 rfl (by decide) ?_
  refine w_istore_n (q := 10) (ls' := [some (.ref 43), some (.int v1), some (.int 0), none]) d_Keeping_heldByOne_9 rfl (by decide) rfl rfl ?_
  refine w_iconst (q := 11) (v := 0) d_Keeping_heldByOne_10 rfl (by decide) ?_
  refine w_istore_n (q := 12) (ls' := [some (.ref 43), some (.int v1), some (.int 0), some (.int 0)]) d_Keeping_heldByOne_11 rfl (by decide) rfl rfl ?_
  obtain ⟨x8, hx, h⟩ := bnd h
  refine w_ls (ls' := [some (.ref 43), some (.int v1), some (.int 0), some (.int 0)]) (And.intro rfl (And.intro rfl (And.intro rfl (And.intro rfl trivial)))) ?_
  show PL_Keeping_heldByOne_12 γ tt g v1 _ _ (0, 0)
  refine lp_ok (kl_Keeping_heldByOne_12) F _ x8 hx ?_
  unfold QL_Keeping_heldByOne_12
  refine w_iload_n (q := 56) d_Keeping_heldByOne_55 rfl rfl ?_
  cases h
  exact w_ireturn d_Keeping_heldByOne_56 rfl rfl ⟨rfl, rfl, rfl, rfl⟩
def PL_Keeping_shavableOnes_4 (γ : GG) (tt : Bool) (g : Mem) (b : Nat × Nat) (Φ : PO) (s : Int32 × Int32 × Mem) : Prop := WA γ M_Keeping_shavableOnes 4 4 [some (.ref 43), some (.int s.1), some (.int s.2.1)] [] SH s.2.2 tt b Φ
def QL_Keeping_shavableOnes_4 (γ : GG) (tt : Bool) (g : Mem) (b : Nat × Nat) (Φ : PO) (x : (Int32 × Mem)) : Prop := WA γ M_Keeping_shavableOnes 4 55 [none, some (.int x.1), none] [] SH x.2 tt b Φ
def st_Keeping_shavableOnes_4 (F : Nat) (g : Mem) (s : Int32 × Int32 × Mem) : Option ((Int32 × Int32 × Mem) ⊕ ((Int32 × Mem))) := if (s.2.2 15 0) ≤ s.2.1 then some (.inr (s.1, s.2.2)) else (sp_Hair_beyond F 23 15 s.2.1 0 s.2.2).bind fun v2 => (wr s.2.2 44 6 s.2.1 v2).bind fun g3 => (rd g3 (15 + 1) 6 s.2.1).bind fun v4 => if v4 = 3 then some (.inl (s.1, s.2.1 + 1, g3)) else some (.inl (s.1 ||| (1 <<< (s.2.1 &&& 31)), s.2.1 + 1, g3))
theorem kl_Keeping_shavableOnes_4 {γ : GG} {tt : Bool} {F : Nat} {g : Mem} {b : Nat × Nat} {Φ : PO} : ∀ (s : Int32 × Int32 × Mem) (r : (Int32 × Int32 × Mem) ⊕ ((Int32 × Mem))), st_Keeping_shavableOnes_4 F g s = some r → RQ (PL_Keeping_shavableOnes_4 γ tt g b Φ) (QL_Keeping_shavableOnes_4 γ tt g b Φ) r → PL_Keeping_shavableOnes_4 γ tt g b Φ s := by
  intro s r h hr
  unfold st_Keeping_shavableOnes_4 at h
  unfold PL_Keeping_shavableOnes_4
  refine w_iload_n (q := 5) d_Keeping_shavableOnes_4 rfl rfl ?_
  refine w_aload_n (q := 6) d_Keeping_shavableOnes_5 rfl rfl ?_
  refine w_get (q := 9) (ci := 4) (j := 1) d_Keeping_shavableOnes_6 rfl (by decide) fl_Keeping_25 (by decide) (by decide) s_43 rfl rfl ?_
  refine w_get (q := 12) (ci := 7) (j := 0) d_Keeping_shavableOnes_9 rfl (by decide) fl_Keeping_26 (by decide) i_15.2.1 i_15.1 rfl rfl ?_
  by_cases c1 : (s.2.2 15 0) ≤ s.2.1
  · rw [if_pos c1] at h
    refine w_icmp_ge_t (q := 55) d_Keeping_shavableOnes_12 rfl c1 ?_
    cases h
    exact w_ls (by exact (And.intro rfl trivial)) hr
  · rw [if_neg c1] at h
    refine w_icmp_ge_f (q := 15) d_Keeping_shavableOnes_12 55 rfl rfl c1 ?_
    refine w_aload_n (q := 16) d_Keeping_shavableOnes_15 rfl rfl ?_
    refine w_get (q := 19) (ci := 4) (j := 2) d_Keeping_shavableOnes_16 rfl (by decide) fl_Keeping_9 (by decide) (by decide) s_43 rfl rfl ?_
    refine w_iload_n (q := 20) d_Keeping_shavableOnes_19 rfl rfl ?_
    refine w_aload_n (q := 21) d_Keeping_shavableOnes_20 rfl rfl ?_
    refine w_get (q := 24) (ci := 4) (j := 0) d_Keeping_shavableOnes_21 rfl (by decide) fl_Keeping_15 (by decide) (by decide) s_43 rfl rfl ?_
    refine w_iload_n (q := 25) d_Keeping_shavableOnes_24 rfl rfl ?_
    refine w_iconst (q := 26) (v := 0) d_Keeping_shavableOnes_25 rfl (by decide) ?_
    obtain ⟨v2, hv, h⟩ := bnd h
    refine w_callVi (q := 29) (M' := M_Hair_beyond) (n' := 3) (k := 23) (As := [.int s.2.1, .int 0]) (sh' := SH) (b1 := (0, 0)) d_Keeping_shavableOnes_26 rfl mw_Hair_beyond (by decide) (by decide) ml_Keeping_70 i_23.2.1 i_23.1 (by decide) rfl rfl rfl (leb rfl) (bz _) (fun _ => rfl) (ok_Hair_beyond i_23 hv) ?_
    obtain ⟨g3, hv, h⟩ := bnd h
    obtain ⟨hi, hv⟩ := wr_ok hv
    refine w_iast (q := 30) d_Keeping_shavableOnes_29 rfl a_44.2 a_44.1 hi hv ?_
    refine w_aload_n (q := 31) d_Keeping_shavableOnes_30 rfl rfl ?_
    refine w_get (q := 34) (ci := 4) (j := 1) d_Keeping_shavableOnes_31 rfl (by decide) fl_Keeping_25 (by decide) (by decide) s_43 rfl rfl ?_
    refine w_get (q := 37) (ci := 7) (j := 4) d_Keeping_shavableOnes_34 rfl (by decide) fl_Keeping_73 (by decide) i_15.2.1 i_15.1 rfl rfl ?_
    refine w_iload_n (q := 38) d_Keeping_shavableOnes_37 rfl rfl ?_
    obtain ⟨v4, hv, h⟩ := bnd h
    obtain ⟨hi, hv⟩ := rd_ok hv
    refine w_iald (q := 39) (t := 0) d_Keeping_shavableOnes_38 rfl i_15.2.2.1.2 i_15.2.2.1.1 hi rfl ?_
    rw [hv]
    refine w_iconst (q := 40) (v := 3) d_Keeping_shavableOnes_39 rfl (by decide) ?_
    by_cases c5 : v4 = 3
    · rw [if_pos c5] at h
      refine w_icmp_eq_t (q := 49) d_Keeping_shavableOnes_40 rfl c5 ?_
      refine w_iinc (q := 52) (ls' := [some (.ref 43), some (.int s.1), some (.int (s.2.1 + 1))]) d_Keeping_shavableOnes_49 rfl (by decide) rfl rfl rfl ?_
      refine w_goto (q := 4) d_Keeping_shavableOnes_52 rfl ?_
      cases h
      exact w_ls (by exact (And.intro rfl (And.intro rfl (And.intro rfl trivial)))) hr
    · rw [if_neg c5] at h
      refine w_icmp_eq_f (q := 43) d_Keeping_shavableOnes_40 49 rfl rfl c5 ?_
      refine w_iload_n (q := 44) d_Keeping_shavableOnes_43 rfl rfl ?_
      refine w_iconst (q := 45) (v := 1) d_Keeping_shavableOnes_44 rfl (by decide) ?_
      refine w_iload_n (q := 46) d_Keeping_shavableOnes_45 rfl rfl ?_
      refine w_ishl (q := 47) d_Keeping_shavableOnes_46 rfl ?_
      refine w_ior (q := 48) d_Keeping_shavableOnes_47 rfl ?_
      refine w_istore_n (q := 49) (ls' := [some (.ref 43), some (.int (s.1 ||| (1 <<< (s.2.1 &&& 31)))), some (.int s.2.1)]) d_Keeping_shavableOnes_48 rfl (by decide) rfl rfl ?_
      refine w_iinc (q := 52) (ls' := [some (.ref 43), some (.int (s.1 ||| (1 <<< (s.2.1 &&& 31)))), some (.int (s.2.1 + 1))]) d_Keeping_shavableOnes_49 rfl (by decide) rfl rfl rfl ?_
      refine w_goto (q := 4) d_Keeping_shavableOnes_52 rfl ?_
      cases h
      exact w_ls (by exact (And.intro rfl (And.intro rfl (And.intro rfl trivial)))) hr
def sp_Keeping_shavableOnes (F : Nat) (g : Mem) : Option (Int32 × Mem) := (lpO (st_Keeping_shavableOnes_4 F g) F (0, 0, g)).bind fun x6 => some (x6.1, x6.2)
theorem ok_Keeping_shavableOnes {γ : GG} {tt : Bool} {F : Nat} {g : Mem} {res : Int32 × Mem} (h : sp_Keeping_shavableOnes F g = some res) : CA γ M_Keeping_shavableOnes 4 [.ref 43] SH g tt (0, 0) (pI SH res.1 res.2 tt) := by
  refine CA.of mw_Keeping_shavableOnes.1 2 rfl ?_
  show WA γ M_Keeping_shavableOnes 4 0 [some (.ref 43), none, none] [] SH g tt (0, 0) (pI SH res.1 res.2 tt)
  unfold sp_Keeping_shavableOnes at h
  refine w_iconst (q := 1) (v := 0) d_Keeping_shavableOnes_0 rfl (by decide) ?_
  refine w_istore_n (q := 2) (ls' := [some (.ref 43), some (.int 0), none]) d_Keeping_shavableOnes_1 rfl (by decide) rfl rfl ?_
  refine w_iconst (q := 3) (v := 0) d_Keeping_shavableOnes_2 rfl (by decide) ?_
  refine w_istore_n (q := 4) (ls' := [some (.ref 43), some (.int 0), some (.int 0)]) d_Keeping_shavableOnes_3 rfl (by decide) rfl rfl ?_
  obtain ⟨x6, hx, h⟩ := bnd h
  refine w_ls (ls' := [some (.ref 43), some (.int 0), some (.int 0)]) (And.intro rfl (And.intro rfl (And.intro rfl trivial))) ?_
  show PL_Keeping_shavableOnes_4 γ tt g _ _ (0, 0, g)
  refine lp_ok (kl_Keeping_shavableOnes_4) F _ x6 hx ?_
  unfold QL_Keeping_shavableOnes_4
  refine w_iload_n (q := 56) d_Keeping_shavableOnes_55 rfl rfl ?_
  cases h
  exact w_ireturn d_Keeping_shavableOnes_56 rfl rfl ⟨rfl, rfl, rfl, rfl⟩
def PL_Keeping_worstToShave_23 (γ : GG) (tt : Bool) (p0 : Int32) (g : Mem) (k2 : Int32) (k3 : Int32) (m0 : Mem) (b : Nat × Nat) (Φ : PO) (s : Int32 × Int32 × Int32) : Prop := WA γ M_Keeping_worstToShave 5 23 [some (.ref 43), none, some (.int k2), some (.int k3), some (.int s.1), some (.int s.2.1), some (.int s.2.2), none] [] SH m0 tt b Φ
def QL_Keeping_worstToShave_23 (γ : GG) (tt : Bool) (p0 : Int32) (g : Mem) (k2 : Int32) (k3 : Int32) (m0 : Mem) (b : Nat × Nat) (Φ : PO) (x : (Int32)) : Prop := WA γ M_Keeping_worstToShave 5 94 [none, none, none, none, some (.int x), none, none, none] [] SH m0 tt b Φ
def st_Keeping_worstToShave_23 (F : Nat) (p0 : Int32) (g : Mem) (k2 : Int32) (k3 : Int32) (m0 : Mem) (s : Int32 × Int32 × Int32) : Option ((Int32 × Int32 × Int32) ⊕ ((Int32))) := if (1 <<< ((m0 15 0) &&& 31)) ≤ s.2.2 then some (.inr s.1) else if (s.2.2 &&& (k2 ^^^ (-1))) = 0 then (sp_JInteger_bitCount s.2.2 m0).bind fun v6 => if v6 = k3 then (sp_Keeping_unionOf F s.2.2 m0).bind fun v8 => (sp_Hair_recordsLostBy F 23 15 v8 m0).bind fun v9 => (sp_JInteger_bitCount v9 m0).bind fun v10 => if v10 ≤ s.2.1 then some (.inl (s.1, s.2.1, s.2.2 + 1)) else some (.inl (s.2.2, v10, s.2.2 + 1)) else some (.inl (s.1, s.2.1, s.2.2 + 1)) else some (.inl (s.1, s.2.1, s.2.2 + 1))
theorem kl_Keeping_worstToShave_23 {γ : GG} {tt : Bool} {F : Nat} {p0 : Int32} {g : Mem} {k2 : Int32} {k3 : Int32} {m0 : Mem} {b : Nat × Nat} {Φ : PO} : ∀ (s : Int32 × Int32 × Int32) (r : (Int32 × Int32 × Int32) ⊕ ((Int32))), st_Keeping_worstToShave_23 F p0 g k2 k3 m0 s = some r → RQ (PL_Keeping_worstToShave_23 γ tt p0 g k2 k3 m0 b Φ) (QL_Keeping_worstToShave_23 γ tt p0 g k2 k3 m0 b Φ) r → PL_Keeping_worstToShave_23 γ tt p0 g k2 k3 m0 b Φ s := by
  intro s r h hr
  unfold st_Keeping_worstToShave_23 at h
  unfold PL_Keeping_worstToShave_23
  refine w_iload (q := 25) d_Keeping_worstToShave_23 rfl rfl ?_
  refine w_iconst (q := 26) (v := 1) d_Keeping_worstToShave_25 rfl (by decide) ?_
  refine w_aload_n (q := 27) d_Keeping_worstToShave_26 rfl rfl ?_
  refine w_get (q := 30) (ci := 4) (j := 1) d_Keeping_worstToShave_27 rfl (by decide) fl_Keeping_25 (by decide) (by decide) s_43 rfl rfl ?_
  refine w_get (q := 33) (ci := 7) (j := 0) d_Keeping_worstToShave_30 rfl (by decide) fl_Keeping_26 (by decide) i_15.2.1 i_15.1 rfl rfl ?_
  refine w_ishl (q := 34) d_Keeping_worstToShave_33 rfl ?_
  by_cases c4 : (1 <<< ((m0 15 0) &&& 31)) ≤ s.2.2
  · rw [if_pos c4] at h
    refine w_icmp_ge_t (q := 94) d_Keeping_worstToShave_34 rfl c4 ?_
    cases h
    exact w_ls (by exact (And.intro rfl trivial)) hr
  · rw [if_neg c4] at h
    refine w_icmp_ge_f (q := 37) d_Keeping_worstToShave_34 94 rfl rfl c4 ?_
    refine w_iload (q := 39) d_Keeping_worstToShave_37 rfl rfl ?_
    refine w_iload_n (q := 40) d_Keeping_worstToShave_39 rfl rfl ?_
    refine w_iconst (q := 41) (v := (-1)) d_Keeping_worstToShave_40 rfl (by decide) ?_
    refine w_ixor (q := 42) d_Keeping_worstToShave_41 rfl ?_
    refine w_iand (q := 43) d_Keeping_worstToShave_42 rfl ?_
    by_cases c5 : (s.2.2 &&& (k2 ^^^ (-1))) = 0
    · rw [if_pos c5] at h
      refine w_if_ne_f (q := 46) d_Keeping_worstToShave_43 88 rfl rfl c5 ?_
      refine w_iload (q := 48) d_Keeping_worstToShave_46 rfl rfl ?_
      obtain ⟨v6, hv, h⟩ := bnd h
      refine w_callSi (q := 51) (M' := M_JInteger_bitCount) (n' := 0) (As := [.int s.2.2]) (sh' := SH) (b1 := (0, 0)) d_Keeping_worstToShave_48 rfl mw_JInteger_bitCount (by decide) (by decide) ml_Keeping_44 rfl rfl (leb rfl) (bz _) (fun _ => rfl) (ok_JInteger_bitCount hv) ?_
      refine w_iload_n (q := 52) d_Keeping_worstToShave_51 rfl rfl ?_
      by_cases c7 : v6 = k3
      · rw [if_pos c7] at h
        refine w_icmp_ne_f (q := 55) d_Keeping_worstToShave_52 88 rfl rfl c7 ?_
        refine w_aload_n (q := 56) d_Keeping_worstToShave_55 rfl rfl ?_
        refine w_get (q := 59) (ci := 4) (j := 0) d_Keeping_worstToShave_56 rfl (by decide) fl_Keeping_15 (by decide) (by decide) s_43 rfl rfl ?_
        refine w_aload_n (q := 60) d_Keeping_worstToShave_59 rfl rfl ?_
        refine w_iload (q := 62) d_Keeping_worstToShave_60 rfl rfl ?_
        obtain ⟨v8, hv, h⟩ := bnd h
        refine w_callVi (q := 65) (M' := M_Keeping_unionOf) (n' := 1) (k := 43) (As := [.int s.2.2]) (sh' := SH) (b1 := (0, 0)) d_Keeping_worstToShave_62 rfl mw_Keeping_unionOf (by decide) (by decide) ml_Keeping_49 (by decide) s_43 (by decide) rfl rfl rfl (leb rfl) (bz _) (fun _ => rfl) (ok_Keeping_unionOf hv) ?_
        obtain ⟨v9, hv, h⟩ := bnd h
        refine w_callVi (q := 68) (M' := M_Hair_recordsLostBy) (n' := 2) (k := 23) (As := [.int v8]) (sh' := SH) (b1 := (0, 0)) d_Keeping_worstToShave_65 rfl mw_Hair_recordsLostBy (by decide) (by decide) ml_Keeping_67 i_23.2.1 i_23.1 (by decide) rfl rfl rfl (leb rfl) (bz _) (fun _ => rfl) (ok_Hair_recordsLostBy i_23 hv) ?_
        obtain ⟨v10, hv, h⟩ := bnd h
        refine w_callSi (q := 71) (M' := M_JInteger_bitCount) (n' := 0) (As := [.int v9]) (sh' := SH) (b1 := (0, 0)) d_Keeping_worstToShave_68 rfl mw_JInteger_bitCount (by decide) (by decide) ml_Keeping_44 rfl rfl (leb rfl) (bz _) (fun _ => rfl) (ok_JInteger_bitCount hv) ?_
        refine w_istore (q := 73) (ls' := [some (.ref 43), none, some (.int k2), some (.int k3), some (.int s.1), some (.int s.2.1), some (.int s.2.2), some (.int v10)]) d_Keeping_worstToShave_71 rfl (by decide) rfl rfl ?_
        refine w_iload (q := 75) d_Keeping_worstToShave_73 rfl rfl ?_
        refine w_iload (q := 77) d_Keeping_worstToShave_75 rfl rfl ?_
        by_cases c11 : v10 ≤ s.2.1
        · rw [if_pos c11] at h
          refine w_icmp_le_t (q := 88) d_Keeping_worstToShave_77 rfl c11 ?_
          refine w_iinc (q := 91) (ls' := [some (.ref 43), none, some (.int k2), some (.int k3), some (.int s.1), some (.int s.2.1), some (.int (s.2.2 + 1)), some (.int v10)]) d_Keeping_worstToShave_88 rfl (by decide) rfl rfl rfl ?_
          refine w_goto (q := 23) d_Keeping_worstToShave_91 rfl ?_
          cases h
          exact w_ls (by exact (And.intro rfl (And.intro rfl (And.intro rfl (And.intro rfl (And.intro rfl (And.intro rfl trivial))))))) hr
        · rw [if_neg c11] at h
          refine w_icmp_le_f (q := 80) d_Keeping_worstToShave_77 88 rfl rfl c11 ?_
          refine w_iload (q := 82) d_Keeping_worstToShave_80 rfl rfl ?_
          refine w_istore (q := 84) (ls' := [some (.ref 43), none, some (.int k2), some (.int k3), some (.int s.2.2), some (.int s.2.1), some (.int s.2.2), some (.int v10)]) d_Keeping_worstToShave_82 rfl (by decide) rfl rfl ?_
          refine w_iload (q := 86) d_Keeping_worstToShave_84 rfl rfl ?_
          refine w_istore (q := 88) (ls' := [some (.ref 43), none, some (.int k2), some (.int k3), some (.int s.2.2), some (.int v10), some (.int s.2.2), some (.int v10)]) d_Keeping_worstToShave_86 rfl (by decide) rfl rfl ?_
          refine w_iinc (q := 91) (ls' := [some (.ref 43), none, some (.int k2), some (.int k3), some (.int s.2.2), some (.int v10), some (.int (s.2.2 + 1)), some (.int v10)]) d_Keeping_worstToShave_88 rfl (by decide) rfl rfl rfl ?_
          refine w_goto (q := 23) d_Keeping_worstToShave_91 rfl ?_
          cases h
          exact w_ls (by exact (And.intro rfl (And.intro rfl (And.intro rfl (And.intro rfl (And.intro rfl (And.intro rfl trivial))))))) hr
      · rw [if_neg c7] at h
        refine w_icmp_ne_t (q := 88) d_Keeping_worstToShave_52 rfl c7 ?_
        refine w_iinc (q := 91) (ls' := [some (.ref 43), none, some (.int k2), some (.int k3), some (.int s.1), some (.int s.2.1), some (.int (s.2.2 + 1)), none]) d_Keeping_worstToShave_88 rfl (by decide) rfl rfl rfl ?_
        refine w_goto (q := 23) d_Keeping_worstToShave_91 rfl ?_
        cases h
        exact w_ls (by exact (And.intro rfl (And.intro rfl (And.intro rfl (And.intro rfl (And.intro rfl (And.intro rfl trivial))))))) hr
    · rw [if_neg c5] at h
      refine w_if_ne_t (q := 88) d_Keeping_worstToShave_43 rfl c5 ?_
      refine w_iinc (q := 91) (ls' := [some (.ref 43), none, some (.int k2), some (.int k3), some (.int s.1), some (.int s.2.1), some (.int (s.2.2 + 1)), none]) d_Keeping_worstToShave_88 rfl (by decide) rfl rfl rfl ?_
      refine w_goto (q := 23) d_Keeping_worstToShave_91 rfl ?_
      cases h
      exact w_ls (by exact (And.intro rfl (And.intro rfl (And.intro rfl (And.intro rfl (And.intro rfl (And.intro rfl trivial))))))) hr
def sp_Keeping_worstToShave (F : Nat) (p0 : Int32) (g : Mem) : Option (Int32 × Mem) := (sp_Keeping_shavableOnes F g).bind fun v1 => (sp_JInteger_bitCount v1.1 v1.2).bind fun v2 => (sp_JMath_min p0 v2 v1.2).bind fun v3 => (lpO (st_Keeping_worstToShave_23 F p0 g v1.1 v3 v1.2) F (0, (-1), 0)).bind fun x12 => some (x12, v1.2)
theorem ok_Keeping_worstToShave {γ : GG} {tt : Bool} {F : Nat} {p0 : Int32} {g : Mem} {res : Int32 × Mem} (h : sp_Keeping_worstToShave F p0 g = some res) : CA γ M_Keeping_worstToShave 5 [.ref 43, .int p0] SH g tt (0, 0) (pI SH res.1 res.2 tt) := by
  refine CA.of mw_Keeping_worstToShave.1 6 rfl ?_
  show WA γ M_Keeping_worstToShave 5 0 [some (.ref 43), some (.int p0), none, none, none, none, none, none] [] SH g tt (0, 0) (pI SH res.1 res.2 tt)
  unfold sp_Keeping_worstToShave at h
  refine w_aload_n (q := 1) d_Keeping_worstToShave_0 rfl rfl ?_
  obtain ⟨v1, hv, h⟩ := bnd h
  refine w_callVi (q := 4) (M' := M_Keeping_shavableOnes) (n' := 4) (k := 43) (As := []) (sh' := SH) (b1 := (0, 0)) d_Keeping_worstToShave_1 rfl mw_Keeping_shavableOnes (by decide) (by decide) ml_Keeping_58 (by decide) s_43 (by decide) rfl rfl rfl (leb rfl) (bz _) (fun _ => rfl) (ok_Keeping_shavableOnes hv) ?_
  refine w_istore_n (q := 5) (ls' := [some (.ref 43), some (.int p0), some (.int v1.1), none, none, none, none, none]) d_Keeping_worstToShave_4 rfl (by decide) rfl rfl ?_
  refine w_iload_n (q := 6) d_Keeping_worstToShave_5 rfl rfl ?_
  refine w_iload_n (q := 7) d_Keeping_worstToShave_6 rfl rfl ?_
  obtain ⟨v2, hv, h⟩ := bnd h
  refine w_callSi (q := 10) (M' := M_JInteger_bitCount) (n' := 0) (As := [.int v1.1]) (sh' := SH) (b1 := (0, 0)) d_Keeping_worstToShave_7 rfl mw_JInteger_bitCount (by decide) (by decide) ml_Keeping_44 rfl rfl (leb rfl) (bz _) (fun _ => rfl) (ok_JInteger_bitCount hv) ?_
  obtain ⟨v3, hv, h⟩ := bnd h
  refine w_callSi (q := 13) (M' := M_JMath_min) (n' := 0) (As := [.int p0, .int v2]) (sh' := SH) (b1 := (0, 0)) d_Keeping_worstToShave_10 rfl mw_JMath_min (by decide) (by decide) ml_Keeping_61 rfl rfl (leb rfl) (bz _) (fun _ => rfl) (ok_JMath_min hv) ?_
  refine w_istore_n (q := 14) (ls' := [some (.ref 43), some (.int p0), some (.int v1.1), some (.int v3), none, none, none, none]) d_Keeping_worstToShave_13 rfl (by decide) rfl rfl ?_
  refine w_iconst (q := 15) (v := 0) d_Keeping_worstToShave_14 rfl (by decide) ?_
  refine w_istore (q := 17) (ls' := [some (.ref 43), some (.int p0), some (.int v1.1), some (.int v3), some (.int 0), none, none, none]) d_Keeping_worstToShave_15 rfl (by decide) rfl rfl ?_
  refine w_iconst (q := 18) (v := (-1)) d_Keeping_worstToShave_17 rfl (by decide) ?_
  refine w_istore (q := 20) (ls' := [some (.ref 43), some (.int p0), some (.int v1.1), some (.int v3), some (.int 0), some (.int ((-1))), none, none]) d_Keeping_worstToShave_18 rfl (by decide) rfl rfl ?_
  refine w_iconst (q := 21) (v := 0) d_Keeping_worstToShave_20 rfl (by decide) ?_
  refine w_istore (q := 23) (ls' := [some (.ref 43), some (.int p0), some (.int v1.1), some (.int v3), some (.int 0), some (.int ((-1))), some (.int 0), none]) d_Keeping_worstToShave_21 rfl (by decide) rfl rfl ?_
  obtain ⟨x12, hx, h⟩ := bnd h
  refine w_ls (ls' := [some (.ref 43), none, some (.int v1.1), some (.int v3), some (.int 0), some (.int ((-1))), some (.int 0), none]) (And.intro rfl (And.intro rfl (And.intro rfl (And.intro rfl (And.intro rfl (And.intro rfl trivial)))))) ?_
  show PL_Keeping_worstToShave_23 γ tt p0 g v1.1 v3 v1.2 _ _ (0, (-1), 0)
  refine lp_ok (kl_Keeping_worstToShave_23) F _ x12 hx ?_
  unfold QL_Keeping_worstToShave_23
  refine w_iload (q := 96) d_Keeping_worstToShave_94 rfl rfl ?_
  cases h
  exact w_ireturn d_Keeping_worstToShave_96 rfl rfl ⟨rfl, rfl, rfl, rfl⟩
def PL_Keeping_leastLength_12 (γ : GG) (tt : Bool) (p0 : Int32) (g : Mem) (k1 : Int32) (k2 : Int32) (b : Nat × Nat) (Φ : PO) (s : Int32) : Prop := WA γ M_Keeping_leastLength 4 12 [some (.ref 43), some (.int k1), some (.int k2), some (.int s)] [] SH g tt b Φ
def QL_Keeping_leastLength_12 (γ : GG) (tt : Bool) (p0 : Int32) (g : Mem) (k1 : Int32) (k2 : Int32) (b : Nat × Nat) (Φ : PO) (x : (Int32) ⊕ (Unit)) : Prop := match x with
  | .inl x => WA γ M_Keeping_leastLength 4 36 [none, none, none, some (.int x)] [] SH g tt b Φ
  | .inr x => WA γ M_Keeping_leastLength 4 44 [none, none, some (.int k2), none] [] SH g tt b Φ
def st_Keeping_leastLength_12 (F : Nat) (p0 : Int32) (g : Mem) (k1 : Int32) (k2 : Int32) (s : Int32) : Option ((Int32) ⊕ ((Int32) ⊕ (Unit))) := if k2 ≤ s then some (.inr (.inr ())) else (sp_Hair_beyond F 23 15 k1 s g).bind fun v3 => (sp_Hair_recordsLostBy F 23 15 v3 g).bind fun v4 => if v4 = 0 then some (.inr (.inl s)) else some (.inl (s + 1))
theorem kl_Keeping_leastLength_12 {γ : GG} {tt : Bool} {F : Nat} {p0 : Int32} {g : Mem} {k1 : Int32} {k2 : Int32} {b : Nat × Nat} {Φ : PO} : ∀ (s : Int32) (r : (Int32) ⊕ ((Int32) ⊕ (Unit))), st_Keeping_leastLength_12 F p0 g k1 k2 s = some r → RQ (PL_Keeping_leastLength_12 γ tt p0 g k1 k2 b Φ) (QL_Keeping_leastLength_12 γ tt p0 g k1 k2 b Φ) r → PL_Keeping_leastLength_12 γ tt p0 g k1 k2 b Φ s := by
  intro s r h hr
  unfold st_Keeping_leastLength_12 at h
  unfold PL_Keeping_leastLength_12
  refine w_iload_n (q := 13) d_Keeping_leastLength_12 rfl rfl ?_
  refine w_iload_n (q := 14) d_Keeping_leastLength_13 rfl rfl ?_
  by_cases c2 : k2 ≤ s
  · rw [if_pos c2] at h
    refine w_icmp_ge_t (q := 44) d_Keeping_leastLength_14 rfl c2 ?_
    cases h
    exact w_ls (by exact (And.intro rfl trivial)) hr
  · rw [if_neg c2] at h
    refine w_icmp_ge_f (q := 17) d_Keeping_leastLength_14 44 rfl rfl c2 ?_
    refine w_aload_n (q := 18) d_Keeping_leastLength_17 rfl rfl ?_
    refine w_get (q := 21) (ci := 4) (j := 0) d_Keeping_leastLength_18 rfl (by decide) fl_Keeping_15 (by decide) (by decide) s_43 rfl rfl ?_
    refine w_aload_n (q := 22) d_Keeping_leastLength_21 rfl rfl ?_
    refine w_get (q := 25) (ci := 4) (j := 0) d_Keeping_leastLength_22 rfl (by decide) fl_Keeping_15 (by decide) (by decide) s_43 rfl rfl ?_
    refine w_iload_n (q := 26) d_Keeping_leastLength_25 rfl rfl ?_
    refine w_iload_n (q := 27) d_Keeping_leastLength_26 rfl rfl ?_
    obtain ⟨v3, hv, h⟩ := bnd h
    refine w_callVi (q := 30) (M' := M_Hair_beyond) (n' := 3) (k := 23) (As := [.int k1, .int s]) (sh' := SH) (b1 := (0, 0)) d_Keeping_leastLength_27 rfl mw_Hair_beyond (by decide) (by decide) ml_Keeping_70 i_23.2.1 i_23.1 (by decide) rfl rfl rfl (leb rfl) (bz _) (fun _ => rfl) (ok_Hair_beyond i_23 hv) ?_
    obtain ⟨v4, hv, h⟩ := bnd h
    refine w_callVi (q := 33) (M' := M_Hair_recordsLostBy) (n' := 2) (k := 23) (As := [.int v3]) (sh' := SH) (b1 := (0, 0)) d_Keeping_leastLength_30 rfl mw_Hair_recordsLostBy (by decide) (by decide) ml_Keeping_67 i_23.2.1 i_23.1 (by decide) rfl rfl rfl (leb rfl) (bz _) (fun _ => rfl) (ok_Hair_recordsLostBy i_23 hv) ?_
    by_cases c5 : v4 = 0
    · rw [if_pos c5] at h
      refine w_if_ne_f (q := 36) d_Keeping_leastLength_33 38 rfl rfl c5 ?_
      cases h
      exact w_ls (by exact (And.intro rfl trivial)) hr
    · rw [if_neg c5] at h
      refine w_if_ne_t (q := 38) d_Keeping_leastLength_33 rfl c5 ?_
      refine w_iinc (q := 41) (ls' := [some (.ref 43), some (.int k1), some (.int k2), some (.int (s + 1))]) d_Keeping_leastLength_38 rfl (by decide) rfl rfl rfl ?_
      refine w_goto (q := 12) d_Keeping_leastLength_41 rfl ?_
      cases h
      exact w_ls (by exact (And.intro rfl (And.intro rfl (And.intro rfl (And.intro rfl trivial))))) hr
def sp_Keeping_leastLength (F : Nat) (p0 : Int32) (g : Mem) : Option (Int32) := (rd g (23 + 1) 6 p0).bind fun v1 => (lpO (st_Keeping_leastLength_12 F p0 g p0 v1) F 0).bind fun x6 => match x6 with | .inl x7 => some x7 | .inr x8 => some v1
theorem ok_Keeping_leastLength {γ : GG} {tt : Bool} {F : Nat} {p0 : Int32} {g : Mem} {res : Int32} (h : sp_Keeping_leastLength F p0 g = some res) : CA γ M_Keeping_leastLength 4 [.ref 43, .int p0] SH g tt (0, 0) (pI SH res g tt) := by
  refine CA.of mw_Keeping_leastLength.1 2 rfl ?_
  show WA γ M_Keeping_leastLength 4 0 [some (.ref 43), some (.int p0), none, none] [] SH g tt (0, 0) (pI SH res g tt)
  unfold sp_Keeping_leastLength at h
  refine w_aload_n (q := 1) d_Keeping_leastLength_0 rfl rfl ?_
  refine w_get (q := 4) (ci := 4) (j := 0) d_Keeping_leastLength_1 rfl (by decide) fl_Keeping_15 (by decide) (by decide) s_43 rfl rfl ?_
  refine w_get (q := 7) (ci := 2) (j := 1) d_Keeping_leastLength_4 rfl (by decide) fl_Keeping_76 (by decide) i_23.2.1 i_23.1 rfl rfl ?_
  refine w_iload_n (q := 8) d_Keeping_leastLength_7 rfl rfl ?_
  obtain ⟨v1, hv, h⟩ := bnd h
  obtain ⟨hi, hv⟩ := rd_ok hv
  refine w_iald (q := 9) (t := 0) d_Keeping_leastLength_8 rfl i_23.2.2.1.2 i_23.2.2.1.1 hi rfl ?_
  rw [hv]
  refine w_istore_n (q := 10) (ls' := [some (.ref 43), some (.int p0), some (.int v1), none]) d_Keeping_leastLength_9 rfl (by decide) rfl rfl ?_
  refine w_iconst (q := 11) (v := 0) d_Keeping_leastLength_10 rfl (by decide) ?_
  refine w_istore_n (q := 12) (ls' := [some (.ref 43), some (.int p0), some (.int v1), some (.int 0)]) d_Keeping_leastLength_11 rfl (by decide) rfl rfl ?_
  obtain ⟨x6, hx, h⟩ := bnd h
  refine w_ls (ls' := [some (.ref 43), some (.int p0), some (.int v1), some (.int 0)]) (And.intro rfl (And.intro rfl (And.intro rfl (And.intro rfl trivial)))) ?_
  show PL_Keeping_leastLength_12 γ tt p0 g p0 v1 _ _ 0
  refine lp_ok (kl_Keeping_leastLength_12) F _ x6 hx ?_
  unfold QL_Keeping_leastLength_12
  rcases x6 with x7 | x8
  · dsimp only at h ⊢
    refine w_iload_n (q := 37) d_Keeping_leastLength_36 rfl rfl ?_
    cases h
    exact w_ireturn d_Keeping_leastLength_37 rfl rfl ⟨rfl, rfl, rfl, rfl⟩
  · dsimp only at h ⊢
    refine w_iload_n (q := 45) d_Keeping_leastLength_44 rfl rfl ?_
    cases h
    exact w_ireturn d_Keeping_leastLength_45 rfl rfl ⟨rfl, rfl, rfl, rfl⟩
def sp_Keeping_debtsEaten (F : Nat) (p0 : Int32) (p1 : Int32) (p2 : Int32) (g : Mem) : Option (Int32) := (sp_Hair_eatable F 23 15 p0 p1 (p1 + p2) g).bind fun v1 => (sp_Hair_recordsLostBy F 23 15 v1 g).bind fun v2 => (sp_Hair_valuesOf F 23 15 v2 1 g).bind fun v3 => some v3
theorem ok_Keeping_debtsEaten {γ : GG} {tt : Bool} {F : Nat} {p0 : Int32} {p1 : Int32} {p2 : Int32} {g : Mem} {res : Int32} (h : sp_Keeping_debtsEaten F p0 p1 p2 g = some res) : CA γ M_Keeping_debtsEaten 4 [.ref 43, .int p0, .int p1, .int p2] SH g tt (0, 0) (pI SH res g tt) := by
  refine CA.of mw_Keeping_debtsEaten.1 0 rfl ?_
  show WA γ M_Keeping_debtsEaten 4 0 [some (.ref 43), some (.int p0), some (.int p1), some (.int p2)] [] SH g tt (0, 0) (pI SH res g tt)
  unfold sp_Keeping_debtsEaten at h
  refine w_aload_n (q := 1) d_Keeping_debtsEaten_0 rfl rfl ?_
  refine w_get (q := 4) (ci := 4) (j := 0) d_Keeping_debtsEaten_1 rfl (by decide) fl_Keeping_15 (by decide) (by decide) s_43 rfl rfl ?_
  refine w_aload_n (q := 5) d_Keeping_debtsEaten_4 rfl rfl ?_
  refine w_get (q := 8) (ci := 4) (j := 0) d_Keeping_debtsEaten_5 rfl (by decide) fl_Keeping_15 (by decide) (by decide) s_43 rfl rfl ?_
  refine w_aload_n (q := 9) d_Keeping_debtsEaten_8 rfl rfl ?_
  refine w_get (q := 12) (ci := 4) (j := 0) d_Keeping_debtsEaten_9 rfl (by decide) fl_Keeping_15 (by decide) (by decide) s_43 rfl rfl ?_
  refine w_iload_n (q := 13) d_Keeping_debtsEaten_12 rfl rfl ?_
  refine w_iload_n (q := 14) d_Keeping_debtsEaten_13 rfl rfl ?_
  refine w_iload_n (q := 15) d_Keeping_debtsEaten_14 rfl rfl ?_
  refine w_iload_n (q := 16) d_Keeping_debtsEaten_15 rfl rfl ?_
  refine w_iadd (q := 17) d_Keeping_debtsEaten_16 rfl ?_
  obtain ⟨v1, hv, h⟩ := bnd h
  refine w_callVi (q := 20) (M' := M_Hair_eatable) (n' := 3) (k := 23) (As := [.int p0, .int p1, .int (p1 + p2)]) (sh' := SH) (b1 := (0, 0)) d_Keeping_debtsEaten_17 rfl mw_Hair_eatable (by decide) (by decide) ml_Keeping_83 i_23.2.1 i_23.1 (by decide) rfl rfl rfl (leb rfl) (bz _) (fun _ => rfl) (ok_Hair_eatable i_23 hv) ?_
  obtain ⟨v2, hv, h⟩ := bnd h
  refine w_callVi (q := 23) (M' := M_Hair_recordsLostBy) (n' := 2) (k := 23) (As := [.int v1]) (sh' := SH) (b1 := (0, 0)) d_Keeping_debtsEaten_20 rfl mw_Hair_recordsLostBy (by decide) (by decide) ml_Keeping_67 i_23.2.1 i_23.1 (by decide) rfl rfl rfl (leb rfl) (bz _) (fun _ => rfl) (ok_Hair_recordsLostBy i_23 hv) ?_
  refine w_iconst (q := 24) (v := 1) d_Keeping_debtsEaten_23 rfl (by decide) ?_
  obtain ⟨v3, hv, h⟩ := bnd h
  refine w_callVi (q := 27) (M' := M_Hair_valuesOf) (n' := 1) (k := 23) (As := [.int v2, .int 1]) (sh' := SH) (b1 := (0, 0)) d_Keeping_debtsEaten_24 rfl mw_Hair_valuesOf (by decide) (by decide) ml_Keeping_86 i_23.2.1 i_23.1 (by decide) rfl rfl rfl (leb rfl) (bz _) (fun _ => rfl) (ok_Hair_valuesOf i_23 hv) ?_
  cases h
  exact w_ireturn d_Keeping_debtsEaten_27 rfl rfl ⟨rfl, rfl, rfl, rfl⟩
def PL_Keeping_bestForDebtors_8 (γ : GG) (tt : Bool) (p0 : Int32) (p1 : Int32) (g : Mem) (k1 : Int32) (k2 : Int32) (b : Nat × Nat) (Φ : PO) (s : Int32 × Int32 × Int32) : Prop := WA γ M_Keeping_bestForDebtors 5 8 [some (.ref 43), some (.int k1), some (.int k2), some (.int s.1), some (.int s.2.1), some (.int s.2.2), none] [] SH g tt b Φ
def QL_Keeping_bestForDebtors_8 (γ : GG) (tt : Bool) (p0 : Int32) (p1 : Int32) (g : Mem) (k1 : Int32) (k2 : Int32) (b : Nat × Nat) (Φ : PO) (x : (Int32)) : Prop := WA γ M_Keeping_bestForDebtors 5 45 [none, none, none, some (.int x), none, none, none] [] SH g tt b Φ
def st_Keeping_bestForDebtors_8 (F : Nat) (p0 : Int32) (p1 : Int32) (g : Mem) (k1 : Int32) (k2 : Int32) (s : Int32 × Int32 × Int32) : Option ((Int32 × Int32 × Int32) ⊕ ((Int32))) := if 60 < s.2.2 then some (.inr s.1) else (sp_Keeping_debtsEaten F k1 s.2.2 k2 g).bind fun v2 => if v2 ≤ s.2.1 then some (.inl (s.1, s.2.1, s.2.2 + 1)) else some (.inl (s.2.2, v2, s.2.2 + 1))
theorem kl_Keeping_bestForDebtors_8 {γ : GG} {tt : Bool} {F : Nat} {p0 : Int32} {p1 : Int32} {g : Mem} {k1 : Int32} {k2 : Int32} {b : Nat × Nat} {Φ : PO} : ∀ (s : Int32 × Int32 × Int32) (r : (Int32 × Int32 × Int32) ⊕ ((Int32))), st_Keeping_bestForDebtors_8 F p0 p1 g k1 k2 s = some r → RQ (PL_Keeping_bestForDebtors_8 γ tt p0 p1 g k1 k2 b Φ) (QL_Keeping_bestForDebtors_8 γ tt p0 p1 g k1 k2 b Φ) r → PL_Keeping_bestForDebtors_8 γ tt p0 p1 g k1 k2 b Φ s := by
  intro s r h hr
  unfold st_Keeping_bestForDebtors_8 at h
  unfold PL_Keeping_bestForDebtors_8
  refine w_iload (q := 10) d_Keeping_bestForDebtors_8 rfl rfl ?_
  refine w_bipush (q := 12) (v := 60) d_Keeping_bestForDebtors_10 rfl (by decide) ?_
  by_cases c1 : 60 < s.2.2
  · rw [if_pos c1] at h
    refine w_icmp_gt_t (q := 45) d_Keeping_bestForDebtors_12 rfl c1 ?_
    cases h
    exact w_ls (by exact (And.intro rfl trivial)) hr
  · rw [if_neg c1] at h
    refine w_icmp_gt_f (q := 15) d_Keeping_bestForDebtors_12 45 rfl rfl c1 ?_
    refine w_aload_n (q := 16) d_Keeping_bestForDebtors_15 rfl rfl ?_
    refine w_iload_n (q := 17) d_Keeping_bestForDebtors_16 rfl rfl ?_
    refine w_iload (q := 19) d_Keeping_bestForDebtors_17 rfl rfl ?_
    refine w_iload_n (q := 20) d_Keeping_bestForDebtors_19 rfl rfl ?_
    obtain ⟨v2, hv, h⟩ := bnd h
    refine w_callVi (q := 23) (M' := M_Keeping_debtsEaten) (n' := 4) (k := 43) (As := [.int k1, .int s.2.2, .int k2]) (sh' := SH) (b1 := (0, 0)) d_Keeping_bestForDebtors_20 rfl mw_Keeping_debtsEaten (by decide) (by decide) ml_Keeping_79 (by decide) s_43 (by decide) rfl rfl rfl (leb rfl) (bz _) (fun _ => rfl) (ok_Keeping_debtsEaten hv) ?_
    refine w_istore (q := 25) (ls' := [some (.ref 43), some (.int k1), some (.int k2), some (.int s.1), some (.int s.2.1), some (.int s.2.2), some (.int v2)]) d_Keeping_bestForDebtors_23 rfl (by decide) rfl rfl ?_
    refine w_iload (q := 27) d_Keeping_bestForDebtors_25 rfl rfl ?_
    refine w_iload (q := 29) d_Keeping_bestForDebtors_27 rfl rfl ?_
    by_cases c3 : v2 ≤ s.2.1
    · rw [if_pos c3] at h
      refine w_icmp_le_t (q := 39) d_Keeping_bestForDebtors_29 rfl c3 ?_
      refine w_iinc (q := 42) (ls' := [some (.ref 43), some (.int k1), some (.int k2), some (.int s.1), some (.int s.2.1), some (.int (s.2.2 + 1)), some (.int v2)]) d_Keeping_bestForDebtors_39 rfl (by decide) rfl rfl rfl ?_
      refine w_goto (q := 8) d_Keeping_bestForDebtors_42 rfl ?_
      cases h
      exact w_ls (by exact (And.intro rfl (And.intro rfl (And.intro rfl (And.intro rfl (And.intro rfl (And.intro rfl trivial))))))) hr
    · rw [if_neg c3] at h
      refine w_icmp_le_f (q := 32) d_Keeping_bestForDebtors_29 39 rfl rfl c3 ?_
      refine w_iload (q := 34) d_Keeping_bestForDebtors_32 rfl rfl ?_
      refine w_istore_n (q := 35) (ls' := [some (.ref 43), some (.int k1), some (.int k2), some (.int s.2.2), some (.int s.2.1), some (.int s.2.2), some (.int v2)]) d_Keeping_bestForDebtors_34 rfl (by decide) rfl rfl ?_
      refine w_iload (q := 37) d_Keeping_bestForDebtors_35 rfl rfl ?_
      refine w_istore (q := 39) (ls' := [some (.ref 43), some (.int k1), some (.int k2), some (.int s.2.2), some (.int v2), some (.int s.2.2), some (.int v2)]) d_Keeping_bestForDebtors_37 rfl (by decide) rfl rfl ?_
      refine w_iinc (q := 42) (ls' := [some (.ref 43), some (.int k1), some (.int k2), some (.int s.2.2), some (.int v2), some (.int (s.2.2 + 1)), some (.int v2)]) d_Keeping_bestForDebtors_39 rfl (by decide) rfl rfl rfl ?_
      refine w_goto (q := 8) d_Keeping_bestForDebtors_42 rfl ?_
      cases h
      exact w_ls (by exact (And.intro rfl (And.intro rfl (And.intro rfl (And.intro rfl (And.intro rfl (And.intro rfl trivial))))))) hr
def sp_Keeping_bestForDebtors (F : Nat) (p0 : Int32) (p1 : Int32) (g : Mem) : Option (Int32) := (lpO (st_Keeping_bestForDebtors_8 F p0 p1 g p0 p1) F (0, (-1), 0)).bind fun x4 => some x4
theorem ok_Keeping_bestForDebtors {γ : GG} {tt : Bool} {F : Nat} {p0 : Int32} {p1 : Int32} {g : Mem} {res : Int32} (h : sp_Keeping_bestForDebtors F p0 p1 g = some res) : CA γ M_Keeping_bestForDebtors 5 [.ref 43, .int p0, .int p1] SH g tt (0, 0) (pI SH res g tt) := by
  refine CA.of mw_Keeping_bestForDebtors.1 4 rfl ?_
  show WA γ M_Keeping_bestForDebtors 5 0 [some (.ref 43), some (.int p0), some (.int p1), none, none, none, none] [] SH g tt (0, 0) (pI SH res g tt)
  unfold sp_Keeping_bestForDebtors at h
  refine w_iconst (q := 1) (v := 0) d_Keeping_bestForDebtors_0 rfl (by decide) ?_
  refine w_istore_n (q := 2) (ls' := [some (.ref 43), some (.int p0), some (.int p1), some (.int 0), none, none, none]) d_Keeping_bestForDebtors_1 rfl (by decide) rfl rfl ?_
  refine w_iconst (q := 3) (v := (-1)) d_Keeping_bestForDebtors_2 rfl (by decide) ?_
  refine w_istore (q := 5) (ls' := [some (.ref 43), some (.int p0), some (.int p1), some (.int 0), some (.int ((-1))), none, none]) d_Keeping_bestForDebtors_3 rfl (by decide) rfl rfl ?_
  refine w_iconst (q := 6) (v := 0) d_Keeping_bestForDebtors_5 rfl (by decide) ?_
  refine w_istore (q := 8) (ls' := [some (.ref 43), some (.int p0), some (.int p1), some (.int 0), some (.int ((-1))), some (.int 0), none]) d_Keeping_bestForDebtors_6 rfl (by decide) rfl rfl ?_
  obtain ⟨x4, hx, h⟩ := bnd h
  refine w_ls (ls' := [some (.ref 43), some (.int p0), some (.int p1), some (.int 0), some (.int ((-1))), some (.int 0), none]) (And.intro rfl (And.intro rfl (And.intro rfl (And.intro rfl (And.intro rfl (And.intro rfl trivial)))))) ?_
  show PL_Keeping_bestForDebtors_8 γ tt p0 p1 g p0 p1 _ _ (0, (-1), 0)
  refine lp_ok (kl_Keeping_bestForDebtors_8) F _ x4 hx ?_
  unfold QL_Keeping_bestForDebtors_8
  refine w_iload_n (q := 46) d_Keeping_bestForDebtors_45 rfl rfl ?_
  cases h
  exact w_ireturn d_Keeping_bestForDebtors_46 rfl rfl ⟨rfl, rfl, rfl, rfl⟩
def sp_Keeping_dayOf_j30 (p0 : Int32) (g : Mem) (y0 : Int32) : Option (Int32) := if y0 ≤ 6 then some y0 else some (-1)
theorem ok_Keeping_dayOf_j30 {γ : GG} {tt : Bool} {p0 : Int32} {g : Mem} {y0 : Int32} {res : Int32} (h : sp_Keeping_dayOf_j30 p0 g y0 = some res) : WA γ M_Keeping_dayOf 2 30 [none, none, none] [.int y0] SH g tt (0, 0) (pI SH res g tt) := by
  unfold sp_Keeping_dayOf_j30 at h
  refine w_istore_n (q := 31) (ls' := [none, none, some (.int y0)]) d_Keeping_dayOf_30 rfl (by decide) rfl rfl ?_
  refine w_iload_n (q := 32) d_Keeping_dayOf_31 rfl rfl ?_
  refine w_bipush (q := 34) (v := 6) d_Keeping_dayOf_32 rfl (by decide) ?_
  by_cases c2 : y0 ≤ 6
  · rw [if_pos c2] at h
    refine w_icmp_le_t (q := 41) d_Keeping_dayOf_34 rfl c2 ?_
    refine w_iload_n (q := 42) d_Keeping_dayOf_41 rfl rfl ?_
    cases h
    exact w_ireturn d_Keeping_dayOf_42 rfl rfl ⟨rfl, rfl, rfl, rfl⟩
  · rw [if_neg c2] at h
    refine w_icmp_le_f (q := 37) d_Keeping_dayOf_34 41 rfl rfl c2 ?_
    refine w_iconst (q := 38) (v := (-1)) d_Keeping_dayOf_37 rfl (by decide) ?_
    refine w_goto (q := 42) d_Keeping_dayOf_38 rfl ?_
    cases h
    exact w_ireturn d_Keeping_dayOf_42 rfl rfl ⟨rfl, rfl, rfl, rfl⟩
def sp_Keeping_dayOf (p0 : Int32) (g : Mem) : Option (Int32) := if (g 15 3) ≤ 0 then sp_Keeping_dayOf_j30 p0 g 0 else (sp_Hair_breadths 23 15 p0 g).bind fun v3 => (dv v3 (g 15 3)).bind fun v4 => sp_Keeping_dayOf_j30 p0 g v4
theorem ok_Keeping_dayOf {γ : GG} {tt : Bool} {p0 : Int32} {g : Mem} {res : Int32} (h : sp_Keeping_dayOf p0 g = some res) : CA γ M_Keeping_dayOf 2 [.ref 43, .int p0] SH g tt (0, 0) (pI SH res g tt) := by
  refine CA.of mw_Keeping_dayOf.1 1 rfl ?_
  show WA γ M_Keeping_dayOf 2 0 [some (.ref 43), some (.int p0), none] [] SH g tt (0, 0) (pI SH res g tt)
  unfold sp_Keeping_dayOf at h
  refine w_aload_n (q := 1) d_Keeping_dayOf_0 rfl rfl ?_
  refine w_get (q := 4) (ci := 4) (j := 1) d_Keeping_dayOf_1 rfl (by decide) fl_Keeping_25 (by decide) (by decide) s_43 rfl rfl ?_
  refine w_get (q := 7) (ci := 7) (j := 3) d_Keeping_dayOf_4 rfl (by decide) fl_Keeping_95 (by decide) i_15.2.1 i_15.1 rfl rfl ?_
  by_cases c1 : (g 15 3) ≤ 0
  · rw [if_pos c1] at h
    refine w_if_le_t (q := 29) d_Keeping_dayOf_7 rfl c1 ?_
    refine w_iconst (q := 30) (v := 0) d_Keeping_dayOf_29 rfl (by decide) ?_
    refine w_ls (ls' := [none, none, none]) trivial ?_
    exact ok_Keeping_dayOf_j30 h
  · rw [if_neg c1] at h
    refine w_if_le_f (q := 10) d_Keeping_dayOf_7 29 rfl rfl c1 ?_
    refine w_aload_n (q := 11) d_Keeping_dayOf_10 rfl rfl ?_
    refine w_get (q := 14) (ci := 4) (j := 0) d_Keeping_dayOf_11 rfl (by decide) fl_Keeping_15 (by decide) (by decide) s_43 rfl rfl ?_
    refine w_iload_n (q := 15) d_Keeping_dayOf_14 rfl rfl ?_
    obtain ⟨v3, hv, h⟩ := bnd h
    refine w_callVi (q := 18) (M' := M_Hair_breadths) (n' := 1) (k := 23) (As := [.int p0]) (sh' := SH) (b1 := (0, 0)) d_Keeping_dayOf_15 rfl mw_Hair_breadths (by decide) (by decide) ml_Keeping_98 i_23.2.1 i_23.1 (by decide) rfl rfl rfl (leb rfl) (bz _) (fun _ => rfl) (ok_Hair_breadths i_23 hv) ?_
    refine w_aload_n (q := 19) d_Keeping_dayOf_18 rfl rfl ?_
    refine w_get (q := 22) (ci := 4) (j := 1) d_Keeping_dayOf_19 rfl (by decide) fl_Keeping_25 (by decide) (by decide) s_43 rfl rfl ?_
    refine w_get (q := 25) (ci := 7) (j := 3) d_Keeping_dayOf_22 rfl (by decide) fl_Keeping_95 (by decide) i_15.2.1 i_15.1 rfl rfl ?_
    obtain ⟨v4, hv, h⟩ := bnd h
    obtain ⟨hz, hv⟩ := dv_ok hv
    refine w_idiv (q := 26) d_Keeping_dayOf_25 rfl hz ?_
    rw [hv]
    refine w_goto (q := 30) d_Keeping_dayOf_26 rfl ?_
    refine w_ls (ls' := [none, none, none]) trivial ?_
    exact ok_Keeping_dayOf_j30 h
def PL_Keeping_readOn_15 (γ : GG) (tt : Bool) (p0 : Int32) (p1 : Int32) (g : Mem) (k2 : Int32) (k3 : Int32) (b : Nat × Nat) (Φ : PO) (s : Int32 × Int32) : Prop := WA γ M_Keeping_readOn 3 15 [some (.ref 43), none, some (.int k2), some (.int k3), some (.int s.1), some (.int s.2)] [] SH g tt b Φ
def QL_Keeping_readOn_15 (γ : GG) (tt : Bool) (p0 : Int32) (p1 : Int32) (g : Mem) (k2 : Int32) (k3 : Int32) (b : Nat × Nat) (Φ : PO) (x : (Int32)) : Prop := WA γ M_Keeping_readOn 3 55 [none, none, none, none, some (.int x), none] [] SH g tt b Φ
def st_Keeping_readOn_15 (F : Nat) (p0 : Int32) (p1 : Int32) (g : Mem) (k2 : Int32) (k3 : Int32) (s : Int32 × Int32) : Option ((Int32 × Int32) ⊕ ((Int32))) := if (g 23 4) ≤ s.2 then some (.inr s.1) else (sp_Hall_hasBit k3 s.2 g).bind fun v3 => if v3 = 0 then some (.inl (s.1, s.2 + 1)) else (sp_Keeping_dayOf s.2 g).bind fun v5 => if v5 = k2 then some (.inl (s.1 + 1, s.2 + 1)) else some (.inl (s.1, s.2 + 1))
theorem kl_Keeping_readOn_15 {γ : GG} {tt : Bool} {F : Nat} {p0 : Int32} {p1 : Int32} {g : Mem} {k2 : Int32} {k3 : Int32} {b : Nat × Nat} {Φ : PO} : ∀ (s : Int32 × Int32) (r : (Int32 × Int32) ⊕ ((Int32))), st_Keeping_readOn_15 F p0 p1 g k2 k3 s = some r → RQ (PL_Keeping_readOn_15 γ tt p0 p1 g k2 k3 b Φ) (QL_Keeping_readOn_15 γ tt p0 p1 g k2 k3 b Φ) r → PL_Keeping_readOn_15 γ tt p0 p1 g k2 k3 b Φ s := by
  intro s r h hr
  unfold st_Keeping_readOn_15 at h
  unfold PL_Keeping_readOn_15
  refine w_iload (q := 17) d_Keeping_readOn_15 rfl rfl ?_
  refine w_aload_n (q := 18) d_Keeping_readOn_17 rfl rfl ?_
  refine w_get (q := 21) (ci := 4) (j := 0) d_Keeping_readOn_18 rfl (by decide) fl_Keeping_15 (by decide) (by decide) s_43 rfl rfl ?_
  refine w_get (q := 24) (ci := 2) (j := 4) d_Keeping_readOn_21 rfl (by decide) fl_Keeping_52 (by decide) i_23.2.1 i_23.1 rfl rfl ?_
  by_cases c2 : (g 23 4) ≤ s.2
  · rw [if_pos c2] at h
    refine w_icmp_ge_t (q := 55) d_Keeping_readOn_24 rfl c2 ?_
    cases h
    exact w_ls (by exact (And.intro rfl trivial)) hr
  · rw [if_neg c2] at h
    refine w_icmp_ge_f (q := 27) d_Keeping_readOn_24 55 rfl rfl c2 ?_
    refine w_iload_n (q := 28) d_Keeping_readOn_27 rfl rfl ?_
    refine w_iload (q := 30) d_Keeping_readOn_28 rfl rfl ?_
    obtain ⟨v3, hv, h⟩ := bnd h
    refine w_callNi (q := 33) (host := "BeardHall") (M' := M_Hall_hasBit) (n' := 0) (As := [.int k3, .int s.2]) (sh' := SH) (b1 := (0, 0)) d_Keeping_readOn_30 rfl mw_Hall_hasBit (by decide) (by decide) (by decide) rfl rfl (leb rfl) (bz _) (fun _ => rfl) (ok_Hall_hasBit hv) ?_
    by_cases c4 : v3 = 0
    · rw [if_pos c4] at h
      refine w_if_eq_t (q := 49) d_Keeping_readOn_33 rfl c4 ?_
      refine w_iinc (q := 52) (ls' := [some (.ref 43), none, some (.int k2), some (.int k3), some (.int s.1), some (.int (s.2 + 1))]) d_Keeping_readOn_49 rfl (by decide) rfl rfl rfl ?_
      refine w_goto (q := 15) d_Keeping_readOn_52 rfl ?_
      cases h
      exact w_ls (by exact (And.intro rfl (And.intro rfl (And.intro rfl (And.intro rfl (And.intro rfl trivial)))))) hr
    · rw [if_neg c4] at h
      refine w_if_eq_f (q := 36) d_Keeping_readOn_33 49 rfl rfl c4 ?_
      refine w_aload_n (q := 37) d_Keeping_readOn_36 rfl rfl ?_
      refine w_iload (q := 39) d_Keeping_readOn_37 rfl rfl ?_
      obtain ⟨v5, hv, h⟩ := bnd h
      refine w_callVi (q := 42) (M' := M_Keeping_dayOf) (n' := 2) (k := 43) (As := [.int s.2]) (sh' := SH) (b1 := (0, 0)) d_Keeping_readOn_39 rfl mw_Keeping_dayOf (by decide) (by decide) ml_Keeping_92 (by decide) s_43 (by decide) rfl rfl rfl (leb rfl) (bz _) (fun _ => rfl) (ok_Keeping_dayOf hv) ?_
      refine w_iload_n (q := 43) d_Keeping_readOn_42 rfl rfl ?_
      by_cases c6 : v5 = k2
      · rw [if_pos c6] at h
        refine w_icmp_ne_f (q := 46) d_Keeping_readOn_43 49 rfl rfl c6 ?_
        refine w_iinc (q := 49) (ls' := [some (.ref 43), none, some (.int k2), some (.int k3), some (.int (s.1 + 1)), some (.int s.2)]) d_Keeping_readOn_46 rfl (by decide) rfl rfl rfl ?_
        refine w_iinc (q := 52) (ls' := [some (.ref 43), none, some (.int k2), some (.int k3), some (.int (s.1 + 1)), some (.int (s.2 + 1))]) d_Keeping_readOn_49 rfl (by decide) rfl rfl rfl ?_
        refine w_goto (q := 15) d_Keeping_readOn_52 rfl ?_
        cases h
        exact w_ls (by exact (And.intro rfl (And.intro rfl (And.intro rfl (And.intro rfl (And.intro rfl trivial)))))) hr
      · rw [if_neg c6] at h
        refine w_icmp_ne_t (q := 49) d_Keeping_readOn_43 rfl c6 ?_
        refine w_iinc (q := 52) (ls' := [some (.ref 43), none, some (.int k2), some (.int k3), some (.int s.1), some (.int (s.2 + 1))]) d_Keeping_readOn_49 rfl (by decide) rfl rfl rfl ?_
        refine w_goto (q := 15) d_Keeping_readOn_52 rfl ?_
        cases h
        exact w_ls (by exact (And.intro rfl (And.intro rfl (And.intro rfl (And.intro rfl (And.intro rfl trivial)))))) hr
def sp_Keeping_readOn (F : Nat) (p0 : Int32) (p1 : Int32) (g : Mem) : Option (Int32) := (sp_Hair_thereOf F 23 15 p0 g).bind fun v1 => (lpO (st_Keeping_readOn_15 F p0 p1 g p1 v1) F (0, 0)).bind fun x7 => some x7
theorem ok_Keeping_readOn {γ : GG} {tt : Bool} {F : Nat} {p0 : Int32} {p1 : Int32} {g : Mem} {res : Int32} (h : sp_Keeping_readOn F p0 p1 g = some res) : CA γ M_Keeping_readOn 3 [.ref 43, .int p0, .int p1] SH g tt (0, 0) (pI SH res g tt) := by
  refine CA.of mw_Keeping_readOn.1 3 rfl ?_
  show WA γ M_Keeping_readOn 3 0 [some (.ref 43), some (.int p0), some (.int p1), none, none, none] [] SH g tt (0, 0) (pI SH res g tt)
  unfold sp_Keeping_readOn at h
  refine w_aload_n (q := 1) d_Keeping_readOn_0 rfl rfl ?_
  refine w_get (q := 4) (ci := 4) (j := 0) d_Keeping_readOn_1 rfl (by decide) fl_Keeping_15 (by decide) (by decide) s_43 rfl rfl ?_
  refine w_iload_n (q := 5) d_Keeping_readOn_4 rfl rfl ?_
  obtain ⟨v1, hv, h⟩ := bnd h
  refine w_callVi (q := 8) (M' := M_Hair_thereOf) (n' := 1) (k := 23) (As := [.int p0]) (sh' := SH) (b1 := (0, 0)) d_Keeping_readOn_5 rfl mw_Hair_thereOf (by decide) (by decide) ml_Keeping_89 i_23.2.1 i_23.1 (by decide) rfl rfl rfl (leb rfl) (bz _) (fun _ => rfl) (ok_Hair_thereOf i_23 hv) ?_
  refine w_istore_n (q := 9) (ls' := [some (.ref 43), some (.int p0), some (.int p1), some (.int v1), none, none]) d_Keeping_readOn_8 rfl (by decide) rfl rfl ?_
  refine w_iconst (q := 10) (v := 0) d_Keeping_readOn_9 rfl (by decide) ?_
  refine w_istore (q := 12) (ls' := [some (.ref 43), some (.int p0), some (.int p1), some (.int v1), some (.int 0), none]) d_Keeping_readOn_10 rfl (by decide) rfl rfl ?_
  refine w_iconst (q := 13) (v := 0) d_Keeping_readOn_12 rfl (by decide) ?_
  refine w_istore (q := 15) (ls' := [some (.ref 43), some (.int p0), some (.int p1), some (.int v1), some (.int 0), some (.int 0)]) d_Keeping_readOn_13 rfl (by decide) rfl rfl ?_
  obtain ⟨x7, hx, h⟩ := bnd h
  refine w_ls (ls' := [some (.ref 43), none, some (.int p1), some (.int v1), some (.int 0), some (.int 0)]) (And.intro rfl (And.intro rfl (And.intro rfl (And.intro rfl (And.intro rfl trivial))))) ?_
  show PL_Keeping_readOn_15 γ tt p0 p1 g p1 v1 _ _ (0, 0)
  refine lp_ok (kl_Keeping_readOn_15) F _ x7 hx ?_
  unfold QL_Keeping_readOn_15
  refine w_iload (q := 57) d_Keeping_readOn_55 rfl rfl ?_
  cases h
  exact w_ireturn d_Keeping_readOn_57 rfl rfl ⟨rfl, rfl, rfl, rfl⟩
def sp_Keeping_yearsLeft (p0 : Int32) (g : Mem) : Option (Int32) := (sp_Roll_cell 15 p0 1 g).bind fun v1 => (sp_Hair_isDead 23 15 v1 g).bind fun v2 => if v2 = 0 then (sp_Roll_longest 15 v1 g).bind fun v4 => (sp_Hair_breadths 23 15 p0 g).bind fun v5 => some (v4 - v5) else some (-2)
theorem ok_Keeping_yearsLeft {γ : GG} {tt : Bool} {p0 : Int32} {g : Mem} {res : Int32} (h : sp_Keeping_yearsLeft p0 g = some res) : CA γ M_Keeping_yearsLeft 2 [.ref 43, .int p0] SH g tt (0, 0) (pI SH res g tt) := by
  refine CA.of mw_Keeping_yearsLeft.1 1 rfl ?_
  show WA γ M_Keeping_yearsLeft 2 0 [some (.ref 43), some (.int p0), none] [] SH g tt (0, 0) (pI SH res g tt)
  unfold sp_Keeping_yearsLeft at h
  refine w_aload_n (q := 1) d_Keeping_yearsLeft_0 rfl rfl ?_
  refine w_get (q := 4) (ci := 4) (j := 1) d_Keeping_yearsLeft_1 rfl (by decide) fl_Keeping_25 (by decide) (by decide) s_43 rfl rfl ?_
  refine w_iload_n (q := 5) d_Keeping_yearsLeft_4 rfl rfl ?_
  refine w_iconst (q := 6) (v := 1) d_Keeping_yearsLeft_5 rfl (by decide) ?_
  obtain ⟨v1, hv, h⟩ := bnd h
  refine w_callVi (q := 9) (M' := M_Roll_cell) (n' := 0) (k := 15) (As := [.int p0, .int 1]) (sh' := SH) (b1 := (0, 0)) d_Keeping_yearsLeft_6 rfl mw_Roll_cell (by decide) (by decide) ml_Keeping_101 i_15.2.1 i_15.1 (by decide) rfl rfl rfl (leb rfl) (bz _) (fun _ => rfl) (ok_Roll_cell i_15 hv) ?_
  refine w_istore_n (q := 10) (ls' := [some (.ref 43), some (.int p0), some (.int v1)]) d_Keeping_yearsLeft_9 rfl (by decide) rfl rfl ?_
  refine w_aload_n (q := 11) d_Keeping_yearsLeft_10 rfl rfl ?_
  refine w_get (q := 14) (ci := 4) (j := 0) d_Keeping_yearsLeft_11 rfl (by decide) fl_Keeping_15 (by decide) (by decide) s_43 rfl rfl ?_
  refine w_iload_n (q := 15) d_Keeping_yearsLeft_14 rfl rfl ?_
  obtain ⟨v2, hv, h⟩ := bnd h
  refine w_callVi (q := 18) (M' := M_Hair_isDead) (n' := 0) (k := 23) (As := [.int v1]) (sh' := SH) (b1 := (0, 0)) d_Keeping_yearsLeft_15 rfl mw_Hair_isDead (by decide) (by decide) ml_Keeping_104 i_23.2.1 i_23.1 (by decide) rfl rfl rfl (leb rfl) (bz _) (fun _ => rfl) (ok_Hair_isDead i_23 hv) ?_
  by_cases c3 : v2 = 0
  · rw [if_pos c3] at h
    refine w_if_eq_t (q := 26) d_Keeping_yearsLeft_18 rfl c3 ?_
    refine w_aload_n (q := 27) d_Keeping_yearsLeft_26 rfl rfl ?_
    refine w_get (q := 30) (ci := 4) (j := 1) d_Keeping_yearsLeft_27 rfl (by decide) fl_Keeping_25 (by decide) (by decide) s_43 rfl rfl ?_
    refine w_iload_n (q := 31) d_Keeping_yearsLeft_30 rfl rfl ?_
    obtain ⟨v4, hv, h⟩ := bnd h
    refine w_callVi (q := 34) (M' := M_Roll_longest) (n' := 1) (k := 15) (As := [.int v1]) (sh' := SH) (b1 := (0, 0)) d_Keeping_yearsLeft_31 rfl mw_Roll_longest (by decide) (by decide) ml_Keeping_108 i_15.2.1 i_15.1 (by decide) rfl rfl rfl (leb rfl) (bz _) (fun _ => rfl) (ok_Roll_longest i_15 hv) ?_
    refine w_aload_n (q := 35) d_Keeping_yearsLeft_34 rfl rfl ?_
    refine w_get (q := 38) (ci := 4) (j := 0) d_Keeping_yearsLeft_35 rfl (by decide) fl_Keeping_15 (by decide) (by decide) s_43 rfl rfl ?_
    refine w_iload_n (q := 39) d_Keeping_yearsLeft_38 rfl rfl ?_
    obtain ⟨v5, hv, h⟩ := bnd h
    refine w_callVi (q := 42) (M' := M_Hair_breadths) (n' := 1) (k := 23) (As := [.int p0]) (sh' := SH) (b1 := (0, 0)) d_Keeping_yearsLeft_39 rfl mw_Hair_breadths (by decide) (by decide) ml_Keeping_98 i_23.2.1 i_23.1 (by decide) rfl rfl rfl (leb rfl) (bz _) (fun _ => rfl) (ok_Hair_breadths i_23 hv) ?_
    refine w_isub (q := 43) d_Keeping_yearsLeft_42 rfl ?_
    cases h
    exact w_ireturn d_Keeping_yearsLeft_43 rfl rfl ⟨rfl, rfl, rfl, rfl⟩
  · rw [if_neg c3] at h
    refine w_if_eq_f (q := 21) d_Keeping_yearsLeft_18 26 rfl rfl c3 ?_
    refine w_bipush (q := 23) (v := (-2)) d_Keeping_yearsLeft_21 rfl (by decide) ?_
    refine w_goto (q := 43) d_Keeping_yearsLeft_23 rfl ?_
    cases h
    exact w_ireturn d_Keeping_yearsLeft_43 rfl rfl ⟨rfl, rfl, rfl, rfl⟩
def PL_Keeping_lostWithin_4 (γ : GG) (tt : Bool) (p0 : Int32) (g : Mem) (k1 : Int32) (b : Nat × Nat) (Φ : PO) (s : Int32 × Int32) : Prop := WA γ M_Keeping_lostWithin 3 4 [some (.ref 43), some (.int k1), some (.int s.1), some (.int s.2), none] [] SH g tt b Φ
def QL_Keeping_lostWithin_4 (γ : GG) (tt : Bool) (p0 : Int32) (g : Mem) (k1 : Int32) (b : Nat × Nat) (Φ : PO) (x : (Int32)) : Prop := WA γ M_Keeping_lostWithin 3 47 [some (.ref 43), none, some (.int x), none, none] [] SH g tt b Φ
def st_Keeping_lostWithin_4 (F : Nat) (p0 : Int32) (g : Mem) (k1 : Int32) (s : Int32 × Int32) : Option ((Int32 × Int32) ⊕ ((Int32))) := if (g 23 4) ≤ s.2 then some (.inr s.1) else (sp_Keeping_yearsLeft s.2 g).bind fun v2 => if v2 = (-2) then some (.inl (s.1, s.2 + 1)) else if k1 ≤ v2 then some (.inl (s.1, s.2 + 1)) else some (.inl (s.1 ||| (1 <<< (s.2 &&& 31)), s.2 + 1))
theorem kl_Keeping_lostWithin_4 {γ : GG} {tt : Bool} {F : Nat} {p0 : Int32} {g : Mem} {k1 : Int32} {b : Nat × Nat} {Φ : PO} : ∀ (s : Int32 × Int32) (r : (Int32 × Int32) ⊕ ((Int32))), st_Keeping_lostWithin_4 F p0 g k1 s = some r → RQ (PL_Keeping_lostWithin_4 γ tt p0 g k1 b Φ) (QL_Keeping_lostWithin_4 γ tt p0 g k1 b Φ) r → PL_Keeping_lostWithin_4 γ tt p0 g k1 b Φ s := by
  intro s r h hr
  unfold st_Keeping_lostWithin_4 at h
  unfold PL_Keeping_lostWithin_4
  refine w_iload_n (q := 5) d_Keeping_lostWithin_4 rfl rfl ?_
  refine w_aload_n (q := 6) d_Keeping_lostWithin_5 rfl rfl ?_
  refine w_get (q := 9) (ci := 4) (j := 0) d_Keeping_lostWithin_6 rfl (by decide) fl_Keeping_15 (by decide) (by decide) s_43 rfl rfl ?_
  refine w_get (q := 12) (ci := 2) (j := 4) d_Keeping_lostWithin_9 rfl (by decide) fl_Keeping_52 (by decide) i_23.2.1 i_23.1 rfl rfl ?_
  by_cases c1 : (g 23 4) ≤ s.2
  · rw [if_pos c1] at h
    refine w_icmp_ge_t (q := 47) d_Keeping_lostWithin_12 rfl c1 ?_
    cases h
    exact w_ls (by exact (And.intro rfl (And.intro rfl trivial))) hr
  · rw [if_neg c1] at h
    refine w_icmp_ge_f (q := 15) d_Keeping_lostWithin_12 47 rfl rfl c1 ?_
    refine w_aload_n (q := 16) d_Keeping_lostWithin_15 rfl rfl ?_
    refine w_iload_n (q := 17) d_Keeping_lostWithin_16 rfl rfl ?_
    obtain ⟨v2, hv, h⟩ := bnd h
    refine w_callVi (q := 20) (M' := M_Keeping_yearsLeft) (n' := 2) (k := 43) (As := [.int s.2]) (sh' := SH) (b1 := (0, 0)) d_Keeping_lostWithin_17 rfl mw_Keeping_yearsLeft (by decide) (by decide) ml_Keeping_111 (by decide) s_43 (by decide) rfl rfl rfl (leb rfl) (bz _) (fun _ => rfl) (ok_Keeping_yearsLeft hv) ?_
    refine w_istore (q := 22) (ls' := [some (.ref 43), some (.int k1), some (.int s.1), some (.int s.2), some (.int v2)]) d_Keeping_lostWithin_20 rfl (by decide) rfl rfl ?_
    refine w_iload (q := 24) d_Keeping_lostWithin_22 rfl rfl ?_
    refine w_bipush (q := 26) (v := (-2)) d_Keeping_lostWithin_24 rfl (by decide) ?_
    by_cases c3 : v2 = (-2)
    · rw [if_pos c3] at h
      refine w_icmp_eq_t (q := 41) d_Keeping_lostWithin_26 rfl c3 ?_
      refine w_iinc (q := 44) (ls' := [some (.ref 43), some (.int k1), some (.int s.1), some (.int (s.2 + 1)), some (.int v2)]) d_Keeping_lostWithin_41 rfl (by decide) rfl rfl rfl ?_
      refine w_goto (q := 4) d_Keeping_lostWithin_44 rfl ?_
      cases h
      exact w_ls (by exact (And.intro rfl (And.intro rfl (And.intro rfl (And.intro rfl trivial))))) hr
    · rw [if_neg c3] at h
      refine w_icmp_eq_f (q := 29) d_Keeping_lostWithin_26 41 rfl rfl c3 ?_
      refine w_iload (q := 31) d_Keeping_lostWithin_29 rfl rfl ?_
      refine w_iload_n (q := 32) d_Keeping_lostWithin_31 rfl rfl ?_
      by_cases c4 : k1 ≤ v2
      · rw [if_pos c4] at h
        refine w_icmp_ge_t (q := 41) d_Keeping_lostWithin_32 rfl c4 ?_
        refine w_iinc (q := 44) (ls' := [some (.ref 43), some (.int k1), some (.int s.1), some (.int (s.2 + 1)), some (.int v2)]) d_Keeping_lostWithin_41 rfl (by decide) rfl rfl rfl ?_
        refine w_goto (q := 4) d_Keeping_lostWithin_44 rfl ?_
        cases h
        exact w_ls (by exact (And.intro rfl (And.intro rfl (And.intro rfl (And.intro rfl trivial))))) hr
      · rw [if_neg c4] at h
        refine w_icmp_ge_f (q := 35) d_Keeping_lostWithin_32 41 rfl rfl c4 ?_
        refine w_iload_n (q := 36) d_Keeping_lostWithin_35 rfl rfl ?_
        refine w_iconst (q := 37) (v := 1) d_Keeping_lostWithin_36 rfl (by decide) ?_
        refine w_iload_n (q := 38) d_Keeping_lostWithin_37 rfl rfl ?_
        refine w_ishl (q := 39) d_Keeping_lostWithin_38 rfl ?_
        refine w_ior (q := 40) d_Keeping_lostWithin_39 rfl ?_
        refine w_istore_n (q := 41) (ls' := [some (.ref 43), some (.int k1), some (.int (s.1 ||| (1 <<< (s.2 &&& 31)))), some (.int s.2), some (.int v2)]) d_Keeping_lostWithin_40 rfl (by decide) rfl rfl ?_
        refine w_iinc (q := 44) (ls' := [some (.ref 43), some (.int k1), some (.int (s.1 ||| (1 <<< (s.2 &&& 31)))), some (.int (s.2 + 1)), some (.int v2)]) d_Keeping_lostWithin_41 rfl (by decide) rfl rfl rfl ?_
        refine w_goto (q := 4) d_Keeping_lostWithin_44 rfl ?_
        cases h
        exact w_ls (by exact (And.intro rfl (And.intro rfl (And.intro rfl (And.intro rfl trivial))))) hr
def sp_Keeping_lostWithin (F : Nat) (p0 : Int32) (g : Mem) : Option (Int32) := (lpO (st_Keeping_lostWithin_4 F p0 g p0) F (0, 0)).bind fun x5 => (sp_Hair_recordsLostBy F 23 15 x5 g).bind fun v6 => (sp_JInteger_bitCount v6 g).bind fun v7 => some v7
theorem ok_Keeping_lostWithin {γ : GG} {tt : Bool} {F : Nat} {p0 : Int32} {g : Mem} {res : Int32} (h : sp_Keeping_lostWithin F p0 g = some res) : CA γ M_Keeping_lostWithin 3 [.ref 43, .int p0] SH g tt (0, 0) (pI SH res g tt) := by
  refine CA.of mw_Keeping_lostWithin.1 3 rfl ?_
  show WA γ M_Keeping_lostWithin 3 0 [some (.ref 43), some (.int p0), none, none, none] [] SH g tt (0, 0) (pI SH res g tt)
  unfold sp_Keeping_lostWithin at h
  refine w_iconst (q := 1) (v := 0) d_Keeping_lostWithin_0 rfl (by decide) ?_
  refine w_istore_n (q := 2) (ls' := [some (.ref 43), some (.int p0), some (.int 0), none, none]) d_Keeping_lostWithin_1 rfl (by decide) rfl rfl ?_
  refine w_iconst (q := 3) (v := 0) d_Keeping_lostWithin_2 rfl (by decide) ?_
  refine w_istore_n (q := 4) (ls' := [some (.ref 43), some (.int p0), some (.int 0), some (.int 0), none]) d_Keeping_lostWithin_3 rfl (by decide) rfl rfl ?_
  obtain ⟨x5, hx, h⟩ := bnd h
  refine w_ls (ls' := [some (.ref 43), some (.int p0), some (.int 0), some (.int 0), none]) (And.intro rfl (And.intro rfl (And.intro rfl (And.intro rfl trivial)))) ?_
  show PL_Keeping_lostWithin_4 γ tt p0 g p0 _ _ (0, 0)
  refine lp_ok (kl_Keeping_lostWithin_4) F _ x5 hx ?_
  unfold QL_Keeping_lostWithin_4
  refine w_aload_n (q := 48) d_Keeping_lostWithin_47 rfl rfl ?_
  refine w_get (q := 51) (ci := 4) (j := 0) d_Keeping_lostWithin_48 rfl (by decide) fl_Keeping_15 (by decide) (by decide) s_43 rfl rfl ?_
  refine w_iload_n (q := 52) d_Keeping_lostWithin_51 rfl rfl ?_
  obtain ⟨v6, hv, h⟩ := bnd h
  refine w_callVi (q := 55) (M' := M_Hair_recordsLostBy) (n' := 2) (k := 23) (As := [.int x5]) (sh' := SH) (b1 := (0, 0)) d_Keeping_lostWithin_52 rfl mw_Hair_recordsLostBy (by decide) (by decide) ml_Keeping_67 i_23.2.1 i_23.1 (by decide) rfl rfl rfl (leb rfl) (bz _) (fun _ => rfl) (ok_Hair_recordsLostBy i_23 hv) ?_
  obtain ⟨v7, hv, h⟩ := bnd h
  refine w_callSi (q := 58) (M' := M_JInteger_bitCount) (n' := 0) (As := [.int v6]) (sh' := SH) (b1 := (0, 0)) d_Keeping_lostWithin_55 rfl mw_JInteger_bitCount (by decide) (by decide) ml_Keeping_44 rfl rfl (leb rfl) (bz _) (fun _ => rfl) (ok_JInteger_bitCount hv) ?_
  cases h
  exact w_ireturn d_Keeping_lostWithin_58 rfl rfl ⟨rfl, rfl, rfl, rfl⟩
def PL_Keeping_bestForBraiding_4 (γ : GG) (tt : Bool) (g : Mem) (b : Nat × Nat) (Φ : PO) (s : Int32 × Int32) : Prop := WA γ M_Keeping_bestForBraiding 2 4 [some (.ref 43), some (.int s.1), some (.int s.2)] [] SH g tt b Φ
def QL_Keeping_bestForBraiding_4 (γ : GG) (tt : Bool) (g : Mem) (b : Nat × Nat) (Φ : PO) (x : (Int32)) : Prop := WA γ M_Keeping_bestForBraiding 2 58 [none, some (.int x), none] [] SH g tt b Φ
def st_Keeping_bestForBraiding_4 (F : Nat) (g : Mem) (s : Int32 × Int32) : Option ((Int32 × Int32) ⊕ ((Int32))) := if (g 15 0) ≤ s.2 then some (.inr s.1) else (sp_Hair_isDead 23 15 s.2 g).bind fun v2 => if v2 = 0 then if s.1 = (-1) then some (.inl (s.2, s.2 + 1)) else (sp_Roll_longest 15 s.2 g).bind fun v5 => (sp_Roll_longest 15 s.1 g).bind fun v6 => if v5 ≤ v6 then some (.inl (s.1, s.2 + 1)) else some (.inl (s.2, s.2 + 1)) else some (.inl (s.1, s.2 + 1))
theorem kl_Keeping_bestForBraiding_4 {γ : GG} {tt : Bool} {F : Nat} {g : Mem} {b : Nat × Nat} {Φ : PO} : ∀ (s : Int32 × Int32) (r : (Int32 × Int32) ⊕ ((Int32))), st_Keeping_bestForBraiding_4 F g s = some r → RQ (PL_Keeping_bestForBraiding_4 γ tt g b Φ) (QL_Keeping_bestForBraiding_4 γ tt g b Φ) r → PL_Keeping_bestForBraiding_4 γ tt g b Φ s := by
  intro s r h hr
  unfold st_Keeping_bestForBraiding_4 at h
  unfold PL_Keeping_bestForBraiding_4
  refine w_iload_n (q := 5) d_Keeping_bestForBraiding_4 rfl rfl ?_
  refine w_aload_n (q := 6) d_Keeping_bestForBraiding_5 rfl rfl ?_
  refine w_get (q := 9) (ci := 4) (j := 1) d_Keeping_bestForBraiding_6 rfl (by decide) fl_Keeping_25 (by decide) (by decide) s_43 rfl rfl ?_
  refine w_get (q := 12) (ci := 7) (j := 0) d_Keeping_bestForBraiding_9 rfl (by decide) fl_Keeping_26 (by decide) i_15.2.1 i_15.1 rfl rfl ?_
  by_cases c1 : (g 15 0) ≤ s.2
  · rw [if_pos c1] at h
    refine w_icmp_ge_t (q := 58) d_Keeping_bestForBraiding_12 rfl c1 ?_
    cases h
    exact w_ls (by exact (And.intro rfl trivial)) hr
  · rw [if_neg c1] at h
    refine w_icmp_ge_f (q := 15) d_Keeping_bestForBraiding_12 58 rfl rfl c1 ?_
    refine w_aload_n (q := 16) d_Keeping_bestForBraiding_15 rfl rfl ?_
    refine w_get (q := 19) (ci := 4) (j := 0) d_Keeping_bestForBraiding_16 rfl (by decide) fl_Keeping_15 (by decide) (by decide) s_43 rfl rfl ?_
    refine w_iload_n (q := 20) d_Keeping_bestForBraiding_19 rfl rfl ?_
    obtain ⟨v2, hv, h⟩ := bnd h
    refine w_callVi (q := 23) (M' := M_Hair_isDead) (n' := 0) (k := 23) (As := [.int s.2]) (sh' := SH) (b1 := (0, 0)) d_Keeping_bestForBraiding_20 rfl mw_Hair_isDead (by decide) (by decide) ml_Keeping_104 i_23.2.1 i_23.1 (by decide) rfl rfl rfl (leb rfl) (bz _) (fun _ => rfl) (ok_Hair_isDead i_23 hv) ?_
    by_cases c3 : v2 = 0
    · rw [if_pos c3] at h
      refine w_if_ne_f (q := 26) d_Keeping_bestForBraiding_23 52 rfl rfl c3 ?_
      refine w_iload_n (q := 27) d_Keeping_bestForBraiding_26 rfl rfl ?_
      refine w_iconst (q := 28) (v := (-1)) d_Keeping_bestForBraiding_27 rfl (by decide) ?_
      by_cases c4 : s.1 = (-1)
      · rw [if_pos c4] at h
        refine w_icmp_eq_t (q := 50) d_Keeping_bestForBraiding_28 rfl c4 ?_
        refine w_iload_n (q := 51) d_Keeping_bestForBraiding_50 rfl rfl ?_
        refine w_istore_n (q := 52) (ls' := [some (.ref 43), some (.int s.2), some (.int s.2)]) d_Keeping_bestForBraiding_51 rfl (by decide) rfl rfl ?_
        refine w_iinc (q := 55) (ls' := [some (.ref 43), some (.int s.2), some (.int (s.2 + 1))]) d_Keeping_bestForBraiding_52 rfl (by decide) rfl rfl rfl ?_
        refine w_goto (q := 4) d_Keeping_bestForBraiding_55 rfl ?_
        cases h
        exact w_ls (by exact (And.intro rfl (And.intro rfl (And.intro rfl trivial)))) hr
      · rw [if_neg c4] at h
        refine w_icmp_eq_f (q := 31) d_Keeping_bestForBraiding_28 50 rfl rfl c4 ?_
        refine w_aload_n (q := 32) d_Keeping_bestForBraiding_31 rfl rfl ?_
        refine w_get (q := 35) (ci := 4) (j := 1) d_Keeping_bestForBraiding_32 rfl (by decide) fl_Keeping_25 (by decide) (by decide) s_43 rfl rfl ?_
        refine w_iload_n (q := 36) d_Keeping_bestForBraiding_35 rfl rfl ?_
        obtain ⟨v5, hv, h⟩ := bnd h
        refine w_callVi (q := 39) (M' := M_Roll_longest) (n' := 1) (k := 15) (As := [.int s.2]) (sh' := SH) (b1 := (0, 0)) d_Keeping_bestForBraiding_36 rfl mw_Roll_longest (by decide) (by decide) ml_Keeping_108 i_15.2.1 i_15.1 (by decide) rfl rfl rfl (leb rfl) (bz _) (fun _ => rfl) (ok_Roll_longest i_15 hv) ?_
        refine w_aload_n (q := 40) d_Keeping_bestForBraiding_39 rfl rfl ?_
        refine w_get (q := 43) (ci := 4) (j := 1) d_Keeping_bestForBraiding_40 rfl (by decide) fl_Keeping_25 (by decide) (by decide) s_43 rfl rfl ?_
        refine w_iload_n (q := 44) d_Keeping_bestForBraiding_43 rfl rfl ?_
        obtain ⟨v6, hv, h⟩ := bnd h
        refine w_callVi (q := 47) (M' := M_Roll_longest) (n' := 1) (k := 15) (As := [.int s.1]) (sh' := SH) (b1 := (0, 0)) d_Keeping_bestForBraiding_44 rfl mw_Roll_longest (by decide) (by decide) ml_Keeping_108 i_15.2.1 i_15.1 (by decide) rfl rfl rfl (leb rfl) (bz _) (fun _ => rfl) (ok_Roll_longest i_15 hv) ?_
        by_cases c7 : v5 ≤ v6
        · rw [if_pos c7] at h
          refine w_icmp_le_t (q := 52) d_Keeping_bestForBraiding_47 rfl c7 ?_
          refine w_iinc (q := 55) (ls' := [some (.ref 43), some (.int s.1), some (.int (s.2 + 1))]) d_Keeping_bestForBraiding_52 rfl (by decide) rfl rfl rfl ?_
          refine w_goto (q := 4) d_Keeping_bestForBraiding_55 rfl ?_
          cases h
          exact w_ls (by exact (And.intro rfl (And.intro rfl (And.intro rfl trivial)))) hr
        · rw [if_neg c7] at h
          refine w_icmp_le_f (q := 50) d_Keeping_bestForBraiding_47 52 rfl rfl c7 ?_
          refine w_iload_n (q := 51) d_Keeping_bestForBraiding_50 rfl rfl ?_
          refine w_istore_n (q := 52) (ls' := [some (.ref 43), some (.int s.2), some (.int s.2)]) d_Keeping_bestForBraiding_51 rfl (by decide) rfl rfl ?_
          refine w_iinc (q := 55) (ls' := [some (.ref 43), some (.int s.2), some (.int (s.2 + 1))]) d_Keeping_bestForBraiding_52 rfl (by decide) rfl rfl rfl ?_
          refine w_goto (q := 4) d_Keeping_bestForBraiding_55 rfl ?_
          cases h
          exact w_ls (by exact (And.intro rfl (And.intro rfl (And.intro rfl trivial)))) hr
    · rw [if_neg c3] at h
      refine w_if_ne_t (q := 52) d_Keeping_bestForBraiding_23 rfl c3 ?_
      refine w_iinc (q := 55) (ls' := [some (.ref 43), some (.int s.1), some (.int (s.2 + 1))]) d_Keeping_bestForBraiding_52 rfl (by decide) rfl rfl rfl ?_
      refine w_goto (q := 4) d_Keeping_bestForBraiding_55 rfl ?_
      cases h
      exact w_ls (by exact (And.intro rfl (And.intro rfl (And.intro rfl trivial)))) hr
def sp_Keeping_bestForBraiding (F : Nat) (g : Mem) : Option (Int32) := (lpO (st_Keeping_bestForBraiding_4 F g) F ((-1), 0)).bind fun x8 => some x8
theorem ok_Keeping_bestForBraiding {γ : GG} {tt : Bool} {F : Nat} {g : Mem} {res : Int32} (h : sp_Keeping_bestForBraiding F g = some res) : CA γ M_Keeping_bestForBraiding 2 [.ref 43] SH g tt (0, 0) (pI SH res g tt) := by
  refine CA.of mw_Keeping_bestForBraiding.1 2 rfl ?_
  show WA γ M_Keeping_bestForBraiding 2 0 [some (.ref 43), none, none] [] SH g tt (0, 0) (pI SH res g tt)
  unfold sp_Keeping_bestForBraiding at h
  refine w_iconst (q := 1) (v := (-1)) d_Keeping_bestForBraiding_0 rfl (by decide) ?_
  refine w_istore_n (q := 2) (ls' := [some (.ref 43), some (.int ((-1))), none]) d_Keeping_bestForBraiding_1 rfl (by decide) rfl rfl ?_
  refine w_iconst (q := 3) (v := 0) d_Keeping_bestForBraiding_2 rfl (by decide) ?_
  refine w_istore_n (q := 4) (ls' := [some (.ref 43), some (.int ((-1))), some (.int 0)]) d_Keeping_bestForBraiding_3 rfl (by decide) rfl rfl ?_
  obtain ⟨x8, hx, h⟩ := bnd h
  refine w_ls (ls' := [some (.ref 43), some (.int ((-1))), some (.int 0)]) (And.intro rfl (And.intro rfl (And.intro rfl trivial))) ?_
  show PL_Keeping_bestForBraiding_4 γ tt g _ _ ((-1), 0)
  refine lp_ok (kl_Keeping_bestForBraiding_4) F _ x8 hx ?_
  unfold QL_Keeping_bestForBraiding_4
  refine w_iload_n (q := 59) d_Keeping_bestForBraiding_58 rfl rfl ?_
  cases h
  exact w_ireturn d_Keeping_bestForBraiding_59 rfl rfl ⟨rfl, rfl, rfl, rfl⟩
def PL_Keeping_mostAlike_17 (γ : GG) (tt : Bool) (p0 : Int32) (g : Mem) (k1 : Int32) (k2 : Int32) (b : Nat × Nat) (Φ : PO) (s : Int32 × Int32 × Int32) : Prop := WA γ M_Keeping_mostAlike 3 17 [some (.ref 43), some (.int k1), some (.int k2), some (.int s.1), some (.int s.2.1), some (.int s.2.2), none] [] SH g tt b Φ
def QL_Keeping_mostAlike_17 (γ : GG) (tt : Bool) (p0 : Int32) (g : Mem) (k1 : Int32) (k2 : Int32) (b : Nat × Nat) (Φ : PO) (x : (Int32)) : Prop := WA γ M_Keeping_mostAlike 3 83 [none, none, none, some (.int x), none, none, none] [] SH g tt b Φ
def st_Keeping_mostAlike_17 (F : Nat) (p0 : Int32) (g : Mem) (k1 : Int32) (k2 : Int32) (s : Int32 × Int32 × Int32) : Option ((Int32 × Int32 × Int32) ⊕ ((Int32))) := if (g 15 0) ≤ s.2.2 then some (.inr s.1) else (sp_Hair_recordsHeldBy F 23 15 s.2.2 g).bind fun v3 => (sp_JInteger_bitCount (k2 &&& v3) g).bind fun v4 => if s.2.2 = k1 then some (.inl (s.1, s.2.1, s.2.2 + 1)) else (sp_Hair_isDead 23 15 s.2.2 g).bind fun v6 => if v6 = 0 then if v4 ≤ s.2.1 then some (.inl (s.1, s.2.1, s.2.2 + 1)) else some (.inl (s.2.2, v4, s.2.2 + 1)) else some (.inl (s.1, s.2.1, s.2.2 + 1))
theorem kl_Keeping_mostAlike_17 {γ : GG} {tt : Bool} {F : Nat} {p0 : Int32} {g : Mem} {k1 : Int32} {k2 : Int32} {b : Nat × Nat} {Φ : PO} : ∀ (s : Int32 × Int32 × Int32) (r : (Int32 × Int32 × Int32) ⊕ ((Int32))), st_Keeping_mostAlike_17 F p0 g k1 k2 s = some r → RQ (PL_Keeping_mostAlike_17 γ tt p0 g k1 k2 b Φ) (QL_Keeping_mostAlike_17 γ tt p0 g k1 k2 b Φ) r → PL_Keeping_mostAlike_17 γ tt p0 g k1 k2 b Φ s := by
  intro s r h hr
  unfold st_Keeping_mostAlike_17 at h
  unfold PL_Keeping_mostAlike_17
  refine w_iload (q := 19) d_Keeping_mostAlike_17 rfl rfl ?_
  refine w_aload_n (q := 20) d_Keeping_mostAlike_19 rfl rfl ?_
  refine w_get (q := 23) (ci := 4) (j := 1) d_Keeping_mostAlike_20 rfl (by decide) fl_Keeping_25 (by decide) (by decide) s_43 rfl rfl ?_
  refine w_get (q := 26) (ci := 7) (j := 0) d_Keeping_mostAlike_23 rfl (by decide) fl_Keeping_26 (by decide) i_15.2.1 i_15.1 rfl rfl ?_
  by_cases c2 : (g 15 0) ≤ s.2.2
  · rw [if_pos c2] at h
    refine w_icmp_ge_t (q := 83) d_Keeping_mostAlike_26 rfl c2 ?_
    cases h
    exact w_ls (by exact (And.intro rfl trivial)) hr
  · rw [if_neg c2] at h
    refine w_icmp_ge_f (q := 29) d_Keeping_mostAlike_26 83 rfl rfl c2 ?_
    refine w_iload_n (q := 30) d_Keeping_mostAlike_29 rfl rfl ?_
    refine w_aload_n (q := 31) d_Keeping_mostAlike_30 rfl rfl ?_
    refine w_get (q := 34) (ci := 4) (j := 0) d_Keeping_mostAlike_31 rfl (by decide) fl_Keeping_15 (by decide) (by decide) s_43 rfl rfl ?_
    refine w_iload (q := 36) d_Keeping_mostAlike_34 rfl rfl ?_
    obtain ⟨v3, hv, h⟩ := bnd h
    refine w_callVi (q := 39) (M' := M_Hair_recordsHeldBy) (n' := 2) (k := 23) (As := [.int s.2.2]) (sh' := SH) (b1 := (0, 0)) d_Keeping_mostAlike_36 rfl mw_Hair_recordsHeldBy (by decide) (by decide) ml_Keeping_36 i_23.2.1 i_23.1 (by decide) rfl rfl rfl (leb rfl) (bz _) (fun _ => rfl) (ok_Hair_recordsHeldBy i_23 hv) ?_
    refine w_iand (q := 40) d_Keeping_mostAlike_39 rfl ?_
    obtain ⟨v4, hv, h⟩ := bnd h
    refine w_callSi (q := 43) (M' := M_JInteger_bitCount) (n' := 0) (As := [.int (k2 &&& v3)]) (sh' := SH) (b1 := (0, 0)) d_Keeping_mostAlike_40 rfl mw_JInteger_bitCount (by decide) (by decide) ml_Keeping_44 rfl rfl (leb rfl) (bz _) (fun _ => rfl) (ok_JInteger_bitCount hv) ?_
    refine w_istore (q := 45) (ls' := [some (.ref 43), some (.int k1), some (.int k2), some (.int s.1), some (.int s.2.1), some (.int s.2.2), some (.int v4)]) d_Keeping_mostAlike_43 rfl (by decide) rfl rfl ?_
    refine w_iload (q := 47) d_Keeping_mostAlike_45 rfl rfl ?_
    refine w_iload_n (q := 48) d_Keeping_mostAlike_47 rfl rfl ?_
    by_cases c5 : s.2.2 = k1
    · rw [if_pos c5] at h
      refine w_icmp_eq_t (q := 77) d_Keeping_mostAlike_48 rfl c5 ?_
      refine w_iinc (q := 80) (ls' := [some (.ref 43), some (.int k1), some (.int k2), some (.int s.1), some (.int s.2.1), some (.int (s.2.2 + 1)), some (.int v4)]) d_Keeping_mostAlike_77 rfl (by decide) rfl rfl rfl ?_
      refine w_goto (q := 17) d_Keeping_mostAlike_80 rfl ?_
      cases h
      exact w_ls (by exact (And.intro rfl (And.intro rfl (And.intro rfl (And.intro rfl (And.intro rfl (And.intro rfl trivial))))))) hr
    · rw [if_neg c5] at h
      refine w_icmp_eq_f (q := 51) d_Keeping_mostAlike_48 77 rfl rfl c5 ?_
      refine w_aload_n (q := 52) d_Keeping_mostAlike_51 rfl rfl ?_
      refine w_get (q := 55) (ci := 4) (j := 0) d_Keeping_mostAlike_52 rfl (by decide) fl_Keeping_15 (by decide) (by decide) s_43 rfl rfl ?_
      refine w_iload (q := 57) d_Keeping_mostAlike_55 rfl rfl ?_
      obtain ⟨v6, hv, h⟩ := bnd h
      refine w_callVi (q := 60) (M' := M_Hair_isDead) (n' := 0) (k := 23) (As := [.int s.2.2]) (sh' := SH) (b1 := (0, 0)) d_Keeping_mostAlike_57 rfl mw_Hair_isDead (by decide) (by decide) ml_Keeping_104 i_23.2.1 i_23.1 (by decide) rfl rfl rfl (leb rfl) (bz _) (fun _ => rfl) (ok_Hair_isDead i_23 hv) ?_
      by_cases c7 : v6 = 0
      · rw [if_pos c7] at h
        refine w_if_ne_f (q := 63) d_Keeping_mostAlike_60 77 rfl rfl c7 ?_
        refine w_iload (q := 65) d_Keeping_mostAlike_63 rfl rfl ?_
        refine w_iload (q := 67) d_Keeping_mostAlike_65 rfl rfl ?_
        by_cases c8 : v4 ≤ s.2.1
        · rw [if_pos c8] at h
          refine w_icmp_le_t (q := 77) d_Keeping_mostAlike_67 rfl c8 ?_
          refine w_iinc (q := 80) (ls' := [some (.ref 43), some (.int k1), some (.int k2), some (.int s.1), some (.int s.2.1), some (.int (s.2.2 + 1)), some (.int v4)]) d_Keeping_mostAlike_77 rfl (by decide) rfl rfl rfl ?_
          refine w_goto (q := 17) d_Keeping_mostAlike_80 rfl ?_
          cases h
          exact w_ls (by exact (And.intro rfl (And.intro rfl (And.intro rfl (And.intro rfl (And.intro rfl (And.intro rfl trivial))))))) hr
        · rw [if_neg c8] at h
          refine w_icmp_le_f (q := 70) d_Keeping_mostAlike_67 77 rfl rfl c8 ?_
          refine w_iload (q := 72) d_Keeping_mostAlike_70 rfl rfl ?_
          refine w_istore_n (q := 73) (ls' := [some (.ref 43), some (.int k1), some (.int k2), some (.int s.2.2), some (.int s.2.1), some (.int s.2.2), some (.int v4)]) d_Keeping_mostAlike_72 rfl (by decide) rfl rfl ?_
          refine w_iload (q := 75) d_Keeping_mostAlike_73 rfl rfl ?_
          refine w_istore (q := 77) (ls' := [some (.ref 43), some (.int k1), some (.int k2), some (.int s.2.2), some (.int v4), some (.int s.2.2), some (.int v4)]) d_Keeping_mostAlike_75 rfl (by decide) rfl rfl ?_
          refine w_iinc (q := 80) (ls' := [some (.ref 43), some (.int k1), some (.int k2), some (.int s.2.2), some (.int v4), some (.int (s.2.2 + 1)), some (.int v4)]) d_Keeping_mostAlike_77 rfl (by decide) rfl rfl rfl ?_
          refine w_goto (q := 17) d_Keeping_mostAlike_80 rfl ?_
          cases h
          exact w_ls (by exact (And.intro rfl (And.intro rfl (And.intro rfl (And.intro rfl (And.intro rfl (And.intro rfl trivial))))))) hr
      · rw [if_neg c7] at h
        refine w_if_ne_t (q := 77) d_Keeping_mostAlike_60 rfl c7 ?_
        refine w_iinc (q := 80) (ls' := [some (.ref 43), some (.int k1), some (.int k2), some (.int s.1), some (.int s.2.1), some (.int (s.2.2 + 1)), some (.int v4)]) d_Keeping_mostAlike_77 rfl (by decide) rfl rfl rfl ?_
        refine w_goto (q := 17) d_Keeping_mostAlike_80 rfl ?_
        cases h
        exact w_ls (by exact (And.intro rfl (And.intro rfl (And.intro rfl (And.intro rfl (And.intro rfl (And.intro rfl trivial))))))) hr
def sp_Keeping_mostAlike (F : Nat) (p0 : Int32) (g : Mem) : Option (Int32) := (sp_Hair_recordsHeldBy F 23 15 p0 g).bind fun v1 => (lpO (st_Keeping_mostAlike_17 F p0 g p0 v1) F ((-1), (-1), 0)).bind fun x9 => some x9
theorem ok_Keeping_mostAlike {γ : GG} {tt : Bool} {F : Nat} {p0 : Int32} {g : Mem} {res : Int32} (h : sp_Keeping_mostAlike F p0 g = some res) : CA γ M_Keeping_mostAlike 3 [.ref 43, .int p0] SH g tt (0, 0) (pI SH res g tt) := by
  refine CA.of mw_Keeping_mostAlike.1 5 rfl ?_
  show WA γ M_Keeping_mostAlike 3 0 [some (.ref 43), some (.int p0), none, none, none, none, none] [] SH g tt (0, 0) (pI SH res g tt)
  unfold sp_Keeping_mostAlike at h
  refine w_aload_n (q := 1) d_Keeping_mostAlike_0 rfl rfl ?_
  refine w_get (q := 4) (ci := 4) (j := 0) d_Keeping_mostAlike_1 rfl (by decide) fl_Keeping_15 (by decide) (by decide) s_43 rfl rfl ?_
  refine w_iload_n (q := 5) d_Keeping_mostAlike_4 rfl rfl ?_
  obtain ⟨v1, hv, h⟩ := bnd h
  refine w_callVi (q := 8) (M' := M_Hair_recordsHeldBy) (n' := 2) (k := 23) (As := [.int p0]) (sh' := SH) (b1 := (0, 0)) d_Keeping_mostAlike_5 rfl mw_Hair_recordsHeldBy (by decide) (by decide) ml_Keeping_36 i_23.2.1 i_23.1 (by decide) rfl rfl rfl (leb rfl) (bz _) (fun _ => rfl) (ok_Hair_recordsHeldBy i_23 hv) ?_
  refine w_istore_n (q := 9) (ls' := [some (.ref 43), some (.int p0), some (.int v1), none, none, none, none]) d_Keeping_mostAlike_8 rfl (by decide) rfl rfl ?_
  refine w_iconst (q := 10) (v := (-1)) d_Keeping_mostAlike_9 rfl (by decide) ?_
  refine w_istore_n (q := 11) (ls' := [some (.ref 43), some (.int p0), some (.int v1), some (.int ((-1))), none, none, none]) d_Keeping_mostAlike_10 rfl (by decide) rfl rfl ?_
  refine w_iconst (q := 12) (v := (-1)) d_Keeping_mostAlike_11 rfl (by decide) ?_
  refine w_istore (q := 14) (ls' := [some (.ref 43), some (.int p0), some (.int v1), some (.int ((-1))), some (.int ((-1))), none, none]) d_Keeping_mostAlike_12 rfl (by decide) rfl rfl ?_
  refine w_iconst (q := 15) (v := 0) d_Keeping_mostAlike_14 rfl (by decide) ?_
  refine w_istore (q := 17) (ls' := [some (.ref 43), some (.int p0), some (.int v1), some (.int ((-1))), some (.int ((-1))), some (.int 0), none]) d_Keeping_mostAlike_15 rfl (by decide) rfl rfl ?_
  obtain ⟨x9, hx, h⟩ := bnd h
  refine w_ls (ls' := [some (.ref 43), some (.int p0), some (.int v1), some (.int ((-1))), some (.int ((-1))), some (.int 0), none]) (And.intro rfl (And.intro rfl (And.intro rfl (And.intro rfl (And.intro rfl (And.intro rfl trivial)))))) ?_
  show PL_Keeping_mostAlike_17 γ tt p0 g p0 v1 _ _ ((-1), (-1), 0)
  refine lp_ok (kl_Keeping_mostAlike_17) F _ x9 hx ?_
  unfold QL_Keeping_mostAlike_17
  refine w_iload_n (q := 84) d_Keeping_mostAlike_83 rfl rfl ?_
  cases h
  exact w_ireturn d_Keeping_mostAlike_84 rfl rfl ⟨rfl, rfl, rfl, rfl⟩
def PL_Keeping_audit_14 (γ : GG) (tt : Bool) (p0 : Int32) (g : Mem) (k2 : Int32) (b : Nat × Nat) (Φ : PO) (s : Int32 × Int32) : Prop := WA γ M_Keeping_audit 2 14 [some (.ref 43), none, some (.int k2), some (.int s.1), some (.int s.2)] [] SH g tt b Φ
def QL_Keeping_audit_14 (γ : GG) (tt : Bool) (p0 : Int32) (g : Mem) (k2 : Int32) (b : Nat × Nat) (Φ : PO) (x : (Int32)) : Prop := WA γ M_Keeping_audit 2 66 [none, none, none, some (.int x), none] [] SH g tt b Φ
def st_Keeping_audit_14 (F : Nat) (p0 : Int32) (g : Mem) (k2 : Int32) (s : Int32 × Int32) : Option ((Int32 × Int32) ⊕ ((Int32))) := if (g 23 4) ≤ s.2 then some (.inr s.1) else (sp_Hall_hasBit k2 s.2 g).bind fun v3 => if v3 = 0 then some (.inl (s.1, s.2 + 1)) else (sp_Roll_cell 15 s.2 4 g).bind fun v5 => (sp_Hair_breadths 23 15 s.2 g).bind fun v6 => some (.inl (s.1 + (v5 * (v6 + 1)), s.2 + 1))
theorem kl_Keeping_audit_14 {γ : GG} {tt : Bool} {F : Nat} {p0 : Int32} {g : Mem} {k2 : Int32} {b : Nat × Nat} {Φ : PO} : ∀ (s : Int32 × Int32) (r : (Int32 × Int32) ⊕ ((Int32))), st_Keeping_audit_14 F p0 g k2 s = some r → RQ (PL_Keeping_audit_14 γ tt p0 g k2 b Φ) (QL_Keeping_audit_14 γ tt p0 g k2 b Φ) r → PL_Keeping_audit_14 γ tt p0 g k2 b Φ s := by
  intro s r h hr
  unfold st_Keeping_audit_14 at h
  unfold PL_Keeping_audit_14
  refine w_iload (q := 16) d_Keeping_audit_14 rfl rfl ?_
  refine w_aload_n (q := 17) d_Keeping_audit_16 rfl rfl ?_
  refine w_get (q := 20) (ci := 4) (j := 0) d_Keeping_audit_17 rfl (by decide) fl_Keeping_15 (by decide) (by decide) s_43 rfl rfl ?_
  refine w_get (q := 23) (ci := 2) (j := 4) d_Keeping_audit_20 rfl (by decide) fl_Keeping_52 (by decide) i_23.2.1 i_23.1 rfl rfl ?_
  by_cases c2 : (g 23 4) ≤ s.2
  · rw [if_pos c2] at h
    refine w_icmp_ge_t (q := 66) d_Keeping_audit_23 rfl c2 ?_
    cases h
    exact w_ls (by exact (And.intro rfl trivial)) hr
  · rw [if_neg c2] at h
    refine w_icmp_ge_f (q := 26) d_Keeping_audit_23 66 rfl rfl c2 ?_
    refine w_iload_n (q := 27) d_Keeping_audit_26 rfl rfl ?_
    refine w_iload (q := 29) d_Keeping_audit_27 rfl rfl ?_
    obtain ⟨v3, hv, h⟩ := bnd h
    refine w_callNi (q := 32) (host := "BeardHall") (M' := M_Hall_hasBit) (n' := 0) (As := [.int k2, .int s.2]) (sh' := SH) (b1 := (0, 0)) d_Keeping_audit_29 rfl mw_Hall_hasBit (by decide) (by decide) (by decide) rfl rfl (leb rfl) (bz _) (fun _ => rfl) (ok_Hall_hasBit hv) ?_
    by_cases c4 : v3 = 0
    · rw [if_pos c4] at h
      refine w_if_eq_t (q := 60) d_Keeping_audit_32 rfl c4 ?_
      refine w_iinc (q := 63) (ls' := [some (.ref 43), none, some (.int k2), some (.int s.1), some (.int (s.2 + 1))]) d_Keeping_audit_60 rfl (by decide) rfl rfl rfl ?_
      refine w_goto (q := 14) d_Keeping_audit_63 rfl ?_
      cases h
      exact w_ls (by exact (And.intro rfl (And.intro rfl (And.intro rfl (And.intro rfl trivial))))) hr
    · rw [if_neg c4] at h
      refine w_if_eq_f (q := 35) d_Keeping_audit_32 60 rfl rfl c4 ?_
      refine w_iload_n (q := 36) d_Keeping_audit_35 rfl rfl ?_
      refine w_aload_n (q := 37) d_Keeping_audit_36 rfl rfl ?_
      refine w_get (q := 40) (ci := 4) (j := 1) d_Keeping_audit_37 rfl (by decide) fl_Keeping_25 (by decide) (by decide) s_43 rfl rfl ?_
      refine w_iload (q := 42) d_Keeping_audit_40 rfl rfl ?_
      refine w_iconst (q := 43) (v := 4) d_Keeping_audit_42 rfl (by decide) ?_
      obtain ⟨v5, hv, h⟩ := bnd h
      refine w_callVi (q := 46) (M' := M_Roll_cell) (n' := 0) (k := 15) (As := [.int s.2, .int 4]) (sh' := SH) (b1 := (0, 0)) d_Keeping_audit_43 rfl mw_Roll_cell (by decide) (by decide) ml_Keeping_101 i_15.2.1 i_15.1 (by decide) rfl rfl rfl (leb rfl) (bz _) (fun _ => rfl) (ok_Roll_cell i_15 hv) ?_
      refine w_aload_n (q := 47) d_Keeping_audit_46 rfl rfl ?_
      refine w_get (q := 50) (ci := 4) (j := 0) d_Keeping_audit_47 rfl (by decide) fl_Keeping_15 (by decide) (by decide) s_43 rfl rfl ?_
      refine w_iload (q := 52) d_Keeping_audit_50 rfl rfl ?_
      obtain ⟨v6, hv, h⟩ := bnd h
      refine w_callVi (q := 55) (M' := M_Hair_breadths) (n' := 1) (k := 23) (As := [.int s.2]) (sh' := SH) (b1 := (0, 0)) d_Keeping_audit_52 rfl mw_Hair_breadths (by decide) (by decide) ml_Keeping_98 i_23.2.1 i_23.1 (by decide) rfl rfl rfl (leb rfl) (bz _) (fun _ => rfl) (ok_Hair_breadths i_23 hv) ?_
      refine w_iconst (q := 56) (v := 1) d_Keeping_audit_55 rfl (by decide) ?_
      refine w_iadd (q := 57) d_Keeping_audit_56 rfl ?_
      refine w_imul (q := 58) d_Keeping_audit_57 rfl ?_
      refine w_iadd (q := 59) d_Keeping_audit_58 rfl ?_
      refine w_istore_n (q := 60) (ls' := [some (.ref 43), none, some (.int k2), some (.int (s.1 + (v5 * (v6 + 1)))), some (.int s.2)]) d_Keeping_audit_59 rfl (by decide) rfl rfl ?_
      refine w_iinc (q := 63) (ls' := [some (.ref 43), none, some (.int k2), some (.int (s.1 + (v5 * (v6 + 1)))), some (.int (s.2 + 1))]) d_Keeping_audit_60 rfl (by decide) rfl rfl rfl ?_
      refine w_goto (q := 14) d_Keeping_audit_63 rfl ?_
      cases h
      exact w_ls (by exact (And.intro rfl (And.intro rfl (And.intro rfl (And.intro rfl trivial))))) hr
def sp_Keeping_audit (F : Nat) (p0 : Int32) (g : Mem) : Option (Int32) := (sp_Hair_thereOf F 23 15 p0 g).bind fun v1 => (lpO (st_Keeping_audit_14 F p0 g v1) F (0, 0)).bind fun x7 => (rm x7 97).bind fun v8 => some v8
theorem ok_Keeping_audit {γ : GG} {tt : Bool} {F : Nat} {p0 : Int32} {g : Mem} {res : Int32} (h : sp_Keeping_audit F p0 g = some res) : CA γ M_Keeping_audit 2 [.ref 43, .int p0] SH g tt (0, 0) (pI SH res g tt) := by
  refine CA.of mw_Keeping_audit.1 3 rfl ?_
  show WA γ M_Keeping_audit 2 0 [some (.ref 43), some (.int p0), none, none, none] [] SH g tt (0, 0) (pI SH res g tt)
  unfold sp_Keeping_audit at h
  refine w_aload_n (q := 1) d_Keeping_audit_0 rfl rfl ?_
  refine w_get (q := 4) (ci := 4) (j := 0) d_Keeping_audit_1 rfl (by decide) fl_Keeping_15 (by decide) (by decide) s_43 rfl rfl ?_
  refine w_iload_n (q := 5) d_Keeping_audit_4 rfl rfl ?_
  obtain ⟨v1, hv, h⟩ := bnd h
  refine w_callVi (q := 8) (M' := M_Hair_thereOf) (n' := 1) (k := 23) (As := [.int p0]) (sh' := SH) (b1 := (0, 0)) d_Keeping_audit_5 rfl mw_Hair_thereOf (by decide) (by decide) ml_Keeping_89 i_23.2.1 i_23.1 (by decide) rfl rfl rfl (leb rfl) (bz _) (fun _ => rfl) (ok_Hair_thereOf i_23 hv) ?_
  refine w_istore_n (q := 9) (ls' := [some (.ref 43), some (.int p0), some (.int v1), none, none]) d_Keeping_audit_8 rfl (by decide) rfl rfl ?_
  refine w_iconst (q := 10) (v := 0) d_Keeping_audit_9 rfl (by decide) ?_
  refine w_istore_n (q := 11) (ls' := [some (.ref 43), some (.int p0), some (.int v1), some (.int 0), none]) d_Keeping_audit_10 rfl (by decide) rfl rfl ?_
  refine w_iconst (q := 12) (v := 0) d_Keeping_audit_11 rfl (by decide) ?_
  refine w_istore (q := 14) (ls' := [some (.ref 43), some (.int p0), some (.int v1), some (.int 0), some (.int 0)]) d_Keeping_audit_12 rfl (by decide) rfl rfl ?_
  obtain ⟨x7, hx, h⟩ := bnd h
  refine w_ls (ls' := [some (.ref 43), none, some (.int v1), some (.int 0), some (.int 0)]) (And.intro rfl (And.intro rfl (And.intro rfl (And.intro rfl trivial)))) ?_
  show PL_Keeping_audit_14 γ tt p0 g v1 _ _ (0, 0)
  refine lp_ok (kl_Keeping_audit_14) F _ x7 hx ?_
  unfold QL_Keeping_audit_14
  refine w_iload_n (q := 67) d_Keeping_audit_66 rfl rfl ?_
  refine w_bipush (q := 69) (v := 97) d_Keeping_audit_67 rfl (by decide) ?_
  obtain ⟨v8, hv, h⟩ := bnd h
  obtain ⟨hz, hv⟩ := rm_ok hv
  refine w_irem (q := 70) d_Keeping_audit_69 rfl hz ?_
  rw [hv]
  cases h
  exact w_ireturn d_Keeping_audit_70 rfl rfl ⟨rfl, rfl, rfl, rfl⟩
def sp_Laws_isThereOf (lw : Nat) (ha : Nat) (ro : Nat) (p0 : Int32) (p1 : Int32) (p2 : Int32) (g : Mem) : Option (Int32) := (sp_Hair_isThere ha ro p0 g).bind fun v1 => if v1 = 0 then some 0 else (sp_Roll_cell ro p0 0 g).bind fun v3 => if v3 = p1 then (sp_Roll_cell ro p0 3 g).bind fun v5 => if v5 = p2 then some 1 else some 0 else some 0
theorem ok_Laws_isThereOf {γ : GG} {sh : List Sh} {tt : Bool} {lw : Nat} {ha : Nat} {ro : Nat} {p0 : Int32} {p1 : Int32} {p2 : Int32} {g : Mem} (hLaws : isLaws sh lw ha ro) {res : Int32} (h : sp_Laws_isThereOf lw ha ro p0 p1 p2 g = some res) : CA γ M_Laws_isThereOf 2 [.ref lw, .int p0, .int p1, .int p2] sh g tt (0, 0) (pI sh res g tt) := by
  refine CA.of mw_Laws_isThereOf.1 0 rfl ?_
  show WA γ M_Laws_isThereOf 2 0 [some (.ref lw), some (.int p0), some (.int p1), some (.int p2)] [] sh g tt (0, 0) (pI sh res g tt)
  unfold sp_Laws_isThereOf at h
  refine w_aload_n (q := 1) d_Laws_isThereOf_0 rfl rfl ?_
  refine w_get (q := 4) (ci := 5) (j := 0) d_Laws_isThereOf_1 rfl (by decide) fl_Laws_9 (by decide) hLaws.2.1 hLaws.1 rfl rfl ?_
  refine w_iload_n (q := 5) d_Laws_isThereOf_4 rfl rfl ?_
  obtain ⟨v1, hv, h⟩ := bnd h
  refine w_callVi (q := 8) (M' := M_Hair_isThere) (n' := 1) (k := ha) (As := [.int p0]) (sh' := sh) (b1 := (0, 0)) d_Laws_isThereOf_5 rfl mw_Hair_isThere (by decide) (by decide) ml_Laws_22 hLaws.2.2.2.1 hLaws.2.2.1 (by decide) rfl rfl rfl (leb rfl) (bz _) (fun _ => rfl) (ok_Hair_isThere hLaws.2.2 hv) ?_
  by_cases c2 : v1 = 0
  · rw [if_pos c2] at h
    refine w_if_eq_t (q := 41) d_Laws_isThereOf_8 rfl c2 ?_
    refine w_iconst (q := 42) (v := 0) d_Laws_isThereOf_41 rfl (by decide) ?_
    cases h
    exact w_ireturn d_Laws_isThereOf_42 rfl rfl ⟨rfl, rfl, rfl, rfl⟩
  · rw [if_neg c2] at h
    refine w_if_eq_f (q := 11) d_Laws_isThereOf_8 41 rfl rfl c2 ?_
    refine w_aload_n (q := 12) d_Laws_isThereOf_11 rfl rfl ?_
    refine w_get (q := 15) (ci := 5) (j := 1) d_Laws_isThereOf_12 rfl (by decide) fl_Laws_21 (by decide) hLaws.2.1 hLaws.1 rfl rfl ?_
    refine w_iload_n (q := 16) d_Laws_isThereOf_15 rfl rfl ?_
    refine w_iconst (q := 17) (v := 0) d_Laws_isThereOf_16 rfl (by decide) ?_
    obtain ⟨v3, hv, h⟩ := bnd h
    refine w_callVi (q := 20) (M' := M_Roll_cell) (n' := 0) (k := ro) (As := [.int p0, .int 0]) (sh' := sh) (b1 := (0, 0)) d_Laws_isThereOf_17 rfl mw_Roll_cell (by decide) (by decide) ml_Laws_26 hLaws.2.2.2.2.2.2.2.1 hLaws.2.2.2.2.2.2.1 (by decide) rfl rfl rfl (leb rfl) (bz _) (fun _ => rfl) (ok_Roll_cell hLaws.2.2.2.2.2.2 hv) ?_
    refine w_iload_n (q := 21) d_Laws_isThereOf_20 rfl rfl ?_
    by_cases c4 : v3 = p1
    · rw [if_pos c4] at h
      refine w_icmp_ne_f (q := 24) d_Laws_isThereOf_21 41 rfl rfl c4 ?_
      refine w_aload_n (q := 25) d_Laws_isThereOf_24 rfl rfl ?_
      refine w_get (q := 28) (ci := 5) (j := 1) d_Laws_isThereOf_25 rfl (by decide) fl_Laws_21 (by decide) hLaws.2.1 hLaws.1 rfl rfl ?_
      refine w_iload_n (q := 29) d_Laws_isThereOf_28 rfl rfl ?_
      refine w_iconst (q := 30) (v := 3) d_Laws_isThereOf_29 rfl (by decide) ?_
      obtain ⟨v5, hv, h⟩ := bnd h
      refine w_callVi (q := 33) (M' := M_Roll_cell) (n' := 0) (k := ro) (As := [.int p0, .int 3]) (sh' := sh) (b1 := (0, 0)) d_Laws_isThereOf_30 rfl mw_Roll_cell (by decide) (by decide) ml_Laws_26 hLaws.2.2.2.2.2.2.2.1 hLaws.2.2.2.2.2.2.1 (by decide) rfl rfl rfl (leb rfl) (bz _) (fun _ => rfl) (ok_Roll_cell hLaws.2.2.2.2.2.2 hv) ?_
      refine w_iload_n (q := 34) d_Laws_isThereOf_33 rfl rfl ?_
      by_cases c6 : v5 = p2
      · rw [if_pos c6] at h
        refine w_icmp_ne_f (q := 37) d_Laws_isThereOf_34 41 rfl rfl c6 ?_
        refine w_iconst (q := 38) (v := 1) d_Laws_isThereOf_37 rfl (by decide) ?_
        refine w_goto (q := 42) d_Laws_isThereOf_38 rfl ?_
        cases h
        exact w_ireturn d_Laws_isThereOf_42 rfl rfl ⟨rfl, rfl, rfl, rfl⟩
      · rw [if_neg c6] at h
        refine w_icmp_ne_t (q := 41) d_Laws_isThereOf_34 rfl c6 ?_
        refine w_iconst (q := 42) (v := 0) d_Laws_isThereOf_41 rfl (by decide) ?_
        cases h
        exact w_ireturn d_Laws_isThereOf_42 rfl rfl ⟨rfl, rfl, rfl, rfl⟩
    · rw [if_neg c4] at h
      refine w_icmp_ne_t (q := 41) d_Laws_isThereOf_21 rfl c4 ?_
      refine w_iconst (q := 42) (v := 0) d_Laws_isThereOf_41 rfl (by decide) ?_
      cases h
      exact w_ireturn d_Laws_isThereOf_42 rfl rfl ⟨rfl, rfl, rfl, rfl⟩
def PL_Laws_standing_7 (γ : GG) (sh : List Sh) (tt : Bool) (lw : Nat) (ha : Nat) (ro : Nat) (p0 : Int32) (g : Mem) (k1 : Int32) (b : Nat × Nat) (Φ : PO) (s : Int32 × Int32 × Int32) : Prop := WA γ M_Laws_standing 3 7 [some (.ref lw), some (.int k1), some (.int s.1), some (.int s.2.1), some (.int s.2.2), none, none] [] sh g tt b Φ
def QL_Laws_standing_7 (γ : GG) (sh : List Sh) (tt : Bool) (lw : Nat) (ha : Nat) (ro : Nat) (p0 : Int32) (g : Mem) (k1 : Int32) (b : Nat × Nat) (Φ : PO) (x : (Int32)) : Prop := WA γ M_Laws_standing 3 119 [none, none, none, some (.int x), none, none, none] [] sh g tt b Φ
def st_Laws_standing_7 (F : Nat) (lw : Nat) (ha : Nat) (ro : Nat) (p0 : Int32) (g : Mem) (k1 : Int32) (s : Int32 × Int32 × Int32) : Option ((Int32 × Int32 × Int32) ⊕ ((Int32))) := if (g ha 4) ≤ s.2.2 then some (.inr s.2.1) else (sp_Laws_isThereOf lw ha ro s.2.2 0 k1 g).bind fun v2 => if v2 = 0 then some (.inl (s.1, s.2.1, s.2.2 + 1)) else (sp_Roll_cell ro s.2.2 4 g).bind fun v4 => (sp_Roll_cell ro s.2.2 2 g).bind fun v5 => if s.1 = (-1) then some (.inl (s.2.2, v4, s.2.2 + 1)) else (sp_Roll_cell ro s.1 2 g).bind fun v7 => if v5 ≤ v7 then (sp_Roll_cell ro s.1 2 g).bind fun v9 => if v5 = v9 then (sp_Roll_cell ro s.1 4 g).bind fun v11 => if v4 = v11 then some (.inl (s.1, s.2.1, s.2.2 + 1)) else some (.inl (s.1, (-2), s.2.2 + 1)) else some (.inl (s.1, s.2.1, s.2.2 + 1)) else some (.inl (s.2.2, v4, s.2.2 + 1))
theorem kl_Laws_standing_7 {γ : GG} {sh : List Sh} {tt : Bool} {F : Nat} {lw : Nat} {ha : Nat} {ro : Nat} {p0 : Int32} {g : Mem} {k1 : Int32} {b : Nat × Nat} {Φ : PO} (hLaws : isLaws sh lw ha ro) : ∀ (s : Int32 × Int32 × Int32) (r : (Int32 × Int32 × Int32) ⊕ ((Int32))), st_Laws_standing_7 F lw ha ro p0 g k1 s = some r → RQ (PL_Laws_standing_7 γ sh tt lw ha ro p0 g k1 b Φ) (QL_Laws_standing_7 γ sh tt lw ha ro p0 g k1 b Φ) r → PL_Laws_standing_7 γ sh tt lw ha ro p0 g k1 b Φ s := by
  intro s r h hr
  unfold st_Laws_standing_7 at h
  unfold PL_Laws_standing_7
  refine w_iload (q := 9) d_Laws_standing_7 rfl rfl ?_
  refine w_aload_n (q := 10) d_Laws_standing_9 rfl rfl ?_
  refine w_get (q := 13) (ci := 5) (j := 0) d_Laws_standing_10 rfl (by decide) fl_Laws_9 (by decide) hLaws.2.1 hLaws.1 rfl rfl ?_
  refine w_get (q := 16) (ci := 2) (j := 4) d_Laws_standing_13 rfl (by decide) fl_Laws_32 (by decide) hLaws.2.2.2.1 hLaws.2.2.1 rfl rfl ?_
  by_cases c1 : (g ha 4) ≤ s.2.2
  · rw [if_pos c1] at h
    refine w_icmp_ge_t (q := 119) d_Laws_standing_16 rfl c1 ?_
    cases h
    exact w_ls (by exact (And.intro rfl trivial)) hr
  · rw [if_neg c1] at h
    refine w_icmp_ge_f (q := 19) d_Laws_standing_16 119 rfl rfl c1 ?_
    refine w_aload_n (q := 20) d_Laws_standing_19 rfl rfl ?_
    refine w_iload (q := 22) d_Laws_standing_20 rfl rfl ?_
    refine w_iconst (q := 23) (v := 0) d_Laws_standing_22 rfl (by decide) ?_
    refine w_iload_n (q := 24) d_Laws_standing_23 rfl rfl ?_
    obtain ⟨v2, hv, h⟩ := bnd h
    refine w_callVi (q := 27) (M' := M_Laws_isThereOf) (n' := 2) (k := lw) (As := [.int s.2.2, .int 0, .int k1]) (sh' := sh) (b1 := (0, 0)) d_Laws_standing_24 rfl mw_Laws_isThereOf (by decide) (by decide) ml_Laws_36 hLaws.2.1 hLaws.1 (by decide) rfl rfl rfl (leb rfl) (bz _) (fun _ => rfl) (ok_Laws_isThereOf hLaws hv) ?_
    by_cases c3 : v2 = 0
    · rw [if_pos c3] at h
      refine w_if_eq_t (q := 113) d_Laws_standing_27 rfl c3 ?_
      refine w_iinc (q := 116) (ls' := [some (.ref lw), some (.int k1), some (.int s.1), some (.int s.2.1), some (.int (s.2.2 + 1)), none, none]) d_Laws_standing_113 rfl (by decide) rfl rfl rfl ?_
      refine w_goto (q := 7) d_Laws_standing_116 rfl ?_
      cases h
      exact w_ls (by exact (And.intro rfl (And.intro rfl (And.intro rfl (And.intro rfl (And.intro rfl trivial)))))) hr
    · rw [if_neg c3] at h
      refine w_if_eq_f (q := 30) d_Laws_standing_27 113 rfl rfl c3 ?_
      refine w_aload_n (q := 31) d_Laws_standing_30 rfl rfl ?_
      refine w_get (q := 34) (ci := 5) (j := 1) d_Laws_standing_31 rfl (by decide) fl_Laws_21 (by decide) hLaws.2.1 hLaws.1 rfl rfl ?_
      refine w_iload (q := 36) d_Laws_standing_34 rfl rfl ?_
      refine w_iconst (q := 37) (v := 4) d_Laws_standing_36 rfl (by decide) ?_
      obtain ⟨v4, hv, h⟩ := bnd h
      refine w_callVi (q := 40) (M' := M_Roll_cell) (n' := 0) (k := ro) (As := [.int s.2.2, .int 4]) (sh' := sh) (b1 := (0, 0)) d_Laws_standing_37 rfl mw_Roll_cell (by decide) (by decide) ml_Laws_26 hLaws.2.2.2.2.2.2.2.1 hLaws.2.2.2.2.2.2.1 (by decide) rfl rfl rfl (leb rfl) (bz _) (fun _ => rfl) (ok_Roll_cell hLaws.2.2.2.2.2.2 hv) ?_
      refine w_istore (q := 42) (ls' := [some (.ref lw), some (.int k1), some (.int s.1), some (.int s.2.1), some (.int s.2.2), some (.int v4), none]) d_Laws_standing_40 rfl (by decide) rfl rfl ?_
      refine w_aload_n (q := 43) d_Laws_standing_42 rfl rfl ?_
      refine w_get (q := 46) (ci := 5) (j := 1) d_Laws_standing_43 rfl (by decide) fl_Laws_21 (by decide) hLaws.2.1 hLaws.1 rfl rfl ?_
      refine w_iload (q := 48) d_Laws_standing_46 rfl rfl ?_
      refine w_iconst (q := 49) (v := 2) d_Laws_standing_48 rfl (by decide) ?_
      obtain ⟨v5, hv, h⟩ := bnd h
      refine w_callVi (q := 52) (M' := M_Roll_cell) (n' := 0) (k := ro) (As := [.int s.2.2, .int 2]) (sh' := sh) (b1 := (0, 0)) d_Laws_standing_49 rfl mw_Roll_cell (by decide) (by decide) ml_Laws_26 hLaws.2.2.2.2.2.2.2.1 hLaws.2.2.2.2.2.2.1 (by decide) rfl rfl rfl (leb rfl) (bz _) (fun _ => rfl) (ok_Roll_cell hLaws.2.2.2.2.2.2 hv) ?_
      refine w_istore (q := 54) (ls' := [some (.ref lw), some (.int k1), some (.int s.1), some (.int s.2.1), some (.int s.2.2), some (.int v4), some (.int v5)]) d_Laws_standing_52 rfl (by decide) rfl rfl ?_
      refine w_iload_n (q := 55) d_Laws_standing_54 rfl rfl ?_
      refine w_iconst (q := 56) (v := (-1)) d_Laws_standing_55 rfl (by decide) ?_
      by_cases c6 : s.1 = (-1)
      · rw [if_pos c6] at h
        refine w_icmp_eq_t (q := 73) d_Laws_standing_56 rfl c6 ?_
        refine w_iload (q := 75) d_Laws_standing_73 rfl rfl ?_
        refine w_istore_n (q := 76) (ls' := [some (.ref lw), some (.int k1), some (.int s.2.2), some (.int s.2.1), some (.int s.2.2), some (.int v4), some (.int v5)]) d_Laws_standing_75 rfl (by decide) rfl rfl ?_
        refine w_iload (q := 78) d_Laws_standing_76 rfl rfl ?_
        refine w_istore_n (q := 79) (ls' := [some (.ref lw), some (.int k1), some (.int s.2.2), some (.int v4), some (.int s.2.2), some (.int v4), some (.int v5)]) d_Laws_standing_78 rfl (by decide) rfl rfl ?_
        refine w_goto (q := 113) d_Laws_standing_79 rfl ?_
        refine w_iinc (q := 116) (ls' := [some (.ref lw), some (.int k1), some (.int s.2.2), some (.int v4), some (.int (s.2.2 + 1)), some (.int v4), some (.int v5)]) d_Laws_standing_113 rfl (by decide) rfl rfl rfl ?_
        refine w_goto (q := 7) d_Laws_standing_116 rfl ?_
        cases h
        exact w_ls (by exact (And.intro rfl (And.intro rfl (And.intro rfl (And.intro rfl (And.intro rfl trivial)))))) hr
      · rw [if_neg c6] at h
        refine w_icmp_eq_f (q := 59) d_Laws_standing_56 73 rfl rfl c6 ?_
        refine w_iload (q := 61) d_Laws_standing_59 rfl rfl ?_
        refine w_aload_n (q := 62) d_Laws_standing_61 rfl rfl ?_
        refine w_get (q := 65) (ci := 5) (j := 1) d_Laws_standing_62 rfl (by decide) fl_Laws_21 (by decide) hLaws.2.1 hLaws.1 rfl rfl ?_
        refine w_iload_n (q := 66) d_Laws_standing_65 rfl rfl ?_
        refine w_iconst (q := 67) (v := 2) d_Laws_standing_66 rfl (by decide) ?_
        obtain ⟨v7, hv, h⟩ := bnd h
        refine w_callVi (q := 70) (M' := M_Roll_cell) (n' := 0) (k := ro) (As := [.int s.1, .int 2]) (sh' := sh) (b1 := (0, 0)) d_Laws_standing_67 rfl mw_Roll_cell (by decide) (by decide) ml_Laws_26 hLaws.2.2.2.2.2.2.2.1 hLaws.2.2.2.2.2.2.1 (by decide) rfl rfl rfl (leb rfl) (bz _) (fun _ => rfl) (ok_Roll_cell hLaws.2.2.2.2.2.2 hv) ?_
        by_cases c8 : v5 ≤ v7
        · rw [if_pos c8] at h
          refine w_icmp_le_t (q := 82) d_Laws_standing_70 rfl c8 ?_
          refine w_iload (q := 84) d_Laws_standing_82 rfl rfl ?_
          refine w_aload_n (q := 85) d_Laws_standing_84 rfl rfl ?_
          refine w_get (q := 88) (ci := 5) (j := 1) d_Laws_standing_85 rfl (by decide) fl_Laws_21 (by decide) hLaws.2.1 hLaws.1 rfl rfl ?_
          refine w_iload_n (q := 89) d_Laws_standing_88 rfl rfl ?_
          refine w_iconst (q := 90) (v := 2) d_Laws_standing_89 rfl (by decide) ?_
          obtain ⟨v9, hv, h⟩ := bnd h
          refine w_callVi (q := 93) (M' := M_Roll_cell) (n' := 0) (k := ro) (As := [.int s.1, .int 2]) (sh' := sh) (b1 := (0, 0)) d_Laws_standing_90 rfl mw_Roll_cell (by decide) (by decide) ml_Laws_26 hLaws.2.2.2.2.2.2.2.1 hLaws.2.2.2.2.2.2.1 (by decide) rfl rfl rfl (leb rfl) (bz _) (fun _ => rfl) (ok_Roll_cell hLaws.2.2.2.2.2.2 hv) ?_
          by_cases c10 : v5 = v9
          · rw [if_pos c10] at h
            refine w_icmp_ne_f (q := 96) d_Laws_standing_93 113 rfl rfl c10 ?_
            refine w_iload (q := 98) d_Laws_standing_96 rfl rfl ?_
            refine w_aload_n (q := 99) d_Laws_standing_98 rfl rfl ?_
            refine w_get (q := 102) (ci := 5) (j := 1) d_Laws_standing_99 rfl (by decide) fl_Laws_21 (by decide) hLaws.2.1 hLaws.1 rfl rfl ?_
            refine w_iload_n (q := 103) d_Laws_standing_102 rfl rfl ?_
            refine w_iconst (q := 104) (v := 4) d_Laws_standing_103 rfl (by decide) ?_
            obtain ⟨v11, hv, h⟩ := bnd h
            refine w_callVi (q := 107) (M' := M_Roll_cell) (n' := 0) (k := ro) (As := [.int s.1, .int 4]) (sh' := sh) (b1 := (0, 0)) d_Laws_standing_104 rfl mw_Roll_cell (by decide) (by decide) ml_Laws_26 hLaws.2.2.2.2.2.2.2.1 hLaws.2.2.2.2.2.2.1 (by decide) rfl rfl rfl (leb rfl) (bz _) (fun _ => rfl) (ok_Roll_cell hLaws.2.2.2.2.2.2 hv) ?_
            by_cases c12 : v4 = v11
            · rw [if_pos c12] at h
              refine w_icmp_eq_t (q := 113) d_Laws_standing_107 rfl c12 ?_
              refine w_iinc (q := 116) (ls' := [some (.ref lw), some (.int k1), some (.int s.1), some (.int s.2.1), some (.int (s.2.2 + 1)), some (.int v4), some (.int v5)]) d_Laws_standing_113 rfl (by decide) rfl rfl rfl ?_
              refine w_goto (q := 7) d_Laws_standing_116 rfl ?_
              cases h
              exact w_ls (by exact (And.intro rfl (And.intro rfl (And.intro rfl (And.intro rfl (And.intro rfl trivial)))))) hr
            · rw [if_neg c12] at h
              refine w_icmp_eq_f (q := 110) d_Laws_standing_107 113 rfl rfl c12 ?_
              refine w_bipush (q := 112) (v := (-2)) d_Laws_standing_110 rfl (by decide) ?_
              refine w_istore_n (q := 113) (ls' := [some (.ref lw), some (.int k1), some (.int s.1), some (.int ((-2))), some (.int s.2.2), some (.int v4), some (.int v5)]) d_Laws_standing_112 rfl (by decide) rfl rfl ?_
              refine w_iinc (q := 116) (ls' := [some (.ref lw), some (.int k1), some (.int s.1), some (.int ((-2))), some (.int (s.2.2 + 1)), some (.int v4), some (.int v5)]) d_Laws_standing_113 rfl (by decide) rfl rfl rfl ?_
              refine w_goto (q := 7) d_Laws_standing_116 rfl ?_
              cases h
              exact w_ls (by exact (And.intro rfl (And.intro rfl (And.intro rfl (And.intro rfl (And.intro rfl trivial)))))) hr
          · rw [if_neg c10] at h
            refine w_icmp_ne_t (q := 113) d_Laws_standing_93 rfl c10 ?_
            refine w_iinc (q := 116) (ls' := [some (.ref lw), some (.int k1), some (.int s.1), some (.int s.2.1), some (.int (s.2.2 + 1)), some (.int v4), some (.int v5)]) d_Laws_standing_113 rfl (by decide) rfl rfl rfl ?_
            refine w_goto (q := 7) d_Laws_standing_116 rfl ?_
            cases h
            exact w_ls (by exact (And.intro rfl (And.intro rfl (And.intro rfl (And.intro rfl (And.intro rfl trivial)))))) hr
        · rw [if_neg c8] at h
          refine w_icmp_le_f (q := 73) d_Laws_standing_70 82 rfl rfl c8 ?_
          refine w_iload (q := 75) d_Laws_standing_73 rfl rfl ?_
          refine w_istore_n (q := 76) (ls' := [some (.ref lw), some (.int k1), some (.int s.2.2), some (.int s.2.1), some (.int s.2.2), some (.int v4), some (.int v5)]) d_Laws_standing_75 rfl (by decide) rfl rfl ?_
          refine w_iload (q := 78) d_Laws_standing_76 rfl rfl ?_
          refine w_istore_n (q := 79) (ls' := [some (.ref lw), some (.int k1), some (.int s.2.2), some (.int v4), some (.int s.2.2), some (.int v4), some (.int v5)]) d_Laws_standing_78 rfl (by decide) rfl rfl ?_
          refine w_goto (q := 113) d_Laws_standing_79 rfl ?_
          refine w_iinc (q := 116) (ls' := [some (.ref lw), some (.int k1), some (.int s.2.2), some (.int v4), some (.int (s.2.2 + 1)), some (.int v4), some (.int v5)]) d_Laws_standing_113 rfl (by decide) rfl rfl rfl ?_
          refine w_goto (q := 7) d_Laws_standing_116 rfl ?_
          cases h
          exact w_ls (by exact (And.intro rfl (And.intro rfl (And.intro rfl (And.intro rfl (And.intro rfl trivial)))))) hr
def sp_Laws_standing (F : Nat) (lw : Nat) (ha : Nat) (ro : Nat) (p0 : Int32) (g : Mem) : Option (Int32) := (lpO (st_Laws_standing_7 F lw ha ro p0 g p0) F ((-1), (-1), 0)).bind fun x13 => some x13
theorem ok_Laws_standing {γ : GG} {sh : List Sh} {tt : Bool} {F : Nat} {lw : Nat} {ha : Nat} {ro : Nat} {p0 : Int32} {g : Mem} (hLaws : isLaws sh lw ha ro) {res : Int32} (h : sp_Laws_standing F lw ha ro p0 g = some res) : CA γ M_Laws_standing 3 [.ref lw, .int p0] sh g tt (0, 0) (pI sh res g tt) := by
  refine CA.of mw_Laws_standing.1 5 rfl ?_
  show WA γ M_Laws_standing 3 0 [some (.ref lw), some (.int p0), none, none, none, none, none] [] sh g tt (0, 0) (pI sh res g tt)
  unfold sp_Laws_standing at h
  refine w_iconst (q := 1) (v := (-1)) d_Laws_standing_0 rfl (by decide) ?_
  refine w_istore_n (q := 2) (ls' := [some (.ref lw), some (.int p0), some (.int ((-1))), none, none, none, none]) d_Laws_standing_1 rfl (by decide) rfl rfl ?_
  refine w_iconst (q := 3) (v := (-1)) d_Laws_standing_2 rfl (by decide) ?_
  refine w_istore_n (q := 4) (ls' := [some (.ref lw), some (.int p0), some (.int ((-1))), some (.int ((-1))), none, none, none]) d_Laws_standing_3 rfl (by decide) rfl rfl ?_
  refine w_iconst (q := 5) (v := 0) d_Laws_standing_4 rfl (by decide) ?_
  refine w_istore (q := 7) (ls' := [some (.ref lw), some (.int p0), some (.int ((-1))), some (.int ((-1))), some (.int 0), none, none]) d_Laws_standing_5 rfl (by decide) rfl rfl ?_
  obtain ⟨x13, hx, h⟩ := bnd h
  refine w_ls (ls' := [some (.ref lw), some (.int p0), some (.int ((-1))), some (.int ((-1))), some (.int 0), none, none]) (And.intro rfl (And.intro rfl (And.intro rfl (And.intro rfl (And.intro rfl trivial))))) ?_
  show PL_Laws_standing_7 γ sh tt lw ha ro p0 g p0 _ _ ((-1), (-1), 0)
  refine lp_ok (kl_Laws_standing_7 hLaws) F _ x13 hx ?_
  unfold QL_Laws_standing_7
  refine w_iload_n (q := 120) d_Laws_standing_119 rfl rfl ?_
  cases h
  exact w_ireturn d_Laws_standing_120 rfl rfl ⟨rfl, rfl, rfl, rfl⟩
def sp_Laws_differ (lw : Nat) (ha : Nat) (ro : Nat) (p0 : Int32) (p1 : Int32) (g : Mem) : Option (Int32) := (sp_Roll_cell ro p0 0 g).bind fun v1 => if v1 = 0 then (sp_Roll_cell ro p1 0 g).bind fun v3 => if v3 = 0 then (sp_Roll_cell ro p0 3 g).bind fun v5 => (sp_Roll_cell ro p1 3 g).bind fun v6 => if v5 = v6 then (sp_Roll_cell ro p0 2 g).bind fun v8 => (sp_Roll_cell ro p1 2 g).bind fun v9 => if v8 = v9 then (sp_Roll_cell ro p0 4 g).bind fun v11 => (sp_Roll_cell ro p1 4 g).bind fun v12 => if v11 = v12 then some 0 else some 1 else some 0 else some 0 else some 0 else some 0
theorem ok_Laws_differ {γ : GG} {sh : List Sh} {tt : Bool} {lw : Nat} {ha : Nat} {ro : Nat} {p0 : Int32} {p1 : Int32} {g : Mem} (hLaws : isLaws sh lw ha ro) {res : Int32} (h : sp_Laws_differ lw ha ro p0 p1 g = some res) : CA γ M_Laws_differ 1 [.ref lw, .int p0, .int p1] sh g tt (0, 0) (pI sh res g tt) := by
  refine CA.of mw_Laws_differ.1 0 rfl ?_
  show WA γ M_Laws_differ 1 0 [some (.ref lw), some (.int p0), some (.int p1)] [] sh g tt (0, 0) (pI sh res g tt)
  unfold sp_Laws_differ at h
  refine w_aload_n (q := 1) d_Laws_differ_0 rfl rfl ?_
  refine w_get (q := 4) (ci := 5) (j := 1) d_Laws_differ_1 rfl (by decide) fl_Laws_21 (by decide) hLaws.2.1 hLaws.1 rfl rfl ?_
  refine w_iload_n (q := 5) d_Laws_differ_4 rfl rfl ?_
  refine w_iconst (q := 6) (v := 0) d_Laws_differ_5 rfl (by decide) ?_
  obtain ⟨v1, hv, h⟩ := bnd h
  refine w_callVi (q := 9) (M' := M_Roll_cell) (n' := 0) (k := ro) (As := [.int p0, .int 0]) (sh' := sh) (b1 := (0, 0)) d_Laws_differ_6 rfl mw_Roll_cell (by decide) (by decide) ml_Laws_26 hLaws.2.2.2.2.2.2.2.1 hLaws.2.2.2.2.2.2.1 (by decide) rfl rfl rfl (leb rfl) (bz _) (fun _ => rfl) (ok_Roll_cell hLaws.2.2.2.2.2.2 hv) ?_
  by_cases c2 : v1 = 0
  · rw [if_pos c2] at h
    refine w_if_ne_f (q := 12) d_Laws_differ_9 91 rfl rfl c2 ?_
    refine w_aload_n (q := 13) d_Laws_differ_12 rfl rfl ?_
    refine w_get (q := 16) (ci := 5) (j := 1) d_Laws_differ_13 rfl (by decide) fl_Laws_21 (by decide) hLaws.2.1 hLaws.1 rfl rfl ?_
    refine w_iload_n (q := 17) d_Laws_differ_16 rfl rfl ?_
    refine w_iconst (q := 18) (v := 0) d_Laws_differ_17 rfl (by decide) ?_
    obtain ⟨v3, hv, h⟩ := bnd h
    refine w_callVi (q := 21) (M' := M_Roll_cell) (n' := 0) (k := ro) (As := [.int p1, .int 0]) (sh' := sh) (b1 := (0, 0)) d_Laws_differ_18 rfl mw_Roll_cell (by decide) (by decide) ml_Laws_26 hLaws.2.2.2.2.2.2.2.1 hLaws.2.2.2.2.2.2.1 (by decide) rfl rfl rfl (leb rfl) (bz _) (fun _ => rfl) (ok_Roll_cell hLaws.2.2.2.2.2.2 hv) ?_
    by_cases c4 : v3 = 0
    · rw [if_pos c4] at h
      refine w_if_ne_f (q := 24) d_Laws_differ_21 91 rfl rfl c4 ?_
      refine w_aload_n (q := 25) d_Laws_differ_24 rfl rfl ?_
      refine w_get (q := 28) (ci := 5) (j := 1) d_Laws_differ_25 rfl (by decide) fl_Laws_21 (by decide) hLaws.2.1 hLaws.1 rfl rfl ?_
      refine w_iload_n (q := 29) d_Laws_differ_28 rfl rfl ?_
      refine w_iconst (q := 30) (v := 3) d_Laws_differ_29 rfl (by decide) ?_
      obtain ⟨v5, hv, h⟩ := bnd h
      refine w_callVi (q := 33) (M' := M_Roll_cell) (n' := 0) (k := ro) (As := [.int p0, .int 3]) (sh' := sh) (b1 := (0, 0)) d_Laws_differ_30 rfl mw_Roll_cell (by decide) (by decide) ml_Laws_26 hLaws.2.2.2.2.2.2.2.1 hLaws.2.2.2.2.2.2.1 (by decide) rfl rfl rfl (leb rfl) (bz _) (fun _ => rfl) (ok_Roll_cell hLaws.2.2.2.2.2.2 hv) ?_
      refine w_aload_n (q := 34) d_Laws_differ_33 rfl rfl ?_
      refine w_get (q := 37) (ci := 5) (j := 1) d_Laws_differ_34 rfl (by decide) fl_Laws_21 (by decide) hLaws.2.1 hLaws.1 rfl rfl ?_
      refine w_iload_n (q := 38) d_Laws_differ_37 rfl rfl ?_
      refine w_iconst (q := 39) (v := 3) d_Laws_differ_38 rfl (by decide) ?_
      obtain ⟨v6, hv, h⟩ := bnd h
      refine w_callVi (q := 42) (M' := M_Roll_cell) (n' := 0) (k := ro) (As := [.int p1, .int 3]) (sh' := sh) (b1 := (0, 0)) d_Laws_differ_39 rfl mw_Roll_cell (by decide) (by decide) ml_Laws_26 hLaws.2.2.2.2.2.2.2.1 hLaws.2.2.2.2.2.2.1 (by decide) rfl rfl rfl (leb rfl) (bz _) (fun _ => rfl) (ok_Roll_cell hLaws.2.2.2.2.2.2 hv) ?_
      by_cases c7 : v5 = v6
      · rw [if_pos c7] at h
        refine w_icmp_ne_f (q := 45) d_Laws_differ_42 91 rfl rfl c7 ?_
        refine w_aload_n (q := 46) d_Laws_differ_45 rfl rfl ?_
        refine w_get (q := 49) (ci := 5) (j := 1) d_Laws_differ_46 rfl (by decide) fl_Laws_21 (by decide) hLaws.2.1 hLaws.1 rfl rfl ?_
        refine w_iload_n (q := 50) d_Laws_differ_49 rfl rfl ?_
        refine w_iconst (q := 51) (v := 2) d_Laws_differ_50 rfl (by decide) ?_
        obtain ⟨v8, hv, h⟩ := bnd h
        refine w_callVi (q := 54) (M' := M_Roll_cell) (n' := 0) (k := ro) (As := [.int p0, .int 2]) (sh' := sh) (b1 := (0, 0)) d_Laws_differ_51 rfl mw_Roll_cell (by decide) (by decide) ml_Laws_26 hLaws.2.2.2.2.2.2.2.1 hLaws.2.2.2.2.2.2.1 (by decide) rfl rfl rfl (leb rfl) (bz _) (fun _ => rfl) (ok_Roll_cell hLaws.2.2.2.2.2.2 hv) ?_
        refine w_aload_n (q := 55) d_Laws_differ_54 rfl rfl ?_
        refine w_get (q := 58) (ci := 5) (j := 1) d_Laws_differ_55 rfl (by decide) fl_Laws_21 (by decide) hLaws.2.1 hLaws.1 rfl rfl ?_
        refine w_iload_n (q := 59) d_Laws_differ_58 rfl rfl ?_
        refine w_iconst (q := 60) (v := 2) d_Laws_differ_59 rfl (by decide) ?_
        obtain ⟨v9, hv, h⟩ := bnd h
        refine w_callVi (q := 63) (M' := M_Roll_cell) (n' := 0) (k := ro) (As := [.int p1, .int 2]) (sh' := sh) (b1 := (0, 0)) d_Laws_differ_60 rfl mw_Roll_cell (by decide) (by decide) ml_Laws_26 hLaws.2.2.2.2.2.2.2.1 hLaws.2.2.2.2.2.2.1 (by decide) rfl rfl rfl (leb rfl) (bz _) (fun _ => rfl) (ok_Roll_cell hLaws.2.2.2.2.2.2 hv) ?_
        by_cases c10 : v8 = v9
        · rw [if_pos c10] at h
          refine w_icmp_ne_f (q := 66) d_Laws_differ_63 91 rfl rfl c10 ?_
          refine w_aload_n (q := 67) d_Laws_differ_66 rfl rfl ?_
          refine w_get (q := 70) (ci := 5) (j := 1) d_Laws_differ_67 rfl (by decide) fl_Laws_21 (by decide) hLaws.2.1 hLaws.1 rfl rfl ?_
          refine w_iload_n (q := 71) d_Laws_differ_70 rfl rfl ?_
          refine w_iconst (q := 72) (v := 4) d_Laws_differ_71 rfl (by decide) ?_
          obtain ⟨v11, hv, h⟩ := bnd h
          refine w_callVi (q := 75) (M' := M_Roll_cell) (n' := 0) (k := ro) (As := [.int p0, .int 4]) (sh' := sh) (b1 := (0, 0)) d_Laws_differ_72 rfl mw_Roll_cell (by decide) (by decide) ml_Laws_26 hLaws.2.2.2.2.2.2.2.1 hLaws.2.2.2.2.2.2.1 (by decide) rfl rfl rfl (leb rfl) (bz _) (fun _ => rfl) (ok_Roll_cell hLaws.2.2.2.2.2.2 hv) ?_
          refine w_aload_n (q := 76) d_Laws_differ_75 rfl rfl ?_
          refine w_get (q := 79) (ci := 5) (j := 1) d_Laws_differ_76 rfl (by decide) fl_Laws_21 (by decide) hLaws.2.1 hLaws.1 rfl rfl ?_
          refine w_iload_n (q := 80) d_Laws_differ_79 rfl rfl ?_
          refine w_iconst (q := 81) (v := 4) d_Laws_differ_80 rfl (by decide) ?_
          obtain ⟨v12, hv, h⟩ := bnd h
          refine w_callVi (q := 84) (M' := M_Roll_cell) (n' := 0) (k := ro) (As := [.int p1, .int 4]) (sh' := sh) (b1 := (0, 0)) d_Laws_differ_81 rfl mw_Roll_cell (by decide) (by decide) ml_Laws_26 hLaws.2.2.2.2.2.2.2.1 hLaws.2.2.2.2.2.2.1 (by decide) rfl rfl rfl (leb rfl) (bz _) (fun _ => rfl) (ok_Roll_cell hLaws.2.2.2.2.2.2 hv) ?_
          by_cases c13 : v11 = v12
          · rw [if_pos c13] at h
            refine w_icmp_eq_t (q := 91) d_Laws_differ_84 rfl c13 ?_
            refine w_iconst (q := 92) (v := 0) d_Laws_differ_91 rfl (by decide) ?_
            cases h
            exact w_ireturn d_Laws_differ_92 rfl rfl ⟨rfl, rfl, rfl, rfl⟩
          · rw [if_neg c13] at h
            refine w_icmp_eq_f (q := 87) d_Laws_differ_84 91 rfl rfl c13 ?_
            refine w_iconst (q := 88) (v := 1) d_Laws_differ_87 rfl (by decide) ?_
            refine w_goto (q := 92) d_Laws_differ_88 rfl ?_
            cases h
            exact w_ireturn d_Laws_differ_92 rfl rfl ⟨rfl, rfl, rfl, rfl⟩
        · rw [if_neg c10] at h
          refine w_icmp_ne_t (q := 91) d_Laws_differ_63 rfl c10 ?_
          refine w_iconst (q := 92) (v := 0) d_Laws_differ_91 rfl (by decide) ?_
          cases h
          exact w_ireturn d_Laws_differ_92 rfl rfl ⟨rfl, rfl, rfl, rfl⟩
      · rw [if_neg c7] at h
        refine w_icmp_ne_t (q := 91) d_Laws_differ_42 rfl c7 ?_
        refine w_iconst (q := 92) (v := 0) d_Laws_differ_91 rfl (by decide) ?_
        cases h
        exact w_ireturn d_Laws_differ_92 rfl rfl ⟨rfl, rfl, rfl, rfl⟩
    · rw [if_neg c4] at h
      refine w_if_ne_t (q := 91) d_Laws_differ_21 rfl c4 ?_
      refine w_iconst (q := 92) (v := 0) d_Laws_differ_91 rfl (by decide) ?_
      cases h
      exact w_ireturn d_Laws_differ_92 rfl rfl ⟨rfl, rfl, rfl, rfl⟩
  · rw [if_neg c2] at h
    refine w_if_ne_t (q := 91) d_Laws_differ_9 rfl c2 ?_
    refine w_iconst (q := 92) (v := 0) d_Laws_differ_91 rfl (by decide) ?_
    cases h
    exact w_ireturn d_Laws_differ_92 rfl rfl ⟨rfl, rfl, rfl, rfl⟩
def PL_Laws_areRivals_22 (γ : GG) (sh : List Sh) (tt : Bool) (lw : Nat) (ha : Nat) (ro : Nat) (p0 : Int32) (p1 : Int32) (g : Mem) (k3 : Int32) (k4 : Int32) (b : Nat × Nat) (Φ : PO) (s : Int32) : Prop := WA γ M_Laws_areRivals 2 22 [some (.ref lw), none, none, some (.int k3), some (.int k4), some (.int s), none] [] sh g tt b Φ
def QL_Laws_areRivals_22 (γ : GG) (sh : List Sh) (tt : Bool) (lw : Nat) (ha : Nat) (ro : Nat) (p0 : Int32) (p1 : Int32) (g : Mem) (k3 : Int32) (k4 : Int32) (b : Nat × Nat) (Φ : PO) (x : (Unit) ⊕ (Unit)) : Prop := match x with
  | .inl x => WA γ M_Laws_areRivals 2 79 [none, none, none, none, none, none, none] [] sh g tt b Φ
  | .inr x => WA γ M_Laws_areRivals 2 93 [none, none, none, none, none, none, none] [] sh g tt b Φ
def PL_Laws_areRivals_37 (γ : GG) (sh : List Sh) (tt : Bool) (lw : Nat) (ha : Nat) (ro : Nat) (p0 : Int32) (p1 : Int32) (g : Mem) (k3 : Int32) (k4 : Int32) (k5 : Int32) (b : Nat × Nat) (Φ : PO) (s : Int32) : Prop := WA γ M_Laws_areRivals 2 37 [some (.ref lw), none, none, some (.int k3), some (.int k4), some (.int k5), some (.int s)] [] sh g tt b Φ
def QL_Laws_areRivals_37 (γ : GG) (sh : List Sh) (tt : Bool) (lw : Nat) (ha : Nat) (ro : Nat) (p0 : Int32) (p1 : Int32) (g : Mem) (k3 : Int32) (k4 : Int32) (k5 : Int32) (b : Nat × Nat) (Φ : PO) (x : (Unit) ⊕ (Unit)) : Prop := match x with
  | .inl x => WA γ M_Laws_areRivals 2 79 [none, none, none, none, none, none, none] [] sh g tt b Φ
  | .inr x => WA γ M_Laws_areRivals 2 87 [some (.ref lw), none, none, some (.int k3), some (.int k4), some (.int k5), none] [] sh g tt b Φ
def st_Laws_areRivals_37 (F : Nat) (lw : Nat) (ha : Nat) (ro : Nat) (p0 : Int32) (p1 : Int32) (g : Mem) (k3 : Int32) (k4 : Int32) (k5 : Int32) (s : Int32) : Option ((Int32) ⊕ ((Unit) ⊕ (Unit))) := if (g ha 4) ≤ s then some (.inr (.inr ())) else (sp_Hall_hasBit k3 k5 g).bind fun v5 => if v5 = 0 then some (.inl (s + 1)) else (sp_Hall_hasBit k4 s g).bind fun v7 => if v7 = 0 then some (.inl (s + 1)) else (sp_Laws_differ lw ha ro k5 s g).bind fun v9 => if v9 = 0 then some (.inl (s + 1)) else some (.inr (.inl ()))
theorem kl_Laws_areRivals_37 {γ : GG} {sh : List Sh} {tt : Bool} {F : Nat} {lw : Nat} {ha : Nat} {ro : Nat} {p0 : Int32} {p1 : Int32} {g : Mem} {k3 : Int32} {k4 : Int32} {k5 : Int32} {b : Nat × Nat} {Φ : PO} (hLaws : isLaws sh lw ha ro) : ∀ (s : Int32) (r : (Int32) ⊕ ((Unit) ⊕ (Unit))), st_Laws_areRivals_37 F lw ha ro p0 p1 g k3 k4 k5 s = some r → RQ (PL_Laws_areRivals_37 γ sh tt lw ha ro p0 p1 g k3 k4 k5 b Φ) (QL_Laws_areRivals_37 γ sh tt lw ha ro p0 p1 g k3 k4 k5 b Φ) r → PL_Laws_areRivals_37 γ sh tt lw ha ro p0 p1 g k3 k4 k5 b Φ s := by
  intro s r h hr
  unfold st_Laws_areRivals_37 at h
  unfold PL_Laws_areRivals_37
  refine w_iload (q := 39) d_Laws_areRivals_37 rfl rfl ?_
  refine w_aload_n (q := 40) d_Laws_areRivals_39 rfl rfl ?_
  refine w_get (q := 43) (ci := 5) (j := 0) d_Laws_areRivals_40 rfl (by decide) fl_Laws_9 (by decide) hLaws.2.1 hLaws.1 rfl rfl ?_
  refine w_get (q := 46) (ci := 2) (j := 4) d_Laws_areRivals_43 rfl (by decide) fl_Laws_32 (by decide) hLaws.2.2.2.1 hLaws.2.2.1 rfl rfl ?_
  by_cases c4 : (g ha 4) ≤ s
  · rw [if_pos c4] at h
    refine w_icmp_ge_t (q := 87) d_Laws_areRivals_46 rfl c4 ?_
    cases h
    exact w_ls (by exact (And.intro rfl (And.intro rfl (And.intro rfl (And.intro rfl trivial))))) hr
  · rw [if_neg c4] at h
    refine w_icmp_ge_f (q := 49) d_Laws_areRivals_46 87 rfl rfl c4 ?_
    refine w_iload_n (q := 50) d_Laws_areRivals_49 rfl rfl ?_
    refine w_iload (q := 52) d_Laws_areRivals_50 rfl rfl ?_
    obtain ⟨v5, hv, h⟩ := bnd h
    refine w_callNi (q := 55) (host := "BeardHall") (M' := M_Hall_hasBit) (n' := 0) (As := [.int k3, .int k5]) (sh' := sh) (b1 := (0, 0)) d_Laws_areRivals_52 rfl mw_Hall_hasBit (by decide) (by decide) (by decide) rfl rfl (leb rfl) (bz _) (fun _ => rfl) (ok_Hall_hasBit hv) ?_
    by_cases c6 : v5 = 0
    · rw [if_pos c6] at h
      refine w_if_eq_t (q := 81) d_Laws_areRivals_55 rfl c6 ?_
      refine w_iinc (q := 84) (ls' := [some (.ref lw), none, none, some (.int k3), some (.int k4), some (.int k5), some (.int (s + 1))]) d_Laws_areRivals_81 rfl (by decide) rfl rfl rfl ?_
      refine w_goto (q := 37) d_Laws_areRivals_84 rfl ?_
      cases h
      exact w_ls (by exact (And.intro rfl (And.intro rfl (And.intro rfl (And.intro rfl (And.intro rfl trivial)))))) hr
    · rw [if_neg c6] at h
      refine w_if_eq_f (q := 58) d_Laws_areRivals_55 81 rfl rfl c6 ?_
      refine w_iload (q := 60) d_Laws_areRivals_58 rfl rfl ?_
      refine w_iload (q := 62) d_Laws_areRivals_60 rfl rfl ?_
      obtain ⟨v7, hv, h⟩ := bnd h
      refine w_callNi (q := 65) (host := "BeardHall") (M' := M_Hall_hasBit) (n' := 0) (As := [.int k4, .int s]) (sh' := sh) (b1 := (0, 0)) d_Laws_areRivals_62 rfl mw_Hall_hasBit (by decide) (by decide) (by decide) rfl rfl (leb rfl) (bz _) (fun _ => rfl) (ok_Hall_hasBit hv) ?_
      by_cases c8 : v7 = 0
      · rw [if_pos c8] at h
        refine w_if_eq_t (q := 81) d_Laws_areRivals_65 rfl c8 ?_
        refine w_iinc (q := 84) (ls' := [some (.ref lw), none, none, some (.int k3), some (.int k4), some (.int k5), some (.int (s + 1))]) d_Laws_areRivals_81 rfl (by decide) rfl rfl rfl ?_
        refine w_goto (q := 37) d_Laws_areRivals_84 rfl ?_
        cases h
        exact w_ls (by exact (And.intro rfl (And.intro rfl (And.intro rfl (And.intro rfl (And.intro rfl trivial)))))) hr
      · rw [if_neg c8] at h
        refine w_if_eq_f (q := 68) d_Laws_areRivals_65 81 rfl rfl c8 ?_
        refine w_aload_n (q := 69) d_Laws_areRivals_68 rfl rfl ?_
        refine w_iload (q := 71) d_Laws_areRivals_69 rfl rfl ?_
        refine w_iload (q := 73) d_Laws_areRivals_71 rfl rfl ?_
        obtain ⟨v9, hv, h⟩ := bnd h
        refine w_callVi (q := 76) (M' := M_Laws_differ) (n' := 1) (k := lw) (As := [.int k5, .int s]) (sh' := sh) (b1 := (0, 0)) d_Laws_areRivals_73 rfl mw_Laws_differ (by decide) (by decide) ml_Laws_54 hLaws.2.1 hLaws.1 (by decide) rfl rfl rfl (leb rfl) (bz _) (fun _ => rfl) (ok_Laws_differ hLaws hv) ?_
        by_cases c10 : v9 = 0
        · rw [if_pos c10] at h
          refine w_if_eq_t (q := 81) d_Laws_areRivals_76 rfl c10 ?_
          refine w_iinc (q := 84) (ls' := [some (.ref lw), none, none, some (.int k3), some (.int k4), some (.int k5), some (.int (s + 1))]) d_Laws_areRivals_81 rfl (by decide) rfl rfl rfl ?_
          refine w_goto (q := 37) d_Laws_areRivals_84 rfl ?_
          cases h
          exact w_ls (by exact (And.intro rfl (And.intro rfl (And.intro rfl (And.intro rfl (And.intro rfl trivial)))))) hr
        · rw [if_neg c10] at h
          refine w_if_eq_f (q := 79) d_Laws_areRivals_76 81 rfl rfl c10 ?_
          cases h
          exact w_ls (by exact trivial) hr
def st_Laws_areRivals_22 (F : Nat) (lw : Nat) (ha : Nat) (ro : Nat) (p0 : Int32) (p1 : Int32) (g : Mem) (k3 : Int32) (k4 : Int32) (s : Int32) : Option ((Int32) ⊕ ((Unit) ⊕ (Unit))) := if (g ha 4) ≤ s then some (.inr (.inr ())) else (lpO (st_Laws_areRivals_37 F lw ha ro p0 p1 g k3 k4 s) F 0).bind fun x11 => match x11 with | .inl x12 => some (.inr (.inl ())) | .inr x13 => some (.inl (s + 1))
theorem kl_Laws_areRivals_22 {γ : GG} {sh : List Sh} {tt : Bool} {F : Nat} {lw : Nat} {ha : Nat} {ro : Nat} {p0 : Int32} {p1 : Int32} {g : Mem} {k3 : Int32} {k4 : Int32} {b : Nat × Nat} {Φ : PO} (hLaws : isLaws sh lw ha ro) : ∀ (s : Int32) (r : (Int32) ⊕ ((Unit) ⊕ (Unit))), st_Laws_areRivals_22 F lw ha ro p0 p1 g k3 k4 s = some r → RQ (PL_Laws_areRivals_22 γ sh tt lw ha ro p0 p1 g k3 k4 b Φ) (QL_Laws_areRivals_22 γ sh tt lw ha ro p0 p1 g k3 k4 b Φ) r → PL_Laws_areRivals_22 γ sh tt lw ha ro p0 p1 g k3 k4 b Φ s := by
  intro s r h hr
  unfold st_Laws_areRivals_22 at h
  unfold PL_Laws_areRivals_22
  refine w_iload (q := 24) d_Laws_areRivals_22 rfl rfl ?_
  refine w_aload_n (q := 25) d_Laws_areRivals_24 rfl rfl ?_
  refine w_get (q := 28) (ci := 5) (j := 0) d_Laws_areRivals_25 rfl (by decide) fl_Laws_9 (by decide) hLaws.2.1 hLaws.1 rfl rfl ?_
  refine w_get (q := 31) (ci := 2) (j := 4) d_Laws_areRivals_28 rfl (by decide) fl_Laws_32 (by decide) hLaws.2.2.2.1 hLaws.2.2.1 rfl rfl ?_
  by_cases c3 : (g ha 4) ≤ s
  · rw [if_pos c3] at h
    refine w_icmp_ge_t (q := 93) d_Laws_areRivals_31 rfl c3 ?_
    cases h
    exact w_ls (by exact trivial) hr
  · rw [if_neg c3] at h
    refine w_icmp_ge_f (q := 34) d_Laws_areRivals_31 93 rfl rfl c3 ?_
    refine w_iconst (q := 35) (v := 0) d_Laws_areRivals_34 rfl (by decide) ?_
    refine w_istore (q := 37) (ls' := [some (.ref lw), none, none, some (.int k3), some (.int k4), some (.int s), some (.int 0)]) d_Laws_areRivals_35 rfl (by decide) rfl rfl ?_
    obtain ⟨x11, hx, h⟩ := bnd h
    refine w_ls (ls' := [some (.ref lw), none, none, some (.int k3), some (.int k4), some (.int s), some (.int 0)]) (And.intro rfl (And.intro rfl (And.intro rfl (And.intro rfl (And.intro rfl trivial))))) ?_
    show PL_Laws_areRivals_37 γ sh tt lw ha ro p0 p1 g k3 k4 s _ _ 0
    refine lp_ok (kl_Laws_areRivals_37 hLaws) F _ x11 hx ?_
    unfold QL_Laws_areRivals_37
    rcases x11 with x12 | x13
    · dsimp only at h ⊢
      cases h
      exact w_ls (by exact trivial) hr
    · dsimp only at h ⊢
      refine w_iinc (q := 90) (ls' := [some (.ref lw), none, none, some (.int k3), some (.int k4), some (.int (s + 1)), none]) d_Laws_areRivals_87 rfl (by decide) rfl rfl rfl ?_
      refine w_goto (q := 22) d_Laws_areRivals_90 rfl ?_
      cases h
      exact w_ls (by exact (And.intro rfl (And.intro rfl (And.intro rfl (And.intro rfl trivial))))) hr
def sp_Laws_areRivals (F : Nat) (lw : Nat) (ha : Nat) (ro : Nat) (p0 : Int32) (p1 : Int32) (g : Mem) : Option (Int32) := (sp_Hair_thereOf F ha ro p0 g).bind fun v1 => (sp_Hair_thereOf F ha ro p1 g).bind fun v2 => (lpO (st_Laws_areRivals_22 F lw ha ro p0 p1 g v1 v2) F 0).bind fun x14 => match x14 with | .inl x15 => some 1 | .inr x16 => some 0
theorem ok_Laws_areRivals {γ : GG} {sh : List Sh} {tt : Bool} {F : Nat} {lw : Nat} {ha : Nat} {ro : Nat} {p0 : Int32} {p1 : Int32} {g : Mem} (hLaws : isLaws sh lw ha ro) {res : Int32} (h : sp_Laws_areRivals F lw ha ro p0 p1 g = some res) : CA γ M_Laws_areRivals 2 [.ref lw, .int p0, .int p1] sh g tt (0, 0) (pI sh res g tt) := by
  refine CA.of mw_Laws_areRivals.1 4 rfl ?_
  show WA γ M_Laws_areRivals 2 0 [some (.ref lw), some (.int p0), some (.int p1), none, none, none, none] [] sh g tt (0, 0) (pI sh res g tt)
  unfold sp_Laws_areRivals at h
  refine w_aload_n (q := 1) d_Laws_areRivals_0 rfl rfl ?_
  refine w_get (q := 4) (ci := 5) (j := 0) d_Laws_areRivals_1 rfl (by decide) fl_Laws_9 (by decide) hLaws.2.1 hLaws.1 rfl rfl ?_
  refine w_iload_n (q := 5) d_Laws_areRivals_4 rfl rfl ?_
  obtain ⟨v1, hv, h⟩ := bnd h
  refine w_callVi (q := 8) (M' := M_Hair_thereOf) (n' := 1) (k := ha) (As := [.int p0]) (sh' := sh) (b1 := (0, 0)) d_Laws_areRivals_5 rfl mw_Hair_thereOf (by decide) (by decide) ml_Laws_47 hLaws.2.2.2.1 hLaws.2.2.1 (by decide) rfl rfl rfl (leb rfl) (bz _) (fun _ => rfl) (ok_Hair_thereOf hLaws.2.2 hv) ?_
  refine w_istore_n (q := 9) (ls' := [some (.ref lw), some (.int p0), some (.int p1), some (.int v1), none, none, none]) d_Laws_areRivals_8 rfl (by decide) rfl rfl ?_
  refine w_aload_n (q := 10) d_Laws_areRivals_9 rfl rfl ?_
  refine w_get (q := 13) (ci := 5) (j := 0) d_Laws_areRivals_10 rfl (by decide) fl_Laws_9 (by decide) hLaws.2.1 hLaws.1 rfl rfl ?_
  refine w_iload_n (q := 14) d_Laws_areRivals_13 rfl rfl ?_
  obtain ⟨v2, hv, h⟩ := bnd h
  refine w_callVi (q := 17) (M' := M_Hair_thereOf) (n' := 1) (k := ha) (As := [.int p1]) (sh' := sh) (b1 := (0, 0)) d_Laws_areRivals_14 rfl mw_Hair_thereOf (by decide) (by decide) ml_Laws_47 hLaws.2.2.2.1 hLaws.2.2.1 (by decide) rfl rfl rfl (leb rfl) (bz _) (fun _ => rfl) (ok_Hair_thereOf hLaws.2.2 hv) ?_
  refine w_istore (q := 19) (ls' := [some (.ref lw), some (.int p0), some (.int p1), some (.int v1), some (.int v2), none, none]) d_Laws_areRivals_17 rfl (by decide) rfl rfl ?_
  refine w_iconst (q := 20) (v := 0) d_Laws_areRivals_19 rfl (by decide) ?_
  refine w_istore (q := 22) (ls' := [some (.ref lw), some (.int p0), some (.int p1), some (.int v1), some (.int v2), some (.int 0), none]) d_Laws_areRivals_20 rfl (by decide) rfl rfl ?_
  obtain ⟨x14, hx, h⟩ := bnd h
  refine w_ls (ls' := [some (.ref lw), none, none, some (.int v1), some (.int v2), some (.int 0), none]) (And.intro rfl (And.intro rfl (And.intro rfl (And.intro rfl trivial)))) ?_
  show PL_Laws_areRivals_22 γ sh tt lw ha ro p0 p1 g v1 v2 _ _ 0
  refine lp_ok (kl_Laws_areRivals_22 hLaws) F _ x14 hx ?_
  unfold QL_Laws_areRivals_22
  rcases x14 with x15 | x16
  · dsimp only at h ⊢
    refine w_iconst (q := 80) (v := 1) d_Laws_areRivals_79 rfl (by decide) ?_
    cases h
    exact w_ireturn d_Laws_areRivals_80 rfl rfl ⟨rfl, rfl, rfl, rfl⟩
  · dsimp only at h ⊢
    refine w_iconst (q := 94) (v := 0) d_Laws_areRivals_93 rfl (by decide) ?_
    cases h
    exact w_ireturn d_Laws_areRivals_94 rfl rfl ⟨rfl, rfl, rfl, rfl⟩
def PL_Laws_rivalCouples_4 (γ : GG) (sh : List Sh) (tt : Bool) (lw : Nat) (ha : Nat) (ro : Nat) (g : Mem) (b : Nat × Nat) (Φ : PO) (s : Int32 × Int32) : Prop := WA γ M_Laws_rivalCouples 3 4 [some (.ref lw), some (.int s.1), some (.int s.2), none] [] sh g tt b Φ
def QL_Laws_rivalCouples_4 (γ : GG) (sh : List Sh) (tt : Bool) (lw : Nat) (ha : Nat) (ro : Nat) (g : Mem) (b : Nat × Nat) (Φ : PO) (x : (Int32)) : Prop := WA γ M_Laws_rivalCouples 3 54 [none, some (.int x), none, none] [] sh g tt b Φ
def PL_Laws_rivalCouples_19 (γ : GG) (sh : List Sh) (tt : Bool) (lw : Nat) (ha : Nat) (ro : Nat) (g : Mem) (k2 : Int32) (b : Nat × Nat) (Φ : PO) (s : Int32 × Int32) : Prop := WA γ M_Laws_rivalCouples 3 19 [some (.ref lw), some (.int s.1), some (.int k2), some (.int s.2)] [] sh g tt b Φ
def QL_Laws_rivalCouples_19 (γ : GG) (sh : List Sh) (tt : Bool) (lw : Nat) (ha : Nat) (ro : Nat) (g : Mem) (k2 : Int32) (b : Nat × Nat) (Φ : PO) (x : (Int32)) : Prop := WA γ M_Laws_rivalCouples 3 48 [some (.ref lw), some (.int x), some (.int k2), none] [] sh g tt b Φ
def st_Laws_rivalCouples_19 (F : Nat) (lw : Nat) (ha : Nat) (ro : Nat) (g : Mem) (k2 : Int32) (s : Int32 × Int32) : Option ((Int32 × Int32) ⊕ ((Int32))) := if (g ro 0) ≤ s.2 then some (.inr s.1) else (sp_Laws_areRivals F lw ha ro k2 s.2 g).bind fun v3 => if v3 = 0 then some (.inl (s.1, s.2 + 1)) else some (.inl (s.1 + 1, s.2 + 1))
theorem kl_Laws_rivalCouples_19 {γ : GG} {sh : List Sh} {tt : Bool} {F : Nat} {lw : Nat} {ha : Nat} {ro : Nat} {g : Mem} {k2 : Int32} {b : Nat × Nat} {Φ : PO} (hLaws : isLaws sh lw ha ro) : ∀ (s : Int32 × Int32) (r : (Int32 × Int32) ⊕ ((Int32))), st_Laws_rivalCouples_19 F lw ha ro g k2 s = some r → RQ (PL_Laws_rivalCouples_19 γ sh tt lw ha ro g k2 b Φ) (QL_Laws_rivalCouples_19 γ sh tt lw ha ro g k2 b Φ) r → PL_Laws_rivalCouples_19 γ sh tt lw ha ro g k2 b Φ s := by
  intro s r h hr
  unfold st_Laws_rivalCouples_19 at h
  unfold PL_Laws_rivalCouples_19
  refine w_iload_n (q := 20) d_Laws_rivalCouples_19 rfl rfl ?_
  refine w_aload_n (q := 21) d_Laws_rivalCouples_20 rfl rfl ?_
  refine w_get (q := 24) (ci := 5) (j := 1) d_Laws_rivalCouples_21 rfl (by decide) fl_Laws_21 (by decide) hLaws.2.1 hLaws.1 rfl rfl ?_
  refine w_get (q := 27) (ci := 7) (j := 0) d_Laws_rivalCouples_24 rfl (by decide) fl_Laws_40 (by decide) hLaws.2.2.2.2.2.2.2.1 hLaws.2.2.2.2.2.2.1 rfl rfl ?_
  by_cases c2 : (g ro 0) ≤ s.2
  · rw [if_pos c2] at h
    refine w_icmp_ge_t (q := 48) d_Laws_rivalCouples_27 rfl c2 ?_
    cases h
    exact w_ls (by exact (And.intro rfl (And.intro rfl (And.intro rfl trivial)))) hr
  · rw [if_neg c2] at h
    refine w_icmp_ge_f (q := 30) d_Laws_rivalCouples_27 48 rfl rfl c2 ?_
    refine w_aload_n (q := 31) d_Laws_rivalCouples_30 rfl rfl ?_
    refine w_iload_n (q := 32) d_Laws_rivalCouples_31 rfl rfl ?_
    refine w_iload_n (q := 33) d_Laws_rivalCouples_32 rfl rfl ?_
    obtain ⟨v3, hv, h⟩ := bnd h
    refine w_callVi (q := 36) (M' := M_Laws_areRivals) (n' := 2) (k := lw) (As := [.int k2, .int s.2]) (sh' := sh) (b1 := (0, 0)) d_Laws_rivalCouples_33 rfl mw_Laws_areRivals (by decide) (by decide) ml_Laws_43 hLaws.2.1 hLaws.1 (by decide) rfl rfl rfl (leb rfl) (bz _) (fun _ => rfl) (ok_Laws_areRivals hLaws hv) ?_
    by_cases c4 : v3 = 0
    · rw [if_pos c4] at h
      refine w_if_eq_t (q := 42) d_Laws_rivalCouples_36 rfl c4 ?_
      refine w_iinc (q := 45) (ls' := [some (.ref lw), some (.int s.1), some (.int k2), some (.int (s.2 + 1))]) d_Laws_rivalCouples_42 rfl (by decide) rfl rfl rfl ?_
      refine w_goto (q := 19) d_Laws_rivalCouples_45 rfl ?_
      cases h
      exact w_ls (by exact (And.intro rfl (And.intro rfl (And.intro rfl (And.intro rfl trivial))))) hr
    · rw [if_neg c4] at h
      refine w_if_eq_f (q := 39) d_Laws_rivalCouples_36 42 rfl rfl c4 ?_
      refine w_iinc (q := 42) (ls' := [some (.ref lw), some (.int (s.1 + 1)), some (.int k2), some (.int s.2)]) d_Laws_rivalCouples_39 rfl (by decide) rfl rfl rfl ?_
      refine w_iinc (q := 45) (ls' := [some (.ref lw), some (.int (s.1 + 1)), some (.int k2), some (.int (s.2 + 1))]) d_Laws_rivalCouples_42 rfl (by decide) rfl rfl rfl ?_
      refine w_goto (q := 19) d_Laws_rivalCouples_45 rfl ?_
      cases h
      exact w_ls (by exact (And.intro rfl (And.intro rfl (And.intro rfl (And.intro rfl trivial))))) hr
def st_Laws_rivalCouples_4 (F : Nat) (lw : Nat) (ha : Nat) (ro : Nat) (g : Mem) (s : Int32 × Int32) : Option ((Int32 × Int32) ⊕ ((Int32))) := if (g ro 0) ≤ s.2 then some (.inr s.1) else (lpO (st_Laws_rivalCouples_19 F lw ha ro g s.2) F (s.1, s.2 + 1)).bind fun x5 => some (.inl (x5, s.2 + 1))
theorem kl_Laws_rivalCouples_4 {γ : GG} {sh : List Sh} {tt : Bool} {F : Nat} {lw : Nat} {ha : Nat} {ro : Nat} {g : Mem} {b : Nat × Nat} {Φ : PO} (hLaws : isLaws sh lw ha ro) : ∀ (s : Int32 × Int32) (r : (Int32 × Int32) ⊕ ((Int32))), st_Laws_rivalCouples_4 F lw ha ro g s = some r → RQ (PL_Laws_rivalCouples_4 γ sh tt lw ha ro g b Φ) (QL_Laws_rivalCouples_4 γ sh tt lw ha ro g b Φ) r → PL_Laws_rivalCouples_4 γ sh tt lw ha ro g b Φ s := by
  intro s r h hr
  unfold st_Laws_rivalCouples_4 at h
  unfold PL_Laws_rivalCouples_4
  refine w_iload_n (q := 5) d_Laws_rivalCouples_4 rfl rfl ?_
  refine w_aload_n (q := 6) d_Laws_rivalCouples_5 rfl rfl ?_
  refine w_get (q := 9) (ci := 5) (j := 1) d_Laws_rivalCouples_6 rfl (by decide) fl_Laws_21 (by decide) hLaws.2.1 hLaws.1 rfl rfl ?_
  refine w_get (q := 12) (ci := 7) (j := 0) d_Laws_rivalCouples_9 rfl (by decide) fl_Laws_40 (by decide) hLaws.2.2.2.2.2.2.2.1 hLaws.2.2.2.2.2.2.1 rfl rfl ?_
  by_cases c1 : (g ro 0) ≤ s.2
  · rw [if_pos c1] at h
    refine w_icmp_ge_t (q := 54) d_Laws_rivalCouples_12 rfl c1 ?_
    cases h
    exact w_ls (by exact (And.intro rfl trivial)) hr
  · rw [if_neg c1] at h
    refine w_icmp_ge_f (q := 15) d_Laws_rivalCouples_12 54 rfl rfl c1 ?_
    refine w_iload_n (q := 16) d_Laws_rivalCouples_15 rfl rfl ?_
    refine w_iconst (q := 17) (v := 1) d_Laws_rivalCouples_16 rfl (by decide) ?_
    refine w_iadd (q := 18) d_Laws_rivalCouples_17 rfl ?_
    refine w_istore_n (q := 19) (ls' := [some (.ref lw), some (.int s.1), some (.int s.2), some (.int (s.2 + 1))]) d_Laws_rivalCouples_18 rfl (by decide) rfl rfl ?_
    obtain ⟨x5, hx, h⟩ := bnd h
    refine w_ls (ls' := [some (.ref lw), some (.int s.1), some (.int s.2), some (.int (s.2 + 1))]) (And.intro rfl (And.intro rfl (And.intro rfl (And.intro rfl trivial)))) ?_
    show PL_Laws_rivalCouples_19 γ sh tt lw ha ro g s.2 _ _ (s.1, s.2 + 1)
    refine lp_ok (kl_Laws_rivalCouples_19 hLaws) F _ x5 hx ?_
    unfold QL_Laws_rivalCouples_19
    refine w_iinc (q := 51) (ls' := [some (.ref lw), some (.int x5), some (.int (s.2 + 1)), none]) d_Laws_rivalCouples_48 rfl (by decide) rfl rfl rfl ?_
    refine w_goto (q := 4) d_Laws_rivalCouples_51 rfl ?_
    cases h
    exact w_ls (by exact (And.intro rfl (And.intro rfl (And.intro rfl trivial)))) hr
def sp_Laws_rivalCouples (F : Nat) (lw : Nat) (ha : Nat) (ro : Nat) (g : Mem) : Option (Int32) := (lpO (st_Laws_rivalCouples_4 F lw ha ro g) F (0, 0)).bind fun x6 => some x6
theorem ok_Laws_rivalCouples {γ : GG} {sh : List Sh} {tt : Bool} {F : Nat} {lw : Nat} {ha : Nat} {ro : Nat} {g : Mem} (hLaws : isLaws sh lw ha ro) {res : Int32} (h : sp_Laws_rivalCouples F lw ha ro g = some res) : CA γ M_Laws_rivalCouples 3 [.ref lw] sh g tt (0, 0) (pI sh res g tt) := by
  refine CA.of mw_Laws_rivalCouples.1 3 rfl ?_
  show WA γ M_Laws_rivalCouples 3 0 [some (.ref lw), none, none, none] [] sh g tt (0, 0) (pI sh res g tt)
  unfold sp_Laws_rivalCouples at h
  refine w_iconst (q := 1) (v := 0) d_Laws_rivalCouples_0 rfl (by decide) ?_
  refine w_istore_n (q := 2) (ls' := [some (.ref lw), some (.int 0), none, none]) d_Laws_rivalCouples_1 rfl (by decide) rfl rfl ?_
  refine w_iconst (q := 3) (v := 0) d_Laws_rivalCouples_2 rfl (by decide) ?_
  refine w_istore_n (q := 4) (ls' := [some (.ref lw), some (.int 0), some (.int 0), none]) d_Laws_rivalCouples_3 rfl (by decide) rfl rfl ?_
  obtain ⟨x6, hx, h⟩ := bnd h
  refine w_ls (ls' := [some (.ref lw), some (.int 0), some (.int 0), none]) (And.intro rfl (And.intro rfl (And.intro rfl trivial))) ?_
  show PL_Laws_rivalCouples_4 γ sh tt lw ha ro g _ _ (0, 0)
  refine lp_ok (kl_Laws_rivalCouples_4 hLaws) F _ x6 hx ?_
  unfold QL_Laws_rivalCouples_4
  refine w_iload_n (q := 55) d_Laws_rivalCouples_54 rfl rfl ?_
  cases h
  exact w_ireturn d_Laws_rivalCouples_55 rfl rfl ⟨rfl, rfl, rfl, rfl⟩
def sp_Laws_owing (lw : Nat) (ha : Nat) (ro : Nat) (p0 : Int32) (g : Mem) : Option (Int32) := (sp_Roll_cell ro p0 0 g).bind fun v1 => if v1 = 1 then (sp_Roll_cell ro p0 4 g).bind fun v3 => some v3 else if v1 = 2 then (sp_Roll_cell ro p0 4 g).bind fun v5 => some (-v5) else some 0
theorem ok_Laws_owing {γ : GG} {sh : List Sh} {tt : Bool} {lw : Nat} {ha : Nat} {ro : Nat} {p0 : Int32} {g : Mem} (hLaws : isLaws sh lw ha ro) {res : Int32} (h : sp_Laws_owing lw ha ro p0 g = some res) : CA γ M_Laws_owing 1 [.ref lw, .int p0] sh g tt (0, 0) (pI sh res g tt) := by
  refine CA.of mw_Laws_owing.1 0 rfl ?_
  show WA γ M_Laws_owing 1 0 [some (.ref lw), some (.int p0)] [] sh g tt (0, 0) (pI sh res g tt)
  unfold sp_Laws_owing at h
  refine w_aload_n (q := 1) d_Laws_owing_0 rfl rfl ?_
  refine w_get (q := 4) (ci := 5) (j := 1) d_Laws_owing_1 rfl (by decide) fl_Laws_21 (by decide) hLaws.2.1 hLaws.1 rfl rfl ?_
  refine w_iload_n (q := 5) d_Laws_owing_4 rfl rfl ?_
  refine w_iconst (q := 6) (v := 0) d_Laws_owing_5 rfl (by decide) ?_
  obtain ⟨v1, hv, h⟩ := bnd h
  refine w_callVi (q := 9) (M' := M_Roll_cell) (n' := 0) (k := ro) (As := [.int p0, .int 0]) (sh' := sh) (b1 := (0, 0)) d_Laws_owing_6 rfl mw_Roll_cell (by decide) (by decide) ml_Laws_26 hLaws.2.2.2.2.2.2.2.1 hLaws.2.2.2.2.2.2.1 (by decide) rfl rfl rfl (leb rfl) (bz _) (fun _ => rfl) (ok_Roll_cell hLaws.2.2.2.2.2.2 hv) ?_
  by_cases c2 : v1 = 1
  · rw [if_pos c2] at h
    refine w_lookup (q := 36) (off := 27) d_Laws_owing_9 (by decide) (by rw [c2]; decide +kernel) rfl ?_
    refine w_aload_n (q := 37) d_Laws_owing_36 rfl rfl ?_
    refine w_get (q := 40) (ci := 5) (j := 1) d_Laws_owing_37 rfl (by decide) fl_Laws_21 (by decide) hLaws.2.1 hLaws.1 rfl rfl ?_
    refine w_iload_n (q := 41) d_Laws_owing_40 rfl rfl ?_
    refine w_iconst (q := 42) (v := 4) d_Laws_owing_41 rfl (by decide) ?_
    obtain ⟨v3, hv, h⟩ := bnd h
    refine w_callVi (q := 45) (M' := M_Roll_cell) (n' := 0) (k := ro) (As := [.int p0, .int 4]) (sh' := sh) (b1 := (0, 0)) d_Laws_owing_42 rfl mw_Roll_cell (by decide) (by decide) ml_Laws_26 hLaws.2.2.2.2.2.2.2.1 hLaws.2.2.2.2.2.2.1 (by decide) rfl rfl rfl (leb rfl) (bz _) (fun _ => rfl) (ok_Roll_cell hLaws.2.2.2.2.2.2 hv) ?_
    cases h
    exact w_ireturn d_Laws_owing_45 rfl rfl ⟨rfl, rfl, rfl, rfl⟩
  rw [if_neg c2] at h
  by_cases c4 : v1 = 2
  · rw [if_pos c4] at h
    refine w_lookup (q := 46) (off := 37) d_Laws_owing_9 (by decide) (by rw [c4]; decide +kernel) rfl ?_
    refine w_aload_n (q := 47) d_Laws_owing_46 rfl rfl ?_
    refine w_get (q := 50) (ci := 5) (j := 1) d_Laws_owing_47 rfl (by decide) fl_Laws_21 (by decide) hLaws.2.1 hLaws.1 rfl rfl ?_
    refine w_iload_n (q := 51) d_Laws_owing_50 rfl rfl ?_
    refine w_iconst (q := 52) (v := 4) d_Laws_owing_51 rfl (by decide) ?_
    obtain ⟨v5, hv, h⟩ := bnd h
    refine w_callVi (q := 55) (M' := M_Roll_cell) (n' := 0) (k := ro) (As := [.int p0, .int 4]) (sh' := sh) (b1 := (0, 0)) d_Laws_owing_52 rfl mw_Roll_cell (by decide) (by decide) ml_Laws_26 hLaws.2.2.2.2.2.2.2.1 hLaws.2.2.2.2.2.2.1 (by decide) rfl rfl rfl (leb rfl) (bz _) (fun _ => rfl) (ok_Roll_cell hLaws.2.2.2.2.2.2 hv) ?_
    refine w_ineg (q := 56) d_Laws_owing_55 rfl ?_
    cases h
    exact w_ireturn d_Laws_owing_56 rfl rfl ⟨rfl, rfl, rfl, rfl⟩
  rw [if_neg c4] at h
  refine w_lookup (q := 57) (off := 48) d_Laws_owing_9 (by decide) (by show Op.lookupswitch.offset [(1, 27), (2, 37)] 48 _ = _; rw [lv_osw (k := 1) c2 (by decide)]; rw [lv_osw (k := 2) c4 (by decide)]; rfl) rfl ?_
  refine w_iconst (q := 58) (v := 0) d_Laws_owing_57 rfl (by decide) ?_
  cases h
  exact w_ireturn d_Laws_owing_58 rfl rfl ⟨rfl, rfl, rfl, rfl⟩
def PL_Laws_balance_13 (γ : GG) (sh : List Sh) (tt : Bool) (lw : Nat) (ha : Nat) (ro : Nat) (p0 : Int32) (g : Mem) (k1 : Int32) (k2 : Int32) (b : Nat × Nat) (Φ : PO) (s : Int32 × Int32) : Prop := WA γ M_Laws_balance 3 13 [some (.ref lw), some (.int k1), some (.int k2), some (.int s.1), some (.int s.2)] [] sh g tt b Φ
def QL_Laws_balance_13 (γ : GG) (sh : List Sh) (tt : Bool) (lw : Nat) (ha : Nat) (ro : Nat) (p0 : Int32) (g : Mem) (k1 : Int32) (k2 : Int32) (b : Nat × Nat) (Φ : PO) (x : (Int32)) : Prop := WA γ M_Laws_balance 3 68 [none, none, none, some (.int x), none] [] sh g tt b Φ
def sp_Laws_balance_j53_13 (F : Nat) (lw : Nat) (ha : Nat) (ro : Nat) (p0 : Int32) (k1 : Int32) (k2 : Int32) (g : Mem) (x3 : Int32) (x4 : Int32) : Option ((Int32 × Int32) ⊕ ((Int32))) := (sp_Laws_owing lw ha ro x4 g).bind fun v6 => some (.inl (x3 + v6, x4 + 1))
theorem ok_Laws_balance_j53_13 {γ : GG} {sh : List Sh} {tt : Bool} {F : Nat} {lw : Nat} {ha : Nat} {ro : Nat} {p0 : Int32} {k1 : Int32} {k2 : Int32} {g : Mem} {x3 : Int32} {x4 : Int32} {b : Nat × Nat} {Φ : PO} (hLaws : isLaws sh lw ha ro) {r : (Int32 × Int32) ⊕ ((Int32))} (h : sp_Laws_balance_j53_13 F lw ha ro p0 k1 k2 g x3 x4 = some r) (hr : RQ (PL_Laws_balance_13 γ sh tt lw ha ro p0 g k1 k2 b Φ) (QL_Laws_balance_13 γ sh tt lw ha ro p0 g k1 k2 b Φ) r) : WA γ M_Laws_balance 3 53 [some (.ref lw), some (.int k1), some (.int k2), some (.int x3), some (.int x4)] [] sh g tt b Φ := by
  unfold sp_Laws_balance_j53_13 at h
  refine w_iload_n (q := 54) d_Laws_balance_53 rfl rfl ?_
  refine w_aload_n (q := 55) d_Laws_balance_54 rfl rfl ?_
  refine w_iload (q := 57) d_Laws_balance_55 rfl rfl ?_
  obtain ⟨v6, hv, h⟩ := bnd h
  refine w_callVi (q := 60) (M' := M_Laws_owing) (n' := 1) (k := lw) (As := [.int x4]) (sh' := sh) (b1 := (0, 0)) d_Laws_balance_57 rfl mw_Laws_owing (by decide) (by decide) ml_Laws_61 hLaws.2.1 hLaws.1 (by decide) rfl rfl rfl (leb rfl) (bz _) (fun _ => rfl) (ok_Laws_owing hLaws hv) ?_
  refine w_iadd (q := 61) d_Laws_balance_60 rfl ?_
  refine w_istore_n (q := 62) (ls' := [some (.ref lw), some (.int k1), some (.int k2), some (.int (x3 + v6)), some (.int x4)]) d_Laws_balance_61 rfl (by decide) rfl rfl ?_
  refine w_iinc (q := 65) (ls' := [some (.ref lw), some (.int k1), some (.int k2), some (.int (x3 + v6)), some (.int (x4 + 1))]) d_Laws_balance_62 rfl (by decide) rfl rfl rfl ?_
  refine w_goto (q := 13) d_Laws_balance_65 rfl ?_
  cases h
  exact w_ls (by exact (And.intro rfl (And.intro rfl (And.intro rfl (And.intro rfl (And.intro rfl trivial)))))) hr
def st_Laws_balance_13 (F : Nat) (lw : Nat) (ha : Nat) (ro : Nat) (p0 : Int32) (g : Mem) (k1 : Int32) (k2 : Int32) (s : Int32 × Int32) : Option ((Int32 × Int32) ⊕ ((Int32))) := if (g ha 4) ≤ s.2 then some (.inr s.1) else (sp_Hall_hasBit k2 s.2 g).bind fun v3 => if v3 = 0 then some (.inl (s.1, s.2 + 1)) else if k1 = (-1) then sp_Laws_balance_j53_13 F lw ha ro p0 k1 k2 g s.1 s.2 else (sp_Roll_cell ro s.2 3 g).bind fun v7 => if v7 = k1 then sp_Laws_balance_j53_13 F lw ha ro p0 k1 k2 g s.1 s.2 else some (.inl (s.1, s.2 + 1))
theorem kl_Laws_balance_13 {γ : GG} {sh : List Sh} {tt : Bool} {F : Nat} {lw : Nat} {ha : Nat} {ro : Nat} {p0 : Int32} {g : Mem} {k1 : Int32} {k2 : Int32} {b : Nat × Nat} {Φ : PO} (hLaws : isLaws sh lw ha ro) : ∀ (s : Int32 × Int32) (r : (Int32 × Int32) ⊕ ((Int32))), st_Laws_balance_13 F lw ha ro p0 g k1 k2 s = some r → RQ (PL_Laws_balance_13 γ sh tt lw ha ro p0 g k1 k2 b Φ) (QL_Laws_balance_13 γ sh tt lw ha ro p0 g k1 k2 b Φ) r → PL_Laws_balance_13 γ sh tt lw ha ro p0 g k1 k2 b Φ s := by
  intro s r h hr
  unfold st_Laws_balance_13 at h
  unfold PL_Laws_balance_13
  refine w_iload (q := 15) d_Laws_balance_13 rfl rfl ?_
  refine w_aload_n (q := 16) d_Laws_balance_15 rfl rfl ?_
  refine w_get (q := 19) (ci := 5) (j := 0) d_Laws_balance_16 rfl (by decide) fl_Laws_9 (by decide) hLaws.2.1 hLaws.1 rfl rfl ?_
  refine w_get (q := 22) (ci := 2) (j := 4) d_Laws_balance_19 rfl (by decide) fl_Laws_32 (by decide) hLaws.2.2.2.1 hLaws.2.2.1 rfl rfl ?_
  by_cases c2 : (g ha 4) ≤ s.2
  · rw [if_pos c2] at h
    refine w_icmp_ge_t (q := 68) d_Laws_balance_22 rfl c2 ?_
    cases h
    exact w_ls (by exact (And.intro rfl trivial)) hr
  · rw [if_neg c2] at h
    refine w_icmp_ge_f (q := 25) d_Laws_balance_22 68 rfl rfl c2 ?_
    refine w_iload_n (q := 26) d_Laws_balance_25 rfl rfl ?_
    refine w_iload (q := 28) d_Laws_balance_26 rfl rfl ?_
    obtain ⟨v3, hv, h⟩ := bnd h
    refine w_callNi (q := 31) (host := "BeardHall") (M' := M_Hall_hasBit) (n' := 0) (As := [.int k2, .int s.2]) (sh' := sh) (b1 := (0, 0)) d_Laws_balance_28 rfl mw_Hall_hasBit (by decide) (by decide) (by decide) rfl rfl (leb rfl) (bz _) (fun _ => rfl) (ok_Hall_hasBit hv) ?_
    by_cases c4 : v3 = 0
    · rw [if_pos c4] at h
      refine w_if_eq_t (q := 62) d_Laws_balance_31 rfl c4 ?_
      refine w_iinc (q := 65) (ls' := [some (.ref lw), some (.int k1), some (.int k2), some (.int s.1), some (.int (s.2 + 1))]) d_Laws_balance_62 rfl (by decide) rfl rfl rfl ?_
      refine w_goto (q := 13) d_Laws_balance_65 rfl ?_
      cases h
      exact w_ls (by exact (And.intro rfl (And.intro rfl (And.intro rfl (And.intro rfl (And.intro rfl trivial)))))) hr
    · rw [if_neg c4] at h
      refine w_if_eq_f (q := 34) d_Laws_balance_31 62 rfl rfl c4 ?_
      refine w_iload_n (q := 35) d_Laws_balance_34 rfl rfl ?_
      refine w_iconst (q := 36) (v := (-1)) d_Laws_balance_35 rfl (by decide) ?_
      by_cases c5 : k1 = (-1)
      · rw [if_pos c5] at h
        refine w_icmp_eq_t (q := 53) d_Laws_balance_36 rfl c5 ?_
        refine w_ls (ls' := [some (.ref lw), some (.int k1), some (.int k2), some (.int s.1), some (.int s.2)]) (And.intro rfl (And.intro rfl (And.intro rfl (And.intro rfl (And.intro rfl trivial))))) ?_
        exact ok_Laws_balance_j53_13 hLaws h hr
      · rw [if_neg c5] at h
        refine w_icmp_eq_f (q := 39) d_Laws_balance_36 53 rfl rfl c5 ?_
        refine w_aload_n (q := 40) d_Laws_balance_39 rfl rfl ?_
        refine w_get (q := 43) (ci := 5) (j := 1) d_Laws_balance_40 rfl (by decide) fl_Laws_21 (by decide) hLaws.2.1 hLaws.1 rfl rfl ?_
        refine w_iload (q := 45) d_Laws_balance_43 rfl rfl ?_
        refine w_iconst (q := 46) (v := 3) d_Laws_balance_45 rfl (by decide) ?_
        obtain ⟨v7, hv, h⟩ := bnd h
        refine w_callVi (q := 49) (M' := M_Roll_cell) (n' := 0) (k := ro) (As := [.int s.2, .int 3]) (sh' := sh) (b1 := (0, 0)) d_Laws_balance_46 rfl mw_Roll_cell (by decide) (by decide) ml_Laws_26 hLaws.2.2.2.2.2.2.2.1 hLaws.2.2.2.2.2.2.1 (by decide) rfl rfl rfl (leb rfl) (bz _) (fun _ => rfl) (ok_Roll_cell hLaws.2.2.2.2.2.2 hv) ?_
        refine w_iload_n (q := 50) d_Laws_balance_49 rfl rfl ?_
        by_cases c8 : v7 = k1
        · rw [if_pos c8] at h
          refine w_icmp_ne_f (q := 53) d_Laws_balance_50 62 rfl rfl c8 ?_
          refine w_ls (ls' := [some (.ref lw), some (.int k1), some (.int k2), some (.int s.1), some (.int s.2)]) (And.intro rfl (And.intro rfl (And.intro rfl (And.intro rfl (And.intro rfl trivial))))) ?_
          exact ok_Laws_balance_j53_13 hLaws h hr
        · rw [if_neg c8] at h
          refine w_icmp_ne_t (q := 62) d_Laws_balance_50 rfl c8 ?_
          refine w_iinc (q := 65) (ls' := [some (.ref lw), some (.int k1), some (.int k2), some (.int s.1), some (.int (s.2 + 1))]) d_Laws_balance_62 rfl (by decide) rfl rfl rfl ?_
          refine w_goto (q := 13) d_Laws_balance_65 rfl ?_
          cases h
          exact w_ls (by exact (And.intro rfl (And.intro rfl (And.intro rfl (And.intro rfl (And.intro rfl trivial)))))) hr
def sp_Laws_balance (F : Nat) (lw : Nat) (ha : Nat) (ro : Nat) (p0 : Int32) (g : Mem) : Option (Int32) := (sp_Hair_recordsThere F ha ro g).bind fun v1 => (lpO (st_Laws_balance_13 F lw ha ro p0 g p0 v1) F (0, 0)).bind fun x9 => some x9
theorem ok_Laws_balance {γ : GG} {sh : List Sh} {tt : Bool} {F : Nat} {lw : Nat} {ha : Nat} {ro : Nat} {p0 : Int32} {g : Mem} (hLaws : isLaws sh lw ha ro) {res : Int32} (h : sp_Laws_balance F lw ha ro p0 g = some res) : CA γ M_Laws_balance 3 [.ref lw, .int p0] sh g tt (0, 0) (pI sh res g tt) := by
  refine CA.of mw_Laws_balance.1 3 rfl ?_
  show WA γ M_Laws_balance 3 0 [some (.ref lw), some (.int p0), none, none, none] [] sh g tt (0, 0) (pI sh res g tt)
  unfold sp_Laws_balance at h
  refine w_aload_n (q := 1) d_Laws_balance_0 rfl rfl ?_
  refine w_get (q := 4) (ci := 5) (j := 0) d_Laws_balance_1 rfl (by decide) fl_Laws_9 (by decide) hLaws.2.1 hLaws.1 rfl rfl ?_
  obtain ⟨v1, hv, h⟩ := bnd h
  refine w_callVi (q := 7) (M' := M_Hair_recordsThere) (n' := 2) (k := ha) (As := []) (sh' := sh) (b1 := (0, 0)) d_Laws_balance_4 rfl mw_Hair_recordsThere (by decide) (by decide) ml_Laws_57 hLaws.2.2.2.1 hLaws.2.2.1 (by decide) rfl rfl rfl (leb rfl) (bz _) (fun _ => rfl) (ok_Hair_recordsThere hLaws.2.2 hv) ?_
  refine w_istore_n (q := 8) (ls' := [some (.ref lw), some (.int p0), some (.int v1), none, none]) d_Laws_balance_7 rfl (by decide) rfl rfl ?_
  refine w_iconst (q := 9) (v := 0) d_Laws_balance_8 rfl (by decide) ?_
  refine w_istore_n (q := 10) (ls' := [some (.ref lw), some (.int p0), some (.int v1), some (.int 0), none]) d_Laws_balance_9 rfl (by decide) rfl rfl ?_
  refine w_iconst (q := 11) (v := 0) d_Laws_balance_10 rfl (by decide) ?_
  refine w_istore (q := 13) (ls' := [some (.ref lw), some (.int p0), some (.int v1), some (.int 0), some (.int 0)]) d_Laws_balance_11 rfl (by decide) rfl rfl ?_
  obtain ⟨x9, hx, h⟩ := bnd h
  refine w_ls (ls' := [some (.ref lw), some (.int p0), some (.int v1), some (.int 0), some (.int 0)]) (And.intro rfl (And.intro rfl (And.intro rfl (And.intro rfl (And.intro rfl trivial))))) ?_
  show PL_Laws_balance_13 γ sh tt lw ha ro p0 g p0 v1 _ _ (0, 0)
  refine lp_ok (kl_Laws_balance_13 hLaws) F _ x9 hx ?_
  unfold QL_Laws_balance_13
  refine w_iload_n (q := 69) d_Laws_balance_68 rfl rfl ?_
  cases h
  exact w_ireturn d_Laws_balance_69 rfl rfl ⟨rfl, rfl, rfl, rfl⟩
def PL_Laws_earliest_5 (γ : GG) (sh : List Sh) (tt : Bool) (lw : Nat) (ha : Nat) (ro : Nat) (p0 : Int32) (p1 : Int32) (g : Mem) (k1 : Int32) (k2 : Int32) (b : Nat × Nat) (Φ : PO) (s : Int32 × Int32) : Prop := WA γ M_Laws_earliest 3 5 [some (.ref lw), some (.int k1), some (.int k2), some (.int s.1), some (.int s.2)] [] sh g tt b Φ
def QL_Laws_earliest_5 (γ : GG) (sh : List Sh) (tt : Bool) (lw : Nat) (ha : Nat) (ro : Nat) (p0 : Int32) (p1 : Int32) (g : Mem) (k1 : Int32) (k2 : Int32) (b : Nat × Nat) (Φ : PO) (x : (Int32)) : Prop := WA γ M_Laws_earliest 3 64 [none, none, none, some (.int x), none] [] sh g tt b Φ
def st_Laws_earliest_5 (F : Nat) (lw : Nat) (ha : Nat) (ro : Nat) (p0 : Int32) (p1 : Int32) (g : Mem) (k1 : Int32) (k2 : Int32) (s : Int32 × Int32) : Option ((Int32 × Int32) ⊕ ((Int32))) := if (g ha 4) ≤ s.2 then some (.inr s.1) else (sp_Laws_isThereOf lw ha ro s.2 k1 k2 g).bind fun v2 => if v2 = 0 then some (.inl (s.1, s.2 + 1)) else if s.1 = (-1) then some (.inl (s.2, s.2 + 1)) else (sp_Roll_cell ro s.2 2 g).bind fun v5 => (sp_Roll_cell ro s.1 2 g).bind fun v6 => if v6 ≤ v5 then some (.inl (s.1, s.2 + 1)) else some (.inl (s.2, s.2 + 1))
theorem kl_Laws_earliest_5 {γ : GG} {sh : List Sh} {tt : Bool} {F : Nat} {lw : Nat} {ha : Nat} {ro : Nat} {p0 : Int32} {p1 : Int32} {g : Mem} {k1 : Int32} {k2 : Int32} {b : Nat × Nat} {Φ : PO} (hLaws : isLaws sh lw ha ro) : ∀ (s : Int32 × Int32) (r : (Int32 × Int32) ⊕ ((Int32))), st_Laws_earliest_5 F lw ha ro p0 p1 g k1 k2 s = some r → RQ (PL_Laws_earliest_5 γ sh tt lw ha ro p0 p1 g k1 k2 b Φ) (QL_Laws_earliest_5 γ sh tt lw ha ro p0 p1 g k1 k2 b Φ) r → PL_Laws_earliest_5 γ sh tt lw ha ro p0 p1 g k1 k2 b Φ s := by
  intro s r h hr
  unfold st_Laws_earliest_5 at h
  unfold PL_Laws_earliest_5
  refine w_iload (q := 7) d_Laws_earliest_5 rfl rfl ?_
  refine w_aload_n (q := 8) d_Laws_earliest_7 rfl rfl ?_
  refine w_get (q := 11) (ci := 5) (j := 0) d_Laws_earliest_8 rfl (by decide) fl_Laws_9 (by decide) hLaws.2.1 hLaws.1 rfl rfl ?_
  refine w_get (q := 14) (ci := 2) (j := 4) d_Laws_earliest_11 rfl (by decide) fl_Laws_32 (by decide) hLaws.2.2.2.1 hLaws.2.2.1 rfl rfl ?_
  by_cases c1 : (g ha 4) ≤ s.2
  · rw [if_pos c1] at h
    refine w_icmp_ge_t (q := 64) d_Laws_earliest_14 rfl c1 ?_
    cases h
    exact w_ls (by exact (And.intro rfl trivial)) hr
  · rw [if_neg c1] at h
    refine w_icmp_ge_f (q := 17) d_Laws_earliest_14 64 rfl rfl c1 ?_
    refine w_aload_n (q := 18) d_Laws_earliest_17 rfl rfl ?_
    refine w_iload (q := 20) d_Laws_earliest_18 rfl rfl ?_
    refine w_iload_n (q := 21) d_Laws_earliest_20 rfl rfl ?_
    refine w_iload_n (q := 22) d_Laws_earliest_21 rfl rfl ?_
    obtain ⟨v2, hv, h⟩ := bnd h
    refine w_callVi (q := 25) (M' := M_Laws_isThereOf) (n' := 2) (k := lw) (As := [.int s.2, .int k1, .int k2]) (sh' := sh) (b1 := (0, 0)) d_Laws_earliest_22 rfl mw_Laws_isThereOf (by decide) (by decide) ml_Laws_36 hLaws.2.1 hLaws.1 (by decide) rfl rfl rfl (leb rfl) (bz _) (fun _ => rfl) (ok_Laws_isThereOf hLaws hv) ?_
    by_cases c3 : v2 = 0
    · rw [if_pos c3] at h
      refine w_if_eq_t (q := 58) d_Laws_earliest_25 rfl c3 ?_
      refine w_iinc (q := 61) (ls' := [some (.ref lw), some (.int k1), some (.int k2), some (.int s.1), some (.int (s.2 + 1))]) d_Laws_earliest_58 rfl (by decide) rfl rfl rfl ?_
      refine w_goto (q := 5) d_Laws_earliest_61 rfl ?_
      cases h
      exact w_ls (by exact (And.intro rfl (And.intro rfl (And.intro rfl (And.intro rfl (And.intro rfl trivial)))))) hr
    · rw [if_neg c3] at h
      refine w_if_eq_f (q := 28) d_Laws_earliest_25 58 rfl rfl c3 ?_
      refine w_iload_n (q := 29) d_Laws_earliest_28 rfl rfl ?_
      refine w_iconst (q := 30) (v := (-1)) d_Laws_earliest_29 rfl (by decide) ?_
      by_cases c4 : s.1 = (-1)
      · rw [if_pos c4] at h
        refine w_icmp_eq_t (q := 55) d_Laws_earliest_30 rfl c4 ?_
        refine w_iload (q := 57) d_Laws_earliest_55 rfl rfl ?_
        refine w_istore_n (q := 58) (ls' := [some (.ref lw), some (.int k1), some (.int k2), some (.int s.2), some (.int s.2)]) d_Laws_earliest_57 rfl (by decide) rfl rfl ?_
        refine w_iinc (q := 61) (ls' := [some (.ref lw), some (.int k1), some (.int k2), some (.int s.2), some (.int (s.2 + 1))]) d_Laws_earliest_58 rfl (by decide) rfl rfl rfl ?_
        refine w_goto (q := 5) d_Laws_earliest_61 rfl ?_
        cases h
        exact w_ls (by exact (And.intro rfl (And.intro rfl (And.intro rfl (And.intro rfl (And.intro rfl trivial)))))) hr
      · rw [if_neg c4] at h
        refine w_icmp_eq_f (q := 33) d_Laws_earliest_30 55 rfl rfl c4 ?_
        refine w_aload_n (q := 34) d_Laws_earliest_33 rfl rfl ?_
        refine w_get (q := 37) (ci := 5) (j := 1) d_Laws_earliest_34 rfl (by decide) fl_Laws_21 (by decide) hLaws.2.1 hLaws.1 rfl rfl ?_
        refine w_iload (q := 39) d_Laws_earliest_37 rfl rfl ?_
        refine w_iconst (q := 40) (v := 2) d_Laws_earliest_39 rfl (by decide) ?_
        obtain ⟨v5, hv, h⟩ := bnd h
        refine w_callVi (q := 43) (M' := M_Roll_cell) (n' := 0) (k := ro) (As := [.int s.2, .int 2]) (sh' := sh) (b1 := (0, 0)) d_Laws_earliest_40 rfl mw_Roll_cell (by decide) (by decide) ml_Laws_26 hLaws.2.2.2.2.2.2.2.1 hLaws.2.2.2.2.2.2.1 (by decide) rfl rfl rfl (leb rfl) (bz _) (fun _ => rfl) (ok_Roll_cell hLaws.2.2.2.2.2.2 hv) ?_
        refine w_aload_n (q := 44) d_Laws_earliest_43 rfl rfl ?_
        refine w_get (q := 47) (ci := 5) (j := 1) d_Laws_earliest_44 rfl (by decide) fl_Laws_21 (by decide) hLaws.2.1 hLaws.1 rfl rfl ?_
        refine w_iload_n (q := 48) d_Laws_earliest_47 rfl rfl ?_
        refine w_iconst (q := 49) (v := 2) d_Laws_earliest_48 rfl (by decide) ?_
        obtain ⟨v6, hv, h⟩ := bnd h
        refine w_callVi (q := 52) (M' := M_Roll_cell) (n' := 0) (k := ro) (As := [.int s.1, .int 2]) (sh' := sh) (b1 := (0, 0)) d_Laws_earliest_49 rfl mw_Roll_cell (by decide) (by decide) ml_Laws_26 hLaws.2.2.2.2.2.2.2.1 hLaws.2.2.2.2.2.2.1 (by decide) rfl rfl rfl (leb rfl) (bz _) (fun _ => rfl) (ok_Roll_cell hLaws.2.2.2.2.2.2 hv) ?_
        by_cases c7 : v6 ≤ v5
        · rw [if_pos c7] at h
          refine w_icmp_ge_t (q := 58) d_Laws_earliest_52 rfl c7 ?_
          refine w_iinc (q := 61) (ls' := [some (.ref lw), some (.int k1), some (.int k2), some (.int s.1), some (.int (s.2 + 1))]) d_Laws_earliest_58 rfl (by decide) rfl rfl rfl ?_
          refine w_goto (q := 5) d_Laws_earliest_61 rfl ?_
          cases h
          exact w_ls (by exact (And.intro rfl (And.intro rfl (And.intro rfl (And.intro rfl (And.intro rfl trivial)))))) hr
        · rw [if_neg c7] at h
          refine w_icmp_ge_f (q := 55) d_Laws_earliest_52 58 rfl rfl c7 ?_
          refine w_iload (q := 57) d_Laws_earliest_55 rfl rfl ?_
          refine w_istore_n (q := 58) (ls' := [some (.ref lw), some (.int k1), some (.int k2), some (.int s.2), some (.int s.2)]) d_Laws_earliest_57 rfl (by decide) rfl rfl ?_
          refine w_iinc (q := 61) (ls' := [some (.ref lw), some (.int k1), some (.int k2), some (.int s.2), some (.int (s.2 + 1))]) d_Laws_earliest_58 rfl (by decide) rfl rfl rfl ?_
          refine w_goto (q := 5) d_Laws_earliest_61 rfl ?_
          cases h
          exact w_ls (by exact (And.intro rfl (And.intro rfl (And.intro rfl (And.intro rfl (And.intro rfl trivial)))))) hr
def sp_Laws_earliest (F : Nat) (lw : Nat) (ha : Nat) (ro : Nat) (p0 : Int32) (p1 : Int32) (g : Mem) : Option (Int32) := (lpO (st_Laws_earliest_5 F lw ha ro p0 p1 g p0 p1) F ((-1), 0)).bind fun x8 => some x8
theorem ok_Laws_earliest {γ : GG} {sh : List Sh} {tt : Bool} {F : Nat} {lw : Nat} {ha : Nat} {ro : Nat} {p0 : Int32} {p1 : Int32} {g : Mem} (hLaws : isLaws sh lw ha ro) {res : Int32} (h : sp_Laws_earliest F lw ha ro p0 p1 g = some res) : CA γ M_Laws_earliest 3 [.ref lw, .int p0, .int p1] sh g tt (0, 0) (pI sh res g tt) := by
  refine CA.of mw_Laws_earliest.1 2 rfl ?_
  show WA γ M_Laws_earliest 3 0 [some (.ref lw), some (.int p0), some (.int p1), none, none] [] sh g tt (0, 0) (pI sh res g tt)
  unfold sp_Laws_earliest at h
  refine w_iconst (q := 1) (v := (-1)) d_Laws_earliest_0 rfl (by decide) ?_
  refine w_istore_n (q := 2) (ls' := [some (.ref lw), some (.int p0), some (.int p1), some (.int ((-1))), none]) d_Laws_earliest_1 rfl (by decide) rfl rfl ?_
  refine w_iconst (q := 3) (v := 0) d_Laws_earliest_2 rfl (by decide) ?_
  refine w_istore (q := 5) (ls' := [some (.ref lw), some (.int p0), some (.int p1), some (.int ((-1))), some (.int 0)]) d_Laws_earliest_3 rfl (by decide) rfl rfl ?_
  obtain ⟨x8, hx, h⟩ := bnd h
  refine w_ls (ls' := [some (.ref lw), some (.int p0), some (.int p1), some (.int ((-1))), some (.int 0)]) (And.intro rfl (And.intro rfl (And.intro rfl (And.intro rfl (And.intro rfl trivial))))) ?_
  show PL_Laws_earliest_5 γ sh tt lw ha ro p0 p1 g p0 p1 _ _ ((-1), 0)
  refine lp_ok (kl_Laws_earliest_5 hLaws) F _ x8 hx ?_
  unfold QL_Laws_earliest_5
  refine w_iload_n (q := 65) d_Laws_earliest_64 rfl rfl ?_
  cases h
  exact w_ireturn d_Laws_earliest_65 rfl rfl ⟨rfl, rfl, rfl, rfl⟩
def PL_Laws_monksSaying_5 (γ : GG) (sh : List Sh) (tt : Bool) (lw : Nat) (ha : Nat) (ro : Nat) (p0 : Int32) (p1 : Int32) (g : Mem) (k1 : Int32) (k2 : Int32) (b : Nat × Nat) (Φ : PO) (s : Int32 × Int32) : Prop := WA γ M_Laws_monksSaying 3 5 [some (.ref lw), some (.int k1), some (.int k2), some (.int s.1), some (.int s.2)] [] sh g tt b Φ
def QL_Laws_monksSaying_5 (γ : GG) (sh : List Sh) (tt : Bool) (lw : Nat) (ha : Nat) (ro : Nat) (p0 : Int32) (p1 : Int32) (g : Mem) (k1 : Int32) (k2 : Int32) (b : Nat × Nat) (Φ : PO) (x : (Int32)) : Prop := WA γ M_Laws_monksSaying 3 63 [none, none, none, some (.int x), none] [] sh g tt b Φ
def st_Laws_monksSaying_5 (F : Nat) (lw : Nat) (ha : Nat) (ro : Nat) (p0 : Int32) (p1 : Int32) (g : Mem) (k1 : Int32) (k2 : Int32) (s : Int32 × Int32) : Option ((Int32 × Int32) ⊕ ((Int32))) := if (g ha 4) ≤ s.2 then some (.inr s.1) else (sp_Laws_isThereOf lw ha ro s.2 0 k1 g).bind fun v2 => if v2 = 0 then some (.inl (s.1, s.2 + 1)) else (sp_Roll_cell ro s.2 4 g).bind fun v4 => if v4 = k2 then (sp_Roll_cell ro s.2 1 g).bind fun v6 => some (.inl (s.1 ||| (1 <<< (v6 &&& 31)), s.2 + 1)) else some (.inl (s.1, s.2 + 1))
theorem kl_Laws_monksSaying_5 {γ : GG} {sh : List Sh} {tt : Bool} {F : Nat} {lw : Nat} {ha : Nat} {ro : Nat} {p0 : Int32} {p1 : Int32} {g : Mem} {k1 : Int32} {k2 : Int32} {b : Nat × Nat} {Φ : PO} (hLaws : isLaws sh lw ha ro) : ∀ (s : Int32 × Int32) (r : (Int32 × Int32) ⊕ ((Int32))), st_Laws_monksSaying_5 F lw ha ro p0 p1 g k1 k2 s = some r → RQ (PL_Laws_monksSaying_5 γ sh tt lw ha ro p0 p1 g k1 k2 b Φ) (QL_Laws_monksSaying_5 γ sh tt lw ha ro p0 p1 g k1 k2 b Φ) r → PL_Laws_monksSaying_5 γ sh tt lw ha ro p0 p1 g k1 k2 b Φ s := by
  intro s r h hr
  unfold st_Laws_monksSaying_5 at h
  unfold PL_Laws_monksSaying_5
  refine w_iload (q := 7) d_Laws_monksSaying_5 rfl rfl ?_
  refine w_aload_n (q := 8) d_Laws_monksSaying_7 rfl rfl ?_
  refine w_get (q := 11) (ci := 5) (j := 0) d_Laws_monksSaying_8 rfl (by decide) fl_Laws_9 (by decide) hLaws.2.1 hLaws.1 rfl rfl ?_
  refine w_get (q := 14) (ci := 2) (j := 4) d_Laws_monksSaying_11 rfl (by decide) fl_Laws_32 (by decide) hLaws.2.2.2.1 hLaws.2.2.1 rfl rfl ?_
  by_cases c1 : (g ha 4) ≤ s.2
  · rw [if_pos c1] at h
    refine w_icmp_ge_t (q := 63) d_Laws_monksSaying_14 rfl c1 ?_
    cases h
    exact w_ls (by exact (And.intro rfl trivial)) hr
  · rw [if_neg c1] at h
    refine w_icmp_ge_f (q := 17) d_Laws_monksSaying_14 63 rfl rfl c1 ?_
    refine w_aload_n (q := 18) d_Laws_monksSaying_17 rfl rfl ?_
    refine w_iload (q := 20) d_Laws_monksSaying_18 rfl rfl ?_
    refine w_iconst (q := 21) (v := 0) d_Laws_monksSaying_20 rfl (by decide) ?_
    refine w_iload_n (q := 22) d_Laws_monksSaying_21 rfl rfl ?_
    obtain ⟨v2, hv, h⟩ := bnd h
    refine w_callVi (q := 25) (M' := M_Laws_isThereOf) (n' := 2) (k := lw) (As := [.int s.2, .int 0, .int k1]) (sh' := sh) (b1 := (0, 0)) d_Laws_monksSaying_22 rfl mw_Laws_isThereOf (by decide) (by decide) ml_Laws_36 hLaws.2.1 hLaws.1 (by decide) rfl rfl rfl (leb rfl) (bz _) (fun _ => rfl) (ok_Laws_isThereOf hLaws hv) ?_
    by_cases c3 : v2 = 0
    · rw [if_pos c3] at h
      refine w_if_eq_t (q := 57) d_Laws_monksSaying_25 rfl c3 ?_
      refine w_iinc (q := 60) (ls' := [some (.ref lw), some (.int k1), some (.int k2), some (.int s.1), some (.int (s.2 + 1))]) d_Laws_monksSaying_57 rfl (by decide) rfl rfl rfl ?_
      refine w_goto (q := 5) d_Laws_monksSaying_60 rfl ?_
      cases h
      exact w_ls (by exact (And.intro rfl (And.intro rfl (And.intro rfl (And.intro rfl (And.intro rfl trivial)))))) hr
    · rw [if_neg c3] at h
      refine w_if_eq_f (q := 28) d_Laws_monksSaying_25 57 rfl rfl c3 ?_
      refine w_aload_n (q := 29) d_Laws_monksSaying_28 rfl rfl ?_
      refine w_get (q := 32) (ci := 5) (j := 1) d_Laws_monksSaying_29 rfl (by decide) fl_Laws_21 (by decide) hLaws.2.1 hLaws.1 rfl rfl ?_
      refine w_iload (q := 34) d_Laws_monksSaying_32 rfl rfl ?_
      refine w_iconst (q := 35) (v := 4) d_Laws_monksSaying_34 rfl (by decide) ?_
      obtain ⟨v4, hv, h⟩ := bnd h
      refine w_callVi (q := 38) (M' := M_Roll_cell) (n' := 0) (k := ro) (As := [.int s.2, .int 4]) (sh' := sh) (b1 := (0, 0)) d_Laws_monksSaying_35 rfl mw_Roll_cell (by decide) (by decide) ml_Laws_26 hLaws.2.2.2.2.2.2.2.1 hLaws.2.2.2.2.2.2.1 (by decide) rfl rfl rfl (leb rfl) (bz _) (fun _ => rfl) (ok_Roll_cell hLaws.2.2.2.2.2.2 hv) ?_
      refine w_iload_n (q := 39) d_Laws_monksSaying_38 rfl rfl ?_
      by_cases c5 : v4 = k2
      · rw [if_pos c5] at h
        refine w_icmp_ne_f (q := 42) d_Laws_monksSaying_39 57 rfl rfl c5 ?_
        refine w_iload_n (q := 43) d_Laws_monksSaying_42 rfl rfl ?_
        refine w_iconst (q := 44) (v := 1) d_Laws_monksSaying_43 rfl (by decide) ?_
        refine w_aload_n (q := 45) d_Laws_monksSaying_44 rfl rfl ?_
        refine w_get (q := 48) (ci := 5) (j := 1) d_Laws_monksSaying_45 rfl (by decide) fl_Laws_21 (by decide) hLaws.2.1 hLaws.1 rfl rfl ?_
        refine w_iload (q := 50) d_Laws_monksSaying_48 rfl rfl ?_
        refine w_iconst (q := 51) (v := 1) d_Laws_monksSaying_50 rfl (by decide) ?_
        obtain ⟨v6, hv, h⟩ := bnd h
        refine w_callVi (q := 54) (M' := M_Roll_cell) (n' := 0) (k := ro) (As := [.int s.2, .int 1]) (sh' := sh) (b1 := (0, 0)) d_Laws_monksSaying_51 rfl mw_Roll_cell (by decide) (by decide) ml_Laws_26 hLaws.2.2.2.2.2.2.2.1 hLaws.2.2.2.2.2.2.1 (by decide) rfl rfl rfl (leb rfl) (bz _) (fun _ => rfl) (ok_Roll_cell hLaws.2.2.2.2.2.2 hv) ?_
        refine w_ishl (q := 55) d_Laws_monksSaying_54 rfl ?_
        refine w_ior (q := 56) d_Laws_monksSaying_55 rfl ?_
        refine w_istore_n (q := 57) (ls' := [some (.ref lw), some (.int k1), some (.int k2), some (.int (s.1 ||| (1 <<< (v6 &&& 31)))), some (.int s.2)]) d_Laws_monksSaying_56 rfl (by decide) rfl rfl ?_
        refine w_iinc (q := 60) (ls' := [some (.ref lw), some (.int k1), some (.int k2), some (.int (s.1 ||| (1 <<< (v6 &&& 31)))), some (.int (s.2 + 1))]) d_Laws_monksSaying_57 rfl (by decide) rfl rfl rfl ?_
        refine w_goto (q := 5) d_Laws_monksSaying_60 rfl ?_
        cases h
        exact w_ls (by exact (And.intro rfl (And.intro rfl (And.intro rfl (And.intro rfl (And.intro rfl trivial)))))) hr
      · rw [if_neg c5] at h
        refine w_icmp_ne_t (q := 57) d_Laws_monksSaying_39 rfl c5 ?_
        refine w_iinc (q := 60) (ls' := [some (.ref lw), some (.int k1), some (.int k2), some (.int s.1), some (.int (s.2 + 1))]) d_Laws_monksSaying_57 rfl (by decide) rfl rfl rfl ?_
        refine w_goto (q := 5) d_Laws_monksSaying_60 rfl ?_
        cases h
        exact w_ls (by exact (And.intro rfl (And.intro rfl (And.intro rfl (And.intro rfl (And.intro rfl trivial)))))) hr
def sp_Laws_monksSaying (F : Nat) (lw : Nat) (ha : Nat) (ro : Nat) (p0 : Int32) (p1 : Int32) (g : Mem) : Option (Int32) := (lpO (st_Laws_monksSaying_5 F lw ha ro p0 p1 g p0 p1) F (0, 0)).bind fun x7 => some x7
theorem ok_Laws_monksSaying {γ : GG} {sh : List Sh} {tt : Bool} {F : Nat} {lw : Nat} {ha : Nat} {ro : Nat} {p0 : Int32} {p1 : Int32} {g : Mem} (hLaws : isLaws sh lw ha ro) {res : Int32} (h : sp_Laws_monksSaying F lw ha ro p0 p1 g = some res) : CA γ M_Laws_monksSaying 3 [.ref lw, .int p0, .int p1] sh g tt (0, 0) (pI sh res g tt) := by
  refine CA.of mw_Laws_monksSaying.1 2 rfl ?_
  show WA γ M_Laws_monksSaying 3 0 [some (.ref lw), some (.int p0), some (.int p1), none, none] [] sh g tt (0, 0) (pI sh res g tt)
  unfold sp_Laws_monksSaying at h
  refine w_iconst (q := 1) (v := 0) d_Laws_monksSaying_0 rfl (by decide) ?_
  refine w_istore_n (q := 2) (ls' := [some (.ref lw), some (.int p0), some (.int p1), some (.int 0), none]) d_Laws_monksSaying_1 rfl (by decide) rfl rfl ?_
  refine w_iconst (q := 3) (v := 0) d_Laws_monksSaying_2 rfl (by decide) ?_
  refine w_istore (q := 5) (ls' := [some (.ref lw), some (.int p0), some (.int p1), some (.int 0), some (.int 0)]) d_Laws_monksSaying_3 rfl (by decide) rfl rfl ?_
  obtain ⟨x7, hx, h⟩ := bnd h
  refine w_ls (ls' := [some (.ref lw), some (.int p0), some (.int p1), some (.int 0), some (.int 0)]) (And.intro rfl (And.intro rfl (And.intro rfl (And.intro rfl (And.intro rfl trivial))))) ?_
  show PL_Laws_monksSaying_5 γ sh tt lw ha ro p0 p1 g p0 p1 _ _ (0, 0)
  refine lp_ok (kl_Laws_monksSaying_5 hLaws) F _ x7 hx ?_
  unfold QL_Laws_monksSaying_5
  refine w_iload_n (q := 64) d_Laws_monksSaying_63 rfl rfl ?_
  cases h
  exact w_ireturn d_Laws_monksSaying_64 rfl rfl ⟨rfl, rfl, rfl, rfl⟩
def PL_Laws_mostHeld_7 (γ : GG) (sh : List Sh) (tt : Bool) (lw : Nat) (ha : Nat) (ro : Nat) (p0 : Int32) (g : Mem) (k1 : Int32) (b : Nat × Nat) (Φ : PO) (s : Int32 × Int32 × Int32) : Prop := WA γ M_Laws_mostHeld 4 7 [some (.ref lw), some (.int k1), some (.int s.1), some (.int s.2.1), some (.int s.2.2), none, none] [] sh g tt b Φ
def QL_Laws_mostHeld_7 (γ : GG) (sh : List Sh) (tt : Bool) (lw : Nat) (ha : Nat) (ro : Nat) (p0 : Int32) (g : Mem) (k1 : Int32) (b : Nat × Nat) (Φ : PO) (x : (Int32)) : Prop := WA γ M_Laws_mostHeld 4 84 [none, none, some (.int x), none, none, none, none] [] sh g tt b Φ
def st_Laws_mostHeld_7 (F : Nat) (lw : Nat) (ha : Nat) (ro : Nat) (p0 : Int32) (g : Mem) (k1 : Int32) (s : Int32 × Int32 × Int32) : Option ((Int32 × Int32 × Int32) ⊕ ((Int32))) := if (g ha 4) ≤ s.2.2 then some (.inr s.1) else (sp_Laws_isThereOf lw ha ro s.2.2 0 k1 g).bind fun v2 => if v2 = 0 then some (.inl (s.1, s.2.1, s.2.2 + 1)) else (sp_Roll_cell ro s.2.2 4 g).bind fun v4 => (sp_Laws_monksSaying F lw ha ro k1 v4 g).bind fun v5 => (sp_JInteger_bitCount v5 g).bind fun v6 => if s.2.1 < v6 then some (.inl (v4, v6, s.2.2 + 1)) else if v6 = s.2.1 then if s.1 ≤ v4 then some (.inl (s.1, s.2.1, s.2.2 + 1)) else some (.inl (v4, v6, s.2.2 + 1)) else some (.inl (s.1, s.2.1, s.2.2 + 1))
theorem kl_Laws_mostHeld_7 {γ : GG} {sh : List Sh} {tt : Bool} {F : Nat} {lw : Nat} {ha : Nat} {ro : Nat} {p0 : Int32} {g : Mem} {k1 : Int32} {b : Nat × Nat} {Φ : PO} (hLaws : isLaws sh lw ha ro) : ∀ (s : Int32 × Int32 × Int32) (r : (Int32 × Int32 × Int32) ⊕ ((Int32))), st_Laws_mostHeld_7 F lw ha ro p0 g k1 s = some r → RQ (PL_Laws_mostHeld_7 γ sh tt lw ha ro p0 g k1 b Φ) (QL_Laws_mostHeld_7 γ sh tt lw ha ro p0 g k1 b Φ) r → PL_Laws_mostHeld_7 γ sh tt lw ha ro p0 g k1 b Φ s := by
  intro s r h hr
  unfold st_Laws_mostHeld_7 at h
  unfold PL_Laws_mostHeld_7
  refine w_iload (q := 9) d_Laws_mostHeld_7 rfl rfl ?_
  refine w_aload_n (q := 10) d_Laws_mostHeld_9 rfl rfl ?_
  refine w_get (q := 13) (ci := 5) (j := 0) d_Laws_mostHeld_10 rfl (by decide) fl_Laws_9 (by decide) hLaws.2.1 hLaws.1 rfl rfl ?_
  refine w_get (q := 16) (ci := 2) (j := 4) d_Laws_mostHeld_13 rfl (by decide) fl_Laws_32 (by decide) hLaws.2.2.2.1 hLaws.2.2.1 rfl rfl ?_
  by_cases c1 : (g ha 4) ≤ s.2.2
  · rw [if_pos c1] at h
    refine w_icmp_ge_t (q := 84) d_Laws_mostHeld_16 rfl c1 ?_
    cases h
    exact w_ls (by exact (And.intro rfl trivial)) hr
  · rw [if_neg c1] at h
    refine w_icmp_ge_f (q := 19) d_Laws_mostHeld_16 84 rfl rfl c1 ?_
    refine w_aload_n (q := 20) d_Laws_mostHeld_19 rfl rfl ?_
    refine w_iload (q := 22) d_Laws_mostHeld_20 rfl rfl ?_
    refine w_iconst (q := 23) (v := 0) d_Laws_mostHeld_22 rfl (by decide) ?_
    refine w_iload_n (q := 24) d_Laws_mostHeld_23 rfl rfl ?_
    obtain ⟨v2, hv, h⟩ := bnd h
    refine w_callVi (q := 27) (M' := M_Laws_isThereOf) (n' := 2) (k := lw) (As := [.int s.2.2, .int 0, .int k1]) (sh' := sh) (b1 := (0, 0)) d_Laws_mostHeld_24 rfl mw_Laws_isThereOf (by decide) (by decide) ml_Laws_36 hLaws.2.1 hLaws.1 (by decide) rfl rfl rfl (leb rfl) (bz _) (fun _ => rfl) (ok_Laws_isThereOf hLaws hv) ?_
    by_cases c3 : v2 = 0
    · rw [if_pos c3] at h
      refine w_if_eq_t (q := 78) d_Laws_mostHeld_27 rfl c3 ?_
      refine w_iinc (q := 81) (ls' := [some (.ref lw), some (.int k1), some (.int s.1), some (.int s.2.1), some (.int (s.2.2 + 1)), none, none]) d_Laws_mostHeld_78 rfl (by decide) rfl rfl rfl ?_
      refine w_goto (q := 7) d_Laws_mostHeld_81 rfl ?_
      cases h
      exact w_ls (by exact (And.intro rfl (And.intro rfl (And.intro rfl (And.intro rfl (And.intro rfl trivial)))))) hr
    · rw [if_neg c3] at h
      refine w_if_eq_f (q := 30) d_Laws_mostHeld_27 78 rfl rfl c3 ?_
      refine w_aload_n (q := 31) d_Laws_mostHeld_30 rfl rfl ?_
      refine w_get (q := 34) (ci := 5) (j := 1) d_Laws_mostHeld_31 rfl (by decide) fl_Laws_21 (by decide) hLaws.2.1 hLaws.1 rfl rfl ?_
      refine w_iload (q := 36) d_Laws_mostHeld_34 rfl rfl ?_
      refine w_iconst (q := 37) (v := 4) d_Laws_mostHeld_36 rfl (by decide) ?_
      obtain ⟨v4, hv, h⟩ := bnd h
      refine w_callVi (q := 40) (M' := M_Roll_cell) (n' := 0) (k := ro) (As := [.int s.2.2, .int 4]) (sh' := sh) (b1 := (0, 0)) d_Laws_mostHeld_37 rfl mw_Roll_cell (by decide) (by decide) ml_Laws_26 hLaws.2.2.2.2.2.2.2.1 hLaws.2.2.2.2.2.2.1 (by decide) rfl rfl rfl (leb rfl) (bz _) (fun _ => rfl) (ok_Roll_cell hLaws.2.2.2.2.2.2 hv) ?_
      refine w_istore (q := 42) (ls' := [some (.ref lw), some (.int k1), some (.int s.1), some (.int s.2.1), some (.int s.2.2), some (.int v4), none]) d_Laws_mostHeld_40 rfl (by decide) rfl rfl ?_
      refine w_aload_n (q := 43) d_Laws_mostHeld_42 rfl rfl ?_
      refine w_iload_n (q := 44) d_Laws_mostHeld_43 rfl rfl ?_
      refine w_iload (q := 46) d_Laws_mostHeld_44 rfl rfl ?_
      obtain ⟨v5, hv, h⟩ := bnd h
      refine w_callVi (q := 49) (M' := M_Laws_monksSaying) (n' := 3) (k := lw) (As := [.int k1, .int v4]) (sh' := sh) (b1 := (0, 0)) d_Laws_mostHeld_46 rfl mw_Laws_monksSaying (by decide) (by decide) ml_Laws_64 hLaws.2.1 hLaws.1 (by decide) rfl rfl rfl (leb rfl) (bz _) (fun _ => rfl) (ok_Laws_monksSaying hLaws hv) ?_
      obtain ⟨v6, hv, h⟩ := bnd h
      refine w_callSi (q := 52) (M' := M_JInteger_bitCount) (n' := 0) (As := [.int v5]) (sh' := sh) (b1 := (0, 0)) d_Laws_mostHeld_49 rfl mw_JInteger_bitCount (by decide) (by decide) ml_Laws_67 rfl rfl (leb rfl) (bz _) (fun _ => rfl) (ok_JInteger_bitCount hv) ?_
      refine w_istore (q := 54) (ls' := [some (.ref lw), some (.int k1), some (.int s.1), some (.int s.2.1), some (.int s.2.2), some (.int v4), some (.int v6)]) d_Laws_mostHeld_52 rfl (by decide) rfl rfl ?_
      refine w_iload (q := 56) d_Laws_mostHeld_54 rfl rfl ?_
      refine w_iload_n (q := 57) d_Laws_mostHeld_56 rfl rfl ?_
      by_cases c7 : s.2.1 < v6
      · rw [if_pos c7] at h
        refine w_icmp_gt_t (q := 72) d_Laws_mostHeld_57 rfl c7 ?_
        refine w_iload (q := 74) d_Laws_mostHeld_72 rfl rfl ?_
        refine w_istore_n (q := 75) (ls' := [some (.ref lw), some (.int k1), some (.int v4), some (.int s.2.1), some (.int s.2.2), some (.int v4), some (.int v6)]) d_Laws_mostHeld_74 rfl (by decide) rfl rfl ?_
        refine w_iload (q := 77) d_Laws_mostHeld_75 rfl rfl ?_
        refine w_istore_n (q := 78) (ls' := [some (.ref lw), some (.int k1), some (.int v4), some (.int v6), some (.int s.2.2), some (.int v4), some (.int v6)]) d_Laws_mostHeld_77 rfl (by decide) rfl rfl ?_
        refine w_iinc (q := 81) (ls' := [some (.ref lw), some (.int k1), some (.int v4), some (.int v6), some (.int (s.2.2 + 1)), some (.int v4), some (.int v6)]) d_Laws_mostHeld_78 rfl (by decide) rfl rfl rfl ?_
        refine w_goto (q := 7) d_Laws_mostHeld_81 rfl ?_
        cases h
        exact w_ls (by exact (And.intro rfl (And.intro rfl (And.intro rfl (And.intro rfl (And.intro rfl trivial)))))) hr
      · rw [if_neg c7] at h
        refine w_icmp_gt_f (q := 60) d_Laws_mostHeld_57 72 rfl rfl c7 ?_
        refine w_iload (q := 62) d_Laws_mostHeld_60 rfl rfl ?_
        refine w_iload_n (q := 63) d_Laws_mostHeld_62 rfl rfl ?_
        by_cases c8 : v6 = s.2.1
        · rw [if_pos c8] at h
          refine w_icmp_ne_f (q := 66) d_Laws_mostHeld_63 78 rfl rfl c8 ?_
          refine w_iload (q := 68) d_Laws_mostHeld_66 rfl rfl ?_
          refine w_iload_n (q := 69) d_Laws_mostHeld_68 rfl rfl ?_
          by_cases c9 : s.1 ≤ v4
          · rw [if_pos c9] at h
            refine w_icmp_ge_t (q := 78) d_Laws_mostHeld_69 rfl c9 ?_
            refine w_iinc (q := 81) (ls' := [some (.ref lw), some (.int k1), some (.int s.1), some (.int s.2.1), some (.int (s.2.2 + 1)), some (.int v4), some (.int v6)]) d_Laws_mostHeld_78 rfl (by decide) rfl rfl rfl ?_
            refine w_goto (q := 7) d_Laws_mostHeld_81 rfl ?_
            cases h
            exact w_ls (by exact (And.intro rfl (And.intro rfl (And.intro rfl (And.intro rfl (And.intro rfl trivial)))))) hr
          · rw [if_neg c9] at h
            refine w_icmp_ge_f (q := 72) d_Laws_mostHeld_69 78 rfl rfl c9 ?_
            refine w_iload (q := 74) d_Laws_mostHeld_72 rfl rfl ?_
            refine w_istore_n (q := 75) (ls' := [some (.ref lw), some (.int k1), some (.int v4), some (.int s.2.1), some (.int s.2.2), some (.int v4), some (.int v6)]) d_Laws_mostHeld_74 rfl (by decide) rfl rfl ?_
            refine w_iload (q := 77) d_Laws_mostHeld_75 rfl rfl ?_
            refine w_istore_n (q := 78) (ls' := [some (.ref lw), some (.int k1), some (.int v4), some (.int v6), some (.int s.2.2), some (.int v4), some (.int v6)]) d_Laws_mostHeld_77 rfl (by decide) rfl rfl ?_
            refine w_iinc (q := 81) (ls' := [some (.ref lw), some (.int k1), some (.int v4), some (.int v6), some (.int (s.2.2 + 1)), some (.int v4), some (.int v6)]) d_Laws_mostHeld_78 rfl (by decide) rfl rfl rfl ?_
            refine w_goto (q := 7) d_Laws_mostHeld_81 rfl ?_
            cases h
            exact w_ls (by exact (And.intro rfl (And.intro rfl (And.intro rfl (And.intro rfl (And.intro rfl trivial)))))) hr
        · rw [if_neg c8] at h
          refine w_icmp_ne_t (q := 78) d_Laws_mostHeld_63 rfl c8 ?_
          refine w_iinc (q := 81) (ls' := [some (.ref lw), some (.int k1), some (.int s.1), some (.int s.2.1), some (.int (s.2.2 + 1)), some (.int v4), some (.int v6)]) d_Laws_mostHeld_78 rfl (by decide) rfl rfl rfl ?_
          refine w_goto (q := 7) d_Laws_mostHeld_81 rfl ?_
          cases h
          exact w_ls (by exact (And.intro rfl (And.intro rfl (And.intro rfl (And.intro rfl (And.intro rfl trivial)))))) hr
def sp_Laws_mostHeld (F : Nat) (lw : Nat) (ha : Nat) (ro : Nat) (p0 : Int32) (g : Mem) : Option (Int32) := (lpO (st_Laws_mostHeld_7 F lw ha ro p0 g p0) F ((-1), 0, 0)).bind fun x10 => some x10
theorem ok_Laws_mostHeld {γ : GG} {sh : List Sh} {tt : Bool} {F : Nat} {lw : Nat} {ha : Nat} {ro : Nat} {p0 : Int32} {g : Mem} (hLaws : isLaws sh lw ha ro) {res : Int32} (h : sp_Laws_mostHeld F lw ha ro p0 g = some res) : CA γ M_Laws_mostHeld 4 [.ref lw, .int p0] sh g tt (0, 0) (pI sh res g tt) := by
  refine CA.of mw_Laws_mostHeld.1 5 rfl ?_
  show WA γ M_Laws_mostHeld 4 0 [some (.ref lw), some (.int p0), none, none, none, none, none] [] sh g tt (0, 0) (pI sh res g tt)
  unfold sp_Laws_mostHeld at h
  refine w_iconst (q := 1) (v := (-1)) d_Laws_mostHeld_0 rfl (by decide) ?_
  refine w_istore_n (q := 2) (ls' := [some (.ref lw), some (.int p0), some (.int ((-1))), none, none, none, none]) d_Laws_mostHeld_1 rfl (by decide) rfl rfl ?_
  refine w_iconst (q := 3) (v := 0) d_Laws_mostHeld_2 rfl (by decide) ?_
  refine w_istore_n (q := 4) (ls' := [some (.ref lw), some (.int p0), some (.int ((-1))), some (.int 0), none, none, none]) d_Laws_mostHeld_3 rfl (by decide) rfl rfl ?_
  refine w_iconst (q := 5) (v := 0) d_Laws_mostHeld_4 rfl (by decide) ?_
  refine w_istore (q := 7) (ls' := [some (.ref lw), some (.int p0), some (.int ((-1))), some (.int 0), some (.int 0), none, none]) d_Laws_mostHeld_5 rfl (by decide) rfl rfl ?_
  obtain ⟨x10, hx, h⟩ := bnd h
  refine w_ls (ls' := [some (.ref lw), some (.int p0), some (.int ((-1))), some (.int 0), some (.int 0), none, none]) (And.intro rfl (And.intro rfl (And.intro rfl (And.intro rfl (And.intro rfl trivial))))) ?_
  show PL_Laws_mostHeld_7 γ sh tt lw ha ro p0 g p0 _ _ ((-1), 0, 0)
  refine lp_ok (kl_Laws_mostHeld_7 hLaws) F _ x10 hx ?_
  unfold QL_Laws_mostHeld_7
  refine w_iload_n (q := 85) d_Laws_mostHeld_84 rfl rfl ?_
  cases h
  exact w_ireturn d_Laws_mostHeld_85 rfl rfl ⟨rfl, rfl, rfl, rfl⟩
def sp_Season_draw (p0 : Int32) (g : Mem) : Option (Int32 × Mem) := if p0 ≤ 0 then some (0, (mset g 49 2 (((g 49 2) * 1103515245) + 12345))) else (rm ((ush ((mset g 49 2 (((g 49 2) * 1103515245) + 12345)) 49 2) 16) &&& 32767) p0).bind fun v2 => some (v2, (mset g 49 2 (((g 49 2) * 1103515245) + 12345)))
theorem ok_Season_draw {γ : GG} {tt : Bool} {p0 : Int32} {g : Mem} {res : Int32 × Mem} (h : sp_Season_draw p0 g = some res) : CA γ M_Season_draw 0 [.ref 49, .int p0] SH g tt (0, 0) (pI SH res.1 res.2 tt) := by
  refine CA.of mw_Season_draw.1 0 rfl ?_
  show WA γ M_Season_draw 0 0 [some (.ref 49), some (.int p0)] [] SH g tt (0, 0) (pI SH res.1 res.2 tt)
  unfold sp_Season_draw at h
  refine w_aload_n (q := 1) d_Season_draw_0 rfl rfl ?_
  refine w_aload_n (q := 2) d_Season_draw_1 rfl rfl ?_
  refine w_get (q := 5) (ci := 9) (j := 2) d_Season_draw_2 rfl (by decide) fl_Season_30 (by decide) (by decide) s_49 rfl rfl ?_
  refine w_ldc (q := 7) d_Season_draw_5 rfl co_Season_76 ?_
  refine w_imul (q := 8) d_Season_draw_7 rfl ?_
  refine w_sipush (q := 11) (v := 12345) d_Season_draw_8 rfl (by decide) ?_
  refine w_iadd (q := 12) d_Season_draw_11 rfl ?_
  refine w_put (q := 15) (ci := 9) (j := 2) d_Season_draw_12 rfl (by decide) fl_Season_30 (by decide) (by decide) s_49 rfl rfl rfl rfl rfl rfl ?_
  refine w_iload_n (q := 16) d_Season_draw_15 rfl rfl ?_
  by_cases c1 : p0 ≤ 0
  · rw [if_pos c1] at h
    refine w_if_le_t (q := 35) d_Season_draw_16 rfl c1 ?_
    refine w_iconst (q := 36) (v := 0) d_Season_draw_35 rfl (by decide) ?_
    cases h
    exact w_ireturn d_Season_draw_36 rfl rfl ⟨rfl, rfl, rfl, rfl⟩
  · rw [if_neg c1] at h
    refine w_if_le_f (q := 19) d_Season_draw_16 35 rfl rfl c1 ?_
    refine w_aload_n (q := 20) d_Season_draw_19 rfl rfl ?_
    refine w_get (q := 23) (ci := 9) (j := 2) d_Season_draw_20 rfl (by decide) fl_Season_30 (by decide) (by decide) s_49 rfl rfl ?_
    refine w_bipush (q := 25) (v := 16) d_Season_draw_23 rfl (by decide) ?_
    refine w_iushr (q := 26) d_Season_draw_25 rfl ?_
    refine w_sipush (q := 29) (v := 32767) d_Season_draw_26 rfl (by decide) ?_
    refine w_iand (q := 30) d_Season_draw_29 rfl ?_
    refine w_iload_n (q := 31) d_Season_draw_30 rfl rfl ?_
    obtain ⟨v2, hv, h⟩ := bnd h
    obtain ⟨hz, hv⟩ := rm_ok hv
    refine w_irem (q := 32) d_Season_draw_31 rfl hz ?_
    rw [hv]
    refine w_goto (q := 36) d_Season_draw_32 rfl ?_
    cases h
    exact w_ireturn d_Season_draw_36 rfl rfl ⟨rfl, rfl, rfl, rfl⟩
def sp_Season_visit (F : Nat) (p0 : Int32) (g : Mem) : Option (Mem) := (sp_Season_draw 3 g).bind fun v1 => if v1.1 = 0 then (sp_Season_draw 20 v1.2).bind fun v3 => (sp_Hair_eatable F 50 15 p0 v3.1 (v3.1 + 2) v3.2).bind fun v4 => (sp_Hair_lose 50 15 v4 v3.2).bind fun v5 => some v5.2 else if v1.1 = 1 then (sp_Season_draw 20 v1.2).bind fun v7 => (rd v7.2 (50 + 1) 6 p0).bind fun v8 => if v8 ≤ v7.1 then some v7.2 else (sp_Hair_shaveTo F 50 15 p0 v7.1 v7.2).bind fun v10 => some v10.2 else some v1.2
theorem ok_Season_visit {γ : GG} {tt : Bool} {F : Nat} {p0 : Int32} {g : Mem} {res : Mem} (h : sp_Season_visit F p0 g = some res) : CA γ M_Season_visit 5 [.ref 49, .int p0] SH g tt (0, 0) (pV SH res tt) := by
  refine CA.of mw_Season_visit.1 2 rfl ?_
  show WA γ M_Season_visit 5 0 [some (.ref 49), some (.int p0), none, none] [] SH g tt (0, 0) (pV SH res tt)
  unfold sp_Season_visit at h
  refine w_aload_n (q := 1) d_Season_visit_0 rfl rfl ?_
  refine w_iconst (q := 2) (v := 3) d_Season_visit_1 rfl (by decide) ?_
  obtain ⟨v1, hv, h⟩ := bnd h
  refine w_callVi (q := 5) (M' := M_Season_draw) (n' := 0) (k := 49) (As := [.int 3]) (sh' := SH) (b1 := (0, 0)) d_Season_visit_2 rfl mw_Season_draw (by decide) (by decide) ml_Season_50 (by decide) s_49 (by decide) rfl rfl rfl (leb rfl) (bz _) (fun _ => rfl) (ok_Season_draw hv) ?_
  refine w_istore_n (q := 6) (ls' := [some (.ref 49), some (.int p0), some (.int v1.1), none]) d_Season_visit_5 rfl (by decide) rfl rfl ?_
  refine w_iload_n (q := 7) d_Season_visit_6 rfl rfl ?_
  by_cases c2 : v1.1 = 0
  · rw [if_pos c2] at h
    refine w_if_ne_f (q := 10) d_Season_visit_7 40 rfl rfl c2 ?_
    refine w_aload_n (q := 11) d_Season_visit_10 rfl rfl ?_
    refine w_bipush (q := 13) (v := 20) d_Season_visit_11 rfl (by decide) ?_
    obtain ⟨v3, hv, h⟩ := bnd h
    refine w_callVi (q := 16) (M' := M_Season_draw) (n' := 0) (k := 49) (As := [.int 20]) (sh' := SH) (b1 := (0, 0)) d_Season_visit_13 rfl mw_Season_draw (by decide) (by decide) ml_Season_50 (by decide) s_49 (by decide) rfl rfl rfl (leb rfl) (bz _) (fun _ => rfl) (ok_Season_draw hv) ?_
    refine w_istore_n (q := 17) (ls' := [some (.ref 49), some (.int p0), some (.int v1.1), some (.int v3.1)]) d_Season_visit_16 rfl (by decide) rfl rfl ?_
    refine w_aload_n (q := 18) d_Season_visit_17 rfl rfl ?_
    refine w_get (q := 21) (ci := 9) (j := 0) d_Season_visit_18 rfl (by decide) fl_Season_12 (by decide) (by decide) s_49 rfl rfl ?_
    refine w_aload_n (q := 22) d_Season_visit_21 rfl rfl ?_
    refine w_get (q := 25) (ci := 9) (j := 0) d_Season_visit_22 rfl (by decide) fl_Season_12 (by decide) (by decide) s_49 rfl rfl ?_
    refine w_iload_n (q := 26) d_Season_visit_25 rfl rfl ?_
    refine w_iload_n (q := 27) d_Season_visit_26 rfl rfl ?_
    refine w_iload_n (q := 28) d_Season_visit_27 rfl rfl ?_
    refine w_iconst (q := 29) (v := 2) d_Season_visit_28 rfl (by decide) ?_
    refine w_iadd (q := 30) d_Season_visit_29 rfl ?_
    obtain ⟨v4, hv, h⟩ := bnd h
    refine w_callVi (q := 33) (M' := M_Hair_eatable) (n' := 3) (k := 50) (As := [.int p0, .int v3.1, .int (v3.1 + 2)]) (sh' := SH) (b1 := (0, 0)) d_Season_visit_30 rfl mw_Hair_eatable (by decide) (by decide) ml_Season_61 i_50.2.1 i_50.1 (by decide) rfl rfl rfl (leb rfl) (bz _) (fun _ => rfl) (ok_Hair_eatable i_50 hv) ?_
    obtain ⟨v5, hv, h⟩ := bnd h
    refine w_callVi (q := 36) (M' := M_Hair_lose) (n' := 1) (k := 50) (As := [.int v4]) (sh' := SH) (b1 := (0, 0)) d_Season_visit_33 rfl mw_Hair_lose (by decide) (by decide) ml_Season_65 i_50.2.1 i_50.1 (by decide) rfl rfl rfl (leb rfl) (bz _) (fun _ => rfl) (ok_Hair_lose i_50 hv) ?_
    refine w_pop (q := 37) d_Season_visit_36 rfl rfl ?_
    refine w_goto (q := 75) d_Season_visit_37 rfl ?_
    cases h
    exact w_return d_Season_visit_75 rfl ⟨rfl, rfl, rfl, rfl⟩
  · rw [if_neg c2] at h
    refine w_if_ne_t (q := 40) d_Season_visit_7 rfl c2 ?_
    refine w_iload_n (q := 41) d_Season_visit_40 rfl rfl ?_
    refine w_iconst (q := 42) (v := 1) d_Season_visit_41 rfl (by decide) ?_
    by_cases c6 : v1.1 = 1
    · rw [if_pos c6] at h
      refine w_icmp_ne_f (q := 45) d_Season_visit_42 75 rfl rfl c6 ?_
      refine w_aload_n (q := 46) d_Season_visit_45 rfl rfl ?_
      refine w_bipush (q := 48) (v := 20) d_Season_visit_46 rfl (by decide) ?_
      obtain ⟨v7, hv, h⟩ := bnd h
      refine w_callVi (q := 51) (M' := M_Season_draw) (n' := 0) (k := 49) (As := [.int 20]) (sh' := SH) (b1 := (0, 0)) d_Season_visit_48 rfl mw_Season_draw (by decide) (by decide) ml_Season_50 (by decide) s_49 (by decide) rfl rfl rfl (leb rfl) (bz _) (fun _ => rfl) (ok_Season_draw hv) ?_
      refine w_istore_n (q := 52) (ls' := [some (.ref 49), some (.int p0), some (.int v1.1), some (.int v7.1)]) d_Season_visit_51 rfl (by decide) rfl rfl ?_
      refine w_iload_n (q := 53) d_Season_visit_52 rfl rfl ?_
      refine w_aload_n (q := 54) d_Season_visit_53 rfl rfl ?_
      refine w_get (q := 57) (ci := 9) (j := 0) d_Season_visit_54 rfl (by decide) fl_Season_12 (by decide) (by decide) s_49 rfl rfl ?_
      refine w_get (q := 60) (ci := 2) (j := 1) d_Season_visit_57 rfl (by decide) fl_Season_68 (by decide) i_50.2.1 i_50.1 rfl rfl ?_
      refine w_iload_n (q := 61) d_Season_visit_60 rfl rfl ?_
      obtain ⟨v8, hv, h⟩ := bnd h
      obtain ⟨hi, hv⟩ := rd_ok hv
      refine w_iald (q := 62) (t := 0) d_Season_visit_61 rfl i_50.2.2.1.2 i_50.2.2.1.1 hi rfl ?_
      rw [hv]
      by_cases c9 : v8 ≤ v7.1
      · rw [if_pos c9] at h
        refine w_icmp_ge_t (q := 75) d_Season_visit_62 rfl c9 ?_
        cases h
        exact w_return d_Season_visit_75 rfl ⟨rfl, rfl, rfl, rfl⟩
      · rw [if_neg c9] at h
        refine w_icmp_ge_f (q := 65) d_Season_visit_62 75 rfl rfl c9 ?_
        refine w_aload_n (q := 66) d_Season_visit_65 rfl rfl ?_
        refine w_get (q := 69) (ci := 9) (j := 0) d_Season_visit_66 rfl (by decide) fl_Season_12 (by decide) (by decide) s_49 rfl rfl ?_
        refine w_iload_n (q := 70) d_Season_visit_69 rfl rfl ?_
        refine w_iload_n (q := 71) d_Season_visit_70 rfl rfl ?_
        obtain ⟨v10, hv, h⟩ := bnd h
        refine w_callVi (q := 74) (M' := M_Hair_shaveTo) (n' := 4) (k := 50) (As := [.int p0, .int v7.1]) (sh' := SH) (b1 := (0, 0)) d_Season_visit_71 rfl mw_Hair_shaveTo (by decide) (by decide) ml_Season_72 i_50.2.1 i_50.1 (by decide) rfl rfl rfl (leb rfl) (bz _) (fun _ => rfl) (ok_Hair_shaveTo i_50 hv) ?_
        refine w_pop (q := 75) d_Season_visit_74 rfl rfl ?_
        cases h
        exact w_return d_Season_visit_75 rfl ⟨rfl, rfl, rfl, rfl⟩
    · rw [if_neg c6] at h
      refine w_icmp_ne_t (q := 75) d_Season_visit_42 rfl c6 ?_
      cases h
      exact w_return d_Season_visit_75 rfl ⟨rfl, rfl, rfl, rfl⟩
def PL_Season_run_21 (γ : GG) (tt : Bool) (o0ha : Nat) (o0ro : Nat) (p1 : Int32) (p2 : Int32) (g : Mem) (k3 : Int32) (b : Nat × Nat) (Φ : PO) (s : Int32 × Mem) : Prop := WA γ M_Season_run 6 21 [some (.ref 49), none, none, some (.int k3), some (.int s.1), none] [] SH s.2 tt b Φ
def QL_Season_run_21 (γ : GG) (tt : Bool) (o0ha : Nat) (o0ro : Nat) (p1 : Int32) (p2 : Int32) (g : Mem) (k3 : Int32) (b : Nat × Nat) (Φ : PO) (x : (Mem)) : Prop := WA γ M_Season_run 6 103 [none, none, none, none, none, none] [] SH x tt b Φ
def sp_Season_run_j67_21 (F : Nat) (o0ha : Nat) (o0ro : Nat) (p1 : Int32) (p2 : Int32) (k3 : Int32) (g : Mem) (m0 : Mem) (x4 : Int32) (x5 : Int32) : Option ((Int32 × Mem) ⊕ ((Mem))) := (sp_Hair_pass F 50 15 1 m0).bind fun v5 => (sp_Hair_recordsThere F 50 15 v5).bind fun v6 => if v6 = x5 then some (.inl (x4 + 1, v5)) else some (.inl (x4 + 1, (mset v5 49 3 ((v5 49 3) + 1))))
theorem ok_Season_run_j67_21 {γ : GG} {tt : Bool} {F : Nat} {o0ha : Nat} {o0ro : Nat} {p1 : Int32} {p2 : Int32} {k3 : Int32} {g : Mem} {m0 : Mem} {x4 : Int32} {x5 : Int32} {b : Nat × Nat} {Φ : PO} (ho0Hair : isHair SH o0ha o0ro) {r : (Int32 × Mem) ⊕ ((Mem))} (h : sp_Season_run_j67_21 F o0ha o0ro p1 p2 k3 g m0 x4 x5 = some r) (hr : RQ (PL_Season_run_21 γ tt o0ha o0ro p1 p2 g k3 b Φ) (QL_Season_run_21 γ tt o0ha o0ro p1 p2 g k3 b Φ) r) : WA γ M_Season_run 6 67 [some (.ref 49), none, none, some (.int k3), some (.int x4), some (.int x5)] [] SH m0 tt b Φ := by
  unfold sp_Season_run_j67_21 at h
  refine w_aload_n (q := 68) d_Season_run_67 rfl rfl ?_
  refine w_get (q := 71) (ci := 9) (j := 0) d_Season_run_68 rfl (by decide) fl_Season_12 (by decide) (by decide) s_49 rfl rfl ?_
  refine w_iconst (q := 72) (v := 1) d_Season_run_71 rfl (by decide) ?_
  obtain ⟨v5, hv, h⟩ := bnd h
  refine w_callVv (q := 75) (M' := M_Hair_pass) (n' := 4) (k := 50) (As := [.int 1]) (sh' := SH) (b1 := (0, 0)) d_Season_run_72 rfl mw_Hair_pass (by decide) (by decide) ml_Season_58 i_50.2.1 i_50.1 (by decide) rfl rfl rfl (leb rfl) (bz _) (fun _ => rfl) (ok_Hair_pass i_50 hv) ?_
  refine w_aload_n (q := 76) d_Season_run_75 rfl rfl ?_
  refine w_get (q := 79) (ci := 9) (j := 0) d_Season_run_76 rfl (by decide) fl_Season_12 (by decide) (by decide) s_49 rfl rfl ?_
  obtain ⟨v6, hv, h⟩ := bnd h
  refine w_callVi (q := 82) (M' := M_Hair_recordsThere) (n' := 2) (k := 50) (As := []) (sh' := SH) (b1 := (0, 0)) d_Season_run_79 rfl mw_Hair_recordsThere (by decide) (by decide) ml_Season_37 i_50.2.1 i_50.1 (by decide) rfl rfl rfl (leb rfl) (bz _) (fun _ => rfl) (ok_Hair_recordsThere i_50 hv) ?_
  refine w_iload (q := 84) d_Season_run_82 rfl rfl ?_
  by_cases c7 : v6 = x5
  · rw [if_pos c7] at h
    refine w_icmp_eq_t (q := 97) d_Season_run_84 rfl c7 ?_
    refine w_iinc (q := 100) (ls' := [some (.ref 49), none, none, some (.int k3), some (.int (x4 + 1)), some (.int x5)]) d_Season_run_97 rfl (by decide) rfl rfl rfl ?_
    refine w_goto (q := 21) d_Season_run_100 rfl ?_
    cases h
    exact w_ls (by exact (And.intro rfl (And.intro rfl (And.intro rfl trivial)))) hr
  · rw [if_neg c7] at h
    refine w_icmp_eq_f (q := 87) d_Season_run_84 97 rfl rfl c7 ?_
    refine w_aload_n (q := 88) d_Season_run_87 rfl rfl ?_
    refine w_dup (q := 89) d_Season_run_88 rfl rfl ?_
    refine w_get (q := 92) (ci := 9) (j := 3) d_Season_run_89 rfl (by decide) fl_Season_34 (by decide) (by decide) s_49 rfl rfl ?_
    refine w_iconst (q := 93) (v := 1) d_Season_run_92 rfl (by decide) ?_
    refine w_iadd (q := 94) d_Season_run_93 rfl ?_
    refine w_put (q := 97) (ci := 9) (j := 3) d_Season_run_94 rfl (by decide) fl_Season_34 (by decide) (by decide) s_49 rfl rfl rfl rfl rfl rfl ?_
    refine w_iinc (q := 100) (ls' := [some (.ref 49), none, none, some (.int k3), some (.int (x4 + 1)), some (.int x5)]) d_Season_run_97 rfl (by decide) rfl rfl rfl ?_
    refine w_goto (q := 21) d_Season_run_100 rfl ?_
    cases h
    exact w_ls (by exact (And.intro rfl (And.intro rfl (And.intro rfl trivial)))) hr
def st_Season_run_21 (F : Nat) (o0ha : Nat) (o0ro : Nat) (p1 : Int32) (p2 : Int32) (g : Mem) (k3 : Int32) (s : Int32 × Mem) : Option ((Int32 × Mem) ⊕ ((Mem))) := if k3 ≤ s.1 then some (.inr s.2) else (sp_Hair_recordsThere F 50 15 s.2).bind fun v3 => if (s.2 15 0) ≤ 0 then sp_Season_run_j67_21 F o0ha o0ro p1 p2 k3 g s.2 s.1 v3 else (sp_Season_draw (s.2 15 0) s.2).bind fun v8 => (sp_Season_visit F v8.1 v8.2).bind fun v9 => sp_Season_run_j67_21 F o0ha o0ro p1 p2 k3 g v9 s.1 v3
theorem kl_Season_run_21 {γ : GG} {tt : Bool} {F : Nat} {o0ha : Nat} {o0ro : Nat} {p1 : Int32} {p2 : Int32} {g : Mem} {k3 : Int32} {b : Nat × Nat} {Φ : PO} (ho0Hair : isHair SH o0ha o0ro) : ∀ (s : Int32 × Mem) (r : (Int32 × Mem) ⊕ ((Mem))), st_Season_run_21 F o0ha o0ro p1 p2 g k3 s = some r → RQ (PL_Season_run_21 γ tt o0ha o0ro p1 p2 g k3 b Φ) (QL_Season_run_21 γ tt o0ha o0ro p1 p2 g k3 b Φ) r → PL_Season_run_21 γ tt o0ha o0ro p1 p2 g k3 b Φ s := by
  intro s r h hr
  unfold st_Season_run_21 at h
  unfold PL_Season_run_21
  refine w_iload (q := 23) d_Season_run_21 rfl rfl ?_
  refine w_iload_n (q := 24) d_Season_run_23 rfl rfl ?_
  by_cases c2 : k3 ≤ s.1
  · rw [if_pos c2] at h
    refine w_icmp_ge_t (q := 103) d_Season_run_24 rfl c2 ?_
    cases h
    exact w_ls (by exact trivial) hr
  · rw [if_neg c2] at h
    refine w_icmp_ge_f (q := 27) d_Season_run_24 103 rfl rfl c2 ?_
    refine w_aload_n (q := 28) d_Season_run_27 rfl rfl ?_
    refine w_get (q := 31) (ci := 9) (j := 0) d_Season_run_28 rfl (by decide) fl_Season_12 (by decide) (by decide) s_49 rfl rfl ?_
    obtain ⟨v3, hv, h⟩ := bnd h
    refine w_callVi (q := 34) (M' := M_Hair_recordsThere) (n' := 2) (k := 50) (As := []) (sh' := SH) (b1 := (0, 0)) d_Season_run_31 rfl mw_Hair_recordsThere (by decide) (by decide) ml_Season_37 i_50.2.1 i_50.1 (by decide) rfl rfl rfl (leb rfl) (bz _) (fun _ => rfl) (ok_Hair_recordsThere i_50 hv) ?_
    refine w_istore (q := 36) (ls' := [some (.ref 49), none, none, some (.int k3), some (.int s.1), some (.int v3)]) d_Season_run_34 rfl (by decide) rfl rfl ?_
    refine w_aload_n (q := 37) d_Season_run_36 rfl rfl ?_
    refine w_get (q := 40) (ci := 9) (j := 0) d_Season_run_37 rfl (by decide) fl_Season_12 (by decide) (by decide) s_49 rfl rfl ?_
    refine w_get (q := 43) (ci := 2) (j := 0) d_Season_run_40 rfl (by decide) fl_Season_41 (by decide) i_50.2.1 i_50.1 rfl rfl ?_
    refine w_get (q := 46) (ci := 7) (j := 0) d_Season_run_43 rfl (by decide) fl_Season_45 (by decide) i_50.2.2.2.2.2.1 i_50.2.2.2.2.1 rfl rfl ?_
    by_cases c4 : (s.2 15 0) ≤ 0
    · rw [if_pos c4] at h
      refine w_if_le_t (q := 67) d_Season_run_46 rfl c4 ?_
      refine w_ls (ls' := [some (.ref 49), none, none, some (.int k3), some (.int s.1), some (.int v3)]) (And.intro rfl (And.intro rfl (And.intro rfl (And.intro rfl trivial)))) ?_
      exact ok_Season_run_j67_21 ho0Hair h hr
    · rw [if_neg c4] at h
      refine w_if_le_f (q := 49) d_Season_run_46 67 rfl rfl c4 ?_
      refine w_aload_n (q := 50) d_Season_run_49 rfl rfl ?_
      refine w_aload_n (q := 51) d_Season_run_50 rfl rfl ?_
      refine w_aload_n (q := 52) d_Season_run_51 rfl rfl ?_
      refine w_get (q := 55) (ci := 9) (j := 0) d_Season_run_52 rfl (by decide) fl_Season_12 (by decide) (by decide) s_49 rfl rfl ?_
      refine w_get (q := 58) (ci := 2) (j := 0) d_Season_run_55 rfl (by decide) fl_Season_41 (by decide) i_50.2.1 i_50.1 rfl rfl ?_
      refine w_get (q := 61) (ci := 7) (j := 0) d_Season_run_58 rfl (by decide) fl_Season_45 (by decide) i_50.2.2.2.2.2.1 i_50.2.2.2.2.1 rfl rfl ?_
      obtain ⟨v8, hv, h⟩ := bnd h
      refine w_callVi (q := 64) (M' := M_Season_draw) (n' := 0) (k := 49) (As := [.int (s.2 15 0)]) (sh' := SH) (b1 := (0, 0)) d_Season_run_61 rfl mw_Season_draw (by decide) (by decide) ml_Season_50 (by decide) s_49 (by decide) rfl rfl rfl (leb rfl) (bz _) (fun _ => rfl) (ok_Season_draw hv) ?_
      obtain ⟨v9, hv, h⟩ := bnd h
      refine w_callVv (q := 67) (M' := M_Season_visit) (n' := 5) (k := 49) (As := [.int v8.1]) (sh' := SH) (b1 := (0, 0)) d_Season_run_64 rfl mw_Season_visit (by decide) (by decide) ml_Season_54 (by decide) s_49 (by decide) rfl rfl rfl (leb rfl) (bz _) (fun _ => rfl) (ok_Season_visit hv) ?_
      refine w_ls (ls' := [some (.ref 49), none, none, some (.int k3), some (.int s.1), some (.int v3)]) (And.intro rfl (And.intro rfl (And.intro rfl (And.intro rfl trivial)))) ?_
      exact ok_Season_run_j67_21 ho0Hair h hr
def sp_Season_run (F : Nat) (o0ha : Nat) (o0ro : Nat) (p1 : Int32) (p2 : Int32) (g : Mem) : Option (Mem) := (sp_Hair_take 50 15 o0ha o0ro g).bind fun v1 => (lpO (st_Season_run_21 F o0ha o0ro p1 p2 g p2) F (0, (mset (mset v1 49 2 p1) 49 3 0))).bind fun x10 => some x10
theorem ok_Season_run {γ : GG} {tt : Bool} {F : Nat} {o0ha : Nat} {o0ro : Nat} {p1 : Int32} {p2 : Int32} {g : Mem} (ho0Hair : isHair SH o0ha o0ro) {res : Mem} (h : sp_Season_run F o0ha o0ro p1 p2 g = some res) : CA γ M_Season_run 6 [.ref 49, .ref o0ha, .int p1, .int p2] SH g tt (0, 0) (pV SH res tt) := by
  refine CA.of mw_Season_run.1 2 rfl ?_
  show WA γ M_Season_run 6 0 [some (.ref 49), some (.ref o0ha), some (.int p1), some (.int p2), none, none] [] SH g tt (0, 0) (pV SH res tt)
  unfold sp_Season_run at h
  refine w_aload_n (q := 1) d_Season_run_0 rfl rfl ?_
  refine w_get (q := 4) (ci := 9) (j := 0) d_Season_run_1 rfl (by decide) fl_Season_12 (by decide) (by decide) s_49 rfl rfl ?_
  refine w_aload_n (q := 5) d_Season_run_4 rfl rfl ?_
  obtain ⟨v1, hv, h⟩ := bnd h
  refine w_callVv (q := 8) (M' := M_Hair_take) (n' := 0) (k := 50) (As := [.ref o0ha]) (sh' := SH) (b1 := (0, 0)) d_Season_run_5 rfl mw_Hair_take (by decide) (by decide) ml_Season_27 i_50.2.1 i_50.1 (by decide) rfl rfl rfl (leb rfl) (bz _) (fun _ => rfl) (ok_Hair_take i_50 ho0Hair hv) ?_
  refine w_aload_n (q := 9) d_Season_run_8 rfl rfl ?_
  refine w_iload_n (q := 10) d_Season_run_9 rfl rfl ?_
  refine w_put (q := 13) (ci := 9) (j := 2) d_Season_run_10 rfl (by decide) fl_Season_30 (by decide) (by decide) s_49 rfl rfl rfl rfl rfl rfl ?_
  refine w_aload_n (q := 14) d_Season_run_13 rfl rfl ?_
  refine w_iconst (q := 15) (v := 0) d_Season_run_14 rfl (by decide) ?_
  refine w_put (q := 18) (ci := 9) (j := 3) d_Season_run_15 rfl (by decide) fl_Season_34 (by decide) (by decide) s_49 rfl rfl rfl rfl rfl rfl ?_
  refine w_iconst (q := 19) (v := 0) d_Season_run_18 rfl (by decide) ?_
  refine w_istore (q := 21) (ls' := [some (.ref 49), some (.ref o0ha), some (.int p1), some (.int p2), some (.int 0), none]) d_Season_run_19 rfl (by decide) rfl rfl ?_
  obtain ⟨x10, hx, h⟩ := bnd h
  refine w_ls (ls' := [some (.ref 49), none, none, some (.int p2), some (.int 0), none]) (And.intro rfl (And.intro rfl (And.intro rfl trivial))) ?_
  show PL_Season_run_21 γ tt o0ha o0ro p1 p2 g p2 _ _ (0, (mset (mset v1 49 2 p1) 49 3 0))
  refine lp_ok (kl_Season_run_21 ho0Hair) F _ x10 hx ?_
  unfold QL_Season_run_21
  cases h
  exact w_return d_Season_run_103 rfl ⟨rfl, rfl, rfl, rfl⟩
