/-! functions and theorems of 26.model1 (by program: wip/gen/main.py) -/
def PL_Model_rests_3 (γ : GG) (tt : Bool) (p0 : Int32) (p1 : Int32) (p2 : Int32) (g : Mem) (k1 : Int32) (k2 : Int32) (k3 : Int32) (b : Nat × Nat) (Φ : PO) (s : Int32 × Mem) : Prop := WA γ M_Model_rests 7 3 [some (.ref 54), some (.int k1), some (.int k2), some (.int k3), some (.int s.1)] [] SH s.2 tt b Φ
def QL_Model_rests_3 (γ : GG) (tt : Bool) (p0 : Int32) (p1 : Int32) (p2 : Int32) (g : Mem) (k1 : Int32) (k2 : Int32) (k3 : Int32) (b : Nat × Nat) (Φ : PO) (x : (Mem) ⊕ (Mem)) : Prop := match x with
  | .inl x => WA γ M_Model_rests 7 59 [none, none, none, none, none] [] SH x tt b Φ
  | .inr x => WA γ M_Model_rests 7 67 [none, none, none, none, none] [] SH x tt b Φ
def st_Model_rests_3 (F : Nat) (p0 : Int32) (p1 : Int32) (p2 : Int32) (g : Mem) (k1 : Int32) (k2 : Int32) (k3 : Int32) (s : Int32 × Mem) : Option ((Int32 × Mem) ⊕ ((Mem) ⊕ (Mem))) := (rd s.2 58 12 0).bind fun v1 => if v1 ≤ s.1 then some (.inr (.inr s.2)) else (sp_Model_isOf k3 s.1 s.2).bind fun v3 => if v3 = 0 then some (.inl (s.1 + 1, s.2)) else (sp_Model_gain F s.1 k2 0 s.2).bind fun v5 => (sp_Model_gain F k1 k2 0 v5.2).bind fun v6 => if v6.1 < v5.1 then some (.inr (.inl v6.2)) else (sp_Model_gain F k1 s.1 1 v6.2).bind fun v8 => (sp_Model_gain F k1 k2 1 v8.2).bind fun v9 => if v8.1 ≤ v9.1 then some (.inl (s.1 + 1, v9.2)) else some (.inr (.inl v9.2))
theorem kl_Model_rests_3 {γ : GG} {tt : Bool} {F : Nat} {p0 : Int32} {p1 : Int32} {p2 : Int32} {g : Mem} {k1 : Int32} {k2 : Int32} {k3 : Int32} {b : Nat × Nat} {Φ : PO} : ∀ (s : Int32 × Mem) (r : (Int32 × Mem) ⊕ ((Mem) ⊕ (Mem))), st_Model_rests_3 F p0 p1 p2 g k1 k2 k3 s = some r → RQ (PL_Model_rests_3 γ tt p0 p1 p2 g k1 k2 k3 b Φ) (QL_Model_rests_3 γ tt p0 p1 p2 g k1 k2 k3 b Φ) r → PL_Model_rests_3 γ tt p0 p1 p2 g k1 k2 k3 b Φ s := by
  intro s r h hr
  unfold st_Model_rests_3 at h
  unfold PL_Model_rests_3
  refine w_iload (q := 5) d_Model_rests_3 rfl rfl ?_
  refine w_aload_n (q := 6) d_Model_rests_5 rfl rfl ?_
  refine w_get (q := 9) (ci := 12) (j := 4) d_Model_rests_6 rfl (by decide) fl_Model_51 (by decide) (by decide) s_54 rfl rfl ?_
  refine w_iconst (q := 10) (v := 0) d_Model_rests_9 rfl (by decide) ?_
  obtain ⟨v1, hv, h⟩ := bnd h
  obtain ⟨hi, hv⟩ := rd_ok hv
  refine w_iald (q := 11) (t := 0) d_Model_rests_10 rfl a_58.2 a_58.1 hi rfl ?_
  rw [hv]
  by_cases c2 : v1 ≤ s.1
  · rw [if_pos c2] at h
    refine w_icmp_ge_t (q := 67) d_Model_rests_11 rfl c2 ?_
    cases h
    exact w_ls (by exact trivial) hr
  · rw [if_neg c2] at h
    refine w_icmp_ge_f (q := 14) d_Model_rests_11 67 rfl rfl c2 ?_
    refine w_iload_n (q := 15) d_Model_rests_14 rfl rfl ?_
    refine w_iload (q := 17) d_Model_rests_15 rfl rfl ?_
    obtain ⟨v3, hv, h⟩ := bnd h
    refine w_callSi (q := 20) (M' := M_Model_isOf) (n' := 0) (As := [.int k3, .int s.1]) (sh' := SH) (b1 := (0, 0)) d_Model_rests_17 rfl mw_Model_isOf (by decide) (by decide) ml_Model_308 rfl rfl (leb rfl) (bz _) (fun _ => rfl) (ok_Model_isOf hv) ?_
    by_cases c4 : v3 = 0
    · rw [if_pos c4] at h
      refine w_if_eq_t (q := 61) d_Model_rests_20 rfl c4 ?_
      refine w_iinc (q := 64) (ls' := [some (.ref 54), some (.int k1), some (.int k2), some (.int k3), some (.int (s.1 + 1))]) d_Model_rests_61 rfl (by decide) rfl rfl rfl ?_
      refine w_goto (q := 3) d_Model_rests_64 rfl ?_
      cases h
      exact w_ls (by exact (And.intro rfl (And.intro rfl (And.intro rfl (And.intro rfl (And.intro rfl trivial)))))) hr
    · rw [if_neg c4] at h
      refine w_if_eq_f (q := 23) d_Model_rests_20 61 rfl rfl c4 ?_
      refine w_aload_n (q := 24) d_Model_rests_23 rfl rfl ?_
      refine w_iload (q := 26) d_Model_rests_24 rfl rfl ?_
      refine w_iload_n (q := 27) d_Model_rests_26 rfl rfl ?_
      refine w_iconst (q := 28) (v := 0) d_Model_rests_27 rfl (by decide) ?_
      obtain ⟨v5, hv, h⟩ := bnd h
      refine w_callVi (q := 31) (M' := M_Model_gain) (n' := 6) (k := 54) (As := [.int s.1, .int k2, .int 0]) (sh' := SH) (b1 := (0, 0)) d_Model_rests_28 rfl mw_Model_gain (by decide) (by decide) ml_Model_432 (by decide) s_54 (by decide) rfl rfl rfl (leb rfl) (bz _) (fun _ => rfl) (ok_Model_gain hv) ?_
      refine w_aload_n (q := 32) d_Model_rests_31 rfl rfl ?_
      refine w_iload_n (q := 33) d_Model_rests_32 rfl rfl ?_
      refine w_iload_n (q := 34) d_Model_rests_33 rfl rfl ?_
      refine w_iconst (q := 35) (v := 0) d_Model_rests_34 rfl (by decide) ?_
      obtain ⟨v6, hv, h⟩ := bnd h
      refine w_callVi (q := 38) (M' := M_Model_gain) (n' := 6) (k := 54) (As := [.int k1, .int k2, .int 0]) (sh' := SH) (b1 := (0, 0)) d_Model_rests_35 rfl mw_Model_gain (by decide) (by decide) ml_Model_432 (by decide) s_54 (by decide) rfl rfl rfl (leb rfl) (bz _) (fun _ => rfl) (ok_Model_gain hv) ?_
      by_cases c7 : v6.1 < v5.1
      · rw [if_pos c7] at h
        refine w_icmp_gt_t (q := 59) d_Model_rests_38 rfl c7 ?_
        cases h
        exact w_ls (by exact trivial) hr
      · rw [if_neg c7] at h
        refine w_icmp_gt_f (q := 41) d_Model_rests_38 59 rfl rfl c7 ?_
        refine w_aload_n (q := 42) d_Model_rests_41 rfl rfl ?_
        refine w_iload_n (q := 43) d_Model_rests_42 rfl rfl ?_
        refine w_iload (q := 45) d_Model_rests_43 rfl rfl ?_
        refine w_iconst (q := 46) (v := 1) d_Model_rests_45 rfl (by decide) ?_
        obtain ⟨v8, hv, h⟩ := bnd h
        refine w_callVi (q := 49) (M' := M_Model_gain) (n' := 6) (k := 54) (As := [.int k1, .int s.1, .int 1]) (sh' := SH) (b1 := (0, 0)) d_Model_rests_46 rfl mw_Model_gain (by decide) (by decide) ml_Model_432 (by decide) s_54 (by decide) rfl rfl rfl (leb rfl) (bz _) (fun _ => rfl) (ok_Model_gain hv) ?_
        refine w_aload_n (q := 50) d_Model_rests_49 rfl rfl ?_
        refine w_iload_n (q := 51) d_Model_rests_50 rfl rfl ?_
        refine w_iload_n (q := 52) d_Model_rests_51 rfl rfl ?_
        refine w_iconst (q := 53) (v := 1) d_Model_rests_52 rfl (by decide) ?_
        obtain ⟨v9, hv, h⟩ := bnd h
        refine w_callVi (q := 56) (M' := M_Model_gain) (n' := 6) (k := 54) (As := [.int k1, .int k2, .int 1]) (sh' := SH) (b1 := (0, 0)) d_Model_rests_53 rfl mw_Model_gain (by decide) (by decide) ml_Model_432 (by decide) s_54 (by decide) rfl rfl rfl (leb rfl) (bz _) (fun _ => rfl) (ok_Model_gain hv) ?_
        by_cases c10 : v8.1 ≤ v9.1
        · rw [if_pos c10] at h
          refine w_icmp_le_t (q := 61) d_Model_rests_56 rfl c10 ?_
          refine w_iinc (q := 64) (ls' := [some (.ref 54), some (.int k1), some (.int k2), some (.int k3), some (.int (s.1 + 1))]) d_Model_rests_61 rfl (by decide) rfl rfl rfl ?_
          refine w_goto (q := 3) d_Model_rests_64 rfl ?_
          cases h
          exact w_ls (by exact (And.intro rfl (And.intro rfl (And.intro rfl (And.intro rfl (And.intro rfl trivial)))))) hr
        · rw [if_neg c10] at h
          refine w_icmp_le_f (q := 59) d_Model_rests_56 61 rfl rfl c10 ?_
          cases h
          exact w_ls (by exact trivial) hr
def sp_Model_rests (F : Nat) (p0 : Int32) (p1 : Int32) (p2 : Int32) (g : Mem) : Option (Int32 × Mem) := (lpO (st_Model_rests_3 F p0 p1 p2 g p0 p1 p2) F (0, g)).bind fun x11 => match x11 with | .inl x12 => some (0, x12) | .inr x13 => some (1, x13)
theorem ok_Model_rests {γ : GG} {tt : Bool} {F : Nat} {p0 : Int32} {p1 : Int32} {p2 : Int32} {g : Mem} {res : Int32 × Mem} (h : sp_Model_rests F p0 p1 p2 g = some res) : CA γ M_Model_rests 7 [.ref 54, .int p0, .int p1, .int p2] SH g tt (0, 0) (pI SH res.1 res.2 tt) := by
  refine CA.of mw_Model_rests.1 1 rfl ?_
  show WA γ M_Model_rests 7 0 [some (.ref 54), some (.int p0), some (.int p1), some (.int p2), none] [] SH g tt (0, 0) (pI SH res.1 res.2 tt)
  unfold sp_Model_rests at h
  refine w_iconst (q := 1) (v := 0) d_Model_rests_0 rfl (by decide) ?_
  refine w_istore (q := 3) (ls' := [some (.ref 54), some (.int p0), some (.int p1), some (.int p2), some (.int 0)]) d_Model_rests_1 rfl (by decide) rfl rfl ?_
  obtain ⟨x11, hx, h⟩ := bnd h
  refine w_ls (ls' := [some (.ref 54), some (.int p0), some (.int p1), some (.int p2), some (.int 0)]) (And.intro rfl (And.intro rfl (And.intro rfl (And.intro rfl (And.intro rfl trivial))))) ?_
  show PL_Model_rests_3 γ tt p0 p1 p2 g p0 p1 p2 _ _ (0, g)
  refine lp_ok (kl_Model_rests_3) F _ x11 hx ?_
  unfold QL_Model_rests_3
  rcases x11 with x12 | x13
  · dsimp only at h ⊢
    refine w_iconst (q := 60) (v := 0) d_Model_rests_59 rfl (by decide) ?_
    cases h
    exact w_ireturn d_Model_rests_60 rfl rfl ⟨rfl, rfl, rfl, rfl⟩
  · dsimp only at h ⊢
    refine w_iconst (q := 68) (v := 1) d_Model_rests_67 rfl (by decide) ?_
    cases h
    exact w_ireturn d_Model_rests_68 rfl rfl ⟨rfl, rfl, rfl, rfl⟩
def PL_Model_game_33 (γ : GG) (tt : Bool) (p0 : Int32) (g : Mem) (k1 : Int32) (k2 : Int32) (b : Nat × Nat) (Φ : PO) (s : Int32 × Int32 × Int32 × Mem) : Prop := WA γ M_Model_game 8 33 [some (.ref 54), some (.int k1), some (.int k2), some (.int s.1), some (.int s.2.1), some (.int s.2.2.1), none] [] SH s.2.2.2 tt b Φ
def QL_Model_game_33 (γ : GG) (tt : Bool) (p0 : Int32) (g : Mem) (k1 : Int32) (k2 : Int32) (b : Nat × Nat) (Φ : PO) (x : (Int32 × Int32 × Mem)) : Prop := WA γ M_Model_game 8 127 [none, some (.int k1), none, some (.int x.1), some (.int x.2.1), none, none] [] SH x.2.2 tt b Φ
def PL_Model_game_47 (γ : GG) (tt : Bool) (p0 : Int32) (g : Mem) (k1 : Int32) (k2 : Int32) (k5 : Int32) (b : Nat × Nat) (Φ : PO) (s : Int32 × Int32 × Int32 × Mem) : Prop := WA γ M_Model_game 8 47 [some (.ref 54), some (.int k1), some (.int k2), some (.int s.1), some (.int s.2.1), some (.int k5), some (.int s.2.2.1)] [] SH s.2.2.2 tt b Φ
def QL_Model_game_47 (γ : GG) (tt : Bool) (p0 : Int32) (g : Mem) (k1 : Int32) (k2 : Int32) (k5 : Int32) (b : Nat × Nat) (Φ : PO) (x : (Int32 × Int32 × Mem)) : Prop := WA γ M_Model_game 8 121 [some (.ref 54), some (.int k1), some (.int k2), some (.int x.1), some (.int x.2.1), some (.int k5), none] [] SH x.2.2 tt b Φ
def st_Model_game_47 (F : Nat) (p0 : Int32) (g : Mem) (k1 : Int32) (k2 : Int32) (k5 : Int32) (s : Int32 × Int32 × Int32 × Mem) : Option ((Int32 × Int32 × Int32 × Mem) ⊕ ((Int32 × Int32 × Mem))) := (rd s.2.2.2 58 12 0).bind fun v7 => if v7 ≤ s.2.2.1 then some (.inr (s.1, s.2.1, s.2.2.2)) else (sp_Model_isOf k2 k5 s.2.2.2).bind fun v9 => if v9 = 0 then some (.inl (s.1, s.2.1, s.2.2.1 + 1, s.2.2.2)) else (sp_Model_isOf k2 s.2.2.1 s.2.2.2).bind fun v11 => if v11 = 0 then some (.inl (s.1, s.2.1, s.2.2.1 + 1, s.2.2.2)) else (sp_Model_rests F k5 s.2.2.1 k2 s.2.2.2).bind fun v13 => if v13.1 = 0 then some (.inl (s.1, s.2.1, s.2.2.1 + 1, v13.2)) else if s.2.1 = (-1) then some (.inl (s.1 + 1, (10 * k5) + s.2.2.1, s.2.2.1 + 1, v13.2)) else some (.inl (s.1 + 1, s.2.1, s.2.2.1 + 1, v13.2))
theorem kl_Model_game_47 {γ : GG} {tt : Bool} {F : Nat} {p0 : Int32} {g : Mem} {k1 : Int32} {k2 : Int32} {k5 : Int32} {b : Nat × Nat} {Φ : PO} : ∀ (s : Int32 × Int32 × Int32 × Mem) (r : (Int32 × Int32 × Int32 × Mem) ⊕ ((Int32 × Int32 × Mem))), st_Model_game_47 F p0 g k1 k2 k5 s = some r → RQ (PL_Model_game_47 γ tt p0 g k1 k2 k5 b Φ) (QL_Model_game_47 γ tt p0 g k1 k2 k5 b Φ) r → PL_Model_game_47 γ tt p0 g k1 k2 k5 b Φ s := by
  intro s r h hr
  unfold st_Model_game_47 at h
  unfold PL_Model_game_47
  refine w_iload (q := 49) d_Model_game_47 rfl rfl ?_
  refine w_aload_n (q := 50) d_Model_game_49 rfl rfl ?_
  refine w_get (q := 53) (ci := 12) (j := 4) d_Model_game_50 rfl (by decide) fl_Model_51 (by decide) (by decide) s_54 rfl rfl ?_
  refine w_iconst (q := 54) (v := 0) d_Model_game_53 rfl (by decide) ?_
  obtain ⟨v7, hv, h⟩ := bnd h
  obtain ⟨hi, hv⟩ := rd_ok hv
  refine w_iald (q := 55) (t := 0) d_Model_game_54 rfl a_58.2 a_58.1 hi rfl ?_
  rw [hv]
  by_cases c8 : v7 ≤ s.2.2.1
  · rw [if_pos c8] at h
    refine w_icmp_ge_t (q := 121) d_Model_game_55 rfl c8 ?_
    cases h
    exact w_ls (by exact (And.intro rfl (And.intro rfl (And.intro rfl (And.intro rfl (And.intro rfl (And.intro rfl trivial))))))) hr
  · rw [if_neg c8] at h
    refine w_icmp_ge_f (q := 58) d_Model_game_55 121 rfl rfl c8 ?_
    refine w_iload_n (q := 59) d_Model_game_58 rfl rfl ?_
    refine w_iload (q := 61) d_Model_game_59 rfl rfl ?_
    obtain ⟨v9, hv, h⟩ := bnd h
    refine w_callSi (q := 64) (M' := M_Model_isOf) (n' := 0) (As := [.int k2, .int k5]) (sh' := SH) (b1 := (0, 0)) d_Model_game_61 rfl mw_Model_isOf (by decide) (by decide) ml_Model_308 rfl rfl (leb rfl) (bz _) (fun _ => rfl) (ok_Model_isOf hv) ?_
    by_cases c10 : v9 = 0
    · rw [if_pos c10] at h
      refine w_if_eq_t (q := 115) d_Model_game_64 rfl c10 ?_
      refine w_iinc (q := 118) (ls' := [some (.ref 54), some (.int k1), some (.int k2), some (.int s.1), some (.int s.2.1), some (.int k5), some (.int (s.2.2.1 + 1))]) d_Model_game_115 rfl (by decide) rfl rfl rfl ?_
      refine w_goto (q := 47) d_Model_game_118 rfl ?_
      cases h
      exact w_ls (by exact (And.intro rfl (And.intro rfl (And.intro rfl (And.intro rfl (And.intro rfl (And.intro rfl (And.intro rfl trivial)))))))) hr
    · rw [if_neg c10] at h
      refine w_if_eq_f (q := 67) d_Model_game_64 115 rfl rfl c10 ?_
      refine w_iload_n (q := 68) d_Model_game_67 rfl rfl ?_
      refine w_iload (q := 70) d_Model_game_68 rfl rfl ?_
      obtain ⟨v11, hv, h⟩ := bnd h
      refine w_callSi (q := 73) (M' := M_Model_isOf) (n' := 0) (As := [.int k2, .int s.2.2.1]) (sh' := SH) (b1 := (0, 0)) d_Model_game_70 rfl mw_Model_isOf (by decide) (by decide) ml_Model_308 rfl rfl (leb rfl) (bz _) (fun _ => rfl) (ok_Model_isOf hv) ?_
      by_cases c12 : v11 = 0
      · rw [if_pos c12] at h
        refine w_if_eq_t (q := 115) d_Model_game_73 rfl c12 ?_
        refine w_iinc (q := 118) (ls' := [some (.ref 54), some (.int k1), some (.int k2), some (.int s.1), some (.int s.2.1), some (.int k5), some (.int (s.2.2.1 + 1))]) d_Model_game_115 rfl (by decide) rfl rfl rfl ?_
        refine w_goto (q := 47) d_Model_game_118 rfl ?_
        cases h
        exact w_ls (by exact (And.intro rfl (And.intro rfl (And.intro rfl (And.intro rfl (And.intro rfl (And.intro rfl (And.intro rfl trivial)))))))) hr
      · rw [if_neg c12] at h
        refine w_if_eq_f (q := 76) d_Model_game_73 115 rfl rfl c12 ?_
        refine w_aload_n (q := 77) d_Model_game_76 rfl rfl ?_
        refine w_iload (q := 79) d_Model_game_77 rfl rfl ?_
        refine w_iload (q := 81) d_Model_game_79 rfl rfl ?_
        refine w_iload_n (q := 82) d_Model_game_81 rfl rfl ?_
        obtain ⟨v13, hv, h⟩ := bnd h
        refine w_callVi (q := 85) (M' := M_Model_rests) (n' := 7) (k := 54) (As := [.int k5, .int s.2.2.1, .int k2]) (sh' := SH) (b1 := (0, 0)) d_Model_game_82 rfl mw_Model_rests (by decide) (by decide) ml_Model_435 (by decide) s_54 (by decide) rfl rfl rfl (leb rfl) (bz _) (fun _ => rfl) (ok_Model_rests hv) ?_
        by_cases c14 : v13.1 = 0
        · rw [if_pos c14] at h
          refine w_if_ne_f (q := 88) d_Model_game_85 91 rfl rfl c14 ?_
          refine w_goto (q := 115) d_Model_game_88 rfl ?_
          refine w_iinc (q := 118) (ls' := [some (.ref 54), some (.int k1), some (.int k2), some (.int s.1), some (.int s.2.1), some (.int k5), some (.int (s.2.2.1 + 1))]) d_Model_game_115 rfl (by decide) rfl rfl rfl ?_
          refine w_goto (q := 47) d_Model_game_118 rfl ?_
          cases h
          exact w_ls (by exact (And.intro rfl (And.intro rfl (And.intro rfl (And.intro rfl (And.intro rfl (And.intro rfl (And.intro rfl trivial)))))))) hr
        · rw [if_neg c14] at h
          refine w_if_ne_t (q := 91) d_Model_game_85 rfl c14 ?_
          refine w_iinc (q := 94) (ls' := [some (.ref 54), some (.int k1), some (.int k2), some (.int (s.1 + 1)), some (.int s.2.1), some (.int k5), some (.int s.2.2.1)]) d_Model_game_91 rfl (by decide) rfl rfl rfl ?_
          refine w_iload (q := 96) d_Model_game_94 rfl rfl ?_
          refine w_iconst (q := 97) (v := (-1)) d_Model_game_96 rfl (by decide) ?_
          by_cases c15 : s.2.1 = (-1)
          · rw [if_pos c15] at h
            refine w_icmp_ne_f (q := 100) d_Model_game_97 111 rfl rfl c15 ?_
            refine w_bipush (q := 102) (v := 10) d_Model_game_100 rfl (by decide) ?_
            refine w_iload (q := 104) d_Model_game_102 rfl rfl ?_
            refine w_imul (q := 105) d_Model_game_104 rfl ?_
            refine w_iload (q := 107) d_Model_game_105 rfl rfl ?_
            refine w_iadd (q := 108) d_Model_game_107 rfl ?_
            refine w_goto (q := 113) d_Model_game_108 rfl ?_
            refine w_istore (q := 115) (ls' := [some (.ref 54), some (.int k1), some (.int k2), some (.int (s.1 + 1)), some (.int ((10 * k5) + s.2.2.1)), some (.int k5), some (.int s.2.2.1)]) d_Model_game_113 rfl (by decide) rfl rfl ?_
            refine w_iinc (q := 118) (ls' := [some (.ref 54), some (.int k1), some (.int k2), some (.int (s.1 + 1)), some (.int ((10 * k5) + s.2.2.1)), some (.int k5), some (.int (s.2.2.1 + 1))]) d_Model_game_115 rfl (by decide) rfl rfl rfl ?_
            refine w_goto (q := 47) d_Model_game_118 rfl ?_
            cases h
            exact w_ls (by exact (And.intro rfl (And.intro rfl (And.intro rfl (And.intro rfl (And.intro rfl (And.intro rfl (And.intro rfl trivial)))))))) hr
          · rw [if_neg c15] at h
            refine w_icmp_ne_t (q := 111) d_Model_game_97 rfl c15 ?_
            refine w_iload (q := 113) d_Model_game_111 rfl rfl ?_
            refine w_istore (q := 115) (ls' := [some (.ref 54), some (.int k1), some (.int k2), some (.int (s.1 + 1)), some (.int s.2.1), some (.int k5), some (.int s.2.2.1)]) d_Model_game_113 rfl (by decide) rfl rfl ?_
            refine w_iinc (q := 118) (ls' := [some (.ref 54), some (.int k1), some (.int k2), some (.int (s.1 + 1)), some (.int s.2.1), some (.int k5), some (.int (s.2.2.1 + 1))]) d_Model_game_115 rfl (by decide) rfl rfl rfl ?_
            refine w_goto (q := 47) d_Model_game_118 rfl ?_
            cases h
            exact w_ls (by exact (And.intro rfl (And.intro rfl (And.intro rfl (And.intro rfl (And.intro rfl (And.intro rfl (And.intro rfl trivial)))))))) hr
def st_Model_game_33 (F : Nat) (p0 : Int32) (g : Mem) (k1 : Int32) (k2 : Int32) (s : Int32 × Int32 × Int32 × Mem) : Option ((Int32 × Int32 × Int32 × Mem) ⊕ ((Int32 × Int32 × Mem))) := (rd s.2.2.2 58 12 0).bind fun v5 => if v5 ≤ s.2.2.1 then some (.inr (s.1, s.2.1, s.2.2.2)) else (lpO (st_Model_game_47 F p0 g k1 k2 s.2.2.1) F (s.1, s.2.1, 0, s.2.2.2)).bind fun x16 => some (.inl (x16.1, x16.2.1, s.2.2.1 + 1, x16.2.2))
theorem kl_Model_game_33 {γ : GG} {tt : Bool} {F : Nat} {p0 : Int32} {g : Mem} {k1 : Int32} {k2 : Int32} {b : Nat × Nat} {Φ : PO} : ∀ (s : Int32 × Int32 × Int32 × Mem) (r : (Int32 × Int32 × Int32 × Mem) ⊕ ((Int32 × Int32 × Mem))), st_Model_game_33 F p0 g k1 k2 s = some r → RQ (PL_Model_game_33 γ tt p0 g k1 k2 b Φ) (QL_Model_game_33 γ tt p0 g k1 k2 b Φ) r → PL_Model_game_33 γ tt p0 g k1 k2 b Φ s := by
  intro s r h hr
  unfold st_Model_game_33 at h
  unfold PL_Model_game_33
  refine w_iload (q := 35) d_Model_game_33 rfl rfl ?_
  refine w_aload_n (q := 36) d_Model_game_35 rfl rfl ?_
  refine w_get (q := 39) (ci := 12) (j := 4) d_Model_game_36 rfl (by decide) fl_Model_51 (by decide) (by decide) s_54 rfl rfl ?_
  refine w_iconst (q := 40) (v := 0) d_Model_game_39 rfl (by decide) ?_
  obtain ⟨v5, hv, h⟩ := bnd h
  obtain ⟨hi, hv⟩ := rd_ok hv
  refine w_iald (q := 41) (t := 0) d_Model_game_40 rfl a_58.2 a_58.1 hi rfl ?_
  rw [hv]
  by_cases c6 : v5 ≤ s.2.2.1
  · rw [if_pos c6] at h
    refine w_icmp_ge_t (q := 127) d_Model_game_41 rfl c6 ?_
    cases h
    exact w_ls (by exact (And.intro rfl (And.intro rfl (And.intro rfl trivial)))) hr
  · rw [if_neg c6] at h
    refine w_icmp_ge_f (q := 44) d_Model_game_41 127 rfl rfl c6 ?_
    refine w_iconst (q := 45) (v := 0) d_Model_game_44 rfl (by decide) ?_
    refine w_istore (q := 47) (ls' := [some (.ref 54), some (.int k1), some (.int k2), some (.int s.1), some (.int s.2.1), some (.int s.2.2.1), some (.int 0)]) d_Model_game_45 rfl (by decide) rfl rfl ?_
    obtain ⟨x16, hx, h⟩ := bnd h
    refine w_ls (ls' := [some (.ref 54), some (.int k1), some (.int k2), some (.int s.1), some (.int s.2.1), some (.int s.2.2.1), some (.int 0)]) (And.intro rfl (And.intro rfl (And.intro rfl (And.intro rfl (And.intro rfl (And.intro rfl (And.intro rfl trivial))))))) ?_
    show PL_Model_game_47 γ tt p0 g k1 k2 s.2.2.1 _ _ (s.1, s.2.1, 0, s.2.2.2)
    refine lp_ok (kl_Model_game_47) F _ x16 hx ?_
    unfold QL_Model_game_47
    refine w_iinc (q := 124) (ls' := [some (.ref 54), some (.int k1), some (.int k2), some (.int x16.1), some (.int x16.2.1), some (.int (s.2.2.1 + 1)), none]) d_Model_game_121 rfl (by decide) rfl rfl rfl ?_
    refine w_goto (q := 33) d_Model_game_124 rfl ?_
    cases h
    exact w_ls (by exact (And.intro rfl (And.intro rfl (And.intro rfl (And.intro rfl (And.intro rfl (And.intro rfl trivial))))))) hr
def sp_Model_game (F : Nat) (p0 : Int32) (g : Mem) : Option (Int32 × Mem) := if p0 < 0 then (sp_Model_fail 1 (mset g 54 3 0)).bind fun v2 => some (v2.1, v2.2) else if p0 ≤ 1 then (sp_Model_noPlaits F (mset g 54 3 0)).bind fun v4 => (lpO (st_Model_game_33 F p0 g p0 v4) F (0, (-1), 0, (mset g 54 3 0))).bind fun x17 => if p0 = 0 then some (x17.1, x17.2.2) else some (x17.2.1, x17.2.2) else (sp_Model_fail 1 (mset g 54 3 0)).bind fun v19 => some (v19.1, v19.2)
theorem ok_Model_game {γ : GG} {tt : Bool} {F : Nat} {p0 : Int32} {g : Mem} {res : Int32 × Mem} (h : sp_Model_game F p0 g = some res) : CA γ M_Model_game 8 [.ref 54, .int p0] SH g tt (0, 0) (pI SH res.1 res.2 tt) := by
  refine CA.of mw_Model_game.1 5 rfl ?_
  show WA γ M_Model_game 8 0 [some (.ref 54), some (.int p0), none, none, none, none, none] [] SH g tt (0, 0) (pI SH res.1 res.2 tt)
  unfold sp_Model_game at h
  refine w_aload_n (q := 1) d_Model_game_0 rfl rfl ?_
  refine w_iconst (q := 2) (v := 0) d_Model_game_1 rfl (by decide) ?_
  refine w_put (q := 5) (ci := 12) (j := 3) d_Model_game_2 rfl (by decide) fl_Model_114 (by decide) (by decide) s_54 rfl rfl rfl rfl rfl rfl ?_
  refine w_iload_n (q := 6) d_Model_game_5 rfl rfl ?_
  by_cases c1 : p0 < 0
  · rw [if_pos c1] at h
    refine w_if_lt_t (q := 14) d_Model_game_6 rfl c1 ?_
    refine w_aload_n (q := 15) d_Model_game_14 rfl rfl ?_
    refine w_iconst (q := 16) (v := 1) d_Model_game_15 rfl (by decide) ?_
    obtain ⟨v2, hv, h⟩ := bnd h
    refine w_callVi (q := 19) (M' := M_Model_fail) (n' := 0) (k := 54) (As := [.int 1]) (sh' := SH) (b1 := (0, 0)) d_Model_game_16 rfl mw_Model_fail (by decide) (by decide) ml_Model_273 (by decide) s_54 (by decide) rfl rfl rfl (leb rfl) (bz _) (fun _ => rfl) (ok_Model_fail hv) ?_
    cases h
    exact w_ireturn d_Model_game_19 rfl rfl ⟨rfl, rfl, rfl, rfl⟩
  · rw [if_neg c1] at h
    refine w_if_lt_f (q := 9) d_Model_game_6 14 rfl rfl c1 ?_
    refine w_iload_n (q := 10) d_Model_game_9 rfl rfl ?_
    refine w_iconst (q := 11) (v := 1) d_Model_game_10 rfl (by decide) ?_
    by_cases c3 : p0 ≤ 1
    · rw [if_pos c3] at h
      refine w_icmp_le_t (q := 20) d_Model_game_11 rfl c3 ?_
      refine w_aload_n (q := 21) d_Model_game_20 rfl rfl ?_
      obtain ⟨v4, hv, h⟩ := bnd h
      refine w_callVi (q := 24) (M' := M_Model_noPlaits) (n' := 0) (k := 54) (As := []) (sh' := SH) (b1 := (0, 0)) d_Model_game_21 rfl mw_Model_noPlaits (by decide) (by decide) ml_Model_412 (by decide) s_54 (by decide) rfl rfl rfl (leb rfl) (bz _) (fun _ => rfl) (ok_Model_noPlaits hv) ?_
      refine w_istore_n (q := 25) (ls' := [some (.ref 54), some (.int p0), some (.int v4), none, none, none, none]) d_Model_game_24 rfl (by decide) rfl rfl ?_
      refine w_iconst (q := 26) (v := 0) d_Model_game_25 rfl (by decide) ?_
      refine w_istore_n (q := 27) (ls' := [some (.ref 54), some (.int p0), some (.int v4), some (.int 0), none, none, none]) d_Model_game_26 rfl (by decide) rfl rfl ?_
      refine w_iconst (q := 28) (v := (-1)) d_Model_game_27 rfl (by decide) ?_
      refine w_istore (q := 30) (ls' := [some (.ref 54), some (.int p0), some (.int v4), some (.int 0), some (.int ((-1))), none, none]) d_Model_game_28 rfl (by decide) rfl rfl ?_
      refine w_iconst (q := 31) (v := 0) d_Model_game_30 rfl (by decide) ?_
      refine w_istore (q := 33) (ls' := [some (.ref 54), some (.int p0), some (.int v4), some (.int 0), some (.int ((-1))), some (.int 0), none]) d_Model_game_31 rfl (by decide) rfl rfl ?_
      obtain ⟨x17, hx, h⟩ := bnd h
      refine w_ls (ls' := [some (.ref 54), some (.int p0), some (.int v4), some (.int 0), some (.int ((-1))), some (.int 0), none]) (And.intro rfl (And.intro rfl (And.intro rfl (And.intro rfl (And.intro rfl (And.intro rfl trivial)))))) ?_
      show PL_Model_game_33 γ tt p0 g p0 v4 _ _ (0, (-1), 0, (mset g 54 3 0))
      refine lp_ok (kl_Model_game_33) F _ x17 hx ?_
      unfold QL_Model_game_33
      refine w_iload_n (q := 128) d_Model_game_127 rfl rfl ?_
      by_cases c18 : p0 = 0
      · rw [if_pos c18] at h
        refine w_if_ne_f (q := 131) d_Model_game_128 135 rfl rfl c18 ?_
        refine w_iload_n (q := 132) d_Model_game_131 rfl rfl ?_
        refine w_goto (q := 137) d_Model_game_132 rfl ?_
        cases h
        exact w_ireturn d_Model_game_137 rfl rfl ⟨rfl, rfl, rfl, rfl⟩
      · rw [if_neg c18] at h
        refine w_if_ne_t (q := 135) d_Model_game_128 rfl c18 ?_
        refine w_iload (q := 137) d_Model_game_135 rfl rfl ?_
        cases h
        exact w_ireturn d_Model_game_137 rfl rfl ⟨rfl, rfl, rfl, rfl⟩
    · rw [if_neg c3] at h
      refine w_icmp_le_f (q := 14) d_Model_game_11 20 rfl rfl c3 ?_
      refine w_aload_n (q := 15) d_Model_game_14 rfl rfl ?_
      refine w_iconst (q := 16) (v := 1) d_Model_game_15 rfl (by decide) ?_
      obtain ⟨v19, hv, h⟩ := bnd h
      refine w_callVi (q := 19) (M' := M_Model_fail) (n' := 0) (k := 54) (As := [.int 1]) (sh' := SH) (b1 := (0, 0)) d_Model_game_16 rfl mw_Model_fail (by decide) (by decide) ml_Model_273 (by decide) s_54 (by decide) rfl rfl rfl (leb rfl) (bz _) (fun _ => rfl) (ok_Model_fail hv) ?_
      cases h
      exact w_ireturn d_Model_game_19 rfl rfl ⟨rfl, rfl, rfl, rfl⟩
def sp_Model_drawOf (p0 : Int32) (g : Mem) : Option (Int32 × Mem) := (rm ((((mset g 54 34 (((g 54 34) * 1103515245) + 12345)) 54 34) >>> (16 &&& 31)) &&& 32767) p0).bind fun v1 => some (v1, (mset g 54 34 (((g 54 34) * 1103515245) + 12345)))
theorem ok_Model_drawOf {γ : GG} {tt : Bool} {p0 : Int32} {g : Mem} {res : Int32 × Mem} (h : sp_Model_drawOf p0 g = some res) : CA γ M_Model_drawOf 0 [.ref 54, .int p0] SH g tt (0, 0) (pI SH res.1 res.2 tt) := by
  refine CA.of mw_Model_drawOf.1 0 rfl ?_
  show WA γ M_Model_drawOf 0 0 [some (.ref 54), some (.int p0)] [] SH g tt (0, 0) (pI SH res.1 res.2 tt)
  unfold sp_Model_drawOf at h
  refine w_aload_n (q := 1) d_Model_drawOf_0 rfl rfl ?_
  refine w_aload_n (q := 2) d_Model_drawOf_1 rfl rfl ?_
  refine w_get (q := 5) (ci := 12) (j := 34) d_Model_drawOf_2 rfl (by decide) fl_Model_438 (by decide) (by decide) s_54 rfl rfl ?_
  refine w_ldcw (q := 8) d_Model_drawOf_5 rfl co_Model_441 ?_
  refine w_imul (q := 9) d_Model_drawOf_8 rfl ?_
  refine w_sipush (q := 12) (v := 12345) d_Model_drawOf_9 rfl (by decide) ?_
  refine w_iadd (q := 13) d_Model_drawOf_12 rfl ?_
  refine w_put (q := 16) (ci := 12) (j := 34) d_Model_drawOf_13 rfl (by decide) fl_Model_438 (by decide) (by decide) s_54 rfl rfl rfl rfl rfl rfl ?_
  refine w_aload_n (q := 17) d_Model_drawOf_16 rfl rfl ?_
  refine w_get (q := 20) (ci := 12) (j := 34) d_Model_drawOf_17 rfl (by decide) fl_Model_438 (by decide) (by decide) s_54 rfl rfl ?_
  refine w_bipush (q := 22) (v := 16) d_Model_drawOf_20 rfl (by decide) ?_
  refine w_ishr (q := 23) d_Model_drawOf_22 rfl ?_
  refine w_sipush (q := 26) (v := 32767) d_Model_drawOf_23 rfl (by decide) ?_
  refine w_iand (q := 27) d_Model_drawOf_26 rfl ?_
  refine w_iload_n (q := 28) d_Model_drawOf_27 rfl rfl ?_
  obtain ⟨v1, hv, h⟩ := bnd h
  obtain ⟨hz, hv⟩ := rm_ok hv
  refine w_irem (q := 29) d_Model_drawOf_28 rfl hz ?_
  rw [hv]
  cases h
  exact w_ireturn d_Model_drawOf_29 rfl rfl ⟨rfl, rfl, rfl, rfl⟩
def PL_Model_season_61 (γ : GG) (tt : Bool) (p0 : Int32) (p1 : Int32) (p2 : Int32) (g : Mem) (k2 : Int32) (k3 : Int32) (b : Nat × Nat) (Φ : PO) (s : Int32 × Int32 × Mem) : Prop := WA γ M_Model_season 5 61 [some (.ref 54), none, some (.int k2), some (.int k3), some (.int s.1), some (.int s.2.1), none, none, none, none] [] SH s.2.2 tt b Φ
def QL_Model_season_61 (γ : GG) (tt : Bool) (p0 : Int32) (p1 : Int32) (p2 : Int32) (g : Mem) (k2 : Int32) (k3 : Int32) (b : Nat × Nat) (Φ : PO) (x : (Int32 × Mem)) : Prop := WA γ M_Model_season 5 200 [some (.ref 54), none, none, some (.int k3), some (.int x.1), none, none, none, none, none] [] SH x.2 tt b Φ
def sp_Model_season_j168_61 (F : Nat) (p0 : Int32) (p1 : Int32) (p2 : Int32) (k2 : Int32) (k3 : Int32) (g : Mem) (m0 : Mem) (x4 : Int32) (x5 : Int32) (x6 : Int32) : Option ((Int32 × Int32 × Mem) ⊕ ((Int32 × Mem))) := (sp_Model_yearGoes F m0).bind fun v19 => (sp_Model_records F v19).bind fun v20 => if (x6 &&& (v20 ^^^ (-1))) = 0 then some (.inl (x4 + 0, x5 + 1, v19)) else some (.inl (x4 + 1, x5 + 1, v19))
theorem ok_Model_season_j168_61 {γ : GG} {tt : Bool} {F : Nat} {p0 : Int32} {p1 : Int32} {p2 : Int32} {k2 : Int32} {k3 : Int32} {g : Mem} {m0 : Mem} {x4 : Int32} {x5 : Int32} {x6 : Int32} {b : Nat × Nat} {Φ : PO} {r : (Int32 × Int32 × Mem) ⊕ ((Int32 × Mem))} (h : sp_Model_season_j168_61 F p0 p1 p2 k2 k3 g m0 x4 x5 x6 = some r) (hr : RQ (PL_Model_season_61 γ tt p0 p1 p2 g k2 k3 b Φ) (QL_Model_season_61 γ tt p0 p1 p2 g k2 k3 b Φ) r) : WA γ M_Model_season 5 168 [some (.ref 54), none, some (.int k2), some (.int k3), some (.int x4), some (.int x5), some (.int x6), none, none, none] [] SH m0 tt b Φ := by
  unfold sp_Model_season_j168_61 at h
  refine w_aload_n (q := 169) d_Model_season_168 rfl rfl ?_
  obtain ⟨v19, hv, h⟩ := bnd h
  refine w_callVv (q := 172) (M' := M_Model_yearGoes) (n' := 4) (k := 54) (As := []) (sh' := SH) (b1 := (0, 0)) d_Model_season_169 rfl mw_Model_yearGoes (by decide) (by decide) ml_Model_371 (by decide) s_54 (by decide) rfl rfl rfl (leb rfl) (bz _) (fun _ => rfl) (ok_Model_yearGoes hv) ?_
  refine w_iload (q := 174) d_Model_season_172 rfl rfl ?_
  refine w_iload (q := 176) d_Model_season_174 rfl rfl ?_
  refine w_aload_n (q := 177) d_Model_season_176 rfl rfl ?_
  obtain ⟨v20, hv, h⟩ := bnd h
  refine w_callVi (q := 180) (M' := M_Model_records) (n' := 2) (k := 54) (As := []) (sh' := SH) (b1 := (0, 0)) d_Model_season_177 rfl mw_Model_records (by decide) (by decide) ml_Model_329 (by decide) s_54 (by decide) rfl rfl rfl (leb rfl) (bz _) (fun _ => rfl) (ok_Model_records hv) ?_
  refine w_iconst (q := 181) (v := (-1)) d_Model_season_180 rfl (by decide) ?_
  refine w_ixor (q := 182) d_Model_season_181 rfl ?_
  refine w_iand (q := 183) d_Model_season_182 rfl ?_
  by_cases c21 : (x6 &&& (v20 ^^^ (-1))) = 0
  · rw [if_pos c21] at h
    refine w_if_eq_t (q := 190) d_Model_season_183 rfl c21 ?_
    refine w_iconst (q := 191) (v := 0) d_Model_season_190 rfl (by decide) ?_
    refine w_iadd (q := 192) d_Model_season_191 rfl ?_
    refine w_istore (q := 194) (ls' := [some (.ref 54), none, some (.int k2), some (.int k3), some (.int (x4 + 0)), some (.int x5), some (.int x6), none, none, none]) d_Model_season_192 rfl (by decide) rfl rfl ?_
    refine w_iinc (q := 197) (ls' := [some (.ref 54), none, some (.int k2), some (.int k3), some (.int (x4 + 0)), some (.int (x5 + 1)), some (.int x6), none, none, none]) d_Model_season_194 rfl (by decide) rfl rfl rfl ?_
    refine w_goto (q := 61) d_Model_season_197 rfl ?_
    cases h
    exact w_ls (by exact (And.intro rfl (And.intro rfl (And.intro rfl (And.intro rfl (And.intro rfl trivial)))))) hr
  · rw [if_neg c21] at h
    refine w_if_eq_f (q := 186) d_Model_season_183 190 rfl rfl c21 ?_
    refine w_iconst (q := 187) (v := 1) d_Model_season_186 rfl (by decide) ?_
    refine w_goto (q := 191) d_Model_season_187 rfl ?_
    refine w_iadd (q := 192) d_Model_season_191 rfl ?_
    refine w_istore (q := 194) (ls' := [some (.ref 54), none, some (.int k2), some (.int k3), some (.int (x4 + 1)), some (.int x5), some (.int x6), none, none, none]) d_Model_season_192 rfl (by decide) rfl rfl ?_
    refine w_iinc (q := 197) (ls' := [some (.ref 54), none, some (.int k2), some (.int k3), some (.int (x4 + 1)), some (.int (x5 + 1)), some (.int x6), none, none, none]) d_Model_season_194 rfl (by decide) rfl rfl rfl ?_
    refine w_goto (q := 61) d_Model_season_197 rfl ?_
    cases h
    exact w_ls (by exact (And.intro rfl (And.intro rfl (And.intro rfl (And.intro rfl (And.intro rfl trivial)))))) hr
def sp_Model_season_j154_61 (F : Nat) (p0 : Int32) (p1 : Int32) (p2 : Int32) (k2 : Int32) (k3 : Int32) (g : Mem) (m0 : Mem) (x4 : Int32) (x5 : Int32) (x6 : Int32) (x7 : Int32) (x8 : Int32) (x9 : Int32) : Option ((Int32 × Int32 × Mem) ⊕ ((Int32 × Mem))) := if x8 = 1 then (sp_Model_shaveNow F x7 x9 m0).bind fun v18 => sp_Model_season_j168_61 F p0 p1 p2 k2 k3 g v18 x4 x5 x6 else sp_Model_season_j168_61 F p0 p1 p2 k2 k3 g m0 x4 x5 x6
theorem ok_Model_season_j154_61 {γ : GG} {tt : Bool} {F : Nat} {p0 : Int32} {p1 : Int32} {p2 : Int32} {k2 : Int32} {k3 : Int32} {g : Mem} {m0 : Mem} {x4 : Int32} {x5 : Int32} {x6 : Int32} {x7 : Int32} {x8 : Int32} {x9 : Int32} {b : Nat × Nat} {Φ : PO} {r : (Int32 × Int32 × Mem) ⊕ ((Int32 × Mem))} (h : sp_Model_season_j154_61 F p0 p1 p2 k2 k3 g m0 x4 x5 x6 x7 x8 x9 = some r) (hr : RQ (PL_Model_season_61 γ tt p0 p1 p2 g k2 k3 b Φ) (QL_Model_season_61 γ tt p0 p1 p2 g k2 k3 b Φ) r) : WA γ M_Model_season 5 154 [some (.ref 54), none, some (.int k2), some (.int k3), some (.int x4), some (.int x5), some (.int x6), some (.int x7), some (.int x8), some (.int x9)] [] SH m0 tt b Φ := by
  unfold sp_Model_season_j154_61 at h
  refine w_iload (q := 156) d_Model_season_154 rfl rfl ?_
  refine w_iconst (q := 157) (v := 1) d_Model_season_156 rfl (by decide) ?_
  by_cases c17 : x8 = 1
  · rw [if_pos c17] at h
    refine w_icmp_ne_f (q := 160) d_Model_season_157 168 rfl rfl c17 ?_
    refine w_aload_n (q := 161) d_Model_season_160 rfl rfl ?_
    refine w_iload (q := 163) d_Model_season_161 rfl rfl ?_
    refine w_iload (q := 165) d_Model_season_163 rfl rfl ?_
    obtain ⟨v18, hv, h⟩ := bnd h
    refine w_callVv (q := 168) (M' := M_Model_shaveNow) (n' := 4) (k := 54) (As := [.int x7, .int x9]) (sh' := SH) (b1 := (0, 0)) d_Model_season_165 rfl mw_Model_shaveNow (by decide) (by decide) ml_Model_406 (by decide) s_54 (by decide) rfl rfl rfl (leb rfl) (bz _) (fun _ => rfl) (ok_Model_shaveNow hv) ?_
    refine w_ls (ls' := [some (.ref 54), none, some (.int k2), some (.int k3), some (.int x4), some (.int x5), some (.int x6), none, none, none]) (And.intro rfl (And.intro rfl (And.intro rfl (And.intro rfl (And.intro rfl (And.intro rfl trivial)))))) ?_
    exact ok_Model_season_j168_61 h hr
  · rw [if_neg c17] at h
    refine w_icmp_ne_t (q := 168) d_Model_season_157 rfl c17 ?_
    refine w_ls (ls' := [some (.ref 54), none, some (.int k2), some (.int k3), some (.int x4), some (.int x5), some (.int x6), none, none, none]) (And.intro rfl (And.intro rfl (And.intro rfl (And.intro rfl (And.intro rfl (And.intro rfl trivial)))))) ?_
    exact ok_Model_season_j168_61 h hr
def sp_Model_season_j134_61 (F : Nat) (p0 : Int32) (p1 : Int32) (p2 : Int32) (k2 : Int32) (k3 : Int32) (g : Mem) (m0 : Mem) (x4 : Int32) (x5 : Int32) (x6 : Int32) (x7 : Int32) (x8 : Int32) (y0 : Int32) : Option ((Int32 × Int32 × Mem) ⊕ ((Int32 × Mem))) := if x8 = 0 then (sp_Model_mothsEat F x7 y0 (y0 + 2) m0).bind fun v16 => sp_Model_season_j154_61 F p0 p1 p2 k2 k3 g v16.2 x4 x5 x6 x7 x8 y0 else sp_Model_season_j154_61 F p0 p1 p2 k2 k3 g m0 x4 x5 x6 x7 x8 y0
theorem ok_Model_season_j134_61 {γ : GG} {tt : Bool} {F : Nat} {p0 : Int32} {p1 : Int32} {p2 : Int32} {k2 : Int32} {k3 : Int32} {g : Mem} {m0 : Mem} {x4 : Int32} {x5 : Int32} {x6 : Int32} {x7 : Int32} {x8 : Int32} {y0 : Int32} {b : Nat × Nat} {Φ : PO} {r : (Int32 × Int32 × Mem) ⊕ ((Int32 × Mem))} (h : sp_Model_season_j134_61 F p0 p1 p2 k2 k3 g m0 x4 x5 x6 x7 x8 y0 = some r) (hr : RQ (PL_Model_season_61 γ tt p0 p1 p2 g k2 k3 b Φ) (QL_Model_season_61 γ tt p0 p1 p2 g k2 k3 b Φ) r) : WA γ M_Model_season 5 134 [some (.ref 54), none, some (.int k2), some (.int k3), some (.int x4), some (.int x5), some (.int x6), some (.int x7), some (.int x8), none] [.int y0] SH m0 tt b Φ := by
  unfold sp_Model_season_j134_61 at h
  refine w_istore (q := 136) (ls' := [some (.ref 54), none, some (.int k2), some (.int k3), some (.int x4), some (.int x5), some (.int x6), some (.int x7), some (.int x8), some (.int y0)]) d_Model_season_134 rfl (by decide) rfl rfl ?_
  refine w_iload (q := 138) d_Model_season_136 rfl rfl ?_
  by_cases c15 : x8 = 0
  · rw [if_pos c15] at h
    refine w_if_ne_f (q := 141) d_Model_season_138 154 rfl rfl c15 ?_
    refine w_aload_n (q := 142) d_Model_season_141 rfl rfl ?_
    refine w_iload (q := 144) d_Model_season_142 rfl rfl ?_
    refine w_iload (q := 146) d_Model_season_144 rfl rfl ?_
    refine w_iload (q := 148) d_Model_season_146 rfl rfl ?_
    refine w_iconst (q := 149) (v := 2) d_Model_season_148 rfl (by decide) ?_
    refine w_iadd (q := 150) d_Model_season_149 rfl ?_
    obtain ⟨v16, hv, h⟩ := bnd h
    refine w_callVi (q := 153) (M' := M_Model_mothsEat) (n' := 3) (k := 54) (As := [.int x7, .int y0, .int (y0 + 2)]) (sh' := SH) (b1 := (0, 0)) d_Model_season_150 rfl mw_Model_mothsEat (by decide) (by decide) ml_Model_390 (by decide) s_54 (by decide) rfl rfl rfl (leb rfl) (bz _) (fun _ => rfl) (ok_Model_mothsEat hv) ?_
    refine w_pop (q := 154) d_Model_season_153 rfl rfl ?_
    refine w_ls (ls' := [some (.ref 54), none, some (.int k2), some (.int k3), some (.int x4), some (.int x5), some (.int x6), some (.int x7), some (.int x8), some (.int y0)]) (And.intro rfl (And.intro rfl (And.intro rfl (And.intro rfl (And.intro rfl (And.intro rfl (And.intro rfl (And.intro rfl (And.intro rfl trivial))))))))) ?_
    exact ok_Model_season_j154_61 h hr
  · rw [if_neg c15] at h
    refine w_if_ne_t (q := 154) d_Model_season_138 rfl c15 ?_
    refine w_ls (ls' := [some (.ref 54), none, some (.int k2), some (.int k3), some (.int x4), some (.int x5), some (.int x6), some (.int x7), some (.int x8), some (.int y0)]) (And.intro rfl (And.intro rfl (And.intro rfl (And.intro rfl (And.intro rfl (And.intro rfl (And.intro rfl (And.intro rfl (And.intro rfl trivial))))))))) ?_
    exact ok_Model_season_j154_61 h hr
def sp_Model_season_j116_61 (F : Nat) (p0 : Int32) (p1 : Int32) (p2 : Int32) (k2 : Int32) (k3 : Int32) (g : Mem) (m0 : Mem) (x4 : Int32) (x5 : Int32) (x6 : Int32) (x7 : Int32) (y0 : Int32) : Option ((Int32 × Int32 × Mem) ⊕ ((Int32 × Mem))) := if y0 = 2 then sp_Model_season_j134_61 F p0 p1 p2 k2 k3 g m0 x4 x5 x6 x7 y0 0 else (sp_Model_drawOf 20 m0).bind fun v22 => sp_Model_season_j134_61 F p0 p1 p2 k2 k3 g v22.2 x4 x5 x6 x7 y0 v22.1
theorem ok_Model_season_j116_61 {γ : GG} {tt : Bool} {F : Nat} {p0 : Int32} {p1 : Int32} {p2 : Int32} {k2 : Int32} {k3 : Int32} {g : Mem} {m0 : Mem} {x4 : Int32} {x5 : Int32} {x6 : Int32} {x7 : Int32} {y0 : Int32} {b : Nat × Nat} {Φ : PO} {r : (Int32 × Int32 × Mem) ⊕ ((Int32 × Mem))} (h : sp_Model_season_j116_61 F p0 p1 p2 k2 k3 g m0 x4 x5 x6 x7 y0 = some r) (hr : RQ (PL_Model_season_61 γ tt p0 p1 p2 g k2 k3 b Φ) (QL_Model_season_61 γ tt p0 p1 p2 g k2 k3 b Φ) r) : WA γ M_Model_season 5 116 [some (.ref 54), none, some (.int k2), some (.int k3), some (.int x4), some (.int x5), some (.int x6), some (.int x7), none, none] [.int y0] SH m0 tt b Φ := by
  unfold sp_Model_season_j116_61 at h
  refine w_istore (q := 118) (ls' := [some (.ref 54), none, some (.int k2), some (.int k3), some (.int x4), some (.int x5), some (.int x6), some (.int x7), some (.int y0), none]) d_Model_season_116 rfl (by decide) rfl rfl ?_
  refine w_iload (q := 120) d_Model_season_118 rfl rfl ?_
  refine w_iconst (q := 121) (v := 2) d_Model_season_120 rfl (by decide) ?_
  by_cases c14 : y0 = 2
  · rw [if_pos c14] at h
    refine w_icmp_ne_f (q := 124) d_Model_season_121 128 rfl rfl c14 ?_
    refine w_iconst (q := 125) (v := 0) d_Model_season_124 rfl (by decide) ?_
    refine w_goto (q := 134) d_Model_season_125 rfl ?_
    refine w_ls (ls' := [some (.ref 54), none, some (.int k2), some (.int k3), some (.int x4), some (.int x5), some (.int x6), some (.int x7), some (.int y0), none]) (And.intro rfl (And.intro rfl (And.intro rfl (And.intro rfl (And.intro rfl (And.intro rfl (And.intro rfl (And.intro rfl trivial)))))))) ?_
    exact ok_Model_season_j134_61 h hr
  · rw [if_neg c14] at h
    refine w_icmp_ne_t (q := 128) d_Model_season_121 rfl c14 ?_
    refine w_aload_n (q := 129) d_Model_season_128 rfl rfl ?_
    refine w_bipush (q := 131) (v := 20) d_Model_season_129 rfl (by decide) ?_
    obtain ⟨v22, hv, h⟩ := bnd h
    refine w_callVi (q := 134) (M' := M_Model_drawOf) (n' := 0) (k := 54) (As := [.int 20]) (sh' := SH) (b1 := (0, 0)) d_Model_season_131 rfl mw_Model_drawOf (by decide) (by decide) ml_Model_446 (by decide) s_54 (by decide) rfl rfl rfl (leb rfl) (bz _) (fun _ => rfl) (ok_Model_drawOf hv) ?_
    refine w_ls (ls' := [some (.ref 54), none, some (.int k2), some (.int k3), some (.int x4), some (.int x5), some (.int x6), some (.int x7), some (.int y0), none]) (And.intro rfl (And.intro rfl (And.intro rfl (And.intro rfl (And.intro rfl (And.intro rfl (And.intro rfl (And.intro rfl trivial)))))))) ?_
    exact ok_Model_season_j134_61 h hr
def sp_Model_season_j96_61 (F : Nat) (p0 : Int32) (p1 : Int32) (p2 : Int32) (k2 : Int32) (k3 : Int32) (g : Mem) (m0 : Mem) (x4 : Int32) (x5 : Int32) (x6 : Int32) (y0 : Int32) : Option ((Int32 × Int32 × Mem) ⊕ ((Int32 × Mem))) := (rd m0 58 12 0).bind fun v12 => if v12 = 0 then sp_Model_season_j116_61 F p0 p1 p2 k2 k3 g m0 x4 x5 x6 y0 2 else (sp_Model_drawOf 3 m0).bind fun v23 => sp_Model_season_j116_61 F p0 p1 p2 k2 k3 g v23.2 x4 x5 x6 y0 v23.1
theorem ok_Model_season_j96_61 {γ : GG} {tt : Bool} {F : Nat} {p0 : Int32} {p1 : Int32} {p2 : Int32} {k2 : Int32} {k3 : Int32} {g : Mem} {m0 : Mem} {x4 : Int32} {x5 : Int32} {x6 : Int32} {y0 : Int32} {b : Nat × Nat} {Φ : PO} {r : (Int32 × Int32 × Mem) ⊕ ((Int32 × Mem))} (h : sp_Model_season_j96_61 F p0 p1 p2 k2 k3 g m0 x4 x5 x6 y0 = some r) (hr : RQ (PL_Model_season_61 γ tt p0 p1 p2 g k2 k3 b Φ) (QL_Model_season_61 γ tt p0 p1 p2 g k2 k3 b Φ) r) : WA γ M_Model_season 5 96 [some (.ref 54), none, some (.int k2), some (.int k3), some (.int x4), some (.int x5), some (.int x6), none, none, none] [.int y0] SH m0 tt b Φ := by
  unfold sp_Model_season_j96_61 at h
  refine w_istore (q := 98) (ls' := [some (.ref 54), none, some (.int k2), some (.int k3), some (.int x4), some (.int x5), some (.int x6), some (.int y0), none, none]) d_Model_season_96 rfl (by decide) rfl rfl ?_
  refine w_aload_n (q := 99) d_Model_season_98 rfl rfl ?_
  refine w_get (q := 102) (ci := 12) (j := 4) d_Model_season_99 rfl (by decide) fl_Model_51 (by decide) (by decide) s_54 rfl rfl ?_
  refine w_iconst (q := 103) (v := 0) d_Model_season_102 rfl (by decide) ?_
  obtain ⟨v12, hv, h⟩ := bnd h
  obtain ⟨hi, hv⟩ := rd_ok hv
  refine w_iald (q := 104) (t := 0) d_Model_season_103 rfl a_58.2 a_58.1 hi rfl ?_
  rw [hv]
  by_cases c13 : v12 = 0
  · rw [if_pos c13] at h
    refine w_if_ne_f (q := 107) d_Model_season_104 111 rfl rfl c13 ?_
    refine w_iconst (q := 108) (v := 2) d_Model_season_107 rfl (by decide) ?_
    refine w_goto (q := 116) d_Model_season_108 rfl ?_
    refine w_ls (ls' := [some (.ref 54), none, some (.int k2), some (.int k3), some (.int x4), some (.int x5), some (.int x6), some (.int y0), none, none]) (And.intro rfl (And.intro rfl (And.intro rfl (And.intro rfl (And.intro rfl (And.intro rfl (And.intro rfl trivial))))))) ?_
    exact ok_Model_season_j116_61 h hr
  · rw [if_neg c13] at h
    refine w_if_ne_t (q := 111) d_Model_season_104 rfl c13 ?_
    refine w_aload_n (q := 112) d_Model_season_111 rfl rfl ?_
    refine w_iconst (q := 113) (v := 3) d_Model_season_112 rfl (by decide) ?_
    obtain ⟨v23, hv, h⟩ := bnd h
    refine w_callVi (q := 116) (M' := M_Model_drawOf) (n' := 0) (k := 54) (As := [.int 3]) (sh' := SH) (b1 := (0, 0)) d_Model_season_113 rfl mw_Model_drawOf (by decide) (by decide) ml_Model_446 (by decide) s_54 (by decide) rfl rfl rfl (leb rfl) (bz _) (fun _ => rfl) (ok_Model_drawOf hv) ?_
    refine w_ls (ls' := [some (.ref 54), none, some (.int k2), some (.int k3), some (.int x4), some (.int x5), some (.int x6), some (.int y0), none, none]) (And.intro rfl (And.intro rfl (And.intro rfl (And.intro rfl (And.intro rfl (And.intro rfl (And.intro rfl trivial))))))) ?_
    exact ok_Model_season_j116_61 h hr
def st_Model_season_61 (F : Nat) (p0 : Int32) (p1 : Int32) (p2 : Int32) (g : Mem) (k2 : Int32) (k3 : Int32) (s : Int32 × Int32 × Mem) : Option ((Int32 × Int32 × Mem) ⊕ ((Int32 × Mem))) := if k2 ≤ s.2.1 then some (.inr (s.1, s.2.2)) else (sp_Model_records F s.2.2).bind fun v9 => (rd s.2.2 58 12 0).bind fun v10 => if v10 = 0 then sp_Model_season_j96_61 F p0 p1 p2 k2 k3 g s.2.2 s.1 s.2.1 v9 0 else (rd s.2.2 58 12 0).bind fun v24 => (sp_Model_drawOf v24 s.2.2).bind fun v25 => sp_Model_season_j96_61 F p0 p1 p2 k2 k3 g v25.2 s.1 s.2.1 v9 v25.1
theorem kl_Model_season_61 {γ : GG} {tt : Bool} {F : Nat} {p0 : Int32} {p1 : Int32} {p2 : Int32} {g : Mem} {k2 : Int32} {k3 : Int32} {b : Nat × Nat} {Φ : PO} : ∀ (s : Int32 × Int32 × Mem) (r : (Int32 × Int32 × Mem) ⊕ ((Int32 × Mem))), st_Model_season_61 F p0 p1 p2 g k2 k3 s = some r → RQ (PL_Model_season_61 γ tt p0 p1 p2 g k2 k3 b Φ) (QL_Model_season_61 γ tt p0 p1 p2 g k2 k3 b Φ) r → PL_Model_season_61 γ tt p0 p1 p2 g k2 k3 b Φ s := by
  intro s r h hr
  unfold st_Model_season_61 at h
  unfold PL_Model_season_61
  refine w_iload (q := 63) d_Model_season_61 rfl rfl ?_
  refine w_iload_n (q := 64) d_Model_season_63 rfl rfl ?_
  by_cases c8 : k2 ≤ s.2.1
  · rw [if_pos c8] at h
    refine w_icmp_ge_t (q := 200) d_Model_season_64 rfl c8 ?_
    cases h
    exact w_ls (by exact (And.intro rfl (And.intro rfl (And.intro rfl trivial)))) hr
  · rw [if_neg c8] at h
    refine w_icmp_ge_f (q := 67) d_Model_season_64 200 rfl rfl c8 ?_
    refine w_aload_n (q := 68) d_Model_season_67 rfl rfl ?_
    obtain ⟨v9, hv, h⟩ := bnd h
    refine w_callVi (q := 71) (M' := M_Model_records) (n' := 2) (k := 54) (As := []) (sh' := SH) (b1 := (0, 0)) d_Model_season_68 rfl mw_Model_records (by decide) (by decide) ml_Model_329 (by decide) s_54 (by decide) rfl rfl rfl (leb rfl) (bz _) (fun _ => rfl) (ok_Model_records hv) ?_
    refine w_istore (q := 73) (ls' := [some (.ref 54), none, some (.int k2), some (.int k3), some (.int s.1), some (.int s.2.1), some (.int v9), none, none, none]) d_Model_season_71 rfl (by decide) rfl rfl ?_
    refine w_aload_n (q := 74) d_Model_season_73 rfl rfl ?_
    refine w_get (q := 77) (ci := 12) (j := 4) d_Model_season_74 rfl (by decide) fl_Model_51 (by decide) (by decide) s_54 rfl rfl ?_
    refine w_iconst (q := 78) (v := 0) d_Model_season_77 rfl (by decide) ?_
    obtain ⟨v10, hv, h⟩ := bnd h
    obtain ⟨hi, hv⟩ := rd_ok hv
    refine w_iald (q := 79) (t := 0) d_Model_season_78 rfl a_58.2 a_58.1 hi rfl ?_
    rw [hv]
    by_cases c11 : v10 = 0
    · rw [if_pos c11] at h
      refine w_if_ne_f (q := 82) d_Model_season_79 86 rfl rfl c11 ?_
      refine w_iconst (q := 83) (v := 0) d_Model_season_82 rfl (by decide) ?_
      refine w_goto (q := 96) d_Model_season_83 rfl ?_
      refine w_ls (ls' := [some (.ref 54), none, some (.int k2), some (.int k3), some (.int s.1), some (.int s.2.1), some (.int v9), none, none, none]) (And.intro rfl (And.intro rfl (And.intro rfl (And.intro rfl (And.intro rfl (And.intro rfl trivial)))))) ?_
      exact ok_Model_season_j96_61 h hr
    · rw [if_neg c11] at h
      refine w_if_ne_t (q := 86) d_Model_season_79 rfl c11 ?_
      refine w_aload_n (q := 87) d_Model_season_86 rfl rfl ?_
      refine w_aload_n (q := 88) d_Model_season_87 rfl rfl ?_
      refine w_get (q := 91) (ci := 12) (j := 4) d_Model_season_88 rfl (by decide) fl_Model_51 (by decide) (by decide) s_54 rfl rfl ?_
      refine w_iconst (q := 92) (v := 0) d_Model_season_91 rfl (by decide) ?_
      obtain ⟨v24, hv, h⟩ := bnd h
      obtain ⟨hi, hv⟩ := rd_ok hv
      refine w_iald (q := 93) (t := 0) d_Model_season_92 rfl a_58.2 a_58.1 hi rfl ?_
      rw [hv]
      obtain ⟨v25, hv, h⟩ := bnd h
      refine w_callVi (q := 96) (M' := M_Model_drawOf) (n' := 0) (k := 54) (As := [.int v24]) (sh' := SH) (b1 := (0, 0)) d_Model_season_93 rfl mw_Model_drawOf (by decide) (by decide) ml_Model_446 (by decide) s_54 (by decide) rfl rfl rfl (leb rfl) (bz _) (fun _ => rfl) (ok_Model_drawOf hv) ?_
      refine w_ls (ls' := [some (.ref 54), none, some (.int k2), some (.int k3), some (.int s.1), some (.int s.2.1), some (.int v9), none, none, none]) (And.intro rfl (And.intro rfl (And.intro rfl (And.intro rfl (And.intro rfl (And.intro rfl trivial)))))) ?_
      exact ok_Model_season_j96_61 h hr
def sp_Model_season_j229 (F : Nat) (p0 : Int32) (p1 : Int32) (p2 : Int32) (g : Mem) (m0 : Mem) (y0 : Int32) : Option (Int32 × Mem) := (sp_Model_unpack F 70 231 0 m0).bind fun v30 => some (y0, v30)
theorem ok_Model_season_j229 {γ : GG} {tt : Bool} {F : Nat} {p0 : Int32} {p1 : Int32} {p2 : Int32} {g : Mem} {m0 : Mem} {y0 : Int32} {res : Int32 × Mem} (h : sp_Model_season_j229 F p0 p1 p2 g m0 y0 = some res) : WA γ M_Model_season 5 229 [some (.ref 54), none, none, none, none, none, none, none, none, none] [.int y0] SH m0 tt (0, 0) (pI SH res.1 res.2 tt) := by
  unfold sp_Model_season_j229 at h
  refine w_istore (q := 231) (ls' := [some (.ref 54), none, none, none, none, some (.int y0), none, none, none, none]) d_Model_season_229 rfl (by decide) rfl rfl ?_
  refine w_aload_n (q := 232) d_Model_season_231 rfl rfl ?_
  refine w_aload_n (q := 233) d_Model_season_232 rfl rfl ?_
  refine w_get (q := 236) (ci := 12) (j := 31) d_Model_season_233 rfl (by decide) fl_Model_90 (by decide) (by decide) s_54 rfl rfl ?_
  refine w_iconst (q := 237) (v := 0) d_Model_season_236 rfl (by decide) ?_
  obtain ⟨v30, hv, h⟩ := bnd h
  refine w_callVv (q := 240) (M' := M_Model_unpack) (n' := 0) (k := 54) (As := [.ref 70, .int 0]) (sh' := SH) (b1 := (0, 0)) d_Model_season_237 rfl mw_Model_unpack (by decide) (by decide) ml_Model_393 (by decide) s_54 (by decide) rfl rfl rfl (leb rfl) (bz _) (fun _ => rfl) (ok_Model_unpack a_70 hv) ?_
  refine w_iload (q := 242) d_Model_season_240 rfl rfl ?_
  cases h
  exact w_ireturn d_Model_season_242 rfl rfl ⟨rfl, rfl, rfl, rfl⟩
def sp_Model_season (F : Nat) (p0 : Int32) (p1 : Int32) (p2 : Int32) (g : Mem) : Option (Int32 × Mem) := (sp_Model_isIn p2.toInt64 0 2 (mset g 54 3 0)).bind fun v1 => if v1 = 0 then (sp_Model_fail 1 (mset g 54 3 0)).bind fun v3 => some (v3.1, v3.2) else (sp_Model_isIn p1.toInt64 0 40 (mset g 54 3 0)).bind fun v4 => if v4 = 0 then (sp_Model_fail 2 (mset g 54 3 0)).bind fun v6 => some (v6.1, v6.2) else (sp_Model_pack F 70 231 0 (mset g 54 3 0)).bind fun v7 => (lpO (st_Model_season_61 F p0 p1 p2 g p1 p2) F (0, 0, (mset v7 54 34 p0))).bind fun x26 => if p2 = 0 then (sp_Model_records F x26.2).bind fun v28 => (sp_Model_bitsOf F v28 x26.2).bind fun v29 => sp_Model_season_j229 F p0 p1 p2 g x26.2 v29 else if p2 = 1 then (sp_Model_owedNow F (-1) x26.2).bind fun v32 => sp_Model_season_j229 F p0 p1 p2 g x26.2 v32 else sp_Model_season_j229 F p0 p1 p2 g x26.2 x26.1
theorem ok_Model_season {γ : GG} {tt : Bool} {F : Nat} {p0 : Int32} {p1 : Int32} {p2 : Int32} {g : Mem} {res : Int32 × Mem} (h : sp_Model_season F p0 p1 p2 g = some res) : CA γ M_Model_season 5 [.ref 54, .int p0, .int p1, .int p2] SH g tt (0, 0) (pI SH res.1 res.2 tt) := by
  refine CA.of mw_Model_season.1 6 rfl ?_
  show WA γ M_Model_season 5 0 [some (.ref 54), some (.int p0), some (.int p1), some (.int p2), none, none, none, none, none, none] [] SH g tt (0, 0) (pI SH res.1 res.2 tt)
  unfold sp_Model_season at h
  refine w_aload_n (q := 1) d_Model_season_0 rfl rfl ?_
  refine w_iconst (q := 2) (v := 0) d_Model_season_1 rfl (by decide) ?_
  refine w_put (q := 5) (ci := 12) (j := 3) d_Model_season_2 rfl (by decide) fl_Model_114 (by decide) (by decide) s_54 rfl rfl rfl rfl rfl rfl ?_
  refine w_iload_n (q := 6) d_Model_season_5 rfl rfl ?_
  refine w_i2l (q := 7) d_Model_season_6 rfl ?_
  refine w_lconst (q := 8) (v := 0) d_Model_season_7 rfl (by decide) ?_
  refine w_ldc2 (q := 11) d_Model_season_8 rfl lo_Model_442 ?_
  obtain ⟨v1, hv, h⟩ := bnd h
  refine w_callSi (q := 14) (M' := M_Model_isIn) (n' := 0) (As := [.long (p2.toInt64), .long (0), .long (2)]) (sh' := SH) (b1 := (0, 0)) d_Model_season_11 rfl mw_Model_isIn (by decide) (by decide) ml_Model_117 rfl rfl (leb rfl) (bz _) (fun _ => rfl) (ok_Model_isIn hv) ?_
  by_cases c2 : v1 = 0
  · rw [if_pos c2] at h
    refine w_if_ne_f (q := 17) d_Model_season_14 23 rfl rfl c2 ?_
    refine w_aload_n (q := 18) d_Model_season_17 rfl rfl ?_
    refine w_iconst (q := 19) (v := 1) d_Model_season_18 rfl (by decide) ?_
    obtain ⟨v3, hv, h⟩ := bnd h
    refine w_callVi (q := 22) (M' := M_Model_fail) (n' := 0) (k := 54) (As := [.int 1]) (sh' := SH) (b1 := (0, 0)) d_Model_season_19 rfl mw_Model_fail (by decide) (by decide) ml_Model_273 (by decide) s_54 (by decide) rfl rfl rfl (leb rfl) (bz _) (fun _ => rfl) (ok_Model_fail hv) ?_
    cases h
    exact w_ireturn d_Model_season_22 rfl rfl ⟨rfl, rfl, rfl, rfl⟩
  · rw [if_neg c2] at h
    refine w_if_ne_t (q := 23) d_Model_season_14 rfl c2 ?_
    refine w_iload_n (q := 24) d_Model_season_23 rfl rfl ?_
    refine w_i2l (q := 25) d_Model_season_24 rfl ?_
    refine w_lconst (q := 26) (v := 0) d_Model_season_25 rfl (by decide) ?_
    refine w_ldc2 (q := 29) d_Model_season_26 rfl lo_Model_444 ?_
    obtain ⟨v4, hv, h⟩ := bnd h
    refine w_callSi (q := 32) (M' := M_Model_isIn) (n' := 0) (As := [.long (p1.toInt64), .long (0), .long (40)]) (sh' := SH) (b1 := (0, 0)) d_Model_season_29 rfl mw_Model_isIn (by decide) (by decide) ml_Model_117 rfl rfl (leb rfl) (bz _) (fun _ => rfl) (ok_Model_isIn hv) ?_
    by_cases c5 : v4 = 0
    · rw [if_pos c5] at h
      refine w_if_ne_f (q := 35) d_Model_season_32 41 rfl rfl c5 ?_
      refine w_aload_n (q := 36) d_Model_season_35 rfl rfl ?_
      refine w_iconst (q := 37) (v := 2) d_Model_season_36 rfl (by decide) ?_
      obtain ⟨v6, hv, h⟩ := bnd h
      refine w_callVi (q := 40) (M' := M_Model_fail) (n' := 0) (k := 54) (As := [.int 2]) (sh' := SH) (b1 := (0, 0)) d_Model_season_37 rfl mw_Model_fail (by decide) (by decide) ml_Model_273 (by decide) s_54 (by decide) rfl rfl rfl (leb rfl) (bz _) (fun _ => rfl) (ok_Model_fail hv) ?_
      cases h
      exact w_ireturn d_Model_season_40 rfl rfl ⟨rfl, rfl, rfl, rfl⟩
    · rw [if_neg c5] at h
      refine w_if_ne_t (q := 41) d_Model_season_32 rfl c5 ?_
      refine w_aload_n (q := 42) d_Model_season_41 rfl rfl ?_
      refine w_aload_n (q := 43) d_Model_season_42 rfl rfl ?_
      refine w_get (q := 46) (ci := 12) (j := 31) d_Model_season_43 rfl (by decide) fl_Model_90 (by decide) (by decide) s_54 rfl rfl ?_
      refine w_iconst (q := 47) (v := 0) d_Model_season_46 rfl (by decide) ?_
      obtain ⟨v7, hv, h⟩ := bnd h
      refine w_callVv (q := 50) (M' := M_Model_pack) (n' := 0) (k := 54) (As := [.ref 70, .int 0]) (sh' := SH) (b1 := (0, 0)) d_Model_season_47 rfl mw_Model_pack (by decide) (by decide) ml_Model_359 (by decide) s_54 (by decide) rfl rfl rfl (leb rfl) (bz _) (fun _ => rfl) (ok_Model_pack a_70 hv) ?_
      refine w_aload_n (q := 51) d_Model_season_50 rfl rfl ?_
      refine w_iload_n (q := 52) d_Model_season_51 rfl rfl ?_
      refine w_put (q := 55) (ci := 12) (j := 34) d_Model_season_52 rfl (by decide) fl_Model_438 (by decide) (by decide) s_54 rfl rfl rfl rfl rfl rfl ?_
      refine w_iconst (q := 56) (v := 0) d_Model_season_55 rfl (by decide) ?_
      refine w_istore (q := 58) (ls' := [some (.ref 54), some (.int p0), some (.int p1), some (.int p2), some (.int 0), none, none, none, none, none]) d_Model_season_56 rfl (by decide) rfl rfl ?_
      refine w_iconst (q := 59) (v := 0) d_Model_season_58 rfl (by decide) ?_
      refine w_istore (q := 61) (ls' := [some (.ref 54), some (.int p0), some (.int p1), some (.int p2), some (.int 0), some (.int 0), none, none, none, none]) d_Model_season_59 rfl (by decide) rfl rfl ?_
      obtain ⟨x26, hx, h⟩ := bnd h
      refine w_ls (ls' := [some (.ref 54), none, some (.int p1), some (.int p2), some (.int 0), some (.int 0), none, none, none, none]) (And.intro rfl (And.intro rfl (And.intro rfl (And.intro rfl (And.intro rfl trivial))))) ?_
      show PL_Model_season_61 γ tt p0 p1 p2 g p1 p2 _ _ (0, 0, (mset v7 54 34 p0))
      refine lp_ok (kl_Model_season_61) F _ x26 hx ?_
      unfold QL_Model_season_61
      refine w_iload_n (q := 201) d_Model_season_200 rfl rfl ?_
      by_cases c27 : p2 = 0
      · rw [if_pos c27] at h
        refine w_if_ne_f (q := 204) d_Model_season_201 214 rfl rfl c27 ?_
        refine w_aload_n (q := 205) d_Model_season_204 rfl rfl ?_
        obtain ⟨v28, hv, h⟩ := bnd h
        refine w_callVi (q := 208) (M' := M_Model_records) (n' := 2) (k := 54) (As := []) (sh' := SH) (b1 := (0, 0)) d_Model_season_205 rfl mw_Model_records (by decide) (by decide) ml_Model_329 (by decide) s_54 (by decide) rfl rfl rfl (leb rfl) (bz _) (fun _ => rfl) (ok_Model_records hv) ?_
        obtain ⟨v29, hv, h⟩ := bnd h
        refine w_callSi (q := 211) (M' := M_Model_bitsOf) (n' := 0) (As := [.int v28]) (sh' := SH) (b1 := (0, 0)) d_Model_season_208 rfl mw_Model_bitsOf (by decide) (by decide) ml_Model_332 rfl rfl (leb rfl) (bz _) (fun _ => rfl) (ok_Model_bitsOf hv) ?_
        refine w_goto (q := 229) d_Model_season_211 rfl ?_
        refine w_ls (ls' := [some (.ref 54), none, none, none, none, none, none, none, none, none]) (And.intro rfl trivial) ?_
        exact ok_Model_season_j229 h
      · rw [if_neg c27] at h
        refine w_if_ne_t (q := 214) d_Model_season_201 rfl c27 ?_
        refine w_iload_n (q := 215) d_Model_season_214 rfl rfl ?_
        refine w_iconst (q := 216) (v := 1) d_Model_season_215 rfl (by decide) ?_
        by_cases c31 : p2 = 1
        · rw [if_pos c31] at h
          refine w_icmp_ne_f (q := 219) d_Model_season_216 227 rfl rfl c31 ?_
          refine w_aload_n (q := 220) d_Model_season_219 rfl rfl ?_
          refine w_iconst (q := 221) (v := (-1)) d_Model_season_220 rfl (by decide) ?_
          obtain ⟨v32, hv, h⟩ := bnd h
          refine w_callVi (q := 224) (M' := M_Model_owedNow) (n' := 2) (k := 54) (As := [.int ((-1))]) (sh' := SH) (b1 := (0, 0)) d_Model_season_221 rfl mw_Model_owedNow (by decide) (by decide) ml_Model_403 (by decide) s_54 (by decide) rfl rfl rfl (leb rfl) (bz _) (fun _ => rfl) (ok_Model_owedNow hv) ?_
          refine w_goto (q := 229) d_Model_season_224 rfl ?_
          refine w_ls (ls' := [some (.ref 54), none, none, none, none, none, none, none, none, none]) (And.intro rfl trivial) ?_
          exact ok_Model_season_j229 h
        · rw [if_neg c31] at h
          refine w_icmp_ne_t (q := 227) d_Model_season_216 rfl c31 ?_
          refine w_iload (q := 229) d_Model_season_227 rfl rfl ?_
          refine w_ls (ls' := [some (.ref 54), none, none, none, none, none, none, none, none, none]) (And.intro rfl trivial) ?_
          exact ok_Model_season_j229 h
def PL_Model_be_2 (γ : GG) (sh : List Sh) (tt : Bool) (q0 : Nat) (q0n : Nat) (q1 : Nat) (q1n : Nat) (g : Mem) (b : Nat × Nat) (Φ : PO) (s : Int32 × Mem) : Prop := WA γ M_Model_be 0 2 [some (.ref q0), some (.ref q1), some (.int s.1)] [] sh s.2 tt b Φ
def QL_Model_be_2 (γ : GG) (sh : List Sh) (tt : Bool) (q0 : Nat) (q0n : Nat) (q1 : Nat) (q1n : Nat) (g : Mem) (b : Nat × Nat) (Φ : PO) (x : (Mem)) : Prop := WA γ M_Model_be 0 20 [none, none, none] [] sh x tt b Φ
def st_Model_be_2 (F : Nat) (q0 : Nat) (q0n : Nat) (q1 : Nat) (q1n : Nat) (g : Mem) (s : Int32 × Mem) : Option ((Int32 × Mem) ⊕ ((Mem))) := if (Int32.ofNat q0n) ≤ s.1 then some (.inr s.2) else (rd s.2 q1 q1n s.1).bind fun v2 => (wr s.2 q0 q0n s.1 v2).bind fun g3 => some (.inl (s.1 + 1, g3))
theorem kl_Model_be_2 {γ : GG} {sh : List Sh} {tt : Bool} {F : Nat} {q0 : Nat} {q0n : Nat} {q1 : Nat} {q1n : Nat} {g : Mem} {b : Nat × Nat} {Φ : PO} (hq0 : isA sh q0 q0n) (hq1 : isA sh q1 q1n) : ∀ (s : Int32 × Mem) (r : (Int32 × Mem) ⊕ ((Mem))), st_Model_be_2 F q0 q0n q1 q1n g s = some r → RQ (PL_Model_be_2 γ sh tt q0 q0n q1 q1n g b Φ) (QL_Model_be_2 γ sh tt q0 q0n q1 q1n g b Φ) r → PL_Model_be_2 γ sh tt q0 q0n q1 q1n g b Φ s := by
  intro s r h hr
  unfold st_Model_be_2 at h
  unfold PL_Model_be_2
  refine w_iload_n (q := 3) d_Model_be_2 rfl rfl ?_
  refine w_aload_n (q := 4) d_Model_be_3 rfl rfl ?_
  refine w_alen (q := 5) d_Model_be_4 rfl hq0.2 hq0.1 (Or.inl ⟨rfl, Or.inl rfl⟩) rfl ?_
  by_cases c1 : (Int32.ofNat q0n) ≤ s.1
  · rw [if_pos c1] at h
    refine w_icmp_ge_t (q := 20) d_Model_be_5 rfl c1 ?_
    cases h
    exact w_ls (by exact trivial) hr
  · rw [if_neg c1] at h
    refine w_icmp_ge_f (q := 8) d_Model_be_5 20 rfl rfl c1 ?_
    refine w_aload_n (q := 9) d_Model_be_8 rfl rfl ?_
    refine w_iload_n (q := 10) d_Model_be_9 rfl rfl ?_
    refine w_aload_n (q := 11) d_Model_be_10 rfl rfl ?_
    refine w_iload_n (q := 12) d_Model_be_11 rfl rfl ?_
    obtain ⟨v2, hv, h⟩ := bnd h
    obtain ⟨hi, hv⟩ := rd_ok hv
    refine w_iald (q := 13) (t := 0) d_Model_be_12 rfl hq1.2 hq1.1 hi rfl ?_
    rw [hv]
    obtain ⟨g3, hv, h⟩ := bnd h
    obtain ⟨hi, hv⟩ := wr_ok hv
    refine w_iast (q := 14) d_Model_be_13 rfl hq0.2 hq0.1 hi hv ?_
    refine w_iinc (q := 17) (ls' := [some (.ref q0), some (.ref q1), some (.int (s.1 + 1))]) d_Model_be_14 rfl (by decide) rfl rfl rfl ?_
    refine w_goto (q := 2) d_Model_be_17 rfl ?_
    cases h
    exact w_ls (by exact (And.intro rfl (And.intro rfl (And.intro rfl trivial)))) hr
def sp_Model_be (F : Nat) (q0 : Nat) (q0n : Nat) (q1 : Nat) (q1n : Nat) (g : Mem) : Option (Mem) := (lpO (st_Model_be_2 F q0 q0n q1 q1n g) F (0, g)).bind fun x4 => some x4
theorem ok_Model_be {γ : GG} {sh : List Sh} {tt : Bool} {F : Nat} {q0 : Nat} {q0n : Nat} {q1 : Nat} {q1n : Nat} {g : Mem} (hq0 : isA sh q0 q0n) (hq1 : isA sh q1 q1n) {res : Mem} (h : sp_Model_be F q0 q0n q1 q1n g = some res) : CA γ M_Model_be 0 [.ref q0, .ref q1] sh g tt (0, 0) (pV sh res tt) := by
  refine CA.of mw_Model_be.1 1 rfl ?_
  show WA γ M_Model_be 0 0 [some (.ref q0), some (.ref q1), none] [] sh g tt (0, 0) (pV sh res tt)
  unfold sp_Model_be at h
  refine w_iconst (q := 1) (v := 0) d_Model_be_0 rfl (by decide) ?_
  refine w_istore_n (q := 2) (ls' := [some (.ref q0), some (.ref q1), some (.int 0)]) d_Model_be_1 rfl (by decide) rfl rfl ?_
  obtain ⟨x4, hx, h⟩ := bnd h
  refine w_ls (ls' := [some (.ref q0), some (.ref q1), some (.int 0)]) (And.intro rfl (And.intro rfl (And.intro rfl trivial))) ?_
  show PL_Model_be_2 γ sh tt q0 q0n q1 q1n g _ _ (0, g)
  refine lp_ok (kl_Model_be_2 hq0 hq1) F _ x4 hx ?_
  unfold QL_Model_be_2
  cases h
  exact w_return d_Model_be_20 rfl ⟨rfl, rfl, rfl, rfl⟩
def sp_Model_image (F : Nat) (g : Mem) : Option (Mem) := (sp_Model_pack F 73 231 0 (mset (mset (mset (mset g 54 3 0) 54 35 1) 54 36 ((mset (mset g 54 3 0) 54 35 1) 54 27)) 54 37 ((mset (mset (mset g 54 3 0) 54 35 1) 54 36 ((mset (mset g 54 3 0) 54 35 1) 54 27)) 54 28))).bind fun v1 => (sp_Model_be F 74 9240 67 9240 v1).bind fun v2 => (sp_Model_be F 75 8 71 8 v2).bind fun v3 => (sp_Model_be F 76 8 72 8 v3).bind fun v4 => (sp_Model_be F 77 3 64 3 v4).bind fun v5 => some v5
theorem ok_Model_image {γ : GG} {tt : Bool} {F : Nat} {g : Mem} {res : Mem} (h : sp_Model_image F g = some res) : CA γ M_Model_image 1 [.ref 54] SH g tt (0, 0) (pV SH res tt) := by
  refine CA.of mw_Model_image.1 0 rfl ?_
  show WA γ M_Model_image 1 0 [some (.ref 54)] [] SH g tt (0, 0) (pV SH res tt)
  unfold sp_Model_image at h
  refine w_aload_n (q := 1) d_Model_image_0 rfl rfl ?_
  refine w_iconst (q := 2) (v := 0) d_Model_image_1 rfl (by decide) ?_
  refine w_put (q := 5) (ci := 12) (j := 3) d_Model_image_2 rfl (by decide) fl_Model_114 (by decide) (by decide) s_54 rfl rfl rfl rfl rfl rfl ?_
  refine w_aload_n (q := 6) d_Model_image_5 rfl rfl ?_
  refine w_iconst (q := 7) (v := 1) d_Model_image_6 rfl (by decide) ?_
  refine w_put (q := 10) (ci := 12) (j := 35) d_Model_image_7 rfl (by decide) fl_Model_301 (by decide) (by decide) s_54 rfl rfl rfl rfl rfl rfl ?_
  refine w_aload_n (q := 11) d_Model_image_10 rfl rfl ?_
  refine w_aload_n (q := 12) d_Model_image_11 rfl rfl ?_
  refine w_get (q := 15) (ci := 12) (j := 27) d_Model_image_12 rfl (by decide) fl_Model_295 (by decide) (by decide) s_54 rfl rfl ?_
  refine w_put (q := 18) (ci := 12) (j := 36) d_Model_image_15 rfl (by decide) fl_Model_449 (by decide) (by decide) s_54 rfl rfl rfl rfl rfl rfl ?_
  refine w_aload_n (q := 19) d_Model_image_18 rfl rfl ?_
  refine w_aload_n (q := 20) d_Model_image_19 rfl rfl ?_
  refine w_get (q := 23) (ci := 12) (j := 28) d_Model_image_20 rfl (by decide) fl_Model_298 (by decide) (by decide) s_54 rfl rfl ?_
  refine w_put (q := 26) (ci := 12) (j := 37) d_Model_image_23 rfl (by decide) fl_Model_452 (by decide) (by decide) s_54 rfl rfl rfl rfl rfl rfl ?_
  refine w_aload_n (q := 27) d_Model_image_26 rfl rfl ?_
  refine w_aload_n (q := 28) d_Model_image_27 rfl rfl ?_
  refine w_get (q := 31) (ci := 12) (j := 38) d_Model_image_28 rfl (by decide) fl_Model_99 (by decide) (by decide) s_54 rfl rfl ?_
  refine w_iconst (q := 32) (v := 0) d_Model_image_31 rfl (by decide) ?_
  obtain ⟨v1, hv, h⟩ := bnd h
  refine w_callVv (q := 35) (M' := M_Model_pack) (n' := 0) (k := 54) (As := [.ref 73, .int 0]) (sh' := SH) (b1 := (0, 0)) d_Model_image_32 rfl mw_Model_pack (by decide) (by decide) ml_Model_359 (by decide) s_54 (by decide) rfl rfl rfl (leb rfl) (bz _) (fun _ => rfl) (ok_Model_pack a_73 hv) ?_
  refine w_aload_n (q := 36) d_Model_image_35 rfl rfl ?_
  refine w_get (q := 39) (ci := 12) (j := 39) d_Model_image_36 rfl (by decide) fl_Model_102 (by decide) (by decide) s_54 rfl rfl ?_
  refine w_aload_n (q := 40) d_Model_image_39 rfl rfl ?_
  refine w_get (q := 43) (ci := 12) (j := 23) d_Model_image_40 rfl (by decide) fl_Model_81 (by decide) (by decide) s_54 rfl rfl ?_
  obtain ⟨v2, hv, h⟩ := bnd h
  refine w_callSv (q := 46) (M' := M_Model_be) (n' := 0) (As := [.ref 74, .ref 67]) (sh' := SH) (b1 := (0, 0)) d_Model_image_43 rfl mw_Model_be (by decide) (by decide) ml_Model_455 rfl rfl (leb rfl) (bz _) (fun _ => rfl) (ok_Model_be a_74 a_67 hv) ?_
  refine w_aload_n (q := 47) d_Model_image_46 rfl rfl ?_
  refine w_get (q := 50) (ci := 12) (j := 40) d_Model_image_47 rfl (by decide) fl_Model_105 (by decide) (by decide) s_54 rfl rfl ?_
  refine w_aload_n (q := 51) d_Model_image_50 rfl rfl ?_
  refine w_get (q := 54) (ci := 12) (j := 32) d_Model_image_51 rfl (by decide) fl_Model_93 (by decide) (by decide) s_54 rfl rfl ?_
  obtain ⟨v3, hv, h⟩ := bnd h
  refine w_callSv (q := 57) (M' := M_Model_be) (n' := 0) (As := [.ref 75, .ref 71]) (sh' := SH) (b1 := (0, 0)) d_Model_image_54 rfl mw_Model_be (by decide) (by decide) ml_Model_455 rfl rfl (leb rfl) (bz _) (fun _ => rfl) (ok_Model_be a_75 a_71 hv) ?_
  refine w_aload_n (q := 58) d_Model_image_57 rfl rfl ?_
  refine w_get (q := 61) (ci := 12) (j := 41) d_Model_image_58 rfl (by decide) fl_Model_108 (by decide) (by decide) s_54 rfl rfl ?_
  refine w_aload_n (q := 62) d_Model_image_61 rfl rfl ?_
  refine w_get (q := 65) (ci := 12) (j := 33) d_Model_image_62 rfl (by decide) fl_Model_96 (by decide) (by decide) s_54 rfl rfl ?_
  obtain ⟨v4, hv, h⟩ := bnd h
  refine w_callSv (q := 68) (M' := M_Model_be) (n' := 0) (As := [.ref 76, .ref 72]) (sh' := SH) (b1 := (0, 0)) d_Model_image_65 rfl mw_Model_be (by decide) (by decide) ml_Model_455 rfl rfl (leb rfl) (bz _) (fun _ => rfl) (ok_Model_be a_76 a_72 hv) ?_
  refine w_aload_n (q := 69) d_Model_image_68 rfl rfl ?_
  refine w_get (q := 72) (ci := 12) (j := 42) d_Model_image_69 rfl (by decide) fl_Model_111 (by decide) (by decide) s_54 rfl rfl ?_
  refine w_aload_n (q := 73) d_Model_image_72 rfl rfl ?_
  refine w_get (q := 76) (ci := 12) (j := 10) d_Model_image_73 rfl (by decide) fl_Model_68 (by decide) (by decide) s_54 rfl rfl ?_
  obtain ⟨v5, hv, h⟩ := bnd h
  refine w_callSv (q := 79) (M' := M_Model_be) (n' := 0) (As := [.ref 77, .ref 64]) (sh' := SH) (b1 := (0, 0)) d_Model_image_76 rfl mw_Model_be (by decide) (by decide) ml_Model_455 rfl rfl (leb rfl) (bz _) (fun _ => rfl) (ok_Model_be a_77 a_64 hv) ?_
  cases h
  exact w_return d_Model_image_79 rfl ⟨rfl, rfl, rfl, rfl⟩
def sp_Model_restore (F : Nat) (g : Mem) : Option (Int32 × Mem) := if ((mset g 54 3 0) 54 35) = 0 then some (0, (mset g 54 3 0)) else (sp_Model_unpack F 73 231 0 (mset (mset (mset g 54 3 0) 54 27 ((mset g 54 3 0) 54 36)) 54 28 ((mset (mset g 54 3 0) 54 27 ((mset g 54 3 0) 54 36)) 54 37))).bind fun v2 => (sp_Model_be F 67 9240 74 9240 v2).bind fun v3 => (sp_Model_be F 71 8 75 8 v3).bind fun v4 => (sp_Model_be F 72 8 76 8 v4).bind fun v5 => (sp_Model_be F 64 3 77 3 v5).bind fun v6 => some (1, v6)
theorem ok_Model_restore {γ : GG} {tt : Bool} {F : Nat} {g : Mem} {res : Int32 × Mem} (h : sp_Model_restore F g = some res) : CA γ M_Model_restore 1 [.ref 54] SH g tt (0, 0) (pI SH res.1 res.2 tt) := by
  refine CA.of mw_Model_restore.1 0 rfl ?_
  show WA γ M_Model_restore 1 0 [some (.ref 54)] [] SH g tt (0, 0) (pI SH res.1 res.2 tt)
  unfold sp_Model_restore at h
  refine w_aload_n (q := 1) d_Model_restore_0 rfl rfl ?_
  refine w_iconst (q := 2) (v := 0) d_Model_restore_1 rfl (by decide) ?_
  refine w_put (q := 5) (ci := 12) (j := 3) d_Model_restore_2 rfl (by decide) fl_Model_114 (by decide) (by decide) s_54 rfl rfl rfl rfl rfl rfl ?_
  refine w_aload_n (q := 6) d_Model_restore_5 rfl rfl ?_
  refine w_get (q := 9) (ci := 12) (j := 35) d_Model_restore_6 rfl (by decide) fl_Model_301 (by decide) (by decide) s_54 rfl rfl ?_
  by_cases c1 : ((mset g 54 3 0) 54 35) = 0
  · rw [if_pos c1] at h
    refine w_if_ne_f (q := 12) d_Model_restore_9 14 rfl rfl c1 ?_
    refine w_iconst (q := 13) (v := 0) d_Model_restore_12 rfl (by decide) ?_
    cases h
    exact w_ireturn d_Model_restore_13 rfl rfl ⟨rfl, rfl, rfl, rfl⟩
  · rw [if_neg c1] at h
    refine w_if_ne_t (q := 14) d_Model_restore_9 rfl c1 ?_
    refine w_aload_n (q := 15) d_Model_restore_14 rfl rfl ?_
    refine w_aload_n (q := 16) d_Model_restore_15 rfl rfl ?_
    refine w_get (q := 19) (ci := 12) (j := 36) d_Model_restore_16 rfl (by decide) fl_Model_449 (by decide) (by decide) s_54 rfl rfl ?_
    refine w_put (q := 22) (ci := 12) (j := 27) d_Model_restore_19 rfl (by decide) fl_Model_295 (by decide) (by decide) s_54 rfl rfl rfl rfl rfl rfl ?_
    refine w_aload_n (q := 23) d_Model_restore_22 rfl rfl ?_
    refine w_aload_n (q := 24) d_Model_restore_23 rfl rfl ?_
    refine w_get (q := 27) (ci := 12) (j := 37) d_Model_restore_24 rfl (by decide) fl_Model_452 (by decide) (by decide) s_54 rfl rfl ?_
    refine w_put (q := 30) (ci := 12) (j := 28) d_Model_restore_27 rfl (by decide) fl_Model_298 (by decide) (by decide) s_54 rfl rfl rfl rfl rfl rfl ?_
    refine w_aload_n (q := 31) d_Model_restore_30 rfl rfl ?_
    refine w_aload_n (q := 32) d_Model_restore_31 rfl rfl ?_
    refine w_get (q := 35) (ci := 12) (j := 38) d_Model_restore_32 rfl (by decide) fl_Model_99 (by decide) (by decide) s_54 rfl rfl ?_
    refine w_iconst (q := 36) (v := 0) d_Model_restore_35 rfl (by decide) ?_
    obtain ⟨v2, hv, h⟩ := bnd h
    refine w_callVv (q := 39) (M' := M_Model_unpack) (n' := 0) (k := 54) (As := [.ref 73, .int 0]) (sh' := SH) (b1 := (0, 0)) d_Model_restore_36 rfl mw_Model_unpack (by decide) (by decide) ml_Model_393 (by decide) s_54 (by decide) rfl rfl rfl (leb rfl) (bz _) (fun _ => rfl) (ok_Model_unpack a_73 hv) ?_
    refine w_aload_n (q := 40) d_Model_restore_39 rfl rfl ?_
    refine w_get (q := 43) (ci := 12) (j := 23) d_Model_restore_40 rfl (by decide) fl_Model_81 (by decide) (by decide) s_54 rfl rfl ?_
    refine w_aload_n (q := 44) d_Model_restore_43 rfl rfl ?_
    refine w_get (q := 47) (ci := 12) (j := 39) d_Model_restore_44 rfl (by decide) fl_Model_102 (by decide) (by decide) s_54 rfl rfl ?_
    obtain ⟨v3, hv, h⟩ := bnd h
    refine w_callSv (q := 50) (M' := M_Model_be) (n' := 0) (As := [.ref 67, .ref 74]) (sh' := SH) (b1 := (0, 0)) d_Model_restore_47 rfl mw_Model_be (by decide) (by decide) ml_Model_455 rfl rfl (leb rfl) (bz _) (fun _ => rfl) (ok_Model_be a_67 a_74 hv) ?_
    refine w_aload_n (q := 51) d_Model_restore_50 rfl rfl ?_
    refine w_get (q := 54) (ci := 12) (j := 32) d_Model_restore_51 rfl (by decide) fl_Model_93 (by decide) (by decide) s_54 rfl rfl ?_
    refine w_aload_n (q := 55) d_Model_restore_54 rfl rfl ?_
    refine w_get (q := 58) (ci := 12) (j := 40) d_Model_restore_55 rfl (by decide) fl_Model_105 (by decide) (by decide) s_54 rfl rfl ?_
    obtain ⟨v4, hv, h⟩ := bnd h
    refine w_callSv (q := 61) (M' := M_Model_be) (n' := 0) (As := [.ref 71, .ref 75]) (sh' := SH) (b1 := (0, 0)) d_Model_restore_58 rfl mw_Model_be (by decide) (by decide) ml_Model_455 rfl rfl (leb rfl) (bz _) (fun _ => rfl) (ok_Model_be a_71 a_75 hv) ?_
    refine w_aload_n (q := 62) d_Model_restore_61 rfl rfl ?_
    refine w_get (q := 65) (ci := 12) (j := 33) d_Model_restore_62 rfl (by decide) fl_Model_96 (by decide) (by decide) s_54 rfl rfl ?_
    refine w_aload_n (q := 66) d_Model_restore_65 rfl rfl ?_
    refine w_get (q := 69) (ci := 12) (j := 41) d_Model_restore_66 rfl (by decide) fl_Model_108 (by decide) (by decide) s_54 rfl rfl ?_
    obtain ⟨v5, hv, h⟩ := bnd h
    refine w_callSv (q := 72) (M' := M_Model_be) (n' := 0) (As := [.ref 72, .ref 76]) (sh' := SH) (b1 := (0, 0)) d_Model_restore_69 rfl mw_Model_be (by decide) (by decide) ml_Model_455 rfl rfl (leb rfl) (bz _) (fun _ => rfl) (ok_Model_be a_72 a_76 hv) ?_
    refine w_aload_n (q := 73) d_Model_restore_72 rfl rfl ?_
    refine w_get (q := 76) (ci := 12) (j := 10) d_Model_restore_73 rfl (by decide) fl_Model_68 (by decide) (by decide) s_54 rfl rfl ?_
    refine w_aload_n (q := 77) d_Model_restore_76 rfl rfl ?_
    refine w_get (q := 80) (ci := 12) (j := 42) d_Model_restore_77 rfl (by decide) fl_Model_111 (by decide) (by decide) s_54 rfl rfl ?_
    obtain ⟨v6, hv, h⟩ := bnd h
    refine w_callSv (q := 83) (M' := M_Model_be) (n' := 0) (As := [.ref 64, .ref 77]) (sh' := SH) (b1 := (0, 0)) d_Model_restore_80 rfl mw_Model_be (by decide) (by decide) ml_Model_455 rfl rfl (leb rfl) (bz _) (fun _ => rfl) (ok_Model_be a_64 a_77 hv) ?_
    refine w_iconst (q := 84) (v := 1) d_Model_restore_83 rfl (by decide) ?_
    cases h
    exact w_ireturn d_Model_restore_84 rfl rfl ⟨rfl, rfl, rfl, rfl⟩
