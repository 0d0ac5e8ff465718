/-! functions and theorems of 26.model1 (by program: wip/gen/main.py) -/
def PL_Model_areRivals_2 (γ : GG) (tt : Bool) (p0 : Int32) (p1 : Int32) (g : Mem) (k1 : Int32) (k2 : Int32) (b : Nat × Nat) (Φ : PO) (s : Int32) : Prop := WA γ M_Model_areRivals 3 2 [some (.ref 54), some (.int k1), some (.int k2), some (.int s), none] [] SH g tt b Φ
def QL_Model_areRivals_2 (γ : GG) (tt : Bool) (p0 : Int32) (p1 : Int32) (g : Mem) (k1 : Int32) (k2 : Int32) (b : Nat × Nat) (Φ : PO) (x : (Unit) ⊕ (Unit)) : Prop := match x with
  | .inl x => WA γ M_Model_areRivals 3 109 [none, none, none, none, none] [] SH g tt b Φ
  | .inr x => WA γ M_Model_areRivals 3 123 [none, none, none, none, none] [] SH g tt b Φ
def PL_Model_areRivals_41 (γ : GG) (tt : Bool) (p0 : Int32) (p1 : Int32) (g : Mem) (k1 : Int32) (k2 : Int32) (k3 : Int32) (b : Nat × Nat) (Φ : PO) (s : Int32) : Prop := WA γ M_Model_areRivals 3 41 [some (.ref 54), some (.int k1), some (.int k2), some (.int k3), some (.int s)] [] SH g tt b Φ
def QL_Model_areRivals_41 (γ : GG) (tt : Bool) (p0 : Int32) (p1 : Int32) (g : Mem) (k1 : Int32) (k2 : Int32) (k3 : Int32) (b : Nat × Nat) (Φ : PO) (x : (Unit) ⊕ (Unit)) : Prop := match x with
  | .inl x => WA γ M_Model_areRivals 3 109 [none, none, none, none, none] [] SH g tt b Φ
  | .inr x => WA γ M_Model_areRivals 3 117 [some (.ref 54), some (.int k1), some (.int k2), some (.int k3), none] [] SH g tt b Φ
def st_Model_areRivals_41 (F : Nat) (p0 : Int32) (p1 : Int32) (g : Mem) (k1 : Int32) (k2 : Int32) (k3 : Int32) (s : Int32) : Option ((Int32) ⊕ ((Unit) ⊕ (Unit))) := if (g 54 26) ≤ s then some (.inr (.inr ())) else (sp_Model_of k3 3 g).bind fun v8 => (sp_Model_isOfKind s 0 v8 g).bind fun v9 => if v9 = 0 then some (.inl (s + 1)) else (sp_Model_of s 1 g).bind fun v11 => if v11 = k2 then (sp_Model_of s 2 g).bind fun v13 => (sp_Model_of k3 2 g).bind fun v14 => if v13 = v14 then (sp_Model_of s 4 g).bind fun v16 => (sp_Model_of k3 4 g).bind fun v17 => if v16 = v17 then some (.inl (s + 1)) else some (.inr (.inl ())) else some (.inl (s + 1)) else some (.inl (s + 1))
theorem kl_Model_areRivals_41 {γ : GG} {tt : Bool} {F : Nat} {p0 : Int32} {p1 : Int32} {g : Mem} {k1 : Int32} {k2 : Int32} {k3 : Int32} {b : Nat × Nat} {Φ : PO} : ∀ (s : Int32) (r : (Int32) ⊕ ((Unit) ⊕ (Unit))), st_Model_areRivals_41 F p0 p1 g k1 k2 k3 s = some r → RQ (PL_Model_areRivals_41 γ tt p0 p1 g k1 k2 k3 b Φ) (QL_Model_areRivals_41 γ tt p0 p1 g k1 k2 k3 b Φ) r → PL_Model_areRivals_41 γ tt p0 p1 g k1 k2 k3 b Φ s := by
  intro s r h hr
  unfold st_Model_areRivals_41 at h
  unfold PL_Model_areRivals_41
  refine w_iload (q := 43) d_Model_areRivals_41 rfl rfl ?_
  refine w_aload_n (q := 44) d_Model_areRivals_43 rfl rfl ?_
  refine w_get (q := 47) (ci := 12) (j := 26) d_Model_areRivals_44 rfl (by decide) fl_Model_121 (by decide) (by decide) s_54 rfl rfl ?_
  by_cases c7 : (g 54 26) ≤ s
  · rw [if_pos c7] at h
    refine w_icmp_ge_t (q := 117) d_Model_areRivals_47 rfl c7 ?_
    cases h
    exact w_ls (by exact (And.intro rfl (And.intro rfl (And.intro rfl (And.intro rfl trivial))))) hr
  · rw [if_neg c7] at h
    refine w_icmp_ge_f (q := 50) d_Model_areRivals_47 117 rfl rfl c7 ?_
    refine w_aload_n (q := 51) d_Model_areRivals_50 rfl rfl ?_
    refine w_iload (q := 53) d_Model_areRivals_51 rfl rfl ?_
    refine w_iconst (q := 54) (v := 0) d_Model_areRivals_53 rfl (by decide) ?_
    refine w_aload_n (q := 55) d_Model_areRivals_54 rfl rfl ?_
    refine w_iload_n (q := 56) d_Model_areRivals_55 rfl rfl ?_
    refine w_iconst (q := 57) (v := 3) d_Model_areRivals_56 rfl (by decide) ?_
    obtain ⟨v8, hv, h⟩ := bnd h
    refine w_callVi (q := 60) (M' := M_Model_of) (n' := 0) (k := 54) (As := [.int k3, .int 3]) (sh' := SH) (b1 := (0, 0)) d_Model_areRivals_57 rfl mw_Model_of (by decide) (by decide) ml_Model_305 (by decide) s_54 (by decide) rfl rfl rfl (leb rfl) (bz _) (fun _ => rfl) (ok_Model_of hv) ?_
    obtain ⟨v9, hv, h⟩ := bnd h
    refine w_callVi (q := 63) (M' := M_Model_isOfKind) (n' := 2) (k := 54) (As := [.int s, .int 0, .int v8]) (sh' := SH) (b1 := (0, 0)) d_Model_areRivals_60 rfl mw_Model_isOfKind (by decide) (by decide) ml_Model_396 (by decide) s_54 (by decide) rfl rfl rfl (leb rfl) (bz _) (fun _ => rfl) (ok_Model_isOfKind hv) ?_
    by_cases c10 : v9 = 0
    · rw [if_pos c10] at h
      refine w_if_eq_t (q := 111) d_Model_areRivals_63 rfl c10 ?_
      refine w_iinc (q := 114) (ls' := [some (.ref 54), some (.int k1), some (.int k2), some (.int k3), some (.int (s + 1))]) d_Model_areRivals_111 rfl (by decide) rfl rfl rfl ?_
      refine w_goto (q := 41) d_Model_areRivals_114 rfl ?_
      cases h
      exact w_ls (by exact (And.intro rfl (And.intro rfl (And.intro rfl (And.intro rfl (And.intro rfl trivial)))))) hr
    · rw [if_neg c10] at h
      refine w_if_eq_f (q := 66) d_Model_areRivals_63 111 rfl rfl c10 ?_
      refine w_aload_n (q := 67) d_Model_areRivals_66 rfl rfl ?_
      refine w_iload (q := 69) d_Model_areRivals_67 rfl rfl ?_
      refine w_iconst (q := 70) (v := 1) d_Model_areRivals_69 rfl (by decide) ?_
      obtain ⟨v11, hv, h⟩ := bnd h
      refine w_callVi (q := 73) (M' := M_Model_of) (n' := 0) (k := 54) (As := [.int s, .int 1]) (sh' := SH) (b1 := (0, 0)) d_Model_areRivals_70 rfl mw_Model_of (by decide) (by decide) ml_Model_305 (by decide) s_54 (by decide) rfl rfl rfl (leb rfl) (bz _) (fun _ => rfl) (ok_Model_of hv) ?_
      refine w_iload_n (q := 74) d_Model_areRivals_73 rfl rfl ?_
      by_cases c12 : v11 = k2
      · rw [if_pos c12] at h
        refine w_icmp_ne_f (q := 77) d_Model_areRivals_74 111 rfl rfl c12 ?_
        refine w_aload_n (q := 78) d_Model_areRivals_77 rfl rfl ?_
        refine w_iload (q := 80) d_Model_areRivals_78 rfl rfl ?_
        refine w_iconst (q := 81) (v := 2) d_Model_areRivals_80 rfl (by decide) ?_
        obtain ⟨v13, hv, h⟩ := bnd h
        refine w_callVi (q := 84) (M' := M_Model_of) (n' := 0) (k := 54) (As := [.int s, .int 2]) (sh' := SH) (b1 := (0, 0)) d_Model_areRivals_81 rfl mw_Model_of (by decide) (by decide) ml_Model_305 (by decide) s_54 (by decide) rfl rfl rfl (leb rfl) (bz _) (fun _ => rfl) (ok_Model_of hv) ?_
        refine w_aload_n (q := 85) d_Model_areRivals_84 rfl rfl ?_
        refine w_iload_n (q := 86) d_Model_areRivals_85 rfl rfl ?_
        refine w_iconst (q := 87) (v := 2) d_Model_areRivals_86 rfl (by decide) ?_
        obtain ⟨v14, hv, h⟩ := bnd h
        refine w_callVi (q := 90) (M' := M_Model_of) (n' := 0) (k := 54) (As := [.int k3, .int 2]) (sh' := SH) (b1 := (0, 0)) d_Model_areRivals_87 rfl mw_Model_of (by decide) (by decide) ml_Model_305 (by decide) s_54 (by decide) rfl rfl rfl (leb rfl) (bz _) (fun _ => rfl) (ok_Model_of hv) ?_
        by_cases c15 : v13 = v14
        · rw [if_pos c15] at h
          refine w_icmp_ne_f (q := 93) d_Model_areRivals_90 111 rfl rfl c15 ?_
          refine w_aload_n (q := 94) d_Model_areRivals_93 rfl rfl ?_
          refine w_iload (q := 96) d_Model_areRivals_94 rfl rfl ?_
          refine w_iconst (q := 97) (v := 4) d_Model_areRivals_96 rfl (by decide) ?_
          obtain ⟨v16, hv, h⟩ := bnd h
          refine w_callVi (q := 100) (M' := M_Model_of) (n' := 0) (k := 54) (As := [.int s, .int 4]) (sh' := SH) (b1 := (0, 0)) d_Model_areRivals_97 rfl mw_Model_of (by decide) (by decide) ml_Model_305 (by decide) s_54 (by decide) rfl rfl rfl (leb rfl) (bz _) (fun _ => rfl) (ok_Model_of hv) ?_
          refine w_aload_n (q := 101) d_Model_areRivals_100 rfl rfl ?_
          refine w_iload_n (q := 102) d_Model_areRivals_101 rfl rfl ?_
          refine w_iconst (q := 103) (v := 4) d_Model_areRivals_102 rfl (by decide) ?_
          obtain ⟨v17, hv, h⟩ := bnd h
          refine w_callVi (q := 106) (M' := M_Model_of) (n' := 0) (k := 54) (As := [.int k3, .int 4]) (sh' := SH) (b1 := (0, 0)) d_Model_areRivals_103 rfl mw_Model_of (by decide) (by decide) ml_Model_305 (by decide) s_54 (by decide) rfl rfl rfl (leb rfl) (bz _) (fun _ => rfl) (ok_Model_of hv) ?_
          by_cases c18 : v16 = v17
          · rw [if_pos c18] at h
            refine w_icmp_eq_t (q := 111) d_Model_areRivals_106 rfl c18 ?_
            refine w_iinc (q := 114) (ls' := [some (.ref 54), some (.int k1), some (.int k2), some (.int k3), some (.int (s + 1))]) d_Model_areRivals_111 rfl (by decide) rfl rfl rfl ?_
            refine w_goto (q := 41) d_Model_areRivals_114 rfl ?_
            cases h
            exact w_ls (by exact (And.intro rfl (And.intro rfl (And.intro rfl (And.intro rfl (And.intro rfl trivial)))))) hr
          · rw [if_neg c18] at h
            refine w_icmp_eq_f (q := 109) d_Model_areRivals_106 111 rfl rfl c18 ?_
            cases h
            exact w_ls (by exact trivial) hr
        · rw [if_neg c15] at h
          refine w_icmp_ne_t (q := 111) d_Model_areRivals_90 rfl c15 ?_
          refine w_iinc (q := 114) (ls' := [some (.ref 54), some (.int k1), some (.int k2), some (.int k3), some (.int (s + 1))]) d_Model_areRivals_111 rfl (by decide) rfl rfl rfl ?_
          refine w_goto (q := 41) d_Model_areRivals_114 rfl ?_
          cases h
          exact w_ls (by exact (And.intro rfl (And.intro rfl (And.intro rfl (And.intro rfl (And.intro rfl trivial)))))) hr
      · rw [if_neg c12] at h
        refine w_icmp_ne_t (q := 111) d_Model_areRivals_74 rfl c12 ?_
        refine w_iinc (q := 114) (ls' := [some (.ref 54), some (.int k1), some (.int k2), some (.int k3), some (.int (s + 1))]) d_Model_areRivals_111 rfl (by decide) rfl rfl rfl ?_
        refine w_goto (q := 41) d_Model_areRivals_114 rfl ?_
        cases h
        exact w_ls (by exact (And.intro rfl (And.intro rfl (And.intro rfl (And.intro rfl (And.intro rfl trivial)))))) hr
def st_Model_areRivals_2 (F : Nat) (p0 : Int32) (p1 : Int32) (g : Mem) (k1 : Int32) (k2 : Int32) (s : Int32) : Option ((Int32) ⊕ ((Unit) ⊕ (Unit))) := if (g 54 26) ≤ s then some (.inr (.inr ())) else (sp_Model_of s 3 g).bind fun v2 => (sp_Model_isOfKind s 0 v2 g).bind fun v3 => if v3 = 0 then some (.inl (s + 1)) else (sp_Model_of s 1 g).bind fun v5 => if v5 = k1 then (lpO (st_Model_areRivals_41 F p0 p1 g k1 k2 s) F 0).bind fun x19 => match x19 with | .inl x20 => some (.inr (.inl ())) | .inr x21 => some (.inl (s + 1)) else some (.inl (s + 1))
theorem kl_Model_areRivals_2 {γ : GG} {tt : Bool} {F : Nat} {p0 : Int32} {p1 : Int32} {g : Mem} {k1 : Int32} {k2 : Int32} {b : Nat × Nat} {Φ : PO} : ∀ (s : Int32) (r : (Int32) ⊕ ((Unit) ⊕ (Unit))), st_Model_areRivals_2 F p0 p1 g k1 k2 s = some r → RQ (PL_Model_areRivals_2 γ tt p0 p1 g k1 k2 b Φ) (QL_Model_areRivals_2 γ tt p0 p1 g k1 k2 b Φ) r → PL_Model_areRivals_2 γ tt p0 p1 g k1 k2 b Φ s := by
  intro s r h hr
  unfold st_Model_areRivals_2 at h
  unfold PL_Model_areRivals_2
  refine w_iload_n (q := 3) d_Model_areRivals_2 rfl rfl ?_
  refine w_aload_n (q := 4) d_Model_areRivals_3 rfl rfl ?_
  refine w_get (q := 7) (ci := 12) (j := 26) d_Model_areRivals_4 rfl (by decide) fl_Model_121 (by decide) (by decide) s_54 rfl rfl ?_
  by_cases c1 : (g 54 26) ≤ s
  · rw [if_pos c1] at h
    refine w_icmp_ge_t (q := 123) d_Model_areRivals_7 rfl c1 ?_
    cases h
    exact w_ls (by exact trivial) hr
  · rw [if_neg c1] at h
    refine w_icmp_ge_f (q := 10) d_Model_areRivals_7 123 rfl rfl c1 ?_
    refine w_aload_n (q := 11) d_Model_areRivals_10 rfl rfl ?_
    refine w_iload_n (q := 12) d_Model_areRivals_11 rfl rfl ?_
    refine w_iconst (q := 13) (v := 0) d_Model_areRivals_12 rfl (by decide) ?_
    refine w_aload_n (q := 14) d_Model_areRivals_13 rfl rfl ?_
    refine w_iload_n (q := 15) d_Model_areRivals_14 rfl rfl ?_
    refine w_iconst (q := 16) (v := 3) d_Model_areRivals_15 rfl (by decide) ?_
    obtain ⟨v2, hv, h⟩ := bnd h
    refine w_callVi (q := 19) (M' := M_Model_of) (n' := 0) (k := 54) (As := [.int s, .int 3]) (sh' := SH) (b1 := (0, 0)) d_Model_areRivals_16 rfl mw_Model_of (by decide) (by decide) ml_Model_305 (by decide) s_54 (by decide) rfl rfl rfl (leb rfl) (bz _) (fun _ => rfl) (ok_Model_of hv) ?_
    obtain ⟨v3, hv, h⟩ := bnd h
    refine w_callVi (q := 22) (M' := M_Model_isOfKind) (n' := 2) (k := 54) (As := [.int s, .int 0, .int v2]) (sh' := SH) (b1 := (0, 0)) d_Model_areRivals_19 rfl mw_Model_isOfKind (by decide) (by decide) ml_Model_396 (by decide) s_54 (by decide) rfl rfl rfl (leb rfl) (bz _) (fun _ => rfl) (ok_Model_isOfKind hv) ?_
    by_cases c4 : v3 = 0
    · rw [if_pos c4] at h
      refine w_if_eq_t (q := 117) d_Model_areRivals_22 rfl c4 ?_
      refine w_iinc (q := 120) (ls' := [some (.ref 54), some (.int k1), some (.int k2), some (.int (s + 1)), none]) d_Model_areRivals_117 rfl (by decide) rfl rfl rfl ?_
      refine w_goto (q := 2) d_Model_areRivals_120 rfl ?_
      cases h
      exact w_ls (by exact (And.intro rfl (And.intro rfl (And.intro rfl (And.intro rfl trivial))))) hr
    · rw [if_neg c4] at h
      refine w_if_eq_f (q := 25) d_Model_areRivals_22 117 rfl rfl c4 ?_
      refine w_aload_n (q := 26) d_Model_areRivals_25 rfl rfl ?_
      refine w_iload_n (q := 27) d_Model_areRivals_26 rfl rfl ?_
      refine w_iconst (q := 28) (v := 1) d_Model_areRivals_27 rfl (by decide) ?_
      obtain ⟨v5, hv, h⟩ := bnd h
      refine w_callVi (q := 31) (M' := M_Model_of) (n' := 0) (k := 54) (As := [.int s, .int 1]) (sh' := SH) (b1 := (0, 0)) d_Model_areRivals_28 rfl mw_Model_of (by decide) (by decide) ml_Model_305 (by decide) s_54 (by decide) rfl rfl rfl (leb rfl) (bz _) (fun _ => rfl) (ok_Model_of hv) ?_
      refine w_iload_n (q := 32) d_Model_areRivals_31 rfl rfl ?_
      by_cases c6 : v5 = k1
      · rw [if_pos c6] at h
        refine w_icmp_eq_t (q := 38) d_Model_areRivals_32 rfl c6 ?_
        refine w_iconst (q := 39) (v := 0) d_Model_areRivals_38 rfl (by decide) ?_
        refine w_istore (q := 41) (ls' := [some (.ref 54), some (.int k1), some (.int k2), some (.int s), some (.int 0)]) d_Model_areRivals_39 rfl (by decide) rfl rfl ?_
        obtain ⟨x19, hx, h⟩ := bnd h
        refine w_ls (ls' := [some (.ref 54), some (.int k1), some (.int k2), some (.int s), some (.int 0)]) (And.intro rfl (And.intro rfl (And.intro rfl (And.intro rfl (And.intro rfl trivial))))) ?_
        show PL_Model_areRivals_41 γ tt p0 p1 g k1 k2 s _ _ 0
        refine lp_ok (kl_Model_areRivals_41) F _ x19 hx ?_
        unfold QL_Model_areRivals_41
        rcases x19 with x20 | x21
        · dsimp only at h ⊢
          cases h
          exact w_ls (by exact trivial) hr
        · dsimp only at h ⊢
          refine w_iinc (q := 120) (ls' := [some (.ref 54), some (.int k1), some (.int k2), some (.int (s + 1)), none]) d_Model_areRivals_117 rfl (by decide) rfl rfl rfl ?_
          refine w_goto (q := 2) d_Model_areRivals_120 rfl ?_
          cases h
          exact w_ls (by exact (And.intro rfl (And.intro rfl (And.intro rfl (And.intro rfl trivial))))) hr
      · rw [if_neg c6] at h
        refine w_icmp_eq_f (q := 35) d_Model_areRivals_32 38 rfl rfl c6 ?_
        refine w_goto (q := 117) d_Model_areRivals_35 rfl ?_
        refine w_iinc (q := 120) (ls' := [some (.ref 54), some (.int k1), some (.int k2), some (.int (s + 1)), none]) d_Model_areRivals_117 rfl (by decide) rfl rfl rfl ?_
        refine w_goto (q := 2) d_Model_areRivals_120 rfl ?_
        cases h
        exact w_ls (by exact (And.intro rfl (And.intro rfl (And.intro rfl (And.intro rfl trivial))))) hr
def sp_Model_areRivals (F : Nat) (p0 : Int32) (p1 : Int32) (g : Mem) : Option (Int32) := (lpO (st_Model_areRivals_2 F p0 p1 g p0 p1) F 0).bind fun x22 => match x22 with | .inl x23 => some 1 | .inr x24 => some 0
theorem ok_Model_areRivals {γ : GG} {tt : Bool} {F : Nat} {p0 : Int32} {p1 : Int32} {g : Mem} {res : Int32} (h : sp_Model_areRivals F p0 p1 g = some res) : CA γ M_Model_areRivals 3 [.ref 54, .int p0, .int p1] SH g tt (0, 0) (pI SH res g tt) := by
  refine CA.of mw_Model_areRivals.1 2 rfl ?_
  show WA γ M_Model_areRivals 3 0 [some (.ref 54), some (.int p0), some (.int p1), none, none] [] SH g tt (0, 0) (pI SH res g tt)
  unfold sp_Model_areRivals at h
  refine w_iconst (q := 1) (v := 0) d_Model_areRivals_0 rfl (by decide) ?_
  refine w_istore_n (q := 2) (ls' := [some (.ref 54), some (.int p0), some (.int p1), some (.int 0), none]) d_Model_areRivals_1 rfl (by decide) rfl rfl ?_
  obtain ⟨x22, hx, h⟩ := bnd h
  refine w_ls (ls' := [some (.ref 54), some (.int p0), some (.int p1), some (.int 0), none]) (And.intro rfl (And.intro rfl (And.intro rfl (And.intro rfl trivial)))) ?_
  show PL_Model_areRivals_2 γ tt p0 p1 g p0 p1 _ _ 0
  refine lp_ok (kl_Model_areRivals_2) F _ x22 hx ?_
  unfold QL_Model_areRivals_2
  rcases x22 with x23 | x24
  · dsimp only at h ⊢
    refine w_iconst (q := 110) (v := 1) d_Model_areRivals_109 rfl (by decide) ?_
    cases h
    exact w_ireturn d_Model_areRivals_110 rfl rfl ⟨rfl, rfl, rfl, rfl⟩
  · dsimp only at h ⊢
    refine w_iconst (q := 124) (v := 0) d_Model_areRivals_123 rfl (by decide) ?_
    cases h
    exact w_ireturn d_Model_areRivals_124 rfl rfl ⟨rfl, rfl, rfl, rfl⟩
def PL_Model_rivals_9 (γ : GG) (tt : Bool) (g : Mem) (m0 : Mem) (b : Nat × Nat) (Φ : PO) (s : Int32 × Int32) : Prop := WA γ M_Model_rivals 4 9 [some (.ref 54), some (.int s.1), some (.int s.2), none] [] SH m0 tt b Φ
def QL_Model_rivals_9 (γ : GG) (tt : Bool) (g : Mem) (m0 : Mem) (b : Nat × Nat) (Φ : PO) (x : (Int32)) : Prop := WA γ M_Model_rivals 4 62 [none, some (.int x), none, none] [] SH m0 tt b Φ
def PL_Model_rivals_23 (γ : GG) (tt : Bool) (g : Mem) (k2 : Int32) (m0 : Mem) (b : Nat × Nat) (Φ : PO) (s : Int32 × Int32) : Prop := WA γ M_Model_rivals 4 23 [some (.ref 54), some (.int s.1), some (.int k2), some (.int s.2)] [] SH m0 tt b Φ
def QL_Model_rivals_23 (γ : GG) (tt : Bool) (g : Mem) (k2 : Int32) (m0 : Mem) (b : Nat × Nat) (Φ : PO) (x : (Int32)) : Prop := WA γ M_Model_rivals 4 56 [some (.ref 54), some (.int x), some (.int k2), none] [] SH m0 tt b Φ
def st_Model_rivals_23 (F : Nat) (g : Mem) (k2 : Int32) (m0 : Mem) (s : Int32 × Int32) : Option ((Int32 × Int32) ⊕ ((Int32))) := (rd m0 58 12 0).bind fun v3 => if v3 ≤ s.2 then some (.inr s.1) else (sp_Model_areRivals F k2 s.2 m0).bind fun v5 => if v5 = 0 then some (.inl (s.1 + 0, s.2 + 1)) else some (.inl (s.1 + 1, s.2 + 1))
theorem kl_Model_rivals_23 {γ : GG} {tt : Bool} {F : Nat} {g : Mem} {k2 : Int32} {m0 : Mem} {b : Nat × Nat} {Φ : PO} : ∀ (s : Int32 × Int32) (r : (Int32 × Int32) ⊕ ((Int32))), st_Model_rivals_23 F g k2 m0 s = some r → RQ (PL_Model_rivals_23 γ tt g k2 m0 b Φ) (QL_Model_rivals_23 γ tt g k2 m0 b Φ) r → PL_Model_rivals_23 γ tt g k2 m0 b Φ s := by
  intro s r h hr
  unfold st_Model_rivals_23 at h
  unfold PL_Model_rivals_23
  refine w_iload_n (q := 24) d_Model_rivals_23 rfl rfl ?_
  refine w_aload_n (q := 25) d_Model_rivals_24 rfl rfl ?_
  refine w_get (q := 28) (ci := 12) (j := 4) d_Model_rivals_25 rfl (by decide) fl_Model_51 (by decide) (by decide) s_54 rfl rfl ?_
  refine w_iconst (q := 29) (v := 0) d_Model_rivals_28 rfl (by decide) ?_
  obtain ⟨v3, hv, h⟩ := bnd h
  obtain ⟨hi, hv⟩ := rd_ok hv
  refine w_iald (q := 30) (t := 0) d_Model_rivals_29 rfl a_58.2 a_58.1 hi rfl ?_
  rw [hv]
  by_cases c4 : v3 ≤ s.2
  · rw [if_pos c4] at h
    refine w_icmp_ge_t (q := 56) d_Model_rivals_30 rfl c4 ?_
    cases h
    exact w_ls (by exact (And.intro rfl (And.intro rfl (And.intro rfl trivial)))) hr
  · rw [if_neg c4] at h
    refine w_icmp_ge_f (q := 33) d_Model_rivals_30 56 rfl rfl c4 ?_
    refine w_iload_n (q := 34) d_Model_rivals_33 rfl rfl ?_
    refine w_aload_n (q := 35) d_Model_rivals_34 rfl rfl ?_
    refine w_iload_n (q := 36) d_Model_rivals_35 rfl rfl ?_
    refine w_iload_n (q := 37) d_Model_rivals_36 rfl rfl ?_
    obtain ⟨v5, hv, h⟩ := bnd h
    refine w_callVi (q := 40) (M' := M_Model_areRivals) (n' := 3) (k := 54) (As := [.int k2, .int s.2]) (sh' := SH) (b1 := (0, 0)) d_Model_rivals_37 rfl mw_Model_areRivals (by decide) (by decide) ml_Model_400 (by decide) s_54 (by decide) rfl rfl rfl (leb rfl) (bz _) (fun _ => rfl) (ok_Model_areRivals hv) ?_
    by_cases c6 : v5 = 0
    · rw [if_pos c6] at h
      refine w_if_eq_t (q := 47) d_Model_rivals_40 rfl c6 ?_
      refine w_iconst (q := 48) (v := 0) d_Model_rivals_47 rfl (by decide) ?_
      refine w_iadd (q := 49) d_Model_rivals_48 rfl ?_
      refine w_istore_n (q := 50) (ls' := [some (.ref 54), some (.int (s.1 + 0)), some (.int k2), some (.int s.2)]) d_Model_rivals_49 rfl (by decide) rfl rfl ?_
      refine w_iinc (q := 53) (ls' := [some (.ref 54), some (.int (s.1 + 0)), some (.int k2), some (.int (s.2 + 1))]) d_Model_rivals_50 rfl (by decide) rfl rfl rfl ?_
      refine w_goto (q := 23) d_Model_rivals_53 rfl ?_
      cases h
      exact w_ls (by exact (And.intro rfl (And.intro rfl (And.intro rfl (And.intro rfl trivial))))) hr
    · rw [if_neg c6] at h
      refine w_if_eq_f (q := 43) d_Model_rivals_40 47 rfl rfl c6 ?_
      refine w_iconst (q := 44) (v := 1) d_Model_rivals_43 rfl (by decide) ?_
      refine w_goto (q := 48) d_Model_rivals_44 rfl ?_
      refine w_iadd (q := 49) d_Model_rivals_48 rfl ?_
      refine w_istore_n (q := 50) (ls' := [some (.ref 54), some (.int (s.1 + 1)), some (.int k2), some (.int s.2)]) d_Model_rivals_49 rfl (by decide) rfl rfl ?_
      refine w_iinc (q := 53) (ls' := [some (.ref 54), some (.int (s.1 + 1)), some (.int k2), some (.int (s.2 + 1))]) d_Model_rivals_50 rfl (by decide) rfl rfl rfl ?_
      refine w_goto (q := 23) d_Model_rivals_53 rfl ?_
      cases h
      exact w_ls (by exact (And.intro rfl (And.intro rfl (And.intro rfl (And.intro rfl trivial))))) hr
def st_Model_rivals_9 (F : Nat) (g : Mem) (m0 : Mem) (s : Int32 × Int32) : Option ((Int32 × Int32) ⊕ ((Int32))) := (rd m0 58 12 0).bind fun v1 => if v1 ≤ s.2 then some (.inr s.1) else (lpO (st_Model_rivals_23 F g s.2 m0) F (s.1, s.2 + 1)).bind fun x7 => some (.inl (x7, s.2 + 1))
theorem kl_Model_rivals_9 {γ : GG} {tt : Bool} {F : Nat} {g : Mem} {m0 : Mem} {b : Nat × Nat} {Φ : PO} : ∀ (s : Int32 × Int32) (r : (Int32 × Int32) ⊕ ((Int32))), st_Model_rivals_9 F g m0 s = some r → RQ (PL_Model_rivals_9 γ tt g m0 b Φ) (QL_Model_rivals_9 γ tt g m0 b Φ) r → PL_Model_rivals_9 γ tt g m0 b Φ s := by
  intro s r h hr
  unfold st_Model_rivals_9 at h
  unfold PL_Model_rivals_9
  refine w_iload_n (q := 10) d_Model_rivals_9 rfl rfl ?_
  refine w_aload_n (q := 11) d_Model_rivals_10 rfl rfl ?_
  refine w_get (q := 14) (ci := 12) (j := 4) d_Model_rivals_11 rfl (by decide) fl_Model_51 (by decide) (by decide) s_54 rfl rfl ?_
  refine w_iconst (q := 15) (v := 0) d_Model_rivals_14 rfl (by decide) ?_
  obtain ⟨v1, hv, h⟩ := bnd h
  obtain ⟨hi, hv⟩ := rd_ok hv
  refine w_iald (q := 16) (t := 0) d_Model_rivals_15 rfl a_58.2 a_58.1 hi rfl ?_
  rw [hv]
  by_cases c2 : v1 ≤ s.2
  · rw [if_pos c2] at h
    refine w_icmp_ge_t (q := 62) d_Model_rivals_16 rfl c2 ?_
    cases h
    exact w_ls (by exact (And.intro rfl trivial)) hr
  · rw [if_neg c2] at h
    refine w_icmp_ge_f (q := 19) d_Model_rivals_16 62 rfl rfl c2 ?_
    refine w_iload_n (q := 20) d_Model_rivals_19 rfl rfl ?_
    refine w_iconst (q := 21) (v := 1) d_Model_rivals_20 rfl (by decide) ?_
    refine w_iadd (q := 22) d_Model_rivals_21 rfl ?_
    refine w_istore_n (q := 23) (ls' := [some (.ref 54), some (.int s.1), some (.int s.2), some (.int (s.2 + 1))]) d_Model_rivals_22 rfl (by decide) rfl rfl ?_
    obtain ⟨x7, hx, h⟩ := bnd h
    refine w_ls (ls' := [some (.ref 54), some (.int s.1), some (.int s.2), some (.int (s.2 + 1))]) (And.intro rfl (And.intro rfl (And.intro rfl (And.intro rfl trivial)))) ?_
    show PL_Model_rivals_23 γ tt g s.2 m0 _ _ (s.1, s.2 + 1)
    refine lp_ok (kl_Model_rivals_23) F _ x7 hx ?_
    unfold QL_Model_rivals_23
    refine w_iinc (q := 59) (ls' := [some (.ref 54), some (.int x7), some (.int (s.2 + 1)), none]) d_Model_rivals_56 rfl (by decide) rfl rfl rfl ?_
    refine w_goto (q := 9) d_Model_rivals_59 rfl ?_
    cases h
    exact w_ls (by exact (And.intro rfl (And.intro rfl (And.intro rfl trivial)))) hr
def sp_Model_rivals (F : Nat) (g : Mem) : Option (Int32 × Mem) := (lpO (st_Model_rivals_9 F g (mset g 54 3 0)) F (0, 0)).bind fun x8 => some (x8, (mset g 54 3 0))
theorem ok_Model_rivals {γ : GG} {tt : Bool} {F : Nat} {g : Mem} {res : Int32 × Mem} (h : sp_Model_rivals F g = some res) : CA γ M_Model_rivals 4 [.ref 54] SH g tt (0, 0) (pI SH res.1 res.2 tt) := by
  refine CA.of mw_Model_rivals.1 3 rfl ?_
  show WA γ M_Model_rivals 4 0 [some (.ref 54), none, none, none] [] SH g tt (0, 0) (pI SH res.1 res.2 tt)
  unfold sp_Model_rivals at h
  refine w_aload_n (q := 1) d_Model_rivals_0 rfl rfl ?_
  refine w_iconst (q := 2) (v := 0) d_Model_rivals_1 rfl (by decide) ?_
  refine w_put (q := 5) (ci := 12) (j := 3) d_Model_rivals_2 rfl (by decide) fl_Model_114 (by decide) (by decide) s_54 rfl rfl rfl rfl rfl rfl ?_
  refine w_iconst (q := 6) (v := 0) d_Model_rivals_5 rfl (by decide) ?_
  refine w_istore_n (q := 7) (ls' := [some (.ref 54), some (.int 0), none, none]) d_Model_rivals_6 rfl (by decide) rfl rfl ?_
  refine w_iconst (q := 8) (v := 0) d_Model_rivals_7 rfl (by decide) ?_
  refine w_istore_n (q := 9) (ls' := [some (.ref 54), some (.int 0), some (.int 0), none]) d_Model_rivals_8 rfl (by decide) rfl rfl ?_
  obtain ⟨x8, hx, h⟩ := bnd h
  refine w_ls (ls' := [some (.ref 54), some (.int 0), some (.int 0), none]) (And.intro rfl (And.intro rfl (And.intro rfl trivial))) ?_
  show PL_Model_rivals_9 γ tt g (mset g 54 3 0) _ _ (0, 0)
  refine lp_ok (kl_Model_rivals_9) F _ x8 hx ?_
  unfold QL_Model_rivals_9
  refine w_iload_n (q := 63) d_Model_rivals_62 rfl rfl ?_
  cases h
  exact w_ireturn d_Model_rivals_63 rfl rfl ⟨rfl, rfl, rfl, rfl⟩
def PL_Model_owedNow_7 (γ : GG) (tt : Bool) (p0 : Int32) (g : Mem) (k1 : Int32) (b : Nat × Nat) (Φ : PO) (s : Int32 × Int32 × Int32) : Prop := WA γ M_Model_owedNow 2 7 [some (.ref 54), some (.int k1), some (.int s.1), some (.int s.2.1), some (.int s.2.2)] [] SH g tt b Φ
def QL_Model_owedNow_7 (γ : GG) (tt : Bool) (p0 : Int32) (g : Mem) (k1 : Int32) (b : Nat × Nat) (Φ : PO) (x : (Int32)) : Prop := WA γ M_Model_owedNow 2 125 [none, none, none, some (.int x), none] [] SH g tt b Φ
def sp_Model_owedNow_j59_7 (F : Nat) (p0 : Int32) (k1 : Int32) (g : Mem) (x2 : Int32) (x3 : Int32) (x4 : Int32) : Option ((Int32 × Int32 × Int32) ⊕ ((Int32))) := (sp_Model_of x4 7 g).bind fun v8 => (sp_Model_of x4 0 g).bind fun v9 => if v9 = 1 then (sp_Model_of x4 4 g).bind fun v11 => some (.inl (x2 ||| (1 <<< (v8 &&& 31)), x3 + v11, x4 + 1)) else (sp_Model_of x4 0 g).bind fun v12 => if v12 = 2 then (sp_Model_of x4 4 g).bind fun v14 => some (.inl (x2 ||| (1 <<< (v8 &&& 31)), x3 + (-v14), x4 + 1)) else some (.inl (x2 ||| (1 <<< (v8 &&& 31)), x3 + 0, x4 + 1))
theorem ok_Model_owedNow_j59_7 {γ : GG} {tt : Bool} {F : Nat} {p0 : Int32} {k1 : Int32} {g : Mem} {x2 : Int32} {x3 : Int32} {x4 : Int32} {b : Nat × Nat} {Φ : PO} {r : (Int32 × Int32 × Int32) ⊕ ((Int32))} (h : sp_Model_owedNow_j59_7 F p0 k1 g x2 x3 x4 = some r) (hr : RQ (PL_Model_owedNow_7 γ tt p0 g k1 b Φ) (QL_Model_owedNow_7 γ tt p0 g k1 b Φ) r) : WA γ M_Model_owedNow 2 59 [some (.ref 54), some (.int k1), some (.int x2), some (.int x3), some (.int x4)] [] SH g tt b Φ := by
  unfold sp_Model_owedNow_j59_7 at h
  refine w_iload_n (q := 60) d_Model_owedNow_59 rfl rfl ?_
  refine w_iconst (q := 61) (v := 1) d_Model_owedNow_60 rfl (by decide) ?_
  refine w_aload_n (q := 62) d_Model_owedNow_61 rfl rfl ?_
  refine w_iload (q := 64) d_Model_owedNow_62 rfl rfl ?_
  refine w_bipush (q := 66) (v := 7) d_Model_owedNow_64 rfl (by decide) ?_
  obtain ⟨v8, hv, h⟩ := bnd h
  refine w_callVi (q := 69) (M' := M_Model_of) (n' := 0) (k := 54) (As := [.int x4, .int 7]) (sh' := SH) (b1 := (0, 0)) d_Model_owedNow_66 rfl mw_Model_of (by decide) (by decide) ml_Model_305 (by decide) s_54 (by decide) rfl rfl rfl (leb rfl) (bz _) (fun _ => rfl) (ok_Model_of hv) ?_
  refine w_ishl (q := 70) d_Model_owedNow_69 rfl ?_
  refine w_ior (q := 71) d_Model_owedNow_70 rfl ?_
  refine w_istore_n (q := 72) (ls' := [some (.ref 54), some (.int k1), some (.int (x2 ||| (1 <<< (v8 &&& 31)))), some (.int x3), some (.int x4)]) d_Model_owedNow_71 rfl (by decide) rfl rfl ?_
  refine w_iload_n (q := 73) d_Model_owedNow_72 rfl rfl ?_
  refine w_aload_n (q := 74) d_Model_owedNow_73 rfl rfl ?_
  refine w_iload (q := 76) d_Model_owedNow_74 rfl rfl ?_
  refine w_iconst (q := 77) (v := 0) d_Model_owedNow_76 rfl (by decide) ?_
  obtain ⟨v9, hv, h⟩ := bnd h
  refine w_callVi (q := 80) (M' := M_Model_of) (n' := 0) (k := 54) (As := [.int x4, .int 0]) (sh' := SH) (b1 := (0, 0)) d_Model_owedNow_77 rfl mw_Model_of (by decide) (by decide) ml_Model_305 (by decide) s_54 (by decide) rfl rfl rfl (leb rfl) (bz _) (fun _ => rfl) (ok_Model_of hv) ?_
  refine w_iconst (q := 81) (v := 1) d_Model_owedNow_80 rfl (by decide) ?_
  by_cases c10 : v9 = 1
  · rw [if_pos c10] at h
    refine w_icmp_ne_f (q := 84) d_Model_owedNow_81 94 rfl rfl c10 ?_
    refine w_aload_n (q := 85) d_Model_owedNow_84 rfl rfl ?_
    refine w_iload (q := 87) d_Model_owedNow_85 rfl rfl ?_
    refine w_iconst (q := 88) (v := 4) d_Model_owedNow_87 rfl (by decide) ?_
    obtain ⟨v11, hv, h⟩ := bnd h
    refine w_callVi (q := 91) (M' := M_Model_of) (n' := 0) (k := 54) (As := [.int x4, .int 4]) (sh' := SH) (b1 := (0, 0)) d_Model_owedNow_88 rfl mw_Model_of (by decide) (by decide) ml_Model_305 (by decide) s_54 (by decide) rfl rfl rfl (leb rfl) (bz _) (fun _ => rfl) (ok_Model_of hv) ?_
    refine w_goto (q := 117) d_Model_owedNow_91 rfl ?_
    refine w_iadd (q := 118) d_Model_owedNow_117 rfl ?_
    refine w_istore_n (q := 119) (ls' := [some (.ref 54), some (.int k1), some (.int (x2 ||| (1 <<< (v8 &&& 31)))), some (.int (x3 + v11)), some (.int x4)]) d_Model_owedNow_118 rfl (by decide) rfl rfl ?_
    refine w_iinc (q := 122) (ls' := [some (.ref 54), some (.int k1), some (.int (x2 ||| (1 <<< (v8 &&& 31)))), some (.int (x3 + v11)), some (.int (x4 + 1))]) d_Model_owedNow_119 rfl (by decide) rfl rfl rfl ?_
    refine w_goto (q := 7) d_Model_owedNow_122 rfl ?_
    cases h
    exact w_ls (by exact (And.intro rfl (And.intro rfl (And.intro rfl (And.intro rfl (And.intro rfl trivial)))))) hr
  · rw [if_neg c10] at h
    refine w_icmp_ne_t (q := 94) d_Model_owedNow_81 rfl c10 ?_
    refine w_aload_n (q := 95) d_Model_owedNow_94 rfl rfl ?_
    refine w_iload (q := 97) d_Model_owedNow_95 rfl rfl ?_
    refine w_iconst (q := 98) (v := 0) d_Model_owedNow_97 rfl (by decide) ?_
    obtain ⟨v12, hv, h⟩ := bnd h
    refine w_callVi (q := 101) (M' := M_Model_of) (n' := 0) (k := 54) (As := [.int x4, .int 0]) (sh' := SH) (b1 := (0, 0)) d_Model_owedNow_98 rfl mw_Model_of (by decide) (by decide) ml_Model_305 (by decide) s_54 (by decide) rfl rfl rfl (leb rfl) (bz _) (fun _ => rfl) (ok_Model_of hv) ?_
    refine w_iconst (q := 102) (v := 2) d_Model_owedNow_101 rfl (by decide) ?_
    by_cases c13 : v12 = 2
    · rw [if_pos c13] at h
      refine w_icmp_ne_f (q := 105) d_Model_owedNow_102 116 rfl rfl c13 ?_
      refine w_aload_n (q := 106) d_Model_owedNow_105 rfl rfl ?_
      refine w_iload (q := 108) d_Model_owedNow_106 rfl rfl ?_
      refine w_iconst (q := 109) (v := 4) d_Model_owedNow_108 rfl (by decide) ?_
      obtain ⟨v14, hv, h⟩ := bnd h
      refine w_callVi (q := 112) (M' := M_Model_of) (n' := 0) (k := 54) (As := [.int x4, .int 4]) (sh' := SH) (b1 := (0, 0)) d_Model_owedNow_109 rfl mw_Model_of (by decide) (by decide) ml_Model_305 (by decide) s_54 (by decide) rfl rfl rfl (leb rfl) (bz _) (fun _ => rfl) (ok_Model_of hv) ?_
      refine w_ineg (q := 113) d_Model_owedNow_112 rfl ?_
      refine w_goto (q := 117) d_Model_owedNow_113 rfl ?_
      refine w_iadd (q := 118) d_Model_owedNow_117 rfl ?_
      refine w_istore_n (q := 119) (ls' := [some (.ref 54), some (.int k1), some (.int (x2 ||| (1 <<< (v8 &&& 31)))), some (.int (x3 + (-v14))), some (.int x4)]) d_Model_owedNow_118 rfl (by decide) rfl rfl ?_
      refine w_iinc (q := 122) (ls' := [some (.ref 54), some (.int k1), some (.int (x2 ||| (1 <<< (v8 &&& 31)))), some (.int (x3 + (-v14))), some (.int (x4 + 1))]) d_Model_owedNow_119 rfl (by decide) rfl rfl rfl ?_
      refine w_goto (q := 7) d_Model_owedNow_122 rfl ?_
      cases h
      exact w_ls (by exact (And.intro rfl (And.intro rfl (And.intro rfl (And.intro rfl (And.intro rfl trivial)))))) hr
    · rw [if_neg c13] at h
      refine w_icmp_ne_t (q := 116) d_Model_owedNow_102 rfl c13 ?_
      refine w_iconst (q := 117) (v := 0) d_Model_owedNow_116 rfl (by decide) ?_
      refine w_iadd (q := 118) d_Model_owedNow_117 rfl ?_
      refine w_istore_n (q := 119) (ls' := [some (.ref 54), some (.int k1), some (.int (x2 ||| (1 <<< (v8 &&& 31)))), some (.int (x3 + 0)), some (.int x4)]) d_Model_owedNow_118 rfl (by decide) rfl rfl ?_
      refine w_iinc (q := 122) (ls' := [some (.ref 54), some (.int k1), some (.int (x2 ||| (1 <<< (v8 &&& 31)))), some (.int (x3 + 0)), some (.int (x4 + 1))]) d_Model_owedNow_119 rfl (by decide) rfl rfl rfl ?_
      refine w_goto (q := 7) d_Model_owedNow_122 rfl ?_
      cases h
      exact w_ls (by exact (And.intro rfl (And.intro rfl (And.intro rfl (And.intro rfl (And.intro rfl trivial)))))) hr
def st_Model_owedNow_7 (F : Nat) (p0 : Int32) (g : Mem) (k1 : Int32) (s : Int32 × Int32 × Int32) : Option ((Int32 × Int32 × Int32) ⊕ ((Int32))) := if (g 54 26) ≤ s.2.2 then some (.inr s.2.1) else (sp_Model_isThere s.2.2 g).bind fun v2 => if v2 = 0 then some (.inl (s.1, s.2.1, s.2.2 + 1)) else (sp_Model_of s.2.2 7 g).bind fun v4 => (sp_Model_isOf s.1 v4 g).bind fun v5 => if v5 = 0 then if k1 = (-1) then sp_Model_owedNow_j59_7 F p0 k1 g s.1 s.2.1 s.2.2 else (sp_Model_of s.2.2 3 g).bind fun v15 => if v15 = k1 then sp_Model_owedNow_j59_7 F p0 k1 g s.1 s.2.1 s.2.2 else some (.inl (s.1, s.2.1, s.2.2 + 1)) else some (.inl (s.1, s.2.1, s.2.2 + 1))
theorem kl_Model_owedNow_7 {γ : GG} {tt : Bool} {F : Nat} {p0 : Int32} {g : Mem} {k1 : Int32} {b : Nat × Nat} {Φ : PO} : ∀ (s : Int32 × Int32 × Int32) (r : (Int32 × Int32 × Int32) ⊕ ((Int32))), st_Model_owedNow_7 F p0 g k1 s = some r → RQ (PL_Model_owedNow_7 γ tt p0 g k1 b Φ) (QL_Model_owedNow_7 γ tt p0 g k1 b Φ) r → PL_Model_owedNow_7 γ tt p0 g k1 b Φ s := by
  intro s r h hr
  unfold st_Model_owedNow_7 at h
  unfold PL_Model_owedNow_7
  refine w_iload (q := 9) d_Model_owedNow_7 rfl rfl ?_
  refine w_aload_n (q := 10) d_Model_owedNow_9 rfl rfl ?_
  refine w_get (q := 13) (ci := 12) (j := 26) d_Model_owedNow_10 rfl (by decide) fl_Model_121 (by decide) (by decide) s_54 rfl rfl ?_
  by_cases c1 : (g 54 26) ≤ s.2.2
  · rw [if_pos c1] at h
    refine w_icmp_ge_t (q := 125) d_Model_owedNow_13 rfl c1 ?_
    cases h
    exact w_ls (by exact (And.intro rfl trivial)) hr
  · rw [if_neg c1] at h
    refine w_icmp_ge_f (q := 16) d_Model_owedNow_13 125 rfl rfl c1 ?_
    refine w_aload_n (q := 17) d_Model_owedNow_16 rfl rfl ?_
    refine w_iload (q := 19) d_Model_owedNow_17 rfl rfl ?_
    obtain ⟨v2, hv, h⟩ := bnd h
    refine w_callVi (q := 22) (M' := M_Model_isThere) (n' := 1) (k := 54) (As := [.int s.2.2]) (sh' := SH) (b1 := (0, 0)) d_Model_owedNow_19 rfl mw_Model_isThere (by decide) (by decide) ml_Model_315 (by decide) s_54 (by decide) rfl rfl rfl (leb rfl) (bz _) (fun _ => rfl) (ok_Model_isThere hv) ?_
    by_cases c3 : v2 = 0
    · rw [if_pos c3] at h
      refine w_if_eq_t (q := 119) d_Model_owedNow_22 rfl c3 ?_
      refine w_iinc (q := 122) (ls' := [some (.ref 54), some (.int k1), some (.int s.1), some (.int s.2.1), some (.int (s.2.2 + 1))]) d_Model_owedNow_119 rfl (by decide) rfl rfl rfl ?_
      refine w_goto (q := 7) d_Model_owedNow_122 rfl ?_
      cases h
      exact w_ls (by exact (And.intro rfl (And.intro rfl (And.intro rfl (And.intro rfl (And.intro rfl trivial)))))) hr
    · rw [if_neg c3] at h
      refine w_if_eq_f (q := 25) d_Model_owedNow_22 119 rfl rfl c3 ?_
      refine w_iload_n (q := 26) d_Model_owedNow_25 rfl rfl ?_
      refine w_aload_n (q := 27) d_Model_owedNow_26 rfl rfl ?_
      refine w_iload (q := 29) d_Model_owedNow_27 rfl rfl ?_
      refine w_bipush (q := 31) (v := 7) d_Model_owedNow_29 rfl (by decide) ?_
      obtain ⟨v4, hv, h⟩ := bnd h
      refine w_callVi (q := 34) (M' := M_Model_of) (n' := 0) (k := 54) (As := [.int s.2.2, .int 7]) (sh' := SH) (b1 := (0, 0)) d_Model_owedNow_31 rfl mw_Model_of (by decide) (by decide) ml_Model_305 (by decide) s_54 (by decide) rfl rfl rfl (leb rfl) (bz _) (fun _ => rfl) (ok_Model_of hv) ?_
      obtain ⟨v5, hv, h⟩ := bnd h
      refine w_callSi (q := 37) (M' := M_Model_isOf) (n' := 0) (As := [.int s.1, .int v4]) (sh' := SH) (b1 := (0, 0)) d_Model_owedNow_34 rfl mw_Model_isOf (by decide) (by decide) ml_Model_308 rfl rfl (leb rfl) (bz _) (fun _ => rfl) (ok_Model_isOf hv) ?_
      by_cases c6 : v5 = 0
      · rw [if_pos c6] at h
        refine w_if_ne_f (q := 40) d_Model_owedNow_37 119 rfl rfl c6 ?_
        refine w_iload_n (q := 41) d_Model_owedNow_40 rfl rfl ?_
        refine w_iconst (q := 42) (v := (-1)) d_Model_owedNow_41 rfl (by decide) ?_
        by_cases c7 : k1 = (-1)
        · rw [if_pos c7] at h
          refine w_icmp_eq_t (q := 59) d_Model_owedNow_42 rfl c7 ?_
          refine w_ls (ls' := [some (.ref 54), some (.int k1), some (.int s.1), some (.int s.2.1), some (.int s.2.2)]) (And.intro rfl (And.intro rfl (And.intro rfl (And.intro rfl (And.intro rfl trivial))))) ?_
          exact ok_Model_owedNow_j59_7 h hr
        · rw [if_neg c7] at h
          refine w_icmp_eq_f (q := 45) d_Model_owedNow_42 59 rfl rfl c7 ?_
          refine w_aload_n (q := 46) d_Model_owedNow_45 rfl rfl ?_
          refine w_iload (q := 48) d_Model_owedNow_46 rfl rfl ?_
          refine w_iconst (q := 49) (v := 3) d_Model_owedNow_48 rfl (by decide) ?_
          obtain ⟨v15, hv, h⟩ := bnd h
          refine w_callVi (q := 52) (M' := M_Model_of) (n' := 0) (k := 54) (As := [.int s.2.2, .int 3]) (sh' := SH) (b1 := (0, 0)) d_Model_owedNow_49 rfl mw_Model_of (by decide) (by decide) ml_Model_305 (by decide) s_54 (by decide) rfl rfl rfl (leb rfl) (bz _) (fun _ => rfl) (ok_Model_of hv) ?_
          refine w_iload_n (q := 53) d_Model_owedNow_52 rfl rfl ?_
          by_cases c16 : v15 = k1
          · rw [if_pos c16] at h
            refine w_icmp_eq_t (q := 59) d_Model_owedNow_53 rfl c16 ?_
            refine w_ls (ls' := [some (.ref 54), some (.int k1), some (.int s.1), some (.int s.2.1), some (.int s.2.2)]) (And.intro rfl (And.intro rfl (And.intro rfl (And.intro rfl (And.intro rfl trivial))))) ?_
            exact ok_Model_owedNow_j59_7 h hr
          · rw [if_neg c16] at h
            refine w_icmp_eq_f (q := 56) d_Model_owedNow_53 59 rfl rfl c16 ?_
            refine w_goto (q := 119) d_Model_owedNow_56 rfl ?_
            refine w_iinc (q := 122) (ls' := [some (.ref 54), some (.int k1), some (.int s.1), some (.int s.2.1), some (.int (s.2.2 + 1))]) d_Model_owedNow_119 rfl (by decide) rfl rfl rfl ?_
            refine w_goto (q := 7) d_Model_owedNow_122 rfl ?_
            cases h
            exact w_ls (by exact (And.intro rfl (And.intro rfl (And.intro rfl (And.intro rfl (And.intro rfl trivial)))))) hr
      · rw [if_neg c6] at h
        refine w_if_ne_t (q := 119) d_Model_owedNow_37 rfl c6 ?_
        refine w_iinc (q := 122) (ls' := [some (.ref 54), some (.int k1), some (.int s.1), some (.int s.2.1), some (.int (s.2.2 + 1))]) d_Model_owedNow_119 rfl (by decide) rfl rfl rfl ?_
        refine w_goto (q := 7) d_Model_owedNow_122 rfl ?_
        cases h
        exact w_ls (by exact (And.intro rfl (And.intro rfl (And.intro rfl (And.intro rfl (And.intro rfl trivial)))))) hr
def sp_Model_owedNow (F : Nat) (p0 : Int32) (g : Mem) : Option (Int32) := (lpO (st_Model_owedNow_7 F p0 g p0) F (0, 0, 0)).bind fun x17 => some x17
theorem ok_Model_owedNow {γ : GG} {tt : Bool} {F : Nat} {p0 : Int32} {g : Mem} {res : Int32} (h : sp_Model_owedNow F p0 g = some res) : CA γ M_Model_owedNow 2 [.ref 54, .int p0] SH g tt (0, 0) (pI SH res g tt) := by
  refine CA.of mw_Model_owedNow.1 3 rfl ?_
  show WA γ M_Model_owedNow 2 0 [some (.ref 54), some (.int p0), none, none, none] [] SH g tt (0, 0) (pI SH res g tt)
  unfold sp_Model_owedNow at h
  refine w_iconst (q := 1) (v := 0) d_Model_owedNow_0 rfl (by decide) ?_
  refine w_istore_n (q := 2) (ls' := [some (.ref 54), some (.int p0), some (.int 0), none, none]) d_Model_owedNow_1 rfl (by decide) rfl rfl ?_
  refine w_iconst (q := 3) (v := 0) d_Model_owedNow_2 rfl (by decide) ?_
  refine w_istore_n (q := 4) (ls' := [some (.ref 54), some (.int p0), some (.int 0), some (.int 0), none]) d_Model_owedNow_3 rfl (by decide) rfl rfl ?_
  refine w_iconst (q := 5) (v := 0) d_Model_owedNow_4 rfl (by decide) ?_
  refine w_istore (q := 7) (ls' := [some (.ref 54), some (.int p0), some (.int 0), some (.int 0), some (.int 0)]) d_Model_owedNow_5 rfl (by decide) rfl rfl ?_
  obtain ⟨x17, hx, h⟩ := bnd h
  refine w_ls (ls' := [some (.ref 54), some (.int p0), some (.int 0), some (.int 0), some (.int 0)]) (And.intro rfl (And.intro rfl (And.intro rfl (And.intro rfl (And.intro rfl trivial))))) ?_
  show PL_Model_owedNow_7 γ tt p0 g p0 _ _ (0, 0, 0)
  refine lp_ok (kl_Model_owedNow_7) F _ x17 hx ?_
  unfold QL_Model_owedNow_7
  refine w_iload_n (q := 126) d_Model_owedNow_125 rfl rfl ?_
  cases h
  exact w_ireturn d_Model_owedNow_126 rfl rfl ⟨rfl, rfl, rfl, rfl⟩
def sp_Model_owed (F : Nat) (p0 : Int32) (g : Mem) : Option (Int32 × Mem) := (sp_Model_isAbout p0 (mset g 54 3 0)).bind fun v1 => if v1 = 0 then (sp_Model_fail 1 (mset g 54 3 0)).bind fun v3 => some (v3.1, v3.2) else (sp_Model_owedNow F p0 (mset g 54 3 0)).bind fun v4 => some (v4, (mset g 54 3 0))
theorem ok_Model_owed {γ : GG} {tt : Bool} {F : Nat} {p0 : Int32} {g : Mem} {res : Int32 × Mem} (h : sp_Model_owed F p0 g = some res) : CA γ M_Model_owed 3 [.ref 54, .int p0] SH g tt (0, 0) (pI SH res.1 res.2 tt) := by
  refine CA.of mw_Model_owed.1 0 rfl ?_
  show WA γ M_Model_owed 3 0 [some (.ref 54), some (.int p0)] [] SH g tt (0, 0) (pI SH res.1 res.2 tt)
  unfold sp_Model_owed at h
  refine w_aload_n (q := 1) d_Model_owed_0 rfl rfl ?_
  refine w_iconst (q := 2) (v := 0) d_Model_owed_1 rfl (by decide) ?_
  refine w_put (q := 5) (ci := 12) (j := 3) d_Model_owed_2 rfl (by decide) fl_Model_114 (by decide) (by decide) s_54 rfl rfl rfl rfl rfl rfl ?_
  refine w_iload_n (q := 6) d_Model_owed_5 rfl rfl ?_
  obtain ⟨v1, hv, h⟩ := bnd h
  refine w_callSi (q := 9) (M' := M_Model_isAbout) (n' := 1) (As := [.int p0]) (sh' := SH) (b1 := (0, 0)) d_Model_owed_6 rfl mw_Model_isAbout (by decide) (by decide) ml_Model_376 rfl rfl (leb rfl) (bz _) (fun _ => rfl) (ok_Model_isAbout hv) ?_
  by_cases c2 : v1 = 0
  · rw [if_pos c2] at h
    refine w_if_eq_t (q := 20) d_Model_owed_9 rfl c2 ?_
    refine w_aload_n (q := 21) d_Model_owed_20 rfl rfl ?_
    refine w_iconst (q := 22) (v := 1) d_Model_owed_21 rfl (by decide) ?_
    obtain ⟨v3, hv, h⟩ := bnd h
    refine w_callVi (q := 25) (M' := M_Model_fail) (n' := 0) (k := 54) (As := [.int 1]) (sh' := SH) (b1 := (0, 0)) d_Model_owed_22 rfl mw_Model_fail (by decide) (by decide) ml_Model_273 (by decide) s_54 (by decide) rfl rfl rfl (leb rfl) (bz _) (fun _ => rfl) (ok_Model_fail hv) ?_
    cases h
    exact w_ireturn d_Model_owed_25 rfl rfl ⟨rfl, rfl, rfl, rfl⟩
  · rw [if_neg c2] at h
    refine w_if_eq_f (q := 12) d_Model_owed_9 20 rfl rfl c2 ?_
    refine w_aload_n (q := 13) d_Model_owed_12 rfl rfl ?_
    refine w_iload_n (q := 14) d_Model_owed_13 rfl rfl ?_
    obtain ⟨v4, hv, h⟩ := bnd h
    refine w_callVi (q := 17) (M' := M_Model_owedNow) (n' := 2) (k := 54) (As := [.int p0]) (sh' := SH) (b1 := (0, 0)) d_Model_owed_14 rfl mw_Model_owedNow (by decide) (by decide) ml_Model_403 (by decide) s_54 (by decide) rfl rfl rfl (leb rfl) (bz _) (fun _ => rfl) (ok_Model_owedNow hv) ?_
    refine w_goto (q := 25) d_Model_owed_17 rfl ?_
    cases h
    exact w_ireturn d_Model_owed_25 rfl rfl ⟨rfl, rfl, rfl, rfl⟩
def PL_Model_cover_14 (γ : GG) (tt : Bool) (g : Mem) (k2 : Int32) (m0 : Mem) (b : Nat × Nat) (Φ : PO) (s : Int32 × Int32) : Prop := WA γ M_Model_cover 3 14 [some (.ref 54), some (.int s.1), some (.int k2), some (.int s.2), none, none] [] SH m0 tt b Φ
def QL_Model_cover_14 (γ : GG) (tt : Bool) (g : Mem) (k2 : Int32) (m0 : Mem) (b : Nat × Nat) (Φ : PO) (x : (Int32)) : Prop := WA γ M_Model_cover 3 112 [none, some (.int x), none, none, none, none] [] SH m0 tt b Φ
def PL_Model_cover_52 (γ : GG) (tt : Bool) (g : Mem) (k1 : Int32) (k2 : Int32) (k3 : Int32) (m0 : Mem) (b : Nat × Nat) (Φ : PO) (s : Int32 × Int32) : Prop := WA γ M_Model_cover 3 52 [some (.ref 54), some (.int k1), some (.int k2), some (.int k3), some (.int s.1), some (.int s.2)] [] SH m0 tt b Φ
def QL_Model_cover_52 (γ : GG) (tt : Bool) (g : Mem) (k1 : Int32) (k2 : Int32) (k3 : Int32) (m0 : Mem) (b : Nat × Nat) (Φ : PO) (x : (Int32)) : Prop := WA γ M_Model_cover 3 99 [some (.ref 54), some (.int k1), some (.int k2), some (.int k3), some (.int x), none] [] SH m0 tt b Φ
def st_Model_cover_52 (F : Nat) (g : Mem) (k1 : Int32) (k2 : Int32) (k3 : Int32) (m0 : Mem) (s : Int32 × Int32) : Option ((Int32 × Int32) ⊕ ((Int32))) := if (m0 54 26) ≤ s.2 then some (.inr s.1) else if s.1 = 0 then some (.inr s.1) else (sp_Model_isOf k2 s.2 m0).bind fun v7 => if v7 = 0 then some (.inl (1, s.2 + 1)) else (sp_Model_holdersOf F s.2 m0).bind fun v9 => if (v9 &&& k3) = 0 then some (.inl (0, s.2 + 1)) else some (.inl (1, s.2 + 1))
theorem kl_Model_cover_52 {γ : GG} {tt : Bool} {F : Nat} {g : Mem} {k1 : Int32} {k2 : Int32} {k3 : Int32} {m0 : Mem} {b : Nat × Nat} {Φ : PO} : ∀ (s : Int32 × Int32) (r : (Int32 × Int32) ⊕ ((Int32))), st_Model_cover_52 F g k1 k2 k3 m0 s = some r → RQ (PL_Model_cover_52 γ tt g k1 k2 k3 m0 b Φ) (QL_Model_cover_52 γ tt g k1 k2 k3 m0 b Φ) r → PL_Model_cover_52 γ tt g k1 k2 k3 m0 b Φ s := by
  intro s r h hr
  unfold st_Model_cover_52 at h
  unfold PL_Model_cover_52
  refine w_iload (q := 54) d_Model_cover_52 rfl rfl ?_
  refine w_aload_n (q := 55) d_Model_cover_54 rfl rfl ?_
  refine w_get (q := 58) (ci := 12) (j := 26) d_Model_cover_55 rfl (by decide) fl_Model_121 (by decide) (by decide) s_54 rfl rfl ?_
  by_cases c5 : (m0 54 26) ≤ s.2
  · rw [if_pos c5] at h
    refine w_icmp_ge_t (q := 99) d_Model_cover_58 rfl c5 ?_
    cases h
    exact w_ls (by exact (And.intro rfl (And.intro rfl (And.intro rfl (And.intro rfl (And.intro rfl trivial)))))) hr
  · rw [if_neg c5] at h
    refine w_icmp_ge_f (q := 61) d_Model_cover_58 99 rfl rfl c5 ?_
    refine w_iload (q := 63) d_Model_cover_61 rfl rfl ?_
    by_cases c6 : s.1 = 0
    · rw [if_pos c6] at h
      refine w_if_eq_t (q := 99) d_Model_cover_63 rfl c6 ?_
      cases h
      exact w_ls (by exact (And.intro rfl (And.intro rfl (And.intro rfl (And.intro rfl (And.intro rfl trivial)))))) hr
    · rw [if_neg c6] at h
      refine w_if_eq_f (q := 66) d_Model_cover_63 99 rfl rfl c6 ?_
      refine w_iload_n (q := 67) d_Model_cover_66 rfl rfl ?_
      refine w_iload (q := 69) d_Model_cover_67 rfl rfl ?_
      obtain ⟨v7, hv, h⟩ := bnd h
      refine w_callSi (q := 72) (M' := M_Model_isOf) (n' := 0) (As := [.int k2, .int s.2]) (sh' := SH) (b1 := (0, 0)) d_Model_cover_69 rfl mw_Model_isOf (by decide) (by decide) ml_Model_308 rfl rfl (leb rfl) (bz _) (fun _ => rfl) (ok_Model_isOf hv) ?_
      by_cases c8 : v7 = 0
      · rw [if_pos c8] at h
        refine w_if_eq_t (q := 86) d_Model_cover_72 rfl c8 ?_
        refine w_iconst (q := 87) (v := 1) d_Model_cover_86 rfl (by decide) ?_
        refine w_goto (q := 91) d_Model_cover_87 rfl ?_
        refine w_istore (q := 93) (ls' := [some (.ref 54), some (.int k1), some (.int k2), some (.int k3), some (.int 1), some (.int s.2)]) d_Model_cover_91 rfl (by decide) rfl rfl ?_
        refine w_iinc (q := 96) (ls' := [some (.ref 54), some (.int k1), some (.int k2), some (.int k3), some (.int 1), some (.int (s.2 + 1))]) d_Model_cover_93 rfl (by decide) rfl rfl rfl ?_
        refine w_goto (q := 52) d_Model_cover_96 rfl ?_
        cases h
        exact w_ls (by exact (And.intro rfl (And.intro rfl (And.intro rfl (And.intro rfl (And.intro rfl (And.intro rfl trivial))))))) hr
      · rw [if_neg c8] at h
        refine w_if_eq_f (q := 75) d_Model_cover_72 86 rfl rfl c8 ?_
        refine w_aload_n (q := 76) d_Model_cover_75 rfl rfl ?_
        refine w_iload (q := 78) d_Model_cover_76 rfl rfl ?_
        obtain ⟨v9, hv, h⟩ := bnd h
        refine w_callVi (q := 81) (M' := M_Model_holdersOf) (n' := 2) (k := 54) (As := [.int s.2]) (sh' := SH) (b1 := (0, 0)) d_Model_cover_78 rfl mw_Model_holdersOf (by decide) (by decide) ml_Model_346 (by decide) s_54 (by decide) rfl rfl rfl (leb rfl) (bz _) (fun _ => rfl) (ok_Model_holdersOf hv) ?_
        refine w_iload_n (q := 82) d_Model_cover_81 rfl rfl ?_
        refine w_iand (q := 83) d_Model_cover_82 rfl ?_
        by_cases c10 : (v9 &&& k3) = 0
        · rw [if_pos c10] at h
          refine w_if_eq_t (q := 90) d_Model_cover_83 rfl c10 ?_
          refine w_iconst (q := 91) (v := 0) d_Model_cover_90 rfl (by decide) ?_
          refine w_istore (q := 93) (ls' := [some (.ref 54), some (.int k1), some (.int k2), some (.int k3), some (.int 0), some (.int s.2)]) d_Model_cover_91 rfl (by decide) rfl rfl ?_
          refine w_iinc (q := 96) (ls' := [some (.ref 54), some (.int k1), some (.int k2), some (.int k3), some (.int 0), some (.int (s.2 + 1))]) d_Model_cover_93 rfl (by decide) rfl rfl rfl ?_
          refine w_goto (q := 52) d_Model_cover_96 rfl ?_
          cases h
          exact w_ls (by exact (And.intro rfl (And.intro rfl (And.intro rfl (And.intro rfl (And.intro rfl (And.intro rfl trivial))))))) hr
        · rw [if_neg c10] at h
          refine w_if_eq_f (q := 86) d_Model_cover_83 90 rfl rfl c10 ?_
          refine w_iconst (q := 87) (v := 1) d_Model_cover_86 rfl (by decide) ?_
          refine w_goto (q := 91) d_Model_cover_87 rfl ?_
          refine w_istore (q := 93) (ls' := [some (.ref 54), some (.int k1), some (.int k2), some (.int k3), some (.int 1), some (.int s.2)]) d_Model_cover_91 rfl (by decide) rfl rfl ?_
          refine w_iinc (q := 96) (ls' := [some (.ref 54), some (.int k1), some (.int k2), some (.int k3), some (.int 1), some (.int (s.2 + 1))]) d_Model_cover_93 rfl (by decide) rfl rfl rfl ?_
          refine w_goto (q := 52) d_Model_cover_96 rfl ?_
          cases h
          exact w_ls (by exact (And.intro rfl (And.intro rfl (And.intro rfl (And.intro rfl (And.intro rfl (And.intro rfl trivial))))))) hr
def sp_Model_cover_j99_14 (F : Nat) (k2 : Int32) (m0 : Mem) (g : Mem) (x1 : Int32) (x3 : Int32) (x4 : Int32) : Option ((Int32 × Int32) ⊕ ((Int32))) := if x4 = 0 then some (.inl (x1, x3 + 1)) else some (.inl (x3, x3 + 1))
theorem ok_Model_cover_j99_14 {γ : GG} {tt : Bool} {F : Nat} {k2 : Int32} {m0 : Mem} {g : Mem} {x1 : Int32} {x3 : Int32} {x4 : Int32} {b : Nat × Nat} {Φ : PO} {r : (Int32 × Int32) ⊕ ((Int32))} (h : sp_Model_cover_j99_14 F k2 m0 g x1 x3 x4 = some r) (hr : RQ (PL_Model_cover_14 γ tt g k2 m0 b Φ) (QL_Model_cover_14 γ tt g k2 m0 b Φ) r) : WA γ M_Model_cover 3 99 [some (.ref 54), some (.int x1), some (.int k2), some (.int x3), some (.int x4), none] [] SH m0 tt b Φ := by
  unfold sp_Model_cover_j99_14 at h
  refine w_iload (q := 101) d_Model_cover_99 rfl rfl ?_
  by_cases c12 : x4 = 0
  · rw [if_pos c12] at h
    refine w_if_eq_t (q := 106) d_Model_cover_101 rfl c12 ?_
    refine w_iinc (q := 109) (ls' := [some (.ref 54), some (.int x1), some (.int k2), some (.int (x3 + 1)), some (.int x4), none]) d_Model_cover_106 rfl (by decide) rfl rfl rfl ?_
    refine w_goto (q := 14) d_Model_cover_109 rfl ?_
    cases h
    exact w_ls (by exact (And.intro rfl (And.intro rfl (And.intro rfl (And.intro rfl trivial))))) hr
  · rw [if_neg c12] at h
    refine w_if_eq_f (q := 104) d_Model_cover_101 106 rfl rfl c12 ?_
    refine w_iload_n (q := 105) d_Model_cover_104 rfl rfl ?_
    refine w_istore_n (q := 106) (ls' := [some (.ref 54), some (.int x3), some (.int k2), some (.int x3), some (.int x4), none]) d_Model_cover_105 rfl (by decide) rfl rfl ?_
    refine w_iinc (q := 109) (ls' := [some (.ref 54), some (.int x3), some (.int k2), some (.int (x3 + 1)), some (.int x4), none]) d_Model_cover_106 rfl (by decide) rfl rfl rfl ?_
    refine w_goto (q := 14) d_Model_cover_109 rfl ?_
    cases h
    exact w_ls (by exact (And.intro rfl (And.intro rfl (And.intro rfl (And.intro rfl trivial))))) hr
def sp_Model_cover_j47_14 (F : Nat) (k2 : Int32) (m0 : Mem) (g : Mem) (x1 : Int32) (x3 : Int32) (y0 : Int32) : Option ((Int32 × Int32) ⊕ ((Int32))) := (lpO (st_Model_cover_52 F g x1 k2 x3 m0) F (y0, 0)).bind fun x11 => sp_Model_cover_j99_14 F k2 m0 g x1 x3 x11
theorem ok_Model_cover_j47_14 {γ : GG} {tt : Bool} {F : Nat} {k2 : Int32} {m0 : Mem} {g : Mem} {x1 : Int32} {x3 : Int32} {y0 : Int32} {b : Nat × Nat} {Φ : PO} {r : (Int32 × Int32) ⊕ ((Int32))} (h : sp_Model_cover_j47_14 F k2 m0 g x1 x3 y0 = some r) (hr : RQ (PL_Model_cover_14 γ tt g k2 m0 b Φ) (QL_Model_cover_14 γ tt g k2 m0 b Φ) r) : WA γ M_Model_cover 3 47 [some (.ref 54), some (.int x1), some (.int k2), some (.int x3), none, none] [.int y0] SH m0 tt b Φ := by
  unfold sp_Model_cover_j47_14 at h
  refine w_istore (q := 49) (ls' := [some (.ref 54), some (.int x1), some (.int k2), some (.int x3), some (.int y0), none]) d_Model_cover_47 rfl (by decide) rfl rfl ?_
  refine w_iconst (q := 50) (v := 0) d_Model_cover_49 rfl (by decide) ?_
  refine w_istore (q := 52) (ls' := [some (.ref 54), some (.int x1), some (.int k2), some (.int x3), some (.int y0), some (.int 0)]) d_Model_cover_50 rfl (by decide) rfl rfl ?_
  obtain ⟨x11, hx, h⟩ := bnd h
  refine w_ls (ls' := [some (.ref 54), some (.int x1), some (.int k2), some (.int x3), some (.int y0), some (.int 0)]) (And.intro rfl (And.intro rfl (And.intro rfl (And.intro rfl (And.intro rfl (And.intro rfl trivial)))))) ?_
  show PL_Model_cover_52 γ tt g x1 k2 x3 m0 _ _ (y0, 0)
  refine lp_ok (kl_Model_cover_52) F _ x11 hx ?_
  unfold QL_Model_cover_52
  refine w_ls (ls' := [some (.ref 54), some (.int x1), some (.int k2), some (.int x3), some (.int x11), none]) (And.intro rfl (And.intro rfl (And.intro rfl (And.intro rfl (And.intro rfl trivial))))) ?_
  exact ok_Model_cover_j99_14 h hr
def sp_Model_cover_j42_14 (F : Nat) (k2 : Int32) (m0 : Mem) (g : Mem) (x1 : Int32) (x3 : Int32) : Option ((Int32 × Int32) ⊕ ((Int32))) := sp_Model_cover_j47_14 F k2 m0 g x1 x3 1
theorem ok_Model_cover_j42_14 {γ : GG} {tt : Bool} {F : Nat} {k2 : Int32} {m0 : Mem} {g : Mem} {x1 : Int32} {x3 : Int32} {b : Nat × Nat} {Φ : PO} {r : (Int32 × Int32) ⊕ ((Int32))} (h : sp_Model_cover_j42_14 F k2 m0 g x1 x3 = some r) (hr : RQ (PL_Model_cover_14 γ tt g k2 m0 b Φ) (QL_Model_cover_14 γ tt g k2 m0 b Φ) r) : WA γ M_Model_cover 3 42 [some (.ref 54), some (.int x1), some (.int k2), some (.int x3), none, none] [] SH m0 tt b Φ := by
  unfold sp_Model_cover_j42_14 at h
  refine w_iconst (q := 43) (v := 1) d_Model_cover_42 rfl (by decide) ?_
  refine w_goto (q := 47) d_Model_cover_43 rfl ?_
  refine w_ls (ls' := [some (.ref 54), some (.int x1), some (.int k2), some (.int x3), none, none]) (And.intro rfl (And.intro rfl (And.intro rfl (And.intro rfl trivial)))) ?_
  exact ok_Model_cover_j47_14 h hr
def st_Model_cover_14 (F : Nat) (g : Mem) (k2 : Int32) (m0 : Mem) (s : Int32 × Int32) : Option ((Int32 × Int32) ⊕ ((Int32))) := (rd m0 58 12 0).bind fun v2 => if (1 <<< (v2 &&& 31)) ≤ s.2 then some (.inr s.1) else if s.1 = (-1) then sp_Model_cover_j42_14 F k2 m0 g s.1 s.2 else (sp_Model_bitsOf F s.2 m0).bind fun v13 => (sp_Model_bitsOf F s.1 m0).bind fun v14 => if v14 ≤ v13 then sp_Model_cover_j47_14 F k2 m0 g s.1 s.2 0 else sp_Model_cover_j42_14 F k2 m0 g s.1 s.2
theorem kl_Model_cover_14 {γ : GG} {tt : Bool} {F : Nat} {g : Mem} {k2 : Int32} {m0 : Mem} {b : Nat × Nat} {Φ : PO} : ∀ (s : Int32 × Int32) (r : (Int32 × Int32) ⊕ ((Int32))), st_Model_cover_14 F g k2 m0 s = some r → RQ (PL_Model_cover_14 γ tt g k2 m0 b Φ) (QL_Model_cover_14 γ tt g k2 m0 b Φ) r → PL_Model_cover_14 γ tt g k2 m0 b Φ s := by
  intro s r h hr
  unfold st_Model_cover_14 at h
  unfold PL_Model_cover_14
  refine w_iload_n (q := 15) d_Model_cover_14 rfl rfl ?_
  refine w_iconst (q := 16) (v := 1) d_Model_cover_15 rfl (by decide) ?_
  refine w_aload_n (q := 17) d_Model_cover_16 rfl rfl ?_
  refine w_get (q := 20) (ci := 12) (j := 4) d_Model_cover_17 rfl (by decide) fl_Model_51 (by decide) (by decide) s_54 rfl rfl ?_
  refine w_iconst (q := 21) (v := 0) d_Model_cover_20 rfl (by decide) ?_
  obtain ⟨v2, hv, h⟩ := bnd h
  obtain ⟨hi, hv⟩ := rd_ok hv
  refine w_iald (q := 22) (t := 0) d_Model_cover_21 rfl a_58.2 a_58.1 hi rfl ?_
  rw [hv]
  refine w_ishl (q := 23) d_Model_cover_22 rfl ?_
  by_cases c3 : (1 <<< (v2 &&& 31)) ≤ s.2
  · rw [if_pos c3] at h
    refine w_icmp_ge_t (q := 112) d_Model_cover_23 rfl c3 ?_
    cases h
    exact w_ls (by exact (And.intro rfl trivial)) hr
  · rw [if_neg c3] at h
    refine w_icmp_ge_f (q := 26) d_Model_cover_23 112 rfl rfl c3 ?_
    refine w_iload_n (q := 27) d_Model_cover_26 rfl rfl ?_
    refine w_iconst (q := 28) (v := (-1)) d_Model_cover_27 rfl (by decide) ?_
    by_cases c4 : s.1 = (-1)
    · rw [if_pos c4] at h
      refine w_icmp_eq_t (q := 42) d_Model_cover_28 rfl c4 ?_
      refine w_ls (ls' := [some (.ref 54), some (.int s.1), some (.int k2), some (.int s.2), none, none]) (And.intro rfl (And.intro rfl (And.intro rfl (And.intro rfl trivial)))) ?_
      exact ok_Model_cover_j42_14 h hr
    · rw [if_neg c4] at h
      refine w_icmp_eq_f (q := 31) d_Model_cover_28 42 rfl rfl c4 ?_
      refine w_iload_n (q := 32) d_Model_cover_31 rfl rfl ?_
      obtain ⟨v13, hv, h⟩ := bnd h
      refine w_callSi (q := 35) (M' := M_Model_bitsOf) (n' := 0) (As := [.int s.2]) (sh' := SH) (b1 := (0, 0)) d_Model_cover_32 rfl mw_Model_bitsOf (by decide) (by decide) ml_Model_332 rfl rfl (leb rfl) (bz _) (fun _ => rfl) (ok_Model_bitsOf hv) ?_
      refine w_iload_n (q := 36) d_Model_cover_35 rfl rfl ?_
      obtain ⟨v14, hv, h⟩ := bnd h
      refine w_callSi (q := 39) (M' := M_Model_bitsOf) (n' := 0) (As := [.int s.1]) (sh' := SH) (b1 := (0, 0)) d_Model_cover_36 rfl mw_Model_bitsOf (by decide) (by decide) ml_Model_332 rfl rfl (leb rfl) (bz _) (fun _ => rfl) (ok_Model_bitsOf hv) ?_
      by_cases c15 : v14 ≤ v13
      · rw [if_pos c15] at h
        refine w_icmp_ge_t (q := 46) d_Model_cover_39 rfl c15 ?_
        refine w_iconst (q := 47) (v := 0) d_Model_cover_46 rfl (by decide) ?_
        refine w_ls (ls' := [some (.ref 54), some (.int s.1), some (.int k2), some (.int s.2), none, none]) (And.intro rfl (And.intro rfl (And.intro rfl (And.intro rfl trivial)))) ?_
        exact ok_Model_cover_j47_14 h hr
      · rw [if_neg c15] at h
        refine w_icmp_ge_f (q := 42) d_Model_cover_39 46 rfl rfl c15 ?_
        refine w_ls (ls' := [some (.ref 54), some (.int s.1), some (.int k2), some (.int s.2), none, none]) (And.intro rfl (And.intro rfl (And.intro rfl (And.intro rfl trivial)))) ?_
        exact ok_Model_cover_j42_14 h hr
def sp_Model_cover (F : Nat) (g : Mem) : Option (Int32 × Mem) := (sp_Model_records F (mset g 54 3 0)).bind fun v1 => (lpO (st_Model_cover_14 F g v1 (mset g 54 3 0)) F ((-1), 0)).bind fun x16 => some (x16, (mset g 54 3 0))
theorem ok_Model_cover {γ : GG} {tt : Bool} {F : Nat} {g : Mem} {res : Int32 × Mem} (h : sp_Model_cover F g = some res) : CA γ M_Model_cover 3 [.ref 54] SH g tt (0, 0) (pI SH res.1 res.2 tt) := by
  refine CA.of mw_Model_cover.1 5 rfl ?_
  show WA γ M_Model_cover 3 0 [some (.ref 54), none, none, none, none, none] [] SH g tt (0, 0) (pI SH res.1 res.2 tt)
  unfold sp_Model_cover at h
  refine w_aload_n (q := 1) d_Model_cover_0 rfl rfl ?_
  refine w_iconst (q := 2) (v := 0) d_Model_cover_1 rfl (by decide) ?_
  refine w_put (q := 5) (ci := 12) (j := 3) d_Model_cover_2 rfl (by decide) fl_Model_114 (by decide) (by decide) s_54 rfl rfl rfl rfl rfl rfl ?_
  refine w_iconst (q := 6) (v := (-1)) d_Model_cover_5 rfl (by decide) ?_
  refine w_istore_n (q := 7) (ls' := [some (.ref 54), some (.int ((-1))), none, none, none, none]) d_Model_cover_6 rfl (by decide) rfl rfl ?_
  refine w_aload_n (q := 8) d_Model_cover_7 rfl rfl ?_
  obtain ⟨v1, hv, h⟩ := bnd h
  refine w_callVi (q := 11) (M' := M_Model_records) (n' := 2) (k := 54) (As := []) (sh' := SH) (b1 := (0, 0)) d_Model_cover_8 rfl mw_Model_records (by decide) (by decide) ml_Model_329 (by decide) s_54 (by decide) rfl rfl rfl (leb rfl) (bz _) (fun _ => rfl) (ok_Model_records hv) ?_
  refine w_istore_n (q := 12) (ls' := [some (.ref 54), some (.int ((-1))), some (.int v1), none, none, none]) d_Model_cover_11 rfl (by decide) rfl rfl ?_
  refine w_iconst (q := 13) (v := 0) d_Model_cover_12 rfl (by decide) ?_
  refine w_istore_n (q := 14) (ls' := [some (.ref 54), some (.int ((-1))), some (.int v1), some (.int 0), none, none]) d_Model_cover_13 rfl (by decide) rfl rfl ?_
  obtain ⟨x16, hx, h⟩ := bnd h
  refine w_ls (ls' := [some (.ref 54), some (.int ((-1))), some (.int v1), some (.int 0), none, none]) (And.intro rfl (And.intro rfl (And.intro rfl (And.intro rfl trivial)))) ?_
  show PL_Model_cover_14 γ tt g v1 (mset g 54 3 0) _ _ ((-1), 0)
  refine lp_ok (kl_Model_cover_14) F _ x16 hx ?_
  unfold QL_Model_cover_14
  refine w_iload_n (q := 113) d_Model_cover_112 rfl rfl ?_
  cases h
  exact w_ireturn d_Model_cover_113 rfl rfl ⟨rfl, rfl, rfl, rfl⟩
def PL_Model_alone_9 (γ : GG) (tt : Bool) (g : Mem) (m0 : Mem) (b : Nat × Nat) (Φ : PO) (s : Int32 × Int32) : Prop := WA γ M_Model_alone 3 9 [some (.ref 54), some (.int s.1), some (.int s.2)] [] SH m0 tt b Φ
def QL_Model_alone_9 (γ : GG) (tt : Bool) (g : Mem) (m0 : Mem) (b : Nat × Nat) (Φ : PO) (x : (Int32)) : Prop := WA γ M_Model_alone 3 43 [none, some (.int x), none] [] SH m0 tt b Φ
def st_Model_alone_9 (F : Nat) (g : Mem) (m0 : Mem) (s : Int32 × Int32) : Option ((Int32 × Int32) ⊕ ((Int32))) := if (m0 54 26) ≤ s.2 then some (.inr s.1) else (sp_Model_holdersOf F s.2 m0).bind fun v2 => (sp_Model_bitsOf F v2 m0).bind fun v3 => if v3 = 1 then some (.inl (s.1 + 1, s.2 + 1)) else some (.inl (s.1 + 0, s.2 + 1))
theorem kl_Model_alone_9 {γ : GG} {tt : Bool} {F : Nat} {g : Mem} {m0 : Mem} {b : Nat × Nat} {Φ : PO} : ∀ (s : Int32 × Int32) (r : (Int32 × Int32) ⊕ ((Int32))), st_Model_alone_9 F g m0 s = some r → RQ (PL_Model_alone_9 γ tt g m0 b Φ) (QL_Model_alone_9 γ tt g m0 b Φ) r → PL_Model_alone_9 γ tt g m0 b Φ s := by
  intro s r h hr
  unfold st_Model_alone_9 at h
  unfold PL_Model_alone_9
  refine w_iload_n (q := 10) d_Model_alone_9 rfl rfl ?_
  refine w_aload_n (q := 11) d_Model_alone_10 rfl rfl ?_
  refine w_get (q := 14) (ci := 12) (j := 26) d_Model_alone_11 rfl (by decide) fl_Model_121 (by decide) (by decide) s_54 rfl rfl ?_
  by_cases c1 : (m0 54 26) ≤ s.2
  · rw [if_pos c1] at h
    refine w_icmp_ge_t (q := 43) d_Model_alone_14 rfl c1 ?_
    cases h
    exact w_ls (by exact (And.intro rfl trivial)) hr
  · rw [if_neg c1] at h
    refine w_icmp_ge_f (q := 17) d_Model_alone_14 43 rfl rfl c1 ?_
    refine w_iload_n (q := 18) d_Model_alone_17 rfl rfl ?_
    refine w_aload_n (q := 19) d_Model_alone_18 rfl rfl ?_
    refine w_iload_n (q := 20) d_Model_alone_19 rfl rfl ?_
    obtain ⟨v2, hv, h⟩ := bnd h
    refine w_callVi (q := 23) (M' := M_Model_holdersOf) (n' := 2) (k := 54) (As := [.int s.2]) (sh' := SH) (b1 := (0, 0)) d_Model_alone_20 rfl mw_Model_holdersOf (by decide) (by decide) ml_Model_346 (by decide) s_54 (by decide) rfl rfl rfl (leb rfl) (bz _) (fun _ => rfl) (ok_Model_holdersOf hv) ?_
    obtain ⟨v3, hv, h⟩ := bnd h
    refine w_callSi (q := 26) (M' := M_Model_bitsOf) (n' := 0) (As := [.int v2]) (sh' := SH) (b1 := (0, 0)) d_Model_alone_23 rfl mw_Model_bitsOf (by decide) (by decide) ml_Model_332 rfl rfl (leb rfl) (bz _) (fun _ => rfl) (ok_Model_bitsOf hv) ?_
    refine w_iconst (q := 27) (v := 1) d_Model_alone_26 rfl (by decide) ?_
    by_cases c4 : v3 = 1
    · rw [if_pos c4] at h
      refine w_icmp_ne_f (q := 30) d_Model_alone_27 34 rfl rfl c4 ?_
      refine w_iconst (q := 31) (v := 1) d_Model_alone_30 rfl (by decide) ?_
      refine w_goto (q := 35) d_Model_alone_31 rfl ?_
      refine w_iadd (q := 36) d_Model_alone_35 rfl ?_
      refine w_istore_n (q := 37) (ls' := [some (.ref 54), some (.int (s.1 + 1)), some (.int s.2)]) d_Model_alone_36 rfl (by decide) rfl rfl ?_
      refine w_iinc (q := 40) (ls' := [some (.ref 54), some (.int (s.1 + 1)), some (.int (s.2 + 1))]) d_Model_alone_37 rfl (by decide) rfl rfl rfl ?_
      refine w_goto (q := 9) d_Model_alone_40 rfl ?_
      cases h
      exact w_ls (by exact (And.intro rfl (And.intro rfl (And.intro rfl trivial)))) hr
    · rw [if_neg c4] at h
      refine w_icmp_ne_t (q := 34) d_Model_alone_27 rfl c4 ?_
      refine w_iconst (q := 35) (v := 0) d_Model_alone_34 rfl (by decide) ?_
      refine w_iadd (q := 36) d_Model_alone_35 rfl ?_
      refine w_istore_n (q := 37) (ls' := [some (.ref 54), some (.int (s.1 + 0)), some (.int s.2)]) d_Model_alone_36 rfl (by decide) rfl rfl ?_
      refine w_iinc (q := 40) (ls' := [some (.ref 54), some (.int (s.1 + 0)), some (.int (s.2 + 1))]) d_Model_alone_37 rfl (by decide) rfl rfl rfl ?_
      refine w_goto (q := 9) d_Model_alone_40 rfl ?_
      cases h
      exact w_ls (by exact (And.intro rfl (And.intro rfl (And.intro rfl trivial)))) hr
def sp_Model_alone (F : Nat) (g : Mem) : Option (Int32 × Mem) := (lpO (st_Model_alone_9 F g (mset g 54 3 0)) F (0, 0)).bind fun x5 => some (x5, (mset g 54 3 0))
theorem ok_Model_alone {γ : GG} {tt : Bool} {F : Nat} {g : Mem} {res : Int32 × Mem} (h : sp_Model_alone F g = some res) : CA γ M_Model_alone 3 [.ref 54] SH g tt (0, 0) (pI SH res.1 res.2 tt) := by
  refine CA.of mw_Model_alone.1 2 rfl ?_
  show WA γ M_Model_alone 3 0 [some (.ref 54), none, none] [] SH g tt (0, 0) (pI SH res.1 res.2 tt)
  unfold sp_Model_alone at h
  refine w_aload_n (q := 1) d_Model_alone_0 rfl rfl ?_
  refine w_iconst (q := 2) (v := 0) d_Model_alone_1 rfl (by decide) ?_
  refine w_put (q := 5) (ci := 12) (j := 3) d_Model_alone_2 rfl (by decide) fl_Model_114 (by decide) (by decide) s_54 rfl rfl rfl rfl rfl rfl ?_
  refine w_iconst (q := 6) (v := 0) d_Model_alone_5 rfl (by decide) ?_
  refine w_istore_n (q := 7) (ls' := [some (.ref 54), some (.int 0), none]) d_Model_alone_6 rfl (by decide) rfl rfl ?_
  refine w_iconst (q := 8) (v := 0) d_Model_alone_7 rfl (by decide) ?_
  refine w_istore_n (q := 9) (ls' := [some (.ref 54), some (.int 0), some (.int 0)]) d_Model_alone_8 rfl (by decide) rfl rfl ?_
  obtain ⟨x5, hx, h⟩ := bnd h
  refine w_ls (ls' := [some (.ref 54), some (.int 0), some (.int 0)]) (And.intro rfl (And.intro rfl (And.intro rfl trivial))) ?_
  show PL_Model_alone_9 γ tt g (mset g 54 3 0) _ _ (0, 0)
  refine lp_ok (kl_Model_alone_9) F _ x5 hx ?_
  unfold QL_Model_alone_9
  refine w_iload_n (q := 44) d_Model_alone_43 rfl rfl ?_
  cases h
  exact w_ireturn d_Model_alone_44 rfl rfl ⟨rfl, rfl, rfl, rfl⟩
def sp_Model_shaveNow (F : Nat) (p0 : Int32) (p1 : Int32) (g : Mem) : Option (Mem) := (rd g 61 12 p0).bind fun v1 => if p1 < v1 then (wr g 61 12 p0 p1).bind fun g3 => (sp_Model_loseFar F g3).bind fun v4 => some v4.2 else some g
theorem ok_Model_shaveNow {γ : GG} {tt : Bool} {F : Nat} {p0 : Int32} {p1 : Int32} {g : Mem} {res : Mem} (h : sp_Model_shaveNow F p0 p1 g = some res) : CA γ M_Model_shaveNow 4 [.ref 54, .int p0, .int p1] SH g tt (0, 0) (pV SH res tt) := by
  refine CA.of mw_Model_shaveNow.1 0 rfl ?_
  show WA γ M_Model_shaveNow 4 0 [some (.ref 54), some (.int p0), some (.int p1)] [] SH g tt (0, 0) (pV SH res tt)
  unfold sp_Model_shaveNow at h
  refine w_iload_n (q := 1) d_Model_shaveNow_0 rfl rfl ?_
  refine w_aload_n (q := 2) d_Model_shaveNow_1 rfl rfl ?_
  refine w_get (q := 5) (ci := 12) (j := 7) d_Model_shaveNow_2 rfl (by decide) fl_Model_59 (by decide) (by decide) s_54 rfl rfl ?_
  refine w_iload_n (q := 6) d_Model_shaveNow_5 rfl rfl ?_
  obtain ⟨v1, hv, h⟩ := bnd h
  obtain ⟨hi, hv⟩ := rd_ok hv
  refine w_iald (q := 7) (t := 0) d_Model_shaveNow_6 rfl a_61.2 a_61.1 hi rfl ?_
  rw [hv]
  by_cases c2 : p1 < v1
  · rw [if_pos c2] at h
    refine w_icmp_lt_t (q := 11) d_Model_shaveNow_7 rfl c2 ?_
    refine w_aload_n (q := 12) d_Model_shaveNow_11 rfl rfl ?_
    refine w_get (q := 15) (ci := 12) (j := 7) d_Model_shaveNow_12 rfl (by decide) fl_Model_59 (by decide) (by decide) s_54 rfl rfl ?_
    refine w_iload_n (q := 16) d_Model_shaveNow_15 rfl rfl ?_
    refine w_iload_n (q := 17) d_Model_shaveNow_16 rfl rfl ?_
    obtain ⟨g3, hv, h⟩ := bnd h
    obtain ⟨hi, hv⟩ := wr_ok hv
    refine w_iast (q := 18) d_Model_shaveNow_17 rfl a_61.2 a_61.1 hi hv ?_
    refine w_aload_n (q := 19) d_Model_shaveNow_18 rfl rfl ?_
    obtain ⟨v4, hv, h⟩ := bnd h
    refine w_callVi (q := 22) (M' := M_Model_loseFar) (n' := 3) (k := 54) (As := []) (sh' := SH) (b1 := (0, 0)) d_Model_shaveNow_19 rfl mw_Model_loseFar (by decide) (by decide) ml_Model_292 (by decide) s_54 (by decide) rfl rfl rfl (leb rfl) (bz _) (fun _ => rfl) (ok_Model_loseFar hv) ?_
    refine w_pop (q := 23) d_Model_shaveNow_22 rfl rfl ?_
    cases h
    exact w_return d_Model_shaveNow_23 rfl ⟨rfl, rfl, rfl, rfl⟩
  · rw [if_neg c2] at h
    refine w_icmp_lt_f (q := 10) d_Model_shaveNow_7 11 rfl rfl c2 ?_
    cases h
    exact w_return d_Model_shaveNow_10 rfl ⟨rfl, rfl, rfl, rfl⟩
def PL_Model_lostByRazors_16 (γ : GG) (tt : Bool) (p0 : Int32) (g : Mem) (k1 : Int32) (k2 : Int32) (b : Nat × Nat) (Φ : PO) (s : Int32 × Mem) : Prop := WA γ M_Model_lostByRazors 5 16 [some (.ref 54), some (.int k1), some (.int k2), some (.int s.1)] [] SH s.2 tt b Φ
def QL_Model_lostByRazors_16 (γ : GG) (tt : Bool) (p0 : Int32) (g : Mem) (k1 : Int32) (k2 : Int32) (b : Nat × Nat) (Φ : PO) (x : (Mem)) : Prop := WA γ M_Model_lostByRazors 5 46 [some (.ref 54), none, some (.int k2), none] [] SH x tt b Φ
def st_Model_lostByRazors_16 (F : Nat) (p0 : Int32) (g : Mem) (k1 : Int32) (k2 : Int32) (s : Int32 × Mem) : Option ((Int32 × Mem) ⊕ ((Mem))) := (rd s.2 58 12 0).bind fun v3 => if v3 ≤ s.1 then some (.inr s.2) else (sp_Model_isOf k1 s.1 s.2).bind fun v5 => if v5 = 0 then some (.inl (s.1 + 1, s.2)) else (sp_Model_shaveNow F s.1 0 s.2).bind fun v7 => some (.inl (s.1 + 1, v7))
theorem kl_Model_lostByRazors_16 {γ : GG} {tt : Bool} {F : Nat} {p0 : Int32} {g : Mem} {k1 : Int32} {k2 : Int32} {b : Nat × Nat} {Φ : PO} : ∀ (s : Int32 × Mem) (r : (Int32 × Mem) ⊕ ((Mem))), st_Model_lostByRazors_16 F p0 g k1 k2 s = some r → RQ (PL_Model_lostByRazors_16 γ tt p0 g k1 k2 b Φ) (QL_Model_lostByRazors_16 γ tt p0 g k1 k2 b Φ) r → PL_Model_lostByRazors_16 γ tt p0 g k1 k2 b Φ s := by
  intro s r h hr
  unfold st_Model_lostByRazors_16 at h
  unfold PL_Model_lostByRazors_16
  refine w_iload_n (q := 17) d_Model_lostByRazors_16 rfl rfl ?_
  refine w_aload_n (q := 18) d_Model_lostByRazors_17 rfl rfl ?_
  refine w_get (q := 21) (ci := 12) (j := 4) d_Model_lostByRazors_18 rfl (by decide) fl_Model_51 (by decide) (by decide) s_54 rfl rfl ?_
  refine w_iconst (q := 22) (v := 0) d_Model_lostByRazors_21 rfl (by decide) ?_
  obtain ⟨v3, hv, h⟩ := bnd h
  obtain ⟨hi, hv⟩ := rd_ok hv
  refine w_iald (q := 23) (t := 0) d_Model_lostByRazors_22 rfl a_58.2 a_58.1 hi rfl ?_
  rw [hv]
  by_cases c4 : v3 ≤ s.1
  · rw [if_pos c4] at h
    refine w_icmp_ge_t (q := 46) d_Model_lostByRazors_23 rfl c4 ?_
    cases h
    exact w_ls (by exact (And.intro rfl (And.intro rfl trivial))) hr
  · rw [if_neg c4] at h
    refine w_icmp_ge_f (q := 26) d_Model_lostByRazors_23 46 rfl rfl c4 ?_
    refine w_iload_n (q := 27) d_Model_lostByRazors_26 rfl rfl ?_
    refine w_iload_n (q := 28) d_Model_lostByRazors_27 rfl rfl ?_
    obtain ⟨v5, hv, h⟩ := bnd h
    refine w_callSi (q := 31) (M' := M_Model_isOf) (n' := 0) (As := [.int k1, .int s.1]) (sh' := SH) (b1 := (0, 0)) d_Model_lostByRazors_28 rfl mw_Model_isOf (by decide) (by decide) ml_Model_308 rfl rfl (leb rfl) (bz _) (fun _ => rfl) (ok_Model_isOf hv) ?_
    by_cases c6 : v5 = 0
    · rw [if_pos c6] at h
      refine w_if_eq_t (q := 40) d_Model_lostByRazors_31 rfl c6 ?_
      refine w_iinc (q := 43) (ls' := [some (.ref 54), some (.int k1), some (.int k2), some (.int (s.1 + 1))]) d_Model_lostByRazors_40 rfl (by decide) rfl rfl rfl ?_
      refine w_goto (q := 16) d_Model_lostByRazors_43 rfl ?_
      cases h
      exact w_ls (by exact (And.intro rfl (And.intro rfl (And.intro rfl (And.intro rfl trivial))))) hr
    · rw [if_neg c6] at h
      refine w_if_eq_f (q := 34) d_Model_lostByRazors_31 40 rfl rfl c6 ?_
      refine w_aload_n (q := 35) d_Model_lostByRazors_34 rfl rfl ?_
      refine w_iload_n (q := 36) d_Model_lostByRazors_35 rfl rfl ?_
      refine w_iconst (q := 37) (v := 0) d_Model_lostByRazors_36 rfl (by decide) ?_
      obtain ⟨v7, hv, h⟩ := bnd h
      refine w_callVv (q := 40) (M' := M_Model_shaveNow) (n' := 4) (k := 54) (As := [.int s.1, .int 0]) (sh' := SH) (b1 := (0, 0)) d_Model_lostByRazors_37 rfl mw_Model_shaveNow (by decide) (by decide) ml_Model_406 (by decide) s_54 (by decide) rfl rfl rfl (leb rfl) (bz _) (fun _ => rfl) (ok_Model_shaveNow hv) ?_
      refine w_iinc (q := 43) (ls' := [some (.ref 54), some (.int k1), some (.int k2), some (.int (s.1 + 1))]) d_Model_lostByRazors_40 rfl (by decide) rfl rfl rfl ?_
      refine w_goto (q := 16) d_Model_lostByRazors_43 rfl ?_
      cases h
      exact w_ls (by exact (And.intro rfl (And.intro rfl (And.intro rfl (And.intro rfl trivial))))) hr
def sp_Model_lostByRazors (F : Nat) (p0 : Int32) (g : Mem) : Option (Int32 × Mem) := (sp_Model_records F g).bind fun v1 => (sp_Model_pack F 70 231 0 g).bind fun v2 => (lpO (st_Model_lostByRazors_16 F p0 g p0 v1) F (0, v2)).bind fun x8 => (sp_Model_records F x8).bind fun v9 => (sp_Model_unpack F 70 231 0 x8).bind fun v10 => some (v1 &&& (v9 ^^^ (-1)), v10)
theorem ok_Model_lostByRazors {γ : GG} {tt : Bool} {F : Nat} {p0 : Int32} {g : Mem} {res : Int32 × Mem} (h : sp_Model_lostByRazors F p0 g = some res) : CA γ M_Model_lostByRazors 5 [.ref 54, .int p0] SH g tt (0, 0) (pI SH res.1 res.2 tt) := by
  refine CA.of mw_Model_lostByRazors.1 2 rfl ?_
  show WA γ M_Model_lostByRazors 5 0 [some (.ref 54), some (.int p0), none, none] [] SH g tt (0, 0) (pI SH res.1 res.2 tt)
  unfold sp_Model_lostByRazors at h
  refine w_aload_n (q := 1) d_Model_lostByRazors_0 rfl rfl ?_
  obtain ⟨v1, hv, h⟩ := bnd h
  refine w_callVi (q := 4) (M' := M_Model_records) (n' := 2) (k := 54) (As := []) (sh' := SH) (b1 := (0, 0)) d_Model_lostByRazors_1 rfl mw_Model_records (by decide) (by decide) ml_Model_329 (by decide) s_54 (by decide) rfl rfl rfl (leb rfl) (bz _) (fun _ => rfl) (ok_Model_records hv) ?_
  refine w_istore_n (q := 5) (ls' := [some (.ref 54), some (.int p0), some (.int v1), none]) d_Model_lostByRazors_4 rfl (by decide) rfl rfl ?_
  refine w_aload_n (q := 6) d_Model_lostByRazors_5 rfl rfl ?_
  refine w_aload_n (q := 7) d_Model_lostByRazors_6 rfl rfl ?_
  refine w_get (q := 10) (ci := 12) (j := 31) d_Model_lostByRazors_7 rfl (by decide) fl_Model_90 (by decide) (by decide) s_54 rfl rfl ?_
  refine w_iconst (q := 11) (v := 0) d_Model_lostByRazors_10 rfl (by decide) ?_
  obtain ⟨v2, hv, h⟩ := bnd h
  refine w_callVv (q := 14) (M' := M_Model_pack) (n' := 0) (k := 54) (As := [.ref 70, .int 0]) (sh' := SH) (b1 := (0, 0)) d_Model_lostByRazors_11 rfl mw_Model_pack (by decide) (by decide) ml_Model_359 (by decide) s_54 (by decide) rfl rfl rfl (leb rfl) (bz _) (fun _ => rfl) (ok_Model_pack a_70 hv) ?_
  refine w_iconst (q := 15) (v := 0) d_Model_lostByRazors_14 rfl (by decide) ?_
  refine w_istore_n (q := 16) (ls' := [some (.ref 54), some (.int p0), some (.int v1), some (.int 0)]) d_Model_lostByRazors_15 rfl (by decide) rfl rfl ?_
  obtain ⟨x8, hx, h⟩ := bnd h
  refine w_ls (ls' := [some (.ref 54), some (.int p0), some (.int v1), some (.int 0)]) (And.intro rfl (And.intro rfl (And.intro rfl (And.intro rfl trivial)))) ?_
  show PL_Model_lostByRazors_16 γ tt p0 g p0 v1 _ _ (0, v2)
  refine lp_ok (kl_Model_lostByRazors_16) F _ x8 hx ?_
  unfold QL_Model_lostByRazors_16
  refine w_aload_n (q := 47) d_Model_lostByRazors_46 rfl rfl ?_
  obtain ⟨v9, hv, h⟩ := bnd h
  refine w_callVi (q := 50) (M' := M_Model_records) (n' := 2) (k := 54) (As := []) (sh' := SH) (b1 := (0, 0)) d_Model_lostByRazors_47 rfl mw_Model_records (by decide) (by decide) ml_Model_329 (by decide) s_54 (by decide) rfl rfl rfl (leb rfl) (bz _) (fun _ => rfl) (ok_Model_records hv) ?_
  refine w_istore_n (q := 51) (ls' := [some (.ref 54), none, some (.int v1), some (.int v9)]) d_Model_lostByRazors_50 rfl (by decide) rfl rfl ?_
  refine w_aload_n (q := 52) d_Model_lostByRazors_51 rfl rfl ?_
  refine w_aload_n (q := 53) d_Model_lostByRazors_52 rfl rfl ?_
  refine w_get (q := 56) (ci := 12) (j := 31) d_Model_lostByRazors_53 rfl (by decide) fl_Model_90 (by decide) (by decide) s_54 rfl rfl ?_
  refine w_iconst (q := 57) (v := 0) d_Model_lostByRazors_56 rfl (by decide) ?_
  obtain ⟨v10, hv, h⟩ := bnd h
  refine w_callVv (q := 60) (M' := M_Model_unpack) (n' := 0) (k := 54) (As := [.ref 70, .int 0]) (sh' := SH) (b1 := (0, 0)) d_Model_lostByRazors_57 rfl mw_Model_unpack (by decide) (by decide) ml_Model_393 (by decide) s_54 (by decide) rfl rfl rfl (leb rfl) (bz _) (fun _ => rfl) (ok_Model_unpack a_70 hv) ?_
  refine w_iload_n (q := 61) d_Model_lostByRazors_60 rfl rfl ?_
  refine w_iload_n (q := 62) d_Model_lostByRazors_61 rfl rfl ?_
  refine w_iconst (q := 63) (v := (-1)) d_Model_lostByRazors_62 rfl (by decide) ?_
  refine w_ixor (q := 64) d_Model_lostByRazors_63 rfl ?_
  refine w_iand (q := 65) d_Model_lostByRazors_64 rfl ?_
  cases h
  exact w_ireturn d_Model_lostByRazors_65 rfl rfl ⟨rfl, rfl, rfl, rfl⟩
def PL_Model_noPlaits_4 (γ : GG) (tt : Bool) (g : Mem) (b : Nat × Nat) (Φ : PO) (s : Int32 × Int32) : Prop := WA γ M_Model_noPlaits 0 4 [some (.ref 54), some (.int s.1), some (.int s.2)] [] SH g tt b Φ
def QL_Model_noPlaits_4 (γ : GG) (tt : Bool) (g : Mem) (b : Nat × Nat) (Φ : PO) (x : (Int32)) : Prop := WA γ M_Model_noPlaits 0 40 [none, some (.int x), none] [] SH g tt b Φ
def st_Model_noPlaits_4 (F : Nat) (g : Mem) (s : Int32 × Int32) : Option ((Int32 × Int32) ⊕ ((Int32))) := (rd g 58 12 0).bind fun v1 => if v1 ≤ s.2 then some (.inr s.1) else (rd g 59 12 s.2).bind fun v3 => if v3 = 3 then some (.inl (s.1 ||| 0, s.2 + 1)) else some (.inl (s.1 ||| (1 <<< (s.2 &&& 31)), s.2 + 1))
theorem kl_Model_noPlaits_4 {γ : GG} {tt : Bool} {F : Nat} {g : Mem} {b : Nat × Nat} {Φ : PO} : ∀ (s : Int32 × Int32) (r : (Int32 × Int32) ⊕ ((Int32))), st_Model_noPlaits_4 F g s = some r → RQ (PL_Model_noPlaits_4 γ tt g b Φ) (QL_Model_noPlaits_4 γ tt g b Φ) r → PL_Model_noPlaits_4 γ tt g b Φ s := by
  intro s r h hr
  unfold st_Model_noPlaits_4 at h
  unfold PL_Model_noPlaits_4
  refine w_iload_n (q := 5) d_Model_noPlaits_4 rfl rfl ?_
  refine w_aload_n (q := 6) d_Model_noPlaits_5 rfl rfl ?_
  refine w_get (q := 9) (ci := 12) (j := 4) d_Model_noPlaits_6 rfl (by decide) fl_Model_51 (by decide) (by decide) s_54 rfl rfl ?_
  refine w_iconst (q := 10) (v := 0) d_Model_noPlaits_9 rfl (by decide) ?_
  obtain ⟨v1, hv, h⟩ := bnd h
  obtain ⟨hi, hv⟩ := rd_ok hv
  refine w_iald (q := 11) (t := 0) d_Model_noPlaits_10 rfl a_58.2 a_58.1 hi rfl ?_
  rw [hv]
  by_cases c2 : v1 ≤ s.2
  · rw [if_pos c2] at h
    refine w_icmp_ge_t (q := 40) d_Model_noPlaits_11 rfl c2 ?_
    cases h
    exact w_ls (by exact (And.intro rfl trivial)) hr
  · rw [if_neg c2] at h
    refine w_icmp_ge_f (q := 14) d_Model_noPlaits_11 40 rfl rfl c2 ?_
    refine w_iload_n (q := 15) d_Model_noPlaits_14 rfl rfl ?_
    refine w_aload_n (q := 16) d_Model_noPlaits_15 rfl rfl ?_
    refine w_get (q := 19) (ci := 12) (j := 5) d_Model_noPlaits_16 rfl (by decide) fl_Model_55 (by decide) (by decide) s_54 rfl rfl ?_
    refine w_iload_n (q := 20) d_Model_noPlaits_19 rfl rfl ?_
    obtain ⟨v3, hv, h⟩ := bnd h
    obtain ⟨hi, hv⟩ := rd_ok hv
    refine w_iald (q := 21) (t := 0) d_Model_noPlaits_20 rfl a_59.2 a_59.1 hi rfl ?_
    rw [hv]
    refine w_iconst (q := 22) (v := 3) d_Model_noPlaits_21 rfl (by decide) ?_
    by_cases c4 : v3 = 3
    · rw [if_pos c4] at h
      refine w_icmp_ne_f (q := 25) d_Model_noPlaits_22 29 rfl rfl c4 ?_
      refine w_iconst (q := 26) (v := 0) d_Model_noPlaits_25 rfl (by decide) ?_
      refine w_goto (q := 32) d_Model_noPlaits_26 rfl ?_
      refine w_ior (q := 33) d_Model_noPlaits_32 rfl ?_
      refine w_istore_n (q := 34) (ls' := [some (.ref 54), some (.int (s.1 ||| 0)), some (.int s.2)]) d_Model_noPlaits_33 rfl (by decide) rfl rfl ?_
      refine w_iinc (q := 37) (ls' := [some (.ref 54), some (.int (s.1 ||| 0)), some (.int (s.2 + 1))]) d_Model_noPlaits_34 rfl (by decide) rfl rfl rfl ?_
      refine w_goto (q := 4) d_Model_noPlaits_37 rfl ?_
      cases h
      exact w_ls (by exact (And.intro rfl (And.intro rfl (And.intro rfl trivial)))) hr
    · rw [if_neg c4] at h
      refine w_icmp_ne_t (q := 29) d_Model_noPlaits_22 rfl c4 ?_
      refine w_iconst (q := 30) (v := 1) d_Model_noPlaits_29 rfl (by decide) ?_
      refine w_iload_n (q := 31) d_Model_noPlaits_30 rfl rfl ?_
      refine w_ishl (q := 32) d_Model_noPlaits_31 rfl ?_
      refine w_ior (q := 33) d_Model_noPlaits_32 rfl ?_
      refine w_istore_n (q := 34) (ls' := [some (.ref 54), some (.int (s.1 ||| (1 <<< (s.2 &&& 31)))), some (.int s.2)]) d_Model_noPlaits_33 rfl (by decide) rfl rfl ?_
      refine w_iinc (q := 37) (ls' := [some (.ref 54), some (.int (s.1 ||| (1 <<< (s.2 &&& 31)))), some (.int (s.2 + 1))]) d_Model_noPlaits_34 rfl (by decide) rfl rfl rfl ?_
      refine w_goto (q := 4) d_Model_noPlaits_37 rfl ?_
      cases h
      exact w_ls (by exact (And.intro rfl (And.intro rfl (And.intro rfl trivial)))) hr
def sp_Model_noPlaits (F : Nat) (g : Mem) : Option (Int32) := (lpO (st_Model_noPlaits_4 F g) F (0, 0)).bind fun x5 => some x5
theorem ok_Model_noPlaits {γ : GG} {tt : Bool} {F : Nat} {g : Mem} {res : Int32} (h : sp_Model_noPlaits F g = some res) : CA γ M_Model_noPlaits 0 [.ref 54] SH g tt (0, 0) (pI SH res g tt) := by
  refine CA.of mw_Model_noPlaits.1 2 rfl ?_
  show WA γ M_Model_noPlaits 0 0 [some (.ref 54), none, none] [] SH g tt (0, 0) (pI SH res g tt)
  unfold sp_Model_noPlaits at h
  refine w_iconst (q := 1) (v := 0) d_Model_noPlaits_0 rfl (by decide) ?_
  refine w_istore_n (q := 2) (ls' := [some (.ref 54), some (.int 0), none]) d_Model_noPlaits_1 rfl (by decide) rfl rfl ?_
  refine w_iconst (q := 3) (v := 0) d_Model_noPlaits_2 rfl (by decide) ?_
  refine w_istore_n (q := 4) (ls' := [some (.ref 54), some (.int 0), some (.int 0)]) d_Model_noPlaits_3 rfl (by decide) rfl rfl ?_
  obtain ⟨x5, hx, h⟩ := bnd h
  refine w_ls (ls' := [some (.ref 54), some (.int 0), some (.int 0)]) (And.intro rfl (And.intro rfl (And.intro rfl trivial))) ?_
  show PL_Model_noPlaits_4 γ tt g _ _ (0, 0)
  refine lp_ok (kl_Model_noPlaits_4) F _ x5 hx ?_
  unfold QL_Model_noPlaits_4
  refine w_iload_n (q := 41) d_Model_noPlaits_40 rfl rfl ?_
  cases h
  exact w_ireturn d_Model_noPlaits_41 rfl rfl ⟨rfl, rfl, rfl, rfl⟩
def PL_Model_barbers_43 (γ : GG) (tt : Bool) (p0 : Int32) (g : Mem) (k2 : Int32) (k3 : Int32) (b : Nat × Nat) (Φ : PO) (s : Int32 × Int32 × Mem) : Prop := WA γ M_Model_barbers 6 43 [some (.ref 54), none, some (.int k2), some (.int k3), some (.int s.1), some (.int s.2.1)] [] SH s.2.2 tt b Φ
def QL_Model_barbers_43 (γ : GG) (tt : Bool) (p0 : Int32) (g : Mem) (k2 : Int32) (k3 : Int32) (b : Nat × Nat) (Φ : PO) (x : (Int32 × Mem)) : Prop := WA γ M_Model_barbers 6 114 [none, none, none, none, some (.int x.1), none] [] SH x.2 tt b Φ
def st_Model_barbers_43 (F : Nat) (p0 : Int32) (g : Mem) (k2 : Int32) (k3 : Int32) (s : Int32 × Int32 × Mem) : Option ((Int32 × Int32 × Mem) ⊕ ((Int32 × Mem))) := (rd s.2.2 58 12 0).bind fun v7 => if (1 <<< (v7 &&& 31)) ≤ s.2.1 then some (.inr (s.1, s.2.2)) else if (s.2.1 &&& (k2 ^^^ (-1))) = 0 then (sp_Model_bitsOf F s.2.1 s.2.2).bind fun v10 => if v10 = k3 then if s.1 = (-1) then some (.inl (s.2.1, s.2.1 + 1, s.2.2)) else (sp_Model_lostByRazors F s.2.1 s.2.2).bind fun v13 => (sp_Model_bitsOf F v13.1 v13.2).bind fun v14 => (sp_Model_lostByRazors F s.1 v13.2).bind fun v15 => (sp_Model_bitsOf F v15.1 v15.2).bind fun v16 => if v14 ≤ v16 then some (.inl (s.1, s.2.1 + 1, v15.2)) else some (.inl (s.2.1, s.2.1 + 1, v15.2)) else some (.inl (s.1, s.2.1 + 1, s.2.2)) else some (.inl (s.1, s.2.1 + 1, s.2.2))
theorem kl_Model_barbers_43 {γ : GG} {tt : Bool} {F : Nat} {p0 : Int32} {g : Mem} {k2 : Int32} {k3 : Int32} {b : Nat × Nat} {Φ : PO} : ∀ (s : Int32 × Int32 × Mem) (r : (Int32 × Int32 × Mem) ⊕ ((Int32 × Mem))), st_Model_barbers_43 F p0 g k2 k3 s = some r → RQ (PL_Model_barbers_43 γ tt p0 g k2 k3 b Φ) (QL_Model_barbers_43 γ tt p0 g k2 k3 b Φ) r → PL_Model_barbers_43 γ tt p0 g k2 k3 b Φ s := by
  intro s r h hr
  unfold st_Model_barbers_43 at h
  unfold PL_Model_barbers_43
  refine w_iload (q := 45) d_Model_barbers_43 rfl rfl ?_
  refine w_iconst (q := 46) (v := 1) d_Model_barbers_45 rfl (by decide) ?_
  refine w_aload_n (q := 47) d_Model_barbers_46 rfl rfl ?_
  refine w_get (q := 50) (ci := 12) (j := 4) d_Model_barbers_47 rfl (by decide) fl_Model_51 (by decide) (by decide) s_54 rfl rfl ?_
  refine w_iconst (q := 51) (v := 0) d_Model_barbers_50 rfl (by decide) ?_
  obtain ⟨v7, hv, h⟩ := bnd h
  obtain ⟨hi, hv⟩ := rd_ok hv
  refine w_iald (q := 52) (t := 0) d_Model_barbers_51 rfl a_58.2 a_58.1 hi rfl ?_
  rw [hv]
  refine w_ishl (q := 53) d_Model_barbers_52 rfl ?_
  by_cases c8 : (1 <<< (v7 &&& 31)) ≤ s.2.1
  · rw [if_pos c8] at h
    refine w_icmp_ge_t (q := 114) d_Model_barbers_53 rfl c8 ?_
    cases h
    exact w_ls (by exact (And.intro rfl trivial)) hr
  · rw [if_neg c8] at h
    refine w_icmp_ge_f (q := 56) d_Model_barbers_53 114 rfl rfl c8 ?_
    refine w_iload (q := 58) d_Model_barbers_56 rfl rfl ?_
    refine w_iload_n (q := 59) d_Model_barbers_58 rfl rfl ?_
    refine w_iconst (q := 60) (v := (-1)) d_Model_barbers_59 rfl (by decide) ?_
    refine w_ixor (q := 61) d_Model_barbers_60 rfl ?_
    refine w_iand (q := 62) d_Model_barbers_61 rfl ?_
    by_cases c9 : (s.2.1 &&& (k2 ^^^ (-1))) = 0
    · rw [if_pos c9] at h
      refine w_if_ne_f (q := 65) d_Model_barbers_62 108 rfl rfl c9 ?_
      refine w_iload (q := 67) d_Model_barbers_65 rfl rfl ?_
      obtain ⟨v10, hv, h⟩ := bnd h
      refine w_callSi (q := 70) (M' := M_Model_bitsOf) (n' := 0) (As := [.int s.2.1]) (sh' := SH) (b1 := (0, 0)) d_Model_barbers_67 rfl mw_Model_bitsOf (by decide) (by decide) ml_Model_332 rfl rfl (leb rfl) (bz _) (fun _ => rfl) (ok_Model_bitsOf hv) ?_
      refine w_iload_n (q := 71) d_Model_barbers_70 rfl rfl ?_
      by_cases c11 : v10 = k3
      · rw [if_pos c11] at h
        refine w_icmp_eq_t (q := 77) d_Model_barbers_71 rfl c11 ?_
        refine w_iload (q := 79) d_Model_barbers_77 rfl rfl ?_
        refine w_iconst (q := 80) (v := (-1)) d_Model_barbers_79 rfl (by decide) ?_
        by_cases c12 : s.1 = (-1)
        · rw [if_pos c12] at h
          refine w_icmp_eq_t (q := 104) d_Model_barbers_80 rfl c12 ?_
          refine w_iload (q := 106) d_Model_barbers_104 rfl rfl ?_
          refine w_istore (q := 108) (ls' := [some (.ref 54), none, some (.int k2), some (.int k3), some (.int s.2.1), some (.int s.2.1)]) d_Model_barbers_106 rfl (by decide) rfl rfl ?_
          refine w_iinc (q := 111) (ls' := [some (.ref 54), none, some (.int k2), some (.int k3), some (.int s.2.1), some (.int (s.2.1 + 1))]) d_Model_barbers_108 rfl (by decide) rfl rfl rfl ?_
          refine w_goto (q := 43) d_Model_barbers_111 rfl ?_
          cases h
          exact w_ls (by exact (And.intro rfl (And.intro rfl (And.intro rfl (And.intro rfl (And.intro rfl trivial)))))) hr
        · rw [if_neg c12] at h
          refine w_icmp_eq_f (q := 83) d_Model_barbers_80 104 rfl rfl c12 ?_
          refine w_aload_n (q := 84) d_Model_barbers_83 rfl rfl ?_
          refine w_iload (q := 86) d_Model_barbers_84 rfl rfl ?_
          obtain ⟨v13, hv, h⟩ := bnd h
          refine w_callVi (q := 89) (M' := M_Model_lostByRazors) (n' := 5) (k := 54) (As := [.int s.2.1]) (sh' := SH) (b1 := (0, 0)) d_Model_barbers_86 rfl mw_Model_lostByRazors (by decide) (by decide) ml_Model_415 (by decide) s_54 (by decide) rfl rfl rfl (leb rfl) (bz _) (fun _ => rfl) (ok_Model_lostByRazors hv) ?_
          obtain ⟨v14, hv, h⟩ := bnd h
          refine w_callSi (q := 92) (M' := M_Model_bitsOf) (n' := 0) (As := [.int v13.1]) (sh' := SH) (b1 := (0, 0)) d_Model_barbers_89 rfl mw_Model_bitsOf (by decide) (by decide) ml_Model_332 rfl rfl (leb rfl) (bz _) (fun _ => rfl) (ok_Model_bitsOf hv) ?_
          refine w_aload_n (q := 93) d_Model_barbers_92 rfl rfl ?_
          refine w_iload (q := 95) d_Model_barbers_93 rfl rfl ?_
          obtain ⟨v15, hv, h⟩ := bnd h
          refine w_callVi (q := 98) (M' := M_Model_lostByRazors) (n' := 5) (k := 54) (As := [.int s.1]) (sh' := SH) (b1 := (0, 0)) d_Model_barbers_95 rfl mw_Model_lostByRazors (by decide) (by decide) ml_Model_415 (by decide) s_54 (by decide) rfl rfl rfl (leb rfl) (bz _) (fun _ => rfl) (ok_Model_lostByRazors hv) ?_
          obtain ⟨v16, hv, h⟩ := bnd h
          refine w_callSi (q := 101) (M' := M_Model_bitsOf) (n' := 0) (As := [.int v15.1]) (sh' := SH) (b1 := (0, 0)) d_Model_barbers_98 rfl mw_Model_bitsOf (by decide) (by decide) ml_Model_332 rfl rfl (leb rfl) (bz _) (fun _ => rfl) (ok_Model_bitsOf hv) ?_
          by_cases c17 : v14 ≤ v16
          · rw [if_pos c17] at h
            refine w_icmp_le_t (q := 108) d_Model_barbers_101 rfl c17 ?_
            refine w_iinc (q := 111) (ls' := [some (.ref 54), none, some (.int k2), some (.int k3), some (.int s.1), some (.int (s.2.1 + 1))]) d_Model_barbers_108 rfl (by decide) rfl rfl rfl ?_
            refine w_goto (q := 43) d_Model_barbers_111 rfl ?_
            cases h
            exact w_ls (by exact (And.intro rfl (And.intro rfl (And.intro rfl (And.intro rfl (And.intro rfl trivial)))))) hr
          · rw [if_neg c17] at h
            refine w_icmp_le_f (q := 104) d_Model_barbers_101 108 rfl rfl c17 ?_
            refine w_iload (q := 106) d_Model_barbers_104 rfl rfl ?_
            refine w_istore (q := 108) (ls' := [some (.ref 54), none, some (.int k2), some (.int k3), some (.int s.2.1), some (.int s.2.1)]) d_Model_barbers_106 rfl (by decide) rfl rfl ?_
            refine w_iinc (q := 111) (ls' := [some (.ref 54), none, some (.int k2), some (.int k3), some (.int s.2.1), some (.int (s.2.1 + 1))]) d_Model_barbers_108 rfl (by decide) rfl rfl rfl ?_
            refine w_goto (q := 43) d_Model_barbers_111 rfl ?_
            cases h
            exact w_ls (by exact (And.intro rfl (And.intro rfl (And.intro rfl (And.intro rfl (And.intro rfl trivial)))))) hr
      · rw [if_neg c11] at h
        refine w_icmp_eq_f (q := 74) d_Model_barbers_71 77 rfl rfl c11 ?_
        refine w_goto (q := 108) d_Model_barbers_74 rfl ?_
        refine w_iinc (q := 111) (ls' := [some (.ref 54), none, some (.int k2), some (.int k3), some (.int s.1), some (.int (s.2.1 + 1))]) d_Model_barbers_108 rfl (by decide) rfl rfl rfl ?_
        refine w_goto (q := 43) d_Model_barbers_111 rfl ?_
        cases h
        exact w_ls (by exact (And.intro rfl (And.intro rfl (And.intro rfl (And.intro rfl (And.intro rfl trivial)))))) hr
    · rw [if_neg c9] at h
      refine w_if_ne_t (q := 108) d_Model_barbers_62 rfl c9 ?_
      refine w_iinc (q := 111) (ls' := [some (.ref 54), none, some (.int k2), some (.int k3), some (.int s.1), some (.int (s.2.1 + 1))]) d_Model_barbers_108 rfl (by decide) rfl rfl rfl ?_
      refine w_goto (q := 43) d_Model_barbers_111 rfl ?_
      cases h
      exact w_ls (by exact (And.intro rfl (And.intro rfl (And.intro rfl (And.intro rfl (And.intro rfl trivial)))))) hr
def sp_Model_barbers (F : Nat) (p0 : Int32) (g : Mem) : Option (Int32 × Mem) := (sp_Model_isIn p0.toInt64 0 6 (mset g 54 3 0)).bind fun v1 => if v1 = 0 then (sp_Model_fail 1 (mset g 54 3 0)).bind fun v3 => some (v3.1, v3.2) else (sp_Model_noPlaits F (mset g 54 3 0)).bind fun v4 => (sp_Model_bitsOf F v4 (mset g 54 3 0)).bind fun v5 => (sp_JMath_min p0 v5 (mset g 54 3 0)).bind fun v6 => (lpO (st_Model_barbers_43 F p0 g v4 v6) F ((-1), 0, (mset g 54 3 0))).bind fun x18 => some (x18.1, x18.2)
theorem ok_Model_barbers {γ : GG} {tt : Bool} {F : Nat} {p0 : Int32} {g : Mem} {res : Int32 × Mem} (h : sp_Model_barbers F p0 g = some res) : CA γ M_Model_barbers 6 [.ref 54, .int p0] SH g tt (0, 0) (pI SH res.1 res.2 tt) := by
  refine CA.of mw_Model_barbers.1 4 rfl ?_
  show WA γ M_Model_barbers 6 0 [some (.ref 54), some (.int p0), none, none, none, none] [] SH g tt (0, 0) (pI SH res.1 res.2 tt)
  unfold sp_Model_barbers at h
  refine w_aload_n (q := 1) d_Model_barbers_0 rfl rfl ?_
  refine w_iconst (q := 2) (v := 0) d_Model_barbers_1 rfl (by decide) ?_
  refine w_put (q := 5) (ci := 12) (j := 3) d_Model_barbers_2 rfl (by decide) fl_Model_114 (by decide) (by decide) s_54 rfl rfl rfl rfl rfl rfl ?_
  refine w_iload_n (q := 6) d_Model_barbers_5 rfl rfl ?_
  refine w_i2l (q := 7) d_Model_barbers_6 rfl ?_
  refine w_lconst (q := 8) (v := 0) d_Model_barbers_7 rfl (by decide) ?_
  refine w_ldc2 (q := 11) d_Model_barbers_8 rfl lo_Model_410 ?_
  obtain ⟨v1, hv, h⟩ := bnd h
  refine w_callSi (q := 14) (M' := M_Model_isIn) (n' := 0) (As := [.long (p0.toInt64), .long (0), .long (6)]) (sh' := SH) (b1 := (0, 0)) d_Model_barbers_11 rfl mw_Model_isIn (by decide) (by decide) ml_Model_117 rfl rfl (leb rfl) (bz _) (fun _ => rfl) (ok_Model_isIn hv) ?_
  by_cases c2 : v1 = 0
  · rw [if_pos c2] at h
    refine w_if_ne_f (q := 17) d_Model_barbers_14 23 rfl rfl c2 ?_
    refine w_aload_n (q := 18) d_Model_barbers_17 rfl rfl ?_
    refine w_iconst (q := 19) (v := 1) d_Model_barbers_18 rfl (by decide) ?_
    obtain ⟨v3, hv, h⟩ := bnd h
    refine w_callVi (q := 22) (M' := M_Model_fail) (n' := 0) (k := 54) (As := [.int 1]) (sh' := SH) (b1 := (0, 0)) d_Model_barbers_19 rfl mw_Model_fail (by decide) (by decide) ml_Model_273 (by decide) s_54 (by decide) rfl rfl rfl (leb rfl) (bz _) (fun _ => rfl) (ok_Model_fail hv) ?_
    cases h
    exact w_ireturn d_Model_barbers_22 rfl rfl ⟨rfl, rfl, rfl, rfl⟩
  · rw [if_neg c2] at h
    refine w_if_ne_t (q := 23) d_Model_barbers_14 rfl c2 ?_
    refine w_aload_n (q := 24) d_Model_barbers_23 rfl rfl ?_
    obtain ⟨v4, hv, h⟩ := bnd h
    refine w_callVi (q := 27) (M' := M_Model_noPlaits) (n' := 0) (k := 54) (As := []) (sh' := SH) (b1 := (0, 0)) d_Model_barbers_24 rfl mw_Model_noPlaits (by decide) (by decide) ml_Model_412 (by decide) s_54 (by decide) rfl rfl rfl (leb rfl) (bz _) (fun _ => rfl) (ok_Model_noPlaits hv) ?_
    refine w_istore_n (q := 28) (ls' := [some (.ref 54), some (.int p0), some (.int v4), none, none, none]) d_Model_barbers_27 rfl (by decide) rfl rfl ?_
    refine w_iload_n (q := 29) d_Model_barbers_28 rfl rfl ?_
    refine w_iload_n (q := 30) d_Model_barbers_29 rfl rfl ?_
    obtain ⟨v5, hv, h⟩ := bnd h
    refine w_callSi (q := 33) (M' := M_Model_bitsOf) (n' := 0) (As := [.int v4]) (sh' := SH) (b1 := (0, 0)) d_Model_barbers_30 rfl mw_Model_bitsOf (by decide) (by decide) ml_Model_332 rfl rfl (leb rfl) (bz _) (fun _ => rfl) (ok_Model_bitsOf hv) ?_
    obtain ⟨v6, hv, h⟩ := bnd h
    refine w_callSi (q := 36) (M' := M_JMath_min) (n' := 0) (As := [.int p0, .int v5]) (sh' := SH) (b1 := (0, 0)) d_Model_barbers_33 rfl mw_JMath_min (by decide) (by decide) ml_Model_156 rfl rfl (leb rfl) (bz _) (fun _ => rfl) (ok_JMath_min hv) ?_
    refine w_istore_n (q := 37) (ls' := [some (.ref 54), some (.int p0), some (.int v4), some (.int v6), none, none]) d_Model_barbers_36 rfl (by decide) rfl rfl ?_
    refine w_iconst (q := 38) (v := (-1)) d_Model_barbers_37 rfl (by decide) ?_
    refine w_istore (q := 40) (ls' := [some (.ref 54), some (.int p0), some (.int v4), some (.int v6), some (.int ((-1))), none]) d_Model_barbers_38 rfl (by decide) rfl rfl ?_
    refine w_iconst (q := 41) (v := 0) d_Model_barbers_40 rfl (by decide) ?_
    refine w_istore (q := 43) (ls' := [some (.ref 54), some (.int p0), some (.int v4), some (.int v6), some (.int ((-1))), some (.int 0)]) d_Model_barbers_41 rfl (by decide) rfl rfl ?_
    obtain ⟨x18, hx, h⟩ := bnd h
    refine w_ls (ls' := [some (.ref 54), none, some (.int v4), some (.int v6), some (.int ((-1))), some (.int 0)]) (And.intro rfl (And.intro rfl (And.intro rfl (And.intro rfl (And.intro rfl trivial))))) ?_
    show PL_Model_barbers_43 γ tt p0 g v4 v6 _ _ ((-1), 0, (mset g 54 3 0))
    refine lp_ok (kl_Model_barbers_43) F _ x18 hx ?_
    unfold QL_Model_barbers_43
    refine w_iload (q := 116) d_Model_barbers_114 rfl rfl ?_
    cases h
    exact w_ireturn d_Model_barbers_116 rfl rfl ⟨rfl, rfl, rfl, rfl⟩
def PL_Model_shortest_50 (γ : GG) (tt : Bool) (p0 : Int32) (g : Mem) (k1 : Int32) (k2 : Int32) (b : Nat × Nat) (Φ : PO) (s : Int32 × Int32 × Mem) : Prop := WA γ M_Model_shortest 5 50 [some (.ref 54), some (.int k1), some (.int k2), some (.int s.1), some (.int s.2.1)] [] SH s.2.2 tt b Φ
def QL_Model_shortest_50 (γ : GG) (tt : Bool) (p0 : Int32) (g : Mem) (k1 : Int32) (k2 : Int32) (b : Nat × Nat) (Φ : PO) (x : (Int32 × Mem)) : Prop := WA γ M_Model_shortest 5 79 [some (.ref 54), none, none, some (.int x.1), none] [] SH x.2 tt b Φ
def st_Model_shortest_50 (F : Nat) (p0 : Int32) (g : Mem) (k1 : Int32) (k2 : Int32) (s : Int32 × Int32 × Mem) : Option ((Int32 × Int32 × Mem) ⊕ ((Int32 × Mem))) := if s.2.1 < 0 then some (.inr (s.1, s.2.2)) else (sp_Model_shaveNow F k1 s.2.1 s.2.2).bind fun v9 => (sp_Model_records F v9).bind fun v10 => if v10 = k2 then some (.inl (s.2.1, s.2.1 + (-1), v9)) else some (.inl (s.1, s.2.1 + (-1), v9))
theorem kl_Model_shortest_50 {γ : GG} {tt : Bool} {F : Nat} {p0 : Int32} {g : Mem} {k1 : Int32} {k2 : Int32} {b : Nat × Nat} {Φ : PO} : ∀ (s : Int32 × Int32 × Mem) (r : (Int32 × Int32 × Mem) ⊕ ((Int32 × Mem))), st_Model_shortest_50 F p0 g k1 k2 s = some r → RQ (PL_Model_shortest_50 γ tt p0 g k1 k2 b Φ) (QL_Model_shortest_50 γ tt p0 g k1 k2 b Φ) r → PL_Model_shortest_50 γ tt p0 g k1 k2 b Φ s := by
  intro s r h hr
  unfold st_Model_shortest_50 at h
  unfold PL_Model_shortest_50
  refine w_iload (q := 52) d_Model_shortest_50 rfl rfl ?_
  by_cases c8 : s.2.1 < 0
  · rw [if_pos c8] at h
    refine w_if_lt_t (q := 79) d_Model_shortest_52 rfl c8 ?_
    cases h
    exact w_ls (by exact (And.intro rfl (And.intro rfl trivial))) hr
  · rw [if_neg c8] at h
    refine w_if_lt_f (q := 55) d_Model_shortest_52 79 rfl rfl c8 ?_
    refine w_aload_n (q := 56) d_Model_shortest_55 rfl rfl ?_
    refine w_iload_n (q := 57) d_Model_shortest_56 rfl rfl ?_
    refine w_iload (q := 59) d_Model_shortest_57 rfl rfl ?_
    obtain ⟨v9, hv, h⟩ := bnd h
    refine w_callVv (q := 62) (M' := M_Model_shaveNow) (n' := 4) (k := 54) (As := [.int k1, .int s.2.1]) (sh' := SH) (b1 := (0, 0)) d_Model_shortest_59 rfl mw_Model_shaveNow (by decide) (by decide) ml_Model_406 (by decide) s_54 (by decide) rfl rfl rfl (leb rfl) (bz _) (fun _ => rfl) (ok_Model_shaveNow hv) ?_
    refine w_aload_n (q := 63) d_Model_shortest_62 rfl rfl ?_
    obtain ⟨v10, hv, h⟩ := bnd h
    refine w_callVi (q := 66) (M' := M_Model_records) (n' := 2) (k := 54) (As := []) (sh' := SH) (b1 := (0, 0)) d_Model_shortest_63 rfl mw_Model_records (by decide) (by decide) ml_Model_329 (by decide) s_54 (by decide) rfl rfl rfl (leb rfl) (bz _) (fun _ => rfl) (ok_Model_records hv) ?_
    refine w_iload_n (q := 67) d_Model_shortest_66 rfl rfl ?_
    by_cases c11 : v10 = k2
    · rw [if_pos c11] at h
      refine w_icmp_ne_f (q := 70) d_Model_shortest_67 73 rfl rfl c11 ?_
      refine w_iload (q := 72) d_Model_shortest_70 rfl rfl ?_
      refine w_istore_n (q := 73) (ls' := [some (.ref 54), some (.int k1), some (.int k2), some (.int s.2.1), some (.int s.2.1)]) d_Model_shortest_72 rfl (by decide) rfl rfl ?_
      refine w_iinc (q := 76) (ls' := [some (.ref 54), some (.int k1), some (.int k2), some (.int s.2.1), some (.int (s.2.1 + (-1)))]) d_Model_shortest_73 rfl (by decide) rfl rfl rfl ?_
      refine w_goto (q := 50) d_Model_shortest_76 rfl ?_
      cases h
      exact w_ls (by exact (And.intro rfl (And.intro rfl (And.intro rfl (And.intro rfl (And.intro rfl trivial)))))) hr
    · rw [if_neg c11] at h
      refine w_icmp_ne_t (q := 73) d_Model_shortest_67 rfl c11 ?_
      refine w_iinc (q := 76) (ls' := [some (.ref 54), some (.int k1), some (.int k2), some (.int s.1), some (.int (s.2.1 + (-1)))]) d_Model_shortest_73 rfl (by decide) rfl rfl rfl ?_
      refine w_goto (q := 50) d_Model_shortest_76 rfl ?_
      cases h
      exact w_ls (by exact (And.intro rfl (And.intro rfl (And.intro rfl (And.intro rfl (And.intro rfl trivial)))))) hr
def sp_Model_shortest (F : Nat) (p0 : Int32) (g : Mem) : Option (Int32 × Mem) := (sp_Model_isMonk p0 (mset g 54 3 0)).bind fun v1 => if v1 = 0 then (sp_Model_fail 1 (mset g 54 3 0)).bind fun v3 => some (v3.1, v3.2) else (sp_Model_records F (mset g 54 3 0)).bind fun v4 => (sp_Model_pack F 70 231 0 (mset g 54 3 0)).bind fun v5 => (rd v5 61 12 p0).bind fun v6 => (rd v5 61 12 p0).bind fun v7 => (lpO (st_Model_shortest_50 F p0 g p0 v4) F (v6, v7 - 1, v5)).bind fun x12 => (sp_Model_unpack F 70 231 0 x12.2).bind fun v13 => some (x12.1, v13)
theorem ok_Model_shortest {γ : GG} {tt : Bool} {F : Nat} {p0 : Int32} {g : Mem} {res : Int32 × Mem} (h : sp_Model_shortest F p0 g = some res) : CA γ M_Model_shortest 5 [.ref 54, .int p0] SH g tt (0, 0) (pI SH res.1 res.2 tt) := by
  refine CA.of mw_Model_shortest.1 3 rfl ?_
  show WA γ M_Model_shortest 5 0 [some (.ref 54), some (.int p0), none, none, none] [] SH g tt (0, 0) (pI SH res.1 res.2 tt)
  unfold sp_Model_shortest at h
  refine w_aload_n (q := 1) d_Model_shortest_0 rfl rfl ?_
  refine w_iconst (q := 2) (v := 0) d_Model_shortest_1 rfl (by decide) ?_
  refine w_put (q := 5) (ci := 12) (j := 3) d_Model_shortest_2 rfl (by decide) fl_Model_114 (by decide) (by decide) s_54 rfl rfl rfl rfl rfl rfl ?_
  refine w_aload_n (q := 6) d_Model_shortest_5 rfl rfl ?_
  refine w_iload_n (q := 7) d_Model_shortest_6 rfl rfl ?_
  obtain ⟨v1, hv, h⟩ := bnd h
  refine w_callVi (q := 10) (M' := M_Model_isMonk) (n' := 1) (k := 54) (As := [.int p0]) (sh' := SH) (b1 := (0, 0)) d_Model_shortest_7 rfl mw_Model_isMonk (by decide) (by decide) ml_Model_335 (by decide) s_54 (by decide) rfl rfl rfl (leb rfl) (bz _) (fun _ => rfl) (ok_Model_isMonk hv) ?_
  by_cases c2 : v1 = 0
  · rw [if_pos c2] at h
    refine w_if_ne_f (q := 13) d_Model_shortest_10 19 rfl rfl c2 ?_
    refine w_aload_n (q := 14) d_Model_shortest_13 rfl rfl ?_
    refine w_iconst (q := 15) (v := 1) d_Model_shortest_14 rfl (by decide) ?_
    obtain ⟨v3, hv, h⟩ := bnd h
    refine w_callVi (q := 18) (M' := M_Model_fail) (n' := 0) (k := 54) (As := [.int 1]) (sh' := SH) (b1 := (0, 0)) d_Model_shortest_15 rfl mw_Model_fail (by decide) (by decide) ml_Model_273 (by decide) s_54 (by decide) rfl rfl rfl (leb rfl) (bz _) (fun _ => rfl) (ok_Model_fail hv) ?_
    cases h
    exact w_ireturn d_Model_shortest_18 rfl rfl ⟨rfl, rfl, rfl, rfl⟩
  · rw [if_neg c2] at h
    refine w_if_ne_t (q := 19) d_Model_shortest_10 rfl c2 ?_
    refine w_aload_n (q := 20) d_Model_shortest_19 rfl rfl ?_
    obtain ⟨v4, hv, h⟩ := bnd h
    refine w_callVi (q := 23) (M' := M_Model_records) (n' := 2) (k := 54) (As := []) (sh' := SH) (b1 := (0, 0)) d_Model_shortest_20 rfl mw_Model_records (by decide) (by decide) ml_Model_329 (by decide) s_54 (by decide) rfl rfl rfl (leb rfl) (bz _) (fun _ => rfl) (ok_Model_records hv) ?_
    refine w_istore_n (q := 24) (ls' := [some (.ref 54), some (.int p0), some (.int v4), none, none]) d_Model_shortest_23 rfl (by decide) rfl rfl ?_
    refine w_aload_n (q := 25) d_Model_shortest_24 rfl rfl ?_
    refine w_aload_n (q := 26) d_Model_shortest_25 rfl rfl ?_
    refine w_get (q := 29) (ci := 12) (j := 31) d_Model_shortest_26 rfl (by decide) fl_Model_90 (by decide) (by decide) s_54 rfl rfl ?_
    refine w_iconst (q := 30) (v := 0) d_Model_shortest_29 rfl (by decide) ?_
    obtain ⟨v5, hv, h⟩ := bnd h
    refine w_callVv (q := 33) (M' := M_Model_pack) (n' := 0) (k := 54) (As := [.ref 70, .int 0]) (sh' := SH) (b1 := (0, 0)) d_Model_shortest_30 rfl mw_Model_pack (by decide) (by decide) ml_Model_359 (by decide) s_54 (by decide) rfl rfl rfl (leb rfl) (bz _) (fun _ => rfl) (ok_Model_pack a_70 hv) ?_
    refine w_aload_n (q := 34) d_Model_shortest_33 rfl rfl ?_
    refine w_get (q := 37) (ci := 12) (j := 7) d_Model_shortest_34 rfl (by decide) fl_Model_59 (by decide) (by decide) s_54 rfl rfl ?_
    refine w_iload_n (q := 38) d_Model_shortest_37 rfl rfl ?_
    obtain ⟨v6, hv, h⟩ := bnd h
    obtain ⟨hi, hv⟩ := rd_ok hv
    refine w_iald (q := 39) (t := 0) d_Model_shortest_38 rfl a_61.2 a_61.1 hi rfl ?_
    rw [hv]
    refine w_istore_n (q := 40) (ls' := [some (.ref 54), some (.int p0), some (.int v4), some (.int v6), none]) d_Model_shortest_39 rfl (by decide) rfl rfl ?_
    refine w_aload_n (q := 41) d_Model_shortest_40 rfl rfl ?_
    refine w_get (q := 44) (ci := 12) (j := 7) d_Model_shortest_41 rfl (by decide) fl_Model_59 (by decide) (by decide) s_54 rfl rfl ?_
    refine w_iload_n (q := 45) d_Model_shortest_44 rfl rfl ?_
    obtain ⟨v7, hv, h⟩ := bnd h
    obtain ⟨hi, hv⟩ := rd_ok hv
    refine w_iald (q := 46) (t := 0) d_Model_shortest_45 rfl a_61.2 a_61.1 hi rfl ?_
    rw [hv]
    refine w_iconst (q := 47) (v := 1) d_Model_shortest_46 rfl (by decide) ?_
    refine w_isub (q := 48) d_Model_shortest_47 rfl ?_
    refine w_istore (q := 50) (ls' := [some (.ref 54), some (.int p0), some (.int v4), some (.int v6), some (.int (v7 - 1))]) d_Model_shortest_48 rfl (by decide) rfl rfl ?_
    obtain ⟨x12, hx, h⟩ := bnd h
    refine w_ls (ls' := [some (.ref 54), some (.int p0), some (.int v4), some (.int v6), some (.int (v7 - 1))]) (And.intro rfl (And.intro rfl (And.intro rfl (And.intro rfl (And.intro rfl trivial))))) ?_
    show PL_Model_shortest_50 γ tt p0 g p0 v4 _ _ (v6, v7 - 1, v5)
    refine lp_ok (kl_Model_shortest_50) F _ x12 hx ?_
    unfold QL_Model_shortest_50
    refine w_aload_n (q := 80) d_Model_shortest_79 rfl rfl ?_
    refine w_aload_n (q := 81) d_Model_shortest_80 rfl rfl ?_
    refine w_get (q := 84) (ci := 12) (j := 31) d_Model_shortest_81 rfl (by decide) fl_Model_90 (by decide) (by decide) s_54 rfl rfl ?_
    refine w_iconst (q := 85) (v := 0) d_Model_shortest_84 rfl (by decide) ?_
    obtain ⟨v13, hv, h⟩ := bnd h
    refine w_callVv (q := 88) (M' := M_Model_unpack) (n' := 0) (k := 54) (As := [.ref 70, .int 0]) (sh' := SH) (b1 := (0, 0)) d_Model_shortest_85 rfl mw_Model_unpack (by decide) (by decide) ml_Model_393 (by decide) s_54 (by decide) rfl rfl rfl (leb rfl) (bz _) (fun _ => rfl) (ok_Model_unpack a_70 hv) ?_
    refine w_iload_n (q := 89) d_Model_shortest_88 rfl rfl ?_
    cases h
    exact w_ireturn d_Model_shortest_89 rfl rfl ⟨rfl, rfl, rfl, rfl⟩
def PL_Model_forgiven_49 (γ : GG) (tt : Bool) (p0 : Int32) (p1 : Int32) (p2 : Int32) (g : Mem) (m0 : Mem) (b : Nat × Nat) (Φ : PO) (s : Int32 × Int32 × Int32) : Prop := WA γ M_Model_forgiven 4 49 [some (.ref 54), none, none, none, none, some (.int s.1), some (.int s.2.1), some (.int s.2.2)] [] SH m0 tt b Φ
def QL_Model_forgiven_49 (γ : GG) (tt : Bool) (p0 : Int32) (p1 : Int32) (p2 : Int32) (g : Mem) (m0 : Mem) (b : Nat × Nat) (Φ : PO) (x : (Int32)) : Prop := WA γ M_Model_forgiven 4 132 [none, none, none, none, none, none, some (.int x), none] [] SH m0 tt b Φ
def st_Model_forgiven_49 (F : Nat) (p0 : Int32) (p1 : Int32) (p2 : Int32) (g : Mem) (m0 : Mem) (s : Int32 × Int32 × Int32) : Option ((Int32 × Int32 × Int32) ⊕ ((Int32))) := if (m0 54 26) ≤ s.2.2 then some (.inr s.2.1) else (sp_Model_isThere s.2.2 m0).bind fun v7 => if v7 = 0 then some (.inl (s.1, s.2.1, s.2.2 + 1)) else (sp_Model_of s.2.2 0 m0).bind fun v9 => if v9 = 1 then (sp_Model_of s.2.2 7 m0).bind fun v11 => (sp_Model_isOf s.1 v11 m0).bind fun v12 => if v12 = 0 then some (.inl (s.1, s.2.1, s.2.2 + 1)) else (sp_Model_of s.2.2 4 m0).bind fun v14 => (sp_Model_of s.2.2 7 m0).bind fun v15 => some (.inl (s.1 &&& ((1 <<< (v15 &&& 31)) ^^^ (-1)), s.2.1 + v14, s.2.2 + 1)) else some (.inl (s.1, s.2.1, s.2.2 + 1))
theorem kl_Model_forgiven_49 {γ : GG} {tt : Bool} {F : Nat} {p0 : Int32} {p1 : Int32} {p2 : Int32} {g : Mem} {m0 : Mem} {b : Nat × Nat} {Φ : PO} : ∀ (s : Int32 × Int32 × Int32) (r : (Int32 × Int32 × Int32) ⊕ ((Int32))), st_Model_forgiven_49 F p0 p1 p2 g m0 s = some r → RQ (PL_Model_forgiven_49 γ tt p0 p1 p2 g m0 b Φ) (QL_Model_forgiven_49 γ tt p0 p1 p2 g m0 b Φ) r → PL_Model_forgiven_49 γ tt p0 p1 p2 g m0 b Φ s := by
  intro s r h hr
  unfold st_Model_forgiven_49 at h
  unfold PL_Model_forgiven_49
  refine w_iload (q := 51) d_Model_forgiven_49 rfl rfl ?_
  refine w_aload_n (q := 52) d_Model_forgiven_51 rfl rfl ?_
  refine w_get (q := 55) (ci := 12) (j := 26) d_Model_forgiven_52 rfl (by decide) fl_Model_121 (by decide) (by decide) s_54 rfl rfl ?_
  by_cases c6 : (m0 54 26) ≤ s.2.2
  · rw [if_pos c6] at h
    refine w_icmp_ge_t (q := 132) d_Model_forgiven_55 rfl c6 ?_
    cases h
    exact w_ls (by exact (And.intro rfl trivial)) hr
  · rw [if_neg c6] at h
    refine w_icmp_ge_f (q := 58) d_Model_forgiven_55 132 rfl rfl c6 ?_
    refine w_aload_n (q := 59) d_Model_forgiven_58 rfl rfl ?_
    refine w_iload (q := 61) d_Model_forgiven_59 rfl rfl ?_
    obtain ⟨v7, hv, h⟩ := bnd h
    refine w_callVi (q := 64) (M' := M_Model_isThere) (n' := 1) (k := 54) (As := [.int s.2.2]) (sh' := SH) (b1 := (0, 0)) d_Model_forgiven_61 rfl mw_Model_isThere (by decide) (by decide) ml_Model_315 (by decide) s_54 (by decide) rfl rfl rfl (leb rfl) (bz _) (fun _ => rfl) (ok_Model_isThere hv) ?_
    by_cases c8 : v7 = 0
    · rw [if_pos c8] at h
      refine w_if_eq_t (q := 126) d_Model_forgiven_64 rfl c8 ?_
      refine w_iinc (q := 129) (ls' := [some (.ref 54), none, none, none, none, some (.int s.1), some (.int s.2.1), some (.int (s.2.2 + 1))]) d_Model_forgiven_126 rfl (by decide) rfl rfl rfl ?_
      refine w_goto (q := 49) d_Model_forgiven_129 rfl ?_
      cases h
      exact w_ls (by exact (And.intro rfl (And.intro rfl (And.intro rfl (And.intro rfl trivial))))) hr
    · rw [if_neg c8] at h
      refine w_if_eq_f (q := 67) d_Model_forgiven_64 126 rfl rfl c8 ?_
      refine w_aload_n (q := 68) d_Model_forgiven_67 rfl rfl ?_
      refine w_iload (q := 70) d_Model_forgiven_68 rfl rfl ?_
      refine w_iconst (q := 71) (v := 0) d_Model_forgiven_70 rfl (by decide) ?_
      obtain ⟨v9, hv, h⟩ := bnd h
      refine w_callVi (q := 74) (M' := M_Model_of) (n' := 0) (k := 54) (As := [.int s.2.2, .int 0]) (sh' := SH) (b1 := (0, 0)) d_Model_forgiven_71 rfl mw_Model_of (by decide) (by decide) ml_Model_305 (by decide) s_54 (by decide) rfl rfl rfl (leb rfl) (bz _) (fun _ => rfl) (ok_Model_of hv) ?_
      refine w_iconst (q := 75) (v := 1) d_Model_forgiven_74 rfl (by decide) ?_
      by_cases c10 : v9 = 1
      · rw [if_pos c10] at h
        refine w_icmp_ne_f (q := 78) d_Model_forgiven_75 126 rfl rfl c10 ?_
        refine w_iload (q := 80) d_Model_forgiven_78 rfl rfl ?_
        refine w_aload_n (q := 81) d_Model_forgiven_80 rfl rfl ?_
        refine w_iload (q := 83) d_Model_forgiven_81 rfl rfl ?_
        refine w_bipush (q := 85) (v := 7) d_Model_forgiven_83 rfl (by decide) ?_
        obtain ⟨v11, hv, h⟩ := bnd h
        refine w_callVi (q := 88) (M' := M_Model_of) (n' := 0) (k := 54) (As := [.int s.2.2, .int 7]) (sh' := SH) (b1 := (0, 0)) d_Model_forgiven_85 rfl mw_Model_of (by decide) (by decide) ml_Model_305 (by decide) s_54 (by decide) rfl rfl rfl (leb rfl) (bz _) (fun _ => rfl) (ok_Model_of hv) ?_
        obtain ⟨v12, hv, h⟩ := bnd h
        refine w_callSi (q := 91) (M' := M_Model_isOf) (n' := 0) (As := [.int s.1, .int v11]) (sh' := SH) (b1 := (0, 0)) d_Model_forgiven_88 rfl mw_Model_isOf (by decide) (by decide) ml_Model_308 rfl rfl (leb rfl) (bz _) (fun _ => rfl) (ok_Model_isOf hv) ?_
        by_cases c13 : v12 = 0
        · rw [if_pos c13] at h
          refine w_if_ne_f (q := 94) d_Model_forgiven_91 97 rfl rfl c13 ?_
          refine w_goto (q := 126) d_Model_forgiven_94 rfl ?_
          refine w_iinc (q := 129) (ls' := [some (.ref 54), none, none, none, none, some (.int s.1), some (.int s.2.1), some (.int (s.2.2 + 1))]) d_Model_forgiven_126 rfl (by decide) rfl rfl rfl ?_
          refine w_goto (q := 49) d_Model_forgiven_129 rfl ?_
          cases h
          exact w_ls (by exact (And.intro rfl (And.intro rfl (And.intro rfl (And.intro rfl trivial))))) hr
        · rw [if_neg c13] at h
          refine w_if_ne_t (q := 97) d_Model_forgiven_91 rfl c13 ?_
          refine w_iload (q := 99) d_Model_forgiven_97 rfl rfl ?_
          refine w_aload_n (q := 100) d_Model_forgiven_99 rfl rfl ?_
          refine w_iload (q := 102) d_Model_forgiven_100 rfl rfl ?_
          refine w_iconst (q := 103) (v := 4) d_Model_forgiven_102 rfl (by decide) ?_
          obtain ⟨v14, hv, h⟩ := bnd h
          refine w_callVi (q := 106) (M' := M_Model_of) (n' := 0) (k := 54) (As := [.int s.2.2, .int 4]) (sh' := SH) (b1 := (0, 0)) d_Model_forgiven_103 rfl mw_Model_of (by decide) (by decide) ml_Model_305 (by decide) s_54 (by decide) rfl rfl rfl (leb rfl) (bz _) (fun _ => rfl) (ok_Model_of hv) ?_
          refine w_iadd (q := 107) d_Model_forgiven_106 rfl ?_
          refine w_istore (q := 109) (ls' := [some (.ref 54), none, none, none, none, some (.int s.1), some (.int (s.2.1 + v14)), some (.int s.2.2)]) d_Model_forgiven_107 rfl (by decide) rfl rfl ?_
          refine w_iload (q := 111) d_Model_forgiven_109 rfl rfl ?_
          refine w_iconst (q := 112) (v := 1) d_Model_forgiven_111 rfl (by decide) ?_
          refine w_aload_n (q := 113) d_Model_forgiven_112 rfl rfl ?_
          refine w_iload (q := 115) d_Model_forgiven_113 rfl rfl ?_
          refine w_bipush (q := 117) (v := 7) d_Model_forgiven_115 rfl (by decide) ?_
          obtain ⟨v15, hv, h⟩ := bnd h
          refine w_callVi (q := 120) (M' := M_Model_of) (n' := 0) (k := 54) (As := [.int s.2.2, .int 7]) (sh' := SH) (b1 := (0, 0)) d_Model_forgiven_117 rfl mw_Model_of (by decide) (by decide) ml_Model_305 (by decide) s_54 (by decide) rfl rfl rfl (leb rfl) (bz _) (fun _ => rfl) (ok_Model_of hv) ?_
          refine w_ishl (q := 121) d_Model_forgiven_120 rfl ?_
          refine w_iconst (q := 122) (v := (-1)) d_Model_forgiven_121 rfl (by decide) ?_
          refine w_ixor (q := 123) d_Model_forgiven_122 rfl ?_
          refine w_iand (q := 124) d_Model_forgiven_123 rfl ?_
          refine w_istore (q := 126) (ls' := [some (.ref 54), none, none, none, none, some (.int (s.1 &&& ((1 <<< (v15 &&& 31)) ^^^ (-1)))), some (.int (s.2.1 + v14)), some (.int s.2.2)]) d_Model_forgiven_124 rfl (by decide) rfl rfl ?_
          refine w_iinc (q := 129) (ls' := [some (.ref 54), none, none, none, none, some (.int (s.1 &&& ((1 <<< (v15 &&& 31)) ^^^ (-1)))), some (.int (s.2.1 + v14)), some (.int (s.2.2 + 1))]) d_Model_forgiven_126 rfl (by decide) rfl rfl rfl ?_
          refine w_goto (q := 49) d_Model_forgiven_129 rfl ?_
          cases h
          exact w_ls (by exact (And.intro rfl (And.intro rfl (And.intro rfl (And.intro rfl trivial))))) hr
      · rw [if_neg c10] at h
        refine w_icmp_ne_t (q := 126) d_Model_forgiven_75 rfl c10 ?_
        refine w_iinc (q := 129) (ls' := [some (.ref 54), none, none, none, none, some (.int s.1), some (.int s.2.1), some (.int (s.2.2 + 1))]) d_Model_forgiven_126 rfl (by decide) rfl rfl rfl ?_
        refine w_goto (q := 49) d_Model_forgiven_129 rfl ?_
        cases h
        exact w_ls (by exact (And.intro rfl (And.intro rfl (And.intro rfl (And.intro rfl trivial))))) hr
def sp_Model_forgiven (F : Nat) (p0 : Int32) (p1 : Int32) (p2 : Int32) (g : Mem) : Option (Int32 × Mem) := (sp_Model_records F g).bind fun v1 => (sp_Model_pack F 70 231 0 g).bind fun v2 => (sp_Model_mothsEat F p0 p1 p2 v2).bind fun v3 => (sp_Model_records F v3.2).bind fun v4 => (sp_Model_unpack F 70 231 0 v3.2).bind fun v5 => (lpO (st_Model_forgiven_49 F p0 p1 p2 g v5) F (v1 &&& (v4 ^^^ (-1)), 0, 0)).bind fun x16 => some (x16, v5)
theorem ok_Model_forgiven {γ : GG} {tt : Bool} {F : Nat} {p0 : Int32} {p1 : Int32} {p2 : Int32} {g : Mem} {res : Int32 × Mem} (h : sp_Model_forgiven F p0 p1 p2 g = some res) : CA γ M_Model_forgiven 4 [.ref 54, .int p0, .int p1, .int p2] SH g tt (0, 0) (pI SH res.1 res.2 tt) := by
  refine CA.of mw_Model_forgiven.1 4 rfl ?_
  show WA γ M_Model_forgiven 4 0 [some (.ref 54), some (.int p0), some (.int p1), some (.int p2), none, none, none, none] [] SH g tt (0, 0) (pI SH res.1 res.2 tt)
  unfold sp_Model_forgiven at h
  refine w_aload_n (q := 1) d_Model_forgiven_0 rfl rfl ?_
  obtain ⟨v1, hv, h⟩ := bnd h
  refine w_callVi (q := 4) (M' := M_Model_records) (n' := 2) (k := 54) (As := []) (sh' := SH) (b1 := (0, 0)) d_Model_forgiven_1 rfl mw_Model_records (by decide) (by decide) ml_Model_329 (by decide) s_54 (by decide) rfl rfl rfl (leb rfl) (bz _) (fun _ => rfl) (ok_Model_records hv) ?_
  refine w_istore (q := 6) (ls' := [some (.ref 54), some (.int p0), some (.int p1), some (.int p2), some (.int v1), none, none, none]) d_Model_forgiven_4 rfl (by decide) rfl rfl ?_
  refine w_aload_n (q := 7) d_Model_forgiven_6 rfl rfl ?_
  refine w_aload_n (q := 8) d_Model_forgiven_7 rfl rfl ?_
  refine w_get (q := 11) (ci := 12) (j := 31) d_Model_forgiven_8 rfl (by decide) fl_Model_90 (by decide) (by decide) s_54 rfl rfl ?_
  refine w_iconst (q := 12) (v := 0) d_Model_forgiven_11 rfl (by decide) ?_
  obtain ⟨v2, hv, h⟩ := bnd h
  refine w_callVv (q := 15) (M' := M_Model_pack) (n' := 0) (k := 54) (As := [.ref 70, .int 0]) (sh' := SH) (b1 := (0, 0)) d_Model_forgiven_12 rfl mw_Model_pack (by decide) (by decide) ml_Model_359 (by decide) s_54 (by decide) rfl rfl rfl (leb rfl) (bz _) (fun _ => rfl) (ok_Model_pack a_70 hv) ?_
  refine w_aload_n (q := 16) d_Model_forgiven_15 rfl rfl ?_
  refine w_iload_n (q := 17) d_Model_forgiven_16 rfl rfl ?_
  refine w_iload_n (q := 18) d_Model_forgiven_17 rfl rfl ?_
  refine w_iload_n (q := 19) d_Model_forgiven_18 rfl rfl ?_
  obtain ⟨v3, hv, h⟩ := bnd h
  refine w_callVi (q := 22) (M' := M_Model_mothsEat) (n' := 3) (k := 54) (As := [.int p0, .int p1, .int p2]) (sh' := SH) (b1 := (0, 0)) d_Model_forgiven_19 rfl mw_Model_mothsEat (by decide) (by decide) ml_Model_390 (by decide) s_54 (by decide) rfl rfl rfl (leb rfl) (bz _) (fun _ => rfl) (ok_Model_mothsEat hv) ?_
  refine w_pop (q := 23) d_Model_forgiven_22 rfl rfl ?_
  refine w_iload (q := 25) d_Model_forgiven_23 rfl rfl ?_
  refine w_aload_n (q := 26) d_Model_forgiven_25 rfl rfl ?_
  obtain ⟨v4, hv, h⟩ := bnd h
  refine w_callVi (q := 29) (M' := M_Model_records) (n' := 2) (k := 54) (As := []) (sh' := SH) (b1 := (0, 0)) d_Model_forgiven_26 rfl mw_Model_records (by decide) (by decide) ml_Model_329 (by decide) s_54 (by decide) rfl rfl rfl (leb rfl) (bz _) (fun _ => rfl) (ok_Model_records hv) ?_
  refine w_iconst (q := 30) (v := (-1)) d_Model_forgiven_29 rfl (by decide) ?_
  refine w_ixor (q := 31) d_Model_forgiven_30 rfl ?_
  refine w_iand (q := 32) d_Model_forgiven_31 rfl ?_
  refine w_istore (q := 34) (ls' := [some (.ref 54), some (.int p0), some (.int p1), some (.int p2), some (.int v1), some (.int (v1 &&& (v4 ^^^ (-1)))), none, none]) d_Model_forgiven_32 rfl (by decide) rfl rfl ?_
  refine w_aload_n (q := 35) d_Model_forgiven_34 rfl rfl ?_
  refine w_aload_n (q := 36) d_Model_forgiven_35 rfl rfl ?_
  refine w_get (q := 39) (ci := 12) (j := 31) d_Model_forgiven_36 rfl (by decide) fl_Model_90 (by decide) (by decide) s_54 rfl rfl ?_
  refine w_iconst (q := 40) (v := 0) d_Model_forgiven_39 rfl (by decide) ?_
  obtain ⟨v5, hv, h⟩ := bnd h
  refine w_callVv (q := 43) (M' := M_Model_unpack) (n' := 0) (k := 54) (As := [.ref 70, .int 0]) (sh' := SH) (b1 := (0, 0)) d_Model_forgiven_40 rfl mw_Model_unpack (by decide) (by decide) ml_Model_393 (by decide) s_54 (by decide) rfl rfl rfl (leb rfl) (bz _) (fun _ => rfl) (ok_Model_unpack a_70 hv) ?_
  refine w_iconst (q := 44) (v := 0) d_Model_forgiven_43 rfl (by decide) ?_
  refine w_istore (q := 46) (ls' := [some (.ref 54), some (.int p0), some (.int p1), some (.int p2), some (.int v1), some (.int (v1 &&& (v4 ^^^ (-1)))), some (.int 0), none]) d_Model_forgiven_44 rfl (by decide) rfl rfl ?_
  refine w_iconst (q := 47) (v := 0) d_Model_forgiven_46 rfl (by decide) ?_
  refine w_istore (q := 49) (ls' := [some (.ref 54), some (.int p0), some (.int p1), some (.int p2), some (.int v1), some (.int (v1 &&& (v4 ^^^ (-1)))), some (.int 0), some (.int 0)]) d_Model_forgiven_47 rfl (by decide) rfl rfl ?_
  obtain ⟨x16, hx, h⟩ := bnd h
  refine w_ls (ls' := [some (.ref 54), none, none, none, none, some (.int (v1 &&& (v4 ^^^ (-1)))), some (.int 0), some (.int 0)]) (And.intro rfl (And.intro rfl (And.intro rfl (And.intro rfl trivial)))) ?_
  show PL_Model_forgiven_49 γ tt p0 p1 p2 g v5 _ _ (v1 &&& (v4 ^^^ (-1)), 0, 0)
  refine lp_ok (kl_Model_forgiven_49) F _ x16 hx ?_
  unfold QL_Model_forgiven_49
  refine w_iload (q := 134) d_Model_forgiven_132 rfl rfl ?_
  cases h
  exact w_ireturn d_Model_forgiven_134 rfl rfl ⟨rfl, rfl, rfl, rfl⟩
def PL_Model_amnesty_55 (γ : GG) (tt : Bool) (p0 : Int32) (p1 : Int32) (p2 : Int32) (g : Mem) (k1 : Int32) (k2 : Int32) (k3 : Int32) (b : Nat × Nat) (Φ : PO) (s : Int32 × Int32 × Int32 × Mem) : Prop := WA γ M_Model_amnesty 5 55 [some (.ref 54), some (.int k1), some (.int k2), some (.int k3), some (.int s.1), some (.int s.2.1), some (.int s.2.2.1), none] [] SH s.2.2.2 tt b Φ
def QL_Model_amnesty_55 (γ : GG) (tt : Bool) (p0 : Int32) (p1 : Int32) (p2 : Int32) (g : Mem) (k1 : Int32) (k2 : Int32) (k3 : Int32) (b : Nat × Nat) (Φ : PO) (x : (Int32 × Int32 × Mem)) : Prop := WA γ M_Model_amnesty 5 99 [none, none, none, some (.int k3), some (.int x.1), some (.int x.2.1), none, none] [] SH x.2.2 tt b Φ
def st_Model_amnesty_55 (F : Nat) (p0 : Int32) (p1 : Int32) (p2 : Int32) (g : Mem) (k1 : Int32) (k2 : Int32) (k3 : Int32) (s : Int32 × Int32 × Int32 × Mem) : Option ((Int32 × Int32 × Int32 × Mem) ⊕ ((Int32 × Int32 × Mem))) := if 60 < s.2.2.1 then some (.inr (s.1, s.2.1, s.2.2.2)) else (sp_Model_forgiven F k1 s.2.2.1 (s.2.2.1 + k2) s.2.2.2).bind fun v11 => if s.2.1 < v11.1 then some (.inl (s.2.2.1, v11.1, s.2.2.1 + 1, v11.2)) else some (.inl (s.1, s.2.1, s.2.2.1 + 1, v11.2))
theorem kl_Model_amnesty_55 {γ : GG} {tt : Bool} {F : Nat} {p0 : Int32} {p1 : Int32} {p2 : Int32} {g : Mem} {k1 : Int32} {k2 : Int32} {k3 : Int32} {b : Nat × Nat} {Φ : PO} : ∀ (s : Int32 × Int32 × Int32 × Mem) (r : (Int32 × Int32 × Int32 × Mem) ⊕ ((Int32 × Int32 × Mem))), st_Model_amnesty_55 F p0 p1 p2 g k1 k2 k3 s = some r → RQ (PL_Model_amnesty_55 γ tt p0 p1 p2 g k1 k2 k3 b Φ) (QL_Model_amnesty_55 γ tt p0 p1 p2 g k1 k2 k3 b Φ) r → PL_Model_amnesty_55 γ tt p0 p1 p2 g k1 k2 k3 b Φ s := by
  intro s r h hr
  unfold st_Model_amnesty_55 at h
  unfold PL_Model_amnesty_55
  refine w_iload (q := 57) d_Model_amnesty_55 rfl rfl ?_
  refine w_bipush (q := 59) (v := 60) d_Model_amnesty_57 rfl (by decide) ?_
  by_cases c10 : 60 < s.2.2.1
  · rw [if_pos c10] at h
    refine w_icmp_gt_t (q := 99) d_Model_amnesty_59 rfl c10 ?_
    cases h
    exact w_ls (by exact (And.intro rfl (And.intro rfl (And.intro rfl trivial)))) hr
  · rw [if_neg c10] at h
    refine w_icmp_gt_f (q := 62) d_Model_amnesty_59 99 rfl rfl c10 ?_
    refine w_aload_n (q := 63) d_Model_amnesty_62 rfl rfl ?_
    refine w_iload_n (q := 64) d_Model_amnesty_63 rfl rfl ?_
    refine w_iload (q := 66) d_Model_amnesty_64 rfl rfl ?_
    refine w_iload (q := 68) d_Model_amnesty_66 rfl rfl ?_
    refine w_iload_n (q := 69) d_Model_amnesty_68 rfl rfl ?_
    refine w_iadd (q := 70) d_Model_amnesty_69 rfl ?_
    obtain ⟨v11, hv, h⟩ := bnd h
    refine w_callVi (q := 73) (M' := M_Model_forgiven) (n' := 4) (k := 54) (As := [.int k1, .int s.2.2.1, .int (s.2.2.1 + k2)]) (sh' := SH) (b1 := (0, 0)) d_Model_amnesty_70 rfl mw_Model_forgiven (by decide) (by decide) ml_Model_418 (by decide) s_54 (by decide) rfl rfl rfl (leb rfl) (bz _) (fun _ => rfl) (ok_Model_forgiven hv) ?_
    refine w_istore (q := 75) (ls' := [some (.ref 54), some (.int k1), some (.int k2), some (.int k3), some (.int s.1), some (.int s.2.1), some (.int s.2.2.1), some (.int v11.1)]) d_Model_amnesty_73 rfl (by decide) rfl rfl ?_
    refine w_iload (q := 77) d_Model_amnesty_75 rfl rfl ?_
    refine w_iload (q := 79) d_Model_amnesty_77 rfl rfl ?_
    by_cases c12 : s.2.1 < v11.1
    · rw [if_pos c12] at h
      refine w_icmp_gt_t (q := 85) d_Model_amnesty_79 rfl c12 ?_
      refine w_iload (q := 87) d_Model_amnesty_85 rfl rfl ?_
      refine w_istore (q := 89) (ls' := [some (.ref 54), some (.int k1), some (.int k2), some (.int k3), some (.int s.2.2.1), some (.int s.2.1), some (.int s.2.2.1), some (.int v11.1)]) d_Model_amnesty_87 rfl (by decide) rfl rfl ?_
      refine w_iload (q := 91) d_Model_amnesty_89 rfl rfl ?_
      refine w_istore (q := 93) (ls' := [some (.ref 54), some (.int k1), some (.int k2), some (.int k3), some (.int s.2.2.1), some (.int v11.1), some (.int s.2.2.1), some (.int v11.1)]) d_Model_amnesty_91 rfl (by decide) rfl rfl ?_
      refine w_iinc (q := 96) (ls' := [some (.ref 54), some (.int k1), some (.int k2), some (.int k3), some (.int s.2.2.1), some (.int v11.1), some (.int (s.2.2.1 + 1)), some (.int v11.1)]) d_Model_amnesty_93 rfl (by decide) rfl rfl rfl ?_
      refine w_goto (q := 55) d_Model_amnesty_96 rfl ?_
      cases h
      exact w_ls (by exact (And.intro rfl (And.intro rfl (And.intro rfl (And.intro rfl (And.intro rfl (And.intro rfl (And.intro rfl trivial)))))))) hr
    · rw [if_neg c12] at h
      refine w_icmp_gt_f (q := 82) d_Model_amnesty_79 85 rfl rfl c12 ?_
      refine w_goto (q := 93) d_Model_amnesty_82 rfl ?_
      refine w_iinc (q := 96) (ls' := [some (.ref 54), some (.int k1), some (.int k2), some (.int k3), some (.int s.1), some (.int s.2.1), some (.int (s.2.2.1 + 1)), some (.int v11.1)]) d_Model_amnesty_93 rfl (by decide) rfl rfl rfl ?_
      refine w_goto (q := 55) d_Model_amnesty_96 rfl ?_
      cases h
      exact w_ls (by exact (And.intro rfl (And.intro rfl (And.intro rfl (And.intro rfl (And.intro rfl (And.intro rfl (And.intro rfl trivial)))))))) hr
def sp_Model_amnesty (F : Nat) (p0 : Int32) (p1 : Int32) (p2 : Int32) (g : Mem) : Option (Int32 × Mem) := (sp_Model_isMonk p0 (mset g 54 3 0)).bind fun v1 => if v1 = 0 then (sp_Model_fail 1 (mset g 54 3 0)).bind fun v3 => some (v3.1, v3.2) else if p2 < 0 then (sp_Model_fail 1 (mset g 54 3 0)).bind fun v5 => some (v5.1, v5.2) else if p2 ≤ 1 then (sp_Model_isIn p1.toInt64 0 9 (mset g 54 3 0)).bind fun v7 => if v7 = 0 then (sp_Model_fail 2 (mset g 54 3 0)).bind fun v9 => some (v9.1, v9.2) else (lpO (st_Model_amnesty_55 F p0 p1 p2 g p0 p1 p2) F (0, (-1), 0, (mset g 54 3 0))).bind fun x13 => if p2 = 0 then some (x13.2.1, x13.2.2) else some (x13.1, x13.2.2) else (sp_Model_fail 1 (mset g 54 3 0)).bind fun v15 => some (v15.1, v15.2)
theorem ok_Model_amnesty {γ : GG} {tt : Bool} {F : Nat} {p0 : Int32} {p1 : Int32} {p2 : Int32} {g : Mem} {res : Int32 × Mem} (h : sp_Model_amnesty F p0 p1 p2 g = some res) : CA γ M_Model_amnesty 5 [.ref 54, .int p0, .int p1, .int p2] SH g tt (0, 0) (pI SH res.1 res.2 tt) := by
  refine CA.of mw_Model_amnesty.1 4 rfl ?_
  show WA γ M_Model_amnesty 5 0 [some (.ref 54), some (.int p0), some (.int p1), some (.int p2), none, none, none, none] [] SH g tt (0, 0) (pI SH res.1 res.2 tt)
  unfold sp_Model_amnesty at h
  refine w_aload_n (q := 1) d_Model_amnesty_0 rfl rfl ?_
  refine w_iconst (q := 2) (v := 0) d_Model_amnesty_1 rfl (by decide) ?_
  refine w_put (q := 5) (ci := 12) (j := 3) d_Model_amnesty_2 rfl (by decide) fl_Model_114 (by decide) (by decide) s_54 rfl rfl rfl rfl rfl rfl ?_
  refine w_aload_n (q := 6) d_Model_amnesty_5 rfl rfl ?_
  refine w_iload_n (q := 7) d_Model_amnesty_6 rfl rfl ?_
  obtain ⟨v1, hv, h⟩ := bnd h
  refine w_callVi (q := 10) (M' := M_Model_isMonk) (n' := 1) (k := 54) (As := [.int p0]) (sh' := SH) (b1 := (0, 0)) d_Model_amnesty_7 rfl mw_Model_isMonk (by decide) (by decide) ml_Model_335 (by decide) s_54 (by decide) rfl rfl rfl (leb rfl) (bz _) (fun _ => rfl) (ok_Model_isMonk hv) ?_
  by_cases c2 : v1 = 0
  · rw [if_pos c2] at h
    refine w_if_eq_t (q := 22) d_Model_amnesty_10 rfl c2 ?_
    refine w_aload_n (q := 23) d_Model_amnesty_22 rfl rfl ?_
    refine w_iconst (q := 24) (v := 1) d_Model_amnesty_23 rfl (by decide) ?_
    obtain ⟨v3, hv, h⟩ := bnd h
    refine w_callVi (q := 27) (M' := M_Model_fail) (n' := 0) (k := 54) (As := [.int 1]) (sh' := SH) (b1 := (0, 0)) d_Model_amnesty_24 rfl mw_Model_fail (by decide) (by decide) ml_Model_273 (by decide) s_54 (by decide) rfl rfl rfl (leb rfl) (bz _) (fun _ => rfl) (ok_Model_fail hv) ?_
    cases h
    exact w_ireturn d_Model_amnesty_27 rfl rfl ⟨rfl, rfl, rfl, rfl⟩
  · rw [if_neg c2] at h
    refine w_if_eq_f (q := 13) d_Model_amnesty_10 22 rfl rfl c2 ?_
    refine w_iload_n (q := 14) d_Model_amnesty_13 rfl rfl ?_
    by_cases c4 : p2 < 0
    · rw [if_pos c4] at h
      refine w_if_lt_t (q := 22) d_Model_amnesty_14 rfl c4 ?_
      refine w_aload_n (q := 23) d_Model_amnesty_22 rfl rfl ?_
      refine w_iconst (q := 24) (v := 1) d_Model_amnesty_23 rfl (by decide) ?_
      obtain ⟨v5, hv, h⟩ := bnd h
      refine w_callVi (q := 27) (M' := M_Model_fail) (n' := 0) (k := 54) (As := [.int 1]) (sh' := SH) (b1 := (0, 0)) d_Model_amnesty_24 rfl mw_Model_fail (by decide) (by decide) ml_Model_273 (by decide) s_54 (by decide) rfl rfl rfl (leb rfl) (bz _) (fun _ => rfl) (ok_Model_fail hv) ?_
      cases h
      exact w_ireturn d_Model_amnesty_27 rfl rfl ⟨rfl, rfl, rfl, rfl⟩
    · rw [if_neg c4] at h
      refine w_if_lt_f (q := 17) d_Model_amnesty_14 22 rfl rfl c4 ?_
      refine w_iload_n (q := 18) d_Model_amnesty_17 rfl rfl ?_
      refine w_iconst (q := 19) (v := 1) d_Model_amnesty_18 rfl (by decide) ?_
      by_cases c6 : p2 ≤ 1
      · rw [if_pos c6] at h
        refine w_icmp_le_t (q := 28) d_Model_amnesty_19 rfl c6 ?_
        refine w_iload_n (q := 29) d_Model_amnesty_28 rfl rfl ?_
        refine w_i2l (q := 30) d_Model_amnesty_29 rfl ?_
        refine w_lconst (q := 31) (v := 0) d_Model_amnesty_30 rfl (by decide) ?_
        refine w_ldc2 (q := 34) d_Model_amnesty_31 rfl lo_Model_344 ?_
        obtain ⟨v7, hv, h⟩ := bnd h
        refine w_callSi (q := 37) (M' := M_Model_isIn) (n' := 0) (As := [.long (p1.toInt64), .long (0), .long (9)]) (sh' := SH) (b1 := (0, 0)) d_Model_amnesty_34 rfl mw_Model_isIn (by decide) (by decide) ml_Model_117 rfl rfl (leb rfl) (bz _) (fun _ => rfl) (ok_Model_isIn hv) ?_
        by_cases c8 : v7 = 0
        · rw [if_pos c8] at h
          refine w_if_ne_f (q := 40) d_Model_amnesty_37 46 rfl rfl c8 ?_
          refine w_aload_n (q := 41) d_Model_amnesty_40 rfl rfl ?_
          refine w_iconst (q := 42) (v := 2) d_Model_amnesty_41 rfl (by decide) ?_
          obtain ⟨v9, hv, h⟩ := bnd h
          refine w_callVi (q := 45) (M' := M_Model_fail) (n' := 0) (k := 54) (As := [.int 2]) (sh' := SH) (b1 := (0, 0)) d_Model_amnesty_42 rfl mw_Model_fail (by decide) (by decide) ml_Model_273 (by decide) s_54 (by decide) rfl rfl rfl (leb rfl) (bz _) (fun _ => rfl) (ok_Model_fail hv) ?_
          cases h
          exact w_ireturn d_Model_amnesty_45 rfl rfl ⟨rfl, rfl, rfl, rfl⟩
        · rw [if_neg c8] at h
          refine w_if_ne_t (q := 46) d_Model_amnesty_37 rfl c8 ?_
          refine w_iconst (q := 47) (v := 0) d_Model_amnesty_46 rfl (by decide) ?_
          refine w_istore (q := 49) (ls' := [some (.ref 54), some (.int p0), some (.int p1), some (.int p2), some (.int 0), none, none, none]) d_Model_amnesty_47 rfl (by decide) rfl rfl ?_
          refine w_iconst (q := 50) (v := (-1)) d_Model_amnesty_49 rfl (by decide) ?_
          refine w_istore (q := 52) (ls' := [some (.ref 54), some (.int p0), some (.int p1), some (.int p2), some (.int 0), some (.int ((-1))), none, none]) d_Model_amnesty_50 rfl (by decide) rfl rfl ?_
          refine w_iconst (q := 53) (v := 0) d_Model_amnesty_52 rfl (by decide) ?_
          refine w_istore (q := 55) (ls' := [some (.ref 54), some (.int p0), some (.int p1), some (.int p2), some (.int 0), some (.int ((-1))), some (.int 0), none]) d_Model_amnesty_53 rfl (by decide) rfl rfl ?_
          obtain ⟨x13, hx, h⟩ := bnd h
          refine w_ls (ls' := [some (.ref 54), some (.int p0), some (.int p1), some (.int p2), some (.int 0), some (.int ((-1))), some (.int 0), none]) (And.intro rfl (And.intro rfl (And.intro rfl (And.intro rfl (And.intro rfl (And.intro rfl (And.intro rfl trivial))))))) ?_
          show PL_Model_amnesty_55 γ tt p0 p1 p2 g p0 p1 p2 _ _ (0, (-1), 0, (mset g 54 3 0))
          refine lp_ok (kl_Model_amnesty_55) F _ x13 hx ?_
          unfold QL_Model_amnesty_55
          refine w_iload_n (q := 100) d_Model_amnesty_99 rfl rfl ?_
          by_cases c14 : p2 = 0
          · rw [if_pos c14] at h
            refine w_if_ne_f (q := 103) d_Model_amnesty_100 108 rfl rfl c14 ?_
            refine w_iload (q := 105) d_Model_amnesty_103 rfl rfl ?_
            refine w_goto (q := 110) d_Model_amnesty_105 rfl ?_
            cases h
            exact w_ireturn d_Model_amnesty_110 rfl rfl ⟨rfl, rfl, rfl, rfl⟩
          · rw [if_neg c14] at h
            refine w_if_ne_t (q := 108) d_Model_amnesty_100 rfl c14 ?_
            refine w_iload (q := 110) d_Model_amnesty_108 rfl rfl ?_
            cases h
            exact w_ireturn d_Model_amnesty_110 rfl rfl ⟨rfl, rfl, rfl, rfl⟩
      · rw [if_neg c6] at h
        refine w_icmp_le_f (q := 22) d_Model_amnesty_19 28 rfl rfl c6 ?_
        refine w_aload_n (q := 23) d_Model_amnesty_22 rfl rfl ?_
        refine w_iconst (q := 24) (v := 1) d_Model_amnesty_23 rfl (by decide) ?_
        obtain ⟨v15, hv, h⟩ := bnd h
        refine w_callVi (q := 27) (M' := M_Model_fail) (n' := 0) (k := 54) (As := [.int 1]) (sh' := SH) (b1 := (0, 0)) d_Model_amnesty_24 rfl mw_Model_fail (by decide) (by decide) ml_Model_273 (by decide) s_54 (by decide) rfl rfl rfl (leb rfl) (bz _) (fun _ => rfl) (ok_Model_fail hv) ?_
        cases h
        exact w_ireturn d_Model_amnesty_27 rfl rfl ⟨rfl, rfl, rfl, rfl⟩
def PL_Model_week_38 (γ : GG) (tt : Bool) (p0 : Int32) (p1 : Int32) (g : Mem) (k1 : Int32) (k2 : Int32) (m0 : Mem) (b : Nat × Nat) (Φ : PO) (s : Int32 × Int32) : Prop := WA γ M_Model_week 3 38 [some (.ref 54), some (.int k1), some (.int k2), some (.int s.1), some (.int s.2), none] [] SH m0 tt b Φ
def QL_Model_week_38 (γ : GG) (tt : Bool) (p0 : Int32) (p1 : Int32) (g : Mem) (k1 : Int32) (k2 : Int32) (m0 : Mem) (b : Nat × Nat) (Φ : PO) (x : (Int32)) : Prop := WA γ M_Model_week 3 117 [none, none, none, some (.int x), none, none] [] SH m0 tt b Φ
def st_Model_week_38 (F : Nat) (p0 : Int32) (p1 : Int32) (g : Mem) (k1 : Int32) (k2 : Int32) (m0 : Mem) (s : Int32 × Int32) : Option ((Int32 × Int32) ⊕ ((Int32))) := if (m0 54 26) ≤ s.2 then some (.inr s.1) else (sp_Model_isThere s.2 m0).bind fun v8 => if v8 = 0 then some (.inl (s.1, s.2 + 1)) else (sp_Model_of s.2 1 m0).bind fun v10 => if v10 = k1 then (sp_Model_old s.2 m0).bind fun v12 => (rd m0 58 12 3).bind fun v13 => (dv v12 v13).bind fun v14 => if v14 = k2 then some (.inl (s.1 + 1, s.2 + 1)) else if k2 = (-1) then if v14 < 7 then some (.inl (s.1 + 0, s.2 + 1)) else some (.inl (s.1 + 1, s.2 + 1)) else some (.inl (s.1 + 0, s.2 + 1)) else some (.inl (s.1, s.2 + 1))
theorem kl_Model_week_38 {γ : GG} {tt : Bool} {F : Nat} {p0 : Int32} {p1 : Int32} {g : Mem} {k1 : Int32} {k2 : Int32} {m0 : Mem} {b : Nat × Nat} {Φ : PO} : ∀ (s : Int32 × Int32) (r : (Int32 × Int32) ⊕ ((Int32))), st_Model_week_38 F p0 p1 g k1 k2 m0 s = some r → RQ (PL_Model_week_38 γ tt p0 p1 g k1 k2 m0 b Φ) (QL_Model_week_38 γ tt p0 p1 g k1 k2 m0 b Φ) r → PL_Model_week_38 γ tt p0 p1 g k1 k2 m0 b Φ s := by
  intro s r h hr
  unfold st_Model_week_38 at h
  unfold PL_Model_week_38
  refine w_iload (q := 40) d_Model_week_38 rfl rfl ?_
  refine w_aload_n (q := 41) d_Model_week_40 rfl rfl ?_
  refine w_get (q := 44) (ci := 12) (j := 26) d_Model_week_41 rfl (by decide) fl_Model_121 (by decide) (by decide) s_54 rfl rfl ?_
  by_cases c7 : (m0 54 26) ≤ s.2
  · rw [if_pos c7] at h
    refine w_icmp_ge_t (q := 117) d_Model_week_44 rfl c7 ?_
    cases h
    exact w_ls (by exact (And.intro rfl trivial)) hr
  · rw [if_neg c7] at h
    refine w_icmp_ge_f (q := 47) d_Model_week_44 117 rfl rfl c7 ?_
    refine w_aload_n (q := 48) d_Model_week_47 rfl rfl ?_
    refine w_iload (q := 50) d_Model_week_48 rfl rfl ?_
    obtain ⟨v8, hv, h⟩ := bnd h
    refine w_callVi (q := 53) (M' := M_Model_isThere) (n' := 1) (k := 54) (As := [.int s.2]) (sh' := SH) (b1 := (0, 0)) d_Model_week_50 rfl mw_Model_isThere (by decide) (by decide) ml_Model_315 (by decide) s_54 (by decide) rfl rfl rfl (leb rfl) (bz _) (fun _ => rfl) (ok_Model_isThere hv) ?_
    by_cases c9 : v8 = 0
    · rw [if_pos c9] at h
      refine w_if_eq_t (q := 111) d_Model_week_53 rfl c9 ?_
      refine w_iinc (q := 114) (ls' := [some (.ref 54), some (.int k1), some (.int k2), some (.int s.1), some (.int (s.2 + 1)), none]) d_Model_week_111 rfl (by decide) rfl rfl rfl ?_
      refine w_goto (q := 38) d_Model_week_114 rfl ?_
      cases h
      exact w_ls (by exact (And.intro rfl (And.intro rfl (And.intro rfl (And.intro rfl (And.intro rfl trivial)))))) hr
    · rw [if_neg c9] at h
      refine w_if_eq_f (q := 56) d_Model_week_53 111 rfl rfl c9 ?_
      refine w_aload_n (q := 57) d_Model_week_56 rfl rfl ?_
      refine w_iload (q := 59) d_Model_week_57 rfl rfl ?_
      refine w_iconst (q := 60) (v := 1) d_Model_week_59 rfl (by decide) ?_
      obtain ⟨v10, hv, h⟩ := bnd h
      refine w_callVi (q := 63) (M' := M_Model_of) (n' := 0) (k := 54) (As := [.int s.2, .int 1]) (sh' := SH) (b1 := (0, 0)) d_Model_week_60 rfl mw_Model_of (by decide) (by decide) ml_Model_305 (by decide) s_54 (by decide) rfl rfl rfl (leb rfl) (bz _) (fun _ => rfl) (ok_Model_of hv) ?_
      refine w_iload_n (q := 64) d_Model_week_63 rfl rfl ?_
      by_cases c11 : v10 = k1
      · rw [if_pos c11] at h
        refine w_icmp_eq_t (q := 70) d_Model_week_64 rfl c11 ?_
        refine w_aload_n (q := 71) d_Model_week_70 rfl rfl ?_
        refine w_iload (q := 73) d_Model_week_71 rfl rfl ?_
        obtain ⟨v12, hv, h⟩ := bnd h
        refine w_callVi (q := 76) (M' := M_Model_old) (n' := 2) (k := 54) (As := [.int s.2]) (sh' := SH) (b1 := (0, 0)) d_Model_week_73 rfl mw_Model_old (by decide) (by decide) ml_Model_318 (by decide) s_54 (by decide) rfl rfl rfl (leb rfl) (bz _) (fun _ => rfl) (ok_Model_old hv) ?_
        refine w_aload_n (q := 77) d_Model_week_76 rfl rfl ?_
        refine w_get (q := 80) (ci := 12) (j := 4) d_Model_week_77 rfl (by decide) fl_Model_51 (by decide) (by decide) s_54 rfl rfl ?_
        refine w_iconst (q := 81) (v := 3) d_Model_week_80 rfl (by decide) ?_
        obtain ⟨v13, hv, h⟩ := bnd h
        obtain ⟨hi, hv⟩ := rd_ok hv
        refine w_iald (q := 82) (t := 0) d_Model_week_81 rfl a_58.2 a_58.1 hi rfl ?_
        rw [hv]
        obtain ⟨v14, hv, h⟩ := bnd h
        obtain ⟨hz, hv⟩ := dv_ok hv
        refine w_idiv (q := 83) d_Model_week_82 rfl hz ?_
        rw [hv]
        refine w_istore (q := 85) (ls' := [some (.ref 54), some (.int k1), some (.int k2), some (.int s.1), some (.int s.2), some (.int v14)]) d_Model_week_83 rfl (by decide) rfl rfl ?_
        refine w_iload_n (q := 86) d_Model_week_85 rfl rfl ?_
        refine w_iload (q := 88) d_Model_week_86 rfl rfl ?_
        refine w_iload_n (q := 89) d_Model_week_88 rfl rfl ?_
        by_cases c15 : v14 = k2
        · rw [if_pos c15] at h
          refine w_icmp_eq_t (q := 104) d_Model_week_89 rfl c15 ?_
          refine w_iconst (q := 105) (v := 1) d_Model_week_104 rfl (by decide) ?_
          refine w_goto (q := 109) d_Model_week_105 rfl ?_
          refine w_iadd (q := 110) d_Model_week_109 rfl ?_
          refine w_istore_n (q := 111) (ls' := [some (.ref 54), some (.int k1), some (.int k2), some (.int (s.1 + 1)), some (.int s.2), some (.int v14)]) d_Model_week_110 rfl (by decide) rfl rfl ?_
          refine w_iinc (q := 114) (ls' := [some (.ref 54), some (.int k1), some (.int k2), some (.int (s.1 + 1)), some (.int (s.2 + 1)), some (.int v14)]) d_Model_week_111 rfl (by decide) rfl rfl rfl ?_
          refine w_goto (q := 38) d_Model_week_114 rfl ?_
          cases h
          exact w_ls (by exact (And.intro rfl (And.intro rfl (And.intro rfl (And.intro rfl (And.intro rfl trivial)))))) hr
        · rw [if_neg c15] at h
          refine w_icmp_eq_f (q := 92) d_Model_week_89 104 rfl rfl c15 ?_
          refine w_iload_n (q := 93) d_Model_week_92 rfl rfl ?_
          refine w_iconst (q := 94) (v := (-1)) d_Model_week_93 rfl (by decide) ?_
          by_cases c16 : k2 = (-1)
          · rw [if_pos c16] at h
            refine w_icmp_ne_f (q := 97) d_Model_week_94 108 rfl rfl c16 ?_
            refine w_iload (q := 99) d_Model_week_97 rfl rfl ?_
            refine w_bipush (q := 101) (v := 7) d_Model_week_99 rfl (by decide) ?_
            by_cases c17 : v14 < 7
            · rw [if_pos c17] at h
              refine w_icmp_lt_t (q := 108) d_Model_week_101 rfl c17 ?_
              refine w_iconst (q := 109) (v := 0) d_Model_week_108 rfl (by decide) ?_
              refine w_iadd (q := 110) d_Model_week_109 rfl ?_
              refine w_istore_n (q := 111) (ls' := [some (.ref 54), some (.int k1), some (.int k2), some (.int (s.1 + 0)), some (.int s.2), some (.int v14)]) d_Model_week_110 rfl (by decide) rfl rfl ?_
              refine w_iinc (q := 114) (ls' := [some (.ref 54), some (.int k1), some (.int k2), some (.int (s.1 + 0)), some (.int (s.2 + 1)), some (.int v14)]) d_Model_week_111 rfl (by decide) rfl rfl rfl ?_
              refine w_goto (q := 38) d_Model_week_114 rfl ?_
              cases h
              exact w_ls (by exact (And.intro rfl (And.intro rfl (And.intro rfl (And.intro rfl (And.intro rfl trivial)))))) hr
            · rw [if_neg c17] at h
              refine w_icmp_lt_f (q := 104) d_Model_week_101 108 rfl rfl c17 ?_
              refine w_iconst (q := 105) (v := 1) d_Model_week_104 rfl (by decide) ?_
              refine w_goto (q := 109) d_Model_week_105 rfl ?_
              refine w_iadd (q := 110) d_Model_week_109 rfl ?_
              refine w_istore_n (q := 111) (ls' := [some (.ref 54), some (.int k1), some (.int k2), some (.int (s.1 + 1)), some (.int s.2), some (.int v14)]) d_Model_week_110 rfl (by decide) rfl rfl ?_
              refine w_iinc (q := 114) (ls' := [some (.ref 54), some (.int k1), some (.int k2), some (.int (s.1 + 1)), some (.int (s.2 + 1)), some (.int v14)]) d_Model_week_111 rfl (by decide) rfl rfl rfl ?_
              refine w_goto (q := 38) d_Model_week_114 rfl ?_
              cases h
              exact w_ls (by exact (And.intro rfl (And.intro rfl (And.intro rfl (And.intro rfl (And.intro rfl trivial)))))) hr
          · rw [if_neg c16] at h
            refine w_icmp_ne_t (q := 108) d_Model_week_94 rfl c16 ?_
            refine w_iconst (q := 109) (v := 0) d_Model_week_108 rfl (by decide) ?_
            refine w_iadd (q := 110) d_Model_week_109 rfl ?_
            refine w_istore_n (q := 111) (ls' := [some (.ref 54), some (.int k1), some (.int k2), some (.int (s.1 + 0)), some (.int s.2), some (.int v14)]) d_Model_week_110 rfl (by decide) rfl rfl ?_
            refine w_iinc (q := 114) (ls' := [some (.ref 54), some (.int k1), some (.int k2), some (.int (s.1 + 0)), some (.int (s.2 + 1)), some (.int v14)]) d_Model_week_111 rfl (by decide) rfl rfl rfl ?_
            refine w_goto (q := 38) d_Model_week_114 rfl ?_
            cases h
            exact w_ls (by exact (And.intro rfl (And.intro rfl (And.intro rfl (And.intro rfl (And.intro rfl trivial)))))) hr
      · rw [if_neg c11] at h
        refine w_icmp_eq_f (q := 67) d_Model_week_64 70 rfl rfl c11 ?_
        refine w_goto (q := 111) d_Model_week_67 rfl ?_
        refine w_iinc (q := 114) (ls' := [some (.ref 54), some (.int k1), some (.int k2), some (.int s.1), some (.int (s.2 + 1)), none]) d_Model_week_111 rfl (by decide) rfl rfl rfl ?_
        refine w_goto (q := 38) d_Model_week_114 rfl ?_
        cases h
        exact w_ls (by exact (And.intro rfl (And.intro rfl (And.intro rfl (And.intro rfl (And.intro rfl trivial)))))) hr
def sp_Model_week (F : Nat) (p0 : Int32) (p1 : Int32) (g : Mem) : Option (Int32 × Mem) := (sp_Model_isMonk p0 (mset g 54 3 0)).bind fun v1 => if v1 = 0 then (sp_Model_fail 1 (mset g 54 3 0)).bind fun v3 => some (v3.1, v3.2) else (sp_Model_isIn p1.toInt64 (-1) 6 (mset g 54 3 0)).bind fun v4 => if v4 = 0 then (sp_Model_fail 1 (mset g 54 3 0)).bind fun v6 => some (v6.1, v6.2) else (lpO (st_Model_week_38 F p0 p1 g p0 p1 (mset g 54 3 0)) F (0, 0)).bind fun x18 => some (x18, (mset g 54 3 0))
theorem ok_Model_week {γ : GG} {tt : Bool} {F : Nat} {p0 : Int32} {p1 : Int32} {g : Mem} {res : Int32 × Mem} (h : sp_Model_week F p0 p1 g = some res) : CA γ M_Model_week 3 [.ref 54, .int p0, .int p1] SH g tt (0, 0) (pI SH res.1 res.2 tt) := by
  refine CA.of mw_Model_week.1 3 rfl ?_
  show WA γ M_Model_week 3 0 [some (.ref 54), some (.int p0), some (.int p1), none, none, none] [] SH g tt (0, 0) (pI SH res.1 res.2 tt)
  unfold sp_Model_week at h
  refine w_aload_n (q := 1) d_Model_week_0 rfl rfl ?_
  refine w_iconst (q := 2) (v := 0) d_Model_week_1 rfl (by decide) ?_
  refine w_put (q := 5) (ci := 12) (j := 3) d_Model_week_2 rfl (by decide) fl_Model_114 (by decide) (by decide) s_54 rfl rfl rfl rfl rfl rfl ?_
  refine w_aload_n (q := 6) d_Model_week_5 rfl rfl ?_
  refine w_iload_n (q := 7) d_Model_week_6 rfl rfl ?_
  obtain ⟨v1, hv, h⟩ := bnd h
  refine w_callVi (q := 10) (M' := M_Model_isMonk) (n' := 1) (k := 54) (As := [.int p0]) (sh' := SH) (b1 := (0, 0)) d_Model_week_7 rfl mw_Model_isMonk (by decide) (by decide) ml_Model_335 (by decide) s_54 (by decide) rfl rfl rfl (leb rfl) (bz _) (fun _ => rfl) (ok_Model_isMonk hv) ?_
  by_cases c2 : v1 = 0
  · rw [if_pos c2] at h
    refine w_if_eq_t (q := 27) d_Model_week_10 rfl c2 ?_
    refine w_aload_n (q := 28) d_Model_week_27 rfl rfl ?_
    refine w_iconst (q := 29) (v := 1) d_Model_week_28 rfl (by decide) ?_
    obtain ⟨v3, hv, h⟩ := bnd h
    refine w_callVi (q := 32) (M' := M_Model_fail) (n' := 0) (k := 54) (As := [.int 1]) (sh' := SH) (b1 := (0, 0)) d_Model_week_29 rfl mw_Model_fail (by decide) (by decide) ml_Model_273 (by decide) s_54 (by decide) rfl rfl rfl (leb rfl) (bz _) (fun _ => rfl) (ok_Model_fail hv) ?_
    cases h
    exact w_ireturn d_Model_week_32 rfl rfl ⟨rfl, rfl, rfl, rfl⟩
  · rw [if_neg c2] at h
    refine w_if_eq_f (q := 13) d_Model_week_10 27 rfl rfl c2 ?_
    refine w_iload_n (q := 14) d_Model_week_13 rfl rfl ?_
    refine w_i2l (q := 15) d_Model_week_14 rfl ?_
    refine w_ldc2 (q := 18) d_Model_week_15 rfl lo_Model_421 ?_
    refine w_ldc2 (q := 21) d_Model_week_18 rfl lo_Model_410 ?_
    obtain ⟨v4, hv, h⟩ := bnd h
    refine w_callSi (q := 24) (M' := M_Model_isIn) (n' := 0) (As := [.long (p1.toInt64), .long ((-1)), .long (6)]) (sh' := SH) (b1 := (0, 0)) d_Model_week_21 rfl mw_Model_isIn (by decide) (by decide) ml_Model_117 rfl rfl (leb rfl) (bz _) (fun _ => rfl) (ok_Model_isIn hv) ?_
    by_cases c5 : v4 = 0
    · rw [if_pos c5] at h
      refine w_if_ne_f (q := 27) d_Model_week_24 33 rfl rfl c5 ?_
      refine w_aload_n (q := 28) d_Model_week_27 rfl rfl ?_
      refine w_iconst (q := 29) (v := 1) d_Model_week_28 rfl (by decide) ?_
      obtain ⟨v6, hv, h⟩ := bnd h
      refine w_callVi (q := 32) (M' := M_Model_fail) (n' := 0) (k := 54) (As := [.int 1]) (sh' := SH) (b1 := (0, 0)) d_Model_week_29 rfl mw_Model_fail (by decide) (by decide) ml_Model_273 (by decide) s_54 (by decide) rfl rfl rfl (leb rfl) (bz _) (fun _ => rfl) (ok_Model_fail hv) ?_
      cases h
      exact w_ireturn d_Model_week_32 rfl rfl ⟨rfl, rfl, rfl, rfl⟩
    · rw [if_neg c5] at h
      refine w_if_ne_t (q := 33) d_Model_week_24 rfl c5 ?_
      refine w_iconst (q := 34) (v := 0) d_Model_week_33 rfl (by decide) ?_
      refine w_istore_n (q := 35) (ls' := [some (.ref 54), some (.int p0), some (.int p1), some (.int 0), none, none]) d_Model_week_34 rfl (by decide) rfl rfl ?_
      refine w_iconst (q := 36) (v := 0) d_Model_week_35 rfl (by decide) ?_
      refine w_istore (q := 38) (ls' := [some (.ref 54), some (.int p0), some (.int p1), some (.int 0), some (.int 0), none]) d_Model_week_36 rfl (by decide) rfl rfl ?_
      obtain ⟨x18, hx, h⟩ := bnd h
      refine w_ls (ls' := [some (.ref 54), some (.int p0), some (.int p1), some (.int 0), some (.int 0), none]) (And.intro rfl (And.intro rfl (And.intro rfl (And.intro rfl (And.intro rfl trivial))))) ?_
      show PL_Model_week_38 γ tt p0 p1 g p0 p1 (mset g 54 3 0) _ _ (0, 0)
      refine lp_ok (kl_Model_week_38) F _ x18 hx ?_
      unfold QL_Model_week_38
      refine w_iload_n (q := 118) d_Model_week_117 rfl rfl ?_
      cases h
      exact w_ireturn d_Model_week_118 rfl rfl ⟨rfl, rfl, rfl, rfl⟩
def PL_Model_oldest_35 (γ : GG) (tt : Bool) (p0 : Int32) (p1 : Int32) (g : Mem) (k1 : Int32) (k2 : Int32) (m0 : Mem) (b : Nat × Nat) (Φ : PO) (s : Int32 × Int32) : Prop := WA γ M_Model_oldest 3 35 [some (.ref 54), some (.int k1), some (.int k2), some (.int s.1), some (.int s.2)] [] SH m0 tt b Φ
def QL_Model_oldest_35 (γ : GG) (tt : Bool) (p0 : Int32) (p1 : Int32) (g : Mem) (k1 : Int32) (k2 : Int32) (m0 : Mem) (b : Nat × Nat) (Φ : PO) (x : (Int32)) : Prop := WA γ M_Model_oldest 3 85 [none, none, none, some (.int x), none] [] SH m0 tt b Φ
def st_Model_oldest_35 (F : Nat) (p0 : Int32) (p1 : Int32) (g : Mem) (k1 : Int32) (k2 : Int32) (m0 : Mem) (s : Int32 × Int32) : Option ((Int32 × Int32) ⊕ ((Int32))) := if (m0 54 26) ≤ s.2 then some (.inr s.1) else (sp_Model_isOfKind s.2 k1 k2 m0).bind fun v8 => if v8 = 0 then some (.inl (s.1, s.2 + 1)) else if s.1 = (-1) then some (.inl (s.2, s.2 + 1)) else (sp_Model_of s.2 2 m0).bind fun v11 => (sp_Model_of s.1 2 m0).bind fun v12 => if v12 ≤ v11 then some (.inl (s.1, s.2 + 1)) else some (.inl (s.2, s.2 + 1))
theorem kl_Model_oldest_35 {γ : GG} {tt : Bool} {F : Nat} {p0 : Int32} {p1 : Int32} {g : Mem} {k1 : Int32} {k2 : Int32} {m0 : Mem} {b : Nat × Nat} {Φ : PO} : ∀ (s : Int32 × Int32) (r : (Int32 × Int32) ⊕ ((Int32))), st_Model_oldest_35 F p0 p1 g k1 k2 m0 s = some r → RQ (PL_Model_oldest_35 γ tt p0 p1 g k1 k2 m0 b Φ) (QL_Model_oldest_35 γ tt p0 p1 g k1 k2 m0 b Φ) r → PL_Model_oldest_35 γ tt p0 p1 g k1 k2 m0 b Φ s := by
  intro s r h hr
  unfold st_Model_oldest_35 at h
  unfold PL_Model_oldest_35
  refine w_iload (q := 37) d_Model_oldest_35 rfl rfl ?_
  refine w_aload_n (q := 38) d_Model_oldest_37 rfl rfl ?_
  refine w_get (q := 41) (ci := 12) (j := 26) d_Model_oldest_38 rfl (by decide) fl_Model_121 (by decide) (by decide) s_54 rfl rfl ?_
  by_cases c7 : (m0 54 26) ≤ s.2
  · rw [if_pos c7] at h
    refine w_icmp_ge_t (q := 85) d_Model_oldest_41 rfl c7 ?_
    cases h
    exact w_ls (by exact (And.intro rfl trivial)) hr
  · rw [if_neg c7] at h
    refine w_icmp_ge_f (q := 44) d_Model_oldest_41 85 rfl rfl c7 ?_
    refine w_aload_n (q := 45) d_Model_oldest_44 rfl rfl ?_
    refine w_iload (q := 47) d_Model_oldest_45 rfl rfl ?_
    refine w_iload_n (q := 48) d_Model_oldest_47 rfl rfl ?_
    refine w_iload_n (q := 49) d_Model_oldest_48 rfl rfl ?_
    obtain ⟨v8, hv, h⟩ := bnd h
    refine w_callVi (q := 52) (M' := M_Model_isOfKind) (n' := 2) (k := 54) (As := [.int s.2, .int k1, .int k2]) (sh' := SH) (b1 := (0, 0)) d_Model_oldest_49 rfl mw_Model_isOfKind (by decide) (by decide) ml_Model_396 (by decide) s_54 (by decide) rfl rfl rfl (leb rfl) (bz _) (fun _ => rfl) (ok_Model_isOfKind hv) ?_
    by_cases c9 : v8 = 0
    · rw [if_pos c9] at h
      refine w_if_eq_t (q := 79) d_Model_oldest_52 rfl c9 ?_
      refine w_iinc (q := 82) (ls' := [some (.ref 54), some (.int k1), some (.int k2), some (.int s.1), some (.int (s.2 + 1))]) d_Model_oldest_79 rfl (by decide) rfl rfl rfl ?_
      refine w_goto (q := 35) d_Model_oldest_82 rfl ?_
      cases h
      exact w_ls (by exact (And.intro rfl (And.intro rfl (And.intro rfl (And.intro rfl (And.intro rfl trivial)))))) hr
    · rw [if_neg c9] at h
      refine w_if_eq_f (q := 55) d_Model_oldest_52 79 rfl rfl c9 ?_
      refine w_iload_n (q := 56) d_Model_oldest_55 rfl rfl ?_
      refine w_iconst (q := 57) (v := (-1)) d_Model_oldest_56 rfl (by decide) ?_
      by_cases c10 : s.1 = (-1)
      · rw [if_pos c10] at h
        refine w_icmp_eq_t (q := 76) d_Model_oldest_57 rfl c10 ?_
        refine w_iload (q := 78) d_Model_oldest_76 rfl rfl ?_
        refine w_istore_n (q := 79) (ls' := [some (.ref 54), some (.int k1), some (.int k2), some (.int s.2), some (.int s.2)]) d_Model_oldest_78 rfl (by decide) rfl rfl ?_
        refine w_iinc (q := 82) (ls' := [some (.ref 54), some (.int k1), some (.int k2), some (.int s.2), some (.int (s.2 + 1))]) d_Model_oldest_79 rfl (by decide) rfl rfl rfl ?_
        refine w_goto (q := 35) d_Model_oldest_82 rfl ?_
        cases h
        exact w_ls (by exact (And.intro rfl (And.intro rfl (And.intro rfl (And.intro rfl (And.intro rfl trivial)))))) hr
      · rw [if_neg c10] at h
        refine w_icmp_eq_f (q := 60) d_Model_oldest_57 76 rfl rfl c10 ?_
        refine w_aload_n (q := 61) d_Model_oldest_60 rfl rfl ?_
        refine w_iload (q := 63) d_Model_oldest_61 rfl rfl ?_
        refine w_iconst (q := 64) (v := 2) d_Model_oldest_63 rfl (by decide) ?_
        obtain ⟨v11, hv, h⟩ := bnd h
        refine w_callVi (q := 67) (M' := M_Model_of) (n' := 0) (k := 54) (As := [.int s.2, .int 2]) (sh' := SH) (b1 := (0, 0)) d_Model_oldest_64 rfl mw_Model_of (by decide) (by decide) ml_Model_305 (by decide) s_54 (by decide) rfl rfl rfl (leb rfl) (bz _) (fun _ => rfl) (ok_Model_of hv) ?_
        refine w_aload_n (q := 68) d_Model_oldest_67 rfl rfl ?_
        refine w_iload_n (q := 69) d_Model_oldest_68 rfl rfl ?_
        refine w_iconst (q := 70) (v := 2) d_Model_oldest_69 rfl (by decide) ?_
        obtain ⟨v12, hv, h⟩ := bnd h
        refine w_callVi (q := 73) (M' := M_Model_of) (n' := 0) (k := 54) (As := [.int s.1, .int 2]) (sh' := SH) (b1 := (0, 0)) d_Model_oldest_70 rfl mw_Model_of (by decide) (by decide) ml_Model_305 (by decide) s_54 (by decide) rfl rfl rfl (leb rfl) (bz _) (fun _ => rfl) (ok_Model_of hv) ?_
        by_cases c13 : v12 ≤ v11
        · rw [if_pos c13] at h
          refine w_icmp_ge_t (q := 79) d_Model_oldest_73 rfl c13 ?_
          refine w_iinc (q := 82) (ls' := [some (.ref 54), some (.int k1), some (.int k2), some (.int s.1), some (.int (s.2 + 1))]) d_Model_oldest_79 rfl (by decide) rfl rfl rfl ?_
          refine w_goto (q := 35) d_Model_oldest_82 rfl ?_
          cases h
          exact w_ls (by exact (And.intro rfl (And.intro rfl (And.intro rfl (And.intro rfl (And.intro rfl trivial)))))) hr
        · rw [if_neg c13] at h
          refine w_icmp_ge_f (q := 76) d_Model_oldest_73 79 rfl rfl c13 ?_
          refine w_iload (q := 78) d_Model_oldest_76 rfl rfl ?_
          refine w_istore_n (q := 79) (ls' := [some (.ref 54), some (.int k1), some (.int k2), some (.int s.2), some (.int s.2)]) d_Model_oldest_78 rfl (by decide) rfl rfl ?_
          refine w_iinc (q := 82) (ls' := [some (.ref 54), some (.int k1), some (.int k2), some (.int s.2), some (.int (s.2 + 1))]) d_Model_oldest_79 rfl (by decide) rfl rfl rfl ?_
          refine w_goto (q := 35) d_Model_oldest_82 rfl ?_
          cases h
          exact w_ls (by exact (And.intro rfl (And.intro rfl (And.intro rfl (And.intro rfl (And.intro rfl trivial)))))) hr
def sp_Model_oldest (F : Nat) (p0 : Int32) (p1 : Int32) (g : Mem) : Option (Int32 × Mem) := (sp_Model_isIn p0.toInt64 0 3 (mset g 54 3 0)).bind fun v1 => if v1 = 0 then (sp_Model_fail 1 (mset g 54 3 0)).bind fun v3 => some (v3.1, v3.2) else (sp_Model_isAbout p1 (mset g 54 3 0)).bind fun v4 => if v4 = 0 then (sp_Model_fail 1 (mset g 54 3 0)).bind fun v6 => some (v6.1, v6.2) else (lpO (st_Model_oldest_35 F p0 p1 g p0 p1 (mset g 54 3 0)) F ((-1), 0)).bind fun x14 => some (x14, (mset g 54 3 0))
theorem ok_Model_oldest {γ : GG} {tt : Bool} {F : Nat} {p0 : Int32} {p1 : Int32} {g : Mem} {res : Int32 × Mem} (h : sp_Model_oldest F p0 p1 g = some res) : CA γ M_Model_oldest 3 [.ref 54, .int p0, .int p1] SH g tt (0, 0) (pI SH res.1 res.2 tt) := by
  refine CA.of mw_Model_oldest.1 2 rfl ?_
  show WA γ M_Model_oldest 3 0 [some (.ref 54), some (.int p0), some (.int p1), none, none] [] SH g tt (0, 0) (pI SH res.1 res.2 tt)
  unfold sp_Model_oldest at h
  refine w_aload_n (q := 1) d_Model_oldest_0 rfl rfl ?_
  refine w_iconst (q := 2) (v := 0) d_Model_oldest_1 rfl (by decide) ?_
  refine w_put (q := 5) (ci := 12) (j := 3) d_Model_oldest_2 rfl (by decide) fl_Model_114 (by decide) (by decide) s_54 rfl rfl rfl rfl rfl rfl ?_
  refine w_iload_n (q := 6) d_Model_oldest_5 rfl rfl ?_
  refine w_i2l (q := 7) d_Model_oldest_6 rfl ?_
  refine w_lconst (q := 8) (v := 0) d_Model_oldest_7 rfl (by decide) ?_
  refine w_ldc2 (q := 11) d_Model_oldest_8 rfl lo_Model_374 ?_
  obtain ⟨v1, hv, h⟩ := bnd h
  refine w_callSi (q := 14) (M' := M_Model_isIn) (n' := 0) (As := [.long (p0.toInt64), .long (0), .long (3)]) (sh' := SH) (b1 := (0, 0)) d_Model_oldest_11 rfl mw_Model_isIn (by decide) (by decide) ml_Model_117 rfl rfl (leb rfl) (bz _) (fun _ => rfl) (ok_Model_isIn hv) ?_
  by_cases c2 : v1 = 0
  · rw [if_pos c2] at h
    refine w_if_eq_t (q := 24) d_Model_oldest_14 rfl c2 ?_
    refine w_aload_n (q := 25) d_Model_oldest_24 rfl rfl ?_
    refine w_iconst (q := 26) (v := 1) d_Model_oldest_25 rfl (by decide) ?_
    obtain ⟨v3, hv, h⟩ := bnd h
    refine w_callVi (q := 29) (M' := M_Model_fail) (n' := 0) (k := 54) (As := [.int 1]) (sh' := SH) (b1 := (0, 0)) d_Model_oldest_26 rfl mw_Model_fail (by decide) (by decide) ml_Model_273 (by decide) s_54 (by decide) rfl rfl rfl (leb rfl) (bz _) (fun _ => rfl) (ok_Model_fail hv) ?_
    cases h
    exact w_ireturn d_Model_oldest_29 rfl rfl ⟨rfl, rfl, rfl, rfl⟩
  · rw [if_neg c2] at h
    refine w_if_eq_f (q := 17) d_Model_oldest_14 24 rfl rfl c2 ?_
    refine w_iload_n (q := 18) d_Model_oldest_17 rfl rfl ?_
    obtain ⟨v4, hv, h⟩ := bnd h
    refine w_callSi (q := 21) (M' := M_Model_isAbout) (n' := 1) (As := [.int p1]) (sh' := SH) (b1 := (0, 0)) d_Model_oldest_18 rfl mw_Model_isAbout (by decide) (by decide) ml_Model_376 rfl rfl (leb rfl) (bz _) (fun _ => rfl) (ok_Model_isAbout hv) ?_
    by_cases c5 : v4 = 0
    · rw [if_pos c5] at h
      refine w_if_ne_f (q := 24) d_Model_oldest_21 30 rfl rfl c5 ?_
      refine w_aload_n (q := 25) d_Model_oldest_24 rfl rfl ?_
      refine w_iconst (q := 26) (v := 1) d_Model_oldest_25 rfl (by decide) ?_
      obtain ⟨v6, hv, h⟩ := bnd h
      refine w_callVi (q := 29) (M' := M_Model_fail) (n' := 0) (k := 54) (As := [.int 1]) (sh' := SH) (b1 := (0, 0)) d_Model_oldest_26 rfl mw_Model_fail (by decide) (by decide) ml_Model_273 (by decide) s_54 (by decide) rfl rfl rfl (leb rfl) (bz _) (fun _ => rfl) (ok_Model_fail hv) ?_
      cases h
      exact w_ireturn d_Model_oldest_29 rfl rfl ⟨rfl, rfl, rfl, rfl⟩
    · rw [if_neg c5] at h
      refine w_if_ne_t (q := 30) d_Model_oldest_21 rfl c5 ?_
      refine w_iconst (q := 31) (v := (-1)) d_Model_oldest_30 rfl (by decide) ?_
      refine w_istore_n (q := 32) (ls' := [some (.ref 54), some (.int p0), some (.int p1), some (.int ((-1))), none]) d_Model_oldest_31 rfl (by decide) rfl rfl ?_
      refine w_iconst (q := 33) (v := 0) d_Model_oldest_32 rfl (by decide) ?_
      refine w_istore (q := 35) (ls' := [some (.ref 54), some (.int p0), some (.int p1), some (.int ((-1))), some (.int 0)]) d_Model_oldest_33 rfl (by decide) rfl rfl ?_
      obtain ⟨x14, hx, h⟩ := bnd h
      refine w_ls (ls' := [some (.ref 54), some (.int p0), some (.int p1), some (.int ((-1))), some (.int 0)]) (And.intro rfl (And.intro rfl (And.intro rfl (And.intro rfl (And.intro rfl trivial))))) ?_
      show PL_Model_oldest_35 γ tt p0 p1 g p0 p1 (mset g 54 3 0) _ _ ((-1), 0)
      refine lp_ok (kl_Model_oldest_35) F _ x14 hx ?_
      unfold QL_Model_oldest_35
      refine w_iload_n (q := 86) d_Model_oldest_85 rfl rfl ?_
      cases h
      exact w_ireturn d_Model_oldest_86 rfl rfl ⟨rfl, rfl, rfl, rfl⟩
def PL_Model_believers_5 (γ : GG) (tt : Bool) (p0 : Int32) (p1 : Int32) (g : Mem) (k1 : Int32) (k2 : Int32) (b : Nat × Nat) (Φ : PO) (s : Int32 × Int32) : Prop := WA γ M_Model_believers 3 5 [some (.ref 54), some (.int k1), some (.int k2), some (.int s.1), some (.int s.2)] [] SH g tt b Φ
def QL_Model_believers_5 (γ : GG) (tt : Bool) (p0 : Int32) (p1 : Int32) (g : Mem) (k1 : Int32) (k2 : Int32) (b : Nat × Nat) (Φ : PO) (x : (Int32)) : Prop := WA γ M_Model_believers 3 54 [none, none, none, some (.int x), none] [] SH g tt b Φ
def st_Model_believers_5 (F : Nat) (p0 : Int32) (p1 : Int32) (g : Mem) (k1 : Int32) (k2 : Int32) (s : Int32 × Int32) : Option ((Int32 × Int32) ⊕ ((Int32))) := if (g 54 26) ≤ s.2 then some (.inr s.1) else (sp_Model_isOfKind s.2 0 k1 g).bind fun v2 => if v2 = 0 then some (.inl (s.1, s.2 + 1)) else (sp_Model_of s.2 4 g).bind fun v4 => if v4 = k2 then (sp_Model_of s.2 1 g).bind fun v6 => some (.inl (s.1 ||| (1 <<< (v6 &&& 31)), s.2 + 1)) else some (.inl (s.1, s.2 + 1))
theorem kl_Model_believers_5 {γ : GG} {tt : Bool} {F : Nat} {p0 : Int32} {p1 : Int32} {g : Mem} {k1 : Int32} {k2 : Int32} {b : Nat × Nat} {Φ : PO} : ∀ (s : Int32 × Int32) (r : (Int32 × Int32) ⊕ ((Int32))), st_Model_believers_5 F p0 p1 g k1 k2 s = some r → RQ (PL_Model_believers_5 γ tt p0 p1 g k1 k2 b Φ) (QL_Model_believers_5 γ tt p0 p1 g k1 k2 b Φ) r → PL_Model_believers_5 γ tt p0 p1 g k1 k2 b Φ s := by
  intro s r h hr
  unfold st_Model_believers_5 at h
  unfold PL_Model_believers_5
  refine w_iload (q := 7) d_Model_believers_5 rfl rfl ?_
  refine w_aload_n (q := 8) d_Model_believers_7 rfl rfl ?_
  refine w_get (q := 11) (ci := 12) (j := 26) d_Model_believers_8 rfl (by decide) fl_Model_121 (by decide) (by decide) s_54 rfl rfl ?_
  by_cases c1 : (g 54 26) ≤ s.2
  · rw [if_pos c1] at h
    refine w_icmp_ge_t (q := 54) d_Model_believers_11 rfl c1 ?_
    cases h
    exact w_ls (by exact (And.intro rfl trivial)) hr
  · rw [if_neg c1] at h
    refine w_icmp_ge_f (q := 14) d_Model_believers_11 54 rfl rfl c1 ?_
    refine w_aload_n (q := 15) d_Model_believers_14 rfl rfl ?_
    refine w_iload (q := 17) d_Model_believers_15 rfl rfl ?_
    refine w_iconst (q := 18) (v := 0) d_Model_believers_17 rfl (by decide) ?_
    refine w_iload_n (q := 19) d_Model_believers_18 rfl rfl ?_
    obtain ⟨v2, hv, h⟩ := bnd h
    refine w_callVi (q := 22) (M' := M_Model_isOfKind) (n' := 2) (k := 54) (As := [.int s.2, .int 0, .int k1]) (sh' := SH) (b1 := (0, 0)) d_Model_believers_19 rfl mw_Model_isOfKind (by decide) (by decide) ml_Model_396 (by decide) s_54 (by decide) rfl rfl rfl (leb rfl) (bz _) (fun _ => rfl) (ok_Model_isOfKind hv) ?_
    by_cases c3 : v2 = 0
    · rw [if_pos c3] at h
      refine w_if_eq_t (q := 48) d_Model_believers_22 rfl c3 ?_
      refine w_iinc (q := 51) (ls' := [some (.ref 54), some (.int k1), some (.int k2), some (.int s.1), some (.int (s.2 + 1))]) d_Model_believers_48 rfl (by decide) rfl rfl rfl ?_
      refine w_goto (q := 5) d_Model_believers_51 rfl ?_
      cases h
      exact w_ls (by exact (And.intro rfl (And.intro rfl (And.intro rfl (And.intro rfl (And.intro rfl trivial)))))) hr
    · rw [if_neg c3] at h
      refine w_if_eq_f (q := 25) d_Model_believers_22 48 rfl rfl c3 ?_
      refine w_aload_n (q := 26) d_Model_believers_25 rfl rfl ?_
      refine w_iload (q := 28) d_Model_believers_26 rfl rfl ?_
      refine w_iconst (q := 29) (v := 4) d_Model_believers_28 rfl (by decide) ?_
      obtain ⟨v4, hv, h⟩ := bnd h
      refine w_callVi (q := 32) (M' := M_Model_of) (n' := 0) (k := 54) (As := [.int s.2, .int 4]) (sh' := SH) (b1 := (0, 0)) d_Model_believers_29 rfl mw_Model_of (by decide) (by decide) ml_Model_305 (by decide) s_54 (by decide) rfl rfl rfl (leb rfl) (bz _) (fun _ => rfl) (ok_Model_of hv) ?_
      refine w_iload_n (q := 33) d_Model_believers_32 rfl rfl ?_
      by_cases c5 : v4 = k2
      · rw [if_pos c5] at h
        refine w_icmp_ne_f (q := 36) d_Model_believers_33 48 rfl rfl c5 ?_
        refine w_iload_n (q := 37) d_Model_believers_36 rfl rfl ?_
        refine w_iconst (q := 38) (v := 1) d_Model_believers_37 rfl (by decide) ?_
        refine w_aload_n (q := 39) d_Model_believers_38 rfl rfl ?_
        refine w_iload (q := 41) d_Model_believers_39 rfl rfl ?_
        refine w_iconst (q := 42) (v := 1) d_Model_believers_41 rfl (by decide) ?_
        obtain ⟨v6, hv, h⟩ := bnd h
        refine w_callVi (q := 45) (M' := M_Model_of) (n' := 0) (k := 54) (As := [.int s.2, .int 1]) (sh' := SH) (b1 := (0, 0)) d_Model_believers_42 rfl mw_Model_of (by decide) (by decide) ml_Model_305 (by decide) s_54 (by decide) rfl rfl rfl (leb rfl) (bz _) (fun _ => rfl) (ok_Model_of hv) ?_
        refine w_ishl (q := 46) d_Model_believers_45 rfl ?_
        refine w_ior (q := 47) d_Model_believers_46 rfl ?_
        refine w_istore_n (q := 48) (ls' := [some (.ref 54), some (.int k1), some (.int k2), some (.int (s.1 ||| (1 <<< (v6 &&& 31)))), some (.int s.2)]) d_Model_believers_47 rfl (by decide) rfl rfl ?_
        refine w_iinc (q := 51) (ls' := [some (.ref 54), some (.int k1), some (.int k2), some (.int (s.1 ||| (1 <<< (v6 &&& 31)))), some (.int (s.2 + 1))]) d_Model_believers_48 rfl (by decide) rfl rfl rfl ?_
        refine w_goto (q := 5) d_Model_believers_51 rfl ?_
        cases h
        exact w_ls (by exact (And.intro rfl (And.intro rfl (And.intro rfl (And.intro rfl (And.intro rfl trivial)))))) hr
      · rw [if_neg c5] at h
        refine w_icmp_ne_t (q := 48) d_Model_believers_33 rfl c5 ?_
        refine w_iinc (q := 51) (ls' := [some (.ref 54), some (.int k1), some (.int k2), some (.int s.1), some (.int (s.2 + 1))]) d_Model_believers_48 rfl (by decide) rfl rfl rfl ?_
        refine w_goto (q := 5) d_Model_believers_51 rfl ?_
        cases h
        exact w_ls (by exact (And.intro rfl (And.intro rfl (And.intro rfl (And.intro rfl (And.intro rfl trivial)))))) hr
def sp_Model_believers (F : Nat) (p0 : Int32) (p1 : Int32) (g : Mem) : Option (Int32) := (lpO (st_Model_believers_5 F p0 p1 g p0 p1) F (0, 0)).bind fun x7 => (sp_Model_bitsOf F x7 g).bind fun v8 => some v8
theorem ok_Model_believers {γ : GG} {tt : Bool} {F : Nat} {p0 : Int32} {p1 : Int32} {g : Mem} {res : Int32} (h : sp_Model_believers F p0 p1 g = some res) : CA γ M_Model_believers 3 [.ref 54, .int p0, .int p1] SH g tt (0, 0) (pI SH res g tt) := by
  refine CA.of mw_Model_believers.1 2 rfl ?_
  show WA γ M_Model_believers 3 0 [some (.ref 54), some (.int p0), some (.int p1), none, none] [] SH g tt (0, 0) (pI SH res g tt)
  unfold sp_Model_believers at h
  refine w_iconst (q := 1) (v := 0) d_Model_believers_0 rfl (by decide) ?_
  refine w_istore_n (q := 2) (ls' := [some (.ref 54), some (.int p0), some (.int p1), some (.int 0), none]) d_Model_believers_1 rfl (by decide) rfl rfl ?_
  refine w_iconst (q := 3) (v := 0) d_Model_believers_2 rfl (by decide) ?_
  refine w_istore (q := 5) (ls' := [some (.ref 54), some (.int p0), some (.int p1), some (.int 0), some (.int 0)]) d_Model_believers_3 rfl (by decide) rfl rfl ?_
  obtain ⟨x7, hx, h⟩ := bnd h
  refine w_ls (ls' := [some (.ref 54), some (.int p0), some (.int p1), some (.int 0), some (.int 0)]) (And.intro rfl (And.intro rfl (And.intro rfl (And.intro rfl (And.intro rfl trivial))))) ?_
  show PL_Model_believers_5 γ tt p0 p1 g p0 p1 _ _ (0, 0)
  refine lp_ok (kl_Model_believers_5) F _ x7 hx ?_
  unfold QL_Model_believers_5
  refine w_iload_n (q := 55) d_Model_believers_54 rfl rfl ?_
  obtain ⟨v8, hv, h⟩ := bnd h
  refine w_callSi (q := 58) (M' := M_Model_bitsOf) (n' := 0) (As := [.int x7]) (sh' := SH) (b1 := (0, 0)) d_Model_believers_55 rfl mw_Model_bitsOf (by decide) (by decide) ml_Model_332 rfl rfl (leb rfl) (bz _) (fun _ => rfl) (ok_Model_bitsOf hv) ?_
  cases h
  exact w_ireturn d_Model_believers_58 rfl rfl ⟨rfl, rfl, rfl, rfl⟩
def PL_Model_believed_25 (γ : GG) (tt : Bool) (p0 : Int32) (g : Mem) (k1 : Int32) (m0 : Mem) (b : Nat × Nat) (Φ : PO) (s : Int32 × Int32 × Int32) : Prop := WA γ M_Model_believed 4 25 [some (.ref 54), some (.int k1), some (.int s.1), some (.int s.2.1), some (.int s.2.2), none, none] [] SH m0 tt b Φ
def QL_Model_believed_25 (γ : GG) (tt : Bool) (p0 : Int32) (g : Mem) (k1 : Int32) (m0 : Mem) (b : Nat × Nat) (Φ : PO) (x : (Int32)) : Prop := WA γ M_Model_believed 4 99 [none, none, some (.int x), none, none, none, none] [] SH m0 tt b Φ
def st_Model_believed_25 (F : Nat) (p0 : Int32) (g : Mem) (k1 : Int32) (m0 : Mem) (s : Int32 × Int32 × Int32) : Option ((Int32 × Int32 × Int32) ⊕ ((Int32))) := if (m0 54 26) ≤ s.2.2 then some (.inr s.1) else (sp_Model_isOfKind s.2.2 0 k1 m0).bind fun v5 => if v5 = 0 then some (.inl (s.1, s.2.1, s.2.2 + 1)) else (sp_Model_of s.2.2 4 m0).bind fun v7 => (sp_Model_believers F k1 v7 m0).bind fun v8 => if v8 < s.2.1 then some (.inl (s.1, s.2.1, s.2.2 + 1)) else if v8 = s.2.1 then if v7 < s.1 then some (.inl (v7, v8, s.2.2 + 1)) else some (.inl (s.1, s.2.1, s.2.2 + 1)) else some (.inl (v7, v8, s.2.2 + 1))
theorem kl_Model_believed_25 {γ : GG} {tt : Bool} {F : Nat} {p0 : Int32} {g : Mem} {k1 : Int32} {m0 : Mem} {b : Nat × Nat} {Φ : PO} : ∀ (s : Int32 × Int32 × Int32) (r : (Int32 × Int32 × Int32) ⊕ ((Int32))), st_Model_believed_25 F p0 g k1 m0 s = some r → RQ (PL_Model_believed_25 γ tt p0 g k1 m0 b Φ) (QL_Model_believed_25 γ tt p0 g k1 m0 b Φ) r → PL_Model_believed_25 γ tt p0 g k1 m0 b Φ s := by
  intro s r h hr
  unfold st_Model_believed_25 at h
  unfold PL_Model_believed_25
  refine w_iload (q := 27) d_Model_believed_25 rfl rfl ?_
  refine w_aload_n (q := 28) d_Model_believed_27 rfl rfl ?_
  refine w_get (q := 31) (ci := 12) (j := 26) d_Model_believed_28 rfl (by decide) fl_Model_121 (by decide) (by decide) s_54 rfl rfl ?_
  by_cases c4 : (m0 54 26) ≤ s.2.2
  · rw [if_pos c4] at h
    refine w_icmp_ge_t (q := 99) d_Model_believed_31 rfl c4 ?_
    cases h
    exact w_ls (by exact (And.intro rfl trivial)) hr
  · rw [if_neg c4] at h
    refine w_icmp_ge_f (q := 34) d_Model_believed_31 99 rfl rfl c4 ?_
    refine w_aload_n (q := 35) d_Model_believed_34 rfl rfl ?_
    refine w_iload (q := 37) d_Model_believed_35 rfl rfl ?_
    refine w_iconst (q := 38) (v := 0) d_Model_believed_37 rfl (by decide) ?_
    refine w_iload_n (q := 39) d_Model_believed_38 rfl rfl ?_
    obtain ⟨v5, hv, h⟩ := bnd h
    refine w_callVi (q := 42) (M' := M_Model_isOfKind) (n' := 2) (k := 54) (As := [.int s.2.2, .int 0, .int k1]) (sh' := SH) (b1 := (0, 0)) d_Model_believed_39 rfl mw_Model_isOfKind (by decide) (by decide) ml_Model_396 (by decide) s_54 (by decide) rfl rfl rfl (leb rfl) (bz _) (fun _ => rfl) (ok_Model_isOfKind hv) ?_
    by_cases c6 : v5 = 0
    · rw [if_pos c6] at h
      refine w_if_ne_f (q := 45) d_Model_believed_42 48 rfl rfl c6 ?_
      refine w_goto (q := 93) d_Model_believed_45 rfl ?_
      refine w_iinc (q := 96) (ls' := [some (.ref 54), some (.int k1), some (.int s.1), some (.int s.2.1), some (.int (s.2.2 + 1)), none, none]) d_Model_believed_93 rfl (by decide) rfl rfl rfl ?_
      refine w_goto (q := 25) d_Model_believed_96 rfl ?_
      cases h
      exact w_ls (by exact (And.intro rfl (And.intro rfl (And.intro rfl (And.intro rfl (And.intro rfl trivial)))))) hr
    · rw [if_neg c6] at h
      refine w_if_ne_t (q := 48) d_Model_believed_42 rfl c6 ?_
      refine w_aload_n (q := 49) d_Model_believed_48 rfl rfl ?_
      refine w_iload (q := 51) d_Model_believed_49 rfl rfl ?_
      refine w_iconst (q := 52) (v := 4) d_Model_believed_51 rfl (by decide) ?_
      obtain ⟨v7, hv, h⟩ := bnd h
      refine w_callVi (q := 55) (M' := M_Model_of) (n' := 0) (k := 54) (As := [.int s.2.2, .int 4]) (sh' := SH) (b1 := (0, 0)) d_Model_believed_52 rfl mw_Model_of (by decide) (by decide) ml_Model_305 (by decide) s_54 (by decide) rfl rfl rfl (leb rfl) (bz _) (fun _ => rfl) (ok_Model_of hv) ?_
      refine w_istore (q := 57) (ls' := [some (.ref 54), some (.int k1), some (.int s.1), some (.int s.2.1), some (.int s.2.2), some (.int v7), none]) d_Model_believed_55 rfl (by decide) rfl rfl ?_
      refine w_aload_n (q := 58) d_Model_believed_57 rfl rfl ?_
      refine w_iload_n (q := 59) d_Model_believed_58 rfl rfl ?_
      refine w_iload (q := 61) d_Model_believed_59 rfl rfl ?_
      obtain ⟨v8, hv, h⟩ := bnd h
      refine w_callVi (q := 64) (M' := M_Model_believers) (n' := 3) (k := 54) (As := [.int k1, .int v7]) (sh' := SH) (b1 := (0, 0)) d_Model_believed_61 rfl mw_Model_believers (by decide) (by decide) ml_Model_423 (by decide) s_54 (by decide) rfl rfl rfl (leb rfl) (bz _) (fun _ => rfl) (ok_Model_believers hv) ?_
      refine w_istore (q := 66) (ls' := [some (.ref 54), some (.int k1), some (.int s.1), some (.int s.2.1), some (.int s.2.2), some (.int v7), some (.int v8)]) d_Model_believed_64 rfl (by decide) rfl rfl ?_
      refine w_iload (q := 68) d_Model_believed_66 rfl rfl ?_
      refine w_iload_n (q := 69) d_Model_believed_68 rfl rfl ?_
      by_cases c9 : v8 < s.2.1
      · rw [if_pos c9] at h
        refine w_icmp_lt_t (q := 93) d_Model_believed_69 rfl c9 ?_
        refine w_iinc (q := 96) (ls' := [some (.ref 54), some (.int k1), some (.int s.1), some (.int s.2.1), some (.int (s.2.2 + 1)), some (.int v7), some (.int v8)]) d_Model_believed_93 rfl (by decide) rfl rfl rfl ?_
        refine w_goto (q := 25) d_Model_believed_96 rfl ?_
        cases h
        exact w_ls (by exact (And.intro rfl (And.intro rfl (And.intro rfl (And.intro rfl (And.intro rfl trivial)))))) hr
      · rw [if_neg c9] at h
        refine w_icmp_lt_f (q := 72) d_Model_believed_69 93 rfl rfl c9 ?_
        refine w_iload (q := 74) d_Model_believed_72 rfl rfl ?_
        refine w_iload_n (q := 75) d_Model_believed_74 rfl rfl ?_
        by_cases c10 : v8 = s.2.1
        · rw [if_pos c10] at h
          refine w_icmp_ne_f (q := 78) d_Model_believed_75 87 rfl rfl c10 ?_
          refine w_iload (q := 80) d_Model_believed_78 rfl rfl ?_
          refine w_iload_n (q := 81) d_Model_believed_80 rfl rfl ?_
          by_cases c11 : v7 < s.1
          · rw [if_pos c11] at h
            refine w_icmp_lt_t (q := 87) d_Model_believed_81 rfl c11 ?_
            refine w_iload (q := 89) d_Model_believed_87 rfl rfl ?_
            refine w_istore_n (q := 90) (ls' := [some (.ref 54), some (.int k1), some (.int v7), some (.int s.2.1), some (.int s.2.2), some (.int v7), some (.int v8)]) d_Model_believed_89 rfl (by decide) rfl rfl ?_
            refine w_iload (q := 92) d_Model_believed_90 rfl rfl ?_
            refine w_istore_n (q := 93) (ls' := [some (.ref 54), some (.int k1), some (.int v7), some (.int v8), some (.int s.2.2), some (.int v7), some (.int v8)]) d_Model_believed_92 rfl (by decide) rfl rfl ?_
            refine w_iinc (q := 96) (ls' := [some (.ref 54), some (.int k1), some (.int v7), some (.int v8), some (.int (s.2.2 + 1)), some (.int v7), some (.int v8)]) d_Model_believed_93 rfl (by decide) rfl rfl rfl ?_
            refine w_goto (q := 25) d_Model_believed_96 rfl ?_
            cases h
            exact w_ls (by exact (And.intro rfl (And.intro rfl (And.intro rfl (And.intro rfl (And.intro rfl trivial)))))) hr
          · rw [if_neg c11] at h
            refine w_icmp_lt_f (q := 84) d_Model_believed_81 87 rfl rfl c11 ?_
            refine w_goto (q := 93) d_Model_believed_84 rfl ?_
            refine w_iinc (q := 96) (ls' := [some (.ref 54), some (.int k1), some (.int s.1), some (.int s.2.1), some (.int (s.2.2 + 1)), some (.int v7), some (.int v8)]) d_Model_believed_93 rfl (by decide) rfl rfl rfl ?_
            refine w_goto (q := 25) d_Model_believed_96 rfl ?_
            cases h
            exact w_ls (by exact (And.intro rfl (And.intro rfl (And.intro rfl (And.intro rfl (And.intro rfl trivial)))))) hr
        · rw [if_neg c10] at h
          refine w_icmp_ne_t (q := 87) d_Model_believed_75 rfl c10 ?_
          refine w_iload (q := 89) d_Model_believed_87 rfl rfl ?_
          refine w_istore_n (q := 90) (ls' := [some (.ref 54), some (.int k1), some (.int v7), some (.int s.2.1), some (.int s.2.2), some (.int v7), some (.int v8)]) d_Model_believed_89 rfl (by decide) rfl rfl ?_
          refine w_iload (q := 92) d_Model_believed_90 rfl rfl ?_
          refine w_istore_n (q := 93) (ls' := [some (.ref 54), some (.int k1), some (.int v7), some (.int v8), some (.int s.2.2), some (.int v7), some (.int v8)]) d_Model_believed_92 rfl (by decide) rfl rfl ?_
          refine w_iinc (q := 96) (ls' := [some (.ref 54), some (.int k1), some (.int v7), some (.int v8), some (.int (s.2.2 + 1)), some (.int v7), some (.int v8)]) d_Model_believed_93 rfl (by decide) rfl rfl rfl ?_
          refine w_goto (q := 25) d_Model_believed_96 rfl ?_
          cases h
          exact w_ls (by exact (And.intro rfl (And.intro rfl (And.intro rfl (And.intro rfl (And.intro rfl trivial)))))) hr
def sp_Model_believed (F : Nat) (p0 : Int32) (g : Mem) : Option (Int32 × Mem) := (sp_Model_isAbout p0 (mset g 54 3 0)).bind fun v1 => if v1 = 0 then (sp_Model_fail 1 (mset g 54 3 0)).bind fun v3 => some (v3.1, v3.2) else (lpO (st_Model_believed_25 F p0 g p0 (mset g 54 3 0)) F ((-1), 0, 0)).bind fun x12 => some (x12, (mset g 54 3 0))
theorem ok_Model_believed {γ : GG} {tt : Bool} {F : Nat} {p0 : Int32} {g : Mem} {res : Int32 × Mem} (h : sp_Model_believed F p0 g = some res) : CA γ M_Model_believed 4 [.ref 54, .int p0] SH g tt (0, 0) (pI SH res.1 res.2 tt) := by
  refine CA.of mw_Model_believed.1 5 rfl ?_
  show WA γ M_Model_believed 4 0 [some (.ref 54), some (.int p0), none, none, none, none, none] [] SH g tt (0, 0) (pI SH res.1 res.2 tt)
  unfold sp_Model_believed at h
  refine w_aload_n (q := 1) d_Model_believed_0 rfl rfl ?_
  refine w_iconst (q := 2) (v := 0) d_Model_believed_1 rfl (by decide) ?_
  refine w_put (q := 5) (ci := 12) (j := 3) d_Model_believed_2 rfl (by decide) fl_Model_114 (by decide) (by decide) s_54 rfl rfl rfl rfl rfl rfl ?_
  refine w_iload_n (q := 6) d_Model_believed_5 rfl rfl ?_
  obtain ⟨v1, hv, h⟩ := bnd h
  refine w_callSi (q := 9) (M' := M_Model_isAbout) (n' := 1) (As := [.int p0]) (sh' := SH) (b1 := (0, 0)) d_Model_believed_6 rfl mw_Model_isAbout (by decide) (by decide) ml_Model_376 rfl rfl (leb rfl) (bz _) (fun _ => rfl) (ok_Model_isAbout hv) ?_
  by_cases c2 : v1 = 0
  · rw [if_pos c2] at h
    refine w_if_ne_f (q := 12) d_Model_believed_9 18 rfl rfl c2 ?_
    refine w_aload_n (q := 13) d_Model_believed_12 rfl rfl ?_
    refine w_iconst (q := 14) (v := 1) d_Model_believed_13 rfl (by decide) ?_
    obtain ⟨v3, hv, h⟩ := bnd h
    refine w_callVi (q := 17) (M' := M_Model_fail) (n' := 0) (k := 54) (As := [.int 1]) (sh' := SH) (b1 := (0, 0)) d_Model_believed_14 rfl mw_Model_fail (by decide) (by decide) ml_Model_273 (by decide) s_54 (by decide) rfl rfl rfl (leb rfl) (bz _) (fun _ => rfl) (ok_Model_fail hv) ?_
    cases h
    exact w_ireturn d_Model_believed_17 rfl rfl ⟨rfl, rfl, rfl, rfl⟩
  · rw [if_neg c2] at h
    refine w_if_ne_t (q := 18) d_Model_believed_9 rfl c2 ?_
    refine w_iconst (q := 19) (v := (-1)) d_Model_believed_18 rfl (by decide) ?_
    refine w_istore_n (q := 20) (ls' := [some (.ref 54), some (.int p0), some (.int ((-1))), none, none, none, none]) d_Model_believed_19 rfl (by decide) rfl rfl ?_
    refine w_iconst (q := 21) (v := 0) d_Model_believed_20 rfl (by decide) ?_
    refine w_istore_n (q := 22) (ls' := [some (.ref 54), some (.int p0), some (.int ((-1))), some (.int 0), none, none, none]) d_Model_believed_21 rfl (by decide) rfl rfl ?_
    refine w_iconst (q := 23) (v := 0) d_Model_believed_22 rfl (by decide) ?_
    refine w_istore (q := 25) (ls' := [some (.ref 54), some (.int p0), some (.int ((-1))), some (.int 0), some (.int 0), none, none]) d_Model_believed_23 rfl (by decide) rfl rfl ?_
    obtain ⟨x12, hx, h⟩ := bnd h
    refine w_ls (ls' := [some (.ref 54), some (.int p0), some (.int ((-1))), some (.int 0), some (.int 0), none, none]) (And.intro rfl (And.intro rfl (And.intro rfl (And.intro rfl (And.intro rfl trivial))))) ?_
    show PL_Model_believed_25 γ tt p0 g p0 (mset g 54 3 0) _ _ ((-1), 0, 0)
    refine lp_ok (kl_Model_believed_25) F _ x12 hx ?_
    unfold QL_Model_believed_25
    refine w_iload_n (q := 100) d_Model_believed_99 rfl rfl ?_
    cases h
    exact w_ireturn d_Model_believed_100 rfl rfl ⟨rfl, rfl, rfl, rfl⟩
def sp_Model_until (p0 : Int32) (g : Mem) : Option (Int32 × Mem) := (sp_Model_isEntry p0 (mset g 54 3 0)).bind fun v1 => if v1 = 0 then (sp_Model_fail 1 (mset g 54 3 0)).bind fun v3 => some (v3.1, v3.2) else (sp_Model_of p0 1 (mset g 54 3 0)).bind fun v4 => (sp_Model_isThere p0 (mset g 54 3 0)).bind fun v5 => if v5 = 0 then some ((-1), (mset g 54 3 0)) else (sp_Model_isOf ((mset g 54 3 0) 54 25) v4 (mset g 54 3 0)).bind fun v7 => if v7 = 0 then (rd (mset g 54 3 0) 59 12 v4).bind fun v9 => (rd (mset g 54 3 0) 58 12 1).bind fun v10 => (sp_Model_mayHave v9 v10 (mset g 54 3 0)).bind fun v11 => (sp_Model_old p0 (mset g 54 3 0)).bind fun v12 => some (v11 - v12, (mset g 54 3 0)) else some ((-2), (mset g 54 3 0))
theorem ok_Model_until {γ : GG} {tt : Bool} {p0 : Int32} {g : Mem} {res : Int32 × Mem} (h : sp_Model_until p0 g = some res) : CA γ M_Model_until 3 [.ref 54, .int p0] SH g tt (0, 0) (pI SH res.1 res.2 tt) := by
  refine CA.of mw_Model_until.1 1 rfl ?_
  show WA γ M_Model_until 3 0 [some (.ref 54), some (.int p0), none] [] SH g tt (0, 0) (pI SH res.1 res.2 tt)
  unfold sp_Model_until at h
  refine w_aload_n (q := 1) d_Model_until_0 rfl rfl ?_
  refine w_iconst (q := 2) (v := 0) d_Model_until_1 rfl (by decide) ?_
  refine w_put (q := 5) (ci := 12) (j := 3) d_Model_until_2 rfl (by decide) fl_Model_114 (by decide) (by decide) s_54 rfl rfl rfl rfl rfl rfl ?_
  refine w_aload_n (q := 6) d_Model_until_5 rfl rfl ?_
  refine w_iload_n (q := 7) d_Model_until_6 rfl rfl ?_
  obtain ⟨v1, hv, h⟩ := bnd h
  refine w_callVi (q := 10) (M' := M_Model_isEntry) (n' := 1) (k := 54) (As := [.int p0]) (sh' := SH) (b1 := (0, 0)) d_Model_until_7 rfl mw_Model_isEntry (by decide) (by decide) ml_Model_341 (by decide) s_54 (by decide) rfl rfl rfl (leb rfl) (bz _) (fun _ => rfl) (ok_Model_isEntry hv) ?_
  by_cases c2 : v1 = 0
  · rw [if_pos c2] at h
    refine w_if_ne_f (q := 13) d_Model_until_10 19 rfl rfl c2 ?_
    refine w_aload_n (q := 14) d_Model_until_13 rfl rfl ?_
    refine w_iconst (q := 15) (v := 1) d_Model_until_14 rfl (by decide) ?_
    obtain ⟨v3, hv, h⟩ := bnd h
    refine w_callVi (q := 18) (M' := M_Model_fail) (n' := 0) (k := 54) (As := [.int 1]) (sh' := SH) (b1 := (0, 0)) d_Model_until_15 rfl mw_Model_fail (by decide) (by decide) ml_Model_273 (by decide) s_54 (by decide) rfl rfl rfl (leb rfl) (bz _) (fun _ => rfl) (ok_Model_fail hv) ?_
    cases h
    exact w_ireturn d_Model_until_18 rfl rfl ⟨rfl, rfl, rfl, rfl⟩
  · rw [if_neg c2] at h
    refine w_if_ne_t (q := 19) d_Model_until_10 rfl c2 ?_
    refine w_aload_n (q := 20) d_Model_until_19 rfl rfl ?_
    refine w_iload_n (q := 21) d_Model_until_20 rfl rfl ?_
    refine w_iconst (q := 22) (v := 1) d_Model_until_21 rfl (by decide) ?_
    obtain ⟨v4, hv, h⟩ := bnd h
    refine w_callVi (q := 25) (M' := M_Model_of) (n' := 0) (k := 54) (As := [.int p0, .int 1]) (sh' := SH) (b1 := (0, 0)) d_Model_until_22 rfl mw_Model_of (by decide) (by decide) ml_Model_305 (by decide) s_54 (by decide) rfl rfl rfl (leb rfl) (bz _) (fun _ => rfl) (ok_Model_of hv) ?_
    refine w_istore_n (q := 26) (ls' := [some (.ref 54), some (.int p0), some (.int v4)]) d_Model_until_25 rfl (by decide) rfl rfl ?_
    refine w_aload_n (q := 27) d_Model_until_26 rfl rfl ?_
    refine w_iload_n (q := 28) d_Model_until_27 rfl rfl ?_
    obtain ⟨v5, hv, h⟩ := bnd h
    refine w_callVi (q := 31) (M' := M_Model_isThere) (n' := 1) (k := 54) (As := [.int p0]) (sh' := SH) (b1 := (0, 0)) d_Model_until_28 rfl mw_Model_isThere (by decide) (by decide) ml_Model_315 (by decide) s_54 (by decide) rfl rfl rfl (leb rfl) (bz _) (fun _ => rfl) (ok_Model_isThere hv) ?_
    by_cases c6 : v5 = 0
    · rw [if_pos c6] at h
      refine w_if_ne_f (q := 34) d_Model_until_31 38 rfl rfl c6 ?_
      refine w_iconst (q := 35) (v := (-1)) d_Model_until_34 rfl (by decide) ?_
      refine w_goto (q := 75) d_Model_until_35 rfl ?_
      cases h
      exact w_ireturn d_Model_until_75 rfl rfl ⟨rfl, rfl, rfl, rfl⟩
    · rw [if_neg c6] at h
      refine w_if_ne_t (q := 38) d_Model_until_31 rfl c6 ?_
      refine w_aload_n (q := 39) d_Model_until_38 rfl rfl ?_
      refine w_get (q := 42) (ci := 12) (j := 25) d_Model_until_39 rfl (by decide) fl_Model_289 (by decide) (by decide) s_54 rfl rfl ?_
      refine w_iload_n (q := 43) d_Model_until_42 rfl rfl ?_
      obtain ⟨v7, hv, h⟩ := bnd h
      refine w_callSi (q := 46) (M' := M_Model_isOf) (n' := 0) (As := [.int ((mset g 54 3 0) 54 25), .int v4]) (sh' := SH) (b1 := (0, 0)) d_Model_until_43 rfl mw_Model_isOf (by decide) (by decide) ml_Model_308 rfl rfl (leb rfl) (bz _) (fun _ => rfl) (ok_Model_isOf hv) ?_
      by_cases c8 : v7 = 0
      · rw [if_pos c8] at h
        refine w_if_eq_t (q := 54) d_Model_until_46 rfl c8 ?_
        refine w_aload_n (q := 55) d_Model_until_54 rfl rfl ?_
        refine w_get (q := 58) (ci := 12) (j := 5) d_Model_until_55 rfl (by decide) fl_Model_55 (by decide) (by decide) s_54 rfl rfl ?_
        refine w_iload_n (q := 59) d_Model_until_58 rfl rfl ?_
        obtain ⟨v9, hv, h⟩ := bnd h
        obtain ⟨hi, hv⟩ := rd_ok hv
        refine w_iald (q := 60) (t := 0) d_Model_until_59 rfl a_59.2 a_59.1 hi rfl ?_
        rw [hv]
        refine w_aload_n (q := 61) d_Model_until_60 rfl rfl ?_
        refine w_get (q := 64) (ci := 12) (j := 4) d_Model_until_61 rfl (by decide) fl_Model_51 (by decide) (by decide) s_54 rfl rfl ?_
        refine w_iconst (q := 65) (v := 1) d_Model_until_64 rfl (by decide) ?_
        obtain ⟨v10, hv, h⟩ := bnd h
        obtain ⟨hi, hv⟩ := rd_ok hv
        refine w_iald (q := 66) (t := 0) d_Model_until_65 rfl a_58.2 a_58.1 hi rfl ?_
        rw [hv]
        obtain ⟨v11, hv, h⟩ := bnd h
        refine w_callSi (q := 69) (M' := M_Model_mayHave) (n' := 1) (As := [.int v9, .int v10]) (sh' := SH) (b1 := (0, 0)) d_Model_until_66 rfl mw_Model_mayHave (by decide) (by decide) ml_Model_239 rfl rfl (leb rfl) (bz _) (fun _ => rfl) (ok_Model_mayHave hv) ?_
        refine w_aload_n (q := 70) d_Model_until_69 rfl rfl ?_
        refine w_iload_n (q := 71) d_Model_until_70 rfl rfl ?_
        obtain ⟨v12, hv, h⟩ := bnd h
        refine w_callVi (q := 74) (M' := M_Model_old) (n' := 2) (k := 54) (As := [.int p0]) (sh' := SH) (b1 := (0, 0)) d_Model_until_71 rfl mw_Model_old (by decide) (by decide) ml_Model_318 (by decide) s_54 (by decide) rfl rfl rfl (leb rfl) (bz _) (fun _ => rfl) (ok_Model_old hv) ?_
        refine w_isub (q := 75) d_Model_until_74 rfl ?_
        cases h
        exact w_ireturn d_Model_until_75 rfl rfl ⟨rfl, rfl, rfl, rfl⟩
      · rw [if_neg c8] at h
        refine w_if_eq_f (q := 49) d_Model_until_46 54 rfl rfl c8 ?_
        refine w_bipush (q := 51) (v := (-2)) d_Model_until_49 rfl (by decide) ?_
        refine w_goto (q := 75) d_Model_until_51 rfl ?_
        cases h
        exact w_ireturn d_Model_until_75 rfl rfl ⟨rfl, rfl, rfl, rfl⟩
def PL_Model_doomed_39 (γ : GG) (tt : Bool) (p0 : Int32) (g : Mem) (k1 : Int32) (k2 : Int32) (b : Nat × Nat) (Φ : PO) (s : Int32 × Mem) : Prop := WA γ M_Model_doomed 5 39 [some (.ref 54), some (.int k1), some (.int k2), some (.int s.1)] [] SH s.2 tt b Φ
def QL_Model_doomed_39 (γ : GG) (tt : Bool) (p0 : Int32) (g : Mem) (k1 : Int32) (k2 : Int32) (b : Nat × Nat) (Φ : PO) (x : (Mem)) : Prop := WA γ M_Model_doomed 5 54 [some (.ref 54), none, some (.int k2), none] [] SH x tt b Φ
def st_Model_doomed_39 (F : Nat) (p0 : Int32) (g : Mem) (k1 : Int32) (k2 : Int32) (s : Int32 × Mem) : Option ((Int32 × Mem) ⊕ ((Mem))) := if k1 ≤ s.1 then some (.inr s.2) else (sp_Model_yearGoes F s.2).bind fun v7 => some (.inl (s.1 + 1, v7))
theorem kl_Model_doomed_39 {γ : GG} {tt : Bool} {F : Nat} {p0 : Int32} {g : Mem} {k1 : Int32} {k2 : Int32} {b : Nat × Nat} {Φ : PO} : ∀ (s : Int32 × Mem) (r : (Int32 × Mem) ⊕ ((Mem))), st_Model_doomed_39 F p0 g k1 k2 s = some r → RQ (PL_Model_doomed_39 γ tt p0 g k1 k2 b Φ) (QL_Model_doomed_39 γ tt p0 g k1 k2 b Φ) r → PL_Model_doomed_39 γ tt p0 g k1 k2 b Φ s := by
  intro s r h hr
  unfold st_Model_doomed_39 at h
  unfold PL_Model_doomed_39
  refine w_iload_n (q := 40) d_Model_doomed_39 rfl rfl ?_
  refine w_iload_n (q := 41) d_Model_doomed_40 rfl rfl ?_
  by_cases c6 : k1 ≤ s.1
  · rw [if_pos c6] at h
    refine w_icmp_ge_t (q := 54) d_Model_doomed_41 rfl c6 ?_
    cases h
    exact w_ls (by exact (And.intro rfl (And.intro rfl trivial))) hr
  · rw [if_neg c6] at h
    refine w_icmp_ge_f (q := 44) d_Model_doomed_41 54 rfl rfl c6 ?_
    refine w_aload_n (q := 45) d_Model_doomed_44 rfl rfl ?_
    obtain ⟨v7, hv, h⟩ := bnd h
    refine w_callVv (q := 48) (M' := M_Model_yearGoes) (n' := 4) (k := 54) (As := []) (sh' := SH) (b1 := (0, 0)) d_Model_doomed_45 rfl mw_Model_yearGoes (by decide) (by decide) ml_Model_371 (by decide) s_54 (by decide) rfl rfl rfl (leb rfl) (bz _) (fun _ => rfl) (ok_Model_yearGoes hv) ?_
    refine w_iinc (q := 51) (ls' := [some (.ref 54), some (.int k1), some (.int k2), some (.int (s.1 + 1))]) d_Model_doomed_48 rfl (by decide) rfl rfl rfl ?_
    refine w_goto (q := 39) d_Model_doomed_51 rfl ?_
    cases h
    exact w_ls (by exact (And.intro rfl (And.intro rfl (And.intro rfl (And.intro rfl trivial))))) hr
def sp_Model_doomed (F : Nat) (p0 : Int32) (g : Mem) : Option (Int32 × Mem) := (sp_Model_isIn p0.toInt64 0 60 (mset g 54 3 0)).bind fun v1 => if v1 = 0 then (sp_Model_fail 1 (mset g 54 3 0)).bind fun v3 => some (v3.1, v3.2) else (sp_Model_records F (mset g 54 3 0)).bind fun v4 => (sp_Model_pack F 70 231 0 (mset g 54 3 0)).bind fun v5 => (lpO (st_Model_doomed_39 F p0 g p0 v4) F (0, v5)).bind fun x8 => (sp_Model_records F x8).bind fun v9 => (sp_Model_unpack F 70 231 0 x8).bind fun v10 => (sp_Model_bitsOf F (v4 &&& (v9 ^^^ (-1))) v10).bind fun v11 => some (v11, v10)
theorem ok_Model_doomed {γ : GG} {tt : Bool} {F : Nat} {p0 : Int32} {g : Mem} {res : Int32 × Mem} (h : sp_Model_doomed F p0 g = some res) : CA γ M_Model_doomed 5 [.ref 54, .int p0] SH g tt (0, 0) (pI SH res.1 res.2 tt) := by
  refine CA.of mw_Model_doomed.1 2 rfl ?_
  show WA γ M_Model_doomed 5 0 [some (.ref 54), some (.int p0), none, none] [] SH g tt (0, 0) (pI SH res.1 res.2 tt)
  unfold sp_Model_doomed at h
  refine w_aload_n (q := 1) d_Model_doomed_0 rfl rfl ?_
  refine w_iconst (q := 2) (v := 0) d_Model_doomed_1 rfl (by decide) ?_
  refine w_put (q := 5) (ci := 12) (j := 3) d_Model_doomed_2 rfl (by decide) fl_Model_114 (by decide) (by decide) s_54 rfl rfl rfl rfl rfl rfl ?_
  refine w_iload_n (q := 6) d_Model_doomed_5 rfl rfl ?_
  refine w_i2l (q := 7) d_Model_doomed_6 rfl ?_
  refine w_lconst (q := 8) (v := 0) d_Model_doomed_7 rfl (by decide) ?_
  refine w_ldc2 (q := 11) d_Model_doomed_8 rfl lo_Model_388 ?_
  obtain ⟨v1, hv, h⟩ := bnd h
  refine w_callSi (q := 14) (M' := M_Model_isIn) (n' := 0) (As := [.long (p0.toInt64), .long (0), .long (60)]) (sh' := SH) (b1 := (0, 0)) d_Model_doomed_11 rfl mw_Model_isIn (by decide) (by decide) ml_Model_117 rfl rfl (leb rfl) (bz _) (fun _ => rfl) (ok_Model_isIn hv) ?_
  by_cases c2 : v1 = 0
  · rw [if_pos c2] at h
    refine w_if_ne_f (q := 17) d_Model_doomed_14 23 rfl rfl c2 ?_
    refine w_aload_n (q := 18) d_Model_doomed_17 rfl rfl ?_
    refine w_iconst (q := 19) (v := 1) d_Model_doomed_18 rfl (by decide) ?_
    obtain ⟨v3, hv, h⟩ := bnd h
    refine w_callVi (q := 22) (M' := M_Model_fail) (n' := 0) (k := 54) (As := [.int 1]) (sh' := SH) (b1 := (0, 0)) d_Model_doomed_19 rfl mw_Model_fail (by decide) (by decide) ml_Model_273 (by decide) s_54 (by decide) rfl rfl rfl (leb rfl) (bz _) (fun _ => rfl) (ok_Model_fail hv) ?_
    cases h
    exact w_ireturn d_Model_doomed_22 rfl rfl ⟨rfl, rfl, rfl, rfl⟩
  · rw [if_neg c2] at h
    refine w_if_ne_t (q := 23) d_Model_doomed_14 rfl c2 ?_
    refine w_aload_n (q := 24) d_Model_doomed_23 rfl rfl ?_
    obtain ⟨v4, hv, h⟩ := bnd h
    refine w_callVi (q := 27) (M' := M_Model_records) (n' := 2) (k := 54) (As := []) (sh' := SH) (b1 := (0, 0)) d_Model_doomed_24 rfl mw_Model_records (by decide) (by decide) ml_Model_329 (by decide) s_54 (by decide) rfl rfl rfl (leb rfl) (bz _) (fun _ => rfl) (ok_Model_records hv) ?_
    refine w_istore_n (q := 28) (ls' := [some (.ref 54), some (.int p0), some (.int v4), none]) d_Model_doomed_27 rfl (by decide) rfl rfl ?_
    refine w_aload_n (q := 29) d_Model_doomed_28 rfl rfl ?_
    refine w_aload_n (q := 30) d_Model_doomed_29 rfl rfl ?_
    refine w_get (q := 33) (ci := 12) (j := 31) d_Model_doomed_30 rfl (by decide) fl_Model_90 (by decide) (by decide) s_54 rfl rfl ?_
    refine w_iconst (q := 34) (v := 0) d_Model_doomed_33 rfl (by decide) ?_
    obtain ⟨v5, hv, h⟩ := bnd h
    refine w_callVv (q := 37) (M' := M_Model_pack) (n' := 0) (k := 54) (As := [.ref 70, .int 0]) (sh' := SH) (b1 := (0, 0)) d_Model_doomed_34 rfl mw_Model_pack (by decide) (by decide) ml_Model_359 (by decide) s_54 (by decide) rfl rfl rfl (leb rfl) (bz _) (fun _ => rfl) (ok_Model_pack a_70 hv) ?_
    refine w_iconst (q := 38) (v := 0) d_Model_doomed_37 rfl (by decide) ?_
    refine w_istore_n (q := 39) (ls' := [some (.ref 54), some (.int p0), some (.int v4), some (.int 0)]) d_Model_doomed_38 rfl (by decide) rfl rfl ?_
    obtain ⟨x8, hx, h⟩ := bnd h
    refine w_ls (ls' := [some (.ref 54), some (.int p0), some (.int v4), some (.int 0)]) (And.intro rfl (And.intro rfl (And.intro rfl (And.intro rfl trivial)))) ?_
    show PL_Model_doomed_39 γ tt p0 g p0 v4 _ _ (0, v5)
    refine lp_ok (kl_Model_doomed_39) F _ x8 hx ?_
    unfold QL_Model_doomed_39
    refine w_aload_n (q := 55) d_Model_doomed_54 rfl rfl ?_
    obtain ⟨v9, hv, h⟩ := bnd h
    refine w_callVi (q := 58) (M' := M_Model_records) (n' := 2) (k := 54) (As := []) (sh' := SH) (b1 := (0, 0)) d_Model_doomed_55 rfl mw_Model_records (by decide) (by decide) ml_Model_329 (by decide) s_54 (by decide) rfl rfl rfl (leb rfl) (bz _) (fun _ => rfl) (ok_Model_records hv) ?_
    refine w_istore_n (q := 59) (ls' := [some (.ref 54), none, some (.int v4), some (.int v9)]) d_Model_doomed_58 rfl (by decide) rfl rfl ?_
    refine w_aload_n (q := 60) d_Model_doomed_59 rfl rfl ?_
    refine w_aload_n (q := 61) d_Model_doomed_60 rfl rfl ?_
    refine w_get (q := 64) (ci := 12) (j := 31) d_Model_doomed_61 rfl (by decide) fl_Model_90 (by decide) (by decide) s_54 rfl rfl ?_
    refine w_iconst (q := 65) (v := 0) d_Model_doomed_64 rfl (by decide) ?_
    obtain ⟨v10, hv, h⟩ := bnd h
    refine w_callVv (q := 68) (M' := M_Model_unpack) (n' := 0) (k := 54) (As := [.ref 70, .int 0]) (sh' := SH) (b1 := (0, 0)) d_Model_doomed_65 rfl mw_Model_unpack (by decide) (by decide) ml_Model_393 (by decide) s_54 (by decide) rfl rfl rfl (leb rfl) (bz _) (fun _ => rfl) (ok_Model_unpack a_70 hv) ?_
    refine w_iload_n (q := 69) d_Model_doomed_68 rfl rfl ?_
    refine w_iload_n (q := 70) d_Model_doomed_69 rfl rfl ?_
    refine w_iconst (q := 71) (v := (-1)) d_Model_doomed_70 rfl (by decide) ?_
    refine w_ixor (q := 72) d_Model_doomed_71 rfl ?_
    refine w_iand (q := 73) d_Model_doomed_72 rfl ?_
    obtain ⟨v11, hv, h⟩ := bnd h
    refine w_callSi (q := 76) (M' := M_Model_bitsOf) (n' := 0) (As := [.int (v4 &&& (v9 ^^^ (-1)))]) (sh' := SH) (b1 := (0, 0)) d_Model_doomed_73 rfl mw_Model_bitsOf (by decide) (by decide) ml_Model_332 rfl rfl (leb rfl) (bz _) (fun _ => rfl) (ok_Model_bitsOf hv) ?_
    cases h
    exact w_ireturn d_Model_doomed_76 rfl rfl ⟨rfl, rfl, rfl, rfl⟩
def PL_Model_safest_9 (γ : GG) (tt : Bool) (g : Mem) (m0 : Mem) (b : Nat × Nat) (Φ : PO) (s : Int32 × Int32) : Prop := WA γ M_Model_safest 2 9 [some (.ref 54), some (.int s.1), some (.int s.2)] [] SH m0 tt b Φ
def QL_Model_safest_9 (γ : GG) (tt : Bool) (g : Mem) (m0 : Mem) (b : Nat × Nat) (Φ : PO) (x : (Int32)) : Prop := WA γ M_Model_safest 2 76 [none, some (.int x), none] [] SH m0 tt b Φ
def st_Model_safest_9 (F : Nat) (g : Mem) (m0 : Mem) (s : Int32 × Int32) : Option ((Int32 × Int32) ⊕ ((Int32))) := (rd m0 58 12 0).bind fun v1 => if v1 ≤ s.2 then some (.inr s.1) else (sp_Model_isOf (m0 54 25) s.2 m0).bind fun v3 => if v3 = 0 then if s.1 = (-1) then some (.inl (s.2, s.2 + 1)) else (rd m0 59 12 s.2).bind fun v6 => (rd m0 58 12 1).bind fun v7 => (sp_Model_mayHave v6 v7 m0).bind fun v8 => (rd m0 59 12 s.1).bind fun v9 => (rd m0 58 12 1).bind fun v10 => (sp_Model_mayHave v9 v10 m0).bind fun v11 => if v8 ≤ v11 then some (.inl (s.1, s.2 + 1)) else some (.inl (s.2, s.2 + 1)) else some (.inl (s.1, s.2 + 1))
theorem kl_Model_safest_9 {γ : GG} {tt : Bool} {F : Nat} {g : Mem} {m0 : Mem} {b : Nat × Nat} {Φ : PO} : ∀ (s : Int32 × Int32) (r : (Int32 × Int32) ⊕ ((Int32))), st_Model_safest_9 F g m0 s = some r → RQ (PL_Model_safest_9 γ tt g m0 b Φ) (QL_Model_safest_9 γ tt g m0 b Φ) r → PL_Model_safest_9 γ tt g m0 b Φ s := by
  intro s r h hr
  unfold st_Model_safest_9 at h
  unfold PL_Model_safest_9
  refine w_iload_n (q := 10) d_Model_safest_9 rfl rfl ?_
  refine w_aload_n (q := 11) d_Model_safest_10 rfl rfl ?_
  refine w_get (q := 14) (ci := 12) (j := 4) d_Model_safest_11 rfl (by decide) fl_Model_51 (by decide) (by decide) s_54 rfl rfl ?_
  refine w_iconst (q := 15) (v := 0) d_Model_safest_14 rfl (by decide) ?_
  obtain ⟨v1, hv, h⟩ := bnd h
  obtain ⟨hi, hv⟩ := rd_ok hv
  refine w_iald (q := 16) (t := 0) d_Model_safest_15 rfl a_58.2 a_58.1 hi rfl ?_
  rw [hv]
  by_cases c2 : v1 ≤ s.2
  · rw [if_pos c2] at h
    refine w_icmp_ge_t (q := 76) d_Model_safest_16 rfl c2 ?_
    cases h
    exact w_ls (by exact (And.intro rfl trivial)) hr
  · rw [if_neg c2] at h
    refine w_icmp_ge_f (q := 19) d_Model_safest_16 76 rfl rfl c2 ?_
    refine w_aload_n (q := 20) d_Model_safest_19 rfl rfl ?_
    refine w_get (q := 23) (ci := 12) (j := 25) d_Model_safest_20 rfl (by decide) fl_Model_289 (by decide) (by decide) s_54 rfl rfl ?_
    refine w_iload_n (q := 24) d_Model_safest_23 rfl rfl ?_
    obtain ⟨v3, hv, h⟩ := bnd h
    refine w_callSi (q := 27) (M' := M_Model_isOf) (n' := 0) (As := [.int (m0 54 25), .int s.2]) (sh' := SH) (b1 := (0, 0)) d_Model_safest_24 rfl mw_Model_isOf (by decide) (by decide) ml_Model_308 rfl rfl (leb rfl) (bz _) (fun _ => rfl) (ok_Model_isOf hv) ?_
    by_cases c4 : v3 = 0
    · rw [if_pos c4] at h
      refine w_if_ne_f (q := 30) d_Model_safest_27 70 rfl rfl c4 ?_
      refine w_iload_n (q := 31) d_Model_safest_30 rfl rfl ?_
      refine w_iconst (q := 32) (v := (-1)) d_Model_safest_31 rfl (by decide) ?_
      by_cases c5 : s.1 = (-1)
      · rw [if_pos c5] at h
        refine w_icmp_eq_t (q := 68) d_Model_safest_32 rfl c5 ?_
        refine w_iload_n (q := 69) d_Model_safest_68 rfl rfl ?_
        refine w_istore_n (q := 70) (ls' := [some (.ref 54), some (.int s.2), some (.int s.2)]) d_Model_safest_69 rfl (by decide) rfl rfl ?_
        refine w_iinc (q := 73) (ls' := [some (.ref 54), some (.int s.2), some (.int (s.2 + 1))]) d_Model_safest_70 rfl (by decide) rfl rfl rfl ?_
        refine w_goto (q := 9) d_Model_safest_73 rfl ?_
        cases h
        exact w_ls (by exact (And.intro rfl (And.intro rfl (And.intro rfl trivial)))) hr
      · rw [if_neg c5] at h
        refine w_icmp_eq_f (q := 35) d_Model_safest_32 68 rfl rfl c5 ?_
        refine w_aload_n (q := 36) d_Model_safest_35 rfl rfl ?_
        refine w_get (q := 39) (ci := 12) (j := 5) d_Model_safest_36 rfl (by decide) fl_Model_55 (by decide) (by decide) s_54 rfl rfl ?_
        refine w_iload_n (q := 40) d_Model_safest_39 rfl rfl ?_
        obtain ⟨v6, hv, h⟩ := bnd h
        obtain ⟨hi, hv⟩ := rd_ok hv
        refine w_iald (q := 41) (t := 0) d_Model_safest_40 rfl a_59.2 a_59.1 hi rfl ?_
        rw [hv]
        refine w_aload_n (q := 42) d_Model_safest_41 rfl rfl ?_
        refine w_get (q := 45) (ci := 12) (j := 4) d_Model_safest_42 rfl (by decide) fl_Model_51 (by decide) (by decide) s_54 rfl rfl ?_
        refine w_iconst (q := 46) (v := 1) d_Model_safest_45 rfl (by decide) ?_
        obtain ⟨v7, hv, h⟩ := bnd h
        obtain ⟨hi, hv⟩ := rd_ok hv
        refine w_iald (q := 47) (t := 0) d_Model_safest_46 rfl a_58.2 a_58.1 hi rfl ?_
        rw [hv]
        obtain ⟨v8, hv, h⟩ := bnd h
        refine w_callSi (q := 50) (M' := M_Model_mayHave) (n' := 1) (As := [.int v6, .int v7]) (sh' := SH) (b1 := (0, 0)) d_Model_safest_47 rfl mw_Model_mayHave (by decide) (by decide) ml_Model_239 rfl rfl (leb rfl) (bz _) (fun _ => rfl) (ok_Model_mayHave hv) ?_
        refine w_aload_n (q := 51) d_Model_safest_50 rfl rfl ?_
        refine w_get (q := 54) (ci := 12) (j := 5) d_Model_safest_51 rfl (by decide) fl_Model_55 (by decide) (by decide) s_54 rfl rfl ?_
        refine w_iload_n (q := 55) d_Model_safest_54 rfl rfl ?_
        obtain ⟨v9, hv, h⟩ := bnd h
        obtain ⟨hi, hv⟩ := rd_ok hv
        refine w_iald (q := 56) (t := 0) d_Model_safest_55 rfl a_59.2 a_59.1 hi rfl ?_
        rw [hv]
        refine w_aload_n (q := 57) d_Model_safest_56 rfl rfl ?_
        refine w_get (q := 60) (ci := 12) (j := 4) d_Model_safest_57 rfl (by decide) fl_Model_51 (by decide) (by decide) s_54 rfl rfl ?_
        refine w_iconst (q := 61) (v := 1) d_Model_safest_60 rfl (by decide) ?_
        obtain ⟨v10, hv, h⟩ := bnd h
        obtain ⟨hi, hv⟩ := rd_ok hv
        refine w_iald (q := 62) (t := 0) d_Model_safest_61 rfl a_58.2 a_58.1 hi rfl ?_
        rw [hv]
        obtain ⟨v11, hv, h⟩ := bnd h
        refine w_callSi (q := 65) (M' := M_Model_mayHave) (n' := 1) (As := [.int v9, .int v10]) (sh' := SH) (b1 := (0, 0)) d_Model_safest_62 rfl mw_Model_mayHave (by decide) (by decide) ml_Model_239 rfl rfl (leb rfl) (bz _) (fun _ => rfl) (ok_Model_mayHave hv) ?_
        by_cases c12 : v8 ≤ v11
        · rw [if_pos c12] at h
          refine w_icmp_le_t (q := 70) d_Model_safest_65 rfl c12 ?_
          refine w_iinc (q := 73) (ls' := [some (.ref 54), some (.int s.1), some (.int (s.2 + 1))]) d_Model_safest_70 rfl (by decide) rfl rfl rfl ?_
          refine w_goto (q := 9) d_Model_safest_73 rfl ?_
          cases h
          exact w_ls (by exact (And.intro rfl (And.intro rfl (And.intro rfl trivial)))) hr
        · rw [if_neg c12] at h
          refine w_icmp_le_f (q := 68) d_Model_safest_65 70 rfl rfl c12 ?_
          refine w_iload_n (q := 69) d_Model_safest_68 rfl rfl ?_
          refine w_istore_n (q := 70) (ls' := [some (.ref 54), some (.int s.2), some (.int s.2)]) d_Model_safest_69 rfl (by decide) rfl rfl ?_
          refine w_iinc (q := 73) (ls' := [some (.ref 54), some (.int s.2), some (.int (s.2 + 1))]) d_Model_safest_70 rfl (by decide) rfl rfl rfl ?_
          refine w_goto (q := 9) d_Model_safest_73 rfl ?_
          cases h
          exact w_ls (by exact (And.intro rfl (And.intro rfl (And.intro rfl trivial)))) hr
    · rw [if_neg c4] at h
      refine w_if_ne_t (q := 70) d_Model_safest_27 rfl c4 ?_
      refine w_iinc (q := 73) (ls' := [some (.ref 54), some (.int s.1), some (.int (s.2 + 1))]) d_Model_safest_70 rfl (by decide) rfl rfl rfl ?_
      refine w_goto (q := 9) d_Model_safest_73 rfl ?_
      cases h
      exact w_ls (by exact (And.intro rfl (And.intro rfl (And.intro rfl trivial)))) hr
def sp_Model_safest (F : Nat) (g : Mem) : Option (Int32 × Mem) := (lpO (st_Model_safest_9 F g (mset g 54 3 0)) F ((-1), 0)).bind fun x13 => some (x13, (mset g 54 3 0))
theorem ok_Model_safest {γ : GG} {tt : Bool} {F : Nat} {g : Mem} {res : Int32 × Mem} (h : sp_Model_safest F g = some res) : CA γ M_Model_safest 2 [.ref 54] SH g tt (0, 0) (pI SH res.1 res.2 tt) := by
  refine CA.of mw_Model_safest.1 2 rfl ?_
  show WA γ M_Model_safest 2 0 [some (.ref 54), none, none] [] SH g tt (0, 0) (pI SH res.1 res.2 tt)
  unfold sp_Model_safest at h
  refine w_aload_n (q := 1) d_Model_safest_0 rfl rfl ?_
  refine w_iconst (q := 2) (v := 0) d_Model_safest_1 rfl (by decide) ?_
  refine w_put (q := 5) (ci := 12) (j := 3) d_Model_safest_2 rfl (by decide) fl_Model_114 (by decide) (by decide) s_54 rfl rfl rfl rfl rfl rfl ?_
  refine w_iconst (q := 6) (v := (-1)) d_Model_safest_5 rfl (by decide) ?_
  refine w_istore_n (q := 7) (ls' := [some (.ref 54), some (.int ((-1))), none]) d_Model_safest_6 rfl (by decide) rfl rfl ?_
  refine w_iconst (q := 8) (v := 0) d_Model_safest_7 rfl (by decide) ?_
  refine w_istore_n (q := 9) (ls' := [some (.ref 54), some (.int ((-1))), some (.int 0)]) d_Model_safest_8 rfl (by decide) rfl rfl ?_
  obtain ⟨x13, hx, h⟩ := bnd h
  refine w_ls (ls' := [some (.ref 54), some (.int ((-1))), some (.int 0)]) (And.intro rfl (And.intro rfl (And.intro rfl trivial))) ?_
  show PL_Model_safest_9 γ tt g (mset g 54 3 0) _ _ ((-1), 0)
  refine lp_ok (kl_Model_safest_9) F _ x13 hx ?_
  unfold QL_Model_safest_9
  refine w_iload_n (q := 77) d_Model_safest_76 rfl rfl ?_
  cases h
  exact w_ireturn d_Model_safest_77 rfl rfl ⟨rfl, rfl, rfl, rfl⟩
def PL_Model_recordsOf_4 (γ : GG) (tt : Bool) (p0 : Int32) (g : Mem) (k1 : Int32) (b : Nat × Nat) (Φ : PO) (s : Int32 × Int32) : Prop := WA γ M_Model_recordsOf 2 4 [some (.ref 54), some (.int k1), some (.int s.1), some (.int s.2)] [] SH g tt b Φ
def QL_Model_recordsOf_4 (γ : GG) (tt : Bool) (p0 : Int32) (g : Mem) (k1 : Int32) (b : Nat × Nat) (Φ : PO) (x : (Int32)) : Prop := WA γ M_Model_recordsOf 2 48 [none, none, some (.int x), none] [] SH g tt b Φ
def st_Model_recordsOf_4 (F : Nat) (p0 : Int32) (g : Mem) (k1 : Int32) (s : Int32 × Int32) : Option ((Int32 × Int32) ⊕ ((Int32))) := if (g 54 26) ≤ s.2 then some (.inr s.1) else (sp_Model_isThere s.2 g).bind fun v2 => if v2 = 0 then some (.inl (s.1, s.2 + 1)) else (sp_Model_of s.2 1 g).bind fun v4 => if v4 = k1 then (sp_Model_of s.2 7 g).bind fun v6 => some (.inl (s.1 ||| (1 <<< (v6 &&& 31)), s.2 + 1)) else some (.inl (s.1, s.2 + 1))
theorem kl_Model_recordsOf_4 {γ : GG} {tt : Bool} {F : Nat} {p0 : Int32} {g : Mem} {k1 : Int32} {b : Nat × Nat} {Φ : PO} : ∀ (s : Int32 × Int32) (r : (Int32 × Int32) ⊕ ((Int32))), st_Model_recordsOf_4 F p0 g k1 s = some r → RQ (PL_Model_recordsOf_4 γ tt p0 g k1 b Φ) (QL_Model_recordsOf_4 γ tt p0 g k1 b Φ) r → PL_Model_recordsOf_4 γ tt p0 g k1 b Φ s := by
  intro s r h hr
  unfold st_Model_recordsOf_4 at h
  unfold PL_Model_recordsOf_4
  refine w_iload_n (q := 5) d_Model_recordsOf_4 rfl rfl ?_
  refine w_aload_n (q := 6) d_Model_recordsOf_5 rfl rfl ?_
  refine w_get (q := 9) (ci := 12) (j := 26) d_Model_recordsOf_6 rfl (by decide) fl_Model_121 (by decide) (by decide) s_54 rfl rfl ?_
  by_cases c1 : (g 54 26) ≤ s.2
  · rw [if_pos c1] at h
    refine w_icmp_ge_t (q := 48) d_Model_recordsOf_9 rfl c1 ?_
    cases h
    exact w_ls (by exact (And.intro rfl trivial)) hr
  · rw [if_neg c1] at h
    refine w_icmp_ge_f (q := 12) d_Model_recordsOf_9 48 rfl rfl c1 ?_
    refine w_aload_n (q := 13) d_Model_recordsOf_12 rfl rfl ?_
    refine w_iload_n (q := 14) d_Model_recordsOf_13 rfl rfl ?_
    obtain ⟨v2, hv, h⟩ := bnd h
    refine w_callVi (q := 17) (M' := M_Model_isThere) (n' := 1) (k := 54) (As := [.int s.2]) (sh' := SH) (b1 := (0, 0)) d_Model_recordsOf_14 rfl mw_Model_isThere (by decide) (by decide) ml_Model_315 (by decide) s_54 (by decide) rfl rfl rfl (leb rfl) (bz _) (fun _ => rfl) (ok_Model_isThere hv) ?_
    by_cases c3 : v2 = 0
    · rw [if_pos c3] at h
      refine w_if_eq_t (q := 42) d_Model_recordsOf_17 rfl c3 ?_
      refine w_iinc (q := 45) (ls' := [some (.ref 54), some (.int k1), some (.int s.1), some (.int (s.2 + 1))]) d_Model_recordsOf_42 rfl (by decide) rfl rfl rfl ?_
      refine w_goto (q := 4) d_Model_recordsOf_45 rfl ?_
      cases h
      exact w_ls (by exact (And.intro rfl (And.intro rfl (And.intro rfl (And.intro rfl trivial))))) hr
    · rw [if_neg c3] at h
      refine w_if_eq_f (q := 20) d_Model_recordsOf_17 42 rfl rfl c3 ?_
      refine w_aload_n (q := 21) d_Model_recordsOf_20 rfl rfl ?_
      refine w_iload_n (q := 22) d_Model_recordsOf_21 rfl rfl ?_
      refine w_iconst (q := 23) (v := 1) d_Model_recordsOf_22 rfl (by decide) ?_
      obtain ⟨v4, hv, h⟩ := bnd h
      refine w_callVi (q := 26) (M' := M_Model_of) (n' := 0) (k := 54) (As := [.int s.2, .int 1]) (sh' := SH) (b1 := (0, 0)) d_Model_recordsOf_23 rfl mw_Model_of (by decide) (by decide) ml_Model_305 (by decide) s_54 (by decide) rfl rfl rfl (leb rfl) (bz _) (fun _ => rfl) (ok_Model_of hv) ?_
      refine w_iload_n (q := 27) d_Model_recordsOf_26 rfl rfl ?_
      by_cases c5 : v4 = k1
      · rw [if_pos c5] at h
        refine w_icmp_ne_f (q := 30) d_Model_recordsOf_27 42 rfl rfl c5 ?_
        refine w_iload_n (q := 31) d_Model_recordsOf_30 rfl rfl ?_
        refine w_iconst (q := 32) (v := 1) d_Model_recordsOf_31 rfl (by decide) ?_
        refine w_aload_n (q := 33) d_Model_recordsOf_32 rfl rfl ?_
        refine w_iload_n (q := 34) d_Model_recordsOf_33 rfl rfl ?_
        refine w_bipush (q := 36) (v := 7) d_Model_recordsOf_34 rfl (by decide) ?_
        obtain ⟨v6, hv, h⟩ := bnd h
        refine w_callVi (q := 39) (M' := M_Model_of) (n' := 0) (k := 54) (As := [.int s.2, .int 7]) (sh' := SH) (b1 := (0, 0)) d_Model_recordsOf_36 rfl mw_Model_of (by decide) (by decide) ml_Model_305 (by decide) s_54 (by decide) rfl rfl rfl (leb rfl) (bz _) (fun _ => rfl) (ok_Model_of hv) ?_
        refine w_ishl (q := 40) d_Model_recordsOf_39 rfl ?_
        refine w_ior (q := 41) d_Model_recordsOf_40 rfl ?_
        refine w_istore_n (q := 42) (ls' := [some (.ref 54), some (.int k1), some (.int (s.1 ||| (1 <<< (v6 &&& 31)))), some (.int s.2)]) d_Model_recordsOf_41 rfl (by decide) rfl rfl ?_
        refine w_iinc (q := 45) (ls' := [some (.ref 54), some (.int k1), some (.int (s.1 ||| (1 <<< (v6 &&& 31)))), some (.int (s.2 + 1))]) d_Model_recordsOf_42 rfl (by decide) rfl rfl rfl ?_
        refine w_goto (q := 4) d_Model_recordsOf_45 rfl ?_
        cases h
        exact w_ls (by exact (And.intro rfl (And.intro rfl (And.intro rfl (And.intro rfl trivial))))) hr
      · rw [if_neg c5] at h
        refine w_icmp_ne_t (q := 42) d_Model_recordsOf_27 rfl c5 ?_
        refine w_iinc (q := 45) (ls' := [some (.ref 54), some (.int k1), some (.int s.1), some (.int (s.2 + 1))]) d_Model_recordsOf_42 rfl (by decide) rfl rfl rfl ?_
        refine w_goto (q := 4) d_Model_recordsOf_45 rfl ?_
        cases h
        exact w_ls (by exact (And.intro rfl (And.intro rfl (And.intro rfl (And.intro rfl trivial))))) hr
def sp_Model_recordsOf (F : Nat) (p0 : Int32) (g : Mem) : Option (Int32) := (lpO (st_Model_recordsOf_4 F p0 g p0) F (0, 0)).bind fun x7 => some x7
theorem ok_Model_recordsOf {γ : GG} {tt : Bool} {F : Nat} {p0 : Int32} {g : Mem} {res : Int32} (h : sp_Model_recordsOf F p0 g = some res) : CA γ M_Model_recordsOf 2 [.ref 54, .int p0] SH g tt (0, 0) (pI SH res g tt) := by
  refine CA.of mw_Model_recordsOf.1 2 rfl ?_
  show WA γ M_Model_recordsOf 2 0 [some (.ref 54), some (.int p0), none, none] [] SH g tt (0, 0) (pI SH res g tt)
  unfold sp_Model_recordsOf at h
  refine w_iconst (q := 1) (v := 0) d_Model_recordsOf_0 rfl (by decide) ?_
  refine w_istore_n (q := 2) (ls' := [some (.ref 54), some (.int p0), some (.int 0), none]) d_Model_recordsOf_1 rfl (by decide) rfl rfl ?_
  refine w_iconst (q := 3) (v := 0) d_Model_recordsOf_2 rfl (by decide) ?_
  refine w_istore_n (q := 4) (ls' := [some (.ref 54), some (.int p0), some (.int 0), some (.int 0)]) d_Model_recordsOf_3 rfl (by decide) rfl rfl ?_
  obtain ⟨x7, hx, h⟩ := bnd h
  refine w_ls (ls' := [some (.ref 54), some (.int p0), some (.int 0), some (.int 0)]) (And.intro rfl (And.intro rfl (And.intro rfl (And.intro rfl trivial)))) ?_
  show PL_Model_recordsOf_4 γ tt p0 g p0 _ _ (0, 0)
  refine lp_ok (kl_Model_recordsOf_4) F _ x7 hx ?_
  unfold QL_Model_recordsOf_4
  refine w_iload_n (q := 49) d_Model_recordsOf_48 rfl rfl ?_
  cases h
  exact w_ireturn d_Model_recordsOf_49 rfl rfl ⟨rfl, rfl, rfl, rfl⟩
def PL_Model_heir_30 (γ : GG) (tt : Bool) (p0 : Int32) (g : Mem) (k1 : Int32) (k2 : Int32) (m0 : Mem) (b : Nat × Nat) (Φ : PO) (s : Int32 × Int32) : Prop := WA γ M_Model_heir 3 30 [some (.ref 54), some (.int k1), some (.int k2), some (.int s.1), some (.int s.2)] [] SH m0 tt b Φ
def QL_Model_heir_30 (γ : GG) (tt : Bool) (p0 : Int32) (g : Mem) (k1 : Int32) (k2 : Int32) (m0 : Mem) (b : Nat × Nat) (Φ : PO) (x : (Int32)) : Prop := WA γ M_Model_heir 3 100 [none, none, none, some (.int x), none] [] SH m0 tt b Φ
def st_Model_heir_30 (F : Nat) (p0 : Int32) (g : Mem) (k1 : Int32) (k2 : Int32) (m0 : Mem) (s : Int32 × Int32) : Option ((Int32 × Int32) ⊕ ((Int32))) := (rd m0 58 12 0).bind fun v5 => if v5 ≤ s.2 then some (.inr s.1) else if s.2 = k1 then some (.inl (s.1, s.2 + 1)) else (sp_Model_isOf (m0 54 25) s.2 m0).bind fun v8 => if v8 = 0 then if s.1 = (-1) then some (.inl (s.2, s.2 + 1)) else (sp_Model_recordsOf F s.2 m0).bind fun v11 => (sp_Model_bitsOf F (v11 &&& k2) m0).bind fun v12 => (sp_Model_recordsOf F s.1 m0).bind fun v13 => (sp_Model_bitsOf F (v13 &&& k2) m0).bind fun v14 => if v12 ≤ v14 then some (.inl (s.1, s.2 + 1)) else some (.inl (s.2, s.2 + 1)) else some (.inl (s.1, s.2 + 1))
theorem kl_Model_heir_30 {γ : GG} {tt : Bool} {F : Nat} {p0 : Int32} {g : Mem} {k1 : Int32} {k2 : Int32} {m0 : Mem} {b : Nat × Nat} {Φ : PO} : ∀ (s : Int32 × Int32) (r : (Int32 × Int32) ⊕ ((Int32))), st_Model_heir_30 F p0 g k1 k2 m0 s = some r → RQ (PL_Model_heir_30 γ tt p0 g k1 k2 m0 b Φ) (QL_Model_heir_30 γ tt p0 g k1 k2 m0 b Φ) r → PL_Model_heir_30 γ tt p0 g k1 k2 m0 b Φ s := by
  intro s r h hr
  unfold st_Model_heir_30 at h
  unfold PL_Model_heir_30
  refine w_iload (q := 32) d_Model_heir_30 rfl rfl ?_
  refine w_aload_n (q := 33) d_Model_heir_32 rfl rfl ?_
  refine w_get (q := 36) (ci := 12) (j := 4) d_Model_heir_33 rfl (by decide) fl_Model_51 (by decide) (by decide) s_54 rfl rfl ?_
  refine w_iconst (q := 37) (v := 0) d_Model_heir_36 rfl (by decide) ?_
  obtain ⟨v5, hv, h⟩ := bnd h
  obtain ⟨hi, hv⟩ := rd_ok hv
  refine w_iald (q := 38) (t := 0) d_Model_heir_37 rfl a_58.2 a_58.1 hi rfl ?_
  rw [hv]
  by_cases c6 : v5 ≤ s.2
  · rw [if_pos c6] at h
    refine w_icmp_ge_t (q := 100) d_Model_heir_38 rfl c6 ?_
    cases h
    exact w_ls (by exact (And.intro rfl trivial)) hr
  · rw [if_neg c6] at h
    refine w_icmp_ge_f (q := 41) d_Model_heir_38 100 rfl rfl c6 ?_
    refine w_iload (q := 43) d_Model_heir_41 rfl rfl ?_
    refine w_iload_n (q := 44) d_Model_heir_43 rfl rfl ?_
    by_cases c7 : s.2 = k1
    · rw [if_pos c7] at h
      refine w_icmp_eq_t (q := 94) d_Model_heir_44 rfl c7 ?_
      refine w_iinc (q := 97) (ls' := [some (.ref 54), some (.int k1), some (.int k2), some (.int s.1), some (.int (s.2 + 1))]) d_Model_heir_94 rfl (by decide) rfl rfl rfl ?_
      refine w_goto (q := 30) d_Model_heir_97 rfl ?_
      cases h
      exact w_ls (by exact (And.intro rfl (And.intro rfl (And.intro rfl (And.intro rfl (And.intro rfl trivial)))))) hr
    · rw [if_neg c7] at h
      refine w_icmp_eq_f (q := 47) d_Model_heir_44 94 rfl rfl c7 ?_
      refine w_aload_n (q := 48) d_Model_heir_47 rfl rfl ?_
      refine w_get (q := 51) (ci := 12) (j := 25) d_Model_heir_48 rfl (by decide) fl_Model_289 (by decide) (by decide) s_54 rfl rfl ?_
      refine w_iload (q := 53) d_Model_heir_51 rfl rfl ?_
      obtain ⟨v8, hv, h⟩ := bnd h
      refine w_callSi (q := 56) (M' := M_Model_isOf) (n' := 0) (As := [.int (m0 54 25), .int s.2]) (sh' := SH) (b1 := (0, 0)) d_Model_heir_53 rfl mw_Model_isOf (by decide) (by decide) ml_Model_308 rfl rfl (leb rfl) (bz _) (fun _ => rfl) (ok_Model_isOf hv) ?_
      by_cases c9 : v8 = 0
      · rw [if_pos c9] at h
        refine w_if_eq_t (q := 62) d_Model_heir_56 rfl c9 ?_
        refine w_iload_n (q := 63) d_Model_heir_62 rfl rfl ?_
        refine w_iconst (q := 64) (v := (-1)) d_Model_heir_63 rfl (by decide) ?_
        by_cases c10 : s.1 = (-1)
        · rw [if_pos c10] at h
          refine w_icmp_eq_t (q := 91) d_Model_heir_64 rfl c10 ?_
          refine w_iload (q := 93) d_Model_heir_91 rfl rfl ?_
          refine w_istore_n (q := 94) (ls' := [some (.ref 54), some (.int k1), some (.int k2), some (.int s.2), some (.int s.2)]) d_Model_heir_93 rfl (by decide) rfl rfl ?_
          refine w_iinc (q := 97) (ls' := [some (.ref 54), some (.int k1), some (.int k2), some (.int s.2), some (.int (s.2 + 1))]) d_Model_heir_94 rfl (by decide) rfl rfl rfl ?_
          refine w_goto (q := 30) d_Model_heir_97 rfl ?_
          cases h
          exact w_ls (by exact (And.intro rfl (And.intro rfl (And.intro rfl (And.intro rfl (And.intro rfl trivial)))))) hr
        · rw [if_neg c10] at h
          refine w_icmp_eq_f (q := 67) d_Model_heir_64 91 rfl rfl c10 ?_
          refine w_aload_n (q := 68) d_Model_heir_67 rfl rfl ?_
          refine w_iload (q := 70) d_Model_heir_68 rfl rfl ?_
          obtain ⟨v11, hv, h⟩ := bnd h
          refine w_callVi (q := 73) (M' := M_Model_recordsOf) (n' := 2) (k := 54) (As := [.int s.2]) (sh' := SH) (b1 := (0, 0)) d_Model_heir_70 rfl mw_Model_recordsOf (by decide) (by decide) ml_Model_426 (by decide) s_54 (by decide) rfl rfl rfl (leb rfl) (bz _) (fun _ => rfl) (ok_Model_recordsOf hv) ?_
          refine w_iload_n (q := 74) d_Model_heir_73 rfl rfl ?_
          refine w_iand (q := 75) d_Model_heir_74 rfl ?_
          obtain ⟨v12, hv, h⟩ := bnd h
          refine w_callSi (q := 78) (M' := M_Model_bitsOf) (n' := 0) (As := [.int (v11 &&& k2)]) (sh' := SH) (b1 := (0, 0)) d_Model_heir_75 rfl mw_Model_bitsOf (by decide) (by decide) ml_Model_332 rfl rfl (leb rfl) (bz _) (fun _ => rfl) (ok_Model_bitsOf hv) ?_
          refine w_aload_n (q := 79) d_Model_heir_78 rfl rfl ?_
          refine w_iload_n (q := 80) d_Model_heir_79 rfl rfl ?_
          obtain ⟨v13, hv, h⟩ := bnd h
          refine w_callVi (q := 83) (M' := M_Model_recordsOf) (n' := 2) (k := 54) (As := [.int s.1]) (sh' := SH) (b1 := (0, 0)) d_Model_heir_80 rfl mw_Model_recordsOf (by decide) (by decide) ml_Model_426 (by decide) s_54 (by decide) rfl rfl rfl (leb rfl) (bz _) (fun _ => rfl) (ok_Model_recordsOf hv) ?_
          refine w_iload_n (q := 84) d_Model_heir_83 rfl rfl ?_
          refine w_iand (q := 85) d_Model_heir_84 rfl ?_
          obtain ⟨v14, hv, h⟩ := bnd h
          refine w_callSi (q := 88) (M' := M_Model_bitsOf) (n' := 0) (As := [.int (v13 &&& k2)]) (sh' := SH) (b1 := (0, 0)) d_Model_heir_85 rfl mw_Model_bitsOf (by decide) (by decide) ml_Model_332 rfl rfl (leb rfl) (bz _) (fun _ => rfl) (ok_Model_bitsOf hv) ?_
          by_cases c15 : v12 ≤ v14
          · rw [if_pos c15] at h
            refine w_icmp_le_t (q := 94) d_Model_heir_88 rfl c15 ?_
            refine w_iinc (q := 97) (ls' := [some (.ref 54), some (.int k1), some (.int k2), some (.int s.1), some (.int (s.2 + 1))]) d_Model_heir_94 rfl (by decide) rfl rfl rfl ?_
            refine w_goto (q := 30) d_Model_heir_97 rfl ?_
            cases h
            exact w_ls (by exact (And.intro rfl (And.intro rfl (And.intro rfl (And.intro rfl (And.intro rfl trivial)))))) hr
          · rw [if_neg c15] at h
            refine w_icmp_le_f (q := 91) d_Model_heir_88 94 rfl rfl c15 ?_
            refine w_iload (q := 93) d_Model_heir_91 rfl rfl ?_
            refine w_istore_n (q := 94) (ls' := [some (.ref 54), some (.int k1), some (.int k2), some (.int s.2), some (.int s.2)]) d_Model_heir_93 rfl (by decide) rfl rfl ?_
            refine w_iinc (q := 97) (ls' := [some (.ref 54), some (.int k1), some (.int k2), some (.int s.2), some (.int (s.2 + 1))]) d_Model_heir_94 rfl (by decide) rfl rfl rfl ?_
            refine w_goto (q := 30) d_Model_heir_97 rfl ?_
            cases h
            exact w_ls (by exact (And.intro rfl (And.intro rfl (And.intro rfl (And.intro rfl (And.intro rfl trivial)))))) hr
      · rw [if_neg c9] at h
        refine w_if_eq_f (q := 59) d_Model_heir_56 62 rfl rfl c9 ?_
        refine w_goto (q := 94) d_Model_heir_59 rfl ?_
        refine w_iinc (q := 97) (ls' := [some (.ref 54), some (.int k1), some (.int k2), some (.int s.1), some (.int (s.2 + 1))]) d_Model_heir_94 rfl (by decide) rfl rfl rfl ?_
        refine w_goto (q := 30) d_Model_heir_97 rfl ?_
        cases h
        exact w_ls (by exact (And.intro rfl (And.intro rfl (And.intro rfl (And.intro rfl (And.intro rfl trivial)))))) hr
def sp_Model_heir (F : Nat) (p0 : Int32) (g : Mem) : Option (Int32 × Mem) := (sp_Model_isMonk p0 (mset g 54 3 0)).bind fun v1 => if v1 = 0 then (sp_Model_fail 1 (mset g 54 3 0)).bind fun v3 => some (v3.1, v3.2) else (sp_Model_recordsOf F p0 (mset g 54 3 0)).bind fun v4 => (lpO (st_Model_heir_30 F p0 g p0 v4 (mset g 54 3 0)) F ((-1), 0)).bind fun x16 => some (x16, (mset g 54 3 0))
theorem ok_Model_heir {γ : GG} {tt : Bool} {F : Nat} {p0 : Int32} {g : Mem} {res : Int32 × Mem} (h : sp_Model_heir F p0 g = some res) : CA γ M_Model_heir 3 [.ref 54, .int p0] SH g tt (0, 0) (pI SH res.1 res.2 tt) := by
  refine CA.of mw_Model_heir.1 3 rfl ?_
  show WA γ M_Model_heir 3 0 [some (.ref 54), some (.int p0), none, none, none] [] SH g tt (0, 0) (pI SH res.1 res.2 tt)
  unfold sp_Model_heir at h
  refine w_aload_n (q := 1) d_Model_heir_0 rfl rfl ?_
  refine w_iconst (q := 2) (v := 0) d_Model_heir_1 rfl (by decide) ?_
  refine w_put (q := 5) (ci := 12) (j := 3) d_Model_heir_2 rfl (by decide) fl_Model_114 (by decide) (by decide) s_54 rfl rfl rfl rfl rfl rfl ?_
  refine w_aload_n (q := 6) d_Model_heir_5 rfl rfl ?_
  refine w_iload_n (q := 7) d_Model_heir_6 rfl rfl ?_
  obtain ⟨v1, hv, h⟩ := bnd h
  refine w_callVi (q := 10) (M' := M_Model_isMonk) (n' := 1) (k := 54) (As := [.int p0]) (sh' := SH) (b1 := (0, 0)) d_Model_heir_7 rfl mw_Model_isMonk (by decide) (by decide) ml_Model_335 (by decide) s_54 (by decide) rfl rfl rfl (leb rfl) (bz _) (fun _ => rfl) (ok_Model_isMonk hv) ?_
  by_cases c2 : v1 = 0
  · rw [if_pos c2] at h
    refine w_if_ne_f (q := 13) d_Model_heir_10 19 rfl rfl c2 ?_
    refine w_aload_n (q := 14) d_Model_heir_13 rfl rfl ?_
    refine w_iconst (q := 15) (v := 1) d_Model_heir_14 rfl (by decide) ?_
    obtain ⟨v3, hv, h⟩ := bnd h
    refine w_callVi (q := 18) (M' := M_Model_fail) (n' := 0) (k := 54) (As := [.int 1]) (sh' := SH) (b1 := (0, 0)) d_Model_heir_15 rfl mw_Model_fail (by decide) (by decide) ml_Model_273 (by decide) s_54 (by decide) rfl rfl rfl (leb rfl) (bz _) (fun _ => rfl) (ok_Model_fail hv) ?_
    cases h
    exact w_ireturn d_Model_heir_18 rfl rfl ⟨rfl, rfl, rfl, rfl⟩
  · rw [if_neg c2] at h
    refine w_if_ne_t (q := 19) d_Model_heir_10 rfl c2 ?_
    refine w_aload_n (q := 20) d_Model_heir_19 rfl rfl ?_
    refine w_iload_n (q := 21) d_Model_heir_20 rfl rfl ?_
    obtain ⟨v4, hv, h⟩ := bnd h
    refine w_callVi (q := 24) (M' := M_Model_recordsOf) (n' := 2) (k := 54) (As := [.int p0]) (sh' := SH) (b1 := (0, 0)) d_Model_heir_21 rfl mw_Model_recordsOf (by decide) (by decide) ml_Model_426 (by decide) s_54 (by decide) rfl rfl rfl (leb rfl) (bz _) (fun _ => rfl) (ok_Model_recordsOf hv) ?_
    refine w_istore_n (q := 25) (ls' := [some (.ref 54), some (.int p0), some (.int v4), none, none]) d_Model_heir_24 rfl (by decide) rfl rfl ?_
    refine w_iconst (q := 26) (v := (-1)) d_Model_heir_25 rfl (by decide) ?_
    refine w_istore_n (q := 27) (ls' := [some (.ref 54), some (.int p0), some (.int v4), some (.int ((-1))), none]) d_Model_heir_26 rfl (by decide) rfl rfl ?_
    refine w_iconst (q := 28) (v := 0) d_Model_heir_27 rfl (by decide) ?_
    refine w_istore (q := 30) (ls' := [some (.ref 54), some (.int p0), some (.int v4), some (.int ((-1))), some (.int 0)]) d_Model_heir_28 rfl (by decide) rfl rfl ?_
    obtain ⟨x16, hx, h⟩ := bnd h
    refine w_ls (ls' := [some (.ref 54), some (.int p0), some (.int v4), some (.int ((-1))), some (.int 0)]) (And.intro rfl (And.intro rfl (And.intro rfl (And.intro rfl (And.intro rfl trivial))))) ?_
    show PL_Model_heir_30 γ tt p0 g p0 v4 (mset g 54 3 0) _ _ ((-1), 0)
    refine lp_ok (kl_Model_heir_30) F _ x16 hx ?_
    unfold QL_Model_heir_30
    refine w_iload_n (q := 101) d_Model_heir_100 rfl rfl ?_
    cases h
    exact w_ireturn d_Model_heir_101 rfl rfl ⟨rfl, rfl, rfl, rfl⟩
def PL_Model_lice_23 (γ : GG) (tt : Bool) (p0 : Int32) (g : Mem) (k1 : Int32) (m0 : Mem) (b : Nat × Nat) (Φ : PO) (s : Int32 × Int32) : Prop := WA γ M_Model_lice 3 23 [some (.ref 54), some (.int k1), some (.int s.1), some (.int s.2)] [] SH m0 tt b Φ
def QL_Model_lice_23 (γ : GG) (tt : Bool) (p0 : Int32) (g : Mem) (k1 : Int32) (m0 : Mem) (b : Nat × Nat) (Φ : PO) (x : (Int32)) : Prop := WA γ M_Model_lice 3 76 [none, none, some (.int x), none] [] SH m0 tt b Φ
def st_Model_lice_23 (F : Nat) (p0 : Int32) (g : Mem) (k1 : Int32) (m0 : Mem) (s : Int32 × Int32) : Option ((Int32 × Int32) ⊕ ((Int32))) := if (m0 54 26) ≤ s.2 then some (.inr s.1) else (sp_Model_isThere s.2 m0).bind fun v5 => if v5 = 0 then some (.inl (s.1 + 0, s.2 + 1)) else (sp_Model_of s.2 1 m0).bind fun v7 => if v7 = k1 then (sp_Model_of s.2 4 m0).bind fun v9 => (sp_Model_old s.2 m0).bind fun v10 => some (.inl (s.1 + (v9 * (v10 + 1)), s.2 + 1)) else some (.inl (s.1 + 0, s.2 + 1))
theorem kl_Model_lice_23 {γ : GG} {tt : Bool} {F : Nat} {p0 : Int32} {g : Mem} {k1 : Int32} {m0 : Mem} {b : Nat × Nat} {Φ : PO} : ∀ (s : Int32 × Int32) (r : (Int32 × Int32) ⊕ ((Int32))), st_Model_lice_23 F p0 g k1 m0 s = some r → RQ (PL_Model_lice_23 γ tt p0 g k1 m0 b Φ) (QL_Model_lice_23 γ tt p0 g k1 m0 b Φ) r → PL_Model_lice_23 γ tt p0 g k1 m0 b Φ s := by
  intro s r h hr
  unfold st_Model_lice_23 at h
  unfold PL_Model_lice_23
  refine w_iload_n (q := 24) d_Model_lice_23 rfl rfl ?_
  refine w_aload_n (q := 25) d_Model_lice_24 rfl rfl ?_
  refine w_get (q := 28) (ci := 12) (j := 26) d_Model_lice_25 rfl (by decide) fl_Model_121 (by decide) (by decide) s_54 rfl rfl ?_
  by_cases c4 : (m0 54 26) ≤ s.2
  · rw [if_pos c4] at h
    refine w_icmp_ge_t (q := 76) d_Model_lice_28 rfl c4 ?_
    cases h
    exact w_ls (by exact (And.intro rfl trivial)) hr
  · rw [if_neg c4] at h
    refine w_icmp_ge_f (q := 31) d_Model_lice_28 76 rfl rfl c4 ?_
    refine w_iload_n (q := 32) d_Model_lice_31 rfl rfl ?_
    refine w_aload_n (q := 33) d_Model_lice_32 rfl rfl ?_
    refine w_iload_n (q := 34) d_Model_lice_33 rfl rfl ?_
    obtain ⟨v5, hv, h⟩ := bnd h
    refine w_callVi (q := 37) (M' := M_Model_isThere) (n' := 1) (k := 54) (As := [.int s.2]) (sh' := SH) (b1 := (0, 0)) d_Model_lice_34 rfl mw_Model_isThere (by decide) (by decide) ml_Model_315 (by decide) s_54 (by decide) rfl rfl rfl (leb rfl) (bz _) (fun _ => rfl) (ok_Model_isThere hv) ?_
    by_cases c6 : v5 = 0
    · rw [if_pos c6] at h
      refine w_if_eq_t (q := 67) d_Model_lice_37 rfl c6 ?_
      refine w_iconst (q := 68) (v := 0) d_Model_lice_67 rfl (by decide) ?_
      refine w_iadd (q := 69) d_Model_lice_68 rfl ?_
      refine w_istore_n (q := 70) (ls' := [some (.ref 54), some (.int k1), some (.int (s.1 + 0)), some (.int s.2)]) d_Model_lice_69 rfl (by decide) rfl rfl ?_
      refine w_iinc (q := 73) (ls' := [some (.ref 54), some (.int k1), some (.int (s.1 + 0)), some (.int (s.2 + 1))]) d_Model_lice_70 rfl (by decide) rfl rfl rfl ?_
      refine w_goto (q := 23) d_Model_lice_73 rfl ?_
      cases h
      exact w_ls (by exact (And.intro rfl (And.intro rfl (And.intro rfl (And.intro rfl trivial))))) hr
    · rw [if_neg c6] at h
      refine w_if_eq_f (q := 40) d_Model_lice_37 67 rfl rfl c6 ?_
      refine w_aload_n (q := 41) d_Model_lice_40 rfl rfl ?_
      refine w_iload_n (q := 42) d_Model_lice_41 rfl rfl ?_
      refine w_iconst (q := 43) (v := 1) d_Model_lice_42 rfl (by decide) ?_
      obtain ⟨v7, hv, h⟩ := bnd h
      refine w_callVi (q := 46) (M' := M_Model_of) (n' := 0) (k := 54) (As := [.int s.2, .int 1]) (sh' := SH) (b1 := (0, 0)) d_Model_lice_43 rfl mw_Model_of (by decide) (by decide) ml_Model_305 (by decide) s_54 (by decide) rfl rfl rfl (leb rfl) (bz _) (fun _ => rfl) (ok_Model_of hv) ?_
      refine w_iload_n (q := 47) d_Model_lice_46 rfl rfl ?_
      by_cases c8 : v7 = k1
      · rw [if_pos c8] at h
        refine w_icmp_ne_f (q := 50) d_Model_lice_47 67 rfl rfl c8 ?_
        refine w_aload_n (q := 51) d_Model_lice_50 rfl rfl ?_
        refine w_iload_n (q := 52) d_Model_lice_51 rfl rfl ?_
        refine w_iconst (q := 53) (v := 4) d_Model_lice_52 rfl (by decide) ?_
        obtain ⟨v9, hv, h⟩ := bnd h
        refine w_callVi (q := 56) (M' := M_Model_of) (n' := 0) (k := 54) (As := [.int s.2, .int 4]) (sh' := SH) (b1 := (0, 0)) d_Model_lice_53 rfl mw_Model_of (by decide) (by decide) ml_Model_305 (by decide) s_54 (by decide) rfl rfl rfl (leb rfl) (bz _) (fun _ => rfl) (ok_Model_of hv) ?_
        refine w_aload_n (q := 57) d_Model_lice_56 rfl rfl ?_
        refine w_iload_n (q := 58) d_Model_lice_57 rfl rfl ?_
        obtain ⟨v10, hv, h⟩ := bnd h
        refine w_callVi (q := 61) (M' := M_Model_old) (n' := 2) (k := 54) (As := [.int s.2]) (sh' := SH) (b1 := (0, 0)) d_Model_lice_58 rfl mw_Model_old (by decide) (by decide) ml_Model_318 (by decide) s_54 (by decide) rfl rfl rfl (leb rfl) (bz _) (fun _ => rfl) (ok_Model_old hv) ?_
        refine w_iconst (q := 62) (v := 1) d_Model_lice_61 rfl (by decide) ?_
        refine w_iadd (q := 63) d_Model_lice_62 rfl ?_
        refine w_imul (q := 64) d_Model_lice_63 rfl ?_
        refine w_goto (q := 68) d_Model_lice_64 rfl ?_
        refine w_iadd (q := 69) d_Model_lice_68 rfl ?_
        refine w_istore_n (q := 70) (ls' := [some (.ref 54), some (.int k1), some (.int (s.1 + (v9 * (v10 + 1)))), some (.int s.2)]) d_Model_lice_69 rfl (by decide) rfl rfl ?_
        refine w_iinc (q := 73) (ls' := [some (.ref 54), some (.int k1), some (.int (s.1 + (v9 * (v10 + 1)))), some (.int (s.2 + 1))]) d_Model_lice_70 rfl (by decide) rfl rfl rfl ?_
        refine w_goto (q := 23) d_Model_lice_73 rfl ?_
        cases h
        exact w_ls (by exact (And.intro rfl (And.intro rfl (And.intro rfl (And.intro rfl trivial))))) hr
      · rw [if_neg c8] at h
        refine w_icmp_ne_t (q := 67) d_Model_lice_47 rfl c8 ?_
        refine w_iconst (q := 68) (v := 0) d_Model_lice_67 rfl (by decide) ?_
        refine w_iadd (q := 69) d_Model_lice_68 rfl ?_
        refine w_istore_n (q := 70) (ls' := [some (.ref 54), some (.int k1), some (.int (s.1 + 0)), some (.int s.2)]) d_Model_lice_69 rfl (by decide) rfl rfl ?_
        refine w_iinc (q := 73) (ls' := [some (.ref 54), some (.int k1), some (.int (s.1 + 0)), some (.int (s.2 + 1))]) d_Model_lice_70 rfl (by decide) rfl rfl rfl ?_
        refine w_goto (q := 23) d_Model_lice_73 rfl ?_
        cases h
        exact w_ls (by exact (And.intro rfl (And.intro rfl (And.intro rfl (And.intro rfl trivial))))) hr
def sp_Model_lice (F : Nat) (p0 : Int32) (g : Mem) : Option (Int32 × Mem) := (sp_Model_isMonk p0 (mset g 54 3 0)).bind fun v1 => if v1 = 0 then (sp_Model_fail 1 (mset g 54 3 0)).bind fun v3 => some (v3.1, v3.2) else (lpO (st_Model_lice_23 F p0 g p0 (mset g 54 3 0)) F (0, 0)).bind fun x11 => (rm x11 97).bind fun v12 => some (v12, (mset g 54 3 0))
theorem ok_Model_lice {γ : GG} {tt : Bool} {F : Nat} {p0 : Int32} {g : Mem} {res : Int32 × Mem} (h : sp_Model_lice F p0 g = some res) : CA γ M_Model_lice 3 [.ref 54, .int p0] SH g tt (0, 0) (pI SH res.1 res.2 tt) := by
  refine CA.of mw_Model_lice.1 2 rfl ?_
  show WA γ M_Model_lice 3 0 [some (.ref 54), some (.int p0), none, none] [] SH g tt (0, 0) (pI SH res.1 res.2 tt)
  unfold sp_Model_lice at h
  refine w_aload_n (q := 1) d_Model_lice_0 rfl rfl ?_
  refine w_iconst (q := 2) (v := 0) d_Model_lice_1 rfl (by decide) ?_
  refine w_put (q := 5) (ci := 12) (j := 3) d_Model_lice_2 rfl (by decide) fl_Model_114 (by decide) (by decide) s_54 rfl rfl rfl rfl rfl rfl ?_
  refine w_aload_n (q := 6) d_Model_lice_5 rfl rfl ?_
  refine w_iload_n (q := 7) d_Model_lice_6 rfl rfl ?_
  obtain ⟨v1, hv, h⟩ := bnd h
  refine w_callVi (q := 10) (M' := M_Model_isMonk) (n' := 1) (k := 54) (As := [.int p0]) (sh' := SH) (b1 := (0, 0)) d_Model_lice_7 rfl mw_Model_isMonk (by decide) (by decide) ml_Model_335 (by decide) s_54 (by decide) rfl rfl rfl (leb rfl) (bz _) (fun _ => rfl) (ok_Model_isMonk hv) ?_
  by_cases c2 : v1 = 0
  · rw [if_pos c2] at h
    refine w_if_ne_f (q := 13) d_Model_lice_10 19 rfl rfl c2 ?_
    refine w_aload_n (q := 14) d_Model_lice_13 rfl rfl ?_
    refine w_iconst (q := 15) (v := 1) d_Model_lice_14 rfl (by decide) ?_
    obtain ⟨v3, hv, h⟩ := bnd h
    refine w_callVi (q := 18) (M' := M_Model_fail) (n' := 0) (k := 54) (As := [.int 1]) (sh' := SH) (b1 := (0, 0)) d_Model_lice_15 rfl mw_Model_fail (by decide) (by decide) ml_Model_273 (by decide) s_54 (by decide) rfl rfl rfl (leb rfl) (bz _) (fun _ => rfl) (ok_Model_fail hv) ?_
    cases h
    exact w_ireturn d_Model_lice_18 rfl rfl ⟨rfl, rfl, rfl, rfl⟩
  · rw [if_neg c2] at h
    refine w_if_ne_t (q := 19) d_Model_lice_10 rfl c2 ?_
    refine w_iconst (q := 20) (v := 0) d_Model_lice_19 rfl (by decide) ?_
    refine w_istore_n (q := 21) (ls' := [some (.ref 54), some (.int p0), some (.int 0), none]) d_Model_lice_20 rfl (by decide) rfl rfl ?_
    refine w_iconst (q := 22) (v := 0) d_Model_lice_21 rfl (by decide) ?_
    refine w_istore_n (q := 23) (ls' := [some (.ref 54), some (.int p0), some (.int 0), some (.int 0)]) d_Model_lice_22 rfl (by decide) rfl rfl ?_
    obtain ⟨x11, hx, h⟩ := bnd h
    refine w_ls (ls' := [some (.ref 54), some (.int p0), some (.int 0), some (.int 0)]) (And.intro rfl (And.intro rfl (And.intro rfl (And.intro rfl trivial)))) ?_
    show PL_Model_lice_23 γ tt p0 g p0 (mset g 54 3 0) _ _ (0, 0)
    refine lp_ok (kl_Model_lice_23) F _ x11 hx ?_
    unfold QL_Model_lice_23
    refine w_iload_n (q := 77) d_Model_lice_76 rfl rfl ?_
    refine w_bipush (q := 79) (v := 97) d_Model_lice_77 rfl (by decide) ?_
    obtain ⟨v12, hv, h⟩ := bnd h
    obtain ⟨hz, hv⟩ := rm_ok hv
    refine w_irem (q := 80) d_Model_lice_79 rfl hz ?_
    rw [hv]
    cases h
    exact w_ireturn d_Model_lice_80 rfl rfl ⟨rfl, rfl, rfl, rfl⟩
def sp_Model_see_j61 (p0 : Int32) (p1 : Int32) (g : Mem) (m0 : Mem) (y0 : Int32) (y1 : Int32) : Option (Int32 × Mem) := (wr m0 72 8 y1 y0).bind fun g8 => some ((mset g8 54 28 ((g8 54 28) + 1)) 54 28, (mset g8 54 28 ((g8 54 28) + 1)))
theorem ok_Model_see_j61 {γ : GG} {tt : Bool} {p0 : Int32} {p1 : Int32} {g : Mem} {m0 : Mem} {y0 : Int32} {y1 : Int32} {res : Int32 × Mem} (h : sp_Model_see_j61 p0 p1 g m0 y0 y1 = some res) : WA γ M_Model_see 2 61 [some (.ref 54), none, none] [.int y0, .int y1, .ref 72] SH m0 tt (0, 0) (pI SH res.1 res.2 tt) := by
  unfold sp_Model_see_j61 at h
  obtain ⟨g8, hv, h⟩ := bnd h
  obtain ⟨hi, hv⟩ := wr_ok hv
  refine w_iast (q := 62) d_Model_see_61 rfl a_72.2 a_72.1 hi hv ?_
  refine w_aload_n (q := 63) d_Model_see_62 rfl rfl ?_
  refine w_dup (q := 64) d_Model_see_63 rfl rfl ?_
  refine w_get (q := 67) (ci := 12) (j := 28) d_Model_see_64 rfl (by decide) fl_Model_298 (by decide) (by decide) s_54 rfl rfl ?_
  refine w_iconst (q := 68) (v := 1) d_Model_see_67 rfl (by decide) ?_
  refine w_iadd (q := 69) d_Model_see_68 rfl ?_
  refine w_put (q := 72) (ci := 12) (j := 28) d_Model_see_69 rfl (by decide) fl_Model_298 (by decide) (by decide) s_54 rfl rfl rfl rfl rfl rfl ?_
  refine w_aload_n (q := 73) d_Model_see_72 rfl rfl ?_
  refine w_get (q := 76) (ci := 12) (j := 28) d_Model_see_73 rfl (by decide) fl_Model_298 (by decide) (by decide) s_54 rfl rfl ?_
  cases h
  exact w_ireturn d_Model_see_76 rfl rfl ⟨rfl, rfl, rfl, rfl⟩
def sp_Model_see (p0 : Int32) (p1 : Int32) (g : Mem) : Option (Int32 × Mem) := (sp_Model_isEntry p0 (mset g 54 3 0)).bind fun v1 => if v1 = 0 then (sp_Model_fail 1 (mset g 54 3 0)).bind fun v3 => some (v3.1, v3.2) else if ((mset g 54 3 0) 54 28) = 8 then (sp_Model_refuse 2 (mset g 54 3 0)).bind fun v5 => some (v5.1, v5.2) else (wr (mset g 54 3 0) 71 8 ((mset g 54 3 0) 54 28) p0).bind fun g6 => if p1 = 0 then sp_Model_see_j61 p0 p1 g g6 0 (g6 54 28) else sp_Model_see_j61 p0 p1 g g6 1 (g6 54 28)
theorem ok_Model_see {γ : GG} {tt : Bool} {p0 : Int32} {p1 : Int32} {g : Mem} {res : Int32 × Mem} (h : sp_Model_see p0 p1 g = some res) : CA γ M_Model_see 2 [.ref 54, .int p0, .int p1] SH g tt (0, 0) (pI SH res.1 res.2 tt) := by
  refine CA.of mw_Model_see.1 0 rfl ?_
  show WA γ M_Model_see 2 0 [some (.ref 54), some (.int p0), some (.int p1)] [] SH g tt (0, 0) (pI SH res.1 res.2 tt)
  unfold sp_Model_see at h
  refine w_aload_n (q := 1) d_Model_see_0 rfl rfl ?_
  refine w_iconst (q := 2) (v := 0) d_Model_see_1 rfl (by decide) ?_
  refine w_put (q := 5) (ci := 12) (j := 3) d_Model_see_2 rfl (by decide) fl_Model_114 (by decide) (by decide) s_54 rfl rfl rfl rfl rfl rfl ?_
  refine w_aload_n (q := 6) d_Model_see_5 rfl rfl ?_
  refine w_iload_n (q := 7) d_Model_see_6 rfl rfl ?_
  obtain ⟨v1, hv, h⟩ := bnd h
  refine w_callVi (q := 10) (M' := M_Model_isEntry) (n' := 1) (k := 54) (As := [.int p0]) (sh' := SH) (b1 := (0, 0)) d_Model_see_7 rfl mw_Model_isEntry (by decide) (by decide) ml_Model_341 (by decide) s_54 (by decide) rfl rfl rfl (leb rfl) (bz _) (fun _ => rfl) (ok_Model_isEntry hv) ?_
  by_cases c2 : v1 = 0
  · rw [if_pos c2] at h
    refine w_if_ne_f (q := 13) d_Model_see_10 19 rfl rfl c2 ?_
    refine w_aload_n (q := 14) d_Model_see_13 rfl rfl ?_
    refine w_iconst (q := 15) (v := 1) d_Model_see_14 rfl (by decide) ?_
    obtain ⟨v3, hv, h⟩ := bnd h
    refine w_callVi (q := 18) (M' := M_Model_fail) (n' := 0) (k := 54) (As := [.int 1]) (sh' := SH) (b1 := (0, 0)) d_Model_see_15 rfl mw_Model_fail (by decide) (by decide) ml_Model_273 (by decide) s_54 (by decide) rfl rfl rfl (leb rfl) (bz _) (fun _ => rfl) (ok_Model_fail hv) ?_
    cases h
    exact w_ireturn d_Model_see_18 rfl rfl ⟨rfl, rfl, rfl, rfl⟩
  · rw [if_neg c2] at h
    refine w_if_ne_t (q := 19) d_Model_see_10 rfl c2 ?_
    refine w_aload_n (q := 20) d_Model_see_19 rfl rfl ?_
    refine w_get (q := 23) (ci := 12) (j := 28) d_Model_see_20 rfl (by decide) fl_Model_298 (by decide) (by decide) s_54 rfl rfl ?_
    refine w_bipush (q := 25) (v := 8) d_Model_see_23 rfl (by decide) ?_
    by_cases c4 : ((mset g 54 3 0) 54 28) = 8
    · rw [if_pos c4] at h
      refine w_icmp_ne_f (q := 28) d_Model_see_25 34 rfl rfl c4 ?_
      refine w_aload_n (q := 29) d_Model_see_28 rfl rfl ?_
      refine w_iconst (q := 30) (v := 2) d_Model_see_29 rfl (by decide) ?_
      obtain ⟨v5, hv, h⟩ := bnd h
      refine w_callVi (q := 33) (M' := M_Model_refuse) (n' := 0) (k := 54) (As := [.int 2]) (sh' := SH) (b1 := (0, 0)) d_Model_see_30 rfl mw_Model_refuse (by decide) (by decide) ml_Model_365 (by decide) s_54 (by decide) rfl rfl rfl (leb rfl) (bz _) (fun _ => rfl) (ok_Model_refuse hv) ?_
      cases h
      exact w_ireturn d_Model_see_33 rfl rfl ⟨rfl, rfl, rfl, rfl⟩
    · rw [if_neg c4] at h
      refine w_icmp_ne_t (q := 34) d_Model_see_25 rfl c4 ?_
      refine w_aload_n (q := 35) d_Model_see_34 rfl rfl ?_
      refine w_get (q := 38) (ci := 12) (j := 32) d_Model_see_35 rfl (by decide) fl_Model_93 (by decide) (by decide) s_54 rfl rfl ?_
      refine w_aload_n (q := 39) d_Model_see_38 rfl rfl ?_
      refine w_get (q := 42) (ci := 12) (j := 28) d_Model_see_39 rfl (by decide) fl_Model_298 (by decide) (by decide) s_54 rfl rfl ?_
      refine w_iload_n (q := 43) d_Model_see_42 rfl rfl ?_
      obtain ⟨g6, hv, h⟩ := bnd h
      obtain ⟨hi, hv⟩ := wr_ok hv
      refine w_iast (q := 44) d_Model_see_43 rfl a_71.2 a_71.1 hi hv ?_
      refine w_aload_n (q := 45) d_Model_see_44 rfl rfl ?_
      refine w_get (q := 48) (ci := 12) (j := 33) d_Model_see_45 rfl (by decide) fl_Model_96 (by decide) (by decide) s_54 rfl rfl ?_
      refine w_aload_n (q := 49) d_Model_see_48 rfl rfl ?_
      refine w_get (q := 52) (ci := 12) (j := 28) d_Model_see_49 rfl (by decide) fl_Model_298 (by decide) (by decide) s_54 rfl rfl ?_
      refine w_iload_n (q := 53) d_Model_see_52 rfl rfl ?_
      by_cases c7 : p1 = 0
      · rw [if_pos c7] at h
        refine w_if_eq_t (q := 60) d_Model_see_53 rfl c7 ?_
        refine w_iconst (q := 61) (v := 0) d_Model_see_60 rfl (by decide) ?_
        refine w_ls (ls' := [some (.ref 54), none, none]) (And.intro rfl trivial) ?_
        exact ok_Model_see_j61 h
      · rw [if_neg c7] at h
        refine w_if_eq_f (q := 56) d_Model_see_53 60 rfl rfl c7 ?_
        refine w_iconst (q := 57) (v := 1) d_Model_see_56 rfl (by decide) ?_
        refine w_goto (q := 61) d_Model_see_57 rfl ?_
        refine w_ls (ls' := [some (.ref 54), none, none]) (And.intro rfl trivial) ?_
        exact ok_Model_see_j61 h
def PL_Model_isAsSeen_2 (γ : GG) (tt : Bool) (g : Mem) (b : Nat × Nat) (Φ : PO) (s : Int32) : Prop := WA γ M_Model_isAsSeen 2 2 [some (.ref 54), some (.int s)] [] SH g tt b Φ
def QL_Model_isAsSeen_2 (γ : GG) (tt : Bool) (g : Mem) (b : Nat × Nat) (Φ : PO) (x : (Unit) ⊕ (Unit)) : Prop := match x with
  | .inl x => WA γ M_Model_isAsSeen 2 50 [none, none] [] SH g tt b Φ
  | .inr x => WA γ M_Model_isAsSeen 2 58 [none, none] [] SH g tt b Φ
def sp_Model_isAsSeen_j41_2 (F : Nat) (g : Mem) (x1 : Int32) (y0 : Int32) : Option ((Int32) ⊕ ((Unit) ⊕ (Unit))) := (rd g 72 8 x1).bind fun v5 => if y0 = v5 then some (.inl (x1 + 1)) else some (.inr (.inl ()))
theorem ok_Model_isAsSeen_j41_2 {γ : GG} {tt : Bool} {F : Nat} {g : Mem} {x1 : Int32} {y0 : Int32} {b : Nat × Nat} {Φ : PO} {r : (Int32) ⊕ ((Unit) ⊕ (Unit))} (h : sp_Model_isAsSeen_j41_2 F g x1 y0 = some r) (hr : RQ (PL_Model_isAsSeen_2 γ tt g b Φ) (QL_Model_isAsSeen_2 γ tt g b Φ) r) : WA γ M_Model_isAsSeen 2 41 [some (.ref 54), some (.int x1)] [.int y0] SH g tt b Φ := by
  unfold sp_Model_isAsSeen_j41_2 at h
  refine w_aload_n (q := 42) d_Model_isAsSeen_41 rfl rfl ?_
  refine w_get (q := 45) (ci := 12) (j := 33) d_Model_isAsSeen_42 rfl (by decide) fl_Model_96 (by decide) (by decide) s_54 rfl rfl ?_
  refine w_iload_n (q := 46) d_Model_isAsSeen_45 rfl rfl ?_
  obtain ⟨v5, hv, h⟩ := bnd h
  obtain ⟨hi, hv⟩ := rd_ok hv
  refine w_iald (q := 47) (t := 0) d_Model_isAsSeen_46 rfl a_72.2 a_72.1 hi rfl ?_
  rw [hv]
  by_cases c6 : y0 = v5
  · rw [if_pos c6] at h
    refine w_icmp_eq_t (q := 52) d_Model_isAsSeen_47 rfl c6 ?_
    refine w_iinc (q := 55) (ls' := [some (.ref 54), some (.int (x1 + 1))]) d_Model_isAsSeen_52 rfl (by decide) rfl rfl rfl ?_
    refine w_goto (q := 2) d_Model_isAsSeen_55 rfl ?_
    cases h
    exact w_ls (by exact (And.intro rfl (And.intro rfl trivial))) hr
  · rw [if_neg c6] at h
    refine w_icmp_eq_f (q := 50) d_Model_isAsSeen_47 52 rfl rfl c6 ?_
    cases h
    exact w_ls (by exact trivial) hr
def sp_Model_isAsSeen_j40_2 (F : Nat) (g : Mem) (x1 : Int32) : Option ((Int32) ⊕ ((Unit) ⊕ (Unit))) := sp_Model_isAsSeen_j41_2 F g x1 0
theorem ok_Model_isAsSeen_j40_2 {γ : GG} {tt : Bool} {F : Nat} {g : Mem} {x1 : Int32} {b : Nat × Nat} {Φ : PO} {r : (Int32) ⊕ ((Unit) ⊕ (Unit))} (h : sp_Model_isAsSeen_j40_2 F g x1 = some r) (hr : RQ (PL_Model_isAsSeen_2 γ tt g b Φ) (QL_Model_isAsSeen_2 γ tt g b Φ) r) : WA γ M_Model_isAsSeen 2 40 [some (.ref 54), some (.int x1)] [] SH g tt b Φ := by
  unfold sp_Model_isAsSeen_j40_2 at h
  refine w_iconst (q := 41) (v := 0) d_Model_isAsSeen_40 rfl (by decide) ?_
  refine w_ls (ls' := [some (.ref 54), some (.int x1)]) (And.intro rfl (And.intro rfl trivial)) ?_
  exact ok_Model_isAsSeen_j41_2 h hr
def st_Model_isAsSeen_2 (F : Nat) (g : Mem) (s : Int32) : Option ((Int32) ⊕ ((Unit) ⊕ (Unit))) := if (g 54 28) ≤ s then some (.inr (.inr ())) else (rd g 71 8 s).bind fun v2 => (sp_Model_isEntry v2 g).bind fun v3 => if v3 = 0 then sp_Model_isAsSeen_j40_2 F g s else (rd g 71 8 s).bind fun v7 => (sp_Model_isThere v7 g).bind fun v8 => if v8 = 0 then sp_Model_isAsSeen_j40_2 F g s else sp_Model_isAsSeen_j41_2 F g s 1
theorem kl_Model_isAsSeen_2 {γ : GG} {tt : Bool} {F : Nat} {g : Mem} {b : Nat × Nat} {Φ : PO} : ∀ (s : Int32) (r : (Int32) ⊕ ((Unit) ⊕ (Unit))), st_Model_isAsSeen_2 F g s = some r → RQ (PL_Model_isAsSeen_2 γ tt g b Φ) (QL_Model_isAsSeen_2 γ tt g b Φ) r → PL_Model_isAsSeen_2 γ tt g b Φ s := by
  intro s r h hr
  unfold st_Model_isAsSeen_2 at h
  unfold PL_Model_isAsSeen_2
  refine w_iload_n (q := 3) d_Model_isAsSeen_2 rfl rfl ?_
  refine w_aload_n (q := 4) d_Model_isAsSeen_3 rfl rfl ?_
  refine w_get (q := 7) (ci := 12) (j := 28) d_Model_isAsSeen_4 rfl (by decide) fl_Model_298 (by decide) (by decide) s_54 rfl rfl ?_
  by_cases c1 : (g 54 28) ≤ s
  · rw [if_pos c1] at h
    refine w_icmp_ge_t (q := 58) d_Model_isAsSeen_7 rfl c1 ?_
    cases h
    exact w_ls (by exact trivial) hr
  · rw [if_neg c1] at h
    refine w_icmp_ge_f (q := 10) d_Model_isAsSeen_7 58 rfl rfl c1 ?_
    refine w_aload_n (q := 11) d_Model_isAsSeen_10 rfl rfl ?_
    refine w_aload_n (q := 12) d_Model_isAsSeen_11 rfl rfl ?_
    refine w_get (q := 15) (ci := 12) (j := 32) d_Model_isAsSeen_12 rfl (by decide) fl_Model_93 (by decide) (by decide) s_54 rfl rfl ?_
    refine w_iload_n (q := 16) d_Model_isAsSeen_15 rfl rfl ?_
    obtain ⟨v2, hv, h⟩ := bnd h
    obtain ⟨hi, hv⟩ := rd_ok hv
    refine w_iald (q := 17) (t := 0) d_Model_isAsSeen_16 rfl a_71.2 a_71.1 hi rfl ?_
    rw [hv]
    obtain ⟨v3, hv, h⟩ := bnd h
    refine w_callVi (q := 20) (M' := M_Model_isEntry) (n' := 1) (k := 54) (As := [.int v2]) (sh' := SH) (b1 := (0, 0)) d_Model_isAsSeen_17 rfl mw_Model_isEntry (by decide) (by decide) ml_Model_341 (by decide) s_54 (by decide) rfl rfl rfl (leb rfl) (bz _) (fun _ => rfl) (ok_Model_isEntry hv) ?_
    by_cases c4 : v3 = 0
    · rw [if_pos c4] at h
      refine w_if_eq_t (q := 40) d_Model_isAsSeen_20 rfl c4 ?_
      refine w_ls (ls' := [some (.ref 54), some (.int s)]) (And.intro rfl (And.intro rfl trivial)) ?_
      exact ok_Model_isAsSeen_j40_2 h hr
    · rw [if_neg c4] at h
      refine w_if_eq_f (q := 23) d_Model_isAsSeen_20 40 rfl rfl c4 ?_
      refine w_aload_n (q := 24) d_Model_isAsSeen_23 rfl rfl ?_
      refine w_aload_n (q := 25) d_Model_isAsSeen_24 rfl rfl ?_
      refine w_get (q := 28) (ci := 12) (j := 32) d_Model_isAsSeen_25 rfl (by decide) fl_Model_93 (by decide) (by decide) s_54 rfl rfl ?_
      refine w_iload_n (q := 29) d_Model_isAsSeen_28 rfl rfl ?_
      obtain ⟨v7, hv, h⟩ := bnd h
      obtain ⟨hi, hv⟩ := rd_ok hv
      refine w_iald (q := 30) (t := 0) d_Model_isAsSeen_29 rfl a_71.2 a_71.1 hi rfl ?_
      rw [hv]
      obtain ⟨v8, hv, h⟩ := bnd h
      refine w_callVi (q := 33) (M' := M_Model_isThere) (n' := 1) (k := 54) (As := [.int v7]) (sh' := SH) (b1 := (0, 0)) d_Model_isAsSeen_30 rfl mw_Model_isThere (by decide) (by decide) ml_Model_315 (by decide) s_54 (by decide) rfl rfl rfl (leb rfl) (bz _) (fun _ => rfl) (ok_Model_isThere hv) ?_
      by_cases c9 : v8 = 0
      · rw [if_pos c9] at h
        refine w_if_eq_t (q := 40) d_Model_isAsSeen_33 rfl c9 ?_
        refine w_ls (ls' := [some (.ref 54), some (.int s)]) (And.intro rfl (And.intro rfl trivial)) ?_
        exact ok_Model_isAsSeen_j40_2 h hr
      · rw [if_neg c9] at h
        refine w_if_eq_f (q := 36) d_Model_isAsSeen_33 40 rfl rfl c9 ?_
        refine w_iconst (q := 37) (v := 1) d_Model_isAsSeen_36 rfl (by decide) ?_
        refine w_goto (q := 41) d_Model_isAsSeen_37 rfl ?_
        refine w_ls (ls' := [some (.ref 54), some (.int s)]) (And.intro rfl (And.intro rfl trivial)) ?_
        exact ok_Model_isAsSeen_j41_2 h hr
def sp_Model_isAsSeen (F : Nat) (g : Mem) : Option (Int32) := (lpO (st_Model_isAsSeen_2 F g) F 0).bind fun x10 => match x10 with | .inl x11 => some 0 | .inr x12 => some 1
theorem ok_Model_isAsSeen {γ : GG} {tt : Bool} {F : Nat} {g : Mem} {res : Int32} (h : sp_Model_isAsSeen F g = some res) : CA γ M_Model_isAsSeen 2 [.ref 54] SH g tt (0, 0) (pI SH res g tt) := by
  refine CA.of mw_Model_isAsSeen.1 1 rfl ?_
  show WA γ M_Model_isAsSeen 2 0 [some (.ref 54), none] [] SH g tt (0, 0) (pI SH res g tt)
  unfold sp_Model_isAsSeen at h
  refine w_iconst (q := 1) (v := 0) d_Model_isAsSeen_0 rfl (by decide) ?_
  refine w_istore_n (q := 2) (ls' := [some (.ref 54), some (.int 0)]) d_Model_isAsSeen_1 rfl (by decide) rfl rfl ?_
  obtain ⟨x10, hx, h⟩ := bnd h
  refine w_ls (ls' := [some (.ref 54), some (.int 0)]) (And.intro rfl (And.intro rfl trivial)) ?_
  show PL_Model_isAsSeen_2 γ tt g _ _ 0
  refine lp_ok (kl_Model_isAsSeen_2) F _ x10 hx ?_
  unfold QL_Model_isAsSeen_2
  rcases x10 with x11 | x12
  · dsimp only at h ⊢
    refine w_iconst (q := 51) (v := 0) d_Model_isAsSeen_50 rfl (by decide) ?_
    cases h
    exact w_ireturn d_Model_isAsSeen_51 rfl rfl ⟨rfl, rfl, rfl, rfl⟩
  · dsimp only at h ⊢
    refine w_iconst (q := 59) (v := 1) d_Model_isAsSeen_58 rfl (by decide) ?_
    cases h
    exact w_ireturn d_Model_isAsSeen_59 rfl rfl ⟨rfl, rfl, rfl, rfl⟩
def PL_Model_ate_45 (γ : GG) (tt : Bool) (p0 : Int32) (p1 : Int32) (g : Mem) (k1 : Int32) (k2 : Int32) (b : Nat × Nat) (Φ : PO) (s : Int32 × Int32 × Int32 × Mem) : Prop := WA γ M_Model_ate 4 45 [some (.ref 54), some (.int k1), some (.int k2), some (.int s.1), some (.int s.2.1), some (.int s.2.2.1), none, none] [] SH s.2.2.2 tt b Φ
def QL_Model_ate_45 (γ : GG) (tt : Bool) (p0 : Int32) (p1 : Int32) (g : Mem) (k1 : Int32) (k2 : Int32) (b : Nat × Nat) (Φ : PO) (x : (Int32 × Int32 × Mem)) : Prop := WA γ M_Model_ate 4 132 [none, none, some (.int k2), some (.int x.1), some (.int x.2.1), none, none, none] [] SH x.2.2 tt b Φ
def PL_Model_ate_56 (γ : GG) (tt : Bool) (p0 : Int32) (p1 : Int32) (g : Mem) (k1 : Int32) (k2 : Int32) (k5 : Int32) (b : Nat × Nat) (Φ : PO) (s : Int32 × Int32 × Int32 × Mem) : Prop := WA γ M_Model_ate 4 56 [some (.ref 54), some (.int k1), some (.int k2), some (.int s.1), some (.int s.2.1), some (.int k5), some (.int s.2.2.1), none] [] SH s.2.2.2 tt b Φ
def QL_Model_ate_56 (γ : GG) (tt : Bool) (p0 : Int32) (p1 : Int32) (g : Mem) (k1 : Int32) (k2 : Int32) (k5 : Int32) (b : Nat × Nat) (Φ : PO) (x : (Int32 × Int32 × Mem)) : Prop := WA γ M_Model_ate 4 126 [some (.ref 54), some (.int k1), some (.int k2), some (.int x.1), some (.int x.2.1), some (.int k5), none, none] [] SH x.2.2 tt b Φ
def st_Model_ate_56 (F : Nat) (p0 : Int32) (p1 : Int32) (g : Mem) (k1 : Int32) (k2 : Int32) (k5 : Int32) (s : Int32 × Int32 × Int32 × Mem) : Option ((Int32 × Int32 × Int32 × Mem) ⊕ ((Int32 × Int32 × Mem))) := if 20 < s.2.2.1 then some (.inr (s.1, s.2.1, s.2.2.2)) else (sp_Model_mothsEat F k1 k5 s.2.2.1 s.2.2.2).bind fun v10 => (sp_Model_isAsSeen F v10.2).bind fun v11 => (sp_Model_unpack F 70 231 0 v10.2).bind fun v12 => if v11 = 0 then some (.inl (s.1, s.2.1, s.2.2.1 + 1, v12)) else if s.2.1 = (-1) then some (.inl (s.1 + 1, (100 * k5) + s.2.2.1, s.2.2.1 + 1, v12)) else some (.inl (s.1 + 1, s.2.1, s.2.2.1 + 1, v12))
theorem kl_Model_ate_56 {γ : GG} {tt : Bool} {F : Nat} {p0 : Int32} {p1 : Int32} {g : Mem} {k1 : Int32} {k2 : Int32} {k5 : Int32} {b : Nat × Nat} {Φ : PO} : ∀ (s : Int32 × Int32 × Int32 × Mem) (r : (Int32 × Int32 × Int32 × Mem) ⊕ ((Int32 × Int32 × Mem))), st_Model_ate_56 F p0 p1 g k1 k2 k5 s = some r → RQ (PL_Model_ate_56 γ tt p0 p1 g k1 k2 k5 b Φ) (QL_Model_ate_56 γ tt p0 p1 g k1 k2 k5 b Φ) r → PL_Model_ate_56 γ tt p0 p1 g k1 k2 k5 b Φ s := by
  intro s r h hr
  unfold st_Model_ate_56 at h
  unfold PL_Model_ate_56
  refine w_iload (q := 58) d_Model_ate_56 rfl rfl ?_
  refine w_bipush (q := 60) (v := 20) d_Model_ate_58 rfl (by decide) ?_
  by_cases c9 : 20 < s.2.2.1
  · rw [if_pos c9] at h
    refine w_icmp_gt_t (q := 126) d_Model_ate_60 rfl c9 ?_
    cases h
    exact w_ls (by exact (And.intro rfl (And.intro rfl (And.intro rfl (And.intro rfl (And.intro rfl (And.intro rfl trivial))))))) hr
  · rw [if_neg c9] at h
    refine w_icmp_gt_f (q := 63) d_Model_ate_60 126 rfl rfl c9 ?_
    refine w_aload_n (q := 64) d_Model_ate_63 rfl rfl ?_
    refine w_iload_n (q := 65) d_Model_ate_64 rfl rfl ?_
    refine w_iload (q := 67) d_Model_ate_65 rfl rfl ?_
    refine w_iload (q := 69) d_Model_ate_67 rfl rfl ?_
    obtain ⟨v10, hv, h⟩ := bnd h
    refine w_callVi (q := 72) (M' := M_Model_mothsEat) (n' := 3) (k := 54) (As := [.int k1, .int k5, .int s.2.2.1]) (sh' := SH) (b1 := (0, 0)) d_Model_ate_69 rfl mw_Model_mothsEat (by decide) (by decide) ml_Model_390 (by decide) s_54 (by decide) rfl rfl rfl (leb rfl) (bz _) (fun _ => rfl) (ok_Model_mothsEat hv) ?_
    refine w_pop (q := 73) d_Model_ate_72 rfl rfl ?_
    refine w_aload_n (q := 74) d_Model_ate_73 rfl rfl ?_
    obtain ⟨v11, hv, h⟩ := bnd h
    refine w_callVi (q := 77) (M' := M_Model_isAsSeen) (n' := 2) (k := 54) (As := []) (sh' := SH) (b1 := (0, 0)) d_Model_ate_74 rfl mw_Model_isAsSeen (by decide) (by decide) ml_Model_429 (by decide) s_54 (by decide) rfl rfl rfl (leb rfl) (bz _) (fun _ => rfl) (ok_Model_isAsSeen hv) ?_
    refine w_istore (q := 79) (ls' := [some (.ref 54), some (.int k1), some (.int k2), some (.int s.1), some (.int s.2.1), some (.int k5), some (.int s.2.2.1), some (.int v11)]) d_Model_ate_77 rfl (by decide) rfl rfl ?_
    refine w_aload_n (q := 80) d_Model_ate_79 rfl rfl ?_
    refine w_aload_n (q := 81) d_Model_ate_80 rfl rfl ?_
    refine w_get (q := 84) (ci := 12) (j := 31) d_Model_ate_81 rfl (by decide) fl_Model_90 (by decide) (by decide) s_54 rfl rfl ?_
    refine w_iconst (q := 85) (v := 0) d_Model_ate_84 rfl (by decide) ?_
    obtain ⟨v12, hv, h⟩ := bnd h
    refine w_callVv (q := 88) (M' := M_Model_unpack) (n' := 0) (k := 54) (As := [.ref 70, .int 0]) (sh' := SH) (b1 := (0, 0)) d_Model_ate_85 rfl mw_Model_unpack (by decide) (by decide) ml_Model_393 (by decide) s_54 (by decide) rfl rfl rfl (leb rfl) (bz _) (fun _ => rfl) (ok_Model_unpack a_70 hv) ?_
    refine w_iload (q := 90) d_Model_ate_88 rfl rfl ?_
    by_cases c13 : v11 = 0
    · rw [if_pos c13] at h
      refine w_if_ne_f (q := 93) d_Model_ate_90 96 rfl rfl c13 ?_
      refine w_goto (q := 120) d_Model_ate_93 rfl ?_
      refine w_iinc (q := 123) (ls' := [some (.ref 54), some (.int k1), some (.int k2), some (.int s.1), some (.int s.2.1), some (.int k5), some (.int (s.2.2.1 + 1)), some (.int v11)]) d_Model_ate_120 rfl (by decide) rfl rfl rfl ?_
      refine w_goto (q := 56) d_Model_ate_123 rfl ?_
      cases h
      exact w_ls (by exact (And.intro rfl (And.intro rfl (And.intro rfl (And.intro rfl (And.intro rfl (And.intro rfl (And.intro rfl trivial)))))))) hr
    · rw [if_neg c13] at h
      refine w_if_ne_t (q := 96) d_Model_ate_90 rfl c13 ?_
      refine w_iinc (q := 99) (ls' := [some (.ref 54), some (.int k1), some (.int k2), some (.int (s.1 + 1)), some (.int s.2.1), some (.int k5), some (.int s.2.2.1), some (.int v11)]) d_Model_ate_96 rfl (by decide) rfl rfl rfl ?_
      refine w_iload (q := 101) d_Model_ate_99 rfl rfl ?_
      refine w_iconst (q := 102) (v := (-1)) d_Model_ate_101 rfl (by decide) ?_
      by_cases c14 : s.2.1 = (-1)
      · rw [if_pos c14] at h
        refine w_icmp_ne_f (q := 105) d_Model_ate_102 116 rfl rfl c14 ?_
        refine w_bipush (q := 107) (v := 100) d_Model_ate_105 rfl (by decide) ?_
        refine w_iload (q := 109) d_Model_ate_107 rfl rfl ?_
        refine w_imul (q := 110) d_Model_ate_109 rfl ?_
        refine w_iload (q := 112) d_Model_ate_110 rfl rfl ?_
        refine w_iadd (q := 113) d_Model_ate_112 rfl ?_
        refine w_goto (q := 118) d_Model_ate_113 rfl ?_
        refine w_istore (q := 120) (ls' := [some (.ref 54), some (.int k1), some (.int k2), some (.int (s.1 + 1)), some (.int ((100 * k5) + s.2.2.1)), some (.int k5), some (.int s.2.2.1), some (.int v11)]) d_Model_ate_118 rfl (by decide) rfl rfl ?_
        refine w_iinc (q := 123) (ls' := [some (.ref 54), some (.int k1), some (.int k2), some (.int (s.1 + 1)), some (.int ((100 * k5) + s.2.2.1)), some (.int k5), some (.int (s.2.2.1 + 1)), some (.int v11)]) d_Model_ate_120 rfl (by decide) rfl rfl rfl ?_
        refine w_goto (q := 56) d_Model_ate_123 rfl ?_
        cases h
        exact w_ls (by exact (And.intro rfl (And.intro rfl (And.intro rfl (And.intro rfl (And.intro rfl (And.intro rfl (And.intro rfl trivial)))))))) hr
      · rw [if_neg c14] at h
        refine w_icmp_ne_t (q := 116) d_Model_ate_102 rfl c14 ?_
        refine w_iload (q := 118) d_Model_ate_116 rfl rfl ?_
        refine w_istore (q := 120) (ls' := [some (.ref 54), some (.int k1), some (.int k2), some (.int (s.1 + 1)), some (.int s.2.1), some (.int k5), some (.int s.2.2.1), some (.int v11)]) d_Model_ate_118 rfl (by decide) rfl rfl ?_
        refine w_iinc (q := 123) (ls' := [some (.ref 54), some (.int k1), some (.int k2), some (.int (s.1 + 1)), some (.int s.2.1), some (.int k5), some (.int (s.2.2.1 + 1)), some (.int v11)]) d_Model_ate_120 rfl (by decide) rfl rfl rfl ?_
        refine w_goto (q := 56) d_Model_ate_123 rfl ?_
        cases h
        exact w_ls (by exact (And.intro rfl (And.intro rfl (And.intro rfl (And.intro rfl (And.intro rfl (And.intro rfl (And.intro rfl trivial)))))))) hr
def st_Model_ate_45 (F : Nat) (p0 : Int32) (p1 : Int32) (g : Mem) (k1 : Int32) (k2 : Int32) (s : Int32 × Int32 × Int32 × Mem) : Option ((Int32 × Int32 × Int32 × Mem) ⊕ ((Int32 × Int32 × Mem))) := if 20 < s.2.2.1 then some (.inr (s.1, s.2.1, s.2.2.2)) else (lpO (st_Model_ate_56 F p0 p1 g k1 k2 s.2.2.1) F (s.1, s.2.1, s.2.2.1, s.2.2.2)).bind fun x15 => some (.inl (x15.1, x15.2.1, s.2.2.1 + 1, x15.2.2))
theorem kl_Model_ate_45 {γ : GG} {tt : Bool} {F : Nat} {p0 : Int32} {p1 : Int32} {g : Mem} {k1 : Int32} {k2 : Int32} {b : Nat × Nat} {Φ : PO} : ∀ (s : Int32 × Int32 × Int32 × Mem) (r : (Int32 × Int32 × Int32 × Mem) ⊕ ((Int32 × Int32 × Mem))), st_Model_ate_45 F p0 p1 g k1 k2 s = some r → RQ (PL_Model_ate_45 γ tt p0 p1 g k1 k2 b Φ) (QL_Model_ate_45 γ tt p0 p1 g k1 k2 b Φ) r → PL_Model_ate_45 γ tt p0 p1 g k1 k2 b Φ s := by
  intro s r h hr
  unfold st_Model_ate_45 at h
  unfold PL_Model_ate_45
  refine w_iload (q := 47) d_Model_ate_45 rfl rfl ?_
  refine w_bipush (q := 49) (v := 20) d_Model_ate_47 rfl (by decide) ?_
  by_cases c8 : 20 < s.2.2.1
  · rw [if_pos c8] at h
    refine w_icmp_gt_t (q := 132) d_Model_ate_49 rfl c8 ?_
    cases h
    exact w_ls (by exact (And.intro rfl (And.intro rfl (And.intro rfl trivial)))) hr
  · rw [if_neg c8] at h
    refine w_icmp_gt_f (q := 52) d_Model_ate_49 132 rfl rfl c8 ?_
    refine w_iload (q := 54) d_Model_ate_52 rfl rfl ?_
    refine w_istore (q := 56) (ls' := [some (.ref 54), some (.int k1), some (.int k2), some (.int s.1), some (.int s.2.1), some (.int s.2.2.1), some (.int s.2.2.1), none]) d_Model_ate_54 rfl (by decide) rfl rfl ?_
    obtain ⟨x15, hx, h⟩ := bnd h
    refine w_ls (ls' := [some (.ref 54), some (.int k1), some (.int k2), some (.int s.1), some (.int s.2.1), some (.int s.2.2.1), some (.int s.2.2.1), none]) (And.intro rfl (And.intro rfl (And.intro rfl (And.intro rfl (And.intro rfl (And.intro rfl (And.intro rfl trivial))))))) ?_
    show PL_Model_ate_56 γ tt p0 p1 g k1 k2 s.2.2.1 _ _ (s.1, s.2.1, s.2.2.1, s.2.2.2)
    refine lp_ok (kl_Model_ate_56) F _ x15 hx ?_
    unfold QL_Model_ate_56
    refine w_iinc (q := 129) (ls' := [some (.ref 54), some (.int k1), some (.int k2), some (.int x15.1), some (.int x15.2.1), some (.int (s.2.2.1 + 1)), none, none]) d_Model_ate_126 rfl (by decide) rfl rfl rfl ?_
    refine w_goto (q := 45) d_Model_ate_129 rfl ?_
    cases h
    exact w_ls (by exact (And.intro rfl (And.intro rfl (And.intro rfl (And.intro rfl (And.intro rfl (And.intro rfl trivial))))))) hr
def sp_Model_ate (F : Nat) (p0 : Int32) (p1 : Int32) (g : Mem) : Option (Int32 × Mem) := (sp_Model_isMonk p0 (mset g 54 3 0)).bind fun v1 => if v1 = 0 then (sp_Model_fail 1 (mset g 54 3 0)).bind fun v3 => some (v3.1, v3.2) else if p1 < 0 then (sp_Model_fail 1 (mset g 54 3 0)).bind fun v5 => some (v5.1, v5.2) else if p1 ≤ 1 then (sp_Model_pack F 70 231 0 (mset g 54 3 0)).bind fun v7 => (lpO (st_Model_ate_45 F p0 p1 g p0 p1) F (0, (-1), 0, v7)).bind fun x16 => if p1 = 0 then some (x16.1, x16.2.2) else some (x16.2.1, x16.2.2) else (sp_Model_fail 1 (mset g 54 3 0)).bind fun v18 => some (v18.1, v18.2)
theorem ok_Model_ate {γ : GG} {tt : Bool} {F : Nat} {p0 : Int32} {p1 : Int32} {g : Mem} {res : Int32 × Mem} (h : sp_Model_ate F p0 p1 g = some res) : CA γ M_Model_ate 4 [.ref 54, .int p0, .int p1] SH g tt (0, 0) (pI SH res.1 res.2 tt) := by
  refine CA.of mw_Model_ate.1 5 rfl ?_
  show WA γ M_Model_ate 4 0 [some (.ref 54), some (.int p0), some (.int p1), none, none, none, none, none] [] SH g tt (0, 0) (pI SH res.1 res.2 tt)
  unfold sp_Model_ate at h
  refine w_aload_n (q := 1) d_Model_ate_0 rfl rfl ?_
  refine w_iconst (q := 2) (v := 0) d_Model_ate_1 rfl (by decide) ?_
  refine w_put (q := 5) (ci := 12) (j := 3) d_Model_ate_2 rfl (by decide) fl_Model_114 (by decide) (by decide) s_54 rfl rfl rfl rfl rfl rfl ?_
  refine w_aload_n (q := 6) d_Model_ate_5 rfl rfl ?_
  refine w_iload_n (q := 7) d_Model_ate_6 rfl rfl ?_
  obtain ⟨v1, hv, h⟩ := bnd h
  refine w_callVi (q := 10) (M' := M_Model_isMonk) (n' := 1) (k := 54) (As := [.int p0]) (sh' := SH) (b1 := (0, 0)) d_Model_ate_7 rfl mw_Model_isMonk (by decide) (by decide) ml_Model_335 (by decide) s_54 (by decide) rfl rfl rfl (leb rfl) (bz _) (fun _ => rfl) (ok_Model_isMonk hv) ?_
  by_cases c2 : v1 = 0
  · rw [if_pos c2] at h
    refine w_if_eq_t (q := 22) d_Model_ate_10 rfl c2 ?_
    refine w_aload_n (q := 23) d_Model_ate_22 rfl rfl ?_
    refine w_iconst (q := 24) (v := 1) d_Model_ate_23 rfl (by decide) ?_
    obtain ⟨v3, hv, h⟩ := bnd h
    refine w_callVi (q := 27) (M' := M_Model_fail) (n' := 0) (k := 54) (As := [.int 1]) (sh' := SH) (b1 := (0, 0)) d_Model_ate_24 rfl mw_Model_fail (by decide) (by decide) ml_Model_273 (by decide) s_54 (by decide) rfl rfl rfl (leb rfl) (bz _) (fun _ => rfl) (ok_Model_fail hv) ?_
    cases h
    exact w_ireturn d_Model_ate_27 rfl rfl ⟨rfl, rfl, rfl, rfl⟩
  · rw [if_neg c2] at h
    refine w_if_eq_f (q := 13) d_Model_ate_10 22 rfl rfl c2 ?_
    refine w_iload_n (q := 14) d_Model_ate_13 rfl rfl ?_
    by_cases c4 : p1 < 0
    · rw [if_pos c4] at h
      refine w_if_lt_t (q := 22) d_Model_ate_14 rfl c4 ?_
      refine w_aload_n (q := 23) d_Model_ate_22 rfl rfl ?_
      refine w_iconst (q := 24) (v := 1) d_Model_ate_23 rfl (by decide) ?_
      obtain ⟨v5, hv, h⟩ := bnd h
      refine w_callVi (q := 27) (M' := M_Model_fail) (n' := 0) (k := 54) (As := [.int 1]) (sh' := SH) (b1 := (0, 0)) d_Model_ate_24 rfl mw_Model_fail (by decide) (by decide) ml_Model_273 (by decide) s_54 (by decide) rfl rfl rfl (leb rfl) (bz _) (fun _ => rfl) (ok_Model_fail hv) ?_
      cases h
      exact w_ireturn d_Model_ate_27 rfl rfl ⟨rfl, rfl, rfl, rfl⟩
    · rw [if_neg c4] at h
      refine w_if_lt_f (q := 17) d_Model_ate_14 22 rfl rfl c4 ?_
      refine w_iload_n (q := 18) d_Model_ate_17 rfl rfl ?_
      refine w_iconst (q := 19) (v := 1) d_Model_ate_18 rfl (by decide) ?_
      by_cases c6 : p1 ≤ 1
      · rw [if_pos c6] at h
        refine w_icmp_le_t (q := 28) d_Model_ate_19 rfl c6 ?_
        refine w_iconst (q := 29) (v := 0) d_Model_ate_28 rfl (by decide) ?_
        refine w_istore_n (q := 30) (ls' := [some (.ref 54), some (.int p0), some (.int p1), some (.int 0), none, none, none, none]) d_Model_ate_29 rfl (by decide) rfl rfl ?_
        refine w_iconst (q := 31) (v := (-1)) d_Model_ate_30 rfl (by decide) ?_
        refine w_istore (q := 33) (ls' := [some (.ref 54), some (.int p0), some (.int p1), some (.int 0), some (.int ((-1))), none, none, none]) d_Model_ate_31 rfl (by decide) rfl rfl ?_
        refine w_aload_n (q := 34) d_Model_ate_33 rfl rfl ?_
        refine w_aload_n (q := 35) d_Model_ate_34 rfl rfl ?_
        refine w_get (q := 38) (ci := 12) (j := 31) d_Model_ate_35 rfl (by decide) fl_Model_90 (by decide) (by decide) s_54 rfl rfl ?_
        refine w_iconst (q := 39) (v := 0) d_Model_ate_38 rfl (by decide) ?_
        obtain ⟨v7, hv, h⟩ := bnd h
        refine w_callVv (q := 42) (M' := M_Model_pack) (n' := 0) (k := 54) (As := [.ref 70, .int 0]) (sh' := SH) (b1 := (0, 0)) d_Model_ate_39 rfl mw_Model_pack (by decide) (by decide) ml_Model_359 (by decide) s_54 (by decide) rfl rfl rfl (leb rfl) (bz _) (fun _ => rfl) (ok_Model_pack a_70 hv) ?_
        refine w_iconst (q := 43) (v := 0) d_Model_ate_42 rfl (by decide) ?_
        refine w_istore (q := 45) (ls' := [some (.ref 54), some (.int p0), some (.int p1), some (.int 0), some (.int ((-1))), some (.int 0), none, none]) d_Model_ate_43 rfl (by decide) rfl rfl ?_
        obtain ⟨x16, hx, h⟩ := bnd h
        refine w_ls (ls' := [some (.ref 54), some (.int p0), some (.int p1), some (.int 0), some (.int ((-1))), some (.int 0), none, none]) (And.intro rfl (And.intro rfl (And.intro rfl (And.intro rfl (And.intro rfl (And.intro rfl trivial)))))) ?_
        show PL_Model_ate_45 γ tt p0 p1 g p0 p1 _ _ (0, (-1), 0, v7)
        refine lp_ok (kl_Model_ate_45) F _ x16 hx ?_
        unfold QL_Model_ate_45
        refine w_iload_n (q := 133) d_Model_ate_132 rfl rfl ?_
        by_cases c17 : p1 = 0
        · rw [if_pos c17] at h
          refine w_if_ne_f (q := 136) d_Model_ate_133 140 rfl rfl c17 ?_
          refine w_iload_n (q := 137) d_Model_ate_136 rfl rfl ?_
          refine w_goto (q := 142) d_Model_ate_137 rfl ?_
          cases h
          exact w_ireturn d_Model_ate_142 rfl rfl ⟨rfl, rfl, rfl, rfl⟩
        · rw [if_neg c17] at h
          refine w_if_ne_t (q := 140) d_Model_ate_133 rfl c17 ?_
          refine w_iload (q := 142) d_Model_ate_140 rfl rfl ?_
          cases h
          exact w_ireturn d_Model_ate_142 rfl rfl ⟨rfl, rfl, rfl, rfl⟩
      · rw [if_neg c6] at h
        refine w_icmp_le_f (q := 22) d_Model_ate_19 28 rfl rfl c6 ?_
        refine w_aload_n (q := 23) d_Model_ate_22 rfl rfl ?_
        refine w_iconst (q := 24) (v := 1) d_Model_ate_23 rfl (by decide) ?_
        obtain ⟨v18, hv, h⟩ := bnd h
        refine w_callVi (q := 27) (M' := M_Model_fail) (n' := 0) (k := 54) (As := [.int 1]) (sh' := SH) (b1 := (0, 0)) d_Model_ate_24 rfl mw_Model_fail (by decide) (by decide) ml_Model_273 (by decide) s_54 (by decide) rfl rfl rfl (leb rfl) (bz _) (fun _ => rfl) (ok_Model_fail hv) ?_
        cases h
        exact w_ireturn d_Model_ate_27 rfl rfl ⟨rfl, rfl, rfl, rfl⟩
def sp_Model_forget (g : Mem) : Option (Int32 × Mem) := if ((mset g 54 3 0) 54 28) = 0 then some ((-1), (mset g 54 3 0)) else some ((mset (mset g 54 3 0) 54 28 (((mset g 54 3 0) 54 28) - 1)) 54 28, (mset (mset g 54 3 0) 54 28 (((mset g 54 3 0) 54 28) - 1)))
theorem ok_Model_forget {γ : GG} {tt : Bool} {g : Mem} {res : Int32 × Mem} (h : sp_Model_forget g = some res) : CA γ M_Model_forget 0 [.ref 54] SH g tt (0, 0) (pI SH res.1 res.2 tt) := by
  refine CA.of mw_Model_forget.1 0 rfl ?_
  show WA γ M_Model_forget 0 0 [some (.ref 54)] [] SH g tt (0, 0) (pI SH res.1 res.2 tt)
  unfold sp_Model_forget at h
  refine w_aload_n (q := 1) d_Model_forget_0 rfl rfl ?_
  refine w_iconst (q := 2) (v := 0) d_Model_forget_1 rfl (by decide) ?_
  refine w_put (q := 5) (ci := 12) (j := 3) d_Model_forget_2 rfl (by decide) fl_Model_114 (by decide) (by decide) s_54 rfl rfl rfl rfl rfl rfl ?_
  refine w_aload_n (q := 6) d_Model_forget_5 rfl rfl ?_
  refine w_get (q := 9) (ci := 12) (j := 28) d_Model_forget_6 rfl (by decide) fl_Model_298 (by decide) (by decide) s_54 rfl rfl ?_
  by_cases c1 : ((mset g 54 3 0) 54 28) = 0
  · rw [if_pos c1] at h
    refine w_if_ne_f (q := 12) d_Model_forget_9 14 rfl rfl c1 ?_
    refine w_iconst (q := 13) (v := (-1)) d_Model_forget_12 rfl (by decide) ?_
    cases h
    exact w_ireturn d_Model_forget_13 rfl rfl ⟨rfl, rfl, rfl, rfl⟩
  · rw [if_neg c1] at h
    refine w_if_ne_t (q := 14) d_Model_forget_9 rfl c1 ?_
    refine w_aload_n (q := 15) d_Model_forget_14 rfl rfl ?_
    refine w_dup (q := 16) d_Model_forget_15 rfl rfl ?_
    refine w_get (q := 19) (ci := 12) (j := 28) d_Model_forget_16 rfl (by decide) fl_Model_298 (by decide) (by decide) s_54 rfl rfl ?_
    refine w_iconst (q := 20) (v := 1) d_Model_forget_19 rfl (by decide) ?_
    refine w_isub (q := 21) d_Model_forget_20 rfl ?_
    refine w_put (q := 24) (ci := 12) (j := 28) d_Model_forget_21 rfl (by decide) fl_Model_298 (by decide) (by decide) s_54 rfl rfl rfl rfl rfl rfl ?_
    refine w_aload_n (q := 25) d_Model_forget_24 rfl rfl ?_
    refine w_get (q := 28) (ci := 12) (j := 28) d_Model_forget_25 rfl (by decide) fl_Model_298 (by decide) (by decide) s_54 rfl rfl ?_
    cases h
    exact w_ireturn d_Model_forget_28 rfl rfl ⟨rfl, rfl, rfl, rfl⟩
def PL_Model_gain_19 (γ : GG) (tt : Bool) (p0 : Int32) (p1 : Int32) (p2 : Int32) (g : Mem) (k3 : Int32) (m0 : Mem) (b : Nat × Nat) (Φ : PO) (s : Int32 × Int32 × Int32) : Prop := WA γ M_Model_gain 6 19 [some (.ref 54), none, none, some (.int k3), some (.int s.1), some (.int s.2.1), some (.int s.2.2)] [] SH m0 tt b Φ
def QL_Model_gain_19 (γ : GG) (tt : Bool) (p0 : Int32) (p1 : Int32) (p2 : Int32) (g : Mem) (k3 : Int32) (m0 : Mem) (b : Nat × Nat) (Φ : PO) (x : (Int32)) : Prop := WA γ M_Model_gain 6 106 [none, none, none, none, none, some (.int x), none] [] SH m0 tt b Φ
def st_Model_gain_19 (F : Nat) (p0 : Int32) (p1 : Int32) (p2 : Int32) (g : Mem) (k3 : Int32) (m0 : Mem) (s : Int32 × Int32 × Int32) : Option ((Int32 × Int32 × Int32) ⊕ ((Int32))) := if (m0 54 26) ≤ s.2.2 then some (.inr s.2.1) else (sp_Model_isThere s.2.2 m0).bind fun v3 => if v3 = 0 then some (.inl (s.1, s.2.1, s.2.2 + 1)) else (sp_Model_of s.2.2 7 m0).bind fun v5 => (sp_Model_isOf s.1 v5 m0).bind fun v6 => if v6 = 0 then some (.inl (s.1, s.2.1, s.2.2 + 1)) else (sp_Model_of s.2.2 7 m0).bind fun v8 => (sp_Model_of s.2.2 0 m0).bind fun v9 => if v9 = k3 then (sp_Model_of s.2.2 4 m0).bind fun v11 => some (.inl (s.1 &&& ((1 <<< (v8 &&& 31)) ^^^ (-1)), s.2.1 + v11, s.2.2 + 1)) else some (.inl (s.1 &&& ((1 <<< (v8 &&& 31)) ^^^ (-1)), s.2.1 + 0, s.2.2 + 1))
theorem kl_Model_gain_19 {γ : GG} {tt : Bool} {F : Nat} {p0 : Int32} {p1 : Int32} {p2 : Int32} {g : Mem} {k3 : Int32} {m0 : Mem} {b : Nat × Nat} {Φ : PO} : ∀ (s : Int32 × Int32 × Int32) (r : (Int32 × Int32 × Int32) ⊕ ((Int32))), st_Model_gain_19 F p0 p1 p2 g k3 m0 s = some r → RQ (PL_Model_gain_19 γ tt p0 p1 p2 g k3 m0 b Φ) (QL_Model_gain_19 γ tt p0 p1 p2 g k3 m0 b Φ) r → PL_Model_gain_19 γ tt p0 p1 p2 g k3 m0 b Φ s := by
  intro s r h hr
  unfold st_Model_gain_19 at h
  unfold PL_Model_gain_19
  refine w_iload (q := 21) d_Model_gain_19 rfl rfl ?_
  refine w_aload_n (q := 22) d_Model_gain_21 rfl rfl ?_
  refine w_get (q := 25) (ci := 12) (j := 26) d_Model_gain_22 rfl (by decide) fl_Model_121 (by decide) (by decide) s_54 rfl rfl ?_
  by_cases c2 : (m0 54 26) ≤ s.2.2
  · rw [if_pos c2] at h
    refine w_icmp_ge_t (q := 106) d_Model_gain_25 rfl c2 ?_
    cases h
    exact w_ls (by exact (And.intro rfl trivial)) hr
  · rw [if_neg c2] at h
    refine w_icmp_ge_f (q := 28) d_Model_gain_25 106 rfl rfl c2 ?_
    refine w_aload_n (q := 29) d_Model_gain_28 rfl rfl ?_
    refine w_iload (q := 31) d_Model_gain_29 rfl rfl ?_
    obtain ⟨v3, hv, h⟩ := bnd h
    refine w_callVi (q := 34) (M' := M_Model_isThere) (n' := 1) (k := 54) (As := [.int s.2.2]) (sh' := SH) (b1 := (0, 0)) d_Model_gain_31 rfl mw_Model_isThere (by decide) (by decide) ml_Model_315 (by decide) s_54 (by decide) rfl rfl rfl (leb rfl) (bz _) (fun _ => rfl) (ok_Model_isThere hv) ?_
    by_cases c4 : v3 = 0
    · rw [if_pos c4] at h
      refine w_if_eq_t (q := 100) d_Model_gain_34 rfl c4 ?_
      refine w_iinc (q := 103) (ls' := [some (.ref 54), none, none, some (.int k3), some (.int s.1), some (.int s.2.1), some (.int (s.2.2 + 1))]) d_Model_gain_100 rfl (by decide) rfl rfl rfl ?_
      refine w_goto (q := 19) d_Model_gain_103 rfl ?_
      cases h
      exact w_ls (by exact (And.intro rfl (And.intro rfl (And.intro rfl (And.intro rfl (And.intro rfl trivial)))))) hr
    · rw [if_neg c4] at h
      refine w_if_eq_f (q := 37) d_Model_gain_34 100 rfl rfl c4 ?_
      refine w_iload (q := 39) d_Model_gain_37 rfl rfl ?_
      refine w_aload_n (q := 40) d_Model_gain_39 rfl rfl ?_
      refine w_iload (q := 42) d_Model_gain_40 rfl rfl ?_
      refine w_bipush (q := 44) (v := 7) d_Model_gain_42 rfl (by decide) ?_
      obtain ⟨v5, hv, h⟩ := bnd h
      refine w_callVi (q := 47) (M' := M_Model_of) (n' := 0) (k := 54) (As := [.int s.2.2, .int 7]) (sh' := SH) (b1 := (0, 0)) d_Model_gain_44 rfl mw_Model_of (by decide) (by decide) ml_Model_305 (by decide) s_54 (by decide) rfl rfl rfl (leb rfl) (bz _) (fun _ => rfl) (ok_Model_of hv) ?_
      obtain ⟨v6, hv, h⟩ := bnd h
      refine w_callSi (q := 50) (M' := M_Model_isOf) (n' := 0) (As := [.int s.1, .int v5]) (sh' := SH) (b1 := (0, 0)) d_Model_gain_47 rfl mw_Model_isOf (by decide) (by decide) ml_Model_308 rfl rfl (leb rfl) (bz _) (fun _ => rfl) (ok_Model_isOf hv) ?_
      by_cases c7 : v6 = 0
      · rw [if_pos c7] at h
        refine w_if_ne_f (q := 53) d_Model_gain_50 56 rfl rfl c7 ?_
        refine w_goto (q := 100) d_Model_gain_53 rfl ?_
        refine w_iinc (q := 103) (ls' := [some (.ref 54), none, none, some (.int k3), some (.int s.1), some (.int s.2.1), some (.int (s.2.2 + 1))]) d_Model_gain_100 rfl (by decide) rfl rfl rfl ?_
        refine w_goto (q := 19) d_Model_gain_103 rfl ?_
        cases h
        exact w_ls (by exact (And.intro rfl (And.intro rfl (And.intro rfl (And.intro rfl (And.intro rfl trivial)))))) hr
      · rw [if_neg c7] at h
        refine w_if_ne_t (q := 56) d_Model_gain_50 rfl c7 ?_
        refine w_iload (q := 58) d_Model_gain_56 rfl rfl ?_
        refine w_iconst (q := 59) (v := 1) d_Model_gain_58 rfl (by decide) ?_
        refine w_aload_n (q := 60) d_Model_gain_59 rfl rfl ?_
        refine w_iload (q := 62) d_Model_gain_60 rfl rfl ?_
        refine w_bipush (q := 64) (v := 7) d_Model_gain_62 rfl (by decide) ?_
        obtain ⟨v8, hv, h⟩ := bnd h
        refine w_callVi (q := 67) (M' := M_Model_of) (n' := 0) (k := 54) (As := [.int s.2.2, .int 7]) (sh' := SH) (b1 := (0, 0)) d_Model_gain_64 rfl mw_Model_of (by decide) (by decide) ml_Model_305 (by decide) s_54 (by decide) rfl rfl rfl (leb rfl) (bz _) (fun _ => rfl) (ok_Model_of hv) ?_
        refine w_ishl (q := 68) d_Model_gain_67 rfl ?_
        refine w_iconst (q := 69) (v := (-1)) d_Model_gain_68 rfl (by decide) ?_
        refine w_ixor (q := 70) d_Model_gain_69 rfl ?_
        refine w_iand (q := 71) d_Model_gain_70 rfl ?_
        refine w_istore (q := 73) (ls' := [some (.ref 54), none, none, some (.int k3), some (.int (s.1 &&& ((1 <<< (v8 &&& 31)) ^^^ (-1)))), some (.int s.2.1), some (.int s.2.2)]) d_Model_gain_71 rfl (by decide) rfl rfl ?_
        refine w_iload (q := 75) d_Model_gain_73 rfl rfl ?_
        refine w_aload_n (q := 76) d_Model_gain_75 rfl rfl ?_
        refine w_iload (q := 78) d_Model_gain_76 rfl rfl ?_
        refine w_iconst (q := 79) (v := 0) d_Model_gain_78 rfl (by decide) ?_
        obtain ⟨v9, hv, h⟩ := bnd h
        refine w_callVi (q := 82) (M' := M_Model_of) (n' := 0) (k := 54) (As := [.int s.2.2, .int 0]) (sh' := SH) (b1 := (0, 0)) d_Model_gain_79 rfl mw_Model_of (by decide) (by decide) ml_Model_305 (by decide) s_54 (by decide) rfl rfl rfl (leb rfl) (bz _) (fun _ => rfl) (ok_Model_of hv) ?_
        refine w_iload_n (q := 83) d_Model_gain_82 rfl rfl ?_
        by_cases c10 : v9 = k3
        · rw [if_pos c10] at h
          refine w_icmp_ne_f (q := 86) d_Model_gain_83 96 rfl rfl c10 ?_
          refine w_aload_n (q := 87) d_Model_gain_86 rfl rfl ?_
          refine w_iload (q := 89) d_Model_gain_87 rfl rfl ?_
          refine w_iconst (q := 90) (v := 4) d_Model_gain_89 rfl (by decide) ?_
          obtain ⟨v11, hv, h⟩ := bnd h
          refine w_callVi (q := 93) (M' := M_Model_of) (n' := 0) (k := 54) (As := [.int s.2.2, .int 4]) (sh' := SH) (b1 := (0, 0)) d_Model_gain_90 rfl mw_Model_of (by decide) (by decide) ml_Model_305 (by decide) s_54 (by decide) rfl rfl rfl (leb rfl) (bz _) (fun _ => rfl) (ok_Model_of hv) ?_
          refine w_goto (q := 97) d_Model_gain_93 rfl ?_
          refine w_iadd (q := 98) d_Model_gain_97 rfl ?_
          refine w_istore (q := 100) (ls' := [some (.ref 54), none, none, some (.int k3), some (.int (s.1 &&& ((1 <<< (v8 &&& 31)) ^^^ (-1)))), some (.int (s.2.1 + v11)), some (.int s.2.2)]) d_Model_gain_98 rfl (by decide) rfl rfl ?_
          refine w_iinc (q := 103) (ls' := [some (.ref 54), none, none, some (.int k3), some (.int (s.1 &&& ((1 <<< (v8 &&& 31)) ^^^ (-1)))), some (.int (s.2.1 + v11)), some (.int (s.2.2 + 1))]) d_Model_gain_100 rfl (by decide) rfl rfl rfl ?_
          refine w_goto (q := 19) d_Model_gain_103 rfl ?_
          cases h
          exact w_ls (by exact (And.intro rfl (And.intro rfl (And.intro rfl (And.intro rfl (And.intro rfl trivial)))))) hr
        · rw [if_neg c10] at h
          refine w_icmp_ne_t (q := 96) d_Model_gain_83 rfl c10 ?_
          refine w_iconst (q := 97) (v := 0) d_Model_gain_96 rfl (by decide) ?_
          refine w_iadd (q := 98) d_Model_gain_97 rfl ?_
          refine w_istore (q := 100) (ls' := [some (.ref 54), none, none, some (.int k3), some (.int (s.1 &&& ((1 <<< (v8 &&& 31)) ^^^ (-1)))), some (.int (s.2.1 + 0)), some (.int s.2.2)]) d_Model_gain_98 rfl (by decide) rfl rfl ?_
          refine w_iinc (q := 103) (ls' := [some (.ref 54), none, none, some (.int k3), some (.int (s.1 &&& ((1 <<< (v8 &&& 31)) ^^^ (-1)))), some (.int (s.2.1 + 0)), some (.int (s.2.2 + 1))]) d_Model_gain_100 rfl (by decide) rfl rfl rfl ?_
          refine w_goto (q := 19) d_Model_gain_103 rfl ?_
          cases h
          exact w_ls (by exact (And.intro rfl (And.intro rfl (And.intro rfl (And.intro rfl (And.intro rfl trivial)))))) hr
def sp_Model_gain (F : Nat) (p0 : Int32) (p1 : Int32) (p2 : Int32) (g : Mem) : Option (Int32 × Mem) := (sp_Model_lostByRazors F ((1 <<< (p0 &&& 31)) ||| (1 <<< (p1 &&& 31))) g).bind fun v1 => (lpO (st_Model_gain_19 F p0 p1 p2 g p2 v1.2) F (v1.1, 0, 0)).bind fun x12 => some (x12, v1.2)
theorem ok_Model_gain {γ : GG} {tt : Bool} {F : Nat} {p0 : Int32} {p1 : Int32} {p2 : Int32} {g : Mem} {res : Int32 × Mem} (h : sp_Model_gain F p0 p1 p2 g = some res) : CA γ M_Model_gain 6 [.ref 54, .int p0, .int p1, .int p2] SH g tt (0, 0) (pI SH res.1 res.2 tt) := by
  refine CA.of mw_Model_gain.1 3 rfl ?_
  show WA γ M_Model_gain 6 0 [some (.ref 54), some (.int p0), some (.int p1), some (.int p2), none, none, none] [] SH g tt (0, 0) (pI SH res.1 res.2 tt)
  unfold sp_Model_gain at h
  refine w_aload_n (q := 1) d_Model_gain_0 rfl rfl ?_
  refine w_iconst (q := 2) (v := 1) d_Model_gain_1 rfl (by decide) ?_
  refine w_iload_n (q := 3) d_Model_gain_2 rfl rfl ?_
  refine w_ishl (q := 4) d_Model_gain_3 rfl ?_
  refine w_iconst (q := 5) (v := 1) d_Model_gain_4 rfl (by decide) ?_
  refine w_iload_n (q := 6) d_Model_gain_5 rfl rfl ?_
  refine w_ishl (q := 7) d_Model_gain_6 rfl ?_
  refine w_ior (q := 8) d_Model_gain_7 rfl ?_
  obtain ⟨v1, hv, h⟩ := bnd h
  refine w_callVi (q := 11) (M' := M_Model_lostByRazors) (n' := 5) (k := 54) (As := [.int ((1 <<< (p0 &&& 31)) ||| (1 <<< (p1 &&& 31)))]) (sh' := SH) (b1 := (0, 0)) d_Model_gain_8 rfl mw_Model_lostByRazors (by decide) (by decide) ml_Model_415 (by decide) s_54 (by decide) rfl rfl rfl (leb rfl) (bz _) (fun _ => rfl) (ok_Model_lostByRazors hv) ?_
  refine w_istore (q := 13) (ls' := [some (.ref 54), some (.int p0), some (.int p1), some (.int p2), some (.int v1.1), none, none]) d_Model_gain_11 rfl (by decide) rfl rfl ?_
  refine w_iconst (q := 14) (v := 0) d_Model_gain_13 rfl (by decide) ?_
  refine w_istore (q := 16) (ls' := [some (.ref 54), some (.int p0), some (.int p1), some (.int p2), some (.int v1.1), some (.int 0), none]) d_Model_gain_14 rfl (by decide) rfl rfl ?_
  refine w_iconst (q := 17) (v := 0) d_Model_gain_16 rfl (by decide) ?_
  refine w_istore (q := 19) (ls' := [some (.ref 54), some (.int p0), some (.int p1), some (.int p2), some (.int v1.1), some (.int 0), some (.int 0)]) d_Model_gain_17 rfl (by decide) rfl rfl ?_
  obtain ⟨x12, hx, h⟩ := bnd h
  refine w_ls (ls' := [some (.ref 54), none, none, some (.int p2), some (.int v1.1), some (.int 0), some (.int 0)]) (And.intro rfl (And.intro rfl (And.intro rfl (And.intro rfl (And.intro rfl trivial))))) ?_
  show PL_Model_gain_19 γ tt p0 p1 p2 g p2 v1.2 _ _ (v1.1, 0, 0)
  refine lp_ok (kl_Model_gain_19) F _ x12 hx ?_
  unfold QL_Model_gain_19
  refine w_iload (q := 108) d_Model_gain_106 rfl rfl ?_
  cases h
  exact w_ireturn d_Model_gain_108 rfl rfl ⟨rfl, rfl, rfl, rfl⟩
