/-! functions and theorems of 26.model1 (by program: wip/gen/main.py) -/
def PL_Model_archive_50 (γ : GG) (tt : Bool) (p0 : Int32) (g : Mem) (b : Nat × Nat) (Φ : PO) (s : Int32 × Mem) : Prop := WA γ M_Model_archive 121 50 [some (.ref 54), none, some (.int s.1)] [] SH s.2 tt b Φ
def QL_Model_archive_50 (γ : GG) (tt : Bool) (p0 : Int32) (g : Mem) (b : Nat × Nat) (Φ : PO) (x : (Mem)) : Prop := WA γ M_Model_archive 121 101 [some (.ref 54), none, none] [] SH x tt b Φ
def st_Model_archive_50 (F : Nat) (p0 : Int32) (g : Mem) (s : Int32 × Mem) : Option ((Int32 × Mem) ⊕ ((Mem))) := if 6 ≤ s.1 then some (.inr s.2) else if s.1 = 1 then (wr s.2 58 12 (6 + s.1) 40).bind fun g6 => some (.inl (s.1 + 1, g6)) else if s.1 = 2 then (wr s.2 58 12 (6 + s.1) 60).bind fun g8 => some (.inl (s.1 + 1, g8)) else if s.1 = 3 then (wr s.2 58 12 (6 + s.1) 3).bind fun g10 => some (.inl (s.1 + 1, g10)) else (wr s.2 58 12 (6 + s.1) 0).bind fun g11 => some (.inl (s.1 + 1, g11))
theorem kl_Model_archive_50 {γ : GG} {tt : Bool} {F : Nat} {p0 : Int32} {g : Mem} {b : Nat × Nat} {Φ : PO} : ∀ (s : Int32 × Mem) (r : (Int32 × Mem) ⊕ ((Mem))), st_Model_archive_50 F p0 g s = some r → RQ (PL_Model_archive_50 γ tt p0 g b Φ) (QL_Model_archive_50 γ tt p0 g b Φ) r → PL_Model_archive_50 γ tt p0 g b Φ s := by
  intro s r h hr
  unfold st_Model_archive_50 at h
  unfold PL_Model_archive_50
  refine w_iload_n (q := 51) d_Model_archive_50 rfl rfl ?_
  refine w_bipush (q := 53) (v := 6) d_Model_archive_51 rfl (by decide) ?_
  by_cases c4 : 6 ≤ s.1
  · rw [if_pos c4] at h
    refine w_icmp_ge_t (q := 101) d_Model_archive_53 rfl c4 ?_
    cases h
    exact w_ls (by exact (And.intro rfl trivial)) hr
  · rw [if_neg c4] at h
    refine w_icmp_ge_f (q := 56) d_Model_archive_53 101 rfl rfl c4 ?_
    refine w_aload_n (q := 57) d_Model_archive_56 rfl rfl ?_
    refine w_get (q := 60) (ci := 12) (j := 4) d_Model_archive_57 rfl (by decide) fl_Model_51 (by decide) (by decide) s_54 rfl rfl ?_
    refine w_bipush (q := 62) (v := 6) d_Model_archive_60 rfl (by decide) ?_
    refine w_iload_n (q := 63) d_Model_archive_62 rfl rfl ?_
    refine w_iadd (q := 64) d_Model_archive_63 rfl ?_
    refine w_iload_n (q := 65) d_Model_archive_64 rfl rfl ?_
    refine w_iconst (q := 66) (v := 1) d_Model_archive_65 rfl (by decide) ?_
    by_cases c5 : s.1 = 1
    · rw [if_pos c5] at h
      refine w_icmp_ne_f (q := 69) d_Model_archive_66 74 rfl rfl c5 ?_
      refine w_bipush (q := 71) (v := 40) d_Model_archive_69 rfl (by decide) ?_
      refine w_goto (q := 94) d_Model_archive_71 rfl ?_
      obtain ⟨g6, hv, h⟩ := bnd h
      obtain ⟨hi, hv⟩ := wr_ok hv
      refine w_iast (q := 95) d_Model_archive_94 rfl a_58.2 a_58.1 hi hv ?_
      refine w_iinc (q := 98) (ls' := [some (.ref 54), none, some (.int (s.1 + 1))]) d_Model_archive_95 rfl (by decide) rfl rfl rfl ?_
      refine w_goto (q := 50) d_Model_archive_98 rfl ?_
      cases h
      exact w_ls (by exact (And.intro rfl (And.intro rfl trivial))) hr
    · rw [if_neg c5] at h
      refine w_icmp_ne_t (q := 74) d_Model_archive_66 rfl c5 ?_
      refine w_iload_n (q := 75) d_Model_archive_74 rfl rfl ?_
      refine w_iconst (q := 76) (v := 2) d_Model_archive_75 rfl (by decide) ?_
      by_cases c7 : s.1 = 2
      · rw [if_pos c7] at h
        refine w_icmp_ne_f (q := 79) d_Model_archive_76 84 rfl rfl c7 ?_
        refine w_bipush (q := 81) (v := 60) d_Model_archive_79 rfl (by decide) ?_
        refine w_goto (q := 94) d_Model_archive_81 rfl ?_
        obtain ⟨g8, hv, h⟩ := bnd h
        obtain ⟨hi, hv⟩ := wr_ok hv
        refine w_iast (q := 95) d_Model_archive_94 rfl a_58.2 a_58.1 hi hv ?_
        refine w_iinc (q := 98) (ls' := [some (.ref 54), none, some (.int (s.1 + 1))]) d_Model_archive_95 rfl (by decide) rfl rfl rfl ?_
        refine w_goto (q := 50) d_Model_archive_98 rfl ?_
        cases h
        exact w_ls (by exact (And.intro rfl (And.intro rfl trivial))) hr
      · rw [if_neg c7] at h
        refine w_icmp_ne_t (q := 84) d_Model_archive_76 rfl c7 ?_
        refine w_iload_n (q := 85) d_Model_archive_84 rfl rfl ?_
        refine w_iconst (q := 86) (v := 3) d_Model_archive_85 rfl (by decide) ?_
        by_cases c9 : s.1 = 3
        · rw [if_pos c9] at h
          refine w_icmp_ne_f (q := 89) d_Model_archive_86 93 rfl rfl c9 ?_
          refine w_iconst (q := 90) (v := 3) d_Model_archive_89 rfl (by decide) ?_
          refine w_goto (q := 94) d_Model_archive_90 rfl ?_
          obtain ⟨g10, hv, h⟩ := bnd h
          obtain ⟨hi, hv⟩ := wr_ok hv
          refine w_iast (q := 95) d_Model_archive_94 rfl a_58.2 a_58.1 hi hv ?_
          refine w_iinc (q := 98) (ls' := [some (.ref 54), none, some (.int (s.1 + 1))]) d_Model_archive_95 rfl (by decide) rfl rfl rfl ?_
          refine w_goto (q := 50) d_Model_archive_98 rfl ?_
          cases h
          exact w_ls (by exact (And.intro rfl (And.intro rfl trivial))) hr
        · rw [if_neg c9] at h
          refine w_icmp_ne_t (q := 93) d_Model_archive_86 rfl c9 ?_
          refine w_iconst (q := 94) (v := 0) d_Model_archive_93 rfl (by decide) ?_
          obtain ⟨g11, hv, h⟩ := bnd h
          obtain ⟨hi, hv⟩ := wr_ok hv
          refine w_iast (q := 95) d_Model_archive_94 rfl a_58.2 a_58.1 hi hv ?_
          refine w_iinc (q := 98) (ls' := [some (.ref 54), none, some (.int (s.1 + 1))]) d_Model_archive_95 rfl (by decide) rfl rfl rfl ?_
          refine w_goto (q := 50) d_Model_archive_98 rfl ?_
          cases h
          exact w_ls (by exact (And.intro rfl (And.intro rfl trivial))) hr
def PL_Model_archive_107 (γ : GG) (tt : Bool) (p0 : Int32) (g : Mem) (b : Nat × Nat) (Φ : PO) (s : Int32 × Mem) : Prop := WA γ M_Model_archive 121 107 [some (.ref 54), none, some (.int s.1)] [] SH s.2 tt b Φ
def QL_Model_archive_107 (γ : GG) (tt : Bool) (p0 : Int32) (g : Mem) (b : Nat × Nat) (Φ : PO) (x : (Mem)) : Prop := WA γ M_Model_archive 121 130 [some (.ref 54), none, none] [] SH x tt b Φ
def st_Model_archive_107 (F : Nat) (p0 : Int32) (g : Mem) (s : Int32 × Mem) : Option ((Int32 × Mem) ⊕ ((Mem))) := if (s.2 54 19) = 0 then if (s.2 54 15) = 0 then some (.inr s.2) else (sp_Model_readLine F s.1 s.2).bind fun v16 => some (.inl (v16.1, v16.2)) else some (.inr s.2)
theorem kl_Model_archive_107 {γ : GG} {tt : Bool} {F : Nat} {p0 : Int32} {g : Mem} {b : Nat × Nat} {Φ : PO} : ∀ (s : Int32 × Mem) (r : (Int32 × Mem) ⊕ ((Mem))), st_Model_archive_107 F p0 g s = some r → RQ (PL_Model_archive_107 γ tt p0 g b Φ) (QL_Model_archive_107 γ tt p0 g b Φ) r → PL_Model_archive_107 γ tt p0 g b Φ s := by
  intro s r h hr
  unfold st_Model_archive_107 at h
  unfold PL_Model_archive_107
  refine w_aload_n (q := 108) d_Model_archive_107 rfl rfl ?_
  refine w_get (q := 111) (ci := 12) (j := 19) d_Model_archive_108 rfl (by decide) fl_Model_168 (by decide) (by decide) s_54 rfl rfl ?_
  by_cases c14 : (s.2 54 19) = 0
  · rw [if_pos c14] at h
    refine w_if_ne_f (q := 114) d_Model_archive_111 130 rfl rfl c14 ?_
    refine w_aload_n (q := 115) d_Model_archive_114 rfl rfl ?_
    refine w_get (q := 118) (ci := 12) (j := 15) d_Model_archive_115 rfl (by decide) fl_Model_142 (by decide) (by decide) s_54 rfl rfl ?_
    by_cases c15 : (s.2 54 15) = 0
    · rw [if_pos c15] at h
      refine w_if_eq_t (q := 130) d_Model_archive_118 rfl c15 ?_
      cases h
      exact w_ls (by exact (And.intro rfl trivial)) hr
    · rw [if_neg c15] at h
      refine w_if_eq_f (q := 121) d_Model_archive_118 130 rfl rfl c15 ?_
      refine w_aload_n (q := 122) d_Model_archive_121 rfl rfl ?_
      refine w_iload_n (q := 123) d_Model_archive_122 rfl rfl ?_
      obtain ⟨v16, hv, h⟩ := bnd h
      refine w_callVi (q := 126) (M' := M_Model_readLine) (n' := 120) (k := 54) (As := [.int s.1]) (sh' := SH) (b1 := (0, 0)) d_Model_archive_123 rfl mw_Model_readLine (by decide) (by decide) ml_Model_276 (by decide) s_54 (by decide) rfl rfl rfl (leb rfl) (bz _) (fun _ => rfl) (ok_Model_readLine hv) ?_
      refine w_istore_n (q := 127) (ls' := [some (.ref 54), none, some (.int v16.1)]) d_Model_archive_126 rfl (by decide) rfl rfl ?_
      refine w_goto (q := 107) d_Model_archive_127 rfl ?_
      cases h
      exact w_ls (by exact (And.intro rfl (And.intro rfl trivial))) hr
  · rw [if_neg c14] at h
    refine w_if_ne_t (q := 130) d_Model_archive_111 rfl c14 ?_
    cases h
    exact w_ls (by exact (And.intro rfl trivial)) hr
def sp_Model_archive_j130 (F : Nat) (p0 : Int32) (g : Mem) (m0 : Mem) : Option (Int32 × Mem) := if (m0 54 19) = 0 then (sp_Model_takeOver F m0).bind fun v19 => some (0, v19) else (rd (mset m0 54 21 (m0 54 20)) 64 3 0).bind fun v20 => (wr (mset m0 54 21 (m0 54 20)) 64 3 0 (v20 + 1)).bind fun g21 => some (g21 54 19, g21)
theorem ok_Model_archive_j130 {γ : GG} {tt : Bool} {F : Nat} {p0 : Int32} {g : Mem} {m0 : Mem} {res : Int32 × Mem} (h : sp_Model_archive_j130 F p0 g m0  = some res) : WA γ M_Model_archive 121 130 [some (.ref 54), none, none] [] SH m0 tt (0, 0) (pI SH res.1 res.2 tt) := by
  unfold sp_Model_archive_j130 at h
  refine w_aload_n (q := 131) d_Model_archive_130 rfl rfl ?_
  refine w_get (q := 134) (ci := 12) (j := 19) d_Model_archive_131 rfl (by decide) fl_Model_168 (by decide) (by decide) s_54 rfl rfl ?_
  by_cases c18 : (m0 54 19) = 0
  · rw [if_pos c18] at h
    refine w_if_eq_t (q := 160) d_Model_archive_134 rfl c18 ?_
    refine w_aload_n (q := 161) d_Model_archive_160 rfl rfl ?_
    obtain ⟨v19, hv, h⟩ := bnd h
    refine w_callVv (q := 164) (M' := M_Model_takeOver) (n' := 4) (k := 54) (As := []) (sh' := SH) (b1 := (0, 0)) d_Model_archive_161 rfl mw_Model_takeOver (by decide) (by decide) ml_Model_279 (by decide) s_54 (by decide) rfl rfl rfl (leb rfl) (bz _) (fun _ => rfl) (ok_Model_takeOver hv) ?_
    refine w_iconst (q := 165) (v := 0) d_Model_archive_164 rfl (by decide) ?_
    cases h
    exact w_ireturn d_Model_archive_165 rfl rfl ⟨rfl, rfl, rfl, rfl⟩
  · rw [if_neg c18] at h
    refine w_if_eq_f (q := 137) d_Model_archive_134 160 rfl rfl c18 ?_
    refine w_aload_n (q := 138) d_Model_archive_137 rfl rfl ?_
    refine w_aload_n (q := 139) d_Model_archive_138 rfl rfl ?_
    refine w_get (q := 142) (ci := 12) (j := 20) d_Model_archive_139 rfl (by decide) fl_Model_171 (by decide) (by decide) s_54 rfl rfl ?_
    refine w_put (q := 145) (ci := 12) (j := 21) d_Model_archive_142 rfl (by decide) fl_Model_74 (by decide) (by decide) s_54 rfl rfl rfl rfl rfl rfl ?_
    refine w_aload_n (q := 146) d_Model_archive_145 rfl rfl ?_
    refine w_get (q := 149) (ci := 12) (j := 10) d_Model_archive_146 rfl (by decide) fl_Model_68 (by decide) (by decide) s_54 rfl rfl ?_
    refine w_iconst (q := 150) (v := 0) d_Model_archive_149 rfl (by decide) ?_
    refine w_dup2 (q := 151) d_Model_archive_150 rfl rfl rfl ?_
    obtain ⟨v20, hv, h⟩ := bnd h
    obtain ⟨hi, hv⟩ := rd_ok hv
    refine w_iald (q := 152) (t := 0) d_Model_archive_151 rfl a_64.2 a_64.1 hi rfl ?_
    rw [hv]
    refine w_iconst (q := 153) (v := 1) d_Model_archive_152 rfl (by decide) ?_
    refine w_iadd (q := 154) d_Model_archive_153 rfl ?_
    obtain ⟨g21, hv, h⟩ := bnd h
    obtain ⟨hi, hv⟩ := wr_ok hv
    refine w_iast (q := 155) d_Model_archive_154 rfl a_64.2 a_64.1 hi hv ?_
    refine w_aload_n (q := 156) d_Model_archive_155 rfl rfl ?_
    refine w_get (q := 159) (ci := 12) (j := 19) d_Model_archive_156 rfl (by decide) fl_Model_168 (by decide) (by decide) s_54 rfl rfl ?_
    cases h
    exact w_ireturn d_Model_archive_159 rfl rfl ⟨rfl, rfl, rfl, rfl⟩
def sp_Model_archive (F : Nat) (p0 : Int32) (g : Mem) : Option (Int32 × Mem) := if p0 < 0 then (sp_Model_fail 1 (mset g 54 3 0)).bind fun v2 => some (v2.1, v2.2) else if p0 ≤ ((mset g 54 3 0) 54 12) then (lpO (st_Model_archive_50 F p0 g) F (0, (mset (mset (mset (mset (mset (mset g 54 3 0) 54 12 0) 54 14 p0) 54 13 0) 54 19 0) 54 21 (-1)))).bind fun x12 => (sp_Model_stepOn F x12).bind fun v13 => (lpO (st_Model_archive_107 F p0 g) F (0, v13)).bind fun x17 => sp_Model_archive_j130 F p0 g x17 else (sp_Model_fail 1 (mset g 54 3 0)).bind fun v22 => some (v22.1, v22.2)
theorem ok_Model_archive {γ : GG} {tt : Bool} {F : Nat} {p0 : Int32} {g : Mem} {res : Int32 × Mem} (h : sp_Model_archive F p0 g = some res) : CA γ M_Model_archive 121 [.ref 54, .int p0] SH g tt (0, 0) (pI SH res.1 res.2 tt) := by
  refine CA.of mw_Model_archive.1 1 rfl ?_
  show WA γ M_Model_archive 121 0 [some (.ref 54), some (.int p0), none] [] SH g tt (0, 0) (pI SH res.1 res.2 tt)
  unfold sp_Model_archive at h
  refine w_aload_n (q := 1) d_Model_archive_0 rfl rfl ?_
  refine w_iconst (q := 2) (v := 0) d_Model_archive_1 rfl (by decide) ?_
  refine w_put (q := 5) (ci := 12) (j := 3) d_Model_archive_2 rfl (by decide) fl_Model_114 (by decide) (by decide) s_54 rfl rfl rfl rfl rfl rfl ?_
  refine w_iload_n (q := 6) d_Model_archive_5 rfl rfl ?_
  by_cases c1 : p0 < 0
  · rw [if_pos c1] at h
    refine w_if_lt_t (q := 17) d_Model_archive_6 rfl c1 ?_
    refine w_aload_n (q := 18) d_Model_archive_17 rfl rfl ?_
    refine w_iconst (q := 19) (v := 1) d_Model_archive_18 rfl (by decide) ?_
    obtain ⟨v2, hv, h⟩ := bnd h
    refine w_callVi (q := 22) (M' := M_Model_fail) (n' := 0) (k := 54) (As := [.int 1]) (sh' := SH) (b1 := (0, 0)) d_Model_archive_19 rfl mw_Model_fail (by decide) (by decide) ml_Model_273 (by decide) s_54 (by decide) rfl rfl rfl (leb rfl) (bz _) (fun _ => rfl) (ok_Model_fail hv) ?_
    cases h
    exact w_ireturn d_Model_archive_22 rfl rfl ⟨rfl, rfl, rfl, rfl⟩
  · rw [if_neg c1] at h
    refine w_if_lt_f (q := 9) d_Model_archive_6 17 rfl rfl c1 ?_
    refine w_iload_n (q := 10) d_Model_archive_9 rfl rfl ?_
    refine w_aload_n (q := 11) d_Model_archive_10 rfl rfl ?_
    refine w_get (q := 14) (ci := 12) (j := 12) d_Model_archive_11 rfl (by decide) fl_Model_126 (by decide) (by decide) s_54 rfl rfl ?_
    by_cases c3 : p0 ≤ ((mset g 54 3 0) 54 12)
    · rw [if_pos c3] at h
      refine w_icmp_le_t (q := 23) d_Model_archive_14 rfl c3 ?_
      refine w_aload_n (q := 24) d_Model_archive_23 rfl rfl ?_
      refine w_iconst (q := 25) (v := 0) d_Model_archive_24 rfl (by decide) ?_
      refine w_put (q := 28) (ci := 12) (j := 12) d_Model_archive_25 rfl (by decide) fl_Model_126 (by decide) (by decide) s_54 rfl rfl rfl rfl rfl rfl ?_
      refine w_aload_n (q := 29) d_Model_archive_28 rfl rfl ?_
      refine w_iload_n (q := 30) d_Model_archive_29 rfl rfl ?_
      refine w_put (q := 33) (ci := 12) (j := 14) d_Model_archive_30 rfl (by decide) fl_Model_129 (by decide) (by decide) s_54 rfl rfl rfl rfl rfl rfl ?_
      refine w_aload_n (q := 34) d_Model_archive_33 rfl rfl ?_
      refine w_iconst (q := 35) (v := 0) d_Model_archive_34 rfl (by decide) ?_
      refine w_put (q := 38) (ci := 12) (j := 13) d_Model_archive_35 rfl (by decide) fl_Model_132 (by decide) (by decide) s_54 rfl rfl rfl rfl rfl rfl ?_
      refine w_aload_n (q := 39) d_Model_archive_38 rfl rfl ?_
      refine w_iconst (q := 40) (v := 0) d_Model_archive_39 rfl (by decide) ?_
      refine w_put (q := 43) (ci := 12) (j := 19) d_Model_archive_40 rfl (by decide) fl_Model_168 (by decide) (by decide) s_54 rfl rfl rfl rfl rfl rfl ?_
      refine w_aload_n (q := 44) d_Model_archive_43 rfl rfl ?_
      refine w_iconst (q := 45) (v := (-1)) d_Model_archive_44 rfl (by decide) ?_
      refine w_put (q := 48) (ci := 12) (j := 21) d_Model_archive_45 rfl (by decide) fl_Model_74 (by decide) (by decide) s_54 rfl rfl rfl rfl rfl rfl ?_
      refine w_iconst (q := 49) (v := 0) d_Model_archive_48 rfl (by decide) ?_
      refine w_istore_n (q := 50) (ls' := [some (.ref 54), some (.int p0), some (.int 0)]) d_Model_archive_49 rfl (by decide) rfl rfl ?_
      obtain ⟨x12, hx, h⟩ := bnd h
      refine w_ls (ls' := [some (.ref 54), none, some (.int 0)]) (And.intro rfl (And.intro rfl trivial)) ?_
      show PL_Model_archive_50 γ tt p0 g _ _ (0, (mset (mset (mset (mset (mset (mset g 54 3 0) 54 12 0) 54 14 p0) 54 13 0) 54 19 0) 54 21 (-1)))
      refine lp_ok (kl_Model_archive_50) F _ x12 hx ?_
      unfold QL_Model_archive_50
      refine w_aload_n (q := 102) d_Model_archive_101 rfl rfl ?_
      obtain ⟨v13, hv, h⟩ := bnd h
      refine w_callVv (q := 105) (M' := M_Model_stepOn) (n' := 1) (k := 54) (As := []) (sh' := SH) (b1 := (0, 0)) d_Model_archive_102 rfl mw_Model_stepOn (by decide) (by decide) ml_Model_193 (by decide) s_54 (by decide) rfl rfl rfl (leb rfl) (bz _) (fun _ => rfl) (ok_Model_stepOn hv) ?_
      refine w_iconst (q := 106) (v := 0) d_Model_archive_105 rfl (by decide) ?_
      refine w_istore_n (q := 107) (ls' := [some (.ref 54), none, some (.int 0)]) d_Model_archive_106 rfl (by decide) rfl rfl ?_
      obtain ⟨x17, hx, h⟩ := bnd h
      refine w_ls (ls' := [some (.ref 54), none, some (.int 0)]) (And.intro rfl (And.intro rfl trivial)) ?_
      show PL_Model_archive_107 γ tt p0 g _ _ (0, v13)
      refine lp_ok (kl_Model_archive_107) F _ x17 hx ?_
      unfold QL_Model_archive_107
      refine w_ls (ls' := [some (.ref 54), none, none]) (And.intro rfl trivial) ?_
      exact ok_Model_archive_j130 h
    · rw [if_neg c3] at h
      refine w_icmp_le_f (q := 17) d_Model_archive_14 23 rfl rfl c3 ?_
      refine w_aload_n (q := 18) d_Model_archive_17 rfl rfl ?_
      refine w_iconst (q := 19) (v := 1) d_Model_archive_18 rfl (by decide) ?_
      obtain ⟨v22, hv, h⟩ := bnd h
      refine w_callVi (q := 22) (M' := M_Model_fail) (n' := 0) (k := 54) (As := [.int 1]) (sh' := SH) (b1 := (0, 0)) d_Model_archive_19 rfl mw_Model_fail (by decide) (by decide) ml_Model_273 (by decide) s_54 (by decide) rfl rfl rfl (leb rfl) (bz _) (fun _ => rfl) (ok_Model_fail hv) ?_
      cases h
      exact w_ireturn d_Model_archive_22 rfl rfl ⟨rfl, rfl, rfl, rfl⟩
def sp_Model_fault (g : Mem) : Option (Int32 × Mem) := some ((mset g 54 3 0) 54 21, (mset g 54 3 0))
theorem ok_Model_fault {γ : GG} {tt : Bool} {g : Mem} {res : Int32 × Mem} (h : sp_Model_fault g = some res) : CA γ M_Model_fault 0 [.ref 54] SH g tt (0, 0) (pI SH res.1 res.2 tt) := by
  refine CA.of mw_Model_fault.1 0 rfl ?_
  show WA γ M_Model_fault 0 0 [some (.ref 54)] [] SH g tt (0, 0) (pI SH res.1 res.2 tt)
  unfold sp_Model_fault at h
  refine w_aload_n (q := 1) d_Model_fault_0 rfl rfl ?_
  refine w_iconst (q := 2) (v := 0) d_Model_fault_1 rfl (by decide) ?_
  refine w_put (q := 5) (ci := 12) (j := 3) d_Model_fault_2 rfl (by decide) fl_Model_114 (by decide) (by decide) s_54 rfl rfl rfl rfl rfl rfl ?_
  refine w_aload_n (q := 6) d_Model_fault_5 rfl rfl ?_
  refine w_get (q := 9) (ci := 12) (j := 21) d_Model_fault_6 rfl (by decide) fl_Model_74 (by decide) (by decide) s_54 rfl rfl ?_
  cases h
  exact w_ireturn d_Model_fault_9 rfl rfl ⟨rfl, rfl, rfl, rfl⟩
def PL_Model_pack_27 (γ : GG) (tt : Bool) (q0 : Nat) (q0n : Nat) (p1 : Int32) (g : Mem) (k2 : Int32) (b : Nat × Nat) (Φ : PO) (s : Int32 × Mem) : Prop := WA γ M_Model_pack 0 27 [some (.ref 54), some (.ref q0), some (.int k2), some (.int s.1), none] [] SH s.2 tt b Φ
def QL_Model_pack_27 (γ : GG) (tt : Bool) (q0 : Nat) (q0n : Nat) (p1 : Int32) (g : Mem) (k2 : Int32) (b : Nat × Nat) (Φ : PO) (x : (Mem)) : Prop := WA γ M_Model_pack 0 68 [some (.ref 54), some (.ref q0), some (.int k2), none, none] [] SH x tt b Φ
def st_Model_pack_27 (F : Nat) (q0 : Nat) (q0n : Nat) (p1 : Int32) (g : Mem) (k2 : Int32) (s : Int32 × Mem) : Option ((Int32 × Mem) ⊕ ((Mem))) := if 6 ≤ s.1 then some (.inr s.2) else (rd s.2 61 12 s.1).bind fun v5 => (wr s.2 q0 q0n ((k2 + 3) + s.1) v5).bind fun g6 => (rd g6 66 6 s.1).bind fun v7 => (wr g6 q0 q0n (((k2 + 3) + 6) + s.1) v7).bind fun g8 => some (.inl (s.1 + 1, g8))
theorem kl_Model_pack_27 {γ : GG} {tt : Bool} {F : Nat} {q0 : Nat} {q0n : Nat} {p1 : Int32} {g : Mem} {k2 : Int32} {b : Nat × Nat} {Φ : PO} (hq0 : isA SH q0 q0n) : ∀ (s : Int32 × Mem) (r : (Int32 × Mem) ⊕ ((Mem))), st_Model_pack_27 F q0 q0n p1 g k2 s = some r → RQ (PL_Model_pack_27 γ tt q0 q0n p1 g k2 b Φ) (QL_Model_pack_27 γ tt q0 q0n p1 g k2 b Φ) r → PL_Model_pack_27 γ tt q0 q0n p1 g k2 b Φ s := by
  intro s r h hr
  unfold st_Model_pack_27 at h
  unfold PL_Model_pack_27
  refine w_iload_n (q := 28) d_Model_pack_27 rfl rfl ?_
  refine w_bipush (q := 30) (v := 6) d_Model_pack_28 rfl (by decide) ?_
  by_cases c4 : 6 ≤ s.1
  · rw [if_pos c4] at h
    refine w_icmp_ge_t (q := 68) d_Model_pack_30 rfl c4 ?_
    cases h
    exact w_ls (by exact (And.intro rfl (And.intro rfl (And.intro rfl trivial)))) hr
  · rw [if_neg c4] at h
    refine w_icmp_ge_f (q := 33) d_Model_pack_30 68 rfl rfl c4 ?_
    refine w_aload_n (q := 34) d_Model_pack_33 rfl rfl ?_
    refine w_iload_n (q := 35) d_Model_pack_34 rfl rfl ?_
    refine w_iconst (q := 36) (v := 3) d_Model_pack_35 rfl (by decide) ?_
    refine w_iadd (q := 37) d_Model_pack_36 rfl ?_
    refine w_iload_n (q := 38) d_Model_pack_37 rfl rfl ?_
    refine w_iadd (q := 39) d_Model_pack_38 rfl ?_
    refine w_aload_n (q := 40) d_Model_pack_39 rfl rfl ?_
    refine w_get (q := 43) (ci := 12) (j := 7) d_Model_pack_40 rfl (by decide) fl_Model_59 (by decide) (by decide) s_54 rfl rfl ?_
    refine w_iload_n (q := 44) d_Model_pack_43 rfl rfl ?_
    obtain ⟨v5, hv, h⟩ := bnd h
    obtain ⟨hi, hv⟩ := rd_ok hv
    refine w_iald (q := 45) (t := 0) d_Model_pack_44 rfl a_61.2 a_61.1 hi rfl ?_
    rw [hv]
    obtain ⟨g6, hv, h⟩ := bnd h
    obtain ⟨hi, hv⟩ := wr_ok hv
    refine w_iast (q := 46) d_Model_pack_45 rfl hq0.2 hq0.1 hi hv ?_
    refine w_aload_n (q := 47) d_Model_pack_46 rfl rfl ?_
    refine w_iload_n (q := 48) d_Model_pack_47 rfl rfl ?_
    refine w_iconst (q := 49) (v := 3) d_Model_pack_48 rfl (by decide) ?_
    refine w_iadd (q := 50) d_Model_pack_49 rfl ?_
    refine w_bipush (q := 52) (v := 6) d_Model_pack_50 rfl (by decide) ?_
    refine w_iadd (q := 53) d_Model_pack_52 rfl ?_
    refine w_iload_n (q := 54) d_Model_pack_53 rfl rfl ?_
    refine w_iadd (q := 55) d_Model_pack_54 rfl ?_
    refine w_aload_n (q := 56) d_Model_pack_55 rfl rfl ?_
    refine w_get (q := 59) (ci := 12) (j := 22) d_Model_pack_56 rfl (by decide) fl_Model_78 (by decide) (by decide) s_54 rfl rfl ?_
    refine w_iload_n (q := 60) d_Model_pack_59 rfl rfl ?_
    obtain ⟨v7, hv, h⟩ := bnd h
    obtain ⟨hi, hv⟩ := rd_ok hv
    refine w_iald (q := 61) (t := 0) d_Model_pack_60 rfl a_66.2 a_66.1 hi rfl ?_
    rw [hv]
    obtain ⟨g8, hv, h⟩ := bnd h
    obtain ⟨hi, hv⟩ := wr_ok hv
    refine w_iast (q := 62) d_Model_pack_61 rfl hq0.2 hq0.1 hi hv ?_
    refine w_iinc (q := 65) (ls' := [some (.ref 54), some (.ref q0), some (.int k2), some (.int (s.1 + 1)), none]) d_Model_pack_62 rfl (by decide) rfl rfl rfl ?_
    refine w_goto (q := 27) d_Model_pack_65 rfl ?_
    cases h
    exact w_ls (by exact (And.intro rfl (And.intro rfl (And.intro rfl (And.intro rfl trivial))))) hr
def PL_Model_pack_78 (γ : GG) (tt : Bool) (q0 : Nat) (q0n : Nat) (p1 : Int32) (g : Mem) (k3 : Int32) (b : Nat × Nat) (Φ : PO) (s : Int32 × Mem) : Prop := WA γ M_Model_pack 0 78 [some (.ref 54), some (.ref q0), none, some (.int k3), some (.int s.1)] [] SH s.2 tt b Φ
def QL_Model_pack_78 (γ : GG) (tt : Bool) (q0 : Nat) (q0n : Nat) (p1 : Int32) (g : Mem) (k3 : Int32) (b : Nat × Nat) (Φ : PO) (x : (Mem)) : Prop := WA γ M_Model_pack 0 105 [none, none, none, none, none] [] SH x tt b Φ
def st_Model_pack_78 (F : Nat) (q0 : Nat) (q0n : Nat) (p1 : Int32) (g : Mem) (k3 : Int32) (s : Int32 × Mem) : Option ((Int32 × Mem) ⊕ ((Mem))) := if 216 ≤ s.1 then some (.inr s.2) else (rd s.2 62 432 s.1).bind fun v11 => (wr s.2 q0 q0n (k3 + s.1) v11).bind fun g12 => some (.inl (s.1 + 1, g12))
theorem kl_Model_pack_78 {γ : GG} {tt : Bool} {F : Nat} {q0 : Nat} {q0n : Nat} {p1 : Int32} {g : Mem} {k3 : Int32} {b : Nat × Nat} {Φ : PO} (hq0 : isA SH q0 q0n) : ∀ (s : Int32 × Mem) (r : (Int32 × Mem) ⊕ ((Mem))), st_Model_pack_78 F q0 q0n p1 g k3 s = some r → RQ (PL_Model_pack_78 γ tt q0 q0n p1 g k3 b Φ) (QL_Model_pack_78 γ tt q0 q0n p1 g k3 b Φ) r → PL_Model_pack_78 γ tt q0 q0n p1 g k3 b Φ s := by
  intro s r h hr
  unfold st_Model_pack_78 at h
  unfold PL_Model_pack_78
  refine w_iload (q := 80) d_Model_pack_78 rfl rfl ?_
  refine w_sipush (q := 83) (v := 216) d_Model_pack_80 rfl (by decide) ?_
  by_cases c10 : 216 ≤ s.1
  · rw [if_pos c10] at h
    refine w_icmp_ge_t (q := 105) d_Model_pack_83 rfl c10 ?_
    cases h
    exact w_ls (by exact trivial) hr
  · rw [if_neg c10] at h
    refine w_icmp_ge_f (q := 86) d_Model_pack_83 105 rfl rfl c10 ?_
    refine w_aload_n (q := 87) d_Model_pack_86 rfl rfl ?_
    refine w_iload_n (q := 88) d_Model_pack_87 rfl rfl ?_
    refine w_iload (q := 90) d_Model_pack_88 rfl rfl ?_
    refine w_iadd (q := 91) d_Model_pack_90 rfl ?_
    refine w_aload_n (q := 92) d_Model_pack_91 rfl rfl ?_
    refine w_get (q := 95) (ci := 12) (j := 8) d_Model_pack_92 rfl (by decide) fl_Model_62 (by decide) (by decide) s_54 rfl rfl ?_
    refine w_iload (q := 97) d_Model_pack_95 rfl rfl ?_
    obtain ⟨v11, hv, h⟩ := bnd h
    obtain ⟨hi, hv⟩ := rd_ok hv
    refine w_iald (q := 98) (t := 0) d_Model_pack_97 rfl a_62.2 a_62.1 hi rfl ?_
    rw [hv]
    obtain ⟨g12, hv, h⟩ := bnd h
    obtain ⟨hi, hv⟩ := wr_ok hv
    refine w_iast (q := 99) d_Model_pack_98 rfl hq0.2 hq0.1 hi hv ?_
    refine w_iinc (q := 102) (ls' := [some (.ref 54), some (.ref q0), none, some (.int k3), some (.int (s.1 + 1))]) d_Model_pack_99 rfl (by decide) rfl rfl rfl ?_
    refine w_goto (q := 78) d_Model_pack_102 rfl ?_
    cases h
    exact w_ls (by exact (And.intro rfl (And.intro rfl (And.intro rfl (And.intro rfl trivial))))) hr
def sp_Model_pack (F : Nat) (q0 : Nat) (q0n : Nat) (p1 : Int32) (g : Mem) : Option (Mem) := (wr g q0 q0n p1 (g 54 24)).bind fun g1 => (wr g1 q0 q0n (p1 + 1) (g1 54 25)).bind fun g2 => (wr g2 q0 q0n (p1 + 2) (g2 54 26)).bind fun g3 => (lpO (st_Model_pack_27 F q0 q0n p1 g p1) F (0, g3)).bind fun x9 => (lpO (st_Model_pack_78 F q0 q0n p1 g ((p1 + 3) + 12)) F (0, x9)).bind fun x13 => some x13
theorem ok_Model_pack {γ : GG} {tt : Bool} {F : Nat} {q0 : Nat} {q0n : Nat} {p1 : Int32} {g : Mem} (hq0 : isA SH q0 q0n) {res : Mem} (h : sp_Model_pack F q0 q0n p1 g = some res) : CA γ M_Model_pack 0 [.ref 54, .ref q0, .int p1] SH g tt (0, 0) (pV SH res tt) := by
  refine CA.of mw_Model_pack.1 2 rfl ?_
  show WA γ M_Model_pack 0 0 [some (.ref 54), some (.ref q0), some (.int p1), none, none] [] SH g tt (0, 0) (pV SH res tt)
  unfold sp_Model_pack at h
  refine w_aload_n (q := 1) d_Model_pack_0 rfl rfl ?_
  refine w_iload_n (q := 2) d_Model_pack_1 rfl rfl ?_
  refine w_aload_n (q := 3) d_Model_pack_2 rfl rfl ?_
  refine w_get (q := 6) (ci := 12) (j := 24) d_Model_pack_3 rfl (by decide) fl_Model_286 (by decide) (by decide) s_54 rfl rfl ?_
  obtain ⟨g1, hv, h⟩ := bnd h
  obtain ⟨hi, hv⟩ := wr_ok hv
  refine w_iast (q := 7) d_Model_pack_6 rfl hq0.2 hq0.1 hi hv ?_
  refine w_aload_n (q := 8) d_Model_pack_7 rfl rfl ?_
  refine w_iload_n (q := 9) d_Model_pack_8 rfl rfl ?_
  refine w_iconst (q := 10) (v := 1) d_Model_pack_9 rfl (by decide) ?_
  refine w_iadd (q := 11) d_Model_pack_10 rfl ?_
  refine w_aload_n (q := 12) d_Model_pack_11 rfl rfl ?_
  refine w_get (q := 15) (ci := 12) (j := 25) d_Model_pack_12 rfl (by decide) fl_Model_289 (by decide) (by decide) s_54 rfl rfl ?_
  obtain ⟨g2, hv, h⟩ := bnd h
  obtain ⟨hi, hv⟩ := wr_ok hv
  refine w_iast (q := 16) d_Model_pack_15 rfl hq0.2 hq0.1 hi hv ?_
  refine w_aload_n (q := 17) d_Model_pack_16 rfl rfl ?_
  refine w_iload_n (q := 18) d_Model_pack_17 rfl rfl ?_
  refine w_iconst (q := 19) (v := 2) d_Model_pack_18 rfl (by decide) ?_
  refine w_iadd (q := 20) d_Model_pack_19 rfl ?_
  refine w_aload_n (q := 21) d_Model_pack_20 rfl rfl ?_
  refine w_get (q := 24) (ci := 12) (j := 26) d_Model_pack_21 rfl (by decide) fl_Model_121 (by decide) (by decide) s_54 rfl rfl ?_
  obtain ⟨g3, hv, h⟩ := bnd h
  obtain ⟨hi, hv⟩ := wr_ok hv
  refine w_iast (q := 25) d_Model_pack_24 rfl hq0.2 hq0.1 hi hv ?_
  refine w_iconst (q := 26) (v := 0) d_Model_pack_25 rfl (by decide) ?_
  refine w_istore_n (q := 27) (ls' := [some (.ref 54), some (.ref q0), some (.int p1), some (.int 0), none]) d_Model_pack_26 rfl (by decide) rfl rfl ?_
  obtain ⟨x9, hx, h⟩ := bnd h
  refine w_ls (ls' := [some (.ref 54), some (.ref q0), some (.int p1), some (.int 0), none]) (And.intro rfl (And.intro rfl (And.intro rfl (And.intro rfl trivial)))) ?_
  show PL_Model_pack_27 γ tt q0 q0n p1 g p1 _ _ (0, g3)
  refine lp_ok (kl_Model_pack_27 hq0) F _ x9 hx ?_
  unfold QL_Model_pack_27
  refine w_iload_n (q := 69) d_Model_pack_68 rfl rfl ?_
  refine w_iconst (q := 70) (v := 3) d_Model_pack_69 rfl (by decide) ?_
  refine w_iadd (q := 71) d_Model_pack_70 rfl ?_
  refine w_bipush (q := 73) (v := 12) d_Model_pack_71 rfl (by decide) ?_
  refine w_iadd (q := 74) d_Model_pack_73 rfl ?_
  refine w_istore_n (q := 75) (ls' := [some (.ref 54), some (.ref q0), some (.int p1), some (.int ((p1 + 3) + 12)), none]) d_Model_pack_74 rfl (by decide) rfl rfl ?_
  refine w_iconst (q := 76) (v := 0) d_Model_pack_75 rfl (by decide) ?_
  refine w_istore (q := 78) (ls' := [some (.ref 54), some (.ref q0), some (.int p1), some (.int ((p1 + 3) + 12)), some (.int 0)]) d_Model_pack_76 rfl (by decide) rfl rfl ?_
  obtain ⟨x13, hx, h⟩ := bnd h
  refine w_ls (ls' := [some (.ref 54), some (.ref q0), none, some (.int ((p1 + 3) + 12)), some (.int 0)]) (And.intro rfl (And.intro rfl (And.intro rfl (And.intro rfl trivial)))) ?_
  show PL_Model_pack_78 γ tt q0 q0n p1 g ((p1 + 3) + 12) _ _ (0, x9)
  refine lp_ok (kl_Model_pack_78 hq0) F _ x13 hx ?_
  unfold QL_Model_pack_78
  cases h
  exact w_return d_Model_pack_105 rfl ⟨rfl, rfl, rfl, rfl⟩
def PL_Model_unpack_27 (γ : GG) (tt : Bool) (q0 : Nat) (q0n : Nat) (p1 : Int32) (g : Mem) (k2 : Int32) (b : Nat × Nat) (Φ : PO) (s : Int32 × Mem) : Prop := WA γ M_Model_unpack 0 27 [some (.ref 54), some (.ref q0), some (.int k2), some (.int s.1), none] [] SH s.2 tt b Φ
def QL_Model_unpack_27 (γ : GG) (tt : Bool) (q0 : Nat) (q0n : Nat) (p1 : Int32) (g : Mem) (k2 : Int32) (b : Nat × Nat) (Φ : PO) (x : (Mem)) : Prop := WA γ M_Model_unpack 0 68 [some (.ref 54), some (.ref q0), some (.int k2), none, none] [] SH x tt b Φ
def st_Model_unpack_27 (F : Nat) (q0 : Nat) (q0n : Nat) (p1 : Int32) (g : Mem) (k2 : Int32) (s : Int32 × Mem) : Option ((Int32 × Mem) ⊕ ((Mem))) := if 6 ≤ s.1 then some (.inr s.2) else (rd s.2 q0 q0n ((k2 + 3) + s.1)).bind fun v5 => (wr s.2 61 12 s.1 v5).bind fun g6 => (rd g6 q0 q0n (((k2 + 3) + 6) + s.1)).bind fun v7 => (wr g6 66 6 s.1 v7).bind fun g8 => some (.inl (s.1 + 1, g8))
theorem kl_Model_unpack_27 {γ : GG} {tt : Bool} {F : Nat} {q0 : Nat} {q0n : Nat} {p1 : Int32} {g : Mem} {k2 : Int32} {b : Nat × Nat} {Φ : PO} (hq0 : isA SH q0 q0n) : ∀ (s : Int32 × Mem) (r : (Int32 × Mem) ⊕ ((Mem))), st_Model_unpack_27 F q0 q0n p1 g k2 s = some r → RQ (PL_Model_unpack_27 γ tt q0 q0n p1 g k2 b Φ) (QL_Model_unpack_27 γ tt q0 q0n p1 g k2 b Φ) r → PL_Model_unpack_27 γ tt q0 q0n p1 g k2 b Φ s := by
  intro s r h hr
  unfold st_Model_unpack_27 at h
  unfold PL_Model_unpack_27
  refine w_iload_n (q := 28) d_Model_unpack_27 rfl rfl ?_
  refine w_bipush (q := 30) (v := 6) d_Model_unpack_28 rfl (by decide) ?_
  by_cases c4 : 6 ≤ s.1
  · rw [if_pos c4] at h
    refine w_icmp_ge_t (q := 68) d_Model_unpack_30 rfl c4 ?_
    cases h
    exact w_ls (by exact (And.intro rfl (And.intro rfl (And.intro rfl trivial)))) hr
  · rw [if_neg c4] at h
    refine w_icmp_ge_f (q := 33) d_Model_unpack_30 68 rfl rfl c4 ?_
    refine w_aload_n (q := 34) d_Model_unpack_33 rfl rfl ?_
    refine w_get (q := 37) (ci := 12) (j := 7) d_Model_unpack_34 rfl (by decide) fl_Model_59 (by decide) (by decide) s_54 rfl rfl ?_
    refine w_iload_n (q := 38) d_Model_unpack_37 rfl rfl ?_
    refine w_aload_n (q := 39) d_Model_unpack_38 rfl rfl ?_
    refine w_iload_n (q := 40) d_Model_unpack_39 rfl rfl ?_
    refine w_iconst (q := 41) (v := 3) d_Model_unpack_40 rfl (by decide) ?_
    refine w_iadd (q := 42) d_Model_unpack_41 rfl ?_
    refine w_iload_n (q := 43) d_Model_unpack_42 rfl rfl ?_
    refine w_iadd (q := 44) d_Model_unpack_43 rfl ?_
    obtain ⟨v5, hv, h⟩ := bnd h
    obtain ⟨hi, hv⟩ := rd_ok hv
    refine w_iald (q := 45) (t := 0) d_Model_unpack_44 rfl hq0.2 hq0.1 hi rfl ?_
    rw [hv]
    obtain ⟨g6, hv, h⟩ := bnd h
    obtain ⟨hi, hv⟩ := wr_ok hv
    refine w_iast (q := 46) d_Model_unpack_45 rfl a_61.2 a_61.1 hi hv ?_
    refine w_aload_n (q := 47) d_Model_unpack_46 rfl rfl ?_
    refine w_get (q := 50) (ci := 12) (j := 22) d_Model_unpack_47 rfl (by decide) fl_Model_78 (by decide) (by decide) s_54 rfl rfl ?_
    refine w_iload_n (q := 51) d_Model_unpack_50 rfl rfl ?_
    refine w_aload_n (q := 52) d_Model_unpack_51 rfl rfl ?_
    refine w_iload_n (q := 53) d_Model_unpack_52 rfl rfl ?_
    refine w_iconst (q := 54) (v := 3) d_Model_unpack_53 rfl (by decide) ?_
    refine w_iadd (q := 55) d_Model_unpack_54 rfl ?_
    refine w_bipush (q := 57) (v := 6) d_Model_unpack_55 rfl (by decide) ?_
    refine w_iadd (q := 58) d_Model_unpack_57 rfl ?_
    refine w_iload_n (q := 59) d_Model_unpack_58 rfl rfl ?_
    refine w_iadd (q := 60) d_Model_unpack_59 rfl ?_
    obtain ⟨v7, hv, h⟩ := bnd h
    obtain ⟨hi, hv⟩ := rd_ok hv
    refine w_iald (q := 61) (t := 0) d_Model_unpack_60 rfl hq0.2 hq0.1 hi rfl ?_
    rw [hv]
    obtain ⟨g8, hv, h⟩ := bnd h
    obtain ⟨hi, hv⟩ := wr_ok hv
    refine w_iast (q := 62) d_Model_unpack_61 rfl a_66.2 a_66.1 hi hv ?_
    refine w_iinc (q := 65) (ls' := [some (.ref 54), some (.ref q0), some (.int k2), some (.int (s.1 + 1)), none]) d_Model_unpack_62 rfl (by decide) rfl rfl rfl ?_
    refine w_goto (q := 27) d_Model_unpack_65 rfl ?_
    cases h
    exact w_ls (by exact (And.intro rfl (And.intro rfl (And.intro rfl (And.intro rfl trivial))))) hr
def PL_Model_unpack_78 (γ : GG) (tt : Bool) (q0 : Nat) (q0n : Nat) (p1 : Int32) (g : Mem) (k3 : Int32) (b : Nat × Nat) (Φ : PO) (s : Int32 × Mem) : Prop := WA γ M_Model_unpack 0 78 [some (.ref 54), some (.ref q0), none, some (.int k3), some (.int s.1)] [] SH s.2 tt b Φ
def QL_Model_unpack_78 (γ : GG) (tt : Bool) (q0 : Nat) (q0n : Nat) (p1 : Int32) (g : Mem) (k3 : Int32) (b : Nat × Nat) (Φ : PO) (x : (Mem)) : Prop := WA γ M_Model_unpack 0 105 [none, none, none, none, none] [] SH x tt b Φ
def st_Model_unpack_78 (F : Nat) (q0 : Nat) (q0n : Nat) (p1 : Int32) (g : Mem) (k3 : Int32) (s : Int32 × Mem) : Option ((Int32 × Mem) ⊕ ((Mem))) := if 216 ≤ s.1 then some (.inr s.2) else (rd s.2 q0 q0n (k3 + s.1)).bind fun v11 => (wr s.2 62 432 s.1 v11).bind fun g12 => some (.inl (s.1 + 1, g12))
theorem kl_Model_unpack_78 {γ : GG} {tt : Bool} {F : Nat} {q0 : Nat} {q0n : Nat} {p1 : Int32} {g : Mem} {k3 : Int32} {b : Nat × Nat} {Φ : PO} (hq0 : isA SH q0 q0n) : ∀ (s : Int32 × Mem) (r : (Int32 × Mem) ⊕ ((Mem))), st_Model_unpack_78 F q0 q0n p1 g k3 s = some r → RQ (PL_Model_unpack_78 γ tt q0 q0n p1 g k3 b Φ) (QL_Model_unpack_78 γ tt q0 q0n p1 g k3 b Φ) r → PL_Model_unpack_78 γ tt q0 q0n p1 g k3 b Φ s := by
  intro s r h hr
  unfold st_Model_unpack_78 at h
  unfold PL_Model_unpack_78
  refine w_iload (q := 80) d_Model_unpack_78 rfl rfl ?_
  refine w_sipush (q := 83) (v := 216) d_Model_unpack_80 rfl (by decide) ?_
  by_cases c10 : 216 ≤ s.1
  · rw [if_pos c10] at h
    refine w_icmp_ge_t (q := 105) d_Model_unpack_83 rfl c10 ?_
    cases h
    exact w_ls (by exact trivial) hr
  · rw [if_neg c10] at h
    refine w_icmp_ge_f (q := 86) d_Model_unpack_83 105 rfl rfl c10 ?_
    refine w_aload_n (q := 87) d_Model_unpack_86 rfl rfl ?_
    refine w_get (q := 90) (ci := 12) (j := 8) d_Model_unpack_87 rfl (by decide) fl_Model_62 (by decide) (by decide) s_54 rfl rfl ?_
    refine w_iload (q := 92) d_Model_unpack_90 rfl rfl ?_
    refine w_aload_n (q := 93) d_Model_unpack_92 rfl rfl ?_
    refine w_iload_n (q := 94) d_Model_unpack_93 rfl rfl ?_
    refine w_iload (q := 96) d_Model_unpack_94 rfl rfl ?_
    refine w_iadd (q := 97) d_Model_unpack_96 rfl ?_
    obtain ⟨v11, hv, h⟩ := bnd h
    obtain ⟨hi, hv⟩ := rd_ok hv
    refine w_iald (q := 98) (t := 0) d_Model_unpack_97 rfl hq0.2 hq0.1 hi rfl ?_
    rw [hv]
    obtain ⟨g12, hv, h⟩ := bnd h
    obtain ⟨hi, hv⟩ := wr_ok hv
    refine w_iast (q := 99) d_Model_unpack_98 rfl a_62.2 a_62.1 hi hv ?_
    refine w_iinc (q := 102) (ls' := [some (.ref 54), some (.ref q0), none, some (.int k3), some (.int (s.1 + 1))]) d_Model_unpack_99 rfl (by decide) rfl rfl rfl ?_
    refine w_goto (q := 78) d_Model_unpack_102 rfl ?_
    cases h
    exact w_ls (by exact (And.intro rfl (And.intro rfl (And.intro rfl (And.intro rfl trivial))))) hr
def sp_Model_unpack (F : Nat) (q0 : Nat) (q0n : Nat) (p1 : Int32) (g : Mem) : Option (Mem) := (rd g q0 q0n p1).bind fun v1 => (rd (mset g 54 24 v1) q0 q0n (p1 + 1)).bind fun v2 => (rd (mset (mset g 54 24 v1) 54 25 v2) q0 q0n (p1 + 2)).bind fun v3 => (lpO (st_Model_unpack_27 F q0 q0n p1 g p1) F (0, (mset (mset (mset g 54 24 v1) 54 25 v2) 54 26 v3))).bind fun x9 => (lpO (st_Model_unpack_78 F q0 q0n p1 g ((p1 + 3) + 12)) F (0, x9)).bind fun x13 => some x13
theorem ok_Model_unpack {γ : GG} {tt : Bool} {F : Nat} {q0 : Nat} {q0n : Nat} {p1 : Int32} {g : Mem} (hq0 : isA SH q0 q0n) {res : Mem} (h : sp_Model_unpack F q0 q0n p1 g = some res) : CA γ M_Model_unpack 0 [.ref 54, .ref q0, .int p1] SH g tt (0, 0) (pV SH res tt) := by
  refine CA.of mw_Model_unpack.1 2 rfl ?_
  show WA γ M_Model_unpack 0 0 [some (.ref 54), some (.ref q0), some (.int p1), none, none] [] SH g tt (0, 0) (pV SH res tt)
  unfold sp_Model_unpack at h
  refine w_aload_n (q := 1) d_Model_unpack_0 rfl rfl ?_
  refine w_aload_n (q := 2) d_Model_unpack_1 rfl rfl ?_
  refine w_iload_n (q := 3) d_Model_unpack_2 rfl rfl ?_
  obtain ⟨v1, hv, h⟩ := bnd h
  obtain ⟨hi, hv⟩ := rd_ok hv
  refine w_iald (q := 4) (t := 0) d_Model_unpack_3 rfl hq0.2 hq0.1 hi rfl ?_
  rw [hv]
  refine w_put (q := 7) (ci := 12) (j := 24) d_Model_unpack_4 rfl (by decide) fl_Model_286 (by decide) (by decide) s_54 rfl rfl rfl rfl rfl rfl ?_
  refine w_aload_n (q := 8) d_Model_unpack_7 rfl rfl ?_
  refine w_aload_n (q := 9) d_Model_unpack_8 rfl rfl ?_
  refine w_iload_n (q := 10) d_Model_unpack_9 rfl rfl ?_
  refine w_iconst (q := 11) (v := 1) d_Model_unpack_10 rfl (by decide) ?_
  refine w_iadd (q := 12) d_Model_unpack_11 rfl ?_
  obtain ⟨v2, hv, h⟩ := bnd h
  obtain ⟨hi, hv⟩ := rd_ok hv
  refine w_iald (q := 13) (t := 0) d_Model_unpack_12 rfl hq0.2 hq0.1 hi rfl ?_
  rw [hv]
  refine w_put (q := 16) (ci := 12) (j := 25) d_Model_unpack_13 rfl (by decide) fl_Model_289 (by decide) (by decide) s_54 rfl rfl rfl rfl rfl rfl ?_
  refine w_aload_n (q := 17) d_Model_unpack_16 rfl rfl ?_
  refine w_aload_n (q := 18) d_Model_unpack_17 rfl rfl ?_
  refine w_iload_n (q := 19) d_Model_unpack_18 rfl rfl ?_
  refine w_iconst (q := 20) (v := 2) d_Model_unpack_19 rfl (by decide) ?_
  refine w_iadd (q := 21) d_Model_unpack_20 rfl ?_
  obtain ⟨v3, hv, h⟩ := bnd h
  obtain ⟨hi, hv⟩ := rd_ok hv
  refine w_iald (q := 22) (t := 0) d_Model_unpack_21 rfl hq0.2 hq0.1 hi rfl ?_
  rw [hv]
  refine w_put (q := 25) (ci := 12) (j := 26) d_Model_unpack_22 rfl (by decide) fl_Model_121 (by decide) (by decide) s_54 rfl rfl rfl rfl rfl rfl ?_
  refine w_iconst (q := 26) (v := 0) d_Model_unpack_25 rfl (by decide) ?_
  refine w_istore_n (q := 27) (ls' := [some (.ref 54), some (.ref q0), some (.int p1), some (.int 0), none]) d_Model_unpack_26 rfl (by decide) rfl rfl ?_
  obtain ⟨x9, hx, h⟩ := bnd h
  refine w_ls (ls' := [some (.ref 54), some (.ref q0), some (.int p1), some (.int 0), none]) (And.intro rfl (And.intro rfl (And.intro rfl (And.intro rfl trivial)))) ?_
  show PL_Model_unpack_27 γ tt q0 q0n p1 g p1 _ _ (0, (mset (mset (mset g 54 24 v1) 54 25 v2) 54 26 v3))
  refine lp_ok (kl_Model_unpack_27 hq0) F _ x9 hx ?_
  unfold QL_Model_unpack_27
  refine w_iload_n (q := 69) d_Model_unpack_68 rfl rfl ?_
  refine w_iconst (q := 70) (v := 3) d_Model_unpack_69 rfl (by decide) ?_
  refine w_iadd (q := 71) d_Model_unpack_70 rfl ?_
  refine w_bipush (q := 73) (v := 12) d_Model_unpack_71 rfl (by decide) ?_
  refine w_iadd (q := 74) d_Model_unpack_73 rfl ?_
  refine w_istore_n (q := 75) (ls' := [some (.ref 54), some (.ref q0), some (.int p1), some (.int ((p1 + 3) + 12)), none]) d_Model_unpack_74 rfl (by decide) rfl rfl ?_
  refine w_iconst (q := 76) (v := 0) d_Model_unpack_75 rfl (by decide) ?_
  refine w_istore (q := 78) (ls' := [some (.ref 54), some (.ref q0), some (.int p1), some (.int ((p1 + 3) + 12)), some (.int 0)]) d_Model_unpack_76 rfl (by decide) rfl rfl ?_
  obtain ⟨x13, hx, h⟩ := bnd h
  refine w_ls (ls' := [some (.ref 54), some (.ref q0), none, some (.int ((p1 + 3) + 12)), some (.int 0)]) (And.intro rfl (And.intro rfl (And.intro rfl (And.intro rfl trivial)))) ?_
  show PL_Model_unpack_78 γ tt q0 q0n p1 g ((p1 + 3) + 12) _ _ (0, x9)
  refine lp_ok (kl_Model_unpack_78 hq0) F _ x13 hx ?_
  unfold QL_Model_unpack_78
  cases h
  exact w_return d_Model_unpack_105 rfl ⟨rfl, rfl, rfl, rfl⟩
def PL_Model_yearGoes_12 (γ : GG) (tt : Bool) (g : Mem) (b : Nat × Nat) (Φ : PO) (s : Int32 × Mem) : Prop := WA γ M_Model_yearGoes 4 12 [some (.ref 54), some (.int s.1)] [] SH s.2 tt b Φ
def QL_Model_yearGoes_12 (γ : GG) (tt : Bool) (g : Mem) (b : Nat × Nat) (Φ : PO) (x : (Mem)) : Prop := WA γ M_Model_yearGoes 4 71 [some (.ref 54), none] [] SH x tt b Φ
def st_Model_yearGoes_12 (F : Nat) (g : Mem) (s : Int32 × Mem) : Option ((Int32 × Mem) ⊕ ((Mem))) := (rd s.2 58 12 0).bind fun v1 => if v1 ≤ s.1 then some (.inr s.2) else (sp_Model_isOf (s.2 54 25) s.1 s.2).bind fun v3 => if v3 = 0 then (rd s.2 61 12 s.1).bind fun v5 => (rd s.2 59 12 s.1).bind fun v6 => (rd s.2 58 12 1).bind fun v7 => (sp_Model_mayHave v6 v7 s.2).bind fun v8 => (sp_JMath_min (v5 + 1) v8 s.2).bind fun v9 => (wr s.2 61 12 s.1 v9).bind fun g10 => some (.inl (s.1 + 1, g10)) else some (.inl (s.1 + 1, s.2))
theorem kl_Model_yearGoes_12 {γ : GG} {tt : Bool} {F : Nat} {g : Mem} {b : Nat × Nat} {Φ : PO} : ∀ (s : Int32 × Mem) (r : (Int32 × Mem) ⊕ ((Mem))), st_Model_yearGoes_12 F g s = some r → RQ (PL_Model_yearGoes_12 γ tt g b Φ) (QL_Model_yearGoes_12 γ tt g b Φ) r → PL_Model_yearGoes_12 γ tt g b Φ s := by
  intro s r h hr
  unfold st_Model_yearGoes_12 at h
  unfold PL_Model_yearGoes_12
  refine w_iload_n (q := 13) d_Model_yearGoes_12 rfl rfl ?_
  refine w_aload_n (q := 14) d_Model_yearGoes_13 rfl rfl ?_
  refine w_get (q := 17) (ci := 12) (j := 4) d_Model_yearGoes_14 rfl (by decide) fl_Model_51 (by decide) (by decide) s_54 rfl rfl ?_
  refine w_iconst (q := 18) (v := 0) d_Model_yearGoes_17 rfl (by decide) ?_
  obtain ⟨v1, hv, h⟩ := bnd h
  obtain ⟨hi, hv⟩ := rd_ok hv
  refine w_iald (q := 19) (t := 0) d_Model_yearGoes_18 rfl a_58.2 a_58.1 hi rfl ?_
  rw [hv]
  by_cases c2 : v1 ≤ s.1
  · rw [if_pos c2] at h
    refine w_icmp_ge_t (q := 71) d_Model_yearGoes_19 rfl c2 ?_
    cases h
    exact w_ls (by exact (And.intro rfl trivial)) hr
  · rw [if_neg c2] at h
    refine w_icmp_ge_f (q := 22) d_Model_yearGoes_19 71 rfl rfl c2 ?_
    refine w_aload_n (q := 23) d_Model_yearGoes_22 rfl rfl ?_
    refine w_get (q := 26) (ci := 12) (j := 25) d_Model_yearGoes_23 rfl (by decide) fl_Model_289 (by decide) (by decide) s_54 rfl rfl ?_
    refine w_iload_n (q := 27) d_Model_yearGoes_26 rfl rfl ?_
    obtain ⟨v3, hv, h⟩ := bnd h
    refine w_callSi (q := 30) (M' := M_Model_isOf) (n' := 0) (As := [.int (s.2 54 25), .int s.1]) (sh' := SH) (b1 := (0, 0)) d_Model_yearGoes_27 rfl mw_Model_isOf (by decide) (by decide) ml_Model_308 rfl rfl (leb rfl) (bz _) (fun _ => rfl) (ok_Model_isOf hv) ?_
    by_cases c4 : v3 = 0
    · rw [if_pos c4] at h
      refine w_if_ne_f (q := 33) d_Model_yearGoes_30 65 rfl rfl c4 ?_
      refine w_aload_n (q := 34) d_Model_yearGoes_33 rfl rfl ?_
      refine w_get (q := 37) (ci := 12) (j := 7) d_Model_yearGoes_34 rfl (by decide) fl_Model_59 (by decide) (by decide) s_54 rfl rfl ?_
      refine w_iload_n (q := 38) d_Model_yearGoes_37 rfl rfl ?_
      refine w_aload_n (q := 39) d_Model_yearGoes_38 rfl rfl ?_
      refine w_get (q := 42) (ci := 12) (j := 7) d_Model_yearGoes_39 rfl (by decide) fl_Model_59 (by decide) (by decide) s_54 rfl rfl ?_
      refine w_iload_n (q := 43) d_Model_yearGoes_42 rfl rfl ?_
      obtain ⟨v5, hv, h⟩ := bnd h
      obtain ⟨hi, hv⟩ := rd_ok hv
      refine w_iald (q := 44) (t := 0) d_Model_yearGoes_43 rfl a_61.2 a_61.1 hi rfl ?_
      rw [hv]
      refine w_iconst (q := 45) (v := 1) d_Model_yearGoes_44 rfl (by decide) ?_
      refine w_iadd (q := 46) d_Model_yearGoes_45 rfl ?_
      refine w_aload_n (q := 47) d_Model_yearGoes_46 rfl rfl ?_
      refine w_get (q := 50) (ci := 12) (j := 5) d_Model_yearGoes_47 rfl (by decide) fl_Model_55 (by decide) (by decide) s_54 rfl rfl ?_
      refine w_iload_n (q := 51) d_Model_yearGoes_50 rfl rfl ?_
      obtain ⟨v6, hv, h⟩ := bnd h
      obtain ⟨hi, hv⟩ := rd_ok hv
      refine w_iald (q := 52) (t := 0) d_Model_yearGoes_51 rfl a_59.2 a_59.1 hi rfl ?_
      rw [hv]
      refine w_aload_n (q := 53) d_Model_yearGoes_52 rfl rfl ?_
      refine w_get (q := 56) (ci := 12) (j := 4) d_Model_yearGoes_53 rfl (by decide) fl_Model_51 (by decide) (by decide) s_54 rfl rfl ?_
      refine w_iconst (q := 57) (v := 1) d_Model_yearGoes_56 rfl (by decide) ?_
      obtain ⟨v7, hv, h⟩ := bnd h
      obtain ⟨hi, hv⟩ := rd_ok hv
      refine w_iald (q := 58) (t := 0) d_Model_yearGoes_57 rfl a_58.2 a_58.1 hi rfl ?_
      rw [hv]
      obtain ⟨v8, hv, h⟩ := bnd h
      refine w_callSi (q := 61) (M' := M_Model_mayHave) (n' := 1) (As := [.int v6, .int v7]) (sh' := SH) (b1 := (0, 0)) d_Model_yearGoes_58 rfl mw_Model_mayHave (by decide) (by decide) ml_Model_239 rfl rfl (leb rfl) (bz _) (fun _ => rfl) (ok_Model_mayHave hv) ?_
      obtain ⟨v9, hv, h⟩ := bnd h
      refine w_callSi (q := 64) (M' := M_JMath_min) (n' := 0) (As := [.int (v5 + 1), .int v8]) (sh' := SH) (b1 := (0, 0)) d_Model_yearGoes_61 rfl mw_JMath_min (by decide) (by decide) ml_Model_156 rfl rfl (leb rfl) (bz _) (fun _ => rfl) (ok_JMath_min hv) ?_
      obtain ⟨g10, hv, h⟩ := bnd h
      obtain ⟨hi, hv⟩ := wr_ok hv
      refine w_iast (q := 65) d_Model_yearGoes_64 rfl a_61.2 a_61.1 hi hv ?_
      refine w_iinc (q := 68) (ls' := [some (.ref 54), some (.int (s.1 + 1))]) d_Model_yearGoes_65 rfl (by decide) rfl rfl rfl ?_
      refine w_goto (q := 12) d_Model_yearGoes_68 rfl ?_
      cases h
      exact w_ls (by exact (And.intro rfl (And.intro rfl trivial))) hr
    · rw [if_neg c4] at h
      refine w_if_ne_t (q := 65) d_Model_yearGoes_30 rfl c4 ?_
      refine w_iinc (q := 68) (ls' := [some (.ref 54), some (.int (s.1 + 1))]) d_Model_yearGoes_65 rfl (by decide) rfl rfl rfl ?_
      refine w_goto (q := 12) d_Model_yearGoes_68 rfl ?_
      cases h
      exact w_ls (by exact (And.intro rfl (And.intro rfl trivial))) hr
def sp_Model_yearGoes (F : Nat) (g : Mem) : Option (Mem) := (lpO (st_Model_yearGoes_12 F g) F (0, (mset g 54 24 ((g 54 24) + 1)))).bind fun x11 => (sp_Model_loseFar F x11).bind fun v12 => some v12.2
theorem ok_Model_yearGoes {γ : GG} {tt : Bool} {F : Nat} {g : Mem} {res : Mem} (h : sp_Model_yearGoes F g = some res) : CA γ M_Model_yearGoes 4 [.ref 54] SH g tt (0, 0) (pV SH res tt) := by
  refine CA.of mw_Model_yearGoes.1 1 rfl ?_
  show WA γ M_Model_yearGoes 4 0 [some (.ref 54), none] [] SH g tt (0, 0) (pV SH res tt)
  unfold sp_Model_yearGoes at h
  refine w_aload_n (q := 1) d_Model_yearGoes_0 rfl rfl ?_
  refine w_dup (q := 2) d_Model_yearGoes_1 rfl rfl ?_
  refine w_get (q := 5) (ci := 12) (j := 24) d_Model_yearGoes_2 rfl (by decide) fl_Model_286 (by decide) (by decide) s_54 rfl rfl ?_
  refine w_iconst (q := 6) (v := 1) d_Model_yearGoes_5 rfl (by decide) ?_
  refine w_iadd (q := 7) d_Model_yearGoes_6 rfl ?_
  refine w_put (q := 10) (ci := 12) (j := 24) d_Model_yearGoes_7 rfl (by decide) fl_Model_286 (by decide) (by decide) s_54 rfl rfl rfl rfl rfl rfl ?_
  refine w_iconst (q := 11) (v := 0) d_Model_yearGoes_10 rfl (by decide) ?_
  refine w_istore_n (q := 12) (ls' := [some (.ref 54), some (.int 0)]) d_Model_yearGoes_11 rfl (by decide) rfl rfl ?_
  obtain ⟨x11, hx, h⟩ := bnd h
  refine w_ls (ls' := [some (.ref 54), some (.int 0)]) (And.intro rfl (And.intro rfl trivial)) ?_
  show PL_Model_yearGoes_12 γ tt g _ _ (0, (mset g 54 24 ((g 54 24) + 1)))
  refine lp_ok (kl_Model_yearGoes_12) F _ x11 hx ?_
  unfold QL_Model_yearGoes_12
  refine w_aload_n (q := 72) d_Model_yearGoes_71 rfl rfl ?_
  obtain ⟨v12, hv, h⟩ := bnd h
  refine w_callVi (q := 75) (M' := M_Model_loseFar) (n' := 3) (k := 54) (As := []) (sh' := SH) (b1 := (0, 0)) d_Model_yearGoes_72 rfl mw_Model_loseFar (by decide) (by decide) ml_Model_292 (by decide) s_54 (by decide) rfl rfl rfl (leb rfl) (bz _) (fun _ => rfl) (ok_Model_loseFar hv) ?_
  refine w_pop (q := 76) d_Model_yearGoes_75 rfl rfl ?_
  cases h
  exact w_return d_Model_yearGoes_76 rfl ⟨rfl, rfl, rfl, rfl⟩
def PL_Model_mothsEat_6 (γ : GG) (tt : Bool) (p0 : Int32) (p1 : Int32) (p2 : Int32) (g : Mem) (k1 : Int32) (k2 : Int32) (k3 : Int32) (b : Nat × Nat) (Φ : PO) (s : Int32 × Int32 × Mem) : Prop := WA γ M_Model_mothsEat 3 6 [some (.ref 54), some (.int k1), some (.int k2), some (.int k3), some (.int s.1), some (.int s.2.1)] [] SH s.2.2 tt b Φ
def QL_Model_mothsEat_6 (γ : GG) (tt : Bool) (p0 : Int32) (p1 : Int32) (p2 : Int32) (g : Mem) (k1 : Int32) (k2 : Int32) (k3 : Int32) (b : Nat × Nat) (Φ : PO) (x : (Int32 × Mem)) : Prop := WA γ M_Model_mothsEat 3 95 [none, none, none, none, some (.int x.1), none] [] SH x.2 tt b Φ
def st_Model_mothsEat_6 (F : Nat) (p0 : Int32) (p1 : Int32) (p2 : Int32) (g : Mem) (k1 : Int32) (k2 : Int32) (k3 : Int32) (s : Int32 × Int32 × Mem) : Option ((Int32 × Int32 × Mem) ⊕ ((Int32 × Mem))) := if (s.2.2 54 26) ≤ s.2.1 then some (.inr (s.1, s.2.2)) else (sp_Model_isThere s.2.1 s.2.2).bind fun v2 => if v2 = 0 then some (.inl (s.1, s.2.1 + 1, s.2.2)) else (sp_Model_of s.2.1 1 s.2.2).bind fun v4 => if v4 = k1 then (rd s.2.2 59 12 k1).bind fun v6 => if v6 = 3 then some (.inl (s.1, s.2.1 + 1, s.2.2)) else (sp_Model_of s.2.1 6 s.2.2).bind fun v8 => if v8 = 1 then some (.inl (s.1, s.2.1 + 1, s.2.2)) else (sp_Model_old s.2.1 s.2.2).bind fun v10 => if v10 < k2 then some (.inl (s.1, s.2.1 + 1, s.2.2)) else (sp_Model_old s.2.1 s.2.2).bind fun v12 => if v12 ≤ k3 then (sp_Model_lose s.2.1 s.2.2).bind fun v14 => some (.inl (s.1 + 1, s.2.1 + 1, v14)) else some (.inl (s.1, s.2.1 + 1, s.2.2)) else some (.inl (s.1, s.2.1 + 1, s.2.2))
theorem kl_Model_mothsEat_6 {γ : GG} {tt : Bool} {F : Nat} {p0 : Int32} {p1 : Int32} {p2 : Int32} {g : Mem} {k1 : Int32} {k2 : Int32} {k3 : Int32} {b : Nat × Nat} {Φ : PO} : ∀ (s : Int32 × Int32 × Mem) (r : (Int32 × Int32 × Mem) ⊕ ((Int32 × Mem))), st_Model_mothsEat_6 F p0 p1 p2 g k1 k2 k3 s = some r → RQ (PL_Model_mothsEat_6 γ tt p0 p1 p2 g k1 k2 k3 b Φ) (QL_Model_mothsEat_6 γ tt p0 p1 p2 g k1 k2 k3 b Φ) r → PL_Model_mothsEat_6 γ tt p0 p1 p2 g k1 k2 k3 b Φ s := by
  intro s r h hr
  unfold st_Model_mothsEat_6 at h
  unfold PL_Model_mothsEat_6
  refine w_iload (q := 8) d_Model_mothsEat_6 rfl rfl ?_
  refine w_aload_n (q := 9) d_Model_mothsEat_8 rfl rfl ?_
  refine w_get (q := 12) (ci := 12) (j := 26) d_Model_mothsEat_9 rfl (by decide) fl_Model_121 (by decide) (by decide) s_54 rfl rfl ?_
  by_cases c1 : (s.2.2 54 26) ≤ s.2.1
  · rw [if_pos c1] at h
    refine w_icmp_ge_t (q := 95) d_Model_mothsEat_12 rfl c1 ?_
    cases h
    exact w_ls (by exact (And.intro rfl trivial)) hr
  · rw [if_neg c1] at h
    refine w_icmp_ge_f (q := 15) d_Model_mothsEat_12 95 rfl rfl c1 ?_
    refine w_aload_n (q := 16) d_Model_mothsEat_15 rfl rfl ?_
    refine w_iload (q := 18) d_Model_mothsEat_16 rfl rfl ?_
    obtain ⟨v2, hv, h⟩ := bnd h
    refine w_callVi (q := 21) (M' := M_Model_isThere) (n' := 1) (k := 54) (As := [.int s.2.1]) (sh' := SH) (b1 := (0, 0)) d_Model_mothsEat_18 rfl mw_Model_isThere (by decide) (by decide) ml_Model_315 (by decide) s_54 (by decide) rfl rfl rfl (leb rfl) (bz _) (fun _ => rfl) (ok_Model_isThere hv) ?_
    by_cases c3 : v2 = 0
    · rw [if_pos c3] at h
      refine w_if_eq_t (q := 89) d_Model_mothsEat_21 rfl c3 ?_
      refine w_iinc (q := 92) (ls' := [some (.ref 54), some (.int k1), some (.int k2), some (.int k3), some (.int s.1), some (.int (s.2.1 + 1))]) d_Model_mothsEat_89 rfl (by decide) rfl rfl rfl ?_
      refine w_goto (q := 6) d_Model_mothsEat_92 rfl ?_
      cases h
      exact w_ls (by exact (And.intro rfl (And.intro rfl (And.intro rfl (And.intro rfl (And.intro rfl (And.intro rfl trivial))))))) hr
    · rw [if_neg c3] at h
      refine w_if_eq_f (q := 24) d_Model_mothsEat_21 89 rfl rfl c3 ?_
      refine w_aload_n (q := 25) d_Model_mothsEat_24 rfl rfl ?_
      refine w_iload (q := 27) d_Model_mothsEat_25 rfl rfl ?_
      refine w_iconst (q := 28) (v := 1) d_Model_mothsEat_27 rfl (by decide) ?_
      obtain ⟨v4, hv, h⟩ := bnd h
      refine w_callVi (q := 31) (M' := M_Model_of) (n' := 0) (k := 54) (As := [.int s.2.1, .int 1]) (sh' := SH) (b1 := (0, 0)) d_Model_mothsEat_28 rfl mw_Model_of (by decide) (by decide) ml_Model_305 (by decide) s_54 (by decide) rfl rfl rfl (leb rfl) (bz _) (fun _ => rfl) (ok_Model_of hv) ?_
      refine w_iload_n (q := 32) d_Model_mothsEat_31 rfl rfl ?_
      by_cases c5 : v4 = k1
      · rw [if_pos c5] at h
        refine w_icmp_ne_f (q := 35) d_Model_mothsEat_32 89 rfl rfl c5 ?_
        refine w_aload_n (q := 36) d_Model_mothsEat_35 rfl rfl ?_
        refine w_get (q := 39) (ci := 12) (j := 5) d_Model_mothsEat_36 rfl (by decide) fl_Model_55 (by decide) (by decide) s_54 rfl rfl ?_
        refine w_iload_n (q := 40) d_Model_mothsEat_39 rfl rfl ?_
        obtain ⟨v6, hv, h⟩ := bnd h
        obtain ⟨hi, hv⟩ := rd_ok hv
        refine w_iald (q := 41) (t := 0) d_Model_mothsEat_40 rfl a_59.2 a_59.1 hi rfl ?_
        rw [hv]
        refine w_iconst (q := 42) (v := 3) d_Model_mothsEat_41 rfl (by decide) ?_
        by_cases c7 : v6 = 3
        · rw [if_pos c7] at h
          refine w_icmp_eq_t (q := 89) d_Model_mothsEat_42 rfl c7 ?_
          refine w_iinc (q := 92) (ls' := [some (.ref 54), some (.int k1), some (.int k2), some (.int k3), some (.int s.1), some (.int (s.2.1 + 1))]) d_Model_mothsEat_89 rfl (by decide) rfl rfl rfl ?_
          refine w_goto (q := 6) d_Model_mothsEat_92 rfl ?_
          cases h
          exact w_ls (by exact (And.intro rfl (And.intro rfl (And.intro rfl (And.intro rfl (And.intro rfl (And.intro rfl trivial))))))) hr
        · rw [if_neg c7] at h
          refine w_icmp_eq_f (q := 45) d_Model_mothsEat_42 89 rfl rfl c7 ?_
          refine w_aload_n (q := 46) d_Model_mothsEat_45 rfl rfl ?_
          refine w_iload (q := 48) d_Model_mothsEat_46 rfl rfl ?_
          refine w_bipush (q := 50) (v := 6) d_Model_mothsEat_48 rfl (by decide) ?_
          obtain ⟨v8, hv, h⟩ := bnd h
          refine w_callVi (q := 53) (M' := M_Model_of) (n' := 0) (k := 54) (As := [.int s.2.1, .int 6]) (sh' := SH) (b1 := (0, 0)) d_Model_mothsEat_50 rfl mw_Model_of (by decide) (by decide) ml_Model_305 (by decide) s_54 (by decide) rfl rfl rfl (leb rfl) (bz _) (fun _ => rfl) (ok_Model_of hv) ?_
          refine w_iconst (q := 54) (v := 1) d_Model_mothsEat_53 rfl (by decide) ?_
          by_cases c9 : v8 = 1
          · rw [if_pos c9] at h
            refine w_icmp_eq_t (q := 89) d_Model_mothsEat_54 rfl c9 ?_
            refine w_iinc (q := 92) (ls' := [some (.ref 54), some (.int k1), some (.int k2), some (.int k3), some (.int s.1), some (.int (s.2.1 + 1))]) d_Model_mothsEat_89 rfl (by decide) rfl rfl rfl ?_
            refine w_goto (q := 6) d_Model_mothsEat_92 rfl ?_
            cases h
            exact w_ls (by exact (And.intro rfl (And.intro rfl (And.intro rfl (And.intro rfl (And.intro rfl (And.intro rfl trivial))))))) hr
          · rw [if_neg c9] at h
            refine w_icmp_eq_f (q := 57) d_Model_mothsEat_54 89 rfl rfl c9 ?_
            refine w_aload_n (q := 58) d_Model_mothsEat_57 rfl rfl ?_
            refine w_iload (q := 60) d_Model_mothsEat_58 rfl rfl ?_
            obtain ⟨v10, hv, h⟩ := bnd h
            refine w_callVi (q := 63) (M' := M_Model_old) (n' := 2) (k := 54) (As := [.int s.2.1]) (sh' := SH) (b1 := (0, 0)) d_Model_mothsEat_60 rfl mw_Model_old (by decide) (by decide) ml_Model_318 (by decide) s_54 (by decide) rfl rfl rfl (leb rfl) (bz _) (fun _ => rfl) (ok_Model_old hv) ?_
            refine w_iload_n (q := 64) d_Model_mothsEat_63 rfl rfl ?_
            by_cases c11 : v10 < k2
            · rw [if_pos c11] at h
              refine w_icmp_lt_t (q := 89) d_Model_mothsEat_64 rfl c11 ?_
              refine w_iinc (q := 92) (ls' := [some (.ref 54), some (.int k1), some (.int k2), some (.int k3), some (.int s.1), some (.int (s.2.1 + 1))]) d_Model_mothsEat_89 rfl (by decide) rfl rfl rfl ?_
              refine w_goto (q := 6) d_Model_mothsEat_92 rfl ?_
              cases h
              exact w_ls (by exact (And.intro rfl (And.intro rfl (And.intro rfl (And.intro rfl (And.intro rfl (And.intro rfl trivial))))))) hr
            · rw [if_neg c11] at h
              refine w_icmp_lt_f (q := 67) d_Model_mothsEat_64 89 rfl rfl c11 ?_
              refine w_aload_n (q := 68) d_Model_mothsEat_67 rfl rfl ?_
              refine w_iload (q := 70) d_Model_mothsEat_68 rfl rfl ?_
              obtain ⟨v12, hv, h⟩ := bnd h
              refine w_callVi (q := 73) (M' := M_Model_old) (n' := 2) (k := 54) (As := [.int s.2.1]) (sh' := SH) (b1 := (0, 0)) d_Model_mothsEat_70 rfl mw_Model_old (by decide) (by decide) ml_Model_318 (by decide) s_54 (by decide) rfl rfl rfl (leb rfl) (bz _) (fun _ => rfl) (ok_Model_old hv) ?_
              refine w_iload_n (q := 74) d_Model_mothsEat_73 rfl rfl ?_
              by_cases c13 : v12 ≤ k3
              · rw [if_pos c13] at h
                refine w_icmp_le_t (q := 80) d_Model_mothsEat_74 rfl c13 ?_
                refine w_aload_n (q := 81) d_Model_mothsEat_80 rfl rfl ?_
                refine w_iload (q := 83) d_Model_mothsEat_81 rfl rfl ?_
                obtain ⟨v14, hv, h⟩ := bnd h
                refine w_callVv (q := 86) (M' := M_Model_lose) (n' := 0) (k := 54) (As := [.int s.2.1]) (sh' := SH) (b1 := (0, 0)) d_Model_mothsEat_83 rfl mw_Model_lose (by decide) (by decide) ml_Model_320 (by decide) s_54 (by decide) rfl rfl rfl (leb rfl) (bz _) (fun _ => rfl) (ok_Model_lose hv) ?_
                refine w_iinc (q := 89) (ls' := [some (.ref 54), some (.int k1), some (.int k2), some (.int k3), some (.int (s.1 + 1)), some (.int s.2.1)]) d_Model_mothsEat_86 rfl (by decide) rfl rfl rfl ?_
                refine w_iinc (q := 92) (ls' := [some (.ref 54), some (.int k1), some (.int k2), some (.int k3), some (.int (s.1 + 1)), some (.int (s.2.1 + 1))]) d_Model_mothsEat_89 rfl (by decide) rfl rfl rfl ?_
                refine w_goto (q := 6) d_Model_mothsEat_92 rfl ?_
                cases h
                exact w_ls (by exact (And.intro rfl (And.intro rfl (And.intro rfl (And.intro rfl (And.intro rfl (And.intro rfl trivial))))))) hr
              · rw [if_neg c13] at h
                refine w_icmp_le_f (q := 77) d_Model_mothsEat_74 80 rfl rfl c13 ?_
                refine w_goto (q := 89) d_Model_mothsEat_77 rfl ?_
                refine w_iinc (q := 92) (ls' := [some (.ref 54), some (.int k1), some (.int k2), some (.int k3), some (.int s.1), some (.int (s.2.1 + 1))]) d_Model_mothsEat_89 rfl (by decide) rfl rfl rfl ?_
                refine w_goto (q := 6) d_Model_mothsEat_92 rfl ?_
                cases h
                exact w_ls (by exact (And.intro rfl (And.intro rfl (And.intro rfl (And.intro rfl (And.intro rfl (And.intro rfl trivial))))))) hr
      · rw [if_neg c5] at h
        refine w_icmp_ne_t (q := 89) d_Model_mothsEat_32 rfl c5 ?_
        refine w_iinc (q := 92) (ls' := [some (.ref 54), some (.int k1), some (.int k2), some (.int k3), some (.int s.1), some (.int (s.2.1 + 1))]) d_Model_mothsEat_89 rfl (by decide) rfl rfl rfl ?_
        refine w_goto (q := 6) d_Model_mothsEat_92 rfl ?_
        cases h
        exact w_ls (by exact (And.intro rfl (And.intro rfl (And.intro rfl (And.intro rfl (And.intro rfl (And.intro rfl trivial))))))) hr
def sp_Model_mothsEat (F : Nat) (p0 : Int32) (p1 : Int32) (p2 : Int32) (g : Mem) : Option (Int32 × Mem) := (lpO (st_Model_mothsEat_6 F p0 p1 p2 g p0 p1 p2) F (0, 0, g)).bind fun x15 => some (x15.1, x15.2)
theorem ok_Model_mothsEat {γ : GG} {tt : Bool} {F : Nat} {p0 : Int32} {p1 : Int32} {p2 : Int32} {g : Mem} {res : Int32 × Mem} (h : sp_Model_mothsEat F p0 p1 p2 g = some res) : CA γ M_Model_mothsEat 3 [.ref 54, .int p0, .int p1, .int p2] SH g tt (0, 0) (pI SH res.1 res.2 tt) := by
  refine CA.of mw_Model_mothsEat.1 2 rfl ?_
  show WA γ M_Model_mothsEat 3 0 [some (.ref 54), some (.int p0), some (.int p1), some (.int p2), none, none] [] SH g tt (0, 0) (pI SH res.1 res.2 tt)
  unfold sp_Model_mothsEat at h
  refine w_iconst (q := 1) (v := 0) d_Model_mothsEat_0 rfl (by decide) ?_
  refine w_istore (q := 3) (ls' := [some (.ref 54), some (.int p0), some (.int p1), some (.int p2), some (.int 0), none]) d_Model_mothsEat_1 rfl (by decide) rfl rfl ?_
  refine w_iconst (q := 4) (v := 0) d_Model_mothsEat_3 rfl (by decide) ?_
  refine w_istore (q := 6) (ls' := [some (.ref 54), some (.int p0), some (.int p1), some (.int p2), some (.int 0), some (.int 0)]) d_Model_mothsEat_4 rfl (by decide) rfl rfl ?_
  obtain ⟨x15, hx, h⟩ := bnd h
  refine w_ls (ls' := [some (.ref 54), some (.int p0), some (.int p1), some (.int p2), some (.int 0), some (.int 0)]) (And.intro rfl (And.intro rfl (And.intro rfl (And.intro rfl (And.intro rfl (And.intro rfl trivial)))))) ?_
  show PL_Model_mothsEat_6 γ tt p0 p1 p2 g p0 p1 p2 _ _ (0, 0, g)
  refine lp_ok (kl_Model_mothsEat_6) F _ x15 hx ?_
  unfold QL_Model_mothsEat_6
  refine w_iload (q := 97) d_Model_mothsEat_95 rfl rfl ?_
  cases h
  exact w_ireturn d_Model_mothsEat_97 rfl rfl ⟨rfl, rfl, rfl, rfl⟩
def PL_Model_holdersOf_4 (γ : GG) (tt : Bool) (p0 : Int32) (g : Mem) (k1 : Int32) (b : Nat × Nat) (Φ : PO) (s : Int32 × Int32) : Prop := WA γ M_Model_holdersOf 2 4 [some (.ref 54), some (.int k1), some (.int s.1), some (.int s.2)] [] SH g tt b Φ
def QL_Model_holdersOf_4 (γ : GG) (tt : Bool) (p0 : Int32) (g : Mem) (k1 : Int32) (b : Nat × Nat) (Φ : PO) (x : (Int32)) : Prop := WA γ M_Model_holdersOf 2 48 [none, none, some (.int x), none] [] SH g tt b Φ
def st_Model_holdersOf_4 (F : Nat) (p0 : Int32) (g : Mem) (k1 : Int32) (s : Int32 × Int32) : Option ((Int32 × Int32) ⊕ ((Int32))) := if (g 54 26) ≤ s.2 then some (.inr s.1) else (sp_Model_isThere s.2 g).bind fun v2 => if v2 = 0 then some (.inl (s.1, s.2 + 1)) else (sp_Model_of s.2 7 g).bind fun v4 => if v4 = k1 then (sp_Model_of s.2 1 g).bind fun v6 => some (.inl (s.1 ||| (1 <<< (v6 &&& 31)), s.2 + 1)) else some (.inl (s.1, s.2 + 1))
theorem kl_Model_holdersOf_4 {γ : GG} {tt : Bool} {F : Nat} {p0 : Int32} {g : Mem} {k1 : Int32} {b : Nat × Nat} {Φ : PO} : ∀ (s : Int32 × Int32) (r : (Int32 × Int32) ⊕ ((Int32))), st_Model_holdersOf_4 F p0 g k1 s = some r → RQ (PL_Model_holdersOf_4 γ tt p0 g k1 b Φ) (QL_Model_holdersOf_4 γ tt p0 g k1 b Φ) r → PL_Model_holdersOf_4 γ tt p0 g k1 b Φ s := by
  intro s r h hr
  unfold st_Model_holdersOf_4 at h
  unfold PL_Model_holdersOf_4
  refine w_iload_n (q := 5) d_Model_holdersOf_4 rfl rfl ?_
  refine w_aload_n (q := 6) d_Model_holdersOf_5 rfl rfl ?_
  refine w_get (q := 9) (ci := 12) (j := 26) d_Model_holdersOf_6 rfl (by decide) fl_Model_121 (by decide) (by decide) s_54 rfl rfl ?_
  by_cases c1 : (g 54 26) ≤ s.2
  · rw [if_pos c1] at h
    refine w_icmp_ge_t (q := 48) d_Model_holdersOf_9 rfl c1 ?_
    cases h
    exact w_ls (by exact (And.intro rfl trivial)) hr
  · rw [if_neg c1] at h
    refine w_icmp_ge_f (q := 12) d_Model_holdersOf_9 48 rfl rfl c1 ?_
    refine w_aload_n (q := 13) d_Model_holdersOf_12 rfl rfl ?_
    refine w_iload_n (q := 14) d_Model_holdersOf_13 rfl rfl ?_
    obtain ⟨v2, hv, h⟩ := bnd h
    refine w_callVi (q := 17) (M' := M_Model_isThere) (n' := 1) (k := 54) (As := [.int s.2]) (sh' := SH) (b1 := (0, 0)) d_Model_holdersOf_14 rfl mw_Model_isThere (by decide) (by decide) ml_Model_315 (by decide) s_54 (by decide) rfl rfl rfl (leb rfl) (bz _) (fun _ => rfl) (ok_Model_isThere hv) ?_
    by_cases c3 : v2 = 0
    · rw [if_pos c3] at h
      refine w_if_eq_t (q := 42) d_Model_holdersOf_17 rfl c3 ?_
      refine w_iinc (q := 45) (ls' := [some (.ref 54), some (.int k1), some (.int s.1), some (.int (s.2 + 1))]) d_Model_holdersOf_42 rfl (by decide) rfl rfl rfl ?_
      refine w_goto (q := 4) d_Model_holdersOf_45 rfl ?_
      cases h
      exact w_ls (by exact (And.intro rfl (And.intro rfl (And.intro rfl (And.intro rfl trivial))))) hr
    · rw [if_neg c3] at h
      refine w_if_eq_f (q := 20) d_Model_holdersOf_17 42 rfl rfl c3 ?_
      refine w_aload_n (q := 21) d_Model_holdersOf_20 rfl rfl ?_
      refine w_iload_n (q := 22) d_Model_holdersOf_21 rfl rfl ?_
      refine w_bipush (q := 24) (v := 7) d_Model_holdersOf_22 rfl (by decide) ?_
      obtain ⟨v4, hv, h⟩ := bnd h
      refine w_callVi (q := 27) (M' := M_Model_of) (n' := 0) (k := 54) (As := [.int s.2, .int 7]) (sh' := SH) (b1 := (0, 0)) d_Model_holdersOf_24 rfl mw_Model_of (by decide) (by decide) ml_Model_305 (by decide) s_54 (by decide) rfl rfl rfl (leb rfl) (bz _) (fun _ => rfl) (ok_Model_of hv) ?_
      refine w_iload_n (q := 28) d_Model_holdersOf_27 rfl rfl ?_
      by_cases c5 : v4 = k1
      · rw [if_pos c5] at h
        refine w_icmp_ne_f (q := 31) d_Model_holdersOf_28 42 rfl rfl c5 ?_
        refine w_iload_n (q := 32) d_Model_holdersOf_31 rfl rfl ?_
        refine w_iconst (q := 33) (v := 1) d_Model_holdersOf_32 rfl (by decide) ?_
        refine w_aload_n (q := 34) d_Model_holdersOf_33 rfl rfl ?_
        refine w_iload_n (q := 35) d_Model_holdersOf_34 rfl rfl ?_
        refine w_iconst (q := 36) (v := 1) d_Model_holdersOf_35 rfl (by decide) ?_
        obtain ⟨v6, hv, h⟩ := bnd h
        refine w_callVi (q := 39) (M' := M_Model_of) (n' := 0) (k := 54) (As := [.int s.2, .int 1]) (sh' := SH) (b1 := (0, 0)) d_Model_holdersOf_36 rfl mw_Model_of (by decide) (by decide) ml_Model_305 (by decide) s_54 (by decide) rfl rfl rfl (leb rfl) (bz _) (fun _ => rfl) (ok_Model_of hv) ?_
        refine w_ishl (q := 40) d_Model_holdersOf_39 rfl ?_
        refine w_ior (q := 41) d_Model_holdersOf_40 rfl ?_
        refine w_istore_n (q := 42) (ls' := [some (.ref 54), some (.int k1), some (.int (s.1 ||| (1 <<< (v6 &&& 31)))), some (.int s.2)]) d_Model_holdersOf_41 rfl (by decide) rfl rfl ?_
        refine w_iinc (q := 45) (ls' := [some (.ref 54), some (.int k1), some (.int (s.1 ||| (1 <<< (v6 &&& 31)))), some (.int (s.2 + 1))]) d_Model_holdersOf_42 rfl (by decide) rfl rfl rfl ?_
        refine w_goto (q := 4) d_Model_holdersOf_45 rfl ?_
        cases h
        exact w_ls (by exact (And.intro rfl (And.intro rfl (And.intro rfl (And.intro rfl trivial))))) hr
      · rw [if_neg c5] at h
        refine w_icmp_ne_t (q := 42) d_Model_holdersOf_28 rfl c5 ?_
        refine w_iinc (q := 45) (ls' := [some (.ref 54), some (.int k1), some (.int s.1), some (.int (s.2 + 1))]) d_Model_holdersOf_42 rfl (by decide) rfl rfl rfl ?_
        refine w_goto (q := 4) d_Model_holdersOf_45 rfl ?_
        cases h
        exact w_ls (by exact (And.intro rfl (And.intro rfl (And.intro rfl (And.intro rfl trivial))))) hr
def sp_Model_holdersOf (F : Nat) (p0 : Int32) (g : Mem) : Option (Int32) := (lpO (st_Model_holdersOf_4 F p0 g p0) F (0, 0)).bind fun x7 => some x7
theorem ok_Model_holdersOf {γ : GG} {tt : Bool} {F : Nat} {p0 : Int32} {g : Mem} {res : Int32} (h : sp_Model_holdersOf F p0 g = some res) : CA γ M_Model_holdersOf 2 [.ref 54, .int p0] SH g tt (0, 0) (pI SH res g tt) := by
  refine CA.of mw_Model_holdersOf.1 2 rfl ?_
  show WA γ M_Model_holdersOf 2 0 [some (.ref 54), some (.int p0), none, none] [] SH g tt (0, 0) (pI SH res g tt)
  unfold sp_Model_holdersOf at h
  refine w_iconst (q := 1) (v := 0) d_Model_holdersOf_0 rfl (by decide) ?_
  refine w_istore_n (q := 2) (ls' := [some (.ref 54), some (.int p0), some (.int 0), none]) d_Model_holdersOf_1 rfl (by decide) rfl rfl ?_
  refine w_iconst (q := 3) (v := 0) d_Model_holdersOf_2 rfl (by decide) ?_
  refine w_istore_n (q := 4) (ls' := [some (.ref 54), some (.int p0), some (.int 0), some (.int 0)]) d_Model_holdersOf_3 rfl (by decide) rfl rfl ?_
  obtain ⟨x7, hx, h⟩ := bnd h
  refine w_ls (ls' := [some (.ref 54), some (.int p0), some (.int 0), some (.int 0)]) (And.intro rfl (And.intro rfl (And.intro rfl (And.intro rfl trivial)))) ?_
  show PL_Model_holdersOf_4 γ tt p0 g p0 _ _ (0, 0)
  refine lp_ok (kl_Model_holdersOf_4) F _ x7 hx ?_
  unfold QL_Model_holdersOf_4
  refine w_iload_n (q := 49) d_Model_holdersOf_48 rfl rfl ?_
  cases h
  exact w_ireturn d_Model_holdersOf_49 rfl rfl ⟨rfl, rfl, rfl, rfl⟩
def PL_Model_records_4 (γ : GG) (tt : Bool) (g : Mem) (b : Nat × Nat) (Φ : PO) (s : Int32 × Int32) : Prop := WA γ M_Model_records 2 4 [some (.ref 54), some (.int s.1), some (.int s.2)] [] SH g tt b Φ
def QL_Model_records_4 (γ : GG) (tt : Bool) (g : Mem) (b : Nat × Nat) (Φ : PO) (x : (Int32)) : Prop := WA γ M_Model_records 2 38 [none, some (.int x), none] [] SH g tt b Φ
def st_Model_records_4 (F : Nat) (g : Mem) (s : Int32 × Int32) : Option ((Int32 × Int32) ⊕ ((Int32))) := if (g 54 26) ≤ s.2 then some (.inr s.1) else (sp_Model_isThere s.2 g).bind fun v2 => if v2 = 0 then some (.inl (s.1, s.2 + 1)) else (sp_Model_of s.2 7 g).bind fun v4 => some (.inl (s.1 ||| (1 <<< (v4 &&& 31)), s.2 + 1))
theorem kl_Model_records_4 {γ : GG} {tt : Bool} {F : Nat} {g : Mem} {b : Nat × Nat} {Φ : PO} : ∀ (s : Int32 × Int32) (r : (Int32 × Int32) ⊕ ((Int32))), st_Model_records_4 F g s = some r → RQ (PL_Model_records_4 γ tt g b Φ) (QL_Model_records_4 γ tt g b Φ) r → PL_Model_records_4 γ tt g b Φ s := by
  intro s r h hr
  unfold st_Model_records_4 at h
  unfold PL_Model_records_4
  refine w_iload_n (q := 5) d_Model_records_4 rfl rfl ?_
  refine w_aload_n (q := 6) d_Model_records_5 rfl rfl ?_
  refine w_get (q := 9) (ci := 12) (j := 26) d_Model_records_6 rfl (by decide) fl_Model_121 (by decide) (by decide) s_54 rfl rfl ?_
  by_cases c1 : (g 54 26) ≤ s.2
  · rw [if_pos c1] at h
    refine w_icmp_ge_t (q := 38) d_Model_records_9 rfl c1 ?_
    cases h
    exact w_ls (by exact (And.intro rfl trivial)) hr
  · rw [if_neg c1] at h
    refine w_icmp_ge_f (q := 12) d_Model_records_9 38 rfl rfl c1 ?_
    refine w_aload_n (q := 13) d_Model_records_12 rfl rfl ?_
    refine w_iload_n (q := 14) d_Model_records_13 rfl rfl ?_
    obtain ⟨v2, hv, h⟩ := bnd h
    refine w_callVi (q := 17) (M' := M_Model_isThere) (n' := 1) (k := 54) (As := [.int s.2]) (sh' := SH) (b1 := (0, 0)) d_Model_records_14 rfl mw_Model_isThere (by decide) (by decide) ml_Model_315 (by decide) s_54 (by decide) rfl rfl rfl (leb rfl) (bz _) (fun _ => rfl) (ok_Model_isThere hv) ?_
    by_cases c3 : v2 = 0
    · rw [if_pos c3] at h
      refine w_if_eq_t (q := 32) d_Model_records_17 rfl c3 ?_
      refine w_iinc (q := 35) (ls' := [some (.ref 54), some (.int s.1), some (.int (s.2 + 1))]) d_Model_records_32 rfl (by decide) rfl rfl rfl ?_
      refine w_goto (q := 4) d_Model_records_35 rfl ?_
      cases h
      exact w_ls (by exact (And.intro rfl (And.intro rfl (And.intro rfl trivial)))) hr
    · rw [if_neg c3] at h
      refine w_if_eq_f (q := 20) d_Model_records_17 32 rfl rfl c3 ?_
      refine w_iload_n (q := 21) d_Model_records_20 rfl rfl ?_
      refine w_iconst (q := 22) (v := 1) d_Model_records_21 rfl (by decide) ?_
      refine w_aload_n (q := 23) d_Model_records_22 rfl rfl ?_
      refine w_iload_n (q := 24) d_Model_records_23 rfl rfl ?_
      refine w_bipush (q := 26) (v := 7) d_Model_records_24 rfl (by decide) ?_
      obtain ⟨v4, hv, h⟩ := bnd h
      refine w_callVi (q := 29) (M' := M_Model_of) (n' := 0) (k := 54) (As := [.int s.2, .int 7]) (sh' := SH) (b1 := (0, 0)) d_Model_records_26 rfl mw_Model_of (by decide) (by decide) ml_Model_305 (by decide) s_54 (by decide) rfl rfl rfl (leb rfl) (bz _) (fun _ => rfl) (ok_Model_of hv) ?_
      refine w_ishl (q := 30) d_Model_records_29 rfl ?_
      refine w_ior (q := 31) d_Model_records_30 rfl ?_
      refine w_istore_n (q := 32) (ls' := [some (.ref 54), some (.int (s.1 ||| (1 <<< (v4 &&& 31)))), some (.int s.2)]) d_Model_records_31 rfl (by decide) rfl rfl ?_
      refine w_iinc (q := 35) (ls' := [some (.ref 54), some (.int (s.1 ||| (1 <<< (v4 &&& 31)))), some (.int (s.2 + 1))]) d_Model_records_32 rfl (by decide) rfl rfl rfl ?_
      refine w_goto (q := 4) d_Model_records_35 rfl ?_
      cases h
      exact w_ls (by exact (And.intro rfl (And.intro rfl (And.intro rfl trivial)))) hr
def sp_Model_records (F : Nat) (g : Mem) : Option (Int32) := (lpO (st_Model_records_4 F g) F (0, 0)).bind fun x5 => some x5
theorem ok_Model_records {γ : GG} {tt : Bool} {F : Nat} {g : Mem} {res : Int32} (h : sp_Model_records F g = some res) : CA γ M_Model_records 2 [.ref 54] SH g tt (0, 0) (pI SH res g tt) := by
  refine CA.of mw_Model_records.1 2 rfl ?_
  show WA γ M_Model_records 2 0 [some (.ref 54), none, none] [] SH g tt (0, 0) (pI SH res g tt)
  unfold sp_Model_records at h
  refine w_iconst (q := 1) (v := 0) d_Model_records_0 rfl (by decide) ?_
  refine w_istore_n (q := 2) (ls' := [some (.ref 54), some (.int 0), none]) d_Model_records_1 rfl (by decide) rfl rfl ?_
  refine w_iconst (q := 3) (v := 0) d_Model_records_2 rfl (by decide) ?_
  refine w_istore_n (q := 4) (ls' := [some (.ref 54), some (.int 0), some (.int 0)]) d_Model_records_3 rfl (by decide) rfl rfl ?_
  obtain ⟨x5, hx, h⟩ := bnd h
  refine w_ls (ls' := [some (.ref 54), some (.int 0), some (.int 0)]) (And.intro rfl (And.intro rfl (And.intro rfl trivial))) ?_
  show PL_Model_records_4 γ tt g _ _ (0, 0)
  refine lp_ok (kl_Model_records_4) F _ x5 hx ?_
  unfold QL_Model_records_4
  refine w_iload_n (q := 39) d_Model_records_38 rfl rfl ?_
  cases h
  exact w_ireturn d_Model_records_39 rfl rfl ⟨rfl, rfl, rfl, rfl⟩
def PL_Model_bitsOf_4 (γ : GG) (sh : List Sh) (tt : Bool) (p0 : Int32) (g : Mem) (b : Nat × Nat) (Φ : PO) (s : Int32 × Int32) : Prop := WA γ M_Model_bitsOf 0 4 [none, some (.int s.1), some (.int s.2)] [] sh g tt b Φ
def QL_Model_bitsOf_4 (γ : GG) (sh : List Sh) (tt : Bool) (p0 : Int32) (g : Mem) (b : Nat × Nat) (Φ : PO) (x : (Int32)) : Prop := WA γ M_Model_bitsOf 0 20 [none, some (.int x), none] [] sh g tt b Φ
def st_Model_bitsOf_4 (F : Nat) (p0 : Int32) (g : Mem) (s : Int32 × Int32) : Option ((Int32 × Int32) ⊕ ((Int32))) := if s.2 = 0 then some (.inr s.1) else some (.inl (s.1 + 1, s.2 &&& (s.2 - 1)))
theorem kl_Model_bitsOf_4 {γ : GG} {sh : List Sh} {tt : Bool} {F : Nat} {p0 : Int32} {g : Mem} {b : Nat × Nat} {Φ : PO} : ∀ (s : Int32 × Int32) (r : (Int32 × Int32) ⊕ ((Int32))), st_Model_bitsOf_4 F p0 g s = some r → RQ (PL_Model_bitsOf_4 γ sh tt p0 g b Φ) (QL_Model_bitsOf_4 γ sh tt p0 g b Φ) r → PL_Model_bitsOf_4 γ sh tt p0 g b Φ s := by
  intro s r h hr
  unfold st_Model_bitsOf_4 at h
  unfold PL_Model_bitsOf_4
  refine w_iload_n (q := 5) d_Model_bitsOf_4 rfl rfl ?_
  by_cases c1 : s.2 = 0
  · rw [if_pos c1] at h
    refine w_if_eq_t (q := 20) d_Model_bitsOf_5 rfl c1 ?_
    cases h
    exact w_ls (by exact (And.intro rfl trivial)) hr
  · rw [if_neg c1] at h
    refine w_if_eq_f (q := 8) d_Model_bitsOf_5 20 rfl rfl c1 ?_
    refine w_iinc (q := 11) (ls' := [none, some (.int (s.1 + 1)), some (.int s.2)]) d_Model_bitsOf_8 rfl (by decide) rfl rfl rfl ?_
    refine w_iload_n (q := 12) d_Model_bitsOf_11 rfl rfl ?_
    refine w_iload_n (q := 13) d_Model_bitsOf_12 rfl rfl ?_
    refine w_iconst (q := 14) (v := 1) d_Model_bitsOf_13 rfl (by decide) ?_
    refine w_isub (q := 15) d_Model_bitsOf_14 rfl ?_
    refine w_iand (q := 16) d_Model_bitsOf_15 rfl ?_
    refine w_istore_n (q := 17) (ls' := [none, some (.int (s.1 + 1)), some (.int (s.2 &&& (s.2 - 1)))]) d_Model_bitsOf_16 rfl (by decide) rfl rfl ?_
    refine w_goto (q := 4) d_Model_bitsOf_17 rfl ?_
    cases h
    exact w_ls (by exact (And.intro rfl (And.intro rfl trivial))) hr
def sp_Model_bitsOf (F : Nat) (p0 : Int32) (g : Mem) : Option (Int32) := (lpO (st_Model_bitsOf_4 F p0 g) F (0, p0)).bind fun x2 => some x2
theorem ok_Model_bitsOf {γ : GG} {sh : List Sh} {tt : Bool} {F : Nat} {p0 : Int32} {g : Mem} {res : Int32} (h : sp_Model_bitsOf F p0 g = some res) : CA γ M_Model_bitsOf 0 [.int p0] sh g tt (0, 0) (pI sh res g tt) := by
  refine CA.of mw_Model_bitsOf.1 2 rfl ?_
  show WA γ M_Model_bitsOf 0 0 [some (.int p0), none, none] [] sh g tt (0, 0) (pI sh res g tt)
  unfold sp_Model_bitsOf at h
  refine w_iconst (q := 1) (v := 0) d_Model_bitsOf_0 rfl (by decide) ?_
  refine w_istore_n (q := 2) (ls' := [some (.int p0), some (.int 0), none]) d_Model_bitsOf_1 rfl (by decide) rfl rfl ?_
  refine w_iload_n (q := 3) d_Model_bitsOf_2 rfl rfl ?_
  refine w_istore_n (q := 4) (ls' := [some (.int p0), some (.int 0), some (.int p0)]) d_Model_bitsOf_3 rfl (by decide) rfl rfl ?_
  obtain ⟨x2, hx, h⟩ := bnd h
  refine w_ls (ls' := [none, some (.int 0), some (.int p0)]) (And.intro rfl (And.intro rfl trivial)) ?_
  show PL_Model_bitsOf_4 γ sh tt p0 g _ _ (0, p0)
  refine lp_ok (kl_Model_bitsOf_4) F _ x2 hx ?_
  unfold QL_Model_bitsOf_4
  refine w_iload_n (q := 21) d_Model_bitsOf_20 rfl rfl ?_
  cases h
  exact w_ireturn d_Model_bitsOf_21 rfl rfl ⟨rfl, rfl, rfl, rfl⟩
def sp_Model_ageOf (p0 : Int32) (g : Mem) : Option (Int32) := (rd g 60 12 p0).bind fun v1 => (sp_Model_yearOf p0 g).bind fun v2 => some (v1 + v2)
theorem ok_Model_ageOf {γ : GG} {tt : Bool} {p0 : Int32} {g : Mem} {res : Int32} (h : sp_Model_ageOf p0 g = some res) : CA γ M_Model_ageOf 2 [.ref 54, .int p0] SH g tt (0, 0) (pI SH res g tt) := by
  refine CA.of mw_Model_ageOf.1 0 rfl ?_
  show WA γ M_Model_ageOf 2 0 [some (.ref 54), some (.int p0)] [] SH g tt (0, 0) (pI SH res g tt)
  unfold sp_Model_ageOf at h
  refine w_aload_n (q := 1) d_Model_ageOf_0 rfl rfl ?_
  refine w_get (q := 4) (ci := 12) (j := 6) d_Model_ageOf_1 rfl (by decide) fl_Model_57 (by decide) (by decide) s_54 rfl rfl ?_
  refine w_iload_n (q := 5) d_Model_ageOf_4 rfl rfl ?_
  obtain ⟨v1, hv, h⟩ := bnd h
  obtain ⟨hi, hv⟩ := rd_ok hv
  refine w_iald (q := 6) (t := 0) d_Model_ageOf_5 rfl a_60.2 a_60.1 hi rfl ?_
  rw [hv]
  refine w_aload_n (q := 7) d_Model_ageOf_6 rfl rfl ?_
  refine w_iload_n (q := 8) d_Model_ageOf_7 rfl rfl ?_
  obtain ⟨v2, hv, h⟩ := bnd h
  refine w_callVi (q := 11) (M' := M_Model_yearOf) (n' := 1) (k := 54) (As := [.int p0]) (sh' := SH) (b1 := (0, 0)) d_Model_ageOf_8 rfl mw_Model_yearOf (by decide) (by decide) ml_Model_312 (by decide) s_54 (by decide) rfl rfl rfl (leb rfl) (bz _) (fun _ => rfl) (ok_Model_yearOf hv) ?_
  refine w_iadd (q := 12) d_Model_ageOf_11 rfl ?_
  cases h
  exact w_ireturn d_Model_ageOf_12 rfl rfl ⟨rfl, rfl, rfl, rfl⟩
def sp_Model_isGrey (p0 : Int32) (g : Mem) : Option (Int32) := (sp_Model_ageOf p0 g).bind fun v1 => (rd g 58 12 2).bind fun v2 => if v1 < v2 then some 0 else some 1
theorem ok_Model_isGrey {γ : GG} {tt : Bool} {p0 : Int32} {g : Mem} {res : Int32} (h : sp_Model_isGrey p0 g = some res) : CA γ M_Model_isGrey 3 [.ref 54, .int p0] SH g tt (0, 0) (pI SH res g tt) := by
  refine CA.of mw_Model_isGrey.1 0 rfl ?_
  show WA γ M_Model_isGrey 3 0 [some (.ref 54), some (.int p0)] [] SH g tt (0, 0) (pI SH res g tt)
  unfold sp_Model_isGrey at h
  refine w_aload_n (q := 1) d_Model_isGrey_0 rfl rfl ?_
  refine w_iload_n (q := 2) d_Model_isGrey_1 rfl rfl ?_
  obtain ⟨v1, hv, h⟩ := bnd h
  refine w_callVi (q := 5) (M' := M_Model_ageOf) (n' := 2) (k := 54) (As := [.int p0]) (sh' := SH) (b1 := (0, 0)) d_Model_isGrey_2 rfl mw_Model_ageOf (by decide) (by decide) ml_Model_323 (by decide) s_54 (by decide) rfl rfl rfl (leb rfl) (bz _) (fun _ => rfl) (ok_Model_ageOf hv) ?_
  refine w_aload_n (q := 6) d_Model_isGrey_5 rfl rfl ?_
  refine w_get (q := 9) (ci := 12) (j := 4) d_Model_isGrey_6 rfl (by decide) fl_Model_51 (by decide) (by decide) s_54 rfl rfl ?_
  refine w_iconst (q := 10) (v := 2) d_Model_isGrey_9 rfl (by decide) ?_
  obtain ⟨v2, hv, h⟩ := bnd h
  obtain ⟨hi, hv⟩ := rd_ok hv
  refine w_iald (q := 11) (t := 0) d_Model_isGrey_10 rfl a_58.2 a_58.1 hi rfl ?_
  rw [hv]
  by_cases c3 : v1 < v2
  · rw [if_pos c3] at h
    refine w_icmp_lt_t (q := 18) d_Model_isGrey_11 rfl c3 ?_
    refine w_iconst (q := 19) (v := 0) d_Model_isGrey_18 rfl (by decide) ?_
    cases h
    exact w_ireturn d_Model_isGrey_19 rfl rfl ⟨rfl, rfl, rfl, rfl⟩
  · rw [if_neg c3] at h
    refine w_icmp_lt_f (q := 14) d_Model_isGrey_11 18 rfl rfl c3 ?_
    refine w_iconst (q := 15) (v := 1) d_Model_isGrey_14 rfl (by decide) ?_
    refine w_goto (q := 19) d_Model_isGrey_15 rfl ?_
    cases h
    exact w_ireturn d_Model_isGrey_19 rfl rfl ⟨rfl, rfl, rfl, rfl⟩
def PL_Model_thereMany_4 (γ : GG) (tt : Bool) (g : Mem) (b : Nat × Nat) (Φ : PO) (s : Int32 × Int32) : Prop := WA γ M_Model_thereMany 2 4 [some (.ref 54), some (.int s.1), some (.int s.2)] [] SH g tt b Φ
def QL_Model_thereMany_4 (γ : GG) (tt : Bool) (g : Mem) (b : Nat × Nat) (Φ : PO) (x : (Int32)) : Prop := WA γ M_Model_thereMany 2 34 [none, some (.int x), none] [] SH g tt b Φ
def st_Model_thereMany_4 (F : Nat) (g : Mem) (s : Int32 × Int32) : Option ((Int32 × Int32) ⊕ ((Int32))) := if (g 54 26) ≤ s.2 then some (.inr s.1) else (sp_Model_isThere s.2 g).bind fun v2 => if v2 = 0 then some (.inl (s.1 + 0, s.2 + 1)) else some (.inl (s.1 + 1, s.2 + 1))
theorem kl_Model_thereMany_4 {γ : GG} {tt : Bool} {F : Nat} {g : Mem} {b : Nat × Nat} {Φ : PO} : ∀ (s : Int32 × Int32) (r : (Int32 × Int32) ⊕ ((Int32))), st_Model_thereMany_4 F g s = some r → RQ (PL_Model_thereMany_4 γ tt g b Φ) (QL_Model_thereMany_4 γ tt g b Φ) r → PL_Model_thereMany_4 γ tt g b Φ s := by
  intro s r h hr
  unfold st_Model_thereMany_4 at h
  unfold PL_Model_thereMany_4
  refine w_iload_n (q := 5) d_Model_thereMany_4 rfl rfl ?_
  refine w_aload_n (q := 6) d_Model_thereMany_5 rfl rfl ?_
  refine w_get (q := 9) (ci := 12) (j := 26) d_Model_thereMany_6 rfl (by decide) fl_Model_121 (by decide) (by decide) s_54 rfl rfl ?_
  by_cases c1 : (g 54 26) ≤ s.2
  · rw [if_pos c1] at h
    refine w_icmp_ge_t (q := 34) d_Model_thereMany_9 rfl c1 ?_
    cases h
    exact w_ls (by exact (And.intro rfl trivial)) hr
  · rw [if_neg c1] at h
    refine w_icmp_ge_f (q := 12) d_Model_thereMany_9 34 rfl rfl c1 ?_
    refine w_iload_n (q := 13) d_Model_thereMany_12 rfl rfl ?_
    refine w_aload_n (q := 14) d_Model_thereMany_13 rfl rfl ?_
    refine w_iload_n (q := 15) d_Model_thereMany_14 rfl rfl ?_
    obtain ⟨v2, hv, h⟩ := bnd h
    refine w_callVi (q := 18) (M' := M_Model_isThere) (n' := 1) (k := 54) (As := [.int s.2]) (sh' := SH) (b1 := (0, 0)) d_Model_thereMany_15 rfl mw_Model_isThere (by decide) (by decide) ml_Model_315 (by decide) s_54 (by decide) rfl rfl rfl (leb rfl) (bz _) (fun _ => rfl) (ok_Model_isThere hv) ?_
    by_cases c3 : v2 = 0
    · rw [if_pos c3] at h
      refine w_if_eq_t (q := 25) d_Model_thereMany_18 rfl c3 ?_
      refine w_iconst (q := 26) (v := 0) d_Model_thereMany_25 rfl (by decide) ?_
      refine w_iadd (q := 27) d_Model_thereMany_26 rfl ?_
      refine w_istore_n (q := 28) (ls' := [some (.ref 54), some (.int (s.1 + 0)), some (.int s.2)]) d_Model_thereMany_27 rfl (by decide) rfl rfl ?_
      refine w_iinc (q := 31) (ls' := [some (.ref 54), some (.int (s.1 + 0)), some (.int (s.2 + 1))]) d_Model_thereMany_28 rfl (by decide) rfl rfl rfl ?_
      refine w_goto (q := 4) d_Model_thereMany_31 rfl ?_
      cases h
      exact w_ls (by exact (And.intro rfl (And.intro rfl (And.intro rfl trivial)))) hr
    · rw [if_neg c3] at h
      refine w_if_eq_f (q := 21) d_Model_thereMany_18 25 rfl rfl c3 ?_
      refine w_iconst (q := 22) (v := 1) d_Model_thereMany_21 rfl (by decide) ?_
      refine w_goto (q := 26) d_Model_thereMany_22 rfl ?_
      refine w_iadd (q := 27) d_Model_thereMany_26 rfl ?_
      refine w_istore_n (q := 28) (ls' := [some (.ref 54), some (.int (s.1 + 1)), some (.int s.2)]) d_Model_thereMany_27 rfl (by decide) rfl rfl ?_
      refine w_iinc (q := 31) (ls' := [some (.ref 54), some (.int (s.1 + 1)), some (.int (s.2 + 1))]) d_Model_thereMany_28 rfl (by decide) rfl rfl rfl ?_
      refine w_goto (q := 4) d_Model_thereMany_31 rfl ?_
      cases h
      exact w_ls (by exact (And.intro rfl (And.intro rfl (And.intro rfl trivial)))) hr
def sp_Model_thereMany (F : Nat) (g : Mem) : Option (Int32) := (lpO (st_Model_thereMany_4 F g) F (0, 0)).bind fun x4 => some x4
theorem ok_Model_thereMany {γ : GG} {tt : Bool} {F : Nat} {g : Mem} {res : Int32} (h : sp_Model_thereMany F g = some res) : CA γ M_Model_thereMany 2 [.ref 54] SH g tt (0, 0) (pI SH res g tt) := by
  refine CA.of mw_Model_thereMany.1 2 rfl ?_
  show WA γ M_Model_thereMany 2 0 [some (.ref 54), none, none] [] SH g tt (0, 0) (pI SH res g tt)
  unfold sp_Model_thereMany at h
  refine w_iconst (q := 1) (v := 0) d_Model_thereMany_0 rfl (by decide) ?_
  refine w_istore_n (q := 2) (ls' := [some (.ref 54), some (.int 0), none]) d_Model_thereMany_1 rfl (by decide) rfl rfl ?_
  refine w_iconst (q := 3) (v := 0) d_Model_thereMany_2 rfl (by decide) ?_
  refine w_istore_n (q := 4) (ls' := [some (.ref 54), some (.int 0), some (.int 0)]) d_Model_thereMany_3 rfl (by decide) rfl rfl ?_
  obtain ⟨x4, hx, h⟩ := bnd h
  refine w_ls (ls' := [some (.ref 54), some (.int 0), some (.int 0)]) (And.intro rfl (And.intro rfl (And.intro rfl trivial))) ?_
  show PL_Model_thereMany_4 γ tt g _ _ (0, 0)
  refine lp_ok (kl_Model_thereMany_4) F _ x4 hx ?_
  unfold QL_Model_thereMany_4
  refine w_iload_n (q := 35) d_Model_thereMany_34 rfl rfl ?_
  cases h
  exact w_ireturn d_Model_thereMany_35 rfl rfl ⟨rfl, rfl, rfl, rfl⟩
def sp_Model_count (F : Nat) (p0 : Int32) (g : Mem) : Option (Int32 × Mem) := if p0 = 0 then if p0 = 0 then (rd (mset g 54 3 0) 58 12 0).bind fun v3 => some (v3, (mset g 54 3 0)) else (rd (mset g 54 3 0) 58 12 (p0 - 1)).bind fun v4 => some (v4, (mset g 54 3 0)) else if p0 = 1 then some ((mset g 54 3 0) 54 26, (mset g 54 3 0)) else if p0 = 2 then if p0 = 0 then (rd (mset g 54 3 0) 58 12 0).bind fun v8 => some (v8, (mset g 54 3 0)) else (rd (mset g 54 3 0) 58 12 (p0 - 1)).bind fun v9 => some (v9, (mset g 54 3 0)) else if p0 = 3 then if p0 = 0 then (rd (mset g 54 3 0) 58 12 0).bind fun v12 => some (v12, (mset g 54 3 0)) else (rd (mset g 54 3 0) 58 12 (p0 - 1)).bind fun v13 => some (v13, (mset g 54 3 0)) else if p0 = 4 then if p0 = 0 then (rd (mset g 54 3 0) 58 12 0).bind fun v16 => some (v16, (mset g 54 3 0)) else (rd (mset g 54 3 0) 58 12 (p0 - 1)).bind fun v17 => some (v17, (mset g 54 3 0)) else if p0 = 5 then some ((mset g 54 3 0) 54 24, (mset g 54 3 0)) else if p0 = 6 then (sp_Model_thereMany F (mset g 54 3 0)).bind fun v20 => some (v20, (mset g 54 3 0)) else if p0 = 7 then (sp_Model_records F (mset g 54 3 0)).bind fun v22 => (sp_Model_bitsOf F v22 (mset g 54 3 0)).bind fun v23 => some (v23, (mset g 54 3 0)) else if p0 = 8 then some ((mset g 54 3 0) 54 25, (mset g 54 3 0)) else if p0 = 9 then some ((mset g 54 3 0) 54 27, (mset g 54 3 0)) else if p0 = 10 then some ((mset g 54 3 0) 54 28, (mset g 54 3 0)) else if p0 = 11 then some ((mset g 54 3 0) 54 12, (mset g 54 3 0)) else if p0 = 12 then (rd (mset g 54 3 0) 64 3 (p0 - 12)).bind fun v29 => some (v29, (mset g 54 3 0)) else if p0 = 13 then (rd (mset g 54 3 0) 64 3 (p0 - 12)).bind fun v31 => some (v31, (mset g 54 3 0)) else if p0 = 14 then (rd (mset g 54 3 0) 64 3 (p0 - 12)).bind fun v33 => some (v33, (mset g 54 3 0)) else (sp_Model_fail 1 (mset g 54 3 0)).bind fun v34 => some (v34.1, v34.2)
theorem ok_Model_count {γ : GG} {tt : Bool} {F : Nat} {p0 : Int32} {g : Mem} {res : Int32 × Mem} (h : sp_Model_count F p0 g = some res) : CA γ M_Model_count 3 [.ref 54, .int p0] SH g tt (0, 0) (pI SH res.1 res.2 tt) := by
  refine CA.of mw_Model_count.1 0 rfl ?_
  show WA γ M_Model_count 3 0 [some (.ref 54), some (.int p0)] [] SH g tt (0, 0) (pI SH res.1 res.2 tt)
  unfold sp_Model_count at h
  refine w_aload_n (q := 1) d_Model_count_0 rfl rfl ?_
  refine w_iconst (q := 2) (v := 0) d_Model_count_1 rfl (by decide) ?_
  refine w_put (q := 5) (ci := 12) (j := 3) d_Model_count_2 rfl (by decide) fl_Model_114 (by decide) (by decide) s_54 rfl rfl rfl rfl rfl rfl ?_
  refine w_iload_n (q := 6) d_Model_count_5 rfl rfl ?_
  by_cases c1 : p0 = 0
  · rw [if_pos c1] at h
    refine w_tabIn (q := 80) (off := 74) d_Model_count_6 (by rw [c1]; decide) (by rw [c1]; decide) (by rw [c1]; decide +kernel) rfl ?_
    refine w_aload_n (q := 81) d_Model_count_80 rfl rfl ?_
    refine w_get (q := 84) (ci := 12) (j := 4) d_Model_count_81 rfl (by decide) fl_Model_51 (by decide) (by decide) s_54 rfl rfl ?_
    refine w_iload_n (q := 85) d_Model_count_84 rfl rfl ?_
    by_cases c2 : p0 = 0
    · rw [if_pos c2] at h
      refine w_if_ne_f (q := 88) d_Model_count_85 92 rfl rfl c2 ?_
      refine w_iconst (q := 89) (v := 0) d_Model_count_88 rfl (by decide) ?_
      refine w_goto (q := 95) d_Model_count_89 rfl ?_
      obtain ⟨v3, hv, h⟩ := bnd h
      obtain ⟨hi, hv⟩ := rd_ok hv
      refine w_iald (q := 96) (t := 0) d_Model_count_95 rfl a_58.2 a_58.1 hi rfl ?_
      rw [hv]
      cases h
      exact w_ireturn d_Model_count_96 rfl rfl ⟨rfl, rfl, rfl, rfl⟩
    · rw [if_neg c2] at h
      refine w_if_ne_t (q := 92) d_Model_count_85 rfl c2 ?_
      refine w_iload_n (q := 93) d_Model_count_92 rfl rfl ?_
      refine w_iconst (q := 94) (v := 1) d_Model_count_93 rfl (by decide) ?_
      refine w_isub (q := 95) d_Model_count_94 rfl ?_
      obtain ⟨v4, hv, h⟩ := bnd h
      obtain ⟨hi, hv⟩ := rd_ok hv
      refine w_iald (q := 96) (t := 0) d_Model_count_95 rfl a_58.2 a_58.1 hi rfl ?_
      rw [hv]
      cases h
      exact w_ireturn d_Model_count_96 rfl rfl ⟨rfl, rfl, rfl, rfl⟩
  rw [if_neg c1] at h
  by_cases c5 : p0 = 1
  · rw [if_pos c5] at h
    refine w_tabIn (q := 97) (off := 91) d_Model_count_6 (by rw [c5]; decide) (by rw [c5]; decide) (by rw [c5]; decide +kernel) rfl ?_
    refine w_aload_n (q := 98) d_Model_count_97 rfl rfl ?_
    refine w_get (q := 101) (ci := 12) (j := 26) d_Model_count_98 rfl (by decide) fl_Model_121 (by decide) (by decide) s_54 rfl rfl ?_
    cases h
    exact w_ireturn d_Model_count_101 rfl rfl ⟨rfl, rfl, rfl, rfl⟩
  rw [if_neg c5] at h
  by_cases c6 : p0 = 2
  · rw [if_pos c6] at h
    refine w_tabIn (q := 80) (off := 74) d_Model_count_6 (by rw [c6]; decide) (by rw [c6]; decide) (by rw [c6]; decide +kernel) rfl ?_
    refine w_aload_n (q := 81) d_Model_count_80 rfl rfl ?_
    refine w_get (q := 84) (ci := 12) (j := 4) d_Model_count_81 rfl (by decide) fl_Model_51 (by decide) (by decide) s_54 rfl rfl ?_
    refine w_iload_n (q := 85) d_Model_count_84 rfl rfl ?_
    by_cases c7 : p0 = 0
    · rw [if_pos c7] at h
      refine w_if_ne_f (q := 88) d_Model_count_85 92 rfl rfl c7 ?_
      refine w_iconst (q := 89) (v := 0) d_Model_count_88 rfl (by decide) ?_
      refine w_goto (q := 95) d_Model_count_89 rfl ?_
      obtain ⟨v8, hv, h⟩ := bnd h
      obtain ⟨hi, hv⟩ := rd_ok hv
      refine w_iald (q := 96) (t := 0) d_Model_count_95 rfl a_58.2 a_58.1 hi rfl ?_
      rw [hv]
      cases h
      exact w_ireturn d_Model_count_96 rfl rfl ⟨rfl, rfl, rfl, rfl⟩
    · rw [if_neg c7] at h
      refine w_if_ne_t (q := 92) d_Model_count_85 rfl c7 ?_
      refine w_iload_n (q := 93) d_Model_count_92 rfl rfl ?_
      refine w_iconst (q := 94) (v := 1) d_Model_count_93 rfl (by decide) ?_
      refine w_isub (q := 95) d_Model_count_94 rfl ?_
      obtain ⟨v9, hv, h⟩ := bnd h
      obtain ⟨hi, hv⟩ := rd_ok hv
      refine w_iald (q := 96) (t := 0) d_Model_count_95 rfl a_58.2 a_58.1 hi rfl ?_
      rw [hv]
      cases h
      exact w_ireturn d_Model_count_96 rfl rfl ⟨rfl, rfl, rfl, rfl⟩
  rw [if_neg c6] at h
  by_cases c10 : p0 = 3
  · rw [if_pos c10] at h
    refine w_tabIn (q := 80) (off := 74) d_Model_count_6 (by rw [c10]; decide) (by rw [c10]; decide) (by rw [c10]; decide +kernel) rfl ?_
    refine w_aload_n (q := 81) d_Model_count_80 rfl rfl ?_
    refine w_get (q := 84) (ci := 12) (j := 4) d_Model_count_81 rfl (by decide) fl_Model_51 (by decide) (by decide) s_54 rfl rfl ?_
    refine w_iload_n (q := 85) d_Model_count_84 rfl rfl ?_
    by_cases c11 : p0 = 0
    · rw [if_pos c11] at h
      refine w_if_ne_f (q := 88) d_Model_count_85 92 rfl rfl c11 ?_
      refine w_iconst (q := 89) (v := 0) d_Model_count_88 rfl (by decide) ?_
      refine w_goto (q := 95) d_Model_count_89 rfl ?_
      obtain ⟨v12, hv, h⟩ := bnd h
      obtain ⟨hi, hv⟩ := rd_ok hv
      refine w_iald (q := 96) (t := 0) d_Model_count_95 rfl a_58.2 a_58.1 hi rfl ?_
      rw [hv]
      cases h
      exact w_ireturn d_Model_count_96 rfl rfl ⟨rfl, rfl, rfl, rfl⟩
    · rw [if_neg c11] at h
      refine w_if_ne_t (q := 92) d_Model_count_85 rfl c11 ?_
      refine w_iload_n (q := 93) d_Model_count_92 rfl rfl ?_
      refine w_iconst (q := 94) (v := 1) d_Model_count_93 rfl (by decide) ?_
      refine w_isub (q := 95) d_Model_count_94 rfl ?_
      obtain ⟨v13, hv, h⟩ := bnd h
      obtain ⟨hi, hv⟩ := rd_ok hv
      refine w_iald (q := 96) (t := 0) d_Model_count_95 rfl a_58.2 a_58.1 hi rfl ?_
      rw [hv]
      cases h
      exact w_ireturn d_Model_count_96 rfl rfl ⟨rfl, rfl, rfl, rfl⟩
  rw [if_neg c10] at h
  by_cases c14 : p0 = 4
  · rw [if_pos c14] at h
    refine w_tabIn (q := 80) (off := 74) d_Model_count_6 (by rw [c14]; decide) (by rw [c14]; decide) (by rw [c14]; decide +kernel) rfl ?_
    refine w_aload_n (q := 81) d_Model_count_80 rfl rfl ?_
    refine w_get (q := 84) (ci := 12) (j := 4) d_Model_count_81 rfl (by decide) fl_Model_51 (by decide) (by decide) s_54 rfl rfl ?_
    refine w_iload_n (q := 85) d_Model_count_84 rfl rfl ?_
    by_cases c15 : p0 = 0
    · rw [if_pos c15] at h
      refine w_if_ne_f (q := 88) d_Model_count_85 92 rfl rfl c15 ?_
      refine w_iconst (q := 89) (v := 0) d_Model_count_88 rfl (by decide) ?_
      refine w_goto (q := 95) d_Model_count_89 rfl ?_
      obtain ⟨v16, hv, h⟩ := bnd h
      obtain ⟨hi, hv⟩ := rd_ok hv
      refine w_iald (q := 96) (t := 0) d_Model_count_95 rfl a_58.2 a_58.1 hi rfl ?_
      rw [hv]
      cases h
      exact w_ireturn d_Model_count_96 rfl rfl ⟨rfl, rfl, rfl, rfl⟩
    · rw [if_neg c15] at h
      refine w_if_ne_t (q := 92) d_Model_count_85 rfl c15 ?_
      refine w_iload_n (q := 93) d_Model_count_92 rfl rfl ?_
      refine w_iconst (q := 94) (v := 1) d_Model_count_93 rfl (by decide) ?_
      refine w_isub (q := 95) d_Model_count_94 rfl ?_
      obtain ⟨v17, hv, h⟩ := bnd h
      obtain ⟨hi, hv⟩ := rd_ok hv
      refine w_iald (q := 96) (t := 0) d_Model_count_95 rfl a_58.2 a_58.1 hi rfl ?_
      rw [hv]
      cases h
      exact w_ireturn d_Model_count_96 rfl rfl ⟨rfl, rfl, rfl, rfl⟩
  rw [if_neg c14] at h
  by_cases c18 : p0 = 5
  · rw [if_pos c18] at h
    refine w_tabIn (q := 102) (off := 96) d_Model_count_6 (by rw [c18]; decide) (by rw [c18]; decide) (by rw [c18]; decide +kernel) rfl ?_
    refine w_aload_n (q := 103) d_Model_count_102 rfl rfl ?_
    refine w_get (q := 106) (ci := 12) (j := 24) d_Model_count_103 rfl (by decide) fl_Model_286 (by decide) (by decide) s_54 rfl rfl ?_
    cases h
    exact w_ireturn d_Model_count_106 rfl rfl ⟨rfl, rfl, rfl, rfl⟩
  rw [if_neg c18] at h
  by_cases c19 : p0 = 6
  · rw [if_pos c19] at h
    refine w_tabIn (q := 107) (off := 101) d_Model_count_6 (by rw [c19]; decide) (by rw [c19]; decide) (by rw [c19]; decide +kernel) rfl ?_
    refine w_aload_n (q := 108) d_Model_count_107 rfl rfl ?_
    obtain ⟨v20, hv, h⟩ := bnd h
    refine w_callVi (q := 111) (M' := M_Model_thereMany) (n' := 2) (k := 54) (As := []) (sh' := SH) (b1 := (0, 0)) d_Model_count_108 rfl mw_Model_thereMany (by decide) (by decide) ml_Model_326 (by decide) s_54 (by decide) rfl rfl rfl (leb rfl) (bz _) (fun _ => rfl) (ok_Model_thereMany hv) ?_
    cases h
    exact w_ireturn d_Model_count_111 rfl rfl ⟨rfl, rfl, rfl, rfl⟩
  rw [if_neg c19] at h
  by_cases c21 : p0 = 7
  · rw [if_pos c21] at h
    refine w_tabIn (q := 112) (off := 106) d_Model_count_6 (by rw [c21]; decide) (by rw [c21]; decide) (by rw [c21]; decide +kernel) rfl ?_
    refine w_aload_n (q := 113) d_Model_count_112 rfl rfl ?_
    obtain ⟨v22, hv, h⟩ := bnd h
    refine w_callVi (q := 116) (M' := M_Model_records) (n' := 2) (k := 54) (As := []) (sh' := SH) (b1 := (0, 0)) d_Model_count_113 rfl mw_Model_records (by decide) (by decide) ml_Model_329 (by decide) s_54 (by decide) rfl rfl rfl (leb rfl) (bz _) (fun _ => rfl) (ok_Model_records hv) ?_
    obtain ⟨v23, hv, h⟩ := bnd h
    refine w_callSi (q := 119) (M' := M_Model_bitsOf) (n' := 0) (As := [.int v22]) (sh' := SH) (b1 := (0, 0)) d_Model_count_116 rfl mw_Model_bitsOf (by decide) (by decide) ml_Model_332 rfl rfl (leb rfl) (bz _) (fun _ => rfl) (ok_Model_bitsOf hv) ?_
    cases h
    exact w_ireturn d_Model_count_119 rfl rfl ⟨rfl, rfl, rfl, rfl⟩
  rw [if_neg c21] at h
  by_cases c24 : p0 = 8
  · rw [if_pos c24] at h
    refine w_tabIn (q := 120) (off := 114) d_Model_count_6 (by rw [c24]; decide) (by rw [c24]; decide) (by rw [c24]; decide +kernel) rfl ?_
    refine w_aload_n (q := 121) d_Model_count_120 rfl rfl ?_
    refine w_get (q := 124) (ci := 12) (j := 25) d_Model_count_121 rfl (by decide) fl_Model_289 (by decide) (by decide) s_54 rfl rfl ?_
    cases h
    exact w_ireturn d_Model_count_124 rfl rfl ⟨rfl, rfl, rfl, rfl⟩
  rw [if_neg c24] at h
  by_cases c25 : p0 = 9
  · rw [if_pos c25] at h
    refine w_tabIn (q := 125) (off := 119) d_Model_count_6 (by rw [c25]; decide) (by rw [c25]; decide) (by rw [c25]; decide +kernel) rfl ?_
    refine w_aload_n (q := 126) d_Model_count_125 rfl rfl ?_
    refine w_get (q := 129) (ci := 12) (j := 27) d_Model_count_126 rfl (by decide) fl_Model_295 (by decide) (by decide) s_54 rfl rfl ?_
    cases h
    exact w_ireturn d_Model_count_129 rfl rfl ⟨rfl, rfl, rfl, rfl⟩
  rw [if_neg c25] at h
  by_cases c26 : p0 = 10
  · rw [if_pos c26] at h
    refine w_tabIn (q := 130) (off := 124) d_Model_count_6 (by rw [c26]; decide) (by rw [c26]; decide) (by rw [c26]; decide +kernel) rfl ?_
    refine w_aload_n (q := 131) d_Model_count_130 rfl rfl ?_
    refine w_get (q := 134) (ci := 12) (j := 28) d_Model_count_131 rfl (by decide) fl_Model_298 (by decide) (by decide) s_54 rfl rfl ?_
    cases h
    exact w_ireturn d_Model_count_134 rfl rfl ⟨rfl, rfl, rfl, rfl⟩
  rw [if_neg c26] at h
  by_cases c27 : p0 = 11
  · rw [if_pos c27] at h
    refine w_tabIn (q := 135) (off := 129) d_Model_count_6 (by rw [c27]; decide) (by rw [c27]; decide) (by rw [c27]; decide +kernel) rfl ?_
    refine w_aload_n (q := 136) d_Model_count_135 rfl rfl ?_
    refine w_get (q := 139) (ci := 12) (j := 12) d_Model_count_136 rfl (by decide) fl_Model_126 (by decide) (by decide) s_54 rfl rfl ?_
    cases h
    exact w_ireturn d_Model_count_139 rfl rfl ⟨rfl, rfl, rfl, rfl⟩
  rw [if_neg c27] at h
  by_cases c28 : p0 = 12
  · rw [if_pos c28] at h
    refine w_tabIn (q := 140) (off := 134) d_Model_count_6 (by rw [c28]; decide) (by rw [c28]; decide) (by rw [c28]; decide +kernel) rfl ?_
    refine w_aload_n (q := 141) d_Model_count_140 rfl rfl ?_
    refine w_get (q := 144) (ci := 12) (j := 10) d_Model_count_141 rfl (by decide) fl_Model_68 (by decide) (by decide) s_54 rfl rfl ?_
    refine w_iload_n (q := 145) d_Model_count_144 rfl rfl ?_
    refine w_bipush (q := 147) (v := 12) d_Model_count_145 rfl (by decide) ?_
    refine w_isub (q := 148) d_Model_count_147 rfl ?_
    obtain ⟨v29, hv, h⟩ := bnd h
    obtain ⟨hi, hv⟩ := rd_ok hv
    refine w_iald (q := 149) (t := 0) d_Model_count_148 rfl a_64.2 a_64.1 hi rfl ?_
    rw [hv]
    cases h
    exact w_ireturn d_Model_count_149 rfl rfl ⟨rfl, rfl, rfl, rfl⟩
  rw [if_neg c28] at h
  by_cases c30 : p0 = 13
  · rw [if_pos c30] at h
    refine w_tabIn (q := 140) (off := 134) d_Model_count_6 (by rw [c30]; decide) (by rw [c30]; decide) (by rw [c30]; decide +kernel) rfl ?_
    refine w_aload_n (q := 141) d_Model_count_140 rfl rfl ?_
    refine w_get (q := 144) (ci := 12) (j := 10) d_Model_count_141 rfl (by decide) fl_Model_68 (by decide) (by decide) s_54 rfl rfl ?_
    refine w_iload_n (q := 145) d_Model_count_144 rfl rfl ?_
    refine w_bipush (q := 147) (v := 12) d_Model_count_145 rfl (by decide) ?_
    refine w_isub (q := 148) d_Model_count_147 rfl ?_
    obtain ⟨v31, hv, h⟩ := bnd h
    obtain ⟨hi, hv⟩ := rd_ok hv
    refine w_iald (q := 149) (t := 0) d_Model_count_148 rfl a_64.2 a_64.1 hi rfl ?_
    rw [hv]
    cases h
    exact w_ireturn d_Model_count_149 rfl rfl ⟨rfl, rfl, rfl, rfl⟩
  rw [if_neg c30] at h
  by_cases c32 : p0 = 14
  · rw [if_pos c32] at h
    refine w_tabIn (q := 140) (off := 134) d_Model_count_6 (by rw [c32]; decide) (by rw [c32]; decide) (by rw [c32]; decide +kernel) rfl ?_
    refine w_aload_n (q := 141) d_Model_count_140 rfl rfl ?_
    refine w_get (q := 144) (ci := 12) (j := 10) d_Model_count_141 rfl (by decide) fl_Model_68 (by decide) (by decide) s_54 rfl rfl ?_
    refine w_iload_n (q := 145) d_Model_count_144 rfl rfl ?_
    refine w_bipush (q := 147) (v := 12) d_Model_count_145 rfl (by decide) ?_
    refine w_isub (q := 148) d_Model_count_147 rfl ?_
    obtain ⟨v33, hv, h⟩ := bnd h
    obtain ⟨hi, hv⟩ := rd_ok hv
    refine w_iald (q := 149) (t := 0) d_Model_count_148 rfl a_64.2 a_64.1 hi rfl ?_
    rw [hv]
    cases h
    exact w_ireturn d_Model_count_149 rfl rfl ⟨rfl, rfl, rfl, rfl⟩
  rw [if_neg c32] at h
  have hsw : p0.toInt < 0 ∨ 14 < p0.toInt := by
    refine sw_out (fun c h1 h2 e => ?_)
    have h9 : c = 0 ∨ c = 1 ∨ c = 2 ∨ c = 3 ∨ c = 4 ∨ c = 5 ∨ c = 6 ∨ c = 7 ∨ c = 8 ∨ c = 9 ∨ c = 10 ∨ c = 11 ∨ c = 12 ∨ c = 13 ∨ c = 14 := by omega
    rcases h9 with rfl | rfl | rfl | rfl | rfl | rfl | rfl | rfl | rfl | rfl | rfl | rfl | rfl | rfl | rfl
    · exact c1 (Int32.toInt_inj.mp (e.trans (by decide)))
    · exact c5 (Int32.toInt_inj.mp (e.trans (by decide)))
    · exact c6 (Int32.toInt_inj.mp (e.trans (by decide)))
    · exact c10 (Int32.toInt_inj.mp (e.trans (by decide)))
    · exact c14 (Int32.toInt_inj.mp (e.trans (by decide)))
    · exact c18 (Int32.toInt_inj.mp (e.trans (by decide)))
    · exact c19 (Int32.toInt_inj.mp (e.trans (by decide)))
    · exact c21 (Int32.toInt_inj.mp (e.trans (by decide)))
    · exact c24 (Int32.toInt_inj.mp (e.trans (by decide)))
    · exact c25 (Int32.toInt_inj.mp (e.trans (by decide)))
    · exact c26 (Int32.toInt_inj.mp (e.trans (by decide)))
    · exact c27 (Int32.toInt_inj.mp (e.trans (by decide)))
    · exact c28 (Int32.toInt_inj.mp (e.trans (by decide)))
    · exact c30 (Int32.toInt_inj.mp (e.trans (by decide)))
    · exact c32 (Int32.toInt_inj.mp (e.trans (by decide)))
  refine w_tabOut (q := 150) d_Model_count_6 hsw rfl ?_
  refine w_aload_n (q := 151) d_Model_count_150 rfl rfl ?_
  refine w_iconst (q := 152) (v := 1) d_Model_count_151 rfl (by decide) ?_
  obtain ⟨v34, hv, h⟩ := bnd h
  refine w_callVi (q := 155) (M' := M_Model_fail) (n' := 0) (k := 54) (As := [.int 1]) (sh' := SH) (b1 := (0, 0)) d_Model_count_152 rfl mw_Model_fail (by decide) (by decide) ml_Model_273 (by decide) s_54 (by decide) rfl rfl rfl (leb rfl) (bz _) (fun _ => rfl) (ok_Model_fail hv) ?_
  cases h
  exact w_ireturn d_Model_count_155 rfl rfl ⟨rfl, rfl, rfl, rfl⟩
def PL_Model_monk_115 (γ : GG) (tt : Bool) (p0 : Int32) (p1 : Int32) (g : Mem) (k1 : Int32) (m0 : Mem) (b : Nat × Nat) (Φ : PO) (s : Int32 × Int32) : Prop := WA γ M_Model_monk 4 115 [some (.ref 54), some (.int k1), none, some (.int s.1), some (.int s.2)] [] SH m0 tt b Φ
def QL_Model_monk_115 (γ : GG) (tt : Bool) (p0 : Int32) (p1 : Int32) (g : Mem) (k1 : Int32) (m0 : Mem) (b : Nat × Nat) (Φ : PO) (x : (Int32)) : Prop := WA γ M_Model_monk 4 158 [none, none, none, some (.int x), none] [] SH m0 tt b Φ
def st_Model_monk_115 (F : Nat) (p0 : Int32) (p1 : Int32) (g : Mem) (k1 : Int32) (m0 : Mem) (s : Int32 × Int32) : Option ((Int32 × Int32) ⊕ ((Int32))) := if (m0 54 26) ≤ s.2 then some (.inr s.1) else (sp_Model_isThere s.2 m0).bind fun v19 => if v19 = 0 then some (.inl (s.1 + 0, s.2 + 1)) else (sp_Model_of s.2 1 m0).bind fun v21 => if v21 = k1 then some (.inl (s.1 + 1, s.2 + 1)) else some (.inl (s.1 + 0, s.2 + 1))
theorem kl_Model_monk_115 {γ : GG} {tt : Bool} {F : Nat} {p0 : Int32} {p1 : Int32} {g : Mem} {k1 : Int32} {m0 : Mem} {b : Nat × Nat} {Φ : PO} : ∀ (s : Int32 × Int32) (r : (Int32 × Int32) ⊕ ((Int32))), st_Model_monk_115 F p0 p1 g k1 m0 s = some r → RQ (PL_Model_monk_115 γ tt p0 p1 g k1 m0 b Φ) (QL_Model_monk_115 γ tt p0 p1 g k1 m0 b Φ) r → PL_Model_monk_115 γ tt p0 p1 g k1 m0 b Φ s := by
  intro s r h hr
  unfold st_Model_monk_115 at h
  unfold PL_Model_monk_115
  refine w_iload (q := 117) d_Model_monk_115 rfl rfl ?_
  refine w_aload_n (q := 118) d_Model_monk_117 rfl rfl ?_
  refine w_get (q := 121) (ci := 12) (j := 26) d_Model_monk_118 rfl (by decide) fl_Model_121 (by decide) (by decide) s_54 rfl rfl ?_
  by_cases c18 : (m0 54 26) ≤ s.2
  · rw [if_pos c18] at h
    refine w_icmp_ge_t (q := 158) d_Model_monk_121 rfl c18 ?_
    cases h
    exact w_ls (by exact (And.intro rfl trivial)) hr
  · rw [if_neg c18] at h
    refine w_icmp_ge_f (q := 124) d_Model_monk_121 158 rfl rfl c18 ?_
    refine w_iload_n (q := 125) d_Model_monk_124 rfl rfl ?_
    refine w_aload_n (q := 126) d_Model_monk_125 rfl rfl ?_
    refine w_iload (q := 128) d_Model_monk_126 rfl rfl ?_
    obtain ⟨v19, hv, h⟩ := bnd h
    refine w_callVi (q := 131) (M' := M_Model_isThere) (n' := 1) (k := 54) (As := [.int s.2]) (sh' := SH) (b1 := (0, 0)) d_Model_monk_128 rfl mw_Model_isThere (by decide) (by decide) ml_Model_315 (by decide) s_54 (by decide) rfl rfl rfl (leb rfl) (bz _) (fun _ => rfl) (ok_Model_isThere hv) ?_
    by_cases c20 : v19 = 0
    · rw [if_pos c20] at h
      refine w_if_eq_t (q := 149) d_Model_monk_131 rfl c20 ?_
      refine w_iconst (q := 150) (v := 0) d_Model_monk_149 rfl (by decide) ?_
      refine w_iadd (q := 151) d_Model_monk_150 rfl ?_
      refine w_istore_n (q := 152) (ls' := [some (.ref 54), some (.int k1), none, some (.int (s.1 + 0)), some (.int s.2)]) d_Model_monk_151 rfl (by decide) rfl rfl ?_
      refine w_iinc (q := 155) (ls' := [some (.ref 54), some (.int k1), none, some (.int (s.1 + 0)), some (.int (s.2 + 1))]) d_Model_monk_152 rfl (by decide) rfl rfl rfl ?_
      refine w_goto (q := 115) d_Model_monk_155 rfl ?_
      cases h
      exact w_ls (by exact (And.intro rfl (And.intro rfl (And.intro rfl (And.intro rfl trivial))))) hr
    · rw [if_neg c20] at h
      refine w_if_eq_f (q := 134) d_Model_monk_131 149 rfl rfl c20 ?_
      refine w_aload_n (q := 135) d_Model_monk_134 rfl rfl ?_
      refine w_iload (q := 137) d_Model_monk_135 rfl rfl ?_
      refine w_iconst (q := 138) (v := 1) d_Model_monk_137 rfl (by decide) ?_
      obtain ⟨v21, hv, h⟩ := bnd h
      refine w_callVi (q := 141) (M' := M_Model_of) (n' := 0) (k := 54) (As := [.int s.2, .int 1]) (sh' := SH) (b1 := (0, 0)) d_Model_monk_138 rfl mw_Model_of (by decide) (by decide) ml_Model_305 (by decide) s_54 (by decide) rfl rfl rfl (leb rfl) (bz _) (fun _ => rfl) (ok_Model_of hv) ?_
      refine w_iload_n (q := 142) d_Model_monk_141 rfl rfl ?_
      by_cases c22 : v21 = k1
      · rw [if_pos c22] at h
        refine w_icmp_ne_f (q := 145) d_Model_monk_142 149 rfl rfl c22 ?_
        refine w_iconst (q := 146) (v := 1) d_Model_monk_145 rfl (by decide) ?_
        refine w_goto (q := 150) d_Model_monk_146 rfl ?_
        refine w_iadd (q := 151) d_Model_monk_150 rfl ?_
        refine w_istore_n (q := 152) (ls' := [some (.ref 54), some (.int k1), none, some (.int (s.1 + 1)), some (.int s.2)]) d_Model_monk_151 rfl (by decide) rfl rfl ?_
        refine w_iinc (q := 155) (ls' := [some (.ref 54), some (.int k1), none, some (.int (s.1 + 1)), some (.int (s.2 + 1))]) d_Model_monk_152 rfl (by decide) rfl rfl rfl ?_
        refine w_goto (q := 115) d_Model_monk_155 rfl ?_
        cases h
        exact w_ls (by exact (And.intro rfl (And.intro rfl (And.intro rfl (And.intro rfl trivial))))) hr
      · rw [if_neg c22] at h
        refine w_icmp_ne_t (q := 149) d_Model_monk_142 rfl c22 ?_
        refine w_iconst (q := 150) (v := 0) d_Model_monk_149 rfl (by decide) ?_
        refine w_iadd (q := 151) d_Model_monk_150 rfl ?_
        refine w_istore_n (q := 152) (ls' := [some (.ref 54), some (.int k1), none, some (.int (s.1 + 0)), some (.int s.2)]) d_Model_monk_151 rfl (by decide) rfl rfl ?_
        refine w_iinc (q := 155) (ls' := [some (.ref 54), some (.int k1), none, some (.int (s.1 + 0)), some (.int (s.2 + 1))]) d_Model_monk_152 rfl (by decide) rfl rfl rfl ?_
        refine w_goto (q := 115) d_Model_monk_155 rfl ?_
        cases h
        exact w_ls (by exact (And.intro rfl (And.intro rfl (And.intro rfl (And.intro rfl trivial))))) hr
def sp_Model_monk (F : Nat) (p0 : Int32) (p1 : Int32) (g : Mem) : Option (Int32 × Mem) := (sp_Model_isMonk p0 (mset g 54 3 0)).bind fun v1 => if v1 = 0 then (sp_Model_fail 1 (mset g 54 3 0)).bind fun v3 => some (v3.1, v3.2) else if p1 = 0 then (rd (mset g 54 3 0) 59 12 p0).bind fun v5 => some (v5, (mset g 54 3 0)) else if p1 = 1 then (sp_Model_ageOf p0 (mset g 54 3 0)).bind fun v7 => some (v7, (mset g 54 3 0)) else if p1 = 2 then (rd (mset g 54 3 0) 61 12 p0).bind fun v9 => some (v9, (mset g 54 3 0)) else if p1 = 3 then (rd (mset g 54 3 0) 59 12 p0).bind fun v11 => (rd (mset g 54 3 0) 58 12 1).bind fun v12 => (sp_Model_mayHave v11 v12 (mset g 54 3 0)).bind fun v13 => some (v13, (mset g 54 3 0)) else if p1 = 4 then (sp_Model_isGrey p0 (mset g 54 3 0)).bind fun v15 => if v15 = 0 then some (0, (mset g 54 3 0)) else some (1, (mset g 54 3 0)) else if p1 = 5 then (lpO (st_Model_monk_115 F p0 p1 g p0 (mset g 54 3 0)) F (0, 0)).bind fun x23 => some (x23, (mset g 54 3 0)) else (sp_Model_fail 1 (mset g 54 3 0)).bind fun v24 => some (v24.1, v24.2)
theorem ok_Model_monk {γ : GG} {tt : Bool} {F : Nat} {p0 : Int32} {p1 : Int32} {g : Mem} {res : Int32 × Mem} (h : sp_Model_monk F p0 p1 g = some res) : CA γ M_Model_monk 4 [.ref 54, .int p0, .int p1] SH g tt (0, 0) (pI SH res.1 res.2 tt) := by
  refine CA.of mw_Model_monk.1 2 rfl ?_
  show WA γ M_Model_monk 4 0 [some (.ref 54), some (.int p0), some (.int p1), none, none] [] SH g tt (0, 0) (pI SH res.1 res.2 tt)
  unfold sp_Model_monk at h
  refine w_aload_n (q := 1) d_Model_monk_0 rfl rfl ?_
  refine w_iconst (q := 2) (v := 0) d_Model_monk_1 rfl (by decide) ?_
  refine w_put (q := 5) (ci := 12) (j := 3) d_Model_monk_2 rfl (by decide) fl_Model_114 (by decide) (by decide) s_54 rfl rfl rfl rfl rfl rfl ?_
  refine w_aload_n (q := 6) d_Model_monk_5 rfl rfl ?_
  refine w_iload_n (q := 7) d_Model_monk_6 rfl rfl ?_
  obtain ⟨v1, hv, h⟩ := bnd h
  refine w_callVi (q := 10) (M' := M_Model_isMonk) (n' := 1) (k := 54) (As := [.int p0]) (sh' := SH) (b1 := (0, 0)) d_Model_monk_7 rfl mw_Model_isMonk (by decide) (by decide) ml_Model_335 (by decide) s_54 (by decide) rfl rfl rfl (leb rfl) (bz _) (fun _ => rfl) (ok_Model_isMonk hv) ?_
  by_cases c2 : v1 = 0
  · rw [if_pos c2] at h
    refine w_if_ne_f (q := 13) d_Model_monk_10 19 rfl rfl c2 ?_
    refine w_aload_n (q := 14) d_Model_monk_13 rfl rfl ?_
    refine w_iconst (q := 15) (v := 1) d_Model_monk_14 rfl (by decide) ?_
    obtain ⟨v3, hv, h⟩ := bnd h
    refine w_callVi (q := 18) (M' := M_Model_fail) (n' := 0) (k := 54) (As := [.int 1]) (sh' := SH) (b1 := (0, 0)) d_Model_monk_15 rfl mw_Model_fail (by decide) (by decide) ml_Model_273 (by decide) s_54 (by decide) rfl rfl rfl (leb rfl) (bz _) (fun _ => rfl) (ok_Model_fail hv) ?_
    cases h
    exact w_ireturn d_Model_monk_18 rfl rfl ⟨rfl, rfl, rfl, rfl⟩
  · rw [if_neg c2] at h
    refine w_if_ne_t (q := 19) d_Model_monk_10 rfl c2 ?_
    refine w_iload_n (q := 20) d_Model_monk_19 rfl rfl ?_
    by_cases c4 : p1 = 0
    · rw [if_pos c4] at h
      refine w_tabIn (q := 60) (off := 40) d_Model_monk_20 (by rw [c4]; decide) (by rw [c4]; decide) (by rw [c4]; decide +kernel) rfl ?_
      refine w_aload_n (q := 61) d_Model_monk_60 rfl rfl ?_
      refine w_get (q := 64) (ci := 12) (j := 5) d_Model_monk_61 rfl (by decide) fl_Model_55 (by decide) (by decide) s_54 rfl rfl ?_
      refine w_iload_n (q := 65) d_Model_monk_64 rfl rfl ?_
      obtain ⟨v5, hv, h⟩ := bnd h
      obtain ⟨hi, hv⟩ := rd_ok hv
      refine w_iald (q := 66) (t := 0) d_Model_monk_65 rfl a_59.2 a_59.1 hi rfl ?_
      rw [hv]
      cases h
      exact w_ireturn d_Model_monk_66 rfl rfl ⟨rfl, rfl, rfl, rfl⟩
    rw [if_neg c4] at h
    by_cases c6 : p1 = 1
    · rw [if_pos c6] at h
      refine w_tabIn (q := 67) (off := 47) d_Model_monk_20 (by rw [c6]; decide) (by rw [c6]; decide) (by rw [c6]; decide +kernel) rfl ?_
      refine w_aload_n (q := 68) d_Model_monk_67 rfl rfl ?_
      refine w_iload_n (q := 69) d_Model_monk_68 rfl rfl ?_
      obtain ⟨v7, hv, h⟩ := bnd h
      refine w_callVi (q := 72) (M' := M_Model_ageOf) (n' := 2) (k := 54) (As := [.int p0]) (sh' := SH) (b1 := (0, 0)) d_Model_monk_69 rfl mw_Model_ageOf (by decide) (by decide) ml_Model_323 (by decide) s_54 (by decide) rfl rfl rfl (leb rfl) (bz _) (fun _ => rfl) (ok_Model_ageOf hv) ?_
      cases h
      exact w_ireturn d_Model_monk_72 rfl rfl ⟨rfl, rfl, rfl, rfl⟩
    rw [if_neg c6] at h
    by_cases c8 : p1 = 2
    · rw [if_pos c8] at h
      refine w_tabIn (q := 73) (off := 53) d_Model_monk_20 (by rw [c8]; decide) (by rw [c8]; decide) (by rw [c8]; decide +kernel) rfl ?_
      refine w_aload_n (q := 74) d_Model_monk_73 rfl rfl ?_
      refine w_get (q := 77) (ci := 12) (j := 7) d_Model_monk_74 rfl (by decide) fl_Model_59 (by decide) (by decide) s_54 rfl rfl ?_
      refine w_iload_n (q := 78) d_Model_monk_77 rfl rfl ?_
      obtain ⟨v9, hv, h⟩ := bnd h
      obtain ⟨hi, hv⟩ := rd_ok hv
      refine w_iald (q := 79) (t := 0) d_Model_monk_78 rfl a_61.2 a_61.1 hi rfl ?_
      rw [hv]
      cases h
      exact w_ireturn d_Model_monk_79 rfl rfl ⟨rfl, rfl, rfl, rfl⟩
    rw [if_neg c8] at h
    by_cases c10 : p1 = 3
    · rw [if_pos c10] at h
      refine w_tabIn (q := 80) (off := 60) d_Model_monk_20 (by rw [c10]; decide) (by rw [c10]; decide) (by rw [c10]; decide +kernel) rfl ?_
      refine w_aload_n (q := 81) d_Model_monk_80 rfl rfl ?_
      refine w_get (q := 84) (ci := 12) (j := 5) d_Model_monk_81 rfl (by decide) fl_Model_55 (by decide) (by decide) s_54 rfl rfl ?_
      refine w_iload_n (q := 85) d_Model_monk_84 rfl rfl ?_
      obtain ⟨v11, hv, h⟩ := bnd h
      obtain ⟨hi, hv⟩ := rd_ok hv
      refine w_iald (q := 86) (t := 0) d_Model_monk_85 rfl a_59.2 a_59.1 hi rfl ?_
      rw [hv]
      refine w_aload_n (q := 87) d_Model_monk_86 rfl rfl ?_
      refine w_get (q := 90) (ci := 12) (j := 4) d_Model_monk_87 rfl (by decide) fl_Model_51 (by decide) (by decide) s_54 rfl rfl ?_
      refine w_iconst (q := 91) (v := 1) d_Model_monk_90 rfl (by decide) ?_
      obtain ⟨v12, hv, h⟩ := bnd h
      obtain ⟨hi, hv⟩ := rd_ok hv
      refine w_iald (q := 92) (t := 0) d_Model_monk_91 rfl a_58.2 a_58.1 hi rfl ?_
      rw [hv]
      obtain ⟨v13, hv, h⟩ := bnd h
      refine w_callSi (q := 95) (M' := M_Model_mayHave) (n' := 1) (As := [.int v11, .int v12]) (sh' := SH) (b1 := (0, 0)) d_Model_monk_92 rfl mw_Model_mayHave (by decide) (by decide) ml_Model_239 rfl rfl (leb rfl) (bz _) (fun _ => rfl) (ok_Model_mayHave hv) ?_
      cases h
      exact w_ireturn d_Model_monk_95 rfl rfl ⟨rfl, rfl, rfl, rfl⟩
    rw [if_neg c10] at h
    by_cases c14 : p1 = 4
    · rw [if_pos c14] at h
      refine w_tabIn (q := 96) (off := 76) d_Model_monk_20 (by rw [c14]; decide) (by rw [c14]; decide) (by rw [c14]; decide +kernel) rfl ?_
      refine w_aload_n (q := 97) d_Model_monk_96 rfl rfl ?_
      refine w_iload_n (q := 98) d_Model_monk_97 rfl rfl ?_
      obtain ⟨v15, hv, h⟩ := bnd h
      refine w_callVi (q := 101) (M' := M_Model_isGrey) (n' := 3) (k := 54) (As := [.int p0]) (sh' := SH) (b1 := (0, 0)) d_Model_monk_98 rfl mw_Model_isGrey (by decide) (by decide) ml_Model_338 (by decide) s_54 (by decide) rfl rfl rfl (leb rfl) (bz _) (fun _ => rfl) (ok_Model_isGrey hv) ?_
      by_cases c16 : v15 = 0
      · rw [if_pos c16] at h
        refine w_if_eq_t (q := 108) d_Model_monk_101 rfl c16 ?_
        refine w_iconst (q := 109) (v := 0) d_Model_monk_108 rfl (by decide) ?_
        cases h
        exact w_ireturn d_Model_monk_109 rfl rfl ⟨rfl, rfl, rfl, rfl⟩
      · rw [if_neg c16] at h
        refine w_if_eq_f (q := 104) d_Model_monk_101 108 rfl rfl c16 ?_
        refine w_iconst (q := 105) (v := 1) d_Model_monk_104 rfl (by decide) ?_
        refine w_goto (q := 109) d_Model_monk_105 rfl ?_
        cases h
        exact w_ireturn d_Model_monk_109 rfl rfl ⟨rfl, rfl, rfl, rfl⟩
    rw [if_neg c14] at h
    by_cases c17 : p1 = 5
    · rw [if_pos c17] at h
      refine w_tabIn (q := 110) (off := 90) d_Model_monk_20 (by rw [c17]; decide) (by rw [c17]; decide) (by rw [c17]; decide +kernel) rfl ?_
      refine w_iconst (q := 111) (v := 0) d_Model_monk_110 rfl (by decide) ?_
      refine w_istore_n (q := 112) (ls' := [some (.ref 54), some (.int p0), some (.int p1), some (.int 0), none]) d_Model_monk_111 rfl (by decide) rfl rfl ?_
      refine w_iconst (q := 113) (v := 0) d_Model_monk_112 rfl (by decide) ?_
      refine w_istore (q := 115) (ls' := [some (.ref 54), some (.int p0), some (.int p1), some (.int 0), some (.int 0)]) d_Model_monk_113 rfl (by decide) rfl rfl ?_
      obtain ⟨x23, hx, h⟩ := bnd h
      refine w_ls (ls' := [some (.ref 54), some (.int p0), none, some (.int 0), some (.int 0)]) (And.intro rfl (And.intro rfl (And.intro rfl (And.intro rfl trivial)))) ?_
      show PL_Model_monk_115 γ tt p0 p1 g p0 (mset g 54 3 0) _ _ (0, 0)
      refine lp_ok (kl_Model_monk_115) F _ x23 hx ?_
      unfold QL_Model_monk_115
      refine w_iload_n (q := 159) d_Model_monk_158 rfl rfl ?_
      cases h
      exact w_ireturn d_Model_monk_159 rfl rfl ⟨rfl, rfl, rfl, rfl⟩
    rw [if_neg c17] at h
    have hsw : p1.toInt < 0 ∨ 5 < p1.toInt := by
      refine sw_out (fun c h1 h2 e => ?_)
      have h9 : c = 0 ∨ c = 1 ∨ c = 2 ∨ c = 3 ∨ c = 4 ∨ c = 5 := by omega
      rcases h9 with rfl | rfl | rfl | rfl | rfl | rfl
      · exact c4 (Int32.toInt_inj.mp (e.trans (by decide)))
      · exact c6 (Int32.toInt_inj.mp (e.trans (by decide)))
      · exact c8 (Int32.toInt_inj.mp (e.trans (by decide)))
      · exact c10 (Int32.toInt_inj.mp (e.trans (by decide)))
      · exact c14 (Int32.toInt_inj.mp (e.trans (by decide)))
      · exact c17 (Int32.toInt_inj.mp (e.trans (by decide)))
    refine w_tabOut (q := 160) d_Model_monk_20 hsw rfl ?_
    refine w_aload_n (q := 161) d_Model_monk_160 rfl rfl ?_
    refine w_iconst (q := 162) (v := 1) d_Model_monk_161 rfl (by decide) ?_
    obtain ⟨v24, hv, h⟩ := bnd h
    refine w_callVi (q := 165) (M' := M_Model_fail) (n' := 0) (k := 54) (As := [.int 1]) (sh' := SH) (b1 := (0, 0)) d_Model_monk_162 rfl mw_Model_fail (by decide) (by decide) ml_Model_273 (by decide) s_54 (by decide) rfl rfl rfl (leb rfl) (bz _) (fun _ => rfl) (ok_Model_fail hv) ?_
    cases h
    exact w_ireturn d_Model_monk_165 rfl rfl ⟨rfl, rfl, rfl, rfl⟩
def sp_Model_entry (p0 : Int32) (p1 : Int32) (g : Mem) : Option (Int32 × Mem) := (sp_Model_isEntry p0 (mset g 54 3 0)).bind fun v1 => if v1 = 0 then (sp_Model_fail 1 (mset g 54 3 0)).bind fun v3 => some (v3.1, v3.2) else (sp_Model_isIn p1.toInt64 0 9 (mset g 54 3 0)).bind fun v4 => if v4 = 0 then (sp_Model_fail 1 (mset g 54 3 0)).bind fun v6 => some (v6.1, v6.2) else if 8 ≤ p1 then if p1 = 9 then (sp_Model_old p0 (mset g 54 3 0)).bind fun v9 => some (v9, (mset g 54 3 0)) else (sp_Model_isThere p0 (mset g 54 3 0)).bind fun v10 => if v10 = 0 then some (0, (mset g 54 3 0)) else some (1, (mset g 54 3 0)) else (sp_Model_of p0 p1 (mset g 54 3 0)).bind fun v12 => some (v12, (mset g 54 3 0))
theorem ok_Model_entry {γ : GG} {tt : Bool} {p0 : Int32} {p1 : Int32} {g : Mem} {res : Int32 × Mem} (h : sp_Model_entry p0 p1 g = some res) : CA γ M_Model_entry 3 [.ref 54, .int p0, .int p1] SH g tt (0, 0) (pI SH res.1 res.2 tt) := by
  refine CA.of mw_Model_entry.1 0 rfl ?_
  show WA γ M_Model_entry 3 0 [some (.ref 54), some (.int p0), some (.int p1)] [] SH g tt (0, 0) (pI SH res.1 res.2 tt)
  unfold sp_Model_entry at h
  refine w_aload_n (q := 1) d_Model_entry_0 rfl rfl ?_
  refine w_iconst (q := 2) (v := 0) d_Model_entry_1 rfl (by decide) ?_
  refine w_put (q := 5) (ci := 12) (j := 3) d_Model_entry_2 rfl (by decide) fl_Model_114 (by decide) (by decide) s_54 rfl rfl rfl rfl rfl rfl ?_
  refine w_aload_n (q := 6) d_Model_entry_5 rfl rfl ?_
  refine w_iload_n (q := 7) d_Model_entry_6 rfl rfl ?_
  obtain ⟨v1, hv, h⟩ := bnd h
  refine w_callVi (q := 10) (M' := M_Model_isEntry) (n' := 1) (k := 54) (As := [.int p0]) (sh' := SH) (b1 := (0, 0)) d_Model_entry_7 rfl mw_Model_isEntry (by decide) (by decide) ml_Model_341 (by decide) s_54 (by decide) rfl rfl rfl (leb rfl) (bz _) (fun _ => rfl) (ok_Model_isEntry hv) ?_
  by_cases c2 : v1 = 0
  · rw [if_pos c2] at h
    refine w_if_eq_t (q := 25) d_Model_entry_10 rfl c2 ?_
    refine w_aload_n (q := 26) d_Model_entry_25 rfl rfl ?_
    refine w_iconst (q := 27) (v := 1) d_Model_entry_26 rfl (by decide) ?_
    obtain ⟨v3, hv, h⟩ := bnd h
    refine w_callVi (q := 30) (M' := M_Model_fail) (n' := 0) (k := 54) (As := [.int 1]) (sh' := SH) (b1 := (0, 0)) d_Model_entry_27 rfl mw_Model_fail (by decide) (by decide) ml_Model_273 (by decide) s_54 (by decide) rfl rfl rfl (leb rfl) (bz _) (fun _ => rfl) (ok_Model_fail hv) ?_
    cases h
    exact w_ireturn d_Model_entry_30 rfl rfl ⟨rfl, rfl, rfl, rfl⟩
  · rw [if_neg c2] at h
    refine w_if_eq_f (q := 13) d_Model_entry_10 25 rfl rfl c2 ?_
    refine w_iload_n (q := 14) d_Model_entry_13 rfl rfl ?_
    refine w_i2l (q := 15) d_Model_entry_14 rfl ?_
    refine w_lconst (q := 16) (v := 0) d_Model_entry_15 rfl (by decide) ?_
    refine w_ldc2 (q := 19) d_Model_entry_16 rfl lo_Model_344 ?_
    obtain ⟨v4, hv, h⟩ := bnd h
    refine w_callSi (q := 22) (M' := M_Model_isIn) (n' := 0) (As := [.long (p1.toInt64), .long (0), .long (9)]) (sh' := SH) (b1 := (0, 0)) d_Model_entry_19 rfl mw_Model_isIn (by decide) (by decide) ml_Model_117 rfl rfl (leb rfl) (bz _) (fun _ => rfl) (ok_Model_isIn hv) ?_
    by_cases c5 : v4 = 0
    · rw [if_pos c5] at h
      refine w_if_ne_f (q := 25) d_Model_entry_22 31 rfl rfl c5 ?_
      refine w_aload_n (q := 26) d_Model_entry_25 rfl rfl ?_
      refine w_iconst (q := 27) (v := 1) d_Model_entry_26 rfl (by decide) ?_
      obtain ⟨v6, hv, h⟩ := bnd h
      refine w_callVi (q := 30) (M' := M_Model_fail) (n' := 0) (k := 54) (As := [.int 1]) (sh' := SH) (b1 := (0, 0)) d_Model_entry_27 rfl mw_Model_fail (by decide) (by decide) ml_Model_273 (by decide) s_54 (by decide) rfl rfl rfl (leb rfl) (bz _) (fun _ => rfl) (ok_Model_fail hv) ?_
      cases h
      exact w_ireturn d_Model_entry_30 rfl rfl ⟨rfl, rfl, rfl, rfl⟩
    · rw [if_neg c5] at h
      refine w_if_ne_t (q := 31) d_Model_entry_22 rfl c5 ?_
      refine w_iload_n (q := 32) d_Model_entry_31 rfl rfl ?_
      refine w_bipush (q := 34) (v := 8) d_Model_entry_32 rfl (by decide) ?_
      by_cases c7 : 8 ≤ p1
      · rw [if_pos c7] at h
        refine w_icmp_ge_t (q := 46) d_Model_entry_34 rfl c7 ?_
        refine w_iload_n (q := 47) d_Model_entry_46 rfl rfl ?_
        refine w_bipush (q := 49) (v := 9) d_Model_entry_47 rfl (by decide) ?_
        by_cases c8 : p1 = 9
        · rw [if_pos c8] at h
          refine w_icmp_ne_f (q := 52) d_Model_entry_49 60 rfl rfl c8 ?_
          refine w_aload_n (q := 53) d_Model_entry_52 rfl rfl ?_
          refine w_iload_n (q := 54) d_Model_entry_53 rfl rfl ?_
          obtain ⟨v9, hv, h⟩ := bnd h
          refine w_callVi (q := 57) (M' := M_Model_old) (n' := 2) (k := 54) (As := [.int p0]) (sh' := SH) (b1 := (0, 0)) d_Model_entry_54 rfl mw_Model_old (by decide) (by decide) ml_Model_318 (by decide) s_54 (by decide) rfl rfl rfl (leb rfl) (bz _) (fun _ => rfl) (ok_Model_old hv) ?_
          refine w_goto (q := 73) d_Model_entry_57 rfl ?_
          cases h
          exact w_ireturn d_Model_entry_73 rfl rfl ⟨rfl, rfl, rfl, rfl⟩
        · rw [if_neg c8] at h
          refine w_icmp_ne_t (q := 60) d_Model_entry_49 rfl c8 ?_
          refine w_aload_n (q := 61) d_Model_entry_60 rfl rfl ?_
          refine w_iload_n (q := 62) d_Model_entry_61 rfl rfl ?_
          obtain ⟨v10, hv, h⟩ := bnd h
          refine w_callVi (q := 65) (M' := M_Model_isThere) (n' := 1) (k := 54) (As := [.int p0]) (sh' := SH) (b1 := (0, 0)) d_Model_entry_62 rfl mw_Model_isThere (by decide) (by decide) ml_Model_315 (by decide) s_54 (by decide) rfl rfl rfl (leb rfl) (bz _) (fun _ => rfl) (ok_Model_isThere hv) ?_
          by_cases c11 : v10 = 0
          · rw [if_pos c11] at h
            refine w_if_eq_t (q := 72) d_Model_entry_65 rfl c11 ?_
            refine w_iconst (q := 73) (v := 0) d_Model_entry_72 rfl (by decide) ?_
            cases h
            exact w_ireturn d_Model_entry_73 rfl rfl ⟨rfl, rfl, rfl, rfl⟩
          · rw [if_neg c11] at h
            refine w_if_eq_f (q := 68) d_Model_entry_65 72 rfl rfl c11 ?_
            refine w_iconst (q := 69) (v := 1) d_Model_entry_68 rfl (by decide) ?_
            refine w_goto (q := 73) d_Model_entry_69 rfl ?_
            cases h
            exact w_ireturn d_Model_entry_73 rfl rfl ⟨rfl, rfl, rfl, rfl⟩
      · rw [if_neg c7] at h
        refine w_icmp_ge_f (q := 37) d_Model_entry_34 46 rfl rfl c7 ?_
        refine w_aload_n (q := 38) d_Model_entry_37 rfl rfl ?_
        refine w_iload_n (q := 39) d_Model_entry_38 rfl rfl ?_
        refine w_iload_n (q := 40) d_Model_entry_39 rfl rfl ?_
        obtain ⟨v12, hv, h⟩ := bnd h
        refine w_callVi (q := 43) (M' := M_Model_of) (n' := 0) (k := 54) (As := [.int p0, .int p1]) (sh' := SH) (b1 := (0, 0)) d_Model_entry_40 rfl mw_Model_of (by decide) (by decide) ml_Model_305 (by decide) s_54 (by decide) rfl rfl rfl (leb rfl) (bz _) (fun _ => rfl) (ok_Model_of hv) ?_
        refine w_goto (q := 73) d_Model_entry_43 rfl ?_
        cases h
        exact w_ireturn d_Model_entry_73 rfl rfl ⟨rfl, rfl, rfl, rfl⟩
def sp_Model_holders (F : Nat) (p0 : Int32) (g : Mem) : Option (Int32 × Mem) := (sp_Model_isEntry p0 (mset g 54 3 0)).bind fun v1 => if v1 = 0 then (sp_Model_fail 1 (mset g 54 3 0)).bind fun v3 => some (v3.1, v3.2) else (sp_Model_of p0 7 (mset g 54 3 0)).bind fun v4 => (sp_Model_holdersOf F v4 (mset g 54 3 0)).bind fun v5 => some (v5, (mset g 54 3 0))
theorem ok_Model_holders {γ : GG} {tt : Bool} {F : Nat} {p0 : Int32} {g : Mem} {res : Int32 × Mem} (h : sp_Model_holders F p0 g = some res) : CA γ M_Model_holders 3 [.ref 54, .int p0] SH g tt (0, 0) (pI SH res.1 res.2 tt) := by
  refine CA.of mw_Model_holders.1 0 rfl ?_
  show WA γ M_Model_holders 3 0 [some (.ref 54), some (.int p0)] [] SH g tt (0, 0) (pI SH res.1 res.2 tt)
  unfold sp_Model_holders at h
  refine w_aload_n (q := 1) d_Model_holders_0 rfl rfl ?_
  refine w_iconst (q := 2) (v := 0) d_Model_holders_1 rfl (by decide) ?_
  refine w_put (q := 5) (ci := 12) (j := 3) d_Model_holders_2 rfl (by decide) fl_Model_114 (by decide) (by decide) s_54 rfl rfl rfl rfl rfl rfl ?_
  refine w_aload_n (q := 6) d_Model_holders_5 rfl rfl ?_
  refine w_iload_n (q := 7) d_Model_holders_6 rfl rfl ?_
  obtain ⟨v1, hv, h⟩ := bnd h
  refine w_callVi (q := 10) (M' := M_Model_isEntry) (n' := 1) (k := 54) (As := [.int p0]) (sh' := SH) (b1 := (0, 0)) d_Model_holders_7 rfl mw_Model_isEntry (by decide) (by decide) ml_Model_341 (by decide) s_54 (by decide) rfl rfl rfl (leb rfl) (bz _) (fun _ => rfl) (ok_Model_isEntry hv) ?_
  by_cases c2 : v1 = 0
  · rw [if_pos c2] at h
    refine w_if_eq_t (q := 27) d_Model_holders_10 rfl c2 ?_
    refine w_aload_n (q := 28) d_Model_holders_27 rfl rfl ?_
    refine w_iconst (q := 29) (v := 1) d_Model_holders_28 rfl (by decide) ?_
    obtain ⟨v3, hv, h⟩ := bnd h
    refine w_callVi (q := 32) (M' := M_Model_fail) (n' := 0) (k := 54) (As := [.int 1]) (sh' := SH) (b1 := (0, 0)) d_Model_holders_29 rfl mw_Model_fail (by decide) (by decide) ml_Model_273 (by decide) s_54 (by decide) rfl rfl rfl (leb rfl) (bz _) (fun _ => rfl) (ok_Model_fail hv) ?_
    cases h
    exact w_ireturn d_Model_holders_32 rfl rfl ⟨rfl, rfl, rfl, rfl⟩
  · rw [if_neg c2] at h
    refine w_if_eq_f (q := 13) d_Model_holders_10 27 rfl rfl c2 ?_
    refine w_aload_n (q := 14) d_Model_holders_13 rfl rfl ?_
    refine w_aload_n (q := 15) d_Model_holders_14 rfl rfl ?_
    refine w_iload_n (q := 16) d_Model_holders_15 rfl rfl ?_
    refine w_bipush (q := 18) (v := 7) d_Model_holders_16 rfl (by decide) ?_
    obtain ⟨v4, hv, h⟩ := bnd h
    refine w_callVi (q := 21) (M' := M_Model_of) (n' := 0) (k := 54) (As := [.int p0, .int 7]) (sh' := SH) (b1 := (0, 0)) d_Model_holders_18 rfl mw_Model_of (by decide) (by decide) ml_Model_305 (by decide) s_54 (by decide) rfl rfl rfl (leb rfl) (bz _) (fun _ => rfl) (ok_Model_of hv) ?_
    obtain ⟨v5, hv, h⟩ := bnd h
    refine w_callVi (q := 24) (M' := M_Model_holdersOf) (n' := 2) (k := 54) (As := [.int v4]) (sh' := SH) (b1 := (0, 0)) d_Model_holders_21 rfl mw_Model_holdersOf (by decide) (by decide) ml_Model_346 (by decide) s_54 (by decide) rfl rfl rfl (leb rfl) (bz _) (fun _ => rfl) (ok_Model_holdersOf hv) ?_
    refine w_goto (q := 32) d_Model_holders_24 rfl ?_
    cases h
    exact w_ireturn d_Model_holders_32 rfl rfl ⟨rfl, rfl, rfl, rfl⟩
def sp_Model_reckon (p0 : Int32) (p1 : Int32) (p2 : Int32) (g : Mem) : Option (Int32) := if p0 = (-26) then if p1 = 0 then some 0 else if p2 = 0 then some 0 else some 1 else if p0 = (-25) then if p1 = p2 then some 1 else some 0 else if p0 = (-24) then if p2 ≤ p1 then some 0 else some 1 else if p0 = (-23) then if p2 = 0 then some 0 else (dv p1 p2).bind fun v10 => some v10 else if p0 = (-22) then some (p1 * p2) else if p0 = (-21) then some (p1 - p2) else if p0 = (-20) then some (p1 + p2) else if p1 = 0 then if p2 = 0 then some 0 else some 1 else some 1
theorem ok_Model_reckon {γ : GG} {sh : List Sh} {tt : Bool} {p0 : Int32} {p1 : Int32} {p2 : Int32} {g : Mem} {res : Int32} (h : sp_Model_reckon p0 p1 p2 g = some res) : CA γ M_Model_reckon 0 [.int p0, .int p1, .int p2] sh g tt (0, 0) (pI sh res g tt) := by
  refine CA.of mw_Model_reckon.1 0 rfl ?_
  show WA γ M_Model_reckon 0 0 [some (.int p0), some (.int p1), some (.int p2)] [] sh g tt (0, 0) (pI sh res g tt)
  unfold sp_Model_reckon at h
  refine w_iload_n (q := 1) d_Model_reckon_0 rfl rfl ?_
  by_cases c1 : p0 = (-26)
  · rw [if_pos c1] at h
    refine w_tabIn (q := 90) (off := 89) d_Model_reckon_1 (by rw [c1]; decide) (by rw [c1]; decide) (by rw [c1]; decide +kernel) rfl ?_
    refine w_iload_n (q := 91) d_Model_reckon_90 rfl rfl ?_
    by_cases c2 : p1 = 0
    · rw [if_pos c2] at h
      refine w_if_eq_t (q := 102) d_Model_reckon_91 rfl c2 ?_
      refine w_iconst (q := 103) (v := 0) d_Model_reckon_102 rfl (by decide) ?_
      cases h
      exact w_ireturn d_Model_reckon_103 rfl rfl ⟨rfl, rfl, rfl, rfl⟩
    · rw [if_neg c2] at h
      refine w_if_eq_f (q := 94) d_Model_reckon_91 102 rfl rfl c2 ?_
      refine w_iload_n (q := 95) d_Model_reckon_94 rfl rfl ?_
      by_cases c3 : p2 = 0
      · rw [if_pos c3] at h
        refine w_if_eq_t (q := 102) d_Model_reckon_95 rfl c3 ?_
        refine w_iconst (q := 103) (v := 0) d_Model_reckon_102 rfl (by decide) ?_
        cases h
        exact w_ireturn d_Model_reckon_103 rfl rfl ⟨rfl, rfl, rfl, rfl⟩
      · rw [if_neg c3] at h
        refine w_if_eq_f (q := 98) d_Model_reckon_95 102 rfl rfl c3 ?_
        refine w_iconst (q := 99) (v := 1) d_Model_reckon_98 rfl (by decide) ?_
        refine w_goto (q := 103) d_Model_reckon_99 rfl ?_
        cases h
        exact w_ireturn d_Model_reckon_103 rfl rfl ⟨rfl, rfl, rfl, rfl⟩
  rw [if_neg c1] at h
  by_cases c4 : p0 = (-25)
  · rw [if_pos c4] at h
    refine w_tabIn (q := 79) (off := 78) d_Model_reckon_1 (by rw [c4]; decide) (by rw [c4]; decide) (by rw [c4]; decide +kernel) rfl ?_
    refine w_iload_n (q := 80) d_Model_reckon_79 rfl rfl ?_
    refine w_iload_n (q := 81) d_Model_reckon_80 rfl rfl ?_
    by_cases c5 : p1 = p2
    · rw [if_pos c5] at h
      refine w_icmp_ne_f (q := 84) d_Model_reckon_81 88 rfl rfl c5 ?_
      refine w_iconst (q := 85) (v := 1) d_Model_reckon_84 rfl (by decide) ?_
      refine w_goto (q := 89) d_Model_reckon_85 rfl ?_
      cases h
      exact w_ireturn d_Model_reckon_89 rfl rfl ⟨rfl, rfl, rfl, rfl⟩
    · rw [if_neg c5] at h
      refine w_icmp_ne_t (q := 88) d_Model_reckon_81 rfl c5 ?_
      refine w_iconst (q := 89) (v := 0) d_Model_reckon_88 rfl (by decide) ?_
      cases h
      exact w_ireturn d_Model_reckon_89 rfl rfl ⟨rfl, rfl, rfl, rfl⟩
  rw [if_neg c4] at h
  by_cases c6 : p0 = (-24)
  · rw [if_pos c6] at h
    refine w_tabIn (q := 68) (off := 67) d_Model_reckon_1 (by rw [c6]; decide) (by rw [c6]; decide) (by rw [c6]; decide +kernel) rfl ?_
    refine w_iload_n (q := 69) d_Model_reckon_68 rfl rfl ?_
    refine w_iload_n (q := 70) d_Model_reckon_69 rfl rfl ?_
    by_cases c7 : p2 ≤ p1
    · rw [if_pos c7] at h
      refine w_icmp_ge_t (q := 77) d_Model_reckon_70 rfl c7 ?_
      refine w_iconst (q := 78) (v := 0) d_Model_reckon_77 rfl (by decide) ?_
      cases h
      exact w_ireturn d_Model_reckon_78 rfl rfl ⟨rfl, rfl, rfl, rfl⟩
    · rw [if_neg c7] at h
      refine w_icmp_ge_f (q := 73) d_Model_reckon_70 77 rfl rfl c7 ?_
      refine w_iconst (q := 74) (v := 1) d_Model_reckon_73 rfl (by decide) ?_
      refine w_goto (q := 78) d_Model_reckon_74 rfl ?_
      cases h
      exact w_ireturn d_Model_reckon_78 rfl rfl ⟨rfl, rfl, rfl, rfl⟩
  rw [if_neg c6] at h
  by_cases c8 : p0 = (-23)
  · rw [if_pos c8] at h
    refine w_tabIn (q := 56) (off := 55) d_Model_reckon_1 (by rw [c8]; decide) (by rw [c8]; decide) (by rw [c8]; decide +kernel) rfl ?_
    refine w_iload_n (q := 57) d_Model_reckon_56 rfl rfl ?_
    by_cases c9 : p2 = 0
    · rw [if_pos c9] at h
      refine w_if_ne_f (q := 60) d_Model_reckon_57 64 rfl rfl c9 ?_
      refine w_iconst (q := 61) (v := 0) d_Model_reckon_60 rfl (by decide) ?_
      refine w_goto (q := 67) d_Model_reckon_61 rfl ?_
      cases h
      exact w_ireturn d_Model_reckon_67 rfl rfl ⟨rfl, rfl, rfl, rfl⟩
    · rw [if_neg c9] at h
      refine w_if_ne_t (q := 64) d_Model_reckon_57 rfl c9 ?_
      refine w_iload_n (q := 65) d_Model_reckon_64 rfl rfl ?_
      refine w_iload_n (q := 66) d_Model_reckon_65 rfl rfl ?_
      obtain ⟨v10, hv, h⟩ := bnd h
      obtain ⟨hz, hv⟩ := dv_ok hv
      refine w_idiv (q := 67) d_Model_reckon_66 rfl hz ?_
      rw [hv]
      cases h
      exact w_ireturn d_Model_reckon_67 rfl rfl ⟨rfl, rfl, rfl, rfl⟩
  rw [if_neg c8] at h
  by_cases c11 : p0 = (-22)
  · rw [if_pos c11] at h
    refine w_tabIn (q := 52) (off := 51) d_Model_reckon_1 (by rw [c11]; decide) (by rw [c11]; decide) (by rw [c11]; decide +kernel) rfl ?_
    refine w_iload_n (q := 53) d_Model_reckon_52 rfl rfl ?_
    refine w_iload_n (q := 54) d_Model_reckon_53 rfl rfl ?_
    refine w_imul (q := 55) d_Model_reckon_54 rfl ?_
    cases h
    exact w_ireturn d_Model_reckon_55 rfl rfl ⟨rfl, rfl, rfl, rfl⟩
  rw [if_neg c11] at h
  by_cases c12 : p0 = (-21)
  · rw [if_pos c12] at h
    refine w_tabIn (q := 48) (off := 47) d_Model_reckon_1 (by rw [c12]; decide) (by rw [c12]; decide) (by rw [c12]; decide +kernel) rfl ?_
    refine w_iload_n (q := 49) d_Model_reckon_48 rfl rfl ?_
    refine w_iload_n (q := 50) d_Model_reckon_49 rfl rfl ?_
    refine w_isub (q := 51) d_Model_reckon_50 rfl ?_
    cases h
    exact w_ireturn d_Model_reckon_51 rfl rfl ⟨rfl, rfl, rfl, rfl⟩
  rw [if_neg c12] at h
  by_cases c13 : p0 = (-20)
  · rw [if_pos c13] at h
    refine w_tabIn (q := 44) (off := 43) d_Model_reckon_1 (by rw [c13]; decide) (by rw [c13]; decide) (by rw [c13]; decide +kernel) rfl ?_
    refine w_iload_n (q := 45) d_Model_reckon_44 rfl rfl ?_
    refine w_iload_n (q := 46) d_Model_reckon_45 rfl rfl ?_
    refine w_iadd (q := 47) d_Model_reckon_46 rfl ?_
    cases h
    exact w_ireturn d_Model_reckon_47 rfl rfl ⟨rfl, rfl, rfl, rfl⟩
  rw [if_neg c13] at h
  have hsw : p0.toInt < -26 ∨ -20 < p0.toInt := by
    refine sw_out (fun c h1 h2 e => ?_)
    have h9 : c = -26 ∨ c = -25 ∨ c = -24 ∨ c = -23 ∨ c = -22 ∨ c = -21 ∨ c = -20 := by omega
    rcases h9 with rfl | rfl | rfl | rfl | rfl | rfl | rfl
    · exact c1 (Int32.toInt_inj.mp (e.trans (by decide)))
    · exact c4 (Int32.toInt_inj.mp (e.trans (by decide)))
    · exact c6 (Int32.toInt_inj.mp (e.trans (by decide)))
    · exact c8 (Int32.toInt_inj.mp (e.trans (by decide)))
    · exact c11 (Int32.toInt_inj.mp (e.trans (by decide)))
    · exact c12 (Int32.toInt_inj.mp (e.trans (by decide)))
    · exact c13 (Int32.toInt_inj.mp (e.trans (by decide)))
  refine w_tabOut (q := 104) d_Model_reckon_1 hsw rfl ?_
  refine w_iload_n (q := 105) d_Model_reckon_104 rfl rfl ?_
  by_cases c14 : p1 = 0
  · rw [if_pos c14] at h
    refine w_if_ne_f (q := 108) d_Model_reckon_105 112 rfl rfl c14 ?_
    refine w_iload_n (q := 109) d_Model_reckon_108 rfl rfl ?_
    by_cases c15 : p2 = 0
    · rw [if_pos c15] at h
      refine w_if_eq_t (q := 116) d_Model_reckon_109 rfl c15 ?_
      refine w_iconst (q := 117) (v := 0) d_Model_reckon_116 rfl (by decide) ?_
      cases h
      exact w_ireturn d_Model_reckon_117 rfl rfl ⟨rfl, rfl, rfl, rfl⟩
    · rw [if_neg c15] at h
      refine w_if_eq_f (q := 112) d_Model_reckon_109 116 rfl rfl c15 ?_
      refine w_iconst (q := 113) (v := 1) d_Model_reckon_112 rfl (by decide) ?_
      refine w_goto (q := 117) d_Model_reckon_113 rfl ?_
      cases h
      exact w_ireturn d_Model_reckon_117 rfl rfl ⟨rfl, rfl, rfl, rfl⟩
  · rw [if_neg c14] at h
    refine w_if_ne_t (q := 112) d_Model_reckon_105 rfl c14 ?_
    refine w_iconst (q := 113) (v := 1) d_Model_reckon_112 rfl (by decide) ?_
    refine w_goto (q := 117) d_Model_reckon_113 rfl ?_
    cases h
    exact w_ireturn d_Model_reckon_117 rfl rfl ⟨rfl, rfl, rfl, rfl⟩
def PL_Model_valueNow_4 (γ : GG) (tt : Bool) (g : Mem) (b : Nat × Nat) (Φ : PO) (s : Int32 × Int32 × Mem) : Prop := WA γ M_Model_valueNow 1 4 [some (.ref 54), some (.int s.1), some (.int s.2.1), none] [] SH s.2.2 tt b Φ
def QL_Model_valueNow_4 (γ : GG) (tt : Bool) (g : Mem) (b : Nat × Nat) (Φ : PO) (x : (Mem)) : Prop := WA γ M_Model_valueNow 1 123 [some (.ref 54), none, none, none] [] SH x tt b Φ
def st_Model_valueNow_4 (F : Nat) (g : Mem) (s : Int32 × Int32 × Mem) : Option ((Int32 × Int32 × Mem) ⊕ ((Mem))) := (rd s.2.2 58 12 5).bind fun v1 => if v1 ≤ s.2.1 then some (.inr s.2.2) else (rd s.2.2 63 1400 s.2.1).bind fun v3 => if v3 ≤ (-20) then if v3 = (-28) then (rd s.2.2 69 64 (s.1 - 1)).bind fun v6 => if v6 = 0 then (wr s.2.2 69 64 (s.1 - 1) 1).bind fun g8 => some (.inl (s.1, s.2.1 + 1, g8)) else (wr s.2.2 69 64 (s.1 - 1) 0).bind fun g9 => some (.inl (s.1, s.2.1 + 1, g9)) else (rd s.2.2 69 64 ((s.1 + (-1)) - 1)).bind fun v10 => (rd s.2.2 69 64 (s.1 + (-1))).bind fun v11 => (sp_Model_reckon v3 v10 v11 s.2.2).bind fun v12 => (wr s.2.2 69 64 ((s.1 + (-1)) - 1) v12).bind fun g13 => some (.inl (s.1 + (-1), s.2.1 + 1, g13)) else if v3 < 0 then (rd s.2.2 68 7 ((-1) - v3)).bind fun v15 => (wr s.2.2 69 64 s.1 v15).bind fun g16 => some (.inl (s.1 + 1, s.2.1 + 1, g16)) else (wr s.2.2 69 64 s.1 v3).bind fun g17 => some (.inl (s.1 + 1, s.2.1 + 1, g17))
theorem kl_Model_valueNow_4 {γ : GG} {tt : Bool} {F : Nat} {g : Mem} {b : Nat × Nat} {Φ : PO} : ∀ (s : Int32 × Int32 × Mem) (r : (Int32 × Int32 × Mem) ⊕ ((Mem))), st_Model_valueNow_4 F g s = some r → RQ (PL_Model_valueNow_4 γ tt g b Φ) (QL_Model_valueNow_4 γ tt g b Φ) r → PL_Model_valueNow_4 γ tt g b Φ s := by
  intro s r h hr
  unfold st_Model_valueNow_4 at h
  unfold PL_Model_valueNow_4
  refine w_iload_n (q := 5) d_Model_valueNow_4 rfl rfl ?_
  refine w_aload_n (q := 6) d_Model_valueNow_5 rfl rfl ?_
  refine w_get (q := 9) (ci := 12) (j := 4) d_Model_valueNow_6 rfl (by decide) fl_Model_51 (by decide) (by decide) s_54 rfl rfl ?_
  refine w_iconst (q := 10) (v := 5) d_Model_valueNow_9 rfl (by decide) ?_
  obtain ⟨v1, hv, h⟩ := bnd h
  obtain ⟨hi, hv⟩ := rd_ok hv
  refine w_iald (q := 11) (t := 0) d_Model_valueNow_10 rfl a_58.2 a_58.1 hi rfl ?_
  rw [hv]
  by_cases c2 : v1 ≤ s.2.1
  · rw [if_pos c2] at h
    refine w_icmp_ge_t (q := 123) d_Model_valueNow_11 rfl c2 ?_
    cases h
    exact w_ls (by exact (And.intro rfl trivial)) hr
  · rw [if_neg c2] at h
    refine w_icmp_ge_f (q := 14) d_Model_valueNow_11 123 rfl rfl c2 ?_
    refine w_aload_n (q := 15) d_Model_valueNow_14 rfl rfl ?_
    refine w_get (q := 18) (ci := 12) (j := 9) d_Model_valueNow_15 rfl (by decide) fl_Model_65 (by decide) (by decide) s_54 rfl rfl ?_
    refine w_iload_n (q := 19) d_Model_valueNow_18 rfl rfl ?_
    obtain ⟨v3, hv, h⟩ := bnd h
    obtain ⟨hi, hv⟩ := rd_ok hv
    refine w_iald (q := 20) (t := 0) d_Model_valueNow_19 rfl a_63.2 a_63.1 hi rfl ?_
    rw [hv]
    refine w_istore_n (q := 21) (ls' := [some (.ref 54), some (.int s.1), some (.int s.2.1), some (.int v3)]) d_Model_valueNow_20 rfl (by decide) rfl rfl ?_
    refine w_iload_n (q := 22) d_Model_valueNow_21 rfl rfl ?_
    refine w_bipush (q := 24) (v := (-20)) d_Model_valueNow_22 rfl (by decide) ?_
    by_cases c4 : v3 ≤ (-20)
    · rw [if_pos c4] at h
      refine w_icmp_le_t (q := 55) d_Model_valueNow_24 rfl c4 ?_
      refine w_iload_n (q := 56) d_Model_valueNow_55 rfl rfl ?_
      refine w_bipush (q := 58) (v := (-28)) d_Model_valueNow_56 rfl (by decide) ?_
      by_cases c5 : v3 = (-28)
      · rw [if_pos c5] at h
        refine w_icmp_ne_f (q := 61) d_Model_valueNow_58 88 rfl rfl c5 ?_
        refine w_aload_n (q := 62) d_Model_valueNow_61 rfl rfl ?_
        refine w_get (q := 65) (ci := 12) (j := 30) d_Model_valueNow_62 rfl (by decide) fl_Model_87 (by decide) (by decide) s_54 rfl rfl ?_
        refine w_iload_n (q := 66) d_Model_valueNow_65 rfl rfl ?_
        refine w_iconst (q := 67) (v := 1) d_Model_valueNow_66 rfl (by decide) ?_
        refine w_isub (q := 68) d_Model_valueNow_67 rfl ?_
        refine w_aload_n (q := 69) d_Model_valueNow_68 rfl rfl ?_
        refine w_get (q := 72) (ci := 12) (j := 30) d_Model_valueNow_69 rfl (by decide) fl_Model_87 (by decide) (by decide) s_54 rfl rfl ?_
        refine w_iload_n (q := 73) d_Model_valueNow_72 rfl rfl ?_
        refine w_iconst (q := 74) (v := 1) d_Model_valueNow_73 rfl (by decide) ?_
        refine w_isub (q := 75) d_Model_valueNow_74 rfl ?_
        obtain ⟨v6, hv, h⟩ := bnd h
        obtain ⟨hi, hv⟩ := rd_ok hv
        refine w_iald (q := 76) (t := 0) d_Model_valueNow_75 rfl a_69.2 a_69.1 hi rfl ?_
        rw [hv]
        by_cases c7 : v6 = 0
        · rw [if_pos c7] at h
          refine w_if_eq_t (q := 83) d_Model_valueNow_76 rfl c7 ?_
          refine w_iconst (q := 84) (v := 1) d_Model_valueNow_83 rfl (by decide) ?_
          obtain ⟨g8, hv, h⟩ := bnd h
          obtain ⟨hi, hv⟩ := wr_ok hv
          refine w_iast (q := 85) d_Model_valueNow_84 rfl a_69.2 a_69.1 hi hv ?_
          refine w_goto (q := 117) d_Model_valueNow_85 rfl ?_
          refine w_iinc (q := 120) (ls' := [some (.ref 54), some (.int s.1), some (.int (s.2.1 + 1)), some (.int v3)]) d_Model_valueNow_117 rfl (by decide) rfl rfl rfl ?_
          refine w_goto (q := 4) d_Model_valueNow_120 rfl ?_
          cases h
          exact w_ls (by exact (And.intro rfl (And.intro rfl (And.intro rfl trivial)))) hr
        · rw [if_neg c7] at h
          refine w_if_eq_f (q := 79) d_Model_valueNow_76 83 rfl rfl c7 ?_
          refine w_iconst (q := 80) (v := 0) d_Model_valueNow_79 rfl (by decide) ?_
          refine w_goto (q := 84) d_Model_valueNow_80 rfl ?_
          obtain ⟨g9, hv, h⟩ := bnd h
          obtain ⟨hi, hv⟩ := wr_ok hv
          refine w_iast (q := 85) d_Model_valueNow_84 rfl a_69.2 a_69.1 hi hv ?_
          refine w_goto (q := 117) d_Model_valueNow_85 rfl ?_
          refine w_iinc (q := 120) (ls' := [some (.ref 54), some (.int s.1), some (.int (s.2.1 + 1)), some (.int v3)]) d_Model_valueNow_117 rfl (by decide) rfl rfl rfl ?_
          refine w_goto (q := 4) d_Model_valueNow_120 rfl ?_
          cases h
          exact w_ls (by exact (And.intro rfl (And.intro rfl (And.intro rfl trivial)))) hr
      · rw [if_neg c5] at h
        refine w_icmp_ne_t (q := 88) d_Model_valueNow_58 rfl c5 ?_
        refine w_iinc (q := 91) (ls' := [some (.ref 54), some (.int (s.1 + (-1))), some (.int s.2.1), some (.int v3)]) d_Model_valueNow_88 rfl (by decide) rfl rfl rfl ?_
        refine w_aload_n (q := 92) d_Model_valueNow_91 rfl rfl ?_
        refine w_get (q := 95) (ci := 12) (j := 30) d_Model_valueNow_92 rfl (by decide) fl_Model_87 (by decide) (by decide) s_54 rfl rfl ?_
        refine w_iload_n (q := 96) d_Model_valueNow_95 rfl rfl ?_
        refine w_iconst (q := 97) (v := 1) d_Model_valueNow_96 rfl (by decide) ?_
        refine w_isub (q := 98) d_Model_valueNow_97 rfl ?_
        refine w_iload_n (q := 99) d_Model_valueNow_98 rfl rfl ?_
        refine w_aload_n (q := 100) d_Model_valueNow_99 rfl rfl ?_
        refine w_get (q := 103) (ci := 12) (j := 30) d_Model_valueNow_100 rfl (by decide) fl_Model_87 (by decide) (by decide) s_54 rfl rfl ?_
        refine w_iload_n (q := 104) d_Model_valueNow_103 rfl rfl ?_
        refine w_iconst (q := 105) (v := 1) d_Model_valueNow_104 rfl (by decide) ?_
        refine w_isub (q := 106) d_Model_valueNow_105 rfl ?_
        obtain ⟨v10, hv, h⟩ := bnd h
        obtain ⟨hi, hv⟩ := rd_ok hv
        refine w_iald (q := 107) (t := 0) d_Model_valueNow_106 rfl a_69.2 a_69.1 hi rfl ?_
        rw [hv]
        refine w_aload_n (q := 108) d_Model_valueNow_107 rfl rfl ?_
        refine w_get (q := 111) (ci := 12) (j := 30) d_Model_valueNow_108 rfl (by decide) fl_Model_87 (by decide) (by decide) s_54 rfl rfl ?_
        refine w_iload_n (q := 112) d_Model_valueNow_111 rfl rfl ?_
        obtain ⟨v11, hv, h⟩ := bnd h
        obtain ⟨hi, hv⟩ := rd_ok hv
        refine w_iald (q := 113) (t := 0) d_Model_valueNow_112 rfl a_69.2 a_69.1 hi rfl ?_
        rw [hv]
        obtain ⟨v12, hv, h⟩ := bnd h
        refine w_callSi (q := 116) (M' := M_Model_reckon) (n' := 0) (As := [.int v3, .int v10, .int v11]) (sh' := SH) (b1 := (0, 0)) d_Model_valueNow_113 rfl mw_Model_reckon (by decide) (by decide) ml_Model_349 rfl rfl (leb rfl) (bz _) (fun _ => rfl) (ok_Model_reckon hv) ?_
        obtain ⟨g13, hv, h⟩ := bnd h
        obtain ⟨hi, hv⟩ := wr_ok hv
        refine w_iast (q := 117) d_Model_valueNow_116 rfl a_69.2 a_69.1 hi hv ?_
        refine w_iinc (q := 120) (ls' := [some (.ref 54), some (.int (s.1 + (-1))), some (.int (s.2.1 + 1)), some (.int v3)]) d_Model_valueNow_117 rfl (by decide) rfl rfl rfl ?_
        refine w_goto (q := 4) d_Model_valueNow_120 rfl ?_
        cases h
        exact w_ls (by exact (And.intro rfl (And.intro rfl (And.intro rfl trivial)))) hr
    · rw [if_neg c4] at h
      refine w_icmp_le_f (q := 27) d_Model_valueNow_24 55 rfl rfl c4 ?_
      refine w_aload_n (q := 28) d_Model_valueNow_27 rfl rfl ?_
      refine w_get (q := 31) (ci := 12) (j := 30) d_Model_valueNow_28 rfl (by decide) fl_Model_87 (by decide) (by decide) s_54 rfl rfl ?_
      refine w_iload_n (q := 32) d_Model_valueNow_31 rfl rfl ?_
      refine w_iload_n (q := 33) d_Model_valueNow_32 rfl rfl ?_
      by_cases c14 : v3 < 0
      · rw [if_pos c14] at h
        refine w_if_lt_t (q := 40) d_Model_valueNow_33 rfl c14 ?_
        refine w_aload_n (q := 41) d_Model_valueNow_40 rfl rfl ?_
        refine w_get (q := 44) (ci := 12) (j := 29) d_Model_valueNow_41 rfl (by decide) fl_Model_84 (by decide) (by decide) s_54 rfl rfl ?_
        refine w_iconst (q := 45) (v := (-1)) d_Model_valueNow_44 rfl (by decide) ?_
        refine w_iload_n (q := 46) d_Model_valueNow_45 rfl rfl ?_
        refine w_isub (q := 47) d_Model_valueNow_46 rfl ?_
        obtain ⟨v15, hv, h⟩ := bnd h
        obtain ⟨hi, hv⟩ := rd_ok hv
        refine w_iald (q := 48) (t := 0) d_Model_valueNow_47 rfl a_68.2 a_68.1 hi rfl ?_
        rw [hv]
        obtain ⟨g16, hv, h⟩ := bnd h
        obtain ⟨hi, hv⟩ := wr_ok hv
        refine w_iast (q := 49) d_Model_valueNow_48 rfl a_69.2 a_69.1 hi hv ?_
        refine w_iinc (q := 52) (ls' := [some (.ref 54), some (.int (s.1 + 1)), some (.int s.2.1), some (.int v3)]) d_Model_valueNow_49 rfl (by decide) rfl rfl rfl ?_
        refine w_goto (q := 117) d_Model_valueNow_52 rfl ?_
        refine w_iinc (q := 120) (ls' := [some (.ref 54), some (.int (s.1 + 1)), some (.int (s.2.1 + 1)), some (.int v3)]) d_Model_valueNow_117 rfl (by decide) rfl rfl rfl ?_
        refine w_goto (q := 4) d_Model_valueNow_120 rfl ?_
        cases h
        exact w_ls (by exact (And.intro rfl (And.intro rfl (And.intro rfl trivial)))) hr
      · rw [if_neg c14] at h
        refine w_if_lt_f (q := 36) d_Model_valueNow_33 40 rfl rfl c14 ?_
        refine w_iload_n (q := 37) d_Model_valueNow_36 rfl rfl ?_
        refine w_goto (q := 48) d_Model_valueNow_37 rfl ?_
        obtain ⟨g17, hv, h⟩ := bnd h
        obtain ⟨hi, hv⟩ := wr_ok hv
        refine w_iast (q := 49) d_Model_valueNow_48 rfl a_69.2 a_69.1 hi hv ?_
        refine w_iinc (q := 52) (ls' := [some (.ref 54), some (.int (s.1 + 1)), some (.int s.2.1), some (.int v3)]) d_Model_valueNow_49 rfl (by decide) rfl rfl rfl ?_
        refine w_goto (q := 117) d_Model_valueNow_52 rfl ?_
        refine w_iinc (q := 120) (ls' := [some (.ref 54), some (.int (s.1 + 1)), some (.int (s.2.1 + 1)), some (.int v3)]) d_Model_valueNow_117 rfl (by decide) rfl rfl rfl ?_
        refine w_goto (q := 4) d_Model_valueNow_120 rfl ?_
        cases h
        exact w_ls (by exact (And.intro rfl (And.intro rfl (And.intro rfl trivial)))) hr
def sp_Model_valueNow (F : Nat) (g : Mem) : Option (Int32 × Mem) := (lpO (st_Model_valueNow_4 F g) F (0, 0, g)).bind fun x18 => (rd x18 69 64 0).bind fun v19 => some (v19, x18)
theorem ok_Model_valueNow {γ : GG} {tt : Bool} {F : Nat} {g : Mem} {res : Int32 × Mem} (h : sp_Model_valueNow F g = some res) : CA γ M_Model_valueNow 1 [.ref 54] SH g tt (0, 0) (pI SH res.1 res.2 tt) := by
  refine CA.of mw_Model_valueNow.1 3 rfl ?_
  show WA γ M_Model_valueNow 1 0 [some (.ref 54), none, none, none] [] SH g tt (0, 0) (pI SH res.1 res.2 tt)
  unfold sp_Model_valueNow at h
  refine w_iconst (q := 1) (v := 0) d_Model_valueNow_0 rfl (by decide) ?_
  refine w_istore_n (q := 2) (ls' := [some (.ref 54), some (.int 0), none, none]) d_Model_valueNow_1 rfl (by decide) rfl rfl ?_
  refine w_iconst (q := 3) (v := 0) d_Model_valueNow_2 rfl (by decide) ?_
  refine w_istore_n (q := 4) (ls' := [some (.ref 54), some (.int 0), some (.int 0), none]) d_Model_valueNow_3 rfl (by decide) rfl rfl ?_
  obtain ⟨x18, hx, h⟩ := bnd h
  refine w_ls (ls' := [some (.ref 54), some (.int 0), some (.int 0), none]) (And.intro rfl (And.intro rfl (And.intro rfl trivial))) ?_
  show PL_Model_valueNow_4 γ tt g _ _ (0, 0, g)
  refine lp_ok (kl_Model_valueNow_4) F _ x18 hx ?_
  unfold QL_Model_valueNow_4
  refine w_aload_n (q := 124) d_Model_valueNow_123 rfl rfl ?_
  refine w_get (q := 127) (ci := 12) (j := 30) d_Model_valueNow_124 rfl (by decide) fl_Model_87 (by decide) (by decide) s_54 rfl rfl ?_
  refine w_iconst (q := 128) (v := 0) d_Model_valueNow_127 rfl (by decide) ?_
  obtain ⟨v19, hv, h⟩ := bnd h
  obtain ⟨hi, hv⟩ := rd_ok hv
  refine w_iald (q := 129) (t := 0) d_Model_valueNow_128 rfl a_69.2 a_69.1 hi rfl ?_
  rw [hv]
  cases h
  exact w_ireturn d_Model_valueNow_129 rfl rfl ⟨rfl, rfl, rfl, rfl⟩
def sp_Model_may_j52 (F : Nat) (p0 : Int32) (p1 : Int32) (g : Mem) (m0 : Mem) (x1 : Int32) (x2 : Int32) (x3 : Int32) : Option (Int32 × Mem) := (sp_Model_isThere x2 m0).bind fun v12 => if v12 = 0 then some (0, m0) else if x3 = x1 then some (1, m0) else some (0, m0)
theorem ok_Model_may_j52 {γ : GG} {tt : Bool} {F : Nat} {p0 : Int32} {p1 : Int32} {g : Mem} {m0 : Mem} {x1 : Int32} {x2 : Int32} {x3 : Int32} {res : Int32 × Mem} (h : sp_Model_may_j52 F p0 p1 g m0 x1 x2 x3 = some res) : WA γ M_Model_may 4 52 [some (.ref 54), some (.int x1), some (.int x2), some (.int x3)] [] SH m0 tt (0, 0) (pI SH res.1 res.2 tt) := by
  unfold sp_Model_may_j52 at h
  refine w_aload_n (q := 53) d_Model_may_52 rfl rfl ?_
  refine w_iload_n (q := 54) d_Model_may_53 rfl rfl ?_
  obtain ⟨v12, hv, h⟩ := bnd h
  refine w_callVi (q := 57) (M' := M_Model_isThere) (n' := 1) (k := 54) (As := [.int x2]) (sh' := SH) (b1 := (0, 0)) d_Model_may_54 rfl mw_Model_isThere (by decide) (by decide) ml_Model_315 (by decide) s_54 (by decide) rfl rfl rfl (leb rfl) (bz _) (fun _ => rfl) (ok_Model_isThere hv) ?_
  by_cases c13 : v12 = 0
  · rw [if_pos c13] at h
    refine w_if_eq_t (q := 69) d_Model_may_57 rfl c13 ?_
    refine w_iconst (q := 70) (v := 0) d_Model_may_69 rfl (by decide) ?_
    cases h
    exact w_ireturn d_Model_may_70 rfl rfl ⟨rfl, rfl, rfl, rfl⟩
  · rw [if_neg c13] at h
    refine w_if_eq_f (q := 60) d_Model_may_57 69 rfl rfl c13 ?_
    refine w_iload_n (q := 61) d_Model_may_60 rfl rfl ?_
    refine w_iload_n (q := 62) d_Model_may_61 rfl rfl ?_
    by_cases c14 : x3 = x1
    · rw [if_pos c14] at h
      refine w_icmp_ne_f (q := 65) d_Model_may_62 69 rfl rfl c14 ?_
      refine w_iconst (q := 66) (v := 1) d_Model_may_65 rfl (by decide) ?_
      refine w_goto (q := 70) d_Model_may_66 rfl ?_
      cases h
      exact w_ireturn d_Model_may_70 rfl rfl ⟨rfl, rfl, rfl, rfl⟩
    · rw [if_neg c14] at h
      refine w_icmp_ne_t (q := 69) d_Model_may_62 rfl c14 ?_
      refine w_iconst (q := 70) (v := 0) d_Model_may_69 rfl (by decide) ?_
      cases h
      exact w_ireturn d_Model_may_70 rfl rfl ⟨rfl, rfl, rfl, rfl⟩
def sp_Model_may_j180 (F : Nat) (p0 : Int32) (p1 : Int32) (g : Mem) (m0 : Mem) (x1 : Int32) (y0 : Int32) (y1 : Int32) : Option (Int32 × Mem) := (wr m0 68 7 y1 y0).bind fun g34 => (sp_Model_ageOf x1 g34).bind fun v35 => (wr g34 68 7 6 v35).bind fun g36 => (sp_Model_valueNow F g36).bind fun v37 => if v37.1 = 0 then some (0, v37.2) else some (1, v37.2)
theorem ok_Model_may_j180 {γ : GG} {tt : Bool} {F : Nat} {p0 : Int32} {p1 : Int32} {g : Mem} {m0 : Mem} {x1 : Int32} {y0 : Int32} {y1 : Int32} {res : Int32 × Mem} (h : sp_Model_may_j180 F p0 p1 g m0 x1 y0 y1 = some res) : WA γ M_Model_may 4 180 [some (.ref 54), some (.int x1), none, none] [.int y0, .int y1, .ref 68] SH m0 tt (0, 0) (pI SH res.1 res.2 tt) := by
  unfold sp_Model_may_j180 at h
  obtain ⟨g34, hv, h⟩ := bnd h
  obtain ⟨hi, hv⟩ := wr_ok hv
  refine w_iast (q := 181) d_Model_may_180 rfl a_68.2 a_68.1 hi hv ?_
  refine w_aload_n (q := 182) d_Model_may_181 rfl rfl ?_
  refine w_get (q := 185) (ci := 12) (j := 29) d_Model_may_182 rfl (by decide) fl_Model_84 (by decide) (by decide) s_54 rfl rfl ?_
  refine w_bipush (q := 187) (v := 6) d_Model_may_185 rfl (by decide) ?_
  refine w_aload_n (q := 188) d_Model_may_187 rfl rfl ?_
  refine w_iload_n (q := 189) d_Model_may_188 rfl rfl ?_
  obtain ⟨v35, hv, h⟩ := bnd h
  refine w_callVi (q := 192) (M' := M_Model_ageOf) (n' := 2) (k := 54) (As := [.int x1]) (sh' := SH) (b1 := (0, 0)) d_Model_may_189 rfl mw_Model_ageOf (by decide) (by decide) ml_Model_323 (by decide) s_54 (by decide) rfl rfl rfl (leb rfl) (bz _) (fun _ => rfl) (ok_Model_ageOf hv) ?_
  obtain ⟨g36, hv, h⟩ := bnd h
  obtain ⟨hi, hv⟩ := wr_ok hv
  refine w_iast (q := 193) d_Model_may_192 rfl a_68.2 a_68.1 hi hv ?_
  refine w_aload_n (q := 194) d_Model_may_193 rfl rfl ?_
  obtain ⟨v37, hv, h⟩ := bnd h
  refine w_callVi (q := 197) (M' := M_Model_valueNow) (n' := 1) (k := 54) (As := []) (sh' := SH) (b1 := (0, 0)) d_Model_may_194 rfl mw_Model_valueNow (by decide) (by decide) ml_Model_356 (by decide) s_54 (by decide) rfl rfl rfl (leb rfl) (bz _) (fun _ => rfl) (ok_Model_valueNow hv) ?_
  by_cases c38 : v37.1 = 0
  · rw [if_pos c38] at h
    refine w_if_eq_t (q := 204) d_Model_may_197 rfl c38 ?_
    refine w_iconst (q := 205) (v := 0) d_Model_may_204 rfl (by decide) ?_
    cases h
    exact w_ireturn d_Model_may_205 rfl rfl ⟨rfl, rfl, rfl, rfl⟩
  · rw [if_neg c38] at h
    refine w_if_eq_f (q := 200) d_Model_may_197 204 rfl rfl c38 ?_
    refine w_iconst (q := 201) (v := 1) d_Model_may_200 rfl (by decide) ?_
    refine w_goto (q := 205) d_Model_may_201 rfl ?_
    cases h
    exact w_ireturn d_Model_may_205 rfl rfl ⟨rfl, rfl, rfl, rfl⟩
def sp_Model_may_j164 (F : Nat) (p0 : Int32) (p1 : Int32) (g : Mem) (m0 : Mem) (x1 : Int32) (x3 : Int32) (y0 : Int32) (y1 : Int32) : Option (Int32 × Mem) := (wr m0 68 7 y1 y0).bind fun g32 => if x3 = x1 then sp_Model_may_j180 F p0 p1 g g32 x1 1 5 else sp_Model_may_j180 F p0 p1 g g32 x1 0 5
theorem ok_Model_may_j164 {γ : GG} {tt : Bool} {F : Nat} {p0 : Int32} {p1 : Int32} {g : Mem} {m0 : Mem} {x1 : Int32} {x3 : Int32} {y0 : Int32} {y1 : Int32} {res : Int32 × Mem} (h : sp_Model_may_j164 F p0 p1 g m0 x1 x3 y0 y1 = some res) : WA γ M_Model_may 4 164 [some (.ref 54), some (.int x1), none, some (.int x3)] [.int y0, .int y1, .ref 68] SH m0 tt (0, 0) (pI SH res.1 res.2 tt) := by
  unfold sp_Model_may_j164 at h
  obtain ⟨g32, hv, h⟩ := bnd h
  obtain ⟨hi, hv⟩ := wr_ok hv
  refine w_iast (q := 165) d_Model_may_164 rfl a_68.2 a_68.1 hi hv ?_
  refine w_aload_n (q := 166) d_Model_may_165 rfl rfl ?_
  refine w_get (q := 169) (ci := 12) (j := 29) d_Model_may_166 rfl (by decide) fl_Model_84 (by decide) (by decide) s_54 rfl rfl ?_
  refine w_iconst (q := 170) (v := 5) d_Model_may_169 rfl (by decide) ?_
  refine w_iload_n (q := 171) d_Model_may_170 rfl rfl ?_
  refine w_iload_n (q := 172) d_Model_may_171 rfl rfl ?_
  by_cases c33 : x3 = x1
  · rw [if_pos c33] at h
    refine w_icmp_ne_f (q := 175) d_Model_may_172 179 rfl rfl c33 ?_
    refine w_iconst (q := 176) (v := 1) d_Model_may_175 rfl (by decide) ?_
    refine w_goto (q := 180) d_Model_may_176 rfl ?_
    refine w_ls (ls' := [some (.ref 54), some (.int x1), none, none]) (And.intro rfl (And.intro rfl trivial)) ?_
    exact ok_Model_may_j180 h
  · rw [if_neg c33] at h
    refine w_icmp_ne_t (q := 179) d_Model_may_172 rfl c33 ?_
    refine w_iconst (q := 180) (v := 0) d_Model_may_179 rfl (by decide) ?_
    refine w_ls (ls' := [some (.ref 54), some (.int x1), none, none]) (And.intro rfl (And.intro rfl trivial)) ?_
    exact ok_Model_may_j180 h
def sp_Model_may (F : Nat) (p0 : Int32) (p1 : Int32) (g : Mem) : Option (Int32 × Mem) := (sp_Model_isMonk p0 (mset g 54 3 0)).bind fun v1 => if v1 = 0 then (sp_Model_failing 1 (mset g 54 3 0)).bind fun v3 => (bl v3.1).bind fun v4 => some (v4, v3.2) else (sp_Model_isEntry p1 (mset g 54 3 0)).bind fun v5 => if v5 = 0 then (sp_Model_failing 1 (mset g 54 3 0)).bind fun v7 => (bl v7.1).bind fun v8 => some (v8, v7.2) else (sp_Model_of p1 1 (mset g 54 3 0)).bind fun v9 => (sp_Model_isThere p1 (mset g 54 3 0)).bind fun v10 => if v10 = 0 then sp_Model_may_j52 F p0 p1 g (mset g 54 3 0) p0 p1 v9 else (rd (mset g 54 3 0) 59 12 v9).bind fun v15 => if v15 = 3 then sp_Model_may_j52 F p0 p1 g (mset g 54 3 0) p0 p1 v9 else (rd (mset g 54 3 0) 58 12 5).bind fun v17 => if v17 = 0 then if v9 = p0 then some (1, (mset g 54 3 0)) else (sp_Model_isGrey v9 (mset g 54 3 0)).bind fun v20 => if v20 = 0 then some (1, (mset g 54 3 0)) else some (0, (mset g 54 3 0)) else (sp_Model_of p1 0 (mset g 54 3 0)).bind fun v22 => (wr (mset g 54 3 0) 68 7 0 v22).bind fun g23 => (sp_Model_of p1 5 g23).bind fun v24 => (wr g23 68 7 1 v24).bind fun g25 => (sp_Model_of p1 3 g25).bind fun v26 => (wr g25 68 7 2 v26).bind fun g27 => (sp_Model_old p1 g27).bind fun v28 => (wr g27 68 7 3 v28).bind fun g29 => (sp_Model_isGrey v9 g29).bind fun v30 => if v30 = 0 then sp_Model_may_j164 F p0 p1 g g29 p0 v9 0 4 else sp_Model_may_j164 F p0 p1 g g29 p0 v9 1 4
theorem ok_Model_may {γ : GG} {tt : Bool} {F : Nat} {p0 : Int32} {p1 : Int32} {g : Mem} {res : Int32 × Mem} (h : sp_Model_may F p0 p1 g = some res) : CA γ M_Model_may 4 [.ref 54, .int p0, .int p1] SH g tt (0, 0) (pI SH res.1 res.2 tt) := by
  refine CA.of mw_Model_may.1 1 rfl ?_
  show WA γ M_Model_may 4 0 [some (.ref 54), some (.int p0), some (.int p1), none] [] SH g tt (0, 0) (pI SH res.1 res.2 tt)
  unfold sp_Model_may at h
  refine w_aload_n (q := 1) d_Model_may_0 rfl rfl ?_
  refine w_iconst (q := 2) (v := 0) d_Model_may_1 rfl (by decide) ?_
  refine w_put (q := 5) (ci := 12) (j := 3) d_Model_may_2 rfl (by decide) fl_Model_114 (by decide) (by decide) s_54 rfl rfl rfl rfl rfl rfl ?_
  refine w_aload_n (q := 6) d_Model_may_5 rfl rfl ?_
  refine w_iload_n (q := 7) d_Model_may_6 rfl rfl ?_
  obtain ⟨v1, hv, h⟩ := bnd h
  refine w_callVi (q := 10) (M' := M_Model_isMonk) (n' := 1) (k := 54) (As := [.int p0]) (sh' := SH) (b1 := (0, 0)) d_Model_may_7 rfl mw_Model_isMonk (by decide) (by decide) ml_Model_335 (by decide) s_54 (by decide) rfl rfl rfl (leb rfl) (bz _) (fun _ => rfl) (ok_Model_isMonk hv) ?_
  by_cases c2 : v1 = 0
  · rw [if_pos c2] at h
    refine w_if_eq_t (q := 21) d_Model_may_10 rfl c2 ?_
    refine w_aload_n (q := 22) d_Model_may_21 rfl rfl ?_
    refine w_iconst (q := 23) (v := 1) d_Model_may_22 rfl (by decide) ?_
    obtain ⟨v3, hv, h⟩ := bnd h
    refine w_callVi (q := 26) (M' := M_Model_failing) (n' := 0) (k := 54) (As := [.int 1]) (sh' := SH) (b1 := (0, 0)) d_Model_may_23 rfl mw_Model_failing (by decide) (by decide) ml_Model_353 (by decide) s_54 (by decide) rfl rfl rfl (leb rfl) (bz _) (fun _ => rfl) (ok_Model_failing hv) ?_
    obtain ⟨v4, hv, h⟩ := bnd h
    obtain ⟨hv, hn⟩ := bl_ok hv
    rw [hv] at h
    cases h
    exact w_ireturn d_Model_may_26 rfl hn ⟨rfl, rfl, rfl, rfl⟩
  · rw [if_neg c2] at h
    refine w_if_eq_f (q := 13) d_Model_may_10 21 rfl rfl c2 ?_
    refine w_aload_n (q := 14) d_Model_may_13 rfl rfl ?_
    refine w_iload_n (q := 15) d_Model_may_14 rfl rfl ?_
    obtain ⟨v5, hv, h⟩ := bnd h
    refine w_callVi (q := 18) (M' := M_Model_isEntry) (n' := 1) (k := 54) (As := [.int p1]) (sh' := SH) (b1 := (0, 0)) d_Model_may_15 rfl mw_Model_isEntry (by decide) (by decide) ml_Model_341 (by decide) s_54 (by decide) rfl rfl rfl (leb rfl) (bz _) (fun _ => rfl) (ok_Model_isEntry hv) ?_
    by_cases c6 : v5 = 0
    · rw [if_pos c6] at h
      refine w_if_ne_f (q := 21) d_Model_may_18 27 rfl rfl c6 ?_
      refine w_aload_n (q := 22) d_Model_may_21 rfl rfl ?_
      refine w_iconst (q := 23) (v := 1) d_Model_may_22 rfl (by decide) ?_
      obtain ⟨v7, hv, h⟩ := bnd h
      refine w_callVi (q := 26) (M' := M_Model_failing) (n' := 0) (k := 54) (As := [.int 1]) (sh' := SH) (b1 := (0, 0)) d_Model_may_23 rfl mw_Model_failing (by decide) (by decide) ml_Model_353 (by decide) s_54 (by decide) rfl rfl rfl (leb rfl) (bz _) (fun _ => rfl) (ok_Model_failing hv) ?_
      obtain ⟨v8, hv, h⟩ := bnd h
      obtain ⟨hv, hn⟩ := bl_ok hv
      rw [hv] at h
      cases h
      exact w_ireturn d_Model_may_26 rfl hn ⟨rfl, rfl, rfl, rfl⟩
    · rw [if_neg c6] at h
      refine w_if_ne_t (q := 27) d_Model_may_18 rfl c6 ?_
      refine w_aload_n (q := 28) d_Model_may_27 rfl rfl ?_
      refine w_iload_n (q := 29) d_Model_may_28 rfl rfl ?_
      refine w_iconst (q := 30) (v := 1) d_Model_may_29 rfl (by decide) ?_
      obtain ⟨v9, hv, h⟩ := bnd h
      refine w_callVi (q := 33) (M' := M_Model_of) (n' := 0) (k := 54) (As := [.int p1, .int 1]) (sh' := SH) (b1 := (0, 0)) d_Model_may_30 rfl mw_Model_of (by decide) (by decide) ml_Model_305 (by decide) s_54 (by decide) rfl rfl rfl (leb rfl) (bz _) (fun _ => rfl) (ok_Model_of hv) ?_
      refine w_istore_n (q := 34) (ls' := [some (.ref 54), some (.int p0), some (.int p1), some (.int v9)]) d_Model_may_33 rfl (by decide) rfl rfl ?_
      refine w_aload_n (q := 35) d_Model_may_34 rfl rfl ?_
      refine w_iload_n (q := 36) d_Model_may_35 rfl rfl ?_
      obtain ⟨v10, hv, h⟩ := bnd h
      refine w_callVi (q := 39) (M' := M_Model_isThere) (n' := 1) (k := 54) (As := [.int p1]) (sh' := SH) (b1 := (0, 0)) d_Model_may_36 rfl mw_Model_isThere (by decide) (by decide) ml_Model_315 (by decide) s_54 (by decide) rfl rfl rfl (leb rfl) (bz _) (fun _ => rfl) (ok_Model_isThere hv) ?_
      by_cases c11 : v10 = 0
      · rw [if_pos c11] at h
        refine w_if_eq_t (q := 52) d_Model_may_39 rfl c11 ?_
        refine w_ls (ls' := [some (.ref 54), some (.int p0), some (.int p1), some (.int v9)]) (And.intro rfl (And.intro rfl (And.intro rfl (And.intro rfl trivial)))) ?_
        exact ok_Model_may_j52 h
      · rw [if_neg c11] at h
        refine w_if_eq_f (q := 42) d_Model_may_39 52 rfl rfl c11 ?_
        refine w_aload_n (q := 43) d_Model_may_42 rfl rfl ?_
        refine w_get (q := 46) (ci := 12) (j := 5) d_Model_may_43 rfl (by decide) fl_Model_55 (by decide) (by decide) s_54 rfl rfl ?_
        refine w_iload_n (q := 47) d_Model_may_46 rfl rfl ?_
        obtain ⟨v15, hv, h⟩ := bnd h
        obtain ⟨hi, hv⟩ := rd_ok hv
        refine w_iald (q := 48) (t := 0) d_Model_may_47 rfl a_59.2 a_59.1 hi rfl ?_
        rw [hv]
        refine w_iconst (q := 49) (v := 3) d_Model_may_48 rfl (by decide) ?_
        by_cases c16 : v15 = 3
        · rw [if_pos c16] at h
          refine w_icmp_ne_f (q := 52) d_Model_may_49 71 rfl rfl c16 ?_
          refine w_ls (ls' := [some (.ref 54), some (.int p0), some (.int p1), some (.int v9)]) (And.intro rfl (And.intro rfl (And.intro rfl (And.intro rfl trivial)))) ?_
          exact ok_Model_may_j52 h
        · rw [if_neg c16] at h
          refine w_icmp_ne_t (q := 71) d_Model_may_49 rfl c16 ?_
          refine w_aload_n (q := 72) d_Model_may_71 rfl rfl ?_
          refine w_get (q := 75) (ci := 12) (j := 4) d_Model_may_72 rfl (by decide) fl_Model_51 (by decide) (by decide) s_54 rfl rfl ?_
          refine w_iconst (q := 76) (v := 5) d_Model_may_75 rfl (by decide) ?_
          obtain ⟨v17, hv, h⟩ := bnd h
          obtain ⟨hi, hv⟩ := rd_ok hv
          refine w_iald (q := 77) (t := 0) d_Model_may_76 rfl a_58.2 a_58.1 hi rfl ?_
          rw [hv]
          by_cases c18 : v17 = 0
          · rw [if_pos c18] at h
            refine w_if_ne_f (q := 80) d_Model_may_77 99 rfl rfl c18 ?_
            refine w_iload_n (q := 81) d_Model_may_80 rfl rfl ?_
            refine w_iload_n (q := 82) d_Model_may_81 rfl rfl ?_
            by_cases c19 : v9 = p0
            · rw [if_pos c19] at h
              refine w_icmp_eq_t (q := 93) d_Model_may_82 rfl c19 ?_
              refine w_iconst (q := 94) (v := 1) d_Model_may_93 rfl (by decide) ?_
              refine w_goto (q := 98) d_Model_may_94 rfl ?_
              cases h
              exact w_ireturn d_Model_may_98 rfl rfl ⟨rfl, rfl, rfl, rfl⟩
            · rw [if_neg c19] at h
              refine w_icmp_eq_f (q := 85) d_Model_may_82 93 rfl rfl c19 ?_
              refine w_aload_n (q := 86) d_Model_may_85 rfl rfl ?_
              refine w_iload_n (q := 87) d_Model_may_86 rfl rfl ?_
              obtain ⟨v20, hv, h⟩ := bnd h
              refine w_callVi (q := 90) (M' := M_Model_isGrey) (n' := 3) (k := 54) (As := [.int v9]) (sh' := SH) (b1 := (0, 0)) d_Model_may_87 rfl mw_Model_isGrey (by decide) (by decide) ml_Model_338 (by decide) s_54 (by decide) rfl rfl rfl (leb rfl) (bz _) (fun _ => rfl) (ok_Model_isGrey hv) ?_
              by_cases c21 : v20 = 0
              · rw [if_pos c21] at h
                refine w_if_ne_f (q := 93) d_Model_may_90 97 rfl rfl c21 ?_
                refine w_iconst (q := 94) (v := 1) d_Model_may_93 rfl (by decide) ?_
                refine w_goto (q := 98) d_Model_may_94 rfl ?_
                cases h
                exact w_ireturn d_Model_may_98 rfl rfl ⟨rfl, rfl, rfl, rfl⟩
              · rw [if_neg c21] at h
                refine w_if_ne_t (q := 97) d_Model_may_90 rfl c21 ?_
                refine w_iconst (q := 98) (v := 0) d_Model_may_97 rfl (by decide) ?_
                cases h
                exact w_ireturn d_Model_may_98 rfl rfl ⟨rfl, rfl, rfl, rfl⟩
          · rw [if_neg c18] at h
            refine w_if_ne_t (q := 99) d_Model_may_77 rfl c18 ?_
            refine w_aload_n (q := 100) d_Model_may_99 rfl rfl ?_
            refine w_get (q := 103) (ci := 12) (j := 29) d_Model_may_100 rfl (by decide) fl_Model_84 (by decide) (by decide) s_54 rfl rfl ?_
            refine w_iconst (q := 104) (v := 0) d_Model_may_103 rfl (by decide) ?_
            refine w_aload_n (q := 105) d_Model_may_104 rfl rfl ?_
            refine w_iload_n (q := 106) d_Model_may_105 rfl rfl ?_
            refine w_iconst (q := 107) (v := 0) d_Model_may_106 rfl (by decide) ?_
            obtain ⟨v22, hv, h⟩ := bnd h
            refine w_callVi (q := 110) (M' := M_Model_of) (n' := 0) (k := 54) (As := [.int p1, .int 0]) (sh' := SH) (b1 := (0, 0)) d_Model_may_107 rfl mw_Model_of (by decide) (by decide) ml_Model_305 (by decide) s_54 (by decide) rfl rfl rfl (leb rfl) (bz _) (fun _ => rfl) (ok_Model_of hv) ?_
            obtain ⟨g23, hv, h⟩ := bnd h
            obtain ⟨hi, hv⟩ := wr_ok hv
            refine w_iast (q := 111) d_Model_may_110 rfl a_68.2 a_68.1 hi hv ?_
            refine w_aload_n (q := 112) d_Model_may_111 rfl rfl ?_
            refine w_get (q := 115) (ci := 12) (j := 29) d_Model_may_112 rfl (by decide) fl_Model_84 (by decide) (by decide) s_54 rfl rfl ?_
            refine w_iconst (q := 116) (v := 1) d_Model_may_115 rfl (by decide) ?_
            refine w_aload_n (q := 117) d_Model_may_116 rfl rfl ?_
            refine w_iload_n (q := 118) d_Model_may_117 rfl rfl ?_
            refine w_iconst (q := 119) (v := 5) d_Model_may_118 rfl (by decide) ?_
            obtain ⟨v24, hv, h⟩ := bnd h
            refine w_callVi (q := 122) (M' := M_Model_of) (n' := 0) (k := 54) (As := [.int p1, .int 5]) (sh' := SH) (b1 := (0, 0)) d_Model_may_119 rfl mw_Model_of (by decide) (by decide) ml_Model_305 (by decide) s_54 (by decide) rfl rfl rfl (leb rfl) (bz _) (fun _ => rfl) (ok_Model_of hv) ?_
            obtain ⟨g25, hv, h⟩ := bnd h
            obtain ⟨hi, hv⟩ := wr_ok hv
            refine w_iast (q := 123) d_Model_may_122 rfl a_68.2 a_68.1 hi hv ?_
            refine w_aload_n (q := 124) d_Model_may_123 rfl rfl ?_
            refine w_get (q := 127) (ci := 12) (j := 29) d_Model_may_124 rfl (by decide) fl_Model_84 (by decide) (by decide) s_54 rfl rfl ?_
            refine w_iconst (q := 128) (v := 2) d_Model_may_127 rfl (by decide) ?_
            refine w_aload_n (q := 129) d_Model_may_128 rfl rfl ?_
            refine w_iload_n (q := 130) d_Model_may_129 rfl rfl ?_
            refine w_iconst (q := 131) (v := 3) d_Model_may_130 rfl (by decide) ?_
            obtain ⟨v26, hv, h⟩ := bnd h
            refine w_callVi (q := 134) (M' := M_Model_of) (n' := 0) (k := 54) (As := [.int p1, .int 3]) (sh' := SH) (b1 := (0, 0)) d_Model_may_131 rfl mw_Model_of (by decide) (by decide) ml_Model_305 (by decide) s_54 (by decide) rfl rfl rfl (leb rfl) (bz _) (fun _ => rfl) (ok_Model_of hv) ?_
            obtain ⟨g27, hv, h⟩ := bnd h
            obtain ⟨hi, hv⟩ := wr_ok hv
            refine w_iast (q := 135) d_Model_may_134 rfl a_68.2 a_68.1 hi hv ?_
            refine w_aload_n (q := 136) d_Model_may_135 rfl rfl ?_
            refine w_get (q := 139) (ci := 12) (j := 29) d_Model_may_136 rfl (by decide) fl_Model_84 (by decide) (by decide) s_54 rfl rfl ?_
            refine w_iconst (q := 140) (v := 3) d_Model_may_139 rfl (by decide) ?_
            refine w_aload_n (q := 141) d_Model_may_140 rfl rfl ?_
            refine w_iload_n (q := 142) d_Model_may_141 rfl rfl ?_
            obtain ⟨v28, hv, h⟩ := bnd h
            refine w_callVi (q := 145) (M' := M_Model_old) (n' := 2) (k := 54) (As := [.int p1]) (sh' := SH) (b1 := (0, 0)) d_Model_may_142 rfl mw_Model_old (by decide) (by decide) ml_Model_318 (by decide) s_54 (by decide) rfl rfl rfl (leb rfl) (bz _) (fun _ => rfl) (ok_Model_old hv) ?_
            obtain ⟨g29, hv, h⟩ := bnd h
            obtain ⟨hi, hv⟩ := wr_ok hv
            refine w_iast (q := 146) d_Model_may_145 rfl a_68.2 a_68.1 hi hv ?_
            refine w_aload_n (q := 147) d_Model_may_146 rfl rfl ?_
            refine w_get (q := 150) (ci := 12) (j := 29) d_Model_may_147 rfl (by decide) fl_Model_84 (by decide) (by decide) s_54 rfl rfl ?_
            refine w_iconst (q := 151) (v := 4) d_Model_may_150 rfl (by decide) ?_
            refine w_aload_n (q := 152) d_Model_may_151 rfl rfl ?_
            refine w_iload_n (q := 153) d_Model_may_152 rfl rfl ?_
            obtain ⟨v30, hv, h⟩ := bnd h
            refine w_callVi (q := 156) (M' := M_Model_isGrey) (n' := 3) (k := 54) (As := [.int v9]) (sh' := SH) (b1 := (0, 0)) d_Model_may_153 rfl mw_Model_isGrey (by decide) (by decide) ml_Model_338 (by decide) s_54 (by decide) rfl rfl rfl (leb rfl) (bz _) (fun _ => rfl) (ok_Model_isGrey hv) ?_
            by_cases c31 : v30 = 0
            · rw [if_pos c31] at h
              refine w_if_eq_t (q := 163) d_Model_may_156 rfl c31 ?_
              refine w_iconst (q := 164) (v := 0) d_Model_may_163 rfl (by decide) ?_
              refine w_ls (ls' := [some (.ref 54), some (.int p0), none, some (.int v9)]) (And.intro rfl (And.intro rfl (And.intro rfl trivial))) ?_
              exact ok_Model_may_j164 h
            · rw [if_neg c31] at h
              refine w_if_eq_f (q := 159) d_Model_may_156 163 rfl rfl c31 ?_
              refine w_iconst (q := 160) (v := 1) d_Model_may_159 rfl (by decide) ?_
              refine w_goto (q := 164) d_Model_may_160 rfl ?_
              refine w_ls (ls' := [some (.ref 54), some (.int p0), none, some (.int v9)]) (And.intro rfl (And.intro rfl (And.intro rfl trivial))) ?_
              exact ok_Model_may_j164 h
def sp_Model_refuse (p0 : Int32) (g : Mem) : Option (Int32 × Mem) := (rd g 64 3 p0).bind fun v1 => (wr g 64 3 p0 (v1 + 1)).bind fun g2 => some ((-1), g2)
theorem ok_Model_refuse {γ : GG} {tt : Bool} {p0 : Int32} {g : Mem} {res : Int32 × Mem} (h : sp_Model_refuse p0 g = some res) : CA γ M_Model_refuse 0 [.ref 54, .int p0] SH g tt (0, 0) (pI SH res.1 res.2 tt) := by
  refine CA.of mw_Model_refuse.1 0 rfl ?_
  show WA γ M_Model_refuse 0 0 [some (.ref 54), some (.int p0)] [] SH g tt (0, 0) (pI SH res.1 res.2 tt)
  unfold sp_Model_refuse at h
  refine w_aload_n (q := 1) d_Model_refuse_0 rfl rfl ?_
  refine w_get (q := 4) (ci := 12) (j := 10) d_Model_refuse_1 rfl (by decide) fl_Model_68 (by decide) (by decide) s_54 rfl rfl ?_
  refine w_iload_n (q := 5) d_Model_refuse_4 rfl rfl ?_
  refine w_dup2 (q := 6) d_Model_refuse_5 rfl rfl rfl ?_
  obtain ⟨v1, hv, h⟩ := bnd h
  obtain ⟨hi, hv⟩ := rd_ok hv
  refine w_iald (q := 7) (t := 0) d_Model_refuse_6 rfl a_64.2 a_64.1 hi rfl ?_
  rw [hv]
  refine w_iconst (q := 8) (v := 1) d_Model_refuse_7 rfl (by decide) ?_
  refine w_iadd (q := 9) d_Model_refuse_8 rfl ?_
  obtain ⟨g2, hv, h⟩ := bnd h
  obtain ⟨hi, hv⟩ := wr_ok hv
  refine w_iast (q := 10) d_Model_refuse_9 rfl a_64.2 a_64.1 hi hv ?_
  refine w_iconst (q := 11) (v := (-1)) d_Model_refuse_10 rfl (by decide) ?_
  cases h
  exact w_ireturn d_Model_refuse_11 rfl rfl ⟨rfl, rfl, rfl, rfl⟩
def PL_Model_keep_13 (γ : GG) (tt : Bool) (g : Mem) (b : Nat × Nat) (Φ : PO) (s : Int32 × Mem) : Prop := WA γ M_Model_keep 1 13 [some (.ref 54), some (.int s.1)] [] SH s.2 tt b Φ
def QL_Model_keep_13 (γ : GG) (tt : Bool) (g : Mem) (b : Nat × Nat) (Φ : PO) (x : (Mem)) : Prop := WA γ M_Model_keep 1 44 [some (.ref 54), none] [] SH x tt b Φ
def st_Model_keep_13 (F : Nat) (g : Mem) (s : Int32 × Mem) : Option ((Int32 × Mem) ⊕ ((Mem))) := if (Int32.ofNat 9240) ≤ s.1 then some (.inr s.2) else (rd s.2 67 9240 s.1).bind fun v3 => (wr s.2 67 9240 (s.1 - 231) v3).bind fun g4 => some (.inl (s.1 + 1, g4))
theorem kl_Model_keep_13 {γ : GG} {tt : Bool} {F : Nat} {g : Mem} {b : Nat × Nat} {Φ : PO} : ∀ (s : Int32 × Mem) (r : (Int32 × Mem) ⊕ ((Mem))), st_Model_keep_13 F g s = some r → RQ (PL_Model_keep_13 γ tt g b Φ) (QL_Model_keep_13 γ tt g b Φ) r → PL_Model_keep_13 γ tt g b Φ s := by
  intro s r h hr
  unfold st_Model_keep_13 at h
  unfold PL_Model_keep_13
  refine w_iload_n (q := 14) d_Model_keep_13 rfl rfl ?_
  refine w_aload_n (q := 15) d_Model_keep_14 rfl rfl ?_
  refine w_get (q := 18) (ci := 12) (j := 23) d_Model_keep_15 rfl (by decide) fl_Model_81 (by decide) (by decide) s_54 rfl rfl ?_
  refine w_alen (q := 19) d_Model_keep_18 rfl a_67.2 a_67.1 (Or.inl ⟨rfl, Or.inl rfl⟩) rfl ?_
  by_cases c2 : (Int32.ofNat 9240) ≤ s.1
  · rw [if_pos c2] at h
    refine w_icmp_ge_t (q := 44) d_Model_keep_19 rfl c2 ?_
    cases h
    exact w_ls (by exact (And.intro rfl trivial)) hr
  · rw [if_neg c2] at h
    refine w_icmp_ge_f (q := 22) d_Model_keep_19 44 rfl rfl c2 ?_
    refine w_aload_n (q := 23) d_Model_keep_22 rfl rfl ?_
    refine w_get (q := 26) (ci := 12) (j := 23) d_Model_keep_23 rfl (by decide) fl_Model_81 (by decide) (by decide) s_54 rfl rfl ?_
    refine w_iload_n (q := 27) d_Model_keep_26 rfl rfl ?_
    refine w_sipush (q := 30) (v := 231) d_Model_keep_27 rfl (by decide) ?_
    refine w_isub (q := 31) d_Model_keep_30 rfl ?_
    refine w_aload_n (q := 32) d_Model_keep_31 rfl rfl ?_
    refine w_get (q := 35) (ci := 12) (j := 23) d_Model_keep_32 rfl (by decide) fl_Model_81 (by decide) (by decide) s_54 rfl rfl ?_
    refine w_iload_n (q := 36) d_Model_keep_35 rfl rfl ?_
    obtain ⟨v3, hv, h⟩ := bnd h
    obtain ⟨hi, hv⟩ := rd_ok hv
    refine w_iald (q := 37) (t := 0) d_Model_keep_36 rfl a_67.2 a_67.1 hi rfl ?_
    rw [hv]
    obtain ⟨g4, hv, h⟩ := bnd h
    obtain ⟨hi, hv⟩ := wr_ok hv
    refine w_iast (q := 38) d_Model_keep_37 rfl a_67.2 a_67.1 hi hv ?_
    refine w_iinc (q := 41) (ls' := [some (.ref 54), some (.int (s.1 + 1))]) d_Model_keep_38 rfl (by decide) rfl rfl rfl ?_
    refine w_goto (q := 13) d_Model_keep_41 rfl ?_
    cases h
    exact w_ls (by exact (And.intro rfl (And.intro rfl trivial))) hr
def sp_Model_keep_j54 (F : Nat) (g : Mem) (m0 : Mem) : Option (Mem) := (sp_Model_pack F 67 9240 (231 * (m0 54 27)) m0).bind fun v6 => some (mset v6 54 27 ((v6 54 27) + 1))
theorem ok_Model_keep_j54 {γ : GG} {tt : Bool} {F : Nat} {g : Mem} {m0 : Mem} {res : Mem} (h : sp_Model_keep_j54 F g m0  = some res) : WA γ M_Model_keep 1 54 [some (.ref 54), none] [] SH m0 tt (0, 0) (pV SH res tt) := by
  unfold sp_Model_keep_j54 at h
  refine w_aload_n (q := 55) d_Model_keep_54 rfl rfl ?_
  refine w_aload_n (q := 56) d_Model_keep_55 rfl rfl ?_
  refine w_get (q := 59) (ci := 12) (j := 23) d_Model_keep_56 rfl (by decide) fl_Model_81 (by decide) (by decide) s_54 rfl rfl ?_
  refine w_sipush (q := 62) (v := 231) d_Model_keep_59 rfl (by decide) ?_
  refine w_aload_n (q := 63) d_Model_keep_62 rfl rfl ?_
  refine w_get (q := 66) (ci := 12) (j := 27) d_Model_keep_63 rfl (by decide) fl_Model_295 (by decide) (by decide) s_54 rfl rfl ?_
  refine w_imul (q := 67) d_Model_keep_66 rfl ?_
  obtain ⟨v6, hv, h⟩ := bnd h
  refine w_callVv (q := 70) (M' := M_Model_pack) (n' := 0) (k := 54) (As := [.ref 67, .int (231 * (m0 54 27))]) (sh' := SH) (b1 := (0, 0)) d_Model_keep_67 rfl mw_Model_pack (by decide) (by decide) ml_Model_359 (by decide) s_54 (by decide) rfl rfl rfl (leb rfl) (bz _) (fun _ => rfl) (ok_Model_pack a_67 hv) ?_
  refine w_aload_n (q := 71) d_Model_keep_70 rfl rfl ?_
  refine w_dup (q := 72) d_Model_keep_71 rfl rfl ?_
  refine w_get (q := 75) (ci := 12) (j := 27) d_Model_keep_72 rfl (by decide) fl_Model_295 (by decide) (by decide) s_54 rfl rfl ?_
  refine w_iconst (q := 76) (v := 1) d_Model_keep_75 rfl (by decide) ?_
  refine w_iadd (q := 77) d_Model_keep_76 rfl ?_
  refine w_put (q := 80) (ci := 12) (j := 27) d_Model_keep_77 rfl (by decide) fl_Model_295 (by decide) (by decide) s_54 rfl rfl rfl rfl rfl rfl ?_
  cases h
  exact w_return d_Model_keep_80 rfl ⟨rfl, rfl, rfl, rfl⟩
def sp_Model_keep (F : Nat) (g : Mem) : Option (Mem) := if (g 54 27) = 40 then (lpO (st_Model_keep_13 F g) F (231, g)).bind fun x5 => sp_Model_keep_j54 F g (mset x5 54 27 ((x5 54 27) - 1)) else sp_Model_keep_j54 F g g
theorem ok_Model_keep {γ : GG} {tt : Bool} {F : Nat} {g : Mem} {res : Mem} (h : sp_Model_keep F g = some res) : CA γ M_Model_keep 1 [.ref 54] SH g tt (0, 0) (pV SH res tt) := by
  refine CA.of mw_Model_keep.1 1 rfl ?_
  show WA γ M_Model_keep 1 0 [some (.ref 54), none] [] SH g tt (0, 0) (pV SH res tt)
  unfold sp_Model_keep at h
  refine w_aload_n (q := 1) d_Model_keep_0 rfl rfl ?_
  refine w_get (q := 4) (ci := 12) (j := 27) d_Model_keep_1 rfl (by decide) fl_Model_295 (by decide) (by decide) s_54 rfl rfl ?_
  refine w_bipush (q := 6) (v := 40) d_Model_keep_4 rfl (by decide) ?_
  by_cases c1 : (g 54 27) = 40
  · rw [if_pos c1] at h
    refine w_icmp_ne_f (q := 9) d_Model_keep_6 54 rfl rfl c1 ?_
    refine w_sipush (q := 12) (v := 231) d_Model_keep_9 rfl (by decide) ?_
    refine w_istore_n (q := 13) (ls' := [some (.ref 54), some (.int 231)]) d_Model_keep_12 rfl (by decide) rfl rfl ?_
    obtain ⟨x5, hx, h⟩ := bnd h
    refine w_ls (ls' := [some (.ref 54), some (.int 231)]) (And.intro rfl (And.intro rfl trivial)) ?_
    show PL_Model_keep_13 γ tt g _ _ (231, g)
    refine lp_ok (kl_Model_keep_13) F _ x5 hx ?_
    unfold QL_Model_keep_13
    refine w_aload_n (q := 45) d_Model_keep_44 rfl rfl ?_
    refine w_dup (q := 46) d_Model_keep_45 rfl rfl ?_
    refine w_get (q := 49) (ci := 12) (j := 27) d_Model_keep_46 rfl (by decide) fl_Model_295 (by decide) (by decide) s_54 rfl rfl ?_
    refine w_iconst (q := 50) (v := 1) d_Model_keep_49 rfl (by decide) ?_
    refine w_isub (q := 51) d_Model_keep_50 rfl ?_
    refine w_put (q := 54) (ci := 12) (j := 27) d_Model_keep_51 rfl (by decide) fl_Model_295 (by decide) (by decide) s_54 rfl rfl rfl rfl rfl rfl ?_
    refine w_ls (ls' := [some (.ref 54), none]) (And.intro rfl trivial) ?_
    exact ok_Model_keep_j54 h
  · rw [if_neg c1] at h
    refine w_icmp_ne_t (q := 54) d_Model_keep_6 rfl c1 ?_
    refine w_ls (ls' := [some (.ref 54), none]) (And.intro rfl trivial) ?_
    exact ok_Model_keep_j54 h
def PL_Model_years_41 (γ : GG) (tt : Bool) (p0 : Int32) (g : Mem) (k1 : Int32) (b : Nat × Nat) (Φ : PO) (s : Int32 × Mem) : Prop := WA γ M_Model_years 5 41 [some (.ref 54), some (.int k1), some (.int s.1)] [] SH s.2 tt b Φ
def QL_Model_years_41 (γ : GG) (tt : Bool) (p0 : Int32) (g : Mem) (k1 : Int32) (b : Nat × Nat) (Φ : PO) (x : (Mem)) : Prop := WA γ M_Model_years 5 56 [some (.ref 54), none, none] [] SH x tt b Φ
def st_Model_years_41 (F : Nat) (p0 : Int32) (g : Mem) (k1 : Int32) (s : Int32 × Mem) : Option ((Int32 × Mem) ⊕ ((Mem))) := if k1 ≤ s.1 then some (.inr s.2) else (sp_Model_yearGoes F s.2).bind fun v7 => some (.inl (s.1 + 1, v7))
theorem kl_Model_years_41 {γ : GG} {tt : Bool} {F : Nat} {p0 : Int32} {g : Mem} {k1 : Int32} {b : Nat × Nat} {Φ : PO} : ∀ (s : Int32 × Mem) (r : (Int32 × Mem) ⊕ ((Mem))), st_Model_years_41 F p0 g k1 s = some r → RQ (PL_Model_years_41 γ tt p0 g k1 b Φ) (QL_Model_years_41 γ tt p0 g k1 b Φ) r → PL_Model_years_41 γ tt p0 g k1 b Φ s := by
  intro s r h hr
  unfold st_Model_years_41 at h
  unfold PL_Model_years_41
  refine w_iload_n (q := 42) d_Model_years_41 rfl rfl ?_
  refine w_iload_n (q := 43) d_Model_years_42 rfl rfl ?_
  by_cases c6 : k1 ≤ s.1
  · rw [if_pos c6] at h
    refine w_icmp_ge_t (q := 56) d_Model_years_43 rfl c6 ?_
    cases h
    exact w_ls (by exact (And.intro rfl trivial)) hr
  · rw [if_neg c6] at h
    refine w_icmp_ge_f (q := 46) d_Model_years_43 56 rfl rfl c6 ?_
    refine w_aload_n (q := 47) d_Model_years_46 rfl rfl ?_
    obtain ⟨v7, hv, h⟩ := bnd h
    refine w_callVv (q := 50) (M' := M_Model_yearGoes) (n' := 4) (k := 54) (As := []) (sh' := SH) (b1 := (0, 0)) d_Model_years_47 rfl mw_Model_yearGoes (by decide) (by decide) ml_Model_371 (by decide) s_54 (by decide) rfl rfl rfl (leb rfl) (bz _) (fun _ => rfl) (ok_Model_yearGoes hv) ?_
    refine w_iinc (q := 53) (ls' := [some (.ref 54), some (.int k1), some (.int (s.1 + 1))]) d_Model_years_50 rfl (by decide) rfl rfl rfl ?_
    refine w_goto (q := 41) d_Model_years_53 rfl ?_
    cases h
    exact w_ls (by exact (And.intro rfl (And.intro rfl (And.intro rfl trivial)))) hr
def sp_Model_years (F : Nat) (p0 : Int32) (g : Mem) : Option (Int32 × Mem) := (sp_Model_isIn p0.toInt64 1 30 (mset g 54 3 0)).bind fun v1 => if v1 = 0 then (sp_Model_refuse 1 (mset g 54 3 0)).bind fun v3 => some (v3.1, v3.2) else if (((mset g 54 3 0) 54 24) + p0) ≤ 999 then (sp_Model_keep F (mset g 54 3 0)).bind fun v5 => (lpO (st_Model_years_41 F p0 g p0) F (0, v5)).bind fun x8 => some (x8 54 24, x8) else (sp_Model_refuse 1 (mset g 54 3 0)).bind fun v9 => some (v9.1, v9.2)
theorem ok_Model_years {γ : GG} {tt : Bool} {F : Nat} {p0 : Int32} {g : Mem} {res : Int32 × Mem} (h : sp_Model_years F p0 g = some res) : CA γ M_Model_years 5 [.ref 54, .int p0] SH g tt (0, 0) (pI SH res.1 res.2 tt) := by
  refine CA.of mw_Model_years.1 1 rfl ?_
  show WA γ M_Model_years 5 0 [some (.ref 54), some (.int p0), none] [] SH g tt (0, 0) (pI SH res.1 res.2 tt)
  unfold sp_Model_years at h
  refine w_aload_n (q := 1) d_Model_years_0 rfl rfl ?_
  refine w_iconst (q := 2) (v := 0) d_Model_years_1 rfl (by decide) ?_
  refine w_put (q := 5) (ci := 12) (j := 3) d_Model_years_2 rfl (by decide) fl_Model_114 (by decide) (by decide) s_54 rfl rfl rfl rfl rfl rfl ?_
  refine w_iload_n (q := 6) d_Model_years_5 rfl rfl ?_
  refine w_i2l (q := 7) d_Model_years_6 rfl ?_
  refine w_lconst (q := 8) (v := 1) d_Model_years_7 rfl (by decide) ?_
  refine w_ldc2 (q := 11) d_Model_years_8 rfl lo_Model_363 ?_
  obtain ⟨v1, hv, h⟩ := bnd h
  refine w_callSi (q := 14) (M' := M_Model_isIn) (n' := 0) (As := [.long (p0.toInt64), .long (1), .long (30)]) (sh' := SH) (b1 := (0, 0)) d_Model_years_11 rfl mw_Model_isIn (by decide) (by decide) ml_Model_117 rfl rfl (leb rfl) (bz _) (fun _ => rfl) (ok_Model_isIn hv) ?_
  by_cases c2 : v1 = 0
  · rw [if_pos c2] at h
    refine w_if_eq_t (q := 29) d_Model_years_14 rfl c2 ?_
    refine w_aload_n (q := 30) d_Model_years_29 rfl rfl ?_
    refine w_iconst (q := 31) (v := 1) d_Model_years_30 rfl (by decide) ?_
    obtain ⟨v3, hv, h⟩ := bnd h
    refine w_callVi (q := 34) (M' := M_Model_refuse) (n' := 0) (k := 54) (As := [.int 1]) (sh' := SH) (b1 := (0, 0)) d_Model_years_31 rfl mw_Model_refuse (by decide) (by decide) ml_Model_365 (by decide) s_54 (by decide) rfl rfl rfl (leb rfl) (bz _) (fun _ => rfl) (ok_Model_refuse hv) ?_
    cases h
    exact w_ireturn d_Model_years_34 rfl rfl ⟨rfl, rfl, rfl, rfl⟩
  · rw [if_neg c2] at h
    refine w_if_eq_f (q := 17) d_Model_years_14 29 rfl rfl c2 ?_
    refine w_aload_n (q := 18) d_Model_years_17 rfl rfl ?_
    refine w_get (q := 21) (ci := 12) (j := 24) d_Model_years_18 rfl (by decide) fl_Model_286 (by decide) (by decide) s_54 rfl rfl ?_
    refine w_iload_n (q := 22) d_Model_years_21 rfl rfl ?_
    refine w_iadd (q := 23) d_Model_years_22 rfl ?_
    refine w_sipush (q := 26) (v := 999) d_Model_years_23 rfl (by decide) ?_
    by_cases c4 : (((mset g 54 3 0) 54 24) + p0) ≤ 999
    · rw [if_pos c4] at h
      refine w_icmp_le_t (q := 35) d_Model_years_26 rfl c4 ?_
      refine w_aload_n (q := 36) d_Model_years_35 rfl rfl ?_
      obtain ⟨v5, hv, h⟩ := bnd h
      refine w_callVv (q := 39) (M' := M_Model_keep) (n' := 1) (k := 54) (As := []) (sh' := SH) (b1 := (0, 0)) d_Model_years_36 rfl mw_Model_keep (by decide) (by decide) ml_Model_368 (by decide) s_54 (by decide) rfl rfl rfl (leb rfl) (bz _) (fun _ => rfl) (ok_Model_keep hv) ?_
      refine w_iconst (q := 40) (v := 0) d_Model_years_39 rfl (by decide) ?_
      refine w_istore_n (q := 41) (ls' := [some (.ref 54), some (.int p0), some (.int 0)]) d_Model_years_40 rfl (by decide) rfl rfl ?_
      obtain ⟨x8, hx, h⟩ := bnd h
      refine w_ls (ls' := [some (.ref 54), some (.int p0), some (.int 0)]) (And.intro rfl (And.intro rfl (And.intro rfl trivial))) ?_
      show PL_Model_years_41 γ tt p0 g p0 _ _ (0, v5)
      refine lp_ok (kl_Model_years_41) F _ x8 hx ?_
      unfold QL_Model_years_41
      refine w_aload_n (q := 57) d_Model_years_56 rfl rfl ?_
      refine w_get (q := 60) (ci := 12) (j := 24) d_Model_years_57 rfl (by decide) fl_Model_286 (by decide) (by decide) s_54 rfl rfl ?_
      cases h
      exact w_ireturn d_Model_years_60 rfl rfl ⟨rfl, rfl, rfl, rfl⟩
    · rw [if_neg c4] at h
      refine w_icmp_le_f (q := 29) d_Model_years_26 35 rfl rfl c4 ?_
      refine w_aload_n (q := 30) d_Model_years_29 rfl rfl ?_
      refine w_iconst (q := 31) (v := 1) d_Model_years_30 rfl (by decide) ?_
      obtain ⟨v9, hv, h⟩ := bnd h
      refine w_callVi (q := 34) (M' := M_Model_refuse) (n' := 0) (k := 54) (As := [.int 1]) (sh' := SH) (b1 := (0, 0)) d_Model_years_31 rfl mw_Model_refuse (by decide) (by decide) ml_Model_365 (by decide) s_54 (by decide) rfl rfl rfl (leb rfl) (bz _) (fun _ => rfl) (ok_Model_refuse hv) ?_
      cases h
      exact w_ireturn d_Model_years_34 rfl rfl ⟨rfl, rfl, rfl, rfl⟩
def sp_Model_putEntry (p0 : Int32) (p1 : Int32) (p2 : Int32) (p3 : Int32) (p4 : Int32) (p5 : Int32) (g : Mem) : Option (Int32 × Mem) := (wr g 62 432 ((9 * (g 54 26)) + 0) p0).bind fun g1 => (wr g1 62 432 ((9 * (g 54 26)) + 1) p1).bind fun g2 => (wr g2 62 432 ((9 * (g 54 26)) + 2) (g2 54 24)).bind fun g3 => (wr g3 62 432 ((9 * (g 54 26)) + 3) p2).bind fun g4 => (wr g4 62 432 ((9 * (g 54 26)) + 4) p3).bind fun g5 => (wr g5 62 432 ((9 * (g 54 26)) + 5) p4).bind fun g6 => (wr g6 62 432 ((9 * (g 54 26)) + 6) 0).bind fun g7 => (wr g7 62 432 ((9 * (g 54 26)) + 7) p5).bind fun g8 => (wr g8 62 432 ((9 * (g 54 26)) + 8) 0).bind fun g9 => some (((mset g9 54 26 ((g9 54 26) + 1)) 54 26) - 1, (mset g9 54 26 ((g9 54 26) + 1)))
theorem ok_Model_putEntry {γ : GG} {tt : Bool} {p0 : Int32} {p1 : Int32} {p2 : Int32} {p3 : Int32} {p4 : Int32} {p5 : Int32} {g : Mem} {res : Int32 × Mem} (h : sp_Model_putEntry p0 p1 p2 p3 p4 p5 g = some res) : CA γ M_Model_putEntry 0 [.ref 54, .int p0, .int p1, .int p2, .int p3, .int p4, .int p5] SH g tt (0, 0) (pI SH res.1 res.2 tt) := by
  refine CA.of mw_Model_putEntry.1 1 rfl ?_
  show WA γ M_Model_putEntry 0 0 [some (.ref 54), some (.int p0), some (.int p1), some (.int p2), some (.int p3), some (.int p4), some (.int p5), none] [] SH g tt (0, 0) (pI SH res.1 res.2 tt)
  unfold sp_Model_putEntry at h
  refine w_bipush (q := 2) (v := 9) d_Model_putEntry_0 rfl (by decide) ?_
  refine w_aload_n (q := 3) d_Model_putEntry_2 rfl rfl ?_
  refine w_get (q := 6) (ci := 12) (j := 26) d_Model_putEntry_3 rfl (by decide) fl_Model_121 (by decide) (by decide) s_54 rfl rfl ?_
  refine w_imul (q := 7) d_Model_putEntry_6 rfl ?_
  refine w_istore (q := 9) (ls' := [some (.ref 54), some (.int p0), some (.int p1), some (.int p2), some (.int p3), some (.int p4), some (.int p5), some (.int (9 * (g 54 26)))]) d_Model_putEntry_7 rfl (by decide) rfl rfl ?_
  refine w_aload_n (q := 10) d_Model_putEntry_9 rfl rfl ?_
  refine w_get (q := 13) (ci := 12) (j := 8) d_Model_putEntry_10 rfl (by decide) fl_Model_62 (by decide) (by decide) s_54 rfl rfl ?_
  refine w_iload (q := 15) d_Model_putEntry_13 rfl rfl ?_
  refine w_iconst (q := 16) (v := 0) d_Model_putEntry_15 rfl (by decide) ?_
  refine w_iadd (q := 17) d_Model_putEntry_16 rfl ?_
  refine w_iload_n (q := 18) d_Model_putEntry_17 rfl rfl ?_
  obtain ⟨g1, hv, h⟩ := bnd h
  obtain ⟨hi, hv⟩ := wr_ok hv
  refine w_iast (q := 19) d_Model_putEntry_18 rfl a_62.2 a_62.1 hi hv ?_
  refine w_aload_n (q := 20) d_Model_putEntry_19 rfl rfl ?_
  refine w_get (q := 23) (ci := 12) (j := 8) d_Model_putEntry_20 rfl (by decide) fl_Model_62 (by decide) (by decide) s_54 rfl rfl ?_
  refine w_iload (q := 25) d_Model_putEntry_23 rfl rfl ?_
  refine w_iconst (q := 26) (v := 1) d_Model_putEntry_25 rfl (by decide) ?_
  refine w_iadd (q := 27) d_Model_putEntry_26 rfl ?_
  refine w_iload_n (q := 28) d_Model_putEntry_27 rfl rfl ?_
  obtain ⟨g2, hv, h⟩ := bnd h
  obtain ⟨hi, hv⟩ := wr_ok hv
  refine w_iast (q := 29) d_Model_putEntry_28 rfl a_62.2 a_62.1 hi hv ?_
  refine w_aload_n (q := 30) d_Model_putEntry_29 rfl rfl ?_
  refine w_get (q := 33) (ci := 12) (j := 8) d_Model_putEntry_30 rfl (by decide) fl_Model_62 (by decide) (by decide) s_54 rfl rfl ?_
  refine w_iload (q := 35) d_Model_putEntry_33 rfl rfl ?_
  refine w_iconst (q := 36) (v := 2) d_Model_putEntry_35 rfl (by decide) ?_
  refine w_iadd (q := 37) d_Model_putEntry_36 rfl ?_
  refine w_aload_n (q := 38) d_Model_putEntry_37 rfl rfl ?_
  refine w_get (q := 41) (ci := 12) (j := 24) d_Model_putEntry_38 rfl (by decide) fl_Model_286 (by decide) (by decide) s_54 rfl rfl ?_
  obtain ⟨g3, hv, h⟩ := bnd h
  obtain ⟨hi, hv⟩ := wr_ok hv
  refine w_iast (q := 42) d_Model_putEntry_41 rfl a_62.2 a_62.1 hi hv ?_
  refine w_aload_n (q := 43) d_Model_putEntry_42 rfl rfl ?_
  refine w_get (q := 46) (ci := 12) (j := 8) d_Model_putEntry_43 rfl (by decide) fl_Model_62 (by decide) (by decide) s_54 rfl rfl ?_
  refine w_iload (q := 48) d_Model_putEntry_46 rfl rfl ?_
  refine w_iconst (q := 49) (v := 3) d_Model_putEntry_48 rfl (by decide) ?_
  refine w_iadd (q := 50) d_Model_putEntry_49 rfl ?_
  refine w_iload_n (q := 51) d_Model_putEntry_50 rfl rfl ?_
  obtain ⟨g4, hv, h⟩ := bnd h
  obtain ⟨hi, hv⟩ := wr_ok hv
  refine w_iast (q := 52) d_Model_putEntry_51 rfl a_62.2 a_62.1 hi hv ?_
  refine w_aload_n (q := 53) d_Model_putEntry_52 rfl rfl ?_
  refine w_get (q := 56) (ci := 12) (j := 8) d_Model_putEntry_53 rfl (by decide) fl_Model_62 (by decide) (by decide) s_54 rfl rfl ?_
  refine w_iload (q := 58) d_Model_putEntry_56 rfl rfl ?_
  refine w_iconst (q := 59) (v := 4) d_Model_putEntry_58 rfl (by decide) ?_
  refine w_iadd (q := 60) d_Model_putEntry_59 rfl ?_
  refine w_iload (q := 62) d_Model_putEntry_60 rfl rfl ?_
  obtain ⟨g5, hv, h⟩ := bnd h
  obtain ⟨hi, hv⟩ := wr_ok hv
  refine w_iast (q := 63) d_Model_putEntry_62 rfl a_62.2 a_62.1 hi hv ?_
  refine w_aload_n (q := 64) d_Model_putEntry_63 rfl rfl ?_
  refine w_get (q := 67) (ci := 12) (j := 8) d_Model_putEntry_64 rfl (by decide) fl_Model_62 (by decide) (by decide) s_54 rfl rfl ?_
  refine w_iload (q := 69) d_Model_putEntry_67 rfl rfl ?_
  refine w_iconst (q := 70) (v := 5) d_Model_putEntry_69 rfl (by decide) ?_
  refine w_iadd (q := 71) d_Model_putEntry_70 rfl ?_
  refine w_iload (q := 73) d_Model_putEntry_71 rfl rfl ?_
  obtain ⟨g6, hv, h⟩ := bnd h
  obtain ⟨hi, hv⟩ := wr_ok hv
  refine w_iast (q := 74) d_Model_putEntry_73 rfl a_62.2 a_62.1 hi hv ?_
  refine w_aload_n (q := 75) d_Model_putEntry_74 rfl rfl ?_
  refine w_get (q := 78) (ci := 12) (j := 8) d_Model_putEntry_75 rfl (by decide) fl_Model_62 (by decide) (by decide) s_54 rfl rfl ?_
  refine w_iload (q := 80) d_Model_putEntry_78 rfl rfl ?_
  refine w_bipush (q := 82) (v := 6) d_Model_putEntry_80 rfl (by decide) ?_
  refine w_iadd (q := 83) d_Model_putEntry_82 rfl ?_
  refine w_iconst (q := 84) (v := 0) d_Model_putEntry_83 rfl (by decide) ?_
  obtain ⟨g7, hv, h⟩ := bnd h
  obtain ⟨hi, hv⟩ := wr_ok hv
  refine w_iast (q := 85) d_Model_putEntry_84 rfl a_62.2 a_62.1 hi hv ?_
  refine w_aload_n (q := 86) d_Model_putEntry_85 rfl rfl ?_
  refine w_get (q := 89) (ci := 12) (j := 8) d_Model_putEntry_86 rfl (by decide) fl_Model_62 (by decide) (by decide) s_54 rfl rfl ?_
  refine w_iload (q := 91) d_Model_putEntry_89 rfl rfl ?_
  refine w_bipush (q := 93) (v := 7) d_Model_putEntry_91 rfl (by decide) ?_
  refine w_iadd (q := 94) d_Model_putEntry_93 rfl ?_
  refine w_iload (q := 96) d_Model_putEntry_94 rfl rfl ?_
  obtain ⟨g8, hv, h⟩ := bnd h
  obtain ⟨hi, hv⟩ := wr_ok hv
  refine w_iast (q := 97) d_Model_putEntry_96 rfl a_62.2 a_62.1 hi hv ?_
  refine w_aload_n (q := 98) d_Model_putEntry_97 rfl rfl ?_
  refine w_get (q := 101) (ci := 12) (j := 8) d_Model_putEntry_98 rfl (by decide) fl_Model_62 (by decide) (by decide) s_54 rfl rfl ?_
  refine w_iload (q := 103) d_Model_putEntry_101 rfl rfl ?_
  refine w_bipush (q := 105) (v := 8) d_Model_putEntry_103 rfl (by decide) ?_
  refine w_iadd (q := 106) d_Model_putEntry_105 rfl ?_
  refine w_iconst (q := 107) (v := 0) d_Model_putEntry_106 rfl (by decide) ?_
  obtain ⟨g9, hv, h⟩ := bnd h
  obtain ⟨hi, hv⟩ := wr_ok hv
  refine w_iast (q := 108) d_Model_putEntry_107 rfl a_62.2 a_62.1 hi hv ?_
  refine w_aload_n (q := 109) d_Model_putEntry_108 rfl rfl ?_
  refine w_dup (q := 110) d_Model_putEntry_109 rfl rfl ?_
  refine w_get (q := 113) (ci := 12) (j := 26) d_Model_putEntry_110 rfl (by decide) fl_Model_121 (by decide) (by decide) s_54 rfl rfl ?_
  refine w_iconst (q := 114) (v := 1) d_Model_putEntry_113 rfl (by decide) ?_
  refine w_iadd (q := 115) d_Model_putEntry_114 rfl ?_
  refine w_put (q := 118) (ci := 12) (j := 26) d_Model_putEntry_115 rfl (by decide) fl_Model_121 (by decide) (by decide) s_54 rfl rfl rfl rfl rfl rfl ?_
  refine w_aload_n (q := 119) d_Model_putEntry_118 rfl rfl ?_
  refine w_get (q := 122) (ci := 12) (j := 26) d_Model_putEntry_119 rfl (by decide) fl_Model_121 (by decide) (by decide) s_54 rfl rfl ?_
  refine w_iconst (q := 123) (v := 1) d_Model_putEntry_122 rfl (by decide) ?_
  refine w_isub (q := 124) d_Model_putEntry_123 rfl ?_
  cases h
  exact w_ireturn d_Model_putEntry_124 rfl rfl ⟨rfl, rfl, rfl, rfl⟩
def sp_Model_braid (F : Nat) (p0 : Int32) (p1 : Int32) (p2 : Int32) (p3 : Int32) (g : Mem) : Option (Int32 × Mem) := (sp_Model_isMonk p0 (mset g 54 3 0)).bind fun v1 => if v1 = 0 then (sp_Model_fail 1 (mset g 54 3 0)).bind fun v3 => some (v3.1, v3.2) else if ((mset g 54 3 0) 54 26) = 24 then (sp_Model_refuse 1 (mset g 54 3 0)).bind fun v5 => some (v5.1, v5.2) else (sp_Model_isOf ((mset g 54 3 0) 54 25) p0 (mset g 54 3 0)).bind fun v6 => if v6 = 0 then (sp_Model_isIn p1.toInt64 0 3 (mset g 54 3 0)).bind fun v8 => if v8 = 0 then (sp_Model_refuse 1 (mset g 54 3 0)).bind fun v10 => some (v10.1, v10.2) else (sp_Model_isAbout p2 (mset g 54 3 0)).bind fun v11 => if v11 = 0 then (sp_Model_refuse 1 (mset g 54 3 0)).bind fun v13 => some (v13.1, v13.2) else (sp_Model_isIn p3.toInt64 0 999 (mset g 54 3 0)).bind fun v14 => if v14 = 0 then (sp_Model_refuse 1 (mset g 54 3 0)).bind fun v16 => some (v16.1, v16.2) else (sp_Model_keep F (mset g 54 3 0)).bind fun v17 => (sp_Model_putEntry p1 p0 p2 p3 0 (v17 54 26) v17).bind fun v18 => some (v18.1, v18.2) else (sp_Model_refuse 1 (mset g 54 3 0)).bind fun v19 => some (v19.1, v19.2)
theorem ok_Model_braid {γ : GG} {tt : Bool} {F : Nat} {p0 : Int32} {p1 : Int32} {p2 : Int32} {p3 : Int32} {g : Mem} {res : Int32 × Mem} (h : sp_Model_braid F p0 p1 p2 p3 g = some res) : CA γ M_Model_braid 2 [.ref 54, .int p0, .int p1, .int p2, .int p3] SH g tt (0, 0) (pI SH res.1 res.2 tt) := by
  refine CA.of mw_Model_braid.1 0 rfl ?_
  show WA γ M_Model_braid 2 0 [some (.ref 54), some (.int p0), some (.int p1), some (.int p2), some (.int p3)] [] SH g tt (0, 0) (pI SH res.1 res.2 tt)
  unfold sp_Model_braid at h
  refine w_aload_n (q := 1) d_Model_braid_0 rfl rfl ?_
  refine w_iconst (q := 2) (v := 0) d_Model_braid_1 rfl (by decide) ?_
  refine w_put (q := 5) (ci := 12) (j := 3) d_Model_braid_2 rfl (by decide) fl_Model_114 (by decide) (by decide) s_54 rfl rfl rfl rfl rfl rfl ?_
  refine w_aload_n (q := 6) d_Model_braid_5 rfl rfl ?_
  refine w_iload_n (q := 7) d_Model_braid_6 rfl rfl ?_
  obtain ⟨v1, hv, h⟩ := bnd h
  refine w_callVi (q := 10) (M' := M_Model_isMonk) (n' := 1) (k := 54) (As := [.int p0]) (sh' := SH) (b1 := (0, 0)) d_Model_braid_7 rfl mw_Model_isMonk (by decide) (by decide) ml_Model_335 (by decide) s_54 (by decide) rfl rfl rfl (leb rfl) (bz _) (fun _ => rfl) (ok_Model_isMonk hv) ?_
  by_cases c2 : v1 = 0
  · rw [if_pos c2] at h
    refine w_if_ne_f (q := 13) d_Model_braid_10 19 rfl rfl c2 ?_
    refine w_aload_n (q := 14) d_Model_braid_13 rfl rfl ?_
    refine w_iconst (q := 15) (v := 1) d_Model_braid_14 rfl (by decide) ?_
    obtain ⟨v3, hv, h⟩ := bnd h
    refine w_callVi (q := 18) (M' := M_Model_fail) (n' := 0) (k := 54) (As := [.int 1]) (sh' := SH) (b1 := (0, 0)) d_Model_braid_15 rfl mw_Model_fail (by decide) (by decide) ml_Model_273 (by decide) s_54 (by decide) rfl rfl rfl (leb rfl) (bz _) (fun _ => rfl) (ok_Model_fail hv) ?_
    cases h
    exact w_ireturn d_Model_braid_18 rfl rfl ⟨rfl, rfl, rfl, rfl⟩
  · rw [if_neg c2] at h
    refine w_if_ne_t (q := 19) d_Model_braid_10 rfl c2 ?_
    refine w_aload_n (q := 20) d_Model_braid_19 rfl rfl ?_
    refine w_get (q := 23) (ci := 12) (j := 26) d_Model_braid_20 rfl (by decide) fl_Model_121 (by decide) (by decide) s_54 rfl rfl ?_
    refine w_bipush (q := 25) (v := 24) d_Model_braid_23 rfl (by decide) ?_
    by_cases c4 : ((mset g 54 3 0) 54 26) = 24
    · rw [if_pos c4] at h
      refine w_icmp_eq_t (q := 71) d_Model_braid_25 rfl c4 ?_
      refine w_aload_n (q := 72) d_Model_braid_71 rfl rfl ?_
      refine w_iconst (q := 73) (v := 1) d_Model_braid_72 rfl (by decide) ?_
      obtain ⟨v5, hv, h⟩ := bnd h
      refine w_callVi (q := 76) (M' := M_Model_refuse) (n' := 0) (k := 54) (As := [.int 1]) (sh' := SH) (b1 := (0, 0)) d_Model_braid_73 rfl mw_Model_refuse (by decide) (by decide) ml_Model_365 (by decide) s_54 (by decide) rfl rfl rfl (leb rfl) (bz _) (fun _ => rfl) (ok_Model_refuse hv) ?_
      cases h
      exact w_ireturn d_Model_braid_76 rfl rfl ⟨rfl, rfl, rfl, rfl⟩
    · rw [if_neg c4] at h
      refine w_icmp_eq_f (q := 28) d_Model_braid_25 71 rfl rfl c4 ?_
      refine w_aload_n (q := 29) d_Model_braid_28 rfl rfl ?_
      refine w_get (q := 32) (ci := 12) (j := 25) d_Model_braid_29 rfl (by decide) fl_Model_289 (by decide) (by decide) s_54 rfl rfl ?_
      refine w_iload_n (q := 33) d_Model_braid_32 rfl rfl ?_
      obtain ⟨v6, hv, h⟩ := bnd h
      refine w_callSi (q := 36) (M' := M_Model_isOf) (n' := 0) (As := [.int ((mset g 54 3 0) 54 25), .int p0]) (sh' := SH) (b1 := (0, 0)) d_Model_braid_33 rfl mw_Model_isOf (by decide) (by decide) ml_Model_308 rfl rfl (leb rfl) (bz _) (fun _ => rfl) (ok_Model_isOf hv) ?_
      by_cases c7 : v6 = 0
      · rw [if_pos c7] at h
        refine w_if_ne_f (q := 39) d_Model_braid_36 71 rfl rfl c7 ?_
        refine w_iload_n (q := 40) d_Model_braid_39 rfl rfl ?_
        refine w_i2l (q := 41) d_Model_braid_40 rfl ?_
        refine w_lconst (q := 42) (v := 0) d_Model_braid_41 rfl (by decide) ?_
        refine w_ldc2 (q := 45) d_Model_braid_42 rfl lo_Model_374 ?_
        obtain ⟨v8, hv, h⟩ := bnd h
        refine w_callSi (q := 48) (M' := M_Model_isIn) (n' := 0) (As := [.long (p1.toInt64), .long (0), .long (3)]) (sh' := SH) (b1 := (0, 0)) d_Model_braid_45 rfl mw_Model_isIn (by decide) (by decide) ml_Model_117 rfl rfl (leb rfl) (bz _) (fun _ => rfl) (ok_Model_isIn hv) ?_
        by_cases c9 : v8 = 0
        · rw [if_pos c9] at h
          refine w_if_eq_t (q := 71) d_Model_braid_48 rfl c9 ?_
          refine w_aload_n (q := 72) d_Model_braid_71 rfl rfl ?_
          refine w_iconst (q := 73) (v := 1) d_Model_braid_72 rfl (by decide) ?_
          obtain ⟨v10, hv, h⟩ := bnd h
          refine w_callVi (q := 76) (M' := M_Model_refuse) (n' := 0) (k := 54) (As := [.int 1]) (sh' := SH) (b1 := (0, 0)) d_Model_braid_73 rfl mw_Model_refuse (by decide) (by decide) ml_Model_365 (by decide) s_54 (by decide) rfl rfl rfl (leb rfl) (bz _) (fun _ => rfl) (ok_Model_refuse hv) ?_
          cases h
          exact w_ireturn d_Model_braid_76 rfl rfl ⟨rfl, rfl, rfl, rfl⟩
        · rw [if_neg c9] at h
          refine w_if_eq_f (q := 51) d_Model_braid_48 71 rfl rfl c9 ?_
          refine w_iload_n (q := 52) d_Model_braid_51 rfl rfl ?_
          obtain ⟨v11, hv, h⟩ := bnd h
          refine w_callSi (q := 55) (M' := M_Model_isAbout) (n' := 1) (As := [.int p2]) (sh' := SH) (b1 := (0, 0)) d_Model_braid_52 rfl mw_Model_isAbout (by decide) (by decide) ml_Model_376 rfl rfl (leb rfl) (bz _) (fun _ => rfl) (ok_Model_isAbout hv) ?_
          by_cases c12 : v11 = 0
          · rw [if_pos c12] at h
            refine w_if_eq_t (q := 71) d_Model_braid_55 rfl c12 ?_
            refine w_aload_n (q := 72) d_Model_braid_71 rfl rfl ?_
            refine w_iconst (q := 73) (v := 1) d_Model_braid_72 rfl (by decide) ?_
            obtain ⟨v13, hv, h⟩ := bnd h
            refine w_callVi (q := 76) (M' := M_Model_refuse) (n' := 0) (k := 54) (As := [.int 1]) (sh' := SH) (b1 := (0, 0)) d_Model_braid_73 rfl mw_Model_refuse (by decide) (by decide) ml_Model_365 (by decide) s_54 (by decide) rfl rfl rfl (leb rfl) (bz _) (fun _ => rfl) (ok_Model_refuse hv) ?_
            cases h
            exact w_ireturn d_Model_braid_76 rfl rfl ⟨rfl, rfl, rfl, rfl⟩
          · rw [if_neg c12] at h
            refine w_if_eq_f (q := 58) d_Model_braid_55 71 rfl rfl c12 ?_
            refine w_iload (q := 60) d_Model_braid_58 rfl rfl ?_
            refine w_i2l (q := 61) d_Model_braid_60 rfl ?_
            refine w_lconst (q := 62) (v := 0) d_Model_braid_61 rfl (by decide) ?_
            refine w_ldc2 (q := 65) d_Model_braid_62 rfl lo_Model_379 ?_
            obtain ⟨v14, hv, h⟩ := bnd h
            refine w_callSi (q := 68) (M' := M_Model_isIn) (n' := 0) (As := [.long (p3.toInt64), .long (0), .long (999)]) (sh' := SH) (b1 := (0, 0)) d_Model_braid_65 rfl mw_Model_isIn (by decide) (by decide) ml_Model_117 rfl rfl (leb rfl) (bz _) (fun _ => rfl) (ok_Model_isIn hv) ?_
            by_cases c15 : v14 = 0
            · rw [if_pos c15] at h
              refine w_if_ne_f (q := 71) d_Model_braid_68 77 rfl rfl c15 ?_
              refine w_aload_n (q := 72) d_Model_braid_71 rfl rfl ?_
              refine w_iconst (q := 73) (v := 1) d_Model_braid_72 rfl (by decide) ?_
              obtain ⟨v16, hv, h⟩ := bnd h
              refine w_callVi (q := 76) (M' := M_Model_refuse) (n' := 0) (k := 54) (As := [.int 1]) (sh' := SH) (b1 := (0, 0)) d_Model_braid_73 rfl mw_Model_refuse (by decide) (by decide) ml_Model_365 (by decide) s_54 (by decide) rfl rfl rfl (leb rfl) (bz _) (fun _ => rfl) (ok_Model_refuse hv) ?_
              cases h
              exact w_ireturn d_Model_braid_76 rfl rfl ⟨rfl, rfl, rfl, rfl⟩
            · rw [if_neg c15] at h
              refine w_if_ne_t (q := 77) d_Model_braid_68 rfl c15 ?_
              refine w_aload_n (q := 78) d_Model_braid_77 rfl rfl ?_
              obtain ⟨v17, hv, h⟩ := bnd h
              refine w_callVv (q := 81) (M' := M_Model_keep) (n' := 1) (k := 54) (As := []) (sh' := SH) (b1 := (0, 0)) d_Model_braid_78 rfl mw_Model_keep (by decide) (by decide) ml_Model_368 (by decide) s_54 (by decide) rfl rfl rfl (leb rfl) (bz _) (fun _ => rfl) (ok_Model_keep hv) ?_
              refine w_aload_n (q := 82) d_Model_braid_81 rfl rfl ?_
              refine w_iload_n (q := 83) d_Model_braid_82 rfl rfl ?_
              refine w_iload_n (q := 84) d_Model_braid_83 rfl rfl ?_
              refine w_iload_n (q := 85) d_Model_braid_84 rfl rfl ?_
              refine w_iload (q := 87) d_Model_braid_85 rfl rfl ?_
              refine w_iconst (q := 88) (v := 0) d_Model_braid_87 rfl (by decide) ?_
              refine w_aload_n (q := 89) d_Model_braid_88 rfl rfl ?_
              refine w_get (q := 92) (ci := 12) (j := 26) d_Model_braid_89 rfl (by decide) fl_Model_121 (by decide) (by decide) s_54 rfl rfl ?_
              obtain ⟨v18, hv, h⟩ := bnd h
              refine w_callVi (q := 95) (M' := M_Model_putEntry) (n' := 0) (k := 54) (As := [.int p1, .int p0, .int p2, .int p3, .int 0, .int (v17 54 26)]) (sh' := SH) (b1 := (0, 0)) d_Model_braid_92 rfl mw_Model_putEntry (by decide) (by decide) ml_Model_381 (by decide) s_54 (by decide) rfl rfl rfl (leb rfl) (bz _) (fun _ => rfl) (ok_Model_putEntry hv) ?_
              cases h
              exact w_ireturn d_Model_braid_95 rfl rfl ⟨rfl, rfl, rfl, rfl⟩
      · rw [if_neg c7] at h
        refine w_if_ne_t (q := 71) d_Model_braid_36 rfl c7 ?_
        refine w_aload_n (q := 72) d_Model_braid_71 rfl rfl ?_
        refine w_iconst (q := 73) (v := 1) d_Model_braid_72 rfl (by decide) ?_
        obtain ⟨v19, hv, h⟩ := bnd h
        refine w_callVi (q := 76) (M' := M_Model_refuse) (n' := 0) (k := 54) (As := [.int 1]) (sh' := SH) (b1 := (0, 0)) d_Model_braid_73 rfl mw_Model_refuse (by decide) (by decide) ml_Model_365 (by decide) s_54 (by decide) rfl rfl rfl (leb rfl) (bz _) (fun _ => rfl) (ok_Model_refuse hv) ?_
        cases h
        exact w_ireturn d_Model_braid_76 rfl rfl ⟨rfl, rfl, rfl, rfl⟩
def sp_Model_copy (F : Nat) (p0 : Int32) (p1 : Int32) (g : Mem) : Option (Int32 × Mem) := (sp_Model_isEntry p0 (mset g 54 3 0)).bind fun v1 => if v1 = 0 then (sp_Model_fail 1 (mset g 54 3 0)).bind fun v3 => some (v3.1, v3.2) else (sp_Model_isMonk p1 (mset g 54 3 0)).bind fun v4 => if v4 = 0 then (sp_Model_fail 1 (mset g 54 3 0)).bind fun v6 => some (v6.1, v6.2) else if ((mset g 54 3 0) 54 26) = 24 then (sp_Model_refuse 1 (mset g 54 3 0)).bind fun v8 => some (v8.1, v8.2) else (sp_Model_isThere p0 (mset g 54 3 0)).bind fun v9 => if v9 = 0 then (sp_Model_refuse 1 (mset g 54 3 0)).bind fun v11 => some (v11.1, v11.2) else (sp_Model_isOf ((mset g 54 3 0) 54 25) p1 (mset g 54 3 0)).bind fun v12 => if v12 = 0 then (sp_Model_of p0 7 (mset g 54 3 0)).bind fun v14 => (sp_Model_holdersOf F v14 (mset g 54 3 0)).bind fun v15 => (sp_Model_isOf v15 p1 (mset g 54 3 0)).bind fun v16 => if v16 = 0 then (sp_Model_keep F (mset g 54 3 0)).bind fun v18 => (sp_Model_of p0 0 v18).bind fun v19 => (sp_Model_of p0 3 v18).bind fun v20 => (sp_Model_of p0 4 v18).bind fun v21 => (sp_Model_of p0 5 v18).bind fun v22 => (sp_Model_of p0 7 v18).bind fun v23 => (sp_Model_putEntry v19 p1 v20 v21 v22 v23 v18).bind fun v24 => some (v24.1, v24.2) else (sp_Model_refuse 1 (mset g 54 3 0)).bind fun v25 => some (v25.1, v25.2) else (sp_Model_refuse 1 (mset g 54 3 0)).bind fun v26 => some (v26.1, v26.2)
theorem ok_Model_copy {γ : GG} {tt : Bool} {F : Nat} {p0 : Int32} {p1 : Int32} {g : Mem} {res : Int32 × Mem} (h : sp_Model_copy F p0 p1 g = some res) : CA γ M_Model_copy 3 [.ref 54, .int p0, .int p1] SH g tt (0, 0) (pI SH res.1 res.2 tt) := by
  refine CA.of mw_Model_copy.1 0 rfl ?_
  show WA γ M_Model_copy 3 0 [some (.ref 54), some (.int p0), some (.int p1)] [] SH g tt (0, 0) (pI SH res.1 res.2 tt)
  unfold sp_Model_copy at h
  refine w_aload_n (q := 1) d_Model_copy_0 rfl rfl ?_
  refine w_iconst (q := 2) (v := 0) d_Model_copy_1 rfl (by decide) ?_
  refine w_put (q := 5) (ci := 12) (j := 3) d_Model_copy_2 rfl (by decide) fl_Model_114 (by decide) (by decide) s_54 rfl rfl rfl rfl rfl rfl ?_
  refine w_aload_n (q := 6) d_Model_copy_5 rfl rfl ?_
  refine w_iload_n (q := 7) d_Model_copy_6 rfl rfl ?_
  obtain ⟨v1, hv, h⟩ := bnd h
  refine w_callVi (q := 10) (M' := M_Model_isEntry) (n' := 1) (k := 54) (As := [.int p0]) (sh' := SH) (b1 := (0, 0)) d_Model_copy_7 rfl mw_Model_isEntry (by decide) (by decide) ml_Model_341 (by decide) s_54 (by decide) rfl rfl rfl (leb rfl) (bz _) (fun _ => rfl) (ok_Model_isEntry hv) ?_
  by_cases c2 : v1 = 0
  · rw [if_pos c2] at h
    refine w_if_eq_t (q := 21) d_Model_copy_10 rfl c2 ?_
    refine w_aload_n (q := 22) d_Model_copy_21 rfl rfl ?_
    refine w_iconst (q := 23) (v := 1) d_Model_copy_22 rfl (by decide) ?_
    obtain ⟨v3, hv, h⟩ := bnd h
    refine w_callVi (q := 26) (M' := M_Model_fail) (n' := 0) (k := 54) (As := [.int 1]) (sh' := SH) (b1 := (0, 0)) d_Model_copy_23 rfl mw_Model_fail (by decide) (by decide) ml_Model_273 (by decide) s_54 (by decide) rfl rfl rfl (leb rfl) (bz _) (fun _ => rfl) (ok_Model_fail hv) ?_
    cases h
    exact w_ireturn d_Model_copy_26 rfl rfl ⟨rfl, rfl, rfl, rfl⟩
  · rw [if_neg c2] at h
    refine w_if_eq_f (q := 13) d_Model_copy_10 21 rfl rfl c2 ?_
    refine w_aload_n (q := 14) d_Model_copy_13 rfl rfl ?_
    refine w_iload_n (q := 15) d_Model_copy_14 rfl rfl ?_
    obtain ⟨v4, hv, h⟩ := bnd h
    refine w_callVi (q := 18) (M' := M_Model_isMonk) (n' := 1) (k := 54) (As := [.int p1]) (sh' := SH) (b1 := (0, 0)) d_Model_copy_15 rfl mw_Model_isMonk (by decide) (by decide) ml_Model_335 (by decide) s_54 (by decide) rfl rfl rfl (leb rfl) (bz _) (fun _ => rfl) (ok_Model_isMonk hv) ?_
    by_cases c5 : v4 = 0
    · rw [if_pos c5] at h
      refine w_if_ne_f (q := 21) d_Model_copy_18 27 rfl rfl c5 ?_
      refine w_aload_n (q := 22) d_Model_copy_21 rfl rfl ?_
      refine w_iconst (q := 23) (v := 1) d_Model_copy_22 rfl (by decide) ?_
      obtain ⟨v6, hv, h⟩ := bnd h
      refine w_callVi (q := 26) (M' := M_Model_fail) (n' := 0) (k := 54) (As := [.int 1]) (sh' := SH) (b1 := (0, 0)) d_Model_copy_23 rfl mw_Model_fail (by decide) (by decide) ml_Model_273 (by decide) s_54 (by decide) rfl rfl rfl (leb rfl) (bz _) (fun _ => rfl) (ok_Model_fail hv) ?_
      cases h
      exact w_ireturn d_Model_copy_26 rfl rfl ⟨rfl, rfl, rfl, rfl⟩
    · rw [if_neg c5] at h
      refine w_if_ne_t (q := 27) d_Model_copy_18 rfl c5 ?_
      refine w_aload_n (q := 28) d_Model_copy_27 rfl rfl ?_
      refine w_get (q := 31) (ci := 12) (j := 26) d_Model_copy_28 rfl (by decide) fl_Model_121 (by decide) (by decide) s_54 rfl rfl ?_
      refine w_bipush (q := 33) (v := 24) d_Model_copy_31 rfl (by decide) ?_
      by_cases c7 : ((mset g 54 3 0) 54 26) = 24
      · rw [if_pos c7] at h
        refine w_icmp_eq_t (q := 73) d_Model_copy_33 rfl c7 ?_
        refine w_aload_n (q := 74) d_Model_copy_73 rfl rfl ?_
        refine w_iconst (q := 75) (v := 1) d_Model_copy_74 rfl (by decide) ?_
        obtain ⟨v8, hv, h⟩ := bnd h
        refine w_callVi (q := 78) (M' := M_Model_refuse) (n' := 0) (k := 54) (As := [.int 1]) (sh' := SH) (b1 := (0, 0)) d_Model_copy_75 rfl mw_Model_refuse (by decide) (by decide) ml_Model_365 (by decide) s_54 (by decide) rfl rfl rfl (leb rfl) (bz _) (fun _ => rfl) (ok_Model_refuse hv) ?_
        cases h
        exact w_ireturn d_Model_copy_78 rfl rfl ⟨rfl, rfl, rfl, rfl⟩
      · rw [if_neg c7] at h
        refine w_icmp_eq_f (q := 36) d_Model_copy_33 73 rfl rfl c7 ?_
        refine w_aload_n (q := 37) d_Model_copy_36 rfl rfl ?_
        refine w_iload_n (q := 38) d_Model_copy_37 rfl rfl ?_
        obtain ⟨v9, hv, h⟩ := bnd h
        refine w_callVi (q := 41) (M' := M_Model_isThere) (n' := 1) (k := 54) (As := [.int p0]) (sh' := SH) (b1 := (0, 0)) d_Model_copy_38 rfl mw_Model_isThere (by decide) (by decide) ml_Model_315 (by decide) s_54 (by decide) rfl rfl rfl (leb rfl) (bz _) (fun _ => rfl) (ok_Model_isThere hv) ?_
        by_cases c10 : v9 = 0
        · rw [if_pos c10] at h
          refine w_if_eq_t (q := 73) d_Model_copy_41 rfl c10 ?_
          refine w_aload_n (q := 74) d_Model_copy_73 rfl rfl ?_
          refine w_iconst (q := 75) (v := 1) d_Model_copy_74 rfl (by decide) ?_
          obtain ⟨v11, hv, h⟩ := bnd h
          refine w_callVi (q := 78) (M' := M_Model_refuse) (n' := 0) (k := 54) (As := [.int 1]) (sh' := SH) (b1 := (0, 0)) d_Model_copy_75 rfl mw_Model_refuse (by decide) (by decide) ml_Model_365 (by decide) s_54 (by decide) rfl rfl rfl (leb rfl) (bz _) (fun _ => rfl) (ok_Model_refuse hv) ?_
          cases h
          exact w_ireturn d_Model_copy_78 rfl rfl ⟨rfl, rfl, rfl, rfl⟩
        · rw [if_neg c10] at h
          refine w_if_eq_f (q := 44) d_Model_copy_41 73 rfl rfl c10 ?_
          refine w_aload_n (q := 45) d_Model_copy_44 rfl rfl ?_
          refine w_get (q := 48) (ci := 12) (j := 25) d_Model_copy_45 rfl (by decide) fl_Model_289 (by decide) (by decide) s_54 rfl rfl ?_
          refine w_iload_n (q := 49) d_Model_copy_48 rfl rfl ?_
          obtain ⟨v12, hv, h⟩ := bnd h
          refine w_callSi (q := 52) (M' := M_Model_isOf) (n' := 0) (As := [.int ((mset g 54 3 0) 54 25), .int p1]) (sh' := SH) (b1 := (0, 0)) d_Model_copy_49 rfl mw_Model_isOf (by decide) (by decide) ml_Model_308 rfl rfl (leb rfl) (bz _) (fun _ => rfl) (ok_Model_isOf hv) ?_
          by_cases c13 : v12 = 0
          · rw [if_pos c13] at h
            refine w_if_ne_f (q := 55) d_Model_copy_52 73 rfl rfl c13 ?_
            refine w_aload_n (q := 56) d_Model_copy_55 rfl rfl ?_
            refine w_aload_n (q := 57) d_Model_copy_56 rfl rfl ?_
            refine w_iload_n (q := 58) d_Model_copy_57 rfl rfl ?_
            refine w_bipush (q := 60) (v := 7) d_Model_copy_58 rfl (by decide) ?_
            obtain ⟨v14, hv, h⟩ := bnd h
            refine w_callVi (q := 63) (M' := M_Model_of) (n' := 0) (k := 54) (As := [.int p0, .int 7]) (sh' := SH) (b1 := (0, 0)) d_Model_copy_60 rfl mw_Model_of (by decide) (by decide) ml_Model_305 (by decide) s_54 (by decide) rfl rfl rfl (leb rfl) (bz _) (fun _ => rfl) (ok_Model_of hv) ?_
            obtain ⟨v15, hv, h⟩ := bnd h
            refine w_callVi (q := 66) (M' := M_Model_holdersOf) (n' := 2) (k := 54) (As := [.int v14]) (sh' := SH) (b1 := (0, 0)) d_Model_copy_63 rfl mw_Model_holdersOf (by decide) (by decide) ml_Model_346 (by decide) s_54 (by decide) rfl rfl rfl (leb rfl) (bz _) (fun _ => rfl) (ok_Model_holdersOf hv) ?_
            refine w_iload_n (q := 67) d_Model_copy_66 rfl rfl ?_
            obtain ⟨v16, hv, h⟩ := bnd h
            refine w_callSi (q := 70) (M' := M_Model_isOf) (n' := 0) (As := [.int v15, .int p1]) (sh' := SH) (b1 := (0, 0)) d_Model_copy_67 rfl mw_Model_isOf (by decide) (by decide) ml_Model_308 rfl rfl (leb rfl) (bz _) (fun _ => rfl) (ok_Model_isOf hv) ?_
            by_cases c17 : v16 = 0
            · rw [if_pos c17] at h
              refine w_if_eq_t (q := 79) d_Model_copy_70 rfl c17 ?_
              refine w_aload_n (q := 80) d_Model_copy_79 rfl rfl ?_
              obtain ⟨v18, hv, h⟩ := bnd h
              refine w_callVv (q := 83) (M' := M_Model_keep) (n' := 1) (k := 54) (As := []) (sh' := SH) (b1 := (0, 0)) d_Model_copy_80 rfl mw_Model_keep (by decide) (by decide) ml_Model_368 (by decide) s_54 (by decide) rfl rfl rfl (leb rfl) (bz _) (fun _ => rfl) (ok_Model_keep hv) ?_
              refine w_aload_n (q := 84) d_Model_copy_83 rfl rfl ?_
              refine w_aload_n (q := 85) d_Model_copy_84 rfl rfl ?_
              refine w_iload_n (q := 86) d_Model_copy_85 rfl rfl ?_
              refine w_iconst (q := 87) (v := 0) d_Model_copy_86 rfl (by decide) ?_
              obtain ⟨v19, hv, h⟩ := bnd h
              refine w_callVi (q := 90) (M' := M_Model_of) (n' := 0) (k := 54) (As := [.int p0, .int 0]) (sh' := SH) (b1 := (0, 0)) d_Model_copy_87 rfl mw_Model_of (by decide) (by decide) ml_Model_305 (by decide) s_54 (by decide) rfl rfl rfl (leb rfl) (bz _) (fun _ => rfl) (ok_Model_of hv) ?_
              refine w_iload_n (q := 91) d_Model_copy_90 rfl rfl ?_
              refine w_aload_n (q := 92) d_Model_copy_91 rfl rfl ?_
              refine w_iload_n (q := 93) d_Model_copy_92 rfl rfl ?_
              refine w_iconst (q := 94) (v := 3) d_Model_copy_93 rfl (by decide) ?_
              obtain ⟨v20, hv, h⟩ := bnd h
              refine w_callVi (q := 97) (M' := M_Model_of) (n' := 0) (k := 54) (As := [.int p0, .int 3]) (sh' := SH) (b1 := (0, 0)) d_Model_copy_94 rfl mw_Model_of (by decide) (by decide) ml_Model_305 (by decide) s_54 (by decide) rfl rfl rfl (leb rfl) (bz _) (fun _ => rfl) (ok_Model_of hv) ?_
              refine w_aload_n (q := 98) d_Model_copy_97 rfl rfl ?_
              refine w_iload_n (q := 99) d_Model_copy_98 rfl rfl ?_
              refine w_iconst (q := 100) (v := 4) d_Model_copy_99 rfl (by decide) ?_
              obtain ⟨v21, hv, h⟩ := bnd h
              refine w_callVi (q := 103) (M' := M_Model_of) (n' := 0) (k := 54) (As := [.int p0, .int 4]) (sh' := SH) (b1 := (0, 0)) d_Model_copy_100 rfl mw_Model_of (by decide) (by decide) ml_Model_305 (by decide) s_54 (by decide) rfl rfl rfl (leb rfl) (bz _) (fun _ => rfl) (ok_Model_of hv) ?_
              refine w_aload_n (q := 104) d_Model_copy_103 rfl rfl ?_
              refine w_iload_n (q := 105) d_Model_copy_104 rfl rfl ?_
              refine w_iconst (q := 106) (v := 5) d_Model_copy_105 rfl (by decide) ?_
              obtain ⟨v22, hv, h⟩ := bnd h
              refine w_callVi (q := 109) (M' := M_Model_of) (n' := 0) (k := 54) (As := [.int p0, .int 5]) (sh' := SH) (b1 := (0, 0)) d_Model_copy_106 rfl mw_Model_of (by decide) (by decide) ml_Model_305 (by decide) s_54 (by decide) rfl rfl rfl (leb rfl) (bz _) (fun _ => rfl) (ok_Model_of hv) ?_
              refine w_aload_n (q := 110) d_Model_copy_109 rfl rfl ?_
              refine w_iload_n (q := 111) d_Model_copy_110 rfl rfl ?_
              refine w_bipush (q := 113) (v := 7) d_Model_copy_111 rfl (by decide) ?_
              obtain ⟨v23, hv, h⟩ := bnd h
              refine w_callVi (q := 116) (M' := M_Model_of) (n' := 0) (k := 54) (As := [.int p0, .int 7]) (sh' := SH) (b1 := (0, 0)) d_Model_copy_113 rfl mw_Model_of (by decide) (by decide) ml_Model_305 (by decide) s_54 (by decide) rfl rfl rfl (leb rfl) (bz _) (fun _ => rfl) (ok_Model_of hv) ?_
              obtain ⟨v24, hv, h⟩ := bnd h
              refine w_callVi (q := 119) (M' := M_Model_putEntry) (n' := 0) (k := 54) (As := [.int v19, .int p1, .int v20, .int v21, .int v22, .int v23]) (sh' := SH) (b1 := (0, 0)) d_Model_copy_116 rfl mw_Model_putEntry (by decide) (by decide) ml_Model_381 (by decide) s_54 (by decide) rfl rfl rfl (leb rfl) (bz _) (fun _ => rfl) (ok_Model_putEntry hv) ?_
              cases h
              exact w_ireturn d_Model_copy_119 rfl rfl ⟨rfl, rfl, rfl, rfl⟩
            · rw [if_neg c17] at h
              refine w_if_eq_f (q := 73) d_Model_copy_70 79 rfl rfl c17 ?_
              refine w_aload_n (q := 74) d_Model_copy_73 rfl rfl ?_
              refine w_iconst (q := 75) (v := 1) d_Model_copy_74 rfl (by decide) ?_
              obtain ⟨v25, hv, h⟩ := bnd h
              refine w_callVi (q := 78) (M' := M_Model_refuse) (n' := 0) (k := 54) (As := [.int 1]) (sh' := SH) (b1 := (0, 0)) d_Model_copy_75 rfl mw_Model_refuse (by decide) (by decide) ml_Model_365 (by decide) s_54 (by decide) rfl rfl rfl (leb rfl) (bz _) (fun _ => rfl) (ok_Model_refuse hv) ?_
              cases h
              exact w_ireturn d_Model_copy_78 rfl rfl ⟨rfl, rfl, rfl, rfl⟩
          · rw [if_neg c13] at h
            refine w_if_ne_t (q := 73) d_Model_copy_52 rfl c13 ?_
            refine w_aload_n (q := 74) d_Model_copy_73 rfl rfl ?_
            refine w_iconst (q := 75) (v := 1) d_Model_copy_74 rfl (by decide) ?_
            obtain ⟨v26, hv, h⟩ := bnd h
            refine w_callVi (q := 78) (M' := M_Model_refuse) (n' := 0) (k := 54) (As := [.int 1]) (sh' := SH) (b1 := (0, 0)) d_Model_copy_75 rfl mw_Model_refuse (by decide) (by decide) ml_Model_365 (by decide) s_54 (by decide) rfl rfl rfl (leb rfl) (bz _) (fun _ => rfl) (ok_Model_refuse hv) ?_
            cases h
            exact w_ireturn d_Model_copy_78 rfl rfl ⟨rfl, rfl, rfl, rfl⟩
def sp_Model_isLoose_j50 (p0 : Int32) (g : Mem) (m0 : Mem) : Option (Int32 × Mem) := (rd m0 64 3 1).bind fun v7 => (wr m0 64 3 1 (v7 + 1)).bind fun g8 => some (0, g8)
theorem ok_Model_isLoose_j50 {γ : GG} {tt : Bool} {p0 : Int32} {g : Mem} {m0 : Mem} {res : Int32 × Mem} (h : sp_Model_isLoose_j50 p0 g m0  = some res) : WA γ M_Model_isLoose 2 50 [some (.ref 54), none] [] SH m0 tt (0, 0) (pI SH res.1 res.2 tt) := by
  unfold sp_Model_isLoose_j50 at h
  refine w_aload_n (q := 51) d_Model_isLoose_50 rfl rfl ?_
  refine w_get (q := 54) (ci := 12) (j := 10) d_Model_isLoose_51 rfl (by decide) fl_Model_68 (by decide) (by decide) s_54 rfl rfl ?_
  refine w_iconst (q := 55) (v := 1) d_Model_isLoose_54 rfl (by decide) ?_
  refine w_dup2 (q := 56) d_Model_isLoose_55 rfl rfl rfl ?_
  obtain ⟨v7, hv, h⟩ := bnd h
  obtain ⟨hi, hv⟩ := rd_ok hv
  refine w_iald (q := 57) (t := 0) d_Model_isLoose_56 rfl a_64.2 a_64.1 hi rfl ?_
  rw [hv]
  refine w_iconst (q := 58) (v := 1) d_Model_isLoose_57 rfl (by decide) ?_
  refine w_iadd (q := 59) d_Model_isLoose_58 rfl ?_
  obtain ⟨g8, hv, h⟩ := bnd h
  obtain ⟨hi, hv⟩ := wr_ok hv
  refine w_iast (q := 60) d_Model_isLoose_59 rfl a_64.2 a_64.1 hi hv ?_
  refine w_iconst (q := 61) (v := 0) d_Model_isLoose_60 rfl (by decide) ?_
  cases h
  exact w_ireturn d_Model_isLoose_61 rfl rfl ⟨rfl, rfl, rfl, rfl⟩
def sp_Model_isLoose (p0 : Int32) (g : Mem) : Option (Int32 × Mem) := (sp_Model_isEntry p0 g).bind fun v1 => if v1 = 0 then (sp_Model_failing 1 g).bind fun v3 => (bl v3.1).bind fun v4 => some (v4, v3.2) else (sp_Model_isThere p0 g).bind fun v5 => if v5 = 0 then sp_Model_isLoose_j50 p0 g g else (sp_Model_of p0 6 g).bind fun v9 => if v9 = 0 then (sp_Model_of p0 1 g).bind fun v11 => (sp_Model_isOf (g 54 25) v11 g).bind fun v12 => if v12 = 0 then some (1, g) else sp_Model_isLoose_j50 p0 g g else sp_Model_isLoose_j50 p0 g g
theorem ok_Model_isLoose {γ : GG} {tt : Bool} {p0 : Int32} {g : Mem} {res : Int32 × Mem} (h : sp_Model_isLoose p0 g = some res) : CA γ M_Model_isLoose 2 [.ref 54, .int p0] SH g tt (0, 0) (pI SH res.1 res.2 tt) := by
  refine CA.of mw_Model_isLoose.1 0 rfl ?_
  show WA γ M_Model_isLoose 2 0 [some (.ref 54), some (.int p0)] [] SH g tt (0, 0) (pI SH res.1 res.2 tt)
  unfold sp_Model_isLoose at h
  refine w_aload_n (q := 1) d_Model_isLoose_0 rfl rfl ?_
  refine w_iload_n (q := 2) d_Model_isLoose_1 rfl rfl ?_
  obtain ⟨v1, hv, h⟩ := bnd h
  refine w_callVi (q := 5) (M' := M_Model_isEntry) (n' := 1) (k := 54) (As := [.int p0]) (sh' := SH) (b1 := (0, 0)) d_Model_isLoose_2 rfl mw_Model_isEntry (by decide) (by decide) ml_Model_341 (by decide) s_54 (by decide) rfl rfl rfl (leb rfl) (bz _) (fun _ => rfl) (ok_Model_isEntry hv) ?_
  by_cases c2 : v1 = 0
  · rw [if_pos c2] at h
    refine w_if_ne_f (q := 8) d_Model_isLoose_5 14 rfl rfl c2 ?_
    refine w_aload_n (q := 9) d_Model_isLoose_8 rfl rfl ?_
    refine w_iconst (q := 10) (v := 1) d_Model_isLoose_9 rfl (by decide) ?_
    obtain ⟨v3, hv, h⟩ := bnd h
    refine w_callVi (q := 13) (M' := M_Model_failing) (n' := 0) (k := 54) (As := [.int 1]) (sh' := SH) (b1 := (0, 0)) d_Model_isLoose_10 rfl mw_Model_failing (by decide) (by decide) ml_Model_353 (by decide) s_54 (by decide) rfl rfl rfl (leb rfl) (bz _) (fun _ => rfl) (ok_Model_failing hv) ?_
    obtain ⟨v4, hv, h⟩ := bnd h
    obtain ⟨hv, hn⟩ := bl_ok hv
    rw [hv] at h
    cases h
    exact w_ireturn d_Model_isLoose_13 rfl hn ⟨rfl, rfl, rfl, rfl⟩
  · rw [if_neg c2] at h
    refine w_if_ne_t (q := 14) d_Model_isLoose_5 rfl c2 ?_
    refine w_aload_n (q := 15) d_Model_isLoose_14 rfl rfl ?_
    refine w_iload_n (q := 16) d_Model_isLoose_15 rfl rfl ?_
    obtain ⟨v5, hv, h⟩ := bnd h
    refine w_callVi (q := 19) (M' := M_Model_isThere) (n' := 1) (k := 54) (As := [.int p0]) (sh' := SH) (b1 := (0, 0)) d_Model_isLoose_16 rfl mw_Model_isThere (by decide) (by decide) ml_Model_315 (by decide) s_54 (by decide) rfl rfl rfl (leb rfl) (bz _) (fun _ => rfl) (ok_Model_isThere hv) ?_
    by_cases c6 : v5 = 0
    · rw [if_pos c6] at h
      refine w_if_eq_t (q := 50) d_Model_isLoose_19 rfl c6 ?_
      refine w_ls (ls' := [some (.ref 54), none]) (And.intro rfl trivial) ?_
      exact ok_Model_isLoose_j50 h
    · rw [if_neg c6] at h
      refine w_if_eq_f (q := 22) d_Model_isLoose_19 50 rfl rfl c6 ?_
      refine w_aload_n (q := 23) d_Model_isLoose_22 rfl rfl ?_
      refine w_iload_n (q := 24) d_Model_isLoose_23 rfl rfl ?_
      refine w_bipush (q := 26) (v := 6) d_Model_isLoose_24 rfl (by decide) ?_
      obtain ⟨v9, hv, h⟩ := bnd h
      refine w_callVi (q := 29) (M' := M_Model_of) (n' := 0) (k := 54) (As := [.int p0, .int 6]) (sh' := SH) (b1 := (0, 0)) d_Model_isLoose_26 rfl mw_Model_of (by decide) (by decide) ml_Model_305 (by decide) s_54 (by decide) rfl rfl rfl (leb rfl) (bz _) (fun _ => rfl) (ok_Model_of hv) ?_
      by_cases c10 : v9 = 0
      · rw [if_pos c10] at h
        refine w_if_ne_f (q := 32) d_Model_isLoose_29 50 rfl rfl c10 ?_
        refine w_aload_n (q := 33) d_Model_isLoose_32 rfl rfl ?_
        refine w_get (q := 36) (ci := 12) (j := 25) d_Model_isLoose_33 rfl (by decide) fl_Model_289 (by decide) (by decide) s_54 rfl rfl ?_
        refine w_aload_n (q := 37) d_Model_isLoose_36 rfl rfl ?_
        refine w_iload_n (q := 38) d_Model_isLoose_37 rfl rfl ?_
        refine w_iconst (q := 39) (v := 1) d_Model_isLoose_38 rfl (by decide) ?_
        obtain ⟨v11, hv, h⟩ := bnd h
        refine w_callVi (q := 42) (M' := M_Model_of) (n' := 0) (k := 54) (As := [.int p0, .int 1]) (sh' := SH) (b1 := (0, 0)) d_Model_isLoose_39 rfl mw_Model_of (by decide) (by decide) ml_Model_305 (by decide) s_54 (by decide) rfl rfl rfl (leb rfl) (bz _) (fun _ => rfl) (ok_Model_of hv) ?_
        obtain ⟨v12, hv, h⟩ := bnd h
        refine w_callSi (q := 45) (M' := M_Model_isOf) (n' := 0) (As := [.int (g 54 25), .int v11]) (sh' := SH) (b1 := (0, 0)) d_Model_isLoose_42 rfl mw_Model_isOf (by decide) (by decide) ml_Model_308 rfl rfl (leb rfl) (bz _) (fun _ => rfl) (ok_Model_isOf hv) ?_
        by_cases c13 : v12 = 0
        · rw [if_pos c13] at h
          refine w_if_ne_f (q := 48) d_Model_isLoose_45 50 rfl rfl c13 ?_
          refine w_iconst (q := 49) (v := 1) d_Model_isLoose_48 rfl (by decide) ?_
          cases h
          exact w_ireturn d_Model_isLoose_49 rfl rfl ⟨rfl, rfl, rfl, rfl⟩
        · rw [if_neg c13] at h
          refine w_if_ne_t (q := 50) d_Model_isLoose_45 rfl c13 ?_
          refine w_ls (ls' := [some (.ref 54), none]) (And.intro rfl trivial) ?_
          exact ok_Model_isLoose_j50 h
      · rw [if_neg c10] at h
        refine w_if_ne_t (q := 50) d_Model_isLoose_29 rfl c10 ?_
        refine w_ls (ls' := [some (.ref 54), none]) (And.intro rfl trivial) ?_
        exact ok_Model_isLoose_j50 h
def sp_Model_knot (F : Nat) (p0 : Int32) (g : Mem) : Option (Int32 × Mem) := (sp_Model_isLoose p0 (mset g 54 3 0)).bind fun v1 => if v1.1 = 0 then some (0, v1.2) else (sp_Model_keep F v1.2).bind fun v3 => (wr v3 62 432 ((9 * p0) + 6) 1).bind fun g4 => some (1, g4)
theorem ok_Model_knot {γ : GG} {tt : Bool} {F : Nat} {p0 : Int32} {g : Mem} {res : Int32 × Mem} (h : sp_Model_knot F p0 g = some res) : CA γ M_Model_knot 3 [.ref 54, .int p0] SH g tt (0, 0) (pI SH res.1 res.2 tt) := by
  refine CA.of mw_Model_knot.1 0 rfl ?_
  show WA γ M_Model_knot 3 0 [some (.ref 54), some (.int p0)] [] SH g tt (0, 0) (pI SH res.1 res.2 tt)
  unfold sp_Model_knot at h
  refine w_aload_n (q := 1) d_Model_knot_0 rfl rfl ?_
  refine w_iconst (q := 2) (v := 0) d_Model_knot_1 rfl (by decide) ?_
  refine w_put (q := 5) (ci := 12) (j := 3) d_Model_knot_2 rfl (by decide) fl_Model_114 (by decide) (by decide) s_54 rfl rfl rfl rfl rfl rfl ?_
  refine w_aload_n (q := 6) d_Model_knot_5 rfl rfl ?_
  refine w_iload_n (q := 7) d_Model_knot_6 rfl rfl ?_
  obtain ⟨v1, hv, h⟩ := bnd h
  refine w_callVi (q := 10) (M' := M_Model_isLoose) (n' := 2) (k := 54) (As := [.int p0]) (sh' := SH) (b1 := (0, 0)) d_Model_knot_7 rfl mw_Model_isLoose (by decide) (by decide) ml_Model_385 (by decide) s_54 (by decide) rfl rfl rfl (leb rfl) (bz _) (fun _ => rfl) (ok_Model_isLoose hv) ?_
  by_cases c2 : v1.1 = 0
  · rw [if_pos c2] at h
    refine w_if_ne_f (q := 13) d_Model_knot_10 15 rfl rfl c2 ?_
    refine w_iconst (q := 14) (v := 0) d_Model_knot_13 rfl (by decide) ?_
    cases h
    exact w_ireturn d_Model_knot_14 rfl rfl ⟨rfl, rfl, rfl, rfl⟩
  · rw [if_neg c2] at h
    refine w_if_ne_t (q := 15) d_Model_knot_10 rfl c2 ?_
    refine w_aload_n (q := 16) d_Model_knot_15 rfl rfl ?_
    obtain ⟨v3, hv, h⟩ := bnd h
    refine w_callVv (q := 19) (M' := M_Model_keep) (n' := 1) (k := 54) (As := []) (sh' := SH) (b1 := (0, 0)) d_Model_knot_16 rfl mw_Model_keep (by decide) (by decide) ml_Model_368 (by decide) s_54 (by decide) rfl rfl rfl (leb rfl) (bz _) (fun _ => rfl) (ok_Model_keep hv) ?_
    refine w_aload_n (q := 20) d_Model_knot_19 rfl rfl ?_
    refine w_get (q := 23) (ci := 12) (j := 8) d_Model_knot_20 rfl (by decide) fl_Model_62 (by decide) (by decide) s_54 rfl rfl ?_
    refine w_bipush (q := 25) (v := 9) d_Model_knot_23 rfl (by decide) ?_
    refine w_iload_n (q := 26) d_Model_knot_25 rfl rfl ?_
    refine w_imul (q := 27) d_Model_knot_26 rfl ?_
    refine w_bipush (q := 29) (v := 6) d_Model_knot_27 rfl (by decide) ?_
    refine w_iadd (q := 30) d_Model_knot_29 rfl ?_
    refine w_iconst (q := 31) (v := 1) d_Model_knot_30 rfl (by decide) ?_
    obtain ⟨g4, hv, h⟩ := bnd h
    obtain ⟨hi, hv⟩ := wr_ok hv
    refine w_iast (q := 32) d_Model_knot_31 rfl a_62.2 a_62.1 hi hv ?_
    refine w_iconst (q := 33) (v := 1) d_Model_knot_32 rfl (by decide) ?_
    cases h
    exact w_ireturn d_Model_knot_33 rfl rfl ⟨rfl, rfl, rfl, rfl⟩
def sp_Model_comb (F : Nat) (p0 : Int32) (g : Mem) : Option (Int32 × Mem) := (sp_Model_isLoose p0 (mset g 54 3 0)).bind fun v1 => if v1.1 = 0 then some (0, v1.2) else (sp_Model_keep F v1.2).bind fun v3 => (sp_Model_lose p0 v3).bind fun v4 => some (1, v4)
theorem ok_Model_comb {γ : GG} {tt : Bool} {F : Nat} {p0 : Int32} {g : Mem} {res : Int32 × Mem} (h : sp_Model_comb F p0 g = some res) : CA γ M_Model_comb 3 [.ref 54, .int p0] SH g tt (0, 0) (pI SH res.1 res.2 tt) := by
  refine CA.of mw_Model_comb.1 0 rfl ?_
  show WA γ M_Model_comb 3 0 [some (.ref 54), some (.int p0)] [] SH g tt (0, 0) (pI SH res.1 res.2 tt)
  unfold sp_Model_comb at h
  refine w_aload_n (q := 1) d_Model_comb_0 rfl rfl ?_
  refine w_iconst (q := 2) (v := 0) d_Model_comb_1 rfl (by decide) ?_
  refine w_put (q := 5) (ci := 12) (j := 3) d_Model_comb_2 rfl (by decide) fl_Model_114 (by decide) (by decide) s_54 rfl rfl rfl rfl rfl rfl ?_
  refine w_aload_n (q := 6) d_Model_comb_5 rfl rfl ?_
  refine w_iload_n (q := 7) d_Model_comb_6 rfl rfl ?_
  obtain ⟨v1, hv, h⟩ := bnd h
  refine w_callVi (q := 10) (M' := M_Model_isLoose) (n' := 2) (k := 54) (As := [.int p0]) (sh' := SH) (b1 := (0, 0)) d_Model_comb_7 rfl mw_Model_isLoose (by decide) (by decide) ml_Model_385 (by decide) s_54 (by decide) rfl rfl rfl (leb rfl) (bz _) (fun _ => rfl) (ok_Model_isLoose hv) ?_
  by_cases c2 : v1.1 = 0
  · rw [if_pos c2] at h
    refine w_if_ne_f (q := 13) d_Model_comb_10 15 rfl rfl c2 ?_
    refine w_iconst (q := 14) (v := 0) d_Model_comb_13 rfl (by decide) ?_
    cases h
    exact w_ireturn d_Model_comb_14 rfl rfl ⟨rfl, rfl, rfl, rfl⟩
  · rw [if_neg c2] at h
    refine w_if_ne_t (q := 15) d_Model_comb_10 rfl c2 ?_
    refine w_aload_n (q := 16) d_Model_comb_15 rfl rfl ?_
    obtain ⟨v3, hv, h⟩ := bnd h
    refine w_callVv (q := 19) (M' := M_Model_keep) (n' := 1) (k := 54) (As := []) (sh' := SH) (b1 := (0, 0)) d_Model_comb_16 rfl mw_Model_keep (by decide) (by decide) ml_Model_368 (by decide) s_54 (by decide) rfl rfl rfl (leb rfl) (bz _) (fun _ => rfl) (ok_Model_keep hv) ?_
    refine w_aload_n (q := 20) d_Model_comb_19 rfl rfl ?_
    refine w_iload_n (q := 21) d_Model_comb_20 rfl rfl ?_
    obtain ⟨v4, hv, h⟩ := bnd h
    refine w_callVv (q := 24) (M' := M_Model_lose) (n' := 0) (k := 54) (As := [.int p0]) (sh' := SH) (b1 := (0, 0)) d_Model_comb_21 rfl mw_Model_lose (by decide) (by decide) ml_Model_320 (by decide) s_54 (by decide) rfl rfl rfl (leb rfl) (bz _) (fun _ => rfl) (ok_Model_lose hv) ?_
    refine w_iconst (q := 25) (v := 1) d_Model_comb_24 rfl (by decide) ?_
    cases h
    exact w_ireturn d_Model_comb_25 rfl rfl ⟨rfl, rfl, rfl, rfl⟩
def sp_Model_shave (F : Nat) (p0 : Int32) (p1 : Int32) (g : Mem) : Option (Int32 × Mem) := (sp_Model_isMonk p0 (mset g 54 3 0)).bind fun v1 => if v1 = 0 then (sp_Model_fail 1 (mset g 54 3 0)).bind fun v3 => some (v3.1, v3.2) else if p1 < 0 then (sp_Model_refuse 1 (mset g 54 3 0)).bind fun v5 => some (v5.1, v5.2) else (rd (mset g 54 3 0) 61 12 p0).bind fun v6 => if p1 < v6 then (sp_Model_keep F (mset g 54 3 0)).bind fun v8 => (wr v8 61 12 p0 p1).bind fun g9 => (sp_Model_loseFar F g9).bind fun v10 => some (v10.1, v10.2) else (sp_Model_refuse 1 (mset g 54 3 0)).bind fun v11 => some (v11.1, v11.2)
theorem ok_Model_shave {γ : GG} {tt : Bool} {F : Nat} {p0 : Int32} {p1 : Int32} {g : Mem} {res : Int32 × Mem} (h : sp_Model_shave F p0 p1 g = some res) : CA γ M_Model_shave 4 [.ref 54, .int p0, .int p1] SH g tt (0, 0) (pI SH res.1 res.2 tt) := by
  refine CA.of mw_Model_shave.1 0 rfl ?_
  show WA γ M_Model_shave 4 0 [some (.ref 54), some (.int p0), some (.int p1)] [] SH g tt (0, 0) (pI SH res.1 res.2 tt)
  unfold sp_Model_shave at h
  refine w_aload_n (q := 1) d_Model_shave_0 rfl rfl ?_
  refine w_iconst (q := 2) (v := 0) d_Model_shave_1 rfl (by decide) ?_
  refine w_put (q := 5) (ci := 12) (j := 3) d_Model_shave_2 rfl (by decide) fl_Model_114 (by decide) (by decide) s_54 rfl rfl rfl rfl rfl rfl ?_
  refine w_aload_n (q := 6) d_Model_shave_5 rfl rfl ?_
  refine w_iload_n (q := 7) d_Model_shave_6 rfl rfl ?_
  obtain ⟨v1, hv, h⟩ := bnd h
  refine w_callVi (q := 10) (M' := M_Model_isMonk) (n' := 1) (k := 54) (As := [.int p0]) (sh' := SH) (b1 := (0, 0)) d_Model_shave_7 rfl mw_Model_isMonk (by decide) (by decide) ml_Model_335 (by decide) s_54 (by decide) rfl rfl rfl (leb rfl) (bz _) (fun _ => rfl) (ok_Model_isMonk hv) ?_
  by_cases c2 : v1 = 0
  · rw [if_pos c2] at h
    refine w_if_ne_f (q := 13) d_Model_shave_10 19 rfl rfl c2 ?_
    refine w_aload_n (q := 14) d_Model_shave_13 rfl rfl ?_
    refine w_iconst (q := 15) (v := 1) d_Model_shave_14 rfl (by decide) ?_
    obtain ⟨v3, hv, h⟩ := bnd h
    refine w_callVi (q := 18) (M' := M_Model_fail) (n' := 0) (k := 54) (As := [.int 1]) (sh' := SH) (b1 := (0, 0)) d_Model_shave_15 rfl mw_Model_fail (by decide) (by decide) ml_Model_273 (by decide) s_54 (by decide) rfl rfl rfl (leb rfl) (bz _) (fun _ => rfl) (ok_Model_fail hv) ?_
    cases h
    exact w_ireturn d_Model_shave_18 rfl rfl ⟨rfl, rfl, rfl, rfl⟩
  · rw [if_neg c2] at h
    refine w_if_ne_t (q := 19) d_Model_shave_10 rfl c2 ?_
    refine w_iload_n (q := 20) d_Model_shave_19 rfl rfl ?_
    by_cases c4 : p1 < 0
    · rw [if_pos c4] at h
      refine w_if_lt_t (q := 33) d_Model_shave_20 rfl c4 ?_
      refine w_aload_n (q := 34) d_Model_shave_33 rfl rfl ?_
      refine w_iconst (q := 35) (v := 1) d_Model_shave_34 rfl (by decide) ?_
      obtain ⟨v5, hv, h⟩ := bnd h
      refine w_callVi (q := 38) (M' := M_Model_refuse) (n' := 0) (k := 54) (As := [.int 1]) (sh' := SH) (b1 := (0, 0)) d_Model_shave_35 rfl mw_Model_refuse (by decide) (by decide) ml_Model_365 (by decide) s_54 (by decide) rfl rfl rfl (leb rfl) (bz _) (fun _ => rfl) (ok_Model_refuse hv) ?_
      cases h
      exact w_ireturn d_Model_shave_38 rfl rfl ⟨rfl, rfl, rfl, rfl⟩
    · rw [if_neg c4] at h
      refine w_if_lt_f (q := 23) d_Model_shave_20 33 rfl rfl c4 ?_
      refine w_iload_n (q := 24) d_Model_shave_23 rfl rfl ?_
      refine w_aload_n (q := 25) d_Model_shave_24 rfl rfl ?_
      refine w_get (q := 28) (ci := 12) (j := 7) d_Model_shave_25 rfl (by decide) fl_Model_59 (by decide) (by decide) s_54 rfl rfl ?_
      refine w_iload_n (q := 29) d_Model_shave_28 rfl rfl ?_
      obtain ⟨v6, hv, h⟩ := bnd h
      obtain ⟨hi, hv⟩ := rd_ok hv
      refine w_iald (q := 30) (t := 0) d_Model_shave_29 rfl a_61.2 a_61.1 hi rfl ?_
      rw [hv]
      by_cases c7 : p1 < v6
      · rw [if_pos c7] at h
        refine w_icmp_lt_t (q := 39) d_Model_shave_30 rfl c7 ?_
        refine w_aload_n (q := 40) d_Model_shave_39 rfl rfl ?_
        obtain ⟨v8, hv, h⟩ := bnd h
        refine w_callVv (q := 43) (M' := M_Model_keep) (n' := 1) (k := 54) (As := []) (sh' := SH) (b1 := (0, 0)) d_Model_shave_40 rfl mw_Model_keep (by decide) (by decide) ml_Model_368 (by decide) s_54 (by decide) rfl rfl rfl (leb rfl) (bz _) (fun _ => rfl) (ok_Model_keep hv) ?_
        refine w_aload_n (q := 44) d_Model_shave_43 rfl rfl ?_
        refine w_get (q := 47) (ci := 12) (j := 7) d_Model_shave_44 rfl (by decide) fl_Model_59 (by decide) (by decide) s_54 rfl rfl ?_
        refine w_iload_n (q := 48) d_Model_shave_47 rfl rfl ?_
        refine w_iload_n (q := 49) d_Model_shave_48 rfl rfl ?_
        obtain ⟨g9, hv, h⟩ := bnd h
        obtain ⟨hi, hv⟩ := wr_ok hv
        refine w_iast (q := 50) d_Model_shave_49 rfl a_61.2 a_61.1 hi hv ?_
        refine w_aload_n (q := 51) d_Model_shave_50 rfl rfl ?_
        obtain ⟨v10, hv, h⟩ := bnd h
        refine w_callVi (q := 54) (M' := M_Model_loseFar) (n' := 3) (k := 54) (As := []) (sh' := SH) (b1 := (0, 0)) d_Model_shave_51 rfl mw_Model_loseFar (by decide) (by decide) ml_Model_292 (by decide) s_54 (by decide) rfl rfl rfl (leb rfl) (bz _) (fun _ => rfl) (ok_Model_loseFar hv) ?_
        cases h
        exact w_ireturn d_Model_shave_54 rfl rfl ⟨rfl, rfl, rfl, rfl⟩
      · rw [if_neg c7] at h
        refine w_icmp_lt_f (q := 33) d_Model_shave_30 39 rfl rfl c7 ?_
        refine w_aload_n (q := 34) d_Model_shave_33 rfl rfl ?_
        refine w_iconst (q := 35) (v := 1) d_Model_shave_34 rfl (by decide) ?_
        obtain ⟨v11, hv, h⟩ := bnd h
        refine w_callVi (q := 38) (M' := M_Model_refuse) (n' := 0) (k := 54) (As := [.int 1]) (sh' := SH) (b1 := (0, 0)) d_Model_shave_35 rfl mw_Model_refuse (by decide) (by decide) ml_Model_365 (by decide) s_54 (by decide) rfl rfl rfl (leb rfl) (bz _) (fun _ => rfl) (ok_Model_refuse hv) ?_
        cases h
        exact w_ireturn d_Model_shave_38 rfl rfl ⟨rfl, rfl, rfl, rfl⟩
def sp_Model_moths (F : Nat) (p0 : Int32) (p1 : Int32) (p2 : Int32) (g : Mem) : Option (Int32 × Mem) := (sp_Model_isMonk p0 (mset g 54 3 0)).bind fun v1 => if v1 = 0 then (sp_Model_fail 1 (mset g 54 3 0)).bind fun v3 => some (v3.1, v3.2) else (sp_Model_isIn p1.toInt64 0 60 (mset g 54 3 0)).bind fun v4 => if v4 = 0 then (sp_Model_refuse 1 (mset g 54 3 0)).bind fun v6 => some (v6.1, v6.2) else (sp_Model_isIn p2.toInt64 p1.toInt64 60 (mset g 54 3 0)).bind fun v7 => if v7 = 0 then (sp_Model_refuse 1 (mset g 54 3 0)).bind fun v9 => some (v9.1, v9.2) else (sp_Model_keep F (mset g 54 3 0)).bind fun v10 => (sp_Model_mothsEat F p0 p1 p2 v10).bind fun v11 => some (v11.1, v11.2)
theorem ok_Model_moths {γ : GG} {tt : Bool} {F : Nat} {p0 : Int32} {p1 : Int32} {p2 : Int32} {g : Mem} {res : Int32 × Mem} (h : sp_Model_moths F p0 p1 p2 g = some res) : CA γ M_Model_moths 4 [.ref 54, .int p0, .int p1, .int p2] SH g tt (0, 0) (pI SH res.1 res.2 tt) := by
  refine CA.of mw_Model_moths.1 0 rfl ?_
  show WA γ M_Model_moths 4 0 [some (.ref 54), some (.int p0), some (.int p1), some (.int p2)] [] SH g tt (0, 0) (pI SH res.1 res.2 tt)
  unfold sp_Model_moths at h
  refine w_aload_n (q := 1) d_Model_moths_0 rfl rfl ?_
  refine w_iconst (q := 2) (v := 0) d_Model_moths_1 rfl (by decide) ?_
  refine w_put (q := 5) (ci := 12) (j := 3) d_Model_moths_2 rfl (by decide) fl_Model_114 (by decide) (by decide) s_54 rfl rfl rfl rfl rfl rfl ?_
  refine w_aload_n (q := 6) d_Model_moths_5 rfl rfl ?_
  refine w_iload_n (q := 7) d_Model_moths_6 rfl rfl ?_
  obtain ⟨v1, hv, h⟩ := bnd h
  refine w_callVi (q := 10) (M' := M_Model_isMonk) (n' := 1) (k := 54) (As := [.int p0]) (sh' := SH) (b1 := (0, 0)) d_Model_moths_7 rfl mw_Model_isMonk (by decide) (by decide) ml_Model_335 (by decide) s_54 (by decide) rfl rfl rfl (leb rfl) (bz _) (fun _ => rfl) (ok_Model_isMonk hv) ?_
  by_cases c2 : v1 = 0
  · rw [if_pos c2] at h
    refine w_if_ne_f (q := 13) d_Model_moths_10 19 rfl rfl c2 ?_
    refine w_aload_n (q := 14) d_Model_moths_13 rfl rfl ?_
    refine w_iconst (q := 15) (v := 1) d_Model_moths_14 rfl (by decide) ?_
    obtain ⟨v3, hv, h⟩ := bnd h
    refine w_callVi (q := 18) (M' := M_Model_fail) (n' := 0) (k := 54) (As := [.int 1]) (sh' := SH) (b1 := (0, 0)) d_Model_moths_15 rfl mw_Model_fail (by decide) (by decide) ml_Model_273 (by decide) s_54 (by decide) rfl rfl rfl (leb rfl) (bz _) (fun _ => rfl) (ok_Model_fail hv) ?_
    cases h
    exact w_ireturn d_Model_moths_18 rfl rfl ⟨rfl, rfl, rfl, rfl⟩
  · rw [if_neg c2] at h
    refine w_if_ne_t (q := 19) d_Model_moths_10 rfl c2 ?_
    refine w_iload_n (q := 20) d_Model_moths_19 rfl rfl ?_
    refine w_i2l (q := 21) d_Model_moths_20 rfl ?_
    refine w_lconst (q := 22) (v := 0) d_Model_moths_21 rfl (by decide) ?_
    refine w_ldc2 (q := 25) d_Model_moths_22 rfl lo_Model_388 ?_
    obtain ⟨v4, hv, h⟩ := bnd h
    refine w_callSi (q := 28) (M' := M_Model_isIn) (n' := 0) (As := [.long (p1.toInt64), .long (0), .long (60)]) (sh' := SH) (b1 := (0, 0)) d_Model_moths_25 rfl mw_Model_isIn (by decide) (by decide) ml_Model_117 rfl rfl (leb rfl) (bz _) (fun _ => rfl) (ok_Model_isIn hv) ?_
    by_cases c5 : v4 = 0
    · rw [if_pos c5] at h
      refine w_if_eq_t (q := 44) d_Model_moths_28 rfl c5 ?_
      refine w_aload_n (q := 45) d_Model_moths_44 rfl rfl ?_
      refine w_iconst (q := 46) (v := 1) d_Model_moths_45 rfl (by decide) ?_
      obtain ⟨v6, hv, h⟩ := bnd h
      refine w_callVi (q := 49) (M' := M_Model_refuse) (n' := 0) (k := 54) (As := [.int 1]) (sh' := SH) (b1 := (0, 0)) d_Model_moths_46 rfl mw_Model_refuse (by decide) (by decide) ml_Model_365 (by decide) s_54 (by decide) rfl rfl rfl (leb rfl) (bz _) (fun _ => rfl) (ok_Model_refuse hv) ?_
      cases h
      exact w_ireturn d_Model_moths_49 rfl rfl ⟨rfl, rfl, rfl, rfl⟩
    · rw [if_neg c5] at h
      refine w_if_eq_f (q := 31) d_Model_moths_28 44 rfl rfl c5 ?_
      refine w_iload_n (q := 32) d_Model_moths_31 rfl rfl ?_
      refine w_i2l (q := 33) d_Model_moths_32 rfl ?_
      refine w_iload_n (q := 34) d_Model_moths_33 rfl rfl ?_
      refine w_i2l (q := 35) d_Model_moths_34 rfl ?_
      refine w_ldc2 (q := 38) d_Model_moths_35 rfl lo_Model_388 ?_
      obtain ⟨v7, hv, h⟩ := bnd h
      refine w_callSi (q := 41) (M' := M_Model_isIn) (n' := 0) (As := [.long (p2.toInt64), .long (p1.toInt64), .long (60)]) (sh' := SH) (b1 := (0, 0)) d_Model_moths_38 rfl mw_Model_isIn (by decide) (by decide) ml_Model_117 rfl rfl (leb rfl) (bz _) (fun _ => rfl) (ok_Model_isIn hv) ?_
      by_cases c8 : v7 = 0
      · rw [if_pos c8] at h
        refine w_if_ne_f (q := 44) d_Model_moths_41 50 rfl rfl c8 ?_
        refine w_aload_n (q := 45) d_Model_moths_44 rfl rfl ?_
        refine w_iconst (q := 46) (v := 1) d_Model_moths_45 rfl (by decide) ?_
        obtain ⟨v9, hv, h⟩ := bnd h
        refine w_callVi (q := 49) (M' := M_Model_refuse) (n' := 0) (k := 54) (As := [.int 1]) (sh' := SH) (b1 := (0, 0)) d_Model_moths_46 rfl mw_Model_refuse (by decide) (by decide) ml_Model_365 (by decide) s_54 (by decide) rfl rfl rfl (leb rfl) (bz _) (fun _ => rfl) (ok_Model_refuse hv) ?_
        cases h
        exact w_ireturn d_Model_moths_49 rfl rfl ⟨rfl, rfl, rfl, rfl⟩
      · rw [if_neg c8] at h
        refine w_if_ne_t (q := 50) d_Model_moths_41 rfl c8 ?_
        refine w_aload_n (q := 51) d_Model_moths_50 rfl rfl ?_
        obtain ⟨v10, hv, h⟩ := bnd h
        refine w_callVv (q := 54) (M' := M_Model_keep) (n' := 1) (k := 54) (As := []) (sh' := SH) (b1 := (0, 0)) d_Model_moths_51 rfl mw_Model_keep (by decide) (by decide) ml_Model_368 (by decide) s_54 (by decide) rfl rfl rfl (leb rfl) (bz _) (fun _ => rfl) (ok_Model_keep hv) ?_
        refine w_aload_n (q := 55) d_Model_moths_54 rfl rfl ?_
        refine w_iload_n (q := 56) d_Model_moths_55 rfl rfl ?_
        refine w_iload_n (q := 57) d_Model_moths_56 rfl rfl ?_
        refine w_iload_n (q := 58) d_Model_moths_57 rfl rfl ?_
        obtain ⟨v11, hv, h⟩ := bnd h
        refine w_callVi (q := 61) (M' := M_Model_mothsEat) (n' := 3) (k := 54) (As := [.int p0, .int p1, .int p2]) (sh' := SH) (b1 := (0, 0)) d_Model_moths_58 rfl mw_Model_mothsEat (by decide) (by decide) ml_Model_390 (by decide) s_54 (by decide) rfl rfl rfl (leb rfl) (bz _) (fun _ => rfl) (ok_Model_mothsEat hv) ?_
        cases h
        exact w_ireturn d_Model_moths_61 rfl rfl ⟨rfl, rfl, rfl, rfl⟩
def sp_Model_die (F : Nat) (p0 : Int32) (g : Mem) : Option (Int32 × Mem) := (sp_Model_isMonk p0 (mset g 54 3 0)).bind fun v1 => if v1 = 0 then (sp_Model_failing 1 (mset g 54 3 0)).bind fun v3 => (bl v3.1).bind fun v4 => some (v4, v3.2) else (sp_Model_isOf ((mset g 54 3 0) 54 25) p0 (mset g 54 3 0)).bind fun v5 => if v5 = 0 then (sp_Model_keep F (mset g 54 3 0)).bind fun v7 => (wr (mset v7 54 25 ((v7 54 25) ||| (1 <<< (p0 &&& 31)))) 66 6 p0 ((mset v7 54 25 ((v7 54 25) ||| (1 <<< (p0 &&& 31)))) 54 24)).bind fun g8 => some (1, g8) else (rd (mset g 54 3 0) 64 3 1).bind fun v9 => (wr (mset g 54 3 0) 64 3 1 (v9 + 1)).bind fun g10 => some (0, g10)
theorem ok_Model_die {γ : GG} {tt : Bool} {F : Nat} {p0 : Int32} {g : Mem} {res : Int32 × Mem} (h : sp_Model_die F p0 g = some res) : CA γ M_Model_die 2 [.ref 54, .int p0] SH g tt (0, 0) (pI SH res.1 res.2 tt) := by
  refine CA.of mw_Model_die.1 0 rfl ?_
  show WA γ M_Model_die 2 0 [some (.ref 54), some (.int p0)] [] SH g tt (0, 0) (pI SH res.1 res.2 tt)
  unfold sp_Model_die at h
  refine w_aload_n (q := 1) d_Model_die_0 rfl rfl ?_
  refine w_iconst (q := 2) (v := 0) d_Model_die_1 rfl (by decide) ?_
  refine w_put (q := 5) (ci := 12) (j := 3) d_Model_die_2 rfl (by decide) fl_Model_114 (by decide) (by decide) s_54 rfl rfl rfl rfl rfl rfl ?_
  refine w_aload_n (q := 6) d_Model_die_5 rfl rfl ?_
  refine w_iload_n (q := 7) d_Model_die_6 rfl rfl ?_
  obtain ⟨v1, hv, h⟩ := bnd h
  refine w_callVi (q := 10) (M' := M_Model_isMonk) (n' := 1) (k := 54) (As := [.int p0]) (sh' := SH) (b1 := (0, 0)) d_Model_die_7 rfl mw_Model_isMonk (by decide) (by decide) ml_Model_335 (by decide) s_54 (by decide) rfl rfl rfl (leb rfl) (bz _) (fun _ => rfl) (ok_Model_isMonk hv) ?_
  by_cases c2 : v1 = 0
  · rw [if_pos c2] at h
    refine w_if_ne_f (q := 13) d_Model_die_10 19 rfl rfl c2 ?_
    refine w_aload_n (q := 14) d_Model_die_13 rfl rfl ?_
    refine w_iconst (q := 15) (v := 1) d_Model_die_14 rfl (by decide) ?_
    obtain ⟨v3, hv, h⟩ := bnd h
    refine w_callVi (q := 18) (M' := M_Model_failing) (n' := 0) (k := 54) (As := [.int 1]) (sh' := SH) (b1 := (0, 0)) d_Model_die_15 rfl mw_Model_failing (by decide) (by decide) ml_Model_353 (by decide) s_54 (by decide) rfl rfl rfl (leb rfl) (bz _) (fun _ => rfl) (ok_Model_failing hv) ?_
    obtain ⟨v4, hv, h⟩ := bnd h
    obtain ⟨hv, hn⟩ := bl_ok hv
    rw [hv] at h
    cases h
    exact w_ireturn d_Model_die_18 rfl hn ⟨rfl, rfl, rfl, rfl⟩
  · rw [if_neg c2] at h
    refine w_if_ne_t (q := 19) d_Model_die_10 rfl c2 ?_
    refine w_aload_n (q := 20) d_Model_die_19 rfl rfl ?_
    refine w_get (q := 23) (ci := 12) (j := 25) d_Model_die_20 rfl (by decide) fl_Model_289 (by decide) (by decide) s_54 rfl rfl ?_
    refine w_iload_n (q := 24) d_Model_die_23 rfl rfl ?_
    obtain ⟨v5, hv, h⟩ := bnd h
    refine w_callSi (q := 27) (M' := M_Model_isOf) (n' := 0) (As := [.int ((mset g 54 3 0) 54 25), .int p0]) (sh' := SH) (b1 := (0, 0)) d_Model_die_24 rfl mw_Model_isOf (by decide) (by decide) ml_Model_308 rfl rfl (leb rfl) (bz _) (fun _ => rfl) (ok_Model_isOf hv) ?_
    by_cases c6 : v5 = 0
    · rw [if_pos c6] at h
      refine w_if_eq_t (q := 42) d_Model_die_27 rfl c6 ?_
      refine w_aload_n (q := 43) d_Model_die_42 rfl rfl ?_
      obtain ⟨v7, hv, h⟩ := bnd h
      refine w_callVv (q := 46) (M' := M_Model_keep) (n' := 1) (k := 54) (As := []) (sh' := SH) (b1 := (0, 0)) d_Model_die_43 rfl mw_Model_keep (by decide) (by decide) ml_Model_368 (by decide) s_54 (by decide) rfl rfl rfl (leb rfl) (bz _) (fun _ => rfl) (ok_Model_keep hv) ?_
      refine w_aload_n (q := 47) d_Model_die_46 rfl rfl ?_
      refine w_dup (q := 48) d_Model_die_47 rfl rfl ?_
      refine w_get (q := 51) (ci := 12) (j := 25) d_Model_die_48 rfl (by decide) fl_Model_289 (by decide) (by decide) s_54 rfl rfl ?_
      refine w_iconst (q := 52) (v := 1) d_Model_die_51 rfl (by decide) ?_
      refine w_iload_n (q := 53) d_Model_die_52 rfl rfl ?_
      refine w_ishl (q := 54) d_Model_die_53 rfl ?_
      refine w_ior (q := 55) d_Model_die_54 rfl ?_
      refine w_put (q := 58) (ci := 12) (j := 25) d_Model_die_55 rfl (by decide) fl_Model_289 (by decide) (by decide) s_54 rfl rfl rfl rfl rfl rfl ?_
      refine w_aload_n (q := 59) d_Model_die_58 rfl rfl ?_
      refine w_get (q := 62) (ci := 12) (j := 22) d_Model_die_59 rfl (by decide) fl_Model_78 (by decide) (by decide) s_54 rfl rfl ?_
      refine w_iload_n (q := 63) d_Model_die_62 rfl rfl ?_
      refine w_aload_n (q := 64) d_Model_die_63 rfl rfl ?_
      refine w_get (q := 67) (ci := 12) (j := 24) d_Model_die_64 rfl (by decide) fl_Model_286 (by decide) (by decide) s_54 rfl rfl ?_
      obtain ⟨g8, hv, h⟩ := bnd h
      obtain ⟨hi, hv⟩ := wr_ok hv
      refine w_iast (q := 68) d_Model_die_67 rfl a_66.2 a_66.1 hi hv ?_
      refine w_iconst (q := 69) (v := 1) d_Model_die_68 rfl (by decide) ?_
      cases h
      exact w_ireturn d_Model_die_69 rfl rfl ⟨rfl, rfl, rfl, rfl⟩
    · rw [if_neg c6] at h
      refine w_if_eq_f (q := 30) d_Model_die_27 42 rfl rfl c6 ?_
      refine w_aload_n (q := 31) d_Model_die_30 rfl rfl ?_
      refine w_get (q := 34) (ci := 12) (j := 10) d_Model_die_31 rfl (by decide) fl_Model_68 (by decide) (by decide) s_54 rfl rfl ?_
      refine w_iconst (q := 35) (v := 1) d_Model_die_34 rfl (by decide) ?_
      refine w_dup2 (q := 36) d_Model_die_35 rfl rfl rfl ?_
      obtain ⟨v9, hv, h⟩ := bnd h
      obtain ⟨hi, hv⟩ := rd_ok hv
      refine w_iald (q := 37) (t := 0) d_Model_die_36 rfl a_64.2 a_64.1 hi rfl ?_
      rw [hv]
      refine w_iconst (q := 38) (v := 1) d_Model_die_37 rfl (by decide) ?_
      refine w_iadd (q := 39) d_Model_die_38 rfl ?_
      obtain ⟨g10, hv, h⟩ := bnd h
      obtain ⟨hi, hv⟩ := wr_ok hv
      refine w_iast (q := 40) d_Model_die_39 rfl a_64.2 a_64.1 hi hv ?_
      refine w_iconst (q := 41) (v := 0) d_Model_die_40 rfl (by decide) ?_
      cases h
      exact w_ireturn d_Model_die_41 rfl rfl ⟨rfl, rfl, rfl, rfl⟩
def sp_Model_undo (F : Nat) (g : Mem) : Option (Int32 × Mem) := if ((mset g 54 3 0) 54 27) = 0 then some ((-1), (mset g 54 3 0)) else (sp_Model_unpack F 67 9240 (231 * ((mset (mset g 54 3 0) 54 27 (((mset g 54 3 0) 54 27) - 1)) 54 27)) (mset (mset g 54 3 0) 54 27 (((mset g 54 3 0) 54 27) - 1))).bind fun v2 => some (v2 54 27, v2)
theorem ok_Model_undo {γ : GG} {tt : Bool} {F : Nat} {g : Mem} {res : Int32 × Mem} (h : sp_Model_undo F g = some res) : CA γ M_Model_undo 1 [.ref 54] SH g tt (0, 0) (pI SH res.1 res.2 tt) := by
  refine CA.of mw_Model_undo.1 0 rfl ?_
  show WA γ M_Model_undo 1 0 [some (.ref 54)] [] SH g tt (0, 0) (pI SH res.1 res.2 tt)
  unfold sp_Model_undo at h
  refine w_aload_n (q := 1) d_Model_undo_0 rfl rfl ?_
  refine w_iconst (q := 2) (v := 0) d_Model_undo_1 rfl (by decide) ?_
  refine w_put (q := 5) (ci := 12) (j := 3) d_Model_undo_2 rfl (by decide) fl_Model_114 (by decide) (by decide) s_54 rfl rfl rfl rfl rfl rfl ?_
  refine w_aload_n (q := 6) d_Model_undo_5 rfl rfl ?_
  refine w_get (q := 9) (ci := 12) (j := 27) d_Model_undo_6 rfl (by decide) fl_Model_295 (by decide) (by decide) s_54 rfl rfl ?_
  by_cases c1 : ((mset g 54 3 0) 54 27) = 0
  · rw [if_pos c1] at h
    refine w_if_ne_f (q := 12) d_Model_undo_9 14 rfl rfl c1 ?_
    refine w_iconst (q := 13) (v := (-1)) d_Model_undo_12 rfl (by decide) ?_
    cases h
    exact w_ireturn d_Model_undo_13 rfl rfl ⟨rfl, rfl, rfl, rfl⟩
  · rw [if_neg c1] at h
    refine w_if_ne_t (q := 14) d_Model_undo_9 rfl c1 ?_
    refine w_aload_n (q := 15) d_Model_undo_14 rfl rfl ?_
    refine w_dup (q := 16) d_Model_undo_15 rfl rfl ?_
    refine w_get (q := 19) (ci := 12) (j := 27) d_Model_undo_16 rfl (by decide) fl_Model_295 (by decide) (by decide) s_54 rfl rfl ?_
    refine w_iconst (q := 20) (v := 1) d_Model_undo_19 rfl (by decide) ?_
    refine w_isub (q := 21) d_Model_undo_20 rfl ?_
    refine w_put (q := 24) (ci := 12) (j := 27) d_Model_undo_21 rfl (by decide) fl_Model_295 (by decide) (by decide) s_54 rfl rfl rfl rfl rfl rfl ?_
    refine w_aload_n (q := 25) d_Model_undo_24 rfl rfl ?_
    refine w_aload_n (q := 26) d_Model_undo_25 rfl rfl ?_
    refine w_get (q := 29) (ci := 12) (j := 23) d_Model_undo_26 rfl (by decide) fl_Model_81 (by decide) (by decide) s_54 rfl rfl ?_
    refine w_sipush (q := 32) (v := 231) d_Model_undo_29 rfl (by decide) ?_
    refine w_aload_n (q := 33) d_Model_undo_32 rfl rfl ?_
    refine w_get (q := 36) (ci := 12) (j := 27) d_Model_undo_33 rfl (by decide) fl_Model_295 (by decide) (by decide) s_54 rfl rfl ?_
    refine w_imul (q := 37) d_Model_undo_36 rfl ?_
    obtain ⟨v2, hv, h⟩ := bnd h
    refine w_callVv (q := 40) (M' := M_Model_unpack) (n' := 0) (k := 54) (As := [.ref 67, .int (231 * ((mset (mset g 54 3 0) 54 27 (((mset g 54 3 0) 54 27) - 1)) 54 27))]) (sh' := SH) (b1 := (0, 0)) d_Model_undo_37 rfl mw_Model_unpack (by decide) (by decide) ml_Model_393 (by decide) s_54 (by decide) rfl rfl rfl (leb rfl) (bz _) (fun _ => rfl) (ok_Model_unpack a_67 hv) ?_
    refine w_aload_n (q := 41) d_Model_undo_40 rfl rfl ?_
    refine w_get (q := 44) (ci := 12) (j := 27) d_Model_undo_41 rfl (by decide) fl_Model_295 (by decide) (by decide) s_54 rfl rfl ?_
    cases h
    exact w_ireturn d_Model_undo_44 rfl rfl ⟨rfl, rfl, rfl, rfl⟩
def sp_Model_isOfKind (p0 : Int32) (p1 : Int32) (p2 : Int32) (g : Mem) : Option (Int32) := (sp_Model_isThere p0 g).bind fun v1 => if v1 = 0 then some 0 else (sp_Model_of p0 0 g).bind fun v3 => if v3 = p1 then (sp_Model_of p0 3 g).bind fun v5 => if v5 = p2 then some 1 else some 0 else some 0
theorem ok_Model_isOfKind {γ : GG} {tt : Bool} {p0 : Int32} {p1 : Int32} {p2 : Int32} {g : Mem} {res : Int32} (h : sp_Model_isOfKind p0 p1 p2 g = some res) : CA γ M_Model_isOfKind 2 [.ref 54, .int p0, .int p1, .int p2] SH g tt (0, 0) (pI SH res g tt) := by
  refine CA.of mw_Model_isOfKind.1 0 rfl ?_
  show WA γ M_Model_isOfKind 2 0 [some (.ref 54), some (.int p0), some (.int p1), some (.int p2)] [] SH g tt (0, 0) (pI SH res g tt)
  unfold sp_Model_isOfKind at h
  refine w_aload_n (q := 1) d_Model_isOfKind_0 rfl rfl ?_
  refine w_iload_n (q := 2) d_Model_isOfKind_1 rfl rfl ?_
  obtain ⟨v1, hv, h⟩ := bnd h
  refine w_callVi (q := 5) (M' := M_Model_isThere) (n' := 1) (k := 54) (As := [.int p0]) (sh' := SH) (b1 := (0, 0)) d_Model_isOfKind_2 rfl mw_Model_isThere (by decide) (by decide) ml_Model_315 (by decide) s_54 (by decide) rfl rfl rfl (leb rfl) (bz _) (fun _ => rfl) (ok_Model_isThere hv) ?_
  by_cases c2 : v1 = 0
  · rw [if_pos c2] at h
    refine w_if_eq_t (q := 32) d_Model_isOfKind_5 rfl c2 ?_
    refine w_iconst (q := 33) (v := 0) d_Model_isOfKind_32 rfl (by decide) ?_
    cases h
    exact w_ireturn d_Model_isOfKind_33 rfl rfl ⟨rfl, rfl, rfl, rfl⟩
  · rw [if_neg c2] at h
    refine w_if_eq_f (q := 8) d_Model_isOfKind_5 32 rfl rfl c2 ?_
    refine w_aload_n (q := 9) d_Model_isOfKind_8 rfl rfl ?_
    refine w_iload_n (q := 10) d_Model_isOfKind_9 rfl rfl ?_
    refine w_iconst (q := 11) (v := 0) d_Model_isOfKind_10 rfl (by decide) ?_
    obtain ⟨v3, hv, h⟩ := bnd h
    refine w_callVi (q := 14) (M' := M_Model_of) (n' := 0) (k := 54) (As := [.int p0, .int 0]) (sh' := SH) (b1 := (0, 0)) d_Model_isOfKind_11 rfl mw_Model_of (by decide) (by decide) ml_Model_305 (by decide) s_54 (by decide) rfl rfl rfl (leb rfl) (bz _) (fun _ => rfl) (ok_Model_of hv) ?_
    refine w_iload_n (q := 15) d_Model_isOfKind_14 rfl rfl ?_
    by_cases c4 : v3 = p1
    · rw [if_pos c4] at h
      refine w_icmp_ne_f (q := 18) d_Model_isOfKind_15 32 rfl rfl c4 ?_
      refine w_aload_n (q := 19) d_Model_isOfKind_18 rfl rfl ?_
      refine w_iload_n (q := 20) d_Model_isOfKind_19 rfl rfl ?_
      refine w_iconst (q := 21) (v := 3) d_Model_isOfKind_20 rfl (by decide) ?_
      obtain ⟨v5, hv, h⟩ := bnd h
      refine w_callVi (q := 24) (M' := M_Model_of) (n' := 0) (k := 54) (As := [.int p0, .int 3]) (sh' := SH) (b1 := (0, 0)) d_Model_isOfKind_21 rfl mw_Model_of (by decide) (by decide) ml_Model_305 (by decide) s_54 (by decide) rfl rfl rfl (leb rfl) (bz _) (fun _ => rfl) (ok_Model_of hv) ?_
      refine w_iload_n (q := 25) d_Model_isOfKind_24 rfl rfl ?_
      by_cases c6 : v5 = p2
      · rw [if_pos c6] at h
        refine w_icmp_ne_f (q := 28) d_Model_isOfKind_25 32 rfl rfl c6 ?_
        refine w_iconst (q := 29) (v := 1) d_Model_isOfKind_28 rfl (by decide) ?_
        refine w_goto (q := 33) d_Model_isOfKind_29 rfl ?_
        cases h
        exact w_ireturn d_Model_isOfKind_33 rfl rfl ⟨rfl, rfl, rfl, rfl⟩
      · rw [if_neg c6] at h
        refine w_icmp_ne_t (q := 32) d_Model_isOfKind_25 rfl c6 ?_
        refine w_iconst (q := 33) (v := 0) d_Model_isOfKind_32 rfl (by decide) ?_
        cases h
        exact w_ireturn d_Model_isOfKind_33 rfl rfl ⟨rfl, rfl, rfl, rfl⟩
    · rw [if_neg c4] at h
      refine w_icmp_ne_t (q := 32) d_Model_isOfKind_15 rfl c4 ?_
      refine w_iconst (q := 33) (v := 0) d_Model_isOfKind_32 rfl (by decide) ?_
      cases h
      exact w_ireturn d_Model_isOfKind_33 rfl rfl ⟨rfl, rfl, rfl, rfl⟩
def PL_Model_law_25 (γ : GG) (tt : Bool) (p0 : Int32) (g : Mem) (k1 : Int32) (m0 : Mem) (b : Nat × Nat) (Φ : PO) (s : Int32 × Int32 × Int32) : Prop := WA γ M_Model_law 3 25 [some (.ref 54), some (.int k1), some (.int s.1), some (.int s.2.1), some (.int s.2.2), none] [] SH m0 tt b Φ
def QL_Model_law_25 (γ : GG) (tt : Bool) (p0 : Int32) (g : Mem) (k1 : Int32) (m0 : Mem) (b : Nat × Nat) (Φ : PO) (x : (Int32 × Int32)) : Prop := WA γ M_Model_law 3 137 [some (.ref 54), none, some (.int x.1), some (.int x.2), none, none] [] SH m0 tt b Φ
def sp_Model_law_j95_25 (F : Nat) (p0 : Int32) (k1 : Int32) (m0 : Mem) (g : Mem) (x2 : Int32) (x3 : Int32) (x4 : Int32) (y0 : Int32) : Option ((Int32 × Int32 × Int32) ⊕ ((Int32 × Int32))) := if y0 = 0 then some (.inl (x4, 0, x4 + 1)) else if x3 = 0 then (sp_Model_of x4 4 m0).bind fun v11 => (sp_Model_of x2 4 m0).bind fun v12 => if v11 = v12 then some (.inl (x4, 0, x4 + 1)) else some (.inl (x4, 1, x4 + 1)) else some (.inl (x4, 1, x4 + 1))
theorem ok_Model_law_j95_25 {γ : GG} {tt : Bool} {F : Nat} {p0 : Int32} {k1 : Int32} {m0 : Mem} {g : Mem} {x2 : Int32} {x3 : Int32} {x4 : Int32} {y0 : Int32} {b : Nat × Nat} {Φ : PO} {r : (Int32 × Int32 × Int32) ⊕ ((Int32 × Int32))} (h : sp_Model_law_j95_25 F p0 k1 m0 g x2 x3 x4 y0 = some r) (hr : RQ (PL_Model_law_25 γ tt p0 g k1 m0 b Φ) (QL_Model_law_25 γ tt p0 g k1 m0 b Φ) r) : WA γ M_Model_law 3 95 [some (.ref 54), some (.int k1), some (.int x2), some (.int x3), some (.int x4), none] [.int y0] SH m0 tt b Φ := by
  unfold sp_Model_law_j95_25 at h
  refine w_istore (q := 97) (ls' := [some (.ref 54), some (.int k1), some (.int x2), some (.int x3), some (.int x4), some (.int y0)]) d_Model_law_95 rfl (by decide) rfl rfl ?_
  refine w_iload (q := 99) d_Model_law_97 rfl rfl ?_
  by_cases c9 : y0 = 0
  · rw [if_pos c9] at h
    refine w_if_eq_t (q := 126) d_Model_law_99 rfl c9 ?_
    refine w_iconst (q := 127) (v := 0) d_Model_law_126 rfl (by decide) ?_
    refine w_istore_n (q := 128) (ls' := [some (.ref 54), some (.int k1), some (.int x2), some (.int 0), some (.int x4), some (.int y0)]) d_Model_law_127 rfl (by decide) rfl rfl ?_
    refine w_iload (q := 130) d_Model_law_128 rfl rfl ?_
    refine w_istore_n (q := 131) (ls' := [some (.ref 54), some (.int k1), some (.int x4), some (.int 0), some (.int x4), some (.int y0)]) d_Model_law_130 rfl (by decide) rfl rfl ?_
    refine w_iinc (q := 134) (ls' := [some (.ref 54), some (.int k1), some (.int x4), some (.int 0), some (.int (x4 + 1)), some (.int y0)]) d_Model_law_131 rfl (by decide) rfl rfl rfl ?_
    refine w_goto (q := 25) d_Model_law_134 rfl ?_
    cases h
    exact w_ls (by exact (And.intro rfl (And.intro rfl (And.intro rfl (And.intro rfl (And.intro rfl trivial)))))) hr
  · rw [if_neg c9] at h
    refine w_if_eq_f (q := 102) d_Model_law_99 126 rfl rfl c9 ?_
    refine w_iload_n (q := 103) d_Model_law_102 rfl rfl ?_
    by_cases c10 : x3 = 0
    · rw [if_pos c10] at h
      refine w_if_ne_f (q := 106) d_Model_law_103 122 rfl rfl c10 ?_
      refine w_aload_n (q := 107) d_Model_law_106 rfl rfl ?_
      refine w_iload (q := 109) d_Model_law_107 rfl rfl ?_
      refine w_iconst (q := 110) (v := 4) d_Model_law_109 rfl (by decide) ?_
      obtain ⟨v11, hv, h⟩ := bnd h
      refine w_callVi (q := 113) (M' := M_Model_of) (n' := 0) (k := 54) (As := [.int x4, .int 4]) (sh' := SH) (b1 := (0, 0)) d_Model_law_110 rfl mw_Model_of (by decide) (by decide) ml_Model_305 (by decide) s_54 (by decide) rfl rfl rfl (leb rfl) (bz _) (fun _ => rfl) (ok_Model_of hv) ?_
      refine w_aload_n (q := 114) d_Model_law_113 rfl rfl ?_
      refine w_iload_n (q := 115) d_Model_law_114 rfl rfl ?_
      refine w_iconst (q := 116) (v := 4) d_Model_law_115 rfl (by decide) ?_
      obtain ⟨v12, hv, h⟩ := bnd h
      refine w_callVi (q := 119) (M' := M_Model_of) (n' := 0) (k := 54) (As := [.int x2, .int 4]) (sh' := SH) (b1 := (0, 0)) d_Model_law_116 rfl mw_Model_of (by decide) (by decide) ml_Model_305 (by decide) s_54 (by decide) rfl rfl rfl (leb rfl) (bz _) (fun _ => rfl) (ok_Model_of hv) ?_
      by_cases c13 : v11 = v12
      · rw [if_pos c13] at h
        refine w_icmp_eq_t (q := 126) d_Model_law_119 rfl c13 ?_
        refine w_iconst (q := 127) (v := 0) d_Model_law_126 rfl (by decide) ?_
        refine w_istore_n (q := 128) (ls' := [some (.ref 54), some (.int k1), some (.int x2), some (.int 0), some (.int x4), some (.int y0)]) d_Model_law_127 rfl (by decide) rfl rfl ?_
        refine w_iload (q := 130) d_Model_law_128 rfl rfl ?_
        refine w_istore_n (q := 131) (ls' := [some (.ref 54), some (.int k1), some (.int x4), some (.int 0), some (.int x4), some (.int y0)]) d_Model_law_130 rfl (by decide) rfl rfl ?_
        refine w_iinc (q := 134) (ls' := [some (.ref 54), some (.int k1), some (.int x4), some (.int 0), some (.int (x4 + 1)), some (.int y0)]) d_Model_law_131 rfl (by decide) rfl rfl rfl ?_
        refine w_goto (q := 25) d_Model_law_134 rfl ?_
        cases h
        exact w_ls (by exact (And.intro rfl (And.intro rfl (And.intro rfl (And.intro rfl (And.intro rfl trivial)))))) hr
      · rw [if_neg c13] at h
        refine w_icmp_eq_f (q := 122) d_Model_law_119 126 rfl rfl c13 ?_
        refine w_iconst (q := 123) (v := 1) d_Model_law_122 rfl (by decide) ?_
        refine w_goto (q := 127) d_Model_law_123 rfl ?_
        refine w_istore_n (q := 128) (ls' := [some (.ref 54), some (.int k1), some (.int x2), some (.int 1), some (.int x4), some (.int y0)]) d_Model_law_127 rfl (by decide) rfl rfl ?_
        refine w_iload (q := 130) d_Model_law_128 rfl rfl ?_
        refine w_istore_n (q := 131) (ls' := [some (.ref 54), some (.int k1), some (.int x4), some (.int 1), some (.int x4), some (.int y0)]) d_Model_law_130 rfl (by decide) rfl rfl ?_
        refine w_iinc (q := 134) (ls' := [some (.ref 54), some (.int k1), some (.int x4), some (.int 1), some (.int (x4 + 1)), some (.int y0)]) d_Model_law_131 rfl (by decide) rfl rfl rfl ?_
        refine w_goto (q := 25) d_Model_law_134 rfl ?_
        cases h
        exact w_ls (by exact (And.intro rfl (And.intro rfl (And.intro rfl (And.intro rfl (And.intro rfl trivial)))))) hr
    · rw [if_neg c10] at h
      refine w_if_ne_t (q := 122) d_Model_law_103 rfl c10 ?_
      refine w_iconst (q := 123) (v := 1) d_Model_law_122 rfl (by decide) ?_
      refine w_goto (q := 127) d_Model_law_123 rfl ?_
      refine w_istore_n (q := 128) (ls' := [some (.ref 54), some (.int k1), some (.int x2), some (.int 1), some (.int x4), some (.int y0)]) d_Model_law_127 rfl (by decide) rfl rfl ?_
      refine w_iload (q := 130) d_Model_law_128 rfl rfl ?_
      refine w_istore_n (q := 131) (ls' := [some (.ref 54), some (.int k1), some (.int x4), some (.int 1), some (.int x4), some (.int y0)]) d_Model_law_130 rfl (by decide) rfl rfl ?_
      refine w_iinc (q := 134) (ls' := [some (.ref 54), some (.int k1), some (.int x4), some (.int 1), some (.int (x4 + 1)), some (.int y0)]) d_Model_law_131 rfl (by decide) rfl rfl rfl ?_
      refine w_goto (q := 25) d_Model_law_134 rfl ?_
      cases h
      exact w_ls (by exact (And.intro rfl (And.intro rfl (And.intro rfl (And.intro rfl (And.intro rfl trivial)))))) hr
def sp_Model_law_j94_25 (F : Nat) (p0 : Int32) (k1 : Int32) (m0 : Mem) (g : Mem) (x2 : Int32) (x3 : Int32) (x4 : Int32) : Option ((Int32 × Int32 × Int32) ⊕ ((Int32 × Int32))) := sp_Model_law_j95_25 F p0 k1 m0 g x2 x3 x4 0
theorem ok_Model_law_j94_25 {γ : GG} {tt : Bool} {F : Nat} {p0 : Int32} {k1 : Int32} {m0 : Mem} {g : Mem} {x2 : Int32} {x3 : Int32} {x4 : Int32} {b : Nat × Nat} {Φ : PO} {r : (Int32 × Int32 × Int32) ⊕ ((Int32 × Int32))} (h : sp_Model_law_j94_25 F p0 k1 m0 g x2 x3 x4 = some r) (hr : RQ (PL_Model_law_25 γ tt p0 g k1 m0 b Φ) (QL_Model_law_25 γ tt p0 g k1 m0 b Φ) r) : WA γ M_Model_law 3 94 [some (.ref 54), some (.int k1), some (.int x2), some (.int x3), some (.int x4), none] [] SH m0 tt b Φ := by
  unfold sp_Model_law_j94_25 at h
  refine w_iconst (q := 95) (v := 0) d_Model_law_94 rfl (by decide) ?_
  refine w_ls (ls' := [some (.ref 54), some (.int k1), some (.int x2), some (.int x3), some (.int x4), none]) (And.intro rfl (And.intro rfl (And.intro rfl (And.intro rfl (And.intro rfl trivial))))) ?_
  exact ok_Model_law_j95_25 h hr
def sp_Model_law_j69_25 (F : Nat) (p0 : Int32) (k1 : Int32) (m0 : Mem) (g : Mem) (x2 : Int32) (x3 : Int32) (x4 : Int32) : Option ((Int32 × Int32 × Int32) ⊕ ((Int32 × Int32))) := if x2 = (-1) then sp_Model_law_j94_25 F p0 k1 m0 g x2 x3 x4 else (sp_Model_of x4 2 m0).bind fun v14 => (sp_Model_of x2 2 m0).bind fun v15 => if v14 = v15 then sp_Model_law_j95_25 F p0 k1 m0 g x2 x3 x4 1 else sp_Model_law_j94_25 F p0 k1 m0 g x2 x3 x4
theorem ok_Model_law_j69_25 {γ : GG} {tt : Bool} {F : Nat} {p0 : Int32} {k1 : Int32} {m0 : Mem} {g : Mem} {x2 : Int32} {x3 : Int32} {x4 : Int32} {b : Nat × Nat} {Φ : PO} {r : (Int32 × Int32 × Int32) ⊕ ((Int32 × Int32))} (h : sp_Model_law_j69_25 F p0 k1 m0 g x2 x3 x4 = some r) (hr : RQ (PL_Model_law_25 γ tt p0 g k1 m0 b Φ) (QL_Model_law_25 γ tt p0 g k1 m0 b Φ) r) : WA γ M_Model_law 3 69 [some (.ref 54), some (.int k1), some (.int x2), some (.int x3), some (.int x4), none] [] SH m0 tt b Φ := by
  unfold sp_Model_law_j69_25 at h
  refine w_iload_n (q := 70) d_Model_law_69 rfl rfl ?_
  refine w_iconst (q := 71) (v := (-1)) d_Model_law_70 rfl (by decide) ?_
  by_cases c8 : x2 = (-1)
  · rw [if_pos c8] at h
    refine w_icmp_eq_t (q := 94) d_Model_law_71 rfl c8 ?_
    refine w_ls (ls' := [some (.ref 54), some (.int k1), some (.int x2), some (.int x3), some (.int x4), none]) (And.intro rfl (And.intro rfl (And.intro rfl (And.intro rfl (And.intro rfl trivial))))) ?_
    exact ok_Model_law_j94_25 h hr
  · rw [if_neg c8] at h
    refine w_icmp_eq_f (q := 74) d_Model_law_71 94 rfl rfl c8 ?_
    refine w_aload_n (q := 75) d_Model_law_74 rfl rfl ?_
    refine w_iload (q := 77) d_Model_law_75 rfl rfl ?_
    refine w_iconst (q := 78) (v := 2) d_Model_law_77 rfl (by decide) ?_
    obtain ⟨v14, hv, h⟩ := bnd h
    refine w_callVi (q := 81) (M' := M_Model_of) (n' := 0) (k := 54) (As := [.int x4, .int 2]) (sh' := SH) (b1 := (0, 0)) d_Model_law_78 rfl mw_Model_of (by decide) (by decide) ml_Model_305 (by decide) s_54 (by decide) rfl rfl rfl (leb rfl) (bz _) (fun _ => rfl) (ok_Model_of hv) ?_
    refine w_aload_n (q := 82) d_Model_law_81 rfl rfl ?_
    refine w_iload_n (q := 83) d_Model_law_82 rfl rfl ?_
    refine w_iconst (q := 84) (v := 2) d_Model_law_83 rfl (by decide) ?_
    obtain ⟨v15, hv, h⟩ := bnd h
    refine w_callVi (q := 87) (M' := M_Model_of) (n' := 0) (k := 54) (As := [.int x2, .int 2]) (sh' := SH) (b1 := (0, 0)) d_Model_law_84 rfl mw_Model_of (by decide) (by decide) ml_Model_305 (by decide) s_54 (by decide) rfl rfl rfl (leb rfl) (bz _) (fun _ => rfl) (ok_Model_of hv) ?_
    by_cases c16 : v14 = v15
    · rw [if_pos c16] at h
      refine w_icmp_ne_f (q := 90) d_Model_law_87 94 rfl rfl c16 ?_
      refine w_iconst (q := 91) (v := 1) d_Model_law_90 rfl (by decide) ?_
      refine w_goto (q := 95) d_Model_law_91 rfl ?_
      refine w_ls (ls' := [some (.ref 54), some (.int k1), some (.int x2), some (.int x3), some (.int x4), none]) (And.intro rfl (And.intro rfl (And.intro rfl (And.intro rfl (And.intro rfl trivial))))) ?_
      exact ok_Model_law_j95_25 h hr
    · rw [if_neg c16] at h
      refine w_icmp_ne_t (q := 94) d_Model_law_87 rfl c16 ?_
      refine w_ls (ls' := [some (.ref 54), some (.int k1), some (.int x2), some (.int x3), some (.int x4), none]) (And.intro rfl (And.intro rfl (And.intro rfl (And.intro rfl (And.intro rfl trivial))))) ?_
      exact ok_Model_law_j94_25 h hr
def st_Model_law_25 (F : Nat) (p0 : Int32) (g : Mem) (k1 : Int32) (m0 : Mem) (s : Int32 × Int32 × Int32) : Option ((Int32 × Int32 × Int32) ⊕ ((Int32 × Int32))) := if (m0 54 26) ≤ s.2.2 then some (.inr (s.1, s.2.1)) else (sp_Model_isOfKind s.2.2 0 k1 m0).bind fun v5 => if v5 = 0 then some (.inl (s.1, s.2.1, s.2.2 + 1)) else if s.1 = (-1) then sp_Model_law_j69_25 F p0 k1 m0 g s.1 s.2.1 s.2.2 else (sp_Model_of s.2.2 2 m0).bind fun v17 => (sp_Model_of s.1 2 m0).bind fun v18 => if v18 ≤ v17 then sp_Model_law_j69_25 F p0 k1 m0 g s.1 s.2.1 s.2.2 else some (.inl (s.1, s.2.1, s.2.2 + 1))
theorem kl_Model_law_25 {γ : GG} {tt : Bool} {F : Nat} {p0 : Int32} {g : Mem} {k1 : Int32} {m0 : Mem} {b : Nat × Nat} {Φ : PO} : ∀ (s : Int32 × Int32 × Int32) (r : (Int32 × Int32 × Int32) ⊕ ((Int32 × Int32))), st_Model_law_25 F p0 g k1 m0 s = some r → RQ (PL_Model_law_25 γ tt p0 g k1 m0 b Φ) (QL_Model_law_25 γ tt p0 g k1 m0 b Φ) r → PL_Model_law_25 γ tt p0 g k1 m0 b Φ s := by
  intro s r h hr
  unfold st_Model_law_25 at h
  unfold PL_Model_law_25
  refine w_iload (q := 27) d_Model_law_25 rfl rfl ?_
  refine w_aload_n (q := 28) d_Model_law_27 rfl rfl ?_
  refine w_get (q := 31) (ci := 12) (j := 26) d_Model_law_28 rfl (by decide) fl_Model_121 (by decide) (by decide) s_54 rfl rfl ?_
  by_cases c4 : (m0 54 26) ≤ s.2.2
  · rw [if_pos c4] at h
    refine w_icmp_ge_t (q := 137) d_Model_law_31 rfl c4 ?_
    cases h
    exact w_ls (by exact (And.intro rfl (And.intro rfl (And.intro rfl trivial)))) hr
  · rw [if_neg c4] at h
    refine w_icmp_ge_f (q := 34) d_Model_law_31 137 rfl rfl c4 ?_
    refine w_aload_n (q := 35) d_Model_law_34 rfl rfl ?_
    refine w_iload (q := 37) d_Model_law_35 rfl rfl ?_
    refine w_iconst (q := 38) (v := 0) d_Model_law_37 rfl (by decide) ?_
    refine w_iload_n (q := 39) d_Model_law_38 rfl rfl ?_
    obtain ⟨v5, hv, h⟩ := bnd h
    refine w_callVi (q := 42) (M' := M_Model_isOfKind) (n' := 2) (k := 54) (As := [.int s.2.2, .int 0, .int k1]) (sh' := SH) (b1 := (0, 0)) d_Model_law_39 rfl mw_Model_isOfKind (by decide) (by decide) ml_Model_396 (by decide) s_54 (by decide) rfl rfl rfl (leb rfl) (bz _) (fun _ => rfl) (ok_Model_isOfKind hv) ?_
    by_cases c6 : v5 = 0
    · rw [if_pos c6] at h
      refine w_if_eq_t (q := 131) d_Model_law_42 rfl c6 ?_
      refine w_iinc (q := 134) (ls' := [some (.ref 54), some (.int k1), some (.int s.1), some (.int s.2.1), some (.int (s.2.2 + 1)), none]) d_Model_law_131 rfl (by decide) rfl rfl rfl ?_
      refine w_goto (q := 25) d_Model_law_134 rfl ?_
      cases h
      exact w_ls (by exact (And.intro rfl (And.intro rfl (And.intro rfl (And.intro rfl (And.intro rfl trivial)))))) hr
    · rw [if_neg c6] at h
      refine w_if_eq_f (q := 45) d_Model_law_42 131 rfl rfl c6 ?_
      refine w_iload_n (q := 46) d_Model_law_45 rfl rfl ?_
      refine w_iconst (q := 47) (v := (-1)) d_Model_law_46 rfl (by decide) ?_
      by_cases c7 : s.1 = (-1)
      · rw [if_pos c7] at h
        refine w_icmp_eq_t (q := 69) d_Model_law_47 rfl c7 ?_
        refine w_ls (ls' := [some (.ref 54), some (.int k1), some (.int s.1), some (.int s.2.1), some (.int s.2.2), none]) (And.intro rfl (And.intro rfl (And.intro rfl (And.intro rfl (And.intro rfl trivial))))) ?_
        exact ok_Model_law_j69_25 h hr
      · rw [if_neg c7] at h
        refine w_icmp_eq_f (q := 50) d_Model_law_47 69 rfl rfl c7 ?_
        refine w_aload_n (q := 51) d_Model_law_50 rfl rfl ?_
        refine w_iload (q := 53) d_Model_law_51 rfl rfl ?_
        refine w_iconst (q := 54) (v := 2) d_Model_law_53 rfl (by decide) ?_
        obtain ⟨v17, hv, h⟩ := bnd h
        refine w_callVi (q := 57) (M' := M_Model_of) (n' := 0) (k := 54) (As := [.int s.2.2, .int 2]) (sh' := SH) (b1 := (0, 0)) d_Model_law_54 rfl mw_Model_of (by decide) (by decide) ml_Model_305 (by decide) s_54 (by decide) rfl rfl rfl (leb rfl) (bz _) (fun _ => rfl) (ok_Model_of hv) ?_
        refine w_aload_n (q := 58) d_Model_law_57 rfl rfl ?_
        refine w_iload_n (q := 59) d_Model_law_58 rfl rfl ?_
        refine w_iconst (q := 60) (v := 2) d_Model_law_59 rfl (by decide) ?_
        obtain ⟨v18, hv, h⟩ := bnd h
        refine w_callVi (q := 63) (M' := M_Model_of) (n' := 0) (k := 54) (As := [.int s.1, .int 2]) (sh' := SH) (b1 := (0, 0)) d_Model_law_60 rfl mw_Model_of (by decide) (by decide) ml_Model_305 (by decide) s_54 (by decide) rfl rfl rfl (leb rfl) (bz _) (fun _ => rfl) (ok_Model_of hv) ?_
        by_cases c19 : v18 ≤ v17
        · rw [if_pos c19] at h
          refine w_icmp_ge_t (q := 69) d_Model_law_63 rfl c19 ?_
          refine w_ls (ls' := [some (.ref 54), some (.int k1), some (.int s.1), some (.int s.2.1), some (.int s.2.2), none]) (And.intro rfl (And.intro rfl (And.intro rfl (And.intro rfl (And.intro rfl trivial))))) ?_
          exact ok_Model_law_j69_25 h hr
        · rw [if_neg c19] at h
          refine w_icmp_ge_f (q := 66) d_Model_law_63 69 rfl rfl c19 ?_
          refine w_goto (q := 131) d_Model_law_66 rfl ?_
          refine w_iinc (q := 134) (ls' := [some (.ref 54), some (.int k1), some (.int s.1), some (.int s.2.1), some (.int (s.2.2 + 1)), none]) d_Model_law_131 rfl (by decide) rfl rfl rfl ?_
          refine w_goto (q := 25) d_Model_law_134 rfl ?_
          cases h
          exact w_ls (by exact (And.intro rfl (And.intro rfl (And.intro rfl (And.intro rfl (And.intro rfl trivial)))))) hr
def sp_Model_law (F : Nat) (p0 : Int32) (g : Mem) : Option (Int32 × Mem) := (sp_Model_isAbout p0 (mset g 54 3 0)).bind fun v1 => if v1 = 0 then (sp_Model_fail 1 (mset g 54 3 0)).bind fun v3 => some (v3.1, v3.2) else (lpO (st_Model_law_25 F p0 g p0 (mset g 54 3 0)) F ((-1), 0, 0)).bind fun x20 => if x20.1 = (-1) then some ((-1), (mset g 54 3 0)) else if x20.2 = 0 then (sp_Model_of x20.1 4 (mset g 54 3 0)).bind fun v23 => some (v23, (mset g 54 3 0)) else some ((-2), (mset g 54 3 0))
theorem ok_Model_law {γ : GG} {tt : Bool} {F : Nat} {p0 : Int32} {g : Mem} {res : Int32 × Mem} (h : sp_Model_law F p0 g = some res) : CA γ M_Model_law 3 [.ref 54, .int p0] SH g tt (0, 0) (pI SH res.1 res.2 tt) := by
  refine CA.of mw_Model_law.1 4 rfl ?_
  show WA γ M_Model_law 3 0 [some (.ref 54), some (.int p0), none, none, none, none] [] SH g tt (0, 0) (pI SH res.1 res.2 tt)
  unfold sp_Model_law at h
  refine w_aload_n (q := 1) d_Model_law_0 rfl rfl ?_
  refine w_iconst (q := 2) (v := 0) d_Model_law_1 rfl (by decide) ?_
  refine w_put (q := 5) (ci := 12) (j := 3) d_Model_law_2 rfl (by decide) fl_Model_114 (by decide) (by decide) s_54 rfl rfl rfl rfl rfl rfl ?_
  refine w_iload_n (q := 6) d_Model_law_5 rfl rfl ?_
  obtain ⟨v1, hv, h⟩ := bnd h
  refine w_callSi (q := 9) (M' := M_Model_isAbout) (n' := 1) (As := [.int p0]) (sh' := SH) (b1 := (0, 0)) d_Model_law_6 rfl mw_Model_isAbout (by decide) (by decide) ml_Model_376 rfl rfl (leb rfl) (bz _) (fun _ => rfl) (ok_Model_isAbout hv) ?_
  by_cases c2 : v1 = 0
  · rw [if_pos c2] at h
    refine w_if_ne_f (q := 12) d_Model_law_9 18 rfl rfl c2 ?_
    refine w_aload_n (q := 13) d_Model_law_12 rfl rfl ?_
    refine w_iconst (q := 14) (v := 1) d_Model_law_13 rfl (by decide) ?_
    obtain ⟨v3, hv, h⟩ := bnd h
    refine w_callVi (q := 17) (M' := M_Model_fail) (n' := 0) (k := 54) (As := [.int 1]) (sh' := SH) (b1 := (0, 0)) d_Model_law_14 rfl mw_Model_fail (by decide) (by decide) ml_Model_273 (by decide) s_54 (by decide) rfl rfl rfl (leb rfl) (bz _) (fun _ => rfl) (ok_Model_fail hv) ?_
    cases h
    exact w_ireturn d_Model_law_17 rfl rfl ⟨rfl, rfl, rfl, rfl⟩
  · rw [if_neg c2] at h
    refine w_if_ne_t (q := 18) d_Model_law_9 rfl c2 ?_
    refine w_iconst (q := 19) (v := (-1)) d_Model_law_18 rfl (by decide) ?_
    refine w_istore_n (q := 20) (ls' := [some (.ref 54), some (.int p0), some (.int ((-1))), none, none, none]) d_Model_law_19 rfl (by decide) rfl rfl ?_
    refine w_iconst (q := 21) (v := 0) d_Model_law_20 rfl (by decide) ?_
    refine w_istore_n (q := 22) (ls' := [some (.ref 54), some (.int p0), some (.int ((-1))), some (.int 0), none, none]) d_Model_law_21 rfl (by decide) rfl rfl ?_
    refine w_iconst (q := 23) (v := 0) d_Model_law_22 rfl (by decide) ?_
    refine w_istore (q := 25) (ls' := [some (.ref 54), some (.int p0), some (.int ((-1))), some (.int 0), some (.int 0), none]) d_Model_law_23 rfl (by decide) rfl rfl ?_
    obtain ⟨x20, hx, h⟩ := bnd h
    refine w_ls (ls' := [some (.ref 54), some (.int p0), some (.int ((-1))), some (.int 0), some (.int 0), none]) (And.intro rfl (And.intro rfl (And.intro rfl (And.intro rfl (And.intro rfl trivial))))) ?_
    show PL_Model_law_25 γ tt p0 g p0 (mset g 54 3 0) _ _ ((-1), 0, 0)
    refine lp_ok (kl_Model_law_25) F _ x20 hx ?_
    unfold QL_Model_law_25
    refine w_iload_n (q := 138) d_Model_law_137 rfl rfl ?_
    refine w_iconst (q := 139) (v := (-1)) d_Model_law_138 rfl (by decide) ?_
    by_cases c21 : x20.1 = (-1)
    · rw [if_pos c21] at h
      refine w_icmp_ne_f (q := 142) d_Model_law_139 146 rfl rfl c21 ?_
      refine w_iconst (q := 143) (v := (-1)) d_Model_law_142 rfl (by decide) ?_
      refine w_goto (q := 161) d_Model_law_143 rfl ?_
      cases h
      exact w_ireturn d_Model_law_161 rfl rfl ⟨rfl, rfl, rfl, rfl⟩
    · rw [if_neg c21] at h
      refine w_icmp_ne_t (q := 146) d_Model_law_139 rfl c21 ?_
      refine w_iload_n (q := 147) d_Model_law_146 rfl rfl ?_
      by_cases c22 : x20.2 = 0
      · rw [if_pos c22] at h
        refine w_if_eq_t (q := 155) d_Model_law_147 rfl c22 ?_
        refine w_aload_n (q := 156) d_Model_law_155 rfl rfl ?_
        refine w_iload_n (q := 157) d_Model_law_156 rfl rfl ?_
        refine w_iconst (q := 158) (v := 4) d_Model_law_157 rfl (by decide) ?_
        obtain ⟨v23, hv, h⟩ := bnd h
        refine w_callVi (q := 161) (M' := M_Model_of) (n' := 0) (k := 54) (As := [.int x20.1, .int 4]) (sh' := SH) (b1 := (0, 0)) d_Model_law_158 rfl mw_Model_of (by decide) (by decide) ml_Model_305 (by decide) s_54 (by decide) rfl rfl rfl (leb rfl) (bz _) (fun _ => rfl) (ok_Model_of hv) ?_
        cases h
        exact w_ireturn d_Model_law_161 rfl rfl ⟨rfl, rfl, rfl, rfl⟩
      · rw [if_neg c22] at h
        refine w_if_eq_f (q := 150) d_Model_law_147 155 rfl rfl c22 ?_
        refine w_bipush (q := 152) (v := (-2)) d_Model_law_150 rfl (by decide) ?_
        refine w_goto (q := 161) d_Model_law_152 rfl ?_
        cases h
        exact w_ireturn d_Model_law_161 rfl rfl ⟨rfl, rfl, rfl, rfl⟩
