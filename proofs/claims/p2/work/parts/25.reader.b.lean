/-! functions and theorems of 25.reader (by program: wip/gen/main.py) -/
def sp_Reader_isBlank (p0 : Int32) (g : Mem) : Option (Int32) := if p0 = 32 then some 1 else if p0 = 10 then some 1 else some 0
theorem ok_Reader_isBlank {γ : GG} {sh : List Sh} {tt : Bool} {p0 : Int32} {g : Mem} {res : Int32} (h : sp_Reader_isBlank p0 g = some res) : CA γ M_Reader_isBlank 0 [.int p0] sh g tt (0, 0) (pI sh res g tt) := by
  refine CA.of mw_Reader_isBlank.1 0 rfl ?_
  show WA γ M_Reader_isBlank 0 0 [some (.int p0)] [] sh g tt (0, 0) (pI sh res g tt)
  unfold sp_Reader_isBlank at h
  refine w_iload_n (q := 1) d_Reader_isBlank_0 rfl rfl ?_
  refine w_bipush (q := 3) (v := 32) d_Reader_isBlank_1 rfl (by decide) ?_
  by_cases c1 : p0 = 32
  · rw [if_pos c1] at h
    refine w_icmp_eq_t (q := 12) d_Reader_isBlank_3 rfl c1 ?_
    refine w_iconst (q := 13) (v := 1) d_Reader_isBlank_12 rfl (by decide) ?_
    refine w_goto (q := 17) d_Reader_isBlank_13 rfl ?_
    cases h
    exact w_ireturn d_Reader_isBlank_17 rfl rfl ⟨rfl, rfl, rfl, rfl⟩
  · rw [if_neg c1] at h
    refine w_icmp_eq_f (q := 6) d_Reader_isBlank_3 12 rfl rfl c1 ?_
    refine w_iload_n (q := 7) d_Reader_isBlank_6 rfl rfl ?_
    refine w_bipush (q := 9) (v := 10) d_Reader_isBlank_7 rfl (by decide) ?_
    by_cases c2 : p0 = 10
    · rw [if_pos c2] at h
      refine w_icmp_ne_f (q := 12) d_Reader_isBlank_9 16 rfl rfl c2 ?_
      refine w_iconst (q := 13) (v := 1) d_Reader_isBlank_12 rfl (by decide) ?_
      refine w_goto (q := 17) d_Reader_isBlank_13 rfl ?_
      cases h
      exact w_ireturn d_Reader_isBlank_17 rfl rfl ⟨rfl, rfl, rfl, rfl⟩
    · rw [if_neg c2] at h
      refine w_icmp_ne_t (q := 16) d_Reader_isBlank_9 rfl c2 ?_
      refine w_iconst (q := 17) (v := 0) d_Reader_isBlank_16 rfl (by decide) ?_
      cases h
      exact w_ireturn d_Reader_isBlank_17 rfl rfl ⟨rfl, rfl, rfl, rfl⟩
def sp_Reader_isLetter (p0 : Int32) (g : Mem) : Option (Int32) := if p0 < 97 then some 0 else if 122 < p0 then some 0 else some 1
theorem ok_Reader_isLetter {γ : GG} {sh : List Sh} {tt : Bool} {p0 : Int32} {g : Mem} {res : Int32} (h : sp_Reader_isLetter p0 g = some res) : CA γ M_Reader_isLetter 0 [.int p0] sh g tt (0, 0) (pI sh res g tt) := by
  refine CA.of mw_Reader_isLetter.1 0 rfl ?_
  show WA γ M_Reader_isLetter 0 0 [some (.int p0)] [] sh g tt (0, 0) (pI sh res g tt)
  unfold sp_Reader_isLetter at h
  refine w_iload_n (q := 1) d_Reader_isLetter_0 rfl rfl ?_
  refine w_bipush (q := 3) (v := 97) d_Reader_isLetter_1 rfl (by decide) ?_
  by_cases c1 : p0 < 97
  · rw [if_pos c1] at h
    refine w_icmp_lt_t (q := 16) d_Reader_isLetter_3 rfl c1 ?_
    refine w_iconst (q := 17) (v := 0) d_Reader_isLetter_16 rfl (by decide) ?_
    cases h
    exact w_ireturn d_Reader_isLetter_17 rfl rfl ⟨rfl, rfl, rfl, rfl⟩
  · rw [if_neg c1] at h
    refine w_icmp_lt_f (q := 6) d_Reader_isLetter_3 16 rfl rfl c1 ?_
    refine w_iload_n (q := 7) d_Reader_isLetter_6 rfl rfl ?_
    refine w_bipush (q := 9) (v := 122) d_Reader_isLetter_7 rfl (by decide) ?_
    by_cases c2 : 122 < p0
    · rw [if_pos c2] at h
      refine w_icmp_gt_t (q := 16) d_Reader_isLetter_9 rfl c2 ?_
      refine w_iconst (q := 17) (v := 0) d_Reader_isLetter_16 rfl (by decide) ?_
      cases h
      exact w_ireturn d_Reader_isLetter_17 rfl rfl ⟨rfl, rfl, rfl, rfl⟩
    · rw [if_neg c2] at h
      refine w_icmp_gt_f (q := 12) d_Reader_isLetter_9 16 rfl rfl c2 ?_
      refine w_iconst (q := 13) (v := 1) d_Reader_isLetter_12 rfl (by decide) ?_
      refine w_goto (q := 17) d_Reader_isLetter_13 rfl ?_
      cases h
      exact w_ireturn d_Reader_isLetter_17 rfl rfl ⟨rfl, rfl, rfl, rfl⟩
def PL_Reader_takeWord_5 (γ : GG) (tt : Bool) (g : Mem) (b : Nat × Nat) (Φ : PO) (s : Int32 × Mem) : Prop := WA γ M_Reader_takeWord 5 5 [some (.ref 3), some (.int s.1), none, none, none, none] [] SH s.2 tt b Φ
def QL_Reader_takeWord_5 (γ : GG) (tt : Bool) (g : Mem) (b : Nat × Nat) (Φ : PO) (x : (Mem)) : Prop := WA γ M_Reader_takeWord 5 38 [some (.ref 3), none, none, none, none, none] [] SH x tt b Φ
def st_Reader_takeWord_5 (F : Nat) (g : Mem) (s : Int32 × Mem) : Option ((Int32 × Mem) ⊕ ((Mem))) := if (s.2 3 3) ≤ s.1 then some (.inr s.2) else (rd s.2 1 700 s.1).bind fun v2 => (sp_Reader_isLetter v2 s.2).bind fun v3 => if v3 = 0 then some (.inr s.2) else some (.inl (s.1 + 1, (mset s.2 3 5 (s.1 + 1))))
theorem kl_Reader_takeWord_5 {γ : GG} {tt : Bool} {F : Nat} {g : Mem} {b : Nat × Nat} {Φ : PO} : ∀ (s : Int32 × Mem) (r : (Int32 × Mem) ⊕ ((Mem))), st_Reader_takeWord_5 F g s = some r → RQ (PL_Reader_takeWord_5 γ tt g b Φ) (QL_Reader_takeWord_5 γ tt g b Φ) r → PL_Reader_takeWord_5 γ tt g b Φ s := by
  intro s r h hr
  unfold st_Reader_takeWord_5 at h
  unfold PL_Reader_takeWord_5
  refine w_iload_n (q := 6) d_Reader_takeWord_5 rfl rfl ?_
  refine w_aload_n (q := 7) d_Reader_takeWord_6 rfl rfl ?_
  refine w_get (q := 10) (ci := 6) (j := 3) d_Reader_takeWord_7 rfl (by decide) fl_Reader_37 (by decide) (by decide) s_3 rfl rfl ?_
  by_cases c1 : (s.2 3 3) ≤ s.1
  · rw [if_pos c1] at h
    refine w_icmp_ge_t (q := 38) d_Reader_takeWord_10 rfl c1 ?_
    cases h
    exact w_ls (by exact (And.intro rfl trivial)) hr
  · rw [if_neg c1] at h
    refine w_icmp_ge_f (q := 13) d_Reader_takeWord_10 38 rfl rfl c1 ?_
    refine w_aload_n (q := 14) d_Reader_takeWord_13 rfl rfl ?_
    refine w_get (q := 17) (ci := 6) (j := 2) d_Reader_takeWord_14 rfl (by decide) fl_Reader_27 (by decide) (by decide) s_3 rfl rfl ?_
    refine w_iload_n (q := 18) d_Reader_takeWord_17 rfl rfl ?_
    obtain ⟨v2, hv, h⟩ := bnd h
    obtain ⟨hi, hv⟩ := rd_ok hv
    refine w_bald (q := 19) d_Reader_takeWord_18 rfl a_1.2 a_1.1 hi ?_
    rw [hv]
    obtain ⟨v3, hv, h⟩ := bnd h
    refine w_callSi (q := 22) (M' := M_Reader_isLetter) (n' := 0) (As := [.int v2]) (sh' := SH) (b1 := (0, 0)) d_Reader_takeWord_19 rfl mw_Reader_isLetter (by decide) (by decide) ml_Reader_91 rfl rfl (leb rfl) (bz _) (fun _ => rfl) (ok_Reader_isLetter hv) ?_
    by_cases c4 : v3 = 0
    · rw [if_pos c4] at h
      refine w_if_eq_t (q := 38) d_Reader_takeWord_22 rfl c4 ?_
      cases h
      exact w_ls (by exact (And.intro rfl trivial)) hr
    · rw [if_neg c4] at h
      refine w_if_eq_f (q := 25) d_Reader_takeWord_22 38 rfl rfl c4 ?_
      refine w_aload_n (q := 26) d_Reader_takeWord_25 rfl rfl ?_
      refine w_iload_n (q := 27) d_Reader_takeWord_26 rfl rfl ?_
      refine w_iconst (q := 28) (v := 1) d_Reader_takeWord_27 rfl (by decide) ?_
      refine w_iadd (q := 29) d_Reader_takeWord_28 rfl ?_
      refine w_put (q := 32) (ci := 6) (j := 5) d_Reader_takeWord_29 rfl (by decide) fl_Reader_41 (by decide) (by decide) s_3 rfl rfl rfl rfl rfl rfl ?_
      refine w_iinc (q := 35) (ls' := [some (.ref 3), some (.int (s.1 + 1)), none, none, none, none]) d_Reader_takeWord_32 rfl (by decide) rfl rfl rfl ?_
      refine w_goto (q := 5) d_Reader_takeWord_35 rfl ?_
      cases h
      exact w_ls (by exact (And.intro rfl (And.intro rfl trivial))) hr
def PL_Reader_takeWord_57 (γ : GG) (tt : Bool) (g : Mem) (b : Nat × Nat) (Φ : PO) (s : Int32 × Int32 × Int32 × Int32 × Mem) : Prop := WA γ M_Reader_takeWord 5 57 [some (.ref 3), some (.int s.1), some (.int s.2.1), some (.int s.2.2.1), some (.int s.2.2.2.1), none] [] SH s.2.2.2.2 tt b Φ
def QL_Reader_takeWord_57 (γ : GG) (tt : Bool) (g : Mem) (b : Nat × Nat) (Φ : PO) (x : (Mem)) : Prop := WA γ M_Reader_takeWord 5 151 [none, none, none, none, none, none] [] SH x tt b Φ
def sp_Reader_takeWord_j135_57 (F : Nat) (g : Mem) (m0 : Mem) (x1 : Int32) (x4 : Int32) : Option ((Int32 × Int32 × Int32 × Int32 × Mem) ⊕ ((Mem))) := some (.inl (x1 + 1, m0 3 4, 1, x4 + 1, m0))
theorem ok_Reader_takeWord_j135_57 {γ : GG} {tt : Bool} {F : Nat} {g : Mem} {m0 : Mem} {x1 : Int32} {x4 : Int32} {b : Nat × Nat} {Φ : PO} {r : (Int32 × Int32 × Int32 × Int32 × Mem) ⊕ ((Mem))} (h : sp_Reader_takeWord_j135_57 F g m0 x1 x4 = some r) (hr : RQ (PL_Reader_takeWord_57 γ tt g b Φ) (QL_Reader_takeWord_57 γ tt g b Φ) r) : WA γ M_Reader_takeWord 5 135 [some (.ref 3), some (.int x1), none, none, some (.int x4), none] [] SH m0 tt b Φ := by
  unfold sp_Reader_takeWord_j135_57 at h
  refine w_iinc (q := 138) (ls' := [some (.ref 3), some (.int (x1 + 1)), none, none, some (.int x4), none]) d_Reader_takeWord_135 rfl (by decide) rfl rfl rfl ?_
  refine w_aload_n (q := 139) d_Reader_takeWord_138 rfl rfl ?_
  refine w_get (q := 142) (ci := 6) (j := 4) d_Reader_takeWord_139 rfl (by decide) fl_Reader_84 (by decide) (by decide) s_3 rfl rfl ?_
  refine w_istore_n (q := 143) (ls' := [some (.ref 3), some (.int (x1 + 1)), some (.int (m0 3 4)), none, some (.int x4), none]) d_Reader_takeWord_142 rfl (by decide) rfl rfl ?_
  refine w_iconst (q := 144) (v := 1) d_Reader_takeWord_143 rfl (by decide) ?_
  refine w_istore_n (q := 145) (ls' := [some (.ref 3), some (.int (x1 + 1)), some (.int (m0 3 4)), some (.int 1), some (.int x4), none]) d_Reader_takeWord_144 rfl (by decide) rfl rfl ?_
  refine w_iinc (q := 148) (ls' := [some (.ref 3), some (.int (x1 + 1)), some (.int (m0 3 4)), some (.int 1), some (.int (x4 + 1)), none]) d_Reader_takeWord_145 rfl (by decide) rfl rfl rfl ?_
  refine w_goto (q := 57) d_Reader_takeWord_148 rfl ?_
  cases h
  exact w_ls (by exact (And.intro rfl (And.intro rfl (And.intro rfl (And.intro rfl (And.intro rfl trivial)))))) hr
def st_Reader_takeWord_57 (F : Nat) (g : Mem) (s : Int32 × Int32 × Int32 × Int32 × Mem) : Option ((Int32 × Int32 × Int32 × Int32 × Mem) ⊕ ((Mem))) := if (slen 1) ≤ s.2.2.2.1 then some (.inr s.2.2.2.2) else (sch 1 s.2.2.2.1).bind fun v7 => if v7 = 32 then if s.2.2.1 = 0 then sp_Reader_takeWord_j135_57 F g s.2.2.2.2 s.1 s.2.2.2.1 else if s.2.1 = (s.2.2.2.2 3 5) then sp_Reader_takeWord_j135_57 F g (mset s.2.2.2.2 3 6 s.1) s.1 s.2.2.2.1 else sp_Reader_takeWord_j135_57 F g s.2.2.2.2 s.1 s.2.2.2.1 else if s.2.2.1 = 0 then some (.inl (s.1, s.2.1 + 1, 0, s.2.2.2.1 + 1, s.2.2.2.2)) else if (s.2.2.2.2 3 5) ≤ s.2.1 then some (.inl (s.1, s.2.1 + 1, 0, s.2.2.2.1 + 1, s.2.2.2.2)) else (rd s.2.2.2.2 1 700 s.2.1).bind fun v13 => if v13 = v7 then some (.inl (s.1, s.2.1 + 1, 1, s.2.2.2.1 + 1, s.2.2.2.2)) else some (.inl (s.1, s.2.1 + 1, 0, s.2.2.2.1 + 1, s.2.2.2.2))
theorem kl_Reader_takeWord_57 {γ : GG} {tt : Bool} {F : Nat} {g : Mem} {b : Nat × Nat} {Φ : PO} : ∀ (s : Int32 × Int32 × Int32 × Int32 × Mem) (r : (Int32 × Int32 × Int32 × Int32 × Mem) ⊕ ((Mem))), st_Reader_takeWord_57 F g s = some r → RQ (PL_Reader_takeWord_57 γ tt g b Φ) (QL_Reader_takeWord_57 γ tt g b Φ) r → PL_Reader_takeWord_57 γ tt g b Φ s := by
  intro s r h hr
  unfold st_Reader_takeWord_57 at h
  unfold PL_Reader_takeWord_57
  refine w_iload (q := 59) d_Reader_takeWord_57 rfl rfl ?_
  refine w_ldcS (q := 61) (j := 1) d_Reader_takeWord_59 rfl (by decide) rfl ?_
  refine w_callKi (q := 64) (M' := M_JString_length) (n' := 3) (j := 1) (As := []) d_Reader_takeWord_61 rfl mw_JString_length (by decide) (by decide) ml_Reader_108 (by decide) rfl rfl rfl (leb rfl) (ok_JString_length (by decide)) ?_
  by_cases c6 : (slen 1) ≤ s.2.2.2.1
  · rw [if_pos c6] at h
    refine w_icmp_ge_t (q := 151) d_Reader_takeWord_64 rfl c6 ?_
    cases h
    exact w_ls (by exact trivial) hr
  · rw [if_neg c6] at h
    refine w_icmp_ge_f (q := 67) d_Reader_takeWord_64 151 rfl rfl c6 ?_
    refine w_ldcS (q := 69) (j := 1) d_Reader_takeWord_67 rfl (by decide) rfl ?_
    refine w_iload (q := 71) d_Reader_takeWord_69 rfl rfl ?_
    obtain ⟨v7, hv, h⟩ := bnd h
    refine w_callKi (q := 74) (M' := M_JString_charAt) (n' := 4) (j := 1) (As := [.int s.2.2.2.1]) d_Reader_takeWord_71 rfl mw_JString_charAt (by decide) (by decide) ml_Reader_113 (by decide) rfl rfl rfl (leb rfl) (ok_JString_charAt (by decide) hv) ?_
    refine w_istore (q := 76) (ls' := [some (.ref 3), some (.int s.1), some (.int s.2.1), some (.int s.2.2.1), some (.int s.2.2.2.1), some (.int v7)]) d_Reader_takeWord_74 rfl (by decide) rfl rfl ?_
    refine w_iload (q := 78) d_Reader_takeWord_76 rfl rfl ?_
    refine w_bipush (q := 80) (v := 32) d_Reader_takeWord_78 rfl (by decide) ?_
    by_cases c8 : v7 = 32
    · rw [if_pos c8] at h
      refine w_icmp_eq_t (q := 118) d_Reader_takeWord_80 rfl c8 ?_
      refine w_iload_n (q := 119) d_Reader_takeWord_118 rfl rfl ?_
      by_cases c9 : s.2.2.1 = 0
      · rw [if_pos c9] at h
        refine w_if_eq_t (q := 135) d_Reader_takeWord_119 rfl c9 ?_
        refine w_ls (ls' := [some (.ref 3), some (.int s.1), none, none, some (.int s.2.2.2.1), none]) (And.intro rfl (And.intro rfl (And.intro rfl trivial))) ?_
        exact ok_Reader_takeWord_j135_57 h hr
      · rw [if_neg c9] at h
        refine w_if_eq_f (q := 122) d_Reader_takeWord_119 135 rfl rfl c9 ?_
        refine w_iload_n (q := 123) d_Reader_takeWord_122 rfl rfl ?_
        refine w_aload_n (q := 124) d_Reader_takeWord_123 rfl rfl ?_
        refine w_get (q := 127) (ci := 6) (j := 5) d_Reader_takeWord_124 rfl (by decide) fl_Reader_41 (by decide) (by decide) s_3 rfl rfl ?_
        by_cases c10 : s.2.1 = (s.2.2.2.2 3 5)
        · rw [if_pos c10] at h
          refine w_icmp_ne_f (q := 130) d_Reader_takeWord_127 135 rfl rfl c10 ?_
          refine w_aload_n (q := 131) d_Reader_takeWord_130 rfl rfl ?_
          refine w_iload_n (q := 132) d_Reader_takeWord_131 rfl rfl ?_
          refine w_put (q := 135) (ci := 6) (j := 6) d_Reader_takeWord_132 rfl (by decide) fl_Reader_62 (by decide) (by decide) s_3 rfl rfl rfl rfl rfl rfl ?_
          refine w_ls (ls' := [some (.ref 3), some (.int s.1), none, none, some (.int s.2.2.2.1), none]) (And.intro rfl (And.intro rfl (And.intro rfl trivial))) ?_
          exact ok_Reader_takeWord_j135_57 h hr
        · rw [if_neg c10] at h
          refine w_icmp_ne_t (q := 135) d_Reader_takeWord_127 rfl c10 ?_
          refine w_ls (ls' := [some (.ref 3), some (.int s.1), none, none, some (.int s.2.2.2.1), none]) (And.intro rfl (And.intro rfl (And.intro rfl trivial))) ?_
          exact ok_Reader_takeWord_j135_57 h hr
    · rw [if_neg c8] at h
      refine w_icmp_eq_f (q := 83) d_Reader_takeWord_80 118 rfl rfl c8 ?_
      refine w_iload_n (q := 84) d_Reader_takeWord_83 rfl rfl ?_
      by_cases c11 : s.2.2.1 = 0
      · rw [if_pos c11] at h
        refine w_if_eq_t (q := 110) d_Reader_takeWord_84 rfl c11 ?_
        refine w_iconst (q := 111) (v := 0) d_Reader_takeWord_110 rfl (by decide) ?_
        refine w_istore_n (q := 112) (ls' := [some (.ref 3), some (.int s.1), some (.int s.2.1), some (.int 0), some (.int s.2.2.2.1), some (.int v7)]) d_Reader_takeWord_111 rfl (by decide) rfl rfl ?_
        refine w_iinc (q := 115) (ls' := [some (.ref 3), some (.int s.1), some (.int (s.2.1 + 1)), some (.int 0), some (.int s.2.2.2.1), some (.int v7)]) d_Reader_takeWord_112 rfl (by decide) rfl rfl rfl ?_
        refine w_goto (q := 145) d_Reader_takeWord_115 rfl ?_
        refine w_iinc (q := 148) (ls' := [some (.ref 3), some (.int s.1), some (.int (s.2.1 + 1)), some (.int 0), some (.int (s.2.2.2.1 + 1)), some (.int v7)]) d_Reader_takeWord_145 rfl (by decide) rfl rfl rfl ?_
        refine w_goto (q := 57) d_Reader_takeWord_148 rfl ?_
        cases h
        exact w_ls (by exact (And.intro rfl (And.intro rfl (And.intro rfl (And.intro rfl (And.intro rfl trivial)))))) hr
      · rw [if_neg c11] at h
        refine w_if_eq_f (q := 87) d_Reader_takeWord_84 110 rfl rfl c11 ?_
        refine w_iload_n (q := 88) d_Reader_takeWord_87 rfl rfl ?_
        refine w_aload_n (q := 89) d_Reader_takeWord_88 rfl rfl ?_
        refine w_get (q := 92) (ci := 6) (j := 5) d_Reader_takeWord_89 rfl (by decide) fl_Reader_41 (by decide) (by decide) s_3 rfl rfl ?_
        by_cases c12 : (s.2.2.2.2 3 5) ≤ s.2.1
        · rw [if_pos c12] at h
          refine w_icmp_ge_t (q := 110) d_Reader_takeWord_92 rfl c12 ?_
          refine w_iconst (q := 111) (v := 0) d_Reader_takeWord_110 rfl (by decide) ?_
          refine w_istore_n (q := 112) (ls' := [some (.ref 3), some (.int s.1), some (.int s.2.1), some (.int 0), some (.int s.2.2.2.1), some (.int v7)]) d_Reader_takeWord_111 rfl (by decide) rfl rfl ?_
          refine w_iinc (q := 115) (ls' := [some (.ref 3), some (.int s.1), some (.int (s.2.1 + 1)), some (.int 0), some (.int s.2.2.2.1), some (.int v7)]) d_Reader_takeWord_112 rfl (by decide) rfl rfl rfl ?_
          refine w_goto (q := 145) d_Reader_takeWord_115 rfl ?_
          refine w_iinc (q := 148) (ls' := [some (.ref 3), some (.int s.1), some (.int (s.2.1 + 1)), some (.int 0), some (.int (s.2.2.2.1 + 1)), some (.int v7)]) d_Reader_takeWord_145 rfl (by decide) rfl rfl rfl ?_
          refine w_goto (q := 57) d_Reader_takeWord_148 rfl ?_
          cases h
          exact w_ls (by exact (And.intro rfl (And.intro rfl (And.intro rfl (And.intro rfl (And.intro rfl trivial)))))) hr
        · rw [if_neg c12] at h
          refine w_icmp_ge_f (q := 95) d_Reader_takeWord_92 110 rfl rfl c12 ?_
          refine w_aload_n (q := 96) d_Reader_takeWord_95 rfl rfl ?_
          refine w_get (q := 99) (ci := 6) (j := 2) d_Reader_takeWord_96 rfl (by decide) fl_Reader_27 (by decide) (by decide) s_3 rfl rfl ?_
          refine w_iload_n (q := 100) d_Reader_takeWord_99 rfl rfl ?_
          obtain ⟨v13, hv, h⟩ := bnd h
          obtain ⟨hi, hv⟩ := rd_ok hv
          refine w_bald (q := 101) d_Reader_takeWord_100 rfl a_1.2 a_1.1 hi ?_
          rw [hv]
          refine w_iload (q := 103) d_Reader_takeWord_101 rfl rfl ?_
          by_cases c14 : v13 = v7
          · rw [if_pos c14] at h
            refine w_icmp_ne_f (q := 106) d_Reader_takeWord_103 110 rfl rfl c14 ?_
            refine w_iconst (q := 107) (v := 1) d_Reader_takeWord_106 rfl (by decide) ?_
            refine w_goto (q := 111) d_Reader_takeWord_107 rfl ?_
            refine w_istore_n (q := 112) (ls' := [some (.ref 3), some (.int s.1), some (.int s.2.1), some (.int 1), some (.int s.2.2.2.1), some (.int v7)]) d_Reader_takeWord_111 rfl (by decide) rfl rfl ?_
            refine w_iinc (q := 115) (ls' := [some (.ref 3), some (.int s.1), some (.int (s.2.1 + 1)), some (.int 1), some (.int s.2.2.2.1), some (.int v7)]) d_Reader_takeWord_112 rfl (by decide) rfl rfl rfl ?_
            refine w_goto (q := 145) d_Reader_takeWord_115 rfl ?_
            refine w_iinc (q := 148) (ls' := [some (.ref 3), some (.int s.1), some (.int (s.2.1 + 1)), some (.int 1), some (.int (s.2.2.2.1 + 1)), some (.int v7)]) d_Reader_takeWord_145 rfl (by decide) rfl rfl rfl ?_
            refine w_goto (q := 57) d_Reader_takeWord_148 rfl ?_
            cases h
            exact w_ls (by exact (And.intro rfl (And.intro rfl (And.intro rfl (And.intro rfl (And.intro rfl trivial)))))) hr
          · rw [if_neg c14] at h
            refine w_icmp_ne_t (q := 110) d_Reader_takeWord_103 rfl c14 ?_
            refine w_iconst (q := 111) (v := 0) d_Reader_takeWord_110 rfl (by decide) ?_
            refine w_istore_n (q := 112) (ls' := [some (.ref 3), some (.int s.1), some (.int s.2.1), some (.int 0), some (.int s.2.2.2.1), some (.int v7)]) d_Reader_takeWord_111 rfl (by decide) rfl rfl ?_
            refine w_iinc (q := 115) (ls' := [some (.ref 3), some (.int s.1), some (.int (s.2.1 + 1)), some (.int 0), some (.int s.2.2.2.1), some (.int v7)]) d_Reader_takeWord_112 rfl (by decide) rfl rfl rfl ?_
            refine w_goto (q := 145) d_Reader_takeWord_115 rfl ?_
            refine w_iinc (q := 148) (ls' := [some (.ref 3), some (.int s.1), some (.int (s.2.1 + 1)), some (.int 0), some (.int (s.2.2.2.1 + 1)), some (.int v7)]) d_Reader_takeWord_145 rfl (by decide) rfl rfl rfl ?_
            refine w_goto (q := 57) d_Reader_takeWord_148 rfl ?_
            cases h
            exact w_ls (by exact (And.intro rfl (And.intro rfl (And.intro rfl (And.intro rfl (And.intro rfl trivial)))))) hr
def sp_Reader_takeWord_j38 (F : Nat) (g : Mem) (m0 : Mem) : Option (Mem) := (lpO (st_Reader_takeWord_57 F g) F (101, (mset m0 3 6 100) 3 4, 1, 0, (mset m0 3 6 100))).bind fun x15 => some x15
theorem ok_Reader_takeWord_j38 {γ : GG} {tt : Bool} {F : Nat} {g : Mem} {m0 : Mem} {res : Mem} (h : sp_Reader_takeWord_j38 F g m0  = some res) : WA γ M_Reader_takeWord 5 38 [some (.ref 3), none, none, none, none, none] [] SH m0 tt (0, 0) (pV SH res tt) := by
  unfold sp_Reader_takeWord_j38 at h
  refine w_aload_n (q := 39) d_Reader_takeWord_38 rfl rfl ?_
  refine w_bipush (q := 41) (v := 100) d_Reader_takeWord_39 rfl (by decide) ?_
  refine w_put (q := 44) (ci := 6) (j := 6) d_Reader_takeWord_41 rfl (by decide) fl_Reader_62 (by decide) (by decide) s_3 rfl rfl rfl rfl rfl rfl ?_
  refine w_bipush (q := 46) (v := 101) d_Reader_takeWord_44 rfl (by decide) ?_
  refine w_istore_n (q := 47) (ls' := [some (.ref 3), some (.int 101), none, none, none, none]) d_Reader_takeWord_46 rfl (by decide) rfl rfl ?_
  refine w_aload_n (q := 48) d_Reader_takeWord_47 rfl rfl ?_
  refine w_get (q := 51) (ci := 6) (j := 4) d_Reader_takeWord_48 rfl (by decide) fl_Reader_84 (by decide) (by decide) s_3 rfl rfl ?_
  refine w_istore_n (q := 52) (ls' := [some (.ref 3), some (.int 101), some (.int ((mset m0 3 6 100) 3 4)), none, none, none]) d_Reader_takeWord_51 rfl (by decide) rfl rfl ?_
  refine w_iconst (q := 53) (v := 1) d_Reader_takeWord_52 rfl (by decide) ?_
  refine w_istore_n (q := 54) (ls' := [some (.ref 3), some (.int 101), some (.int ((mset m0 3 6 100) 3 4)), some (.int 1), none, none]) d_Reader_takeWord_53 rfl (by decide) rfl rfl ?_
  refine w_iconst (q := 55) (v := 0) d_Reader_takeWord_54 rfl (by decide) ?_
  refine w_istore (q := 57) (ls' := [some (.ref 3), some (.int 101), some (.int ((mset m0 3 6 100) 3 4)), some (.int 1), some (.int 0), none]) d_Reader_takeWord_55 rfl (by decide) rfl rfl ?_
  obtain ⟨x15, hx, h⟩ := bnd h
  refine w_ls (ls' := [some (.ref 3), some (.int 101), some (.int ((mset m0 3 6 100) 3 4)), some (.int 1), some (.int 0), none]) (And.intro rfl (And.intro rfl (And.intro rfl (And.intro rfl (And.intro rfl trivial))))) ?_
  show PL_Reader_takeWord_57 γ tt g _ _ (101, (mset m0 3 6 100) 3 4, 1, 0, (mset m0 3 6 100))
  refine lp_ok (kl_Reader_takeWord_57) F _ x15 hx ?_
  unfold QL_Reader_takeWord_57
  cases h
  exact w_return d_Reader_takeWord_151 rfl ⟨rfl, rfl, rfl, rfl⟩
def sp_Reader_takeWord (F : Nat) (g : Mem) : Option (Mem) := (lpO (st_Reader_takeWord_5 F g) F (g 3 4, g)).bind fun x5 => sp_Reader_takeWord_j38 F g x5
theorem ok_Reader_takeWord {γ : GG} {tt : Bool} {F : Nat} {g : Mem} {res : Mem} (h : sp_Reader_takeWord F g = some res) : CA γ M_Reader_takeWord 5 [.ref 3] SH g tt (0, 0) (pV SH res tt) := by
  refine CA.of mw_Reader_takeWord.1 5 rfl ?_
  show WA γ M_Reader_takeWord 5 0 [some (.ref 3), none, none, none, none, none] [] SH g tt (0, 0) (pV SH res tt)
  unfold sp_Reader_takeWord at h
  refine w_aload_n (q := 1) d_Reader_takeWord_0 rfl rfl ?_
  refine w_get (q := 4) (ci := 6) (j := 4) d_Reader_takeWord_1 rfl (by decide) fl_Reader_84 (by decide) (by decide) s_3 rfl rfl ?_
  refine w_istore_n (q := 5) (ls' := [some (.ref 3), some (.int (g 3 4)), none, none, none, none]) d_Reader_takeWord_4 rfl (by decide) rfl rfl ?_
  obtain ⟨x5, hx, h⟩ := bnd h
  refine w_ls (ls' := [some (.ref 3), some (.int (g 3 4)), none, none, none, none]) (And.intro rfl (And.intro rfl trivial)) ?_
  show PL_Reader_takeWord_5 γ tt g _ _ (g 3 4, g)
  refine lp_ok (kl_Reader_takeWord_5) F _ x5 hx ?_
  unfold QL_Reader_takeWord_5
  refine w_ls (ls' := [some (.ref 3), none, none, none, none, none]) (And.intro rfl trivial) ?_
  exact ok_Reader_takeWord_j38 h
def sp_Reader_isDigit (p0 : Int32) (g : Mem) : Option (Int32) := if p0 < 48 then some 0 else if 57 < p0 then some 0 else some 1
theorem ok_Reader_isDigit {γ : GG} {sh : List Sh} {tt : Bool} {p0 : Int32} {g : Mem} {res : Int32} (h : sp_Reader_isDigit p0 g = some res) : CA γ M_Reader_isDigit 0 [.int p0] sh g tt (0, 0) (pI sh res g tt) := by
  refine CA.of mw_Reader_isDigit.1 0 rfl ?_
  show WA γ M_Reader_isDigit 0 0 [some (.int p0)] [] sh g tt (0, 0) (pI sh res g tt)
  unfold sp_Reader_isDigit at h
  refine w_iload_n (q := 1) d_Reader_isDigit_0 rfl rfl ?_
  refine w_bipush (q := 3) (v := 48) d_Reader_isDigit_1 rfl (by decide) ?_
  by_cases c1 : p0 < 48
  · rw [if_pos c1] at h
    refine w_icmp_lt_t (q := 16) d_Reader_isDigit_3 rfl c1 ?_
    refine w_iconst (q := 17) (v := 0) d_Reader_isDigit_16 rfl (by decide) ?_
    cases h
    exact w_ireturn d_Reader_isDigit_17 rfl rfl ⟨rfl, rfl, rfl, rfl⟩
  · rw [if_neg c1] at h
    refine w_icmp_lt_f (q := 6) d_Reader_isDigit_3 16 rfl rfl c1 ?_
    refine w_iload_n (q := 7) d_Reader_isDigit_6 rfl rfl ?_
    refine w_bipush (q := 9) (v := 57) d_Reader_isDigit_7 rfl (by decide) ?_
    by_cases c2 : 57 < p0
    · rw [if_pos c2] at h
      refine w_icmp_gt_t (q := 16) d_Reader_isDigit_9 rfl c2 ?_
      refine w_iconst (q := 17) (v := 0) d_Reader_isDigit_16 rfl (by decide) ?_
      cases h
      exact w_ireturn d_Reader_isDigit_17 rfl rfl ⟨rfl, rfl, rfl, rfl⟩
    · rw [if_neg c2] at h
      refine w_icmp_gt_f (q := 12) d_Reader_isDigit_9 16 rfl rfl c2 ?_
      refine w_iconst (q := 13) (v := 1) d_Reader_isDigit_12 rfl (by decide) ?_
      refine w_goto (q := 17) d_Reader_isDigit_13 rfl ?_
      cases h
      exact w_ireturn d_Reader_isDigit_17 rfl rfl ⟨rfl, rfl, rfl, rfl⟩
def PL_Reader_takeDigits_10 (γ : GG) (tt : Bool) (g : Mem) (b : Nat × Nat) (Φ : PO) (s : Int32 × Mem) : Prop := WA γ M_Reader_takeDigits 1 10 [some (.ref 3), some (.int s.1)] [] SH s.2 tt b Φ
def QL_Reader_takeDigits_10 (γ : GG) (tt : Bool) (g : Mem) (b : Nat × Nat) (Φ : PO) (x : (Mem)) : Prop := WA γ M_Reader_takeDigits 1 64 [some (.ref 3), none] [] SH x tt b Φ
def st_Reader_takeDigits_10 (F : Nat) (g : Mem) (s : Int32 × Mem) : Option ((Int32 × Mem) ⊕ ((Mem))) := if (s.2 3 3) ≤ s.1 then some (.inr s.2) else (rd s.2 1 700 s.1).bind fun v2 => (sp_Reader_isDigit v2 s.2).bind fun v3 => if v3 = 0 then some (.inr s.2) else (rd s.2 1 700 s.1).bind fun v5 => some (.inl (s.1 + 1, (mset (mset s.2 3 7 ((((s.2 3 7) * 10) + v5) - 48)) 3 5 (s.1 + 1))))
theorem kl_Reader_takeDigits_10 {γ : GG} {tt : Bool} {F : Nat} {g : Mem} {b : Nat × Nat} {Φ : PO} : ∀ (s : Int32 × Mem) (r : (Int32 × Mem) ⊕ ((Mem))), st_Reader_takeDigits_10 F g s = some r → RQ (PL_Reader_takeDigits_10 γ tt g b Φ) (QL_Reader_takeDigits_10 γ tt g b Φ) r → PL_Reader_takeDigits_10 γ tt g b Φ s := by
  intro s r h hr
  unfold st_Reader_takeDigits_10 at h
  unfold PL_Reader_takeDigits_10
  refine w_iload_n (q := 11) d_Reader_takeDigits_10 rfl rfl ?_
  refine w_aload_n (q := 12) d_Reader_takeDigits_11 rfl rfl ?_
  refine w_get (q := 15) (ci := 6) (j := 3) d_Reader_takeDigits_12 rfl (by decide) fl_Reader_37 (by decide) (by decide) s_3 rfl rfl ?_
  by_cases c1 : (s.2 3 3) ≤ s.1
  · rw [if_pos c1] at h
    refine w_icmp_ge_t (q := 64) d_Reader_takeDigits_15 rfl c1 ?_
    cases h
    exact w_ls (by exact (And.intro rfl trivial)) hr
  · rw [if_neg c1] at h
    refine w_icmp_ge_f (q := 18) d_Reader_takeDigits_15 64 rfl rfl c1 ?_
    refine w_aload_n (q := 19) d_Reader_takeDigits_18 rfl rfl ?_
    refine w_get (q := 22) (ci := 6) (j := 2) d_Reader_takeDigits_19 rfl (by decide) fl_Reader_27 (by decide) (by decide) s_3 rfl rfl ?_
    refine w_iload_n (q := 23) d_Reader_takeDigits_22 rfl rfl ?_
    obtain ⟨v2, hv, h⟩ := bnd h
    obtain ⟨hi, hv⟩ := rd_ok hv
    refine w_bald (q := 24) d_Reader_takeDigits_23 rfl a_1.2 a_1.1 hi ?_
    rw [hv]
    obtain ⟨v3, hv, h⟩ := bnd h
    refine w_callSi (q := 27) (M' := M_Reader_isDigit) (n' := 0) (As := [.int v2]) (sh' := SH) (b1 := (0, 0)) d_Reader_takeDigits_24 rfl mw_Reader_isDigit (by decide) (by decide) ml_Reader_97 rfl rfl (leb rfl) (bz _) (fun _ => rfl) (ok_Reader_isDigit hv) ?_
    by_cases c4 : v3 = 0
    · rw [if_pos c4] at h
      refine w_if_eq_t (q := 64) d_Reader_takeDigits_27 rfl c4 ?_
      cases h
      exact w_ls (by exact (And.intro rfl trivial)) hr
    · rw [if_neg c4] at h
      refine w_if_eq_f (q := 30) d_Reader_takeDigits_27 64 rfl rfl c4 ?_
      refine w_aload_n (q := 31) d_Reader_takeDigits_30 rfl rfl ?_
      refine w_aload_n (q := 32) d_Reader_takeDigits_31 rfl rfl ?_
      refine w_get (q := 35) (ci := 6) (j := 7) d_Reader_takeDigits_32 rfl (by decide) fl_Reader_117 (by decide) (by decide) s_3 rfl rfl ?_
      refine w_bipush (q := 37) (v := 10) d_Reader_takeDigits_35 rfl (by decide) ?_
      refine w_imul (q := 38) d_Reader_takeDigits_37 rfl ?_
      refine w_aload_n (q := 39) d_Reader_takeDigits_38 rfl rfl ?_
      refine w_get (q := 42) (ci := 6) (j := 2) d_Reader_takeDigits_39 rfl (by decide) fl_Reader_27 (by decide) (by decide) s_3 rfl rfl ?_
      refine w_iload_n (q := 43) d_Reader_takeDigits_42 rfl rfl ?_
      obtain ⟨v5, hv, h⟩ := bnd h
      obtain ⟨hi, hv⟩ := rd_ok hv
      refine w_bald (q := 44) d_Reader_takeDigits_43 rfl a_1.2 a_1.1 hi ?_
      rw [hv]
      refine w_iadd (q := 45) d_Reader_takeDigits_44 rfl ?_
      refine w_bipush (q := 47) (v := 48) d_Reader_takeDigits_45 rfl (by decide) ?_
      refine w_isub (q := 48) d_Reader_takeDigits_47 rfl ?_
      refine w_put (q := 51) (ci := 6) (j := 7) d_Reader_takeDigits_48 rfl (by decide) fl_Reader_117 (by decide) (by decide) s_3 rfl rfl rfl rfl rfl rfl ?_
      refine w_aload_n (q := 52) d_Reader_takeDigits_51 rfl rfl ?_
      refine w_iload_n (q := 53) d_Reader_takeDigits_52 rfl rfl ?_
      refine w_iconst (q := 54) (v := 1) d_Reader_takeDigits_53 rfl (by decide) ?_
      refine w_iadd (q := 55) d_Reader_takeDigits_54 rfl ?_
      refine w_put (q := 58) (ci := 6) (j := 5) d_Reader_takeDigits_55 rfl (by decide) fl_Reader_41 (by decide) (by decide) s_3 rfl rfl rfl rfl rfl rfl ?_
      refine w_iinc (q := 61) (ls' := [some (.ref 3), some (.int (s.1 + 1))]) d_Reader_takeDigits_58 rfl (by decide) rfl rfl rfl ?_
      refine w_goto (q := 10) d_Reader_takeDigits_61 rfl ?_
      cases h
      exact w_ls (by exact (And.intro rfl (And.intro rfl trivial))) hr
def sp_Reader_takeDigits_j64 (F : Nat) (g : Mem) (m0 : Mem) : Option (Mem) := if ((m0 3 5) - (m0 3 4)) ≤ 4 then some (mset m0 3 6 3) else some (mset m0 3 6 4)
theorem ok_Reader_takeDigits_j64 {γ : GG} {tt : Bool} {F : Nat} {g : Mem} {m0 : Mem} {res : Mem} (h : sp_Reader_takeDigits_j64 F g m0  = some res) : WA γ M_Reader_takeDigits 1 64 [some (.ref 3), none] [] SH m0 tt (0, 0) (pV SH res tt) := by
  unfold sp_Reader_takeDigits_j64 at h
  refine w_aload_n (q := 65) d_Reader_takeDigits_64 rfl rfl ?_
  refine w_aload_n (q := 66) d_Reader_takeDigits_65 rfl rfl ?_
  refine w_get (q := 69) (ci := 6) (j := 5) d_Reader_takeDigits_66 rfl (by decide) fl_Reader_41 (by decide) (by decide) s_3 rfl rfl ?_
  refine w_aload_n (q := 70) d_Reader_takeDigits_69 rfl rfl ?_
  refine w_get (q := 73) (ci := 6) (j := 4) d_Reader_takeDigits_70 rfl (by decide) fl_Reader_84 (by decide) (by decide) s_3 rfl rfl ?_
  refine w_isub (q := 74) d_Reader_takeDigits_73 rfl ?_
  refine w_iconst (q := 75) (v := 4) d_Reader_takeDigits_74 rfl (by decide) ?_
  by_cases c7 : ((m0 3 5) - (m0 3 4)) ≤ 4
  · rw [if_pos c7] at h
    refine w_icmp_le_t (q := 82) d_Reader_takeDigits_75 rfl c7 ?_
    refine w_iconst (q := 83) (v := 3) d_Reader_takeDigits_82 rfl (by decide) ?_
    refine w_put (q := 86) (ci := 6) (j := 6) d_Reader_takeDigits_83 rfl (by decide) fl_Reader_62 (by decide) (by decide) s_3 rfl rfl rfl rfl rfl rfl ?_
    cases h
    exact w_return d_Reader_takeDigits_86 rfl ⟨rfl, rfl, rfl, rfl⟩
  · rw [if_neg c7] at h
    refine w_icmp_le_f (q := 78) d_Reader_takeDigits_75 82 rfl rfl c7 ?_
    refine w_iconst (q := 79) (v := 4) d_Reader_takeDigits_78 rfl (by decide) ?_
    refine w_goto (q := 83) d_Reader_takeDigits_79 rfl ?_
    refine w_put (q := 86) (ci := 6) (j := 6) d_Reader_takeDigits_83 rfl (by decide) fl_Reader_62 (by decide) (by decide) s_3 rfl rfl rfl rfl rfl rfl ?_
    cases h
    exact w_return d_Reader_takeDigits_86 rfl ⟨rfl, rfl, rfl, rfl⟩
def sp_Reader_takeDigits (F : Nat) (g : Mem) : Option (Mem) := (lpO (st_Reader_takeDigits_10 F g) F ((mset g 3 7 0) 3 4, (mset g 3 7 0))).bind fun x6 => sp_Reader_takeDigits_j64 F g x6
theorem ok_Reader_takeDigits {γ : GG} {tt : Bool} {F : Nat} {g : Mem} {res : Mem} (h : sp_Reader_takeDigits F g = some res) : CA γ M_Reader_takeDigits 1 [.ref 3] SH g tt (0, 0) (pV SH res tt) := by
  refine CA.of mw_Reader_takeDigits.1 1 rfl ?_
  show WA γ M_Reader_takeDigits 1 0 [some (.ref 3), none] [] SH g tt (0, 0) (pV SH res tt)
  unfold sp_Reader_takeDigits at h
  refine w_aload_n (q := 1) d_Reader_takeDigits_0 rfl rfl ?_
  refine w_iconst (q := 2) (v := 0) d_Reader_takeDigits_1 rfl (by decide) ?_
  refine w_put (q := 5) (ci := 6) (j := 7) d_Reader_takeDigits_2 rfl (by decide) fl_Reader_117 (by decide) (by decide) s_3 rfl rfl rfl rfl rfl rfl ?_
  refine w_aload_n (q := 6) d_Reader_takeDigits_5 rfl rfl ?_
  refine w_get (q := 9) (ci := 6) (j := 4) d_Reader_takeDigits_6 rfl (by decide) fl_Reader_84 (by decide) (by decide) s_3 rfl rfl ?_
  refine w_istore_n (q := 10) (ls' := [some (.ref 3), some (.int ((mset g 3 7 0) 3 4))]) d_Reader_takeDigits_9 rfl (by decide) rfl rfl ?_
  obtain ⟨x6, hx, h⟩ := bnd h
  refine w_ls (ls' := [some (.ref 3), some (.int ((mset g 3 7 0) 3 4))]) (And.intro rfl (And.intro rfl trivial)) ?_
  show PL_Reader_takeDigits_10 γ tt g _ _ ((mset g 3 7 0) 3 4, (mset g 3 7 0))
  refine lp_ok (kl_Reader_takeDigits_10) F _ x6 hx ?_
  unfold QL_Reader_takeDigits_10
  refine w_ls (ls' := [some (.ref 3), none]) (And.intro rfl trivial) ?_
  exact ok_Reader_takeDigits_j64 h
def sp_Reader_isSign (p0 : Int32) (g : Mem) : Option (Int32) := if p0 = 40 then some 1 else if p0 = 41 then some 1 else if p0 = 42 then some 1 else if p0 = 43 then some 1 else if p0 = 44 then some 0 else if p0 = 45 then some 1 else if p0 = 46 then some 0 else if p0 = 47 then some 1 else if p0 = 48 then some 0 else if p0 = 49 then some 0 else if p0 = 50 then some 0 else if p0 = 51 then some 0 else if p0 = 52 then some 0 else if p0 = 53 then some 0 else if p0 = 54 then some 0 else if p0 = 55 then some 0 else if p0 = 56 then some 0 else if p0 = 57 then some 0 else if p0 = 58 then some 0 else if p0 = 59 then some 1 else if p0 = 60 then some 1 else if p0 = 61 then some 1 else some 0
theorem ok_Reader_isSign {γ : GG} {sh : List Sh} {tt : Bool} {p0 : Int32} {g : Mem} {res : Int32} (h : sp_Reader_isSign p0 g = some res) : CA γ M_Reader_isSign 0 [.int p0] sh g tt (0, 0) (pI sh res g tt) := by
  refine CA.of mw_Reader_isSign.1 0 rfl ?_
  show WA γ M_Reader_isSign 0 0 [some (.int p0)] [] sh g tt (0, 0) (pI sh res g tt)
  unfold sp_Reader_isSign at h
  refine w_iload_n (q := 1) d_Reader_isSign_0 rfl rfl ?_
  by_cases c1 : p0 = 40
  · rw [if_pos c1] at h
    refine w_tabIn (q := 104) (off := 103) d_Reader_isSign_1 (by rw [c1]; decide) (by rw [c1]; decide) (by rw [c1]; decide +kernel) rfl ?_
    refine w_iconst (q := 105) (v := 1) d_Reader_isSign_104 rfl (by decide) ?_
    cases h
    exact w_ireturn d_Reader_isSign_105 rfl rfl ⟨rfl, rfl, rfl, rfl⟩
  rw [if_neg c1] at h
  by_cases c2 : p0 = 41
  · rw [if_pos c2] at h
    refine w_tabIn (q := 104) (off := 103) d_Reader_isSign_1 (by rw [c2]; decide) (by rw [c2]; decide) (by rw [c2]; decide +kernel) rfl ?_
    refine w_iconst (q := 105) (v := 1) d_Reader_isSign_104 rfl (by decide) ?_
    cases h
    exact w_ireturn d_Reader_isSign_105 rfl rfl ⟨rfl, rfl, rfl, rfl⟩
  rw [if_neg c2] at h
  by_cases c3 : p0 = 42
  · rw [if_pos c3] at h
    refine w_tabIn (q := 104) (off := 103) d_Reader_isSign_1 (by rw [c3]; decide) (by rw [c3]; decide) (by rw [c3]; decide +kernel) rfl ?_
    refine w_iconst (q := 105) (v := 1) d_Reader_isSign_104 rfl (by decide) ?_
    cases h
    exact w_ireturn d_Reader_isSign_105 rfl rfl ⟨rfl, rfl, rfl, rfl⟩
  rw [if_neg c3] at h
  by_cases c4 : p0 = 43
  · rw [if_pos c4] at h
    refine w_tabIn (q := 104) (off := 103) d_Reader_isSign_1 (by rw [c4]; decide) (by rw [c4]; decide) (by rw [c4]; decide +kernel) rfl ?_
    refine w_iconst (q := 105) (v := 1) d_Reader_isSign_104 rfl (by decide) ?_
    cases h
    exact w_ireturn d_Reader_isSign_105 rfl rfl ⟨rfl, rfl, rfl, rfl⟩
  rw [if_neg c4] at h
  by_cases c5 : p0 = 44
  · rw [if_pos c5] at h
    refine w_tabIn (q := 106) (off := 105) d_Reader_isSign_1 (by rw [c5]; decide) (by rw [c5]; decide) (by rw [c5]; decide +kernel) rfl ?_
    refine w_iconst (q := 107) (v := 0) d_Reader_isSign_106 rfl (by decide) ?_
    cases h
    exact w_ireturn d_Reader_isSign_107 rfl rfl ⟨rfl, rfl, rfl, rfl⟩
  rw [if_neg c5] at h
  by_cases c6 : p0 = 45
  · rw [if_pos c6] at h
    refine w_tabIn (q := 104) (off := 103) d_Reader_isSign_1 (by rw [c6]; decide) (by rw [c6]; decide) (by rw [c6]; decide +kernel) rfl ?_
    refine w_iconst (q := 105) (v := 1) d_Reader_isSign_104 rfl (by decide) ?_
    cases h
    exact w_ireturn d_Reader_isSign_105 rfl rfl ⟨rfl, rfl, rfl, rfl⟩
  rw [if_neg c6] at h
  by_cases c7 : p0 = 46
  · rw [if_pos c7] at h
    refine w_tabIn (q := 106) (off := 105) d_Reader_isSign_1 (by rw [c7]; decide) (by rw [c7]; decide) (by rw [c7]; decide +kernel) rfl ?_
    refine w_iconst (q := 107) (v := 0) d_Reader_isSign_106 rfl (by decide) ?_
    cases h
    exact w_ireturn d_Reader_isSign_107 rfl rfl ⟨rfl, rfl, rfl, rfl⟩
  rw [if_neg c7] at h
  by_cases c8 : p0 = 47
  · rw [if_pos c8] at h
    refine w_tabIn (q := 104) (off := 103) d_Reader_isSign_1 (by rw [c8]; decide) (by rw [c8]; decide) (by rw [c8]; decide +kernel) rfl ?_
    refine w_iconst (q := 105) (v := 1) d_Reader_isSign_104 rfl (by decide) ?_
    cases h
    exact w_ireturn d_Reader_isSign_105 rfl rfl ⟨rfl, rfl, rfl, rfl⟩
  rw [if_neg c8] at h
  by_cases c9 : p0 = 48
  · rw [if_pos c9] at h
    refine w_tabIn (q := 106) (off := 105) d_Reader_isSign_1 (by rw [c9]; decide) (by rw [c9]; decide) (by rw [c9]; decide +kernel) rfl ?_
    refine w_iconst (q := 107) (v := 0) d_Reader_isSign_106 rfl (by decide) ?_
    cases h
    exact w_ireturn d_Reader_isSign_107 rfl rfl ⟨rfl, rfl, rfl, rfl⟩
  rw [if_neg c9] at h
  by_cases c10 : p0 = 49
  · rw [if_pos c10] at h
    refine w_tabIn (q := 106) (off := 105) d_Reader_isSign_1 (by rw [c10]; decide) (by rw [c10]; decide) (by rw [c10]; decide +kernel) rfl ?_
    refine w_iconst (q := 107) (v := 0) d_Reader_isSign_106 rfl (by decide) ?_
    cases h
    exact w_ireturn d_Reader_isSign_107 rfl rfl ⟨rfl, rfl, rfl, rfl⟩
  rw [if_neg c10] at h
  by_cases c11 : p0 = 50
  · rw [if_pos c11] at h
    refine w_tabIn (q := 106) (off := 105) d_Reader_isSign_1 (by rw [c11]; decide) (by rw [c11]; decide) (by rw [c11]; decide +kernel) rfl ?_
    refine w_iconst (q := 107) (v := 0) d_Reader_isSign_106 rfl (by decide) ?_
    cases h
    exact w_ireturn d_Reader_isSign_107 rfl rfl ⟨rfl, rfl, rfl, rfl⟩
  rw [if_neg c11] at h
  by_cases c12 : p0 = 51
  · rw [if_pos c12] at h
    refine w_tabIn (q := 106) (off := 105) d_Reader_isSign_1 (by rw [c12]; decide) (by rw [c12]; decide) (by rw [c12]; decide +kernel) rfl ?_
    refine w_iconst (q := 107) (v := 0) d_Reader_isSign_106 rfl (by decide) ?_
    cases h
    exact w_ireturn d_Reader_isSign_107 rfl rfl ⟨rfl, rfl, rfl, rfl⟩
  rw [if_neg c12] at h
  by_cases c13 : p0 = 52
  · rw [if_pos c13] at h
    refine w_tabIn (q := 106) (off := 105) d_Reader_isSign_1 (by rw [c13]; decide) (by rw [c13]; decide) (by rw [c13]; decide +kernel) rfl ?_
    refine w_iconst (q := 107) (v := 0) d_Reader_isSign_106 rfl (by decide) ?_
    cases h
    exact w_ireturn d_Reader_isSign_107 rfl rfl ⟨rfl, rfl, rfl, rfl⟩
  rw [if_neg c13] at h
  by_cases c14 : p0 = 53
  · rw [if_pos c14] at h
    refine w_tabIn (q := 106) (off := 105) d_Reader_isSign_1 (by rw [c14]; decide) (by rw [c14]; decide) (by rw [c14]; decide +kernel) rfl ?_
    refine w_iconst (q := 107) (v := 0) d_Reader_isSign_106 rfl (by decide) ?_
    cases h
    exact w_ireturn d_Reader_isSign_107 rfl rfl ⟨rfl, rfl, rfl, rfl⟩
  rw [if_neg c14] at h
  by_cases c15 : p0 = 54
  · rw [if_pos c15] at h
    refine w_tabIn (q := 106) (off := 105) d_Reader_isSign_1 (by rw [c15]; decide) (by rw [c15]; decide) (by rw [c15]; decide +kernel) rfl ?_
    refine w_iconst (q := 107) (v := 0) d_Reader_isSign_106 rfl (by decide) ?_
    cases h
    exact w_ireturn d_Reader_isSign_107 rfl rfl ⟨rfl, rfl, rfl, rfl⟩
  rw [if_neg c15] at h
  by_cases c16 : p0 = 55
  · rw [if_pos c16] at h
    refine w_tabIn (q := 106) (off := 105) d_Reader_isSign_1 (by rw [c16]; decide) (by rw [c16]; decide) (by rw [c16]; decide +kernel) rfl ?_
    refine w_iconst (q := 107) (v := 0) d_Reader_isSign_106 rfl (by decide) ?_
    cases h
    exact w_ireturn d_Reader_isSign_107 rfl rfl ⟨rfl, rfl, rfl, rfl⟩
  rw [if_neg c16] at h
  by_cases c17 : p0 = 56
  · rw [if_pos c17] at h
    refine w_tabIn (q := 106) (off := 105) d_Reader_isSign_1 (by rw [c17]; decide) (by rw [c17]; decide) (by rw [c17]; decide +kernel) rfl ?_
    refine w_iconst (q := 107) (v := 0) d_Reader_isSign_106 rfl (by decide) ?_
    cases h
    exact w_ireturn d_Reader_isSign_107 rfl rfl ⟨rfl, rfl, rfl, rfl⟩
  rw [if_neg c17] at h
  by_cases c18 : p0 = 57
  · rw [if_pos c18] at h
    refine w_tabIn (q := 106) (off := 105) d_Reader_isSign_1 (by rw [c18]; decide) (by rw [c18]; decide) (by rw [c18]; decide +kernel) rfl ?_
    refine w_iconst (q := 107) (v := 0) d_Reader_isSign_106 rfl (by decide) ?_
    cases h
    exact w_ireturn d_Reader_isSign_107 rfl rfl ⟨rfl, rfl, rfl, rfl⟩
  rw [if_neg c18] at h
  by_cases c19 : p0 = 58
  · rw [if_pos c19] at h
    refine w_tabIn (q := 106) (off := 105) d_Reader_isSign_1 (by rw [c19]; decide) (by rw [c19]; decide) (by rw [c19]; decide +kernel) rfl ?_
    refine w_iconst (q := 107) (v := 0) d_Reader_isSign_106 rfl (by decide) ?_
    cases h
    exact w_ireturn d_Reader_isSign_107 rfl rfl ⟨rfl, rfl, rfl, rfl⟩
  rw [if_neg c19] at h
  by_cases c20 : p0 = 59
  · rw [if_pos c20] at h
    refine w_tabIn (q := 104) (off := 103) d_Reader_isSign_1 (by rw [c20]; decide) (by rw [c20]; decide) (by rw [c20]; decide +kernel) rfl ?_
    refine w_iconst (q := 105) (v := 1) d_Reader_isSign_104 rfl (by decide) ?_
    cases h
    exact w_ireturn d_Reader_isSign_105 rfl rfl ⟨rfl, rfl, rfl, rfl⟩
  rw [if_neg c20] at h
  by_cases c21 : p0 = 60
  · rw [if_pos c21] at h
    refine w_tabIn (q := 104) (off := 103) d_Reader_isSign_1 (by rw [c21]; decide) (by rw [c21]; decide) (by rw [c21]; decide +kernel) rfl ?_
    refine w_iconst (q := 105) (v := 1) d_Reader_isSign_104 rfl (by decide) ?_
    cases h
    exact w_ireturn d_Reader_isSign_105 rfl rfl ⟨rfl, rfl, rfl, rfl⟩
  rw [if_neg c21] at h
  by_cases c22 : p0 = 61
  · rw [if_pos c22] at h
    refine w_tabIn (q := 104) (off := 103) d_Reader_isSign_1 (by rw [c22]; decide) (by rw [c22]; decide) (by rw [c22]; decide +kernel) rfl ?_
    refine w_iconst (q := 105) (v := 1) d_Reader_isSign_104 rfl (by decide) ?_
    cases h
    exact w_ireturn d_Reader_isSign_105 rfl rfl ⟨rfl, rfl, rfl, rfl⟩
  rw [if_neg c22] at h
  have hsw : p0.toInt < 40 ∨ 61 < p0.toInt := by
    refine sw_out (fun c h1 h2 e => ?_)
    have h9 : c = 40 ∨ c = 41 ∨ c = 42 ∨ c = 43 ∨ c = 44 ∨ c = 45 ∨ c = 46 ∨ c = 47 ∨ c = 48 ∨ c = 49 ∨ c = 50 ∨ c = 51 ∨ c = 52 ∨ c = 53 ∨ c = 54 ∨ c = 55 ∨ c = 56 ∨ c = 57 ∨ c = 58 ∨ c = 59 ∨ c = 60 ∨ c = 61 := by omega
    rcases h9 with rfl | rfl | rfl | rfl | rfl | rfl | rfl | rfl | rfl | rfl | rfl | rfl | rfl | rfl | rfl | rfl | rfl | rfl | rfl | rfl | rfl | rfl
    · exact c1 (Int32.toInt_inj.mp (e.trans (by decide)))
    · exact c2 (Int32.toInt_inj.mp (e.trans (by decide)))
    · exact c3 (Int32.toInt_inj.mp (e.trans (by decide)))
    · exact c4 (Int32.toInt_inj.mp (e.trans (by decide)))
    · exact c5 (Int32.toInt_inj.mp (e.trans (by decide)))
    · exact c6 (Int32.toInt_inj.mp (e.trans (by decide)))
    · exact c7 (Int32.toInt_inj.mp (e.trans (by decide)))
    · exact c8 (Int32.toInt_inj.mp (e.trans (by decide)))
    · exact c9 (Int32.toInt_inj.mp (e.trans (by decide)))
    · exact c10 (Int32.toInt_inj.mp (e.trans (by decide)))
    · exact c11 (Int32.toInt_inj.mp (e.trans (by decide)))
    · exact c12 (Int32.toInt_inj.mp (e.trans (by decide)))
    · exact c13 (Int32.toInt_inj.mp (e.trans (by decide)))
    · exact c14 (Int32.toInt_inj.mp (e.trans (by decide)))
    · exact c15 (Int32.toInt_inj.mp (e.trans (by decide)))
    · exact c16 (Int32.toInt_inj.mp (e.trans (by decide)))
    · exact c17 (Int32.toInt_inj.mp (e.trans (by decide)))
    · exact c18 (Int32.toInt_inj.mp (e.trans (by decide)))
    · exact c19 (Int32.toInt_inj.mp (e.trans (by decide)))
    · exact c20 (Int32.toInt_inj.mp (e.trans (by decide)))
    · exact c21 (Int32.toInt_inj.mp (e.trans (by decide)))
    · exact c22 (Int32.toInt_inj.mp (e.trans (by decide)))
  refine w_tabOut (q := 106) d_Reader_isSign_1 hsw rfl ?_
  refine w_iconst (q := 107) (v := 0) d_Reader_isSign_106 rfl (by decide) ?_
  cases h
  exact w_ireturn d_Reader_isSign_107 rfl rfl ⟨rfl, rfl, rfl, rfl⟩
def PL_Reader_advance_13 (γ : GG) (tt : Bool) (g : Mem) (b : Nat × Nat) (Φ : PO) (s : Int32 × Mem) : Prop := WA γ M_Reader_advance 6 13 [some (.ref 3), some (.int s.1)] [] SH s.2 tt b Φ
def QL_Reader_advance_13 (γ : GG) (tt : Bool) (g : Mem) (b : Nat × Nat) (Φ : PO) (x : (Mem)) : Prop := WA γ M_Reader_advance 6 46 [some (.ref 3), none] [] SH x tt b Φ
def st_Reader_advance_13 (F : Nat) (g : Mem) (s : Int32 × Mem) : Option ((Int32 × Mem) ⊕ ((Mem))) := if (s.2 3 3) ≤ s.1 then some (.inr s.2) else (rd s.2 1 700 s.1).bind fun v2 => (sp_Reader_isBlank v2 s.2).bind fun v3 => if v3 = 0 then some (.inr s.2) else some (.inl (s.1 + 1, (mset s.2 3 4 (s.1 + 1))))
theorem kl_Reader_advance_13 {γ : GG} {tt : Bool} {F : Nat} {g : Mem} {b : Nat × Nat} {Φ : PO} : ∀ (s : Int32 × Mem) (r : (Int32 × Mem) ⊕ ((Mem))), st_Reader_advance_13 F g s = some r → RQ (PL_Reader_advance_13 γ tt g b Φ) (QL_Reader_advance_13 γ tt g b Φ) r → PL_Reader_advance_13 γ tt g b Φ s := by
  intro s r h hr
  unfold st_Reader_advance_13 at h
  unfold PL_Reader_advance_13
  refine w_iload_n (q := 14) d_Reader_advance_13 rfl rfl ?_
  refine w_aload_n (q := 15) d_Reader_advance_14 rfl rfl ?_
  refine w_get (q := 18) (ci := 6) (j := 3) d_Reader_advance_15 rfl (by decide) fl_Reader_37 (by decide) (by decide) s_3 rfl rfl ?_
  by_cases c1 : (s.2 3 3) ≤ s.1
  · rw [if_pos c1] at h
    refine w_icmp_ge_t (q := 46) d_Reader_advance_18 rfl c1 ?_
    cases h
    exact w_ls (by exact (And.intro rfl trivial)) hr
  · rw [if_neg c1] at h
    refine w_icmp_ge_f (q := 21) d_Reader_advance_18 46 rfl rfl c1 ?_
    refine w_aload_n (q := 22) d_Reader_advance_21 rfl rfl ?_
    refine w_get (q := 25) (ci := 6) (j := 2) d_Reader_advance_22 rfl (by decide) fl_Reader_27 (by decide) (by decide) s_3 rfl rfl ?_
    refine w_iload_n (q := 26) d_Reader_advance_25 rfl rfl ?_
    obtain ⟨v2, hv, h⟩ := bnd h
    obtain ⟨hi, hv⟩ := rd_ok hv
    refine w_bald (q := 27) d_Reader_advance_26 rfl a_1.2 a_1.1 hi ?_
    rw [hv]
    obtain ⟨v3, hv, h⟩ := bnd h
    refine w_callSi (q := 30) (M' := M_Reader_isBlank) (n' := 0) (As := [.int v2]) (sh' := SH) (b1 := (0, 0)) d_Reader_advance_27 rfl mw_Reader_isBlank (by decide) (by decide) ml_Reader_87 rfl rfl (leb rfl) (bz _) (fun _ => rfl) (ok_Reader_isBlank hv) ?_
    by_cases c4 : v3 = 0
    · rw [if_pos c4] at h
      refine w_if_eq_t (q := 46) d_Reader_advance_30 rfl c4 ?_
      cases h
      exact w_ls (by exact (And.intro rfl trivial)) hr
    · rw [if_neg c4] at h
      refine w_if_eq_f (q := 33) d_Reader_advance_30 46 rfl rfl c4 ?_
      refine w_aload_n (q := 34) d_Reader_advance_33 rfl rfl ?_
      refine w_iload_n (q := 35) d_Reader_advance_34 rfl rfl ?_
      refine w_iconst (q := 36) (v := 1) d_Reader_advance_35 rfl (by decide) ?_
      refine w_iadd (q := 37) d_Reader_advance_36 rfl ?_
      refine w_put (q := 40) (ci := 6) (j := 4) d_Reader_advance_37 rfl (by decide) fl_Reader_84 (by decide) (by decide) s_3 rfl rfl rfl rfl rfl rfl ?_
      refine w_iinc (q := 43) (ls' := [some (.ref 3), some (.int (s.1 + 1))]) d_Reader_advance_40 rfl (by decide) rfl rfl rfl ?_
      refine w_goto (q := 13) d_Reader_advance_43 rfl ?_
      cases h
      exact w_ls (by exact (And.intro rfl (And.intro rfl trivial))) hr
def sp_Reader_advance_j46 (F : Nat) (g : Mem) (m0 : Mem) : Option (Mem) := if ((mset m0 3 5 (m0 3 4)) 3 4) < ((mset m0 3 5 (m0 3 4)) 3 3) then (rd (mset m0 3 5 (m0 3 4)) 1 700 ((mset m0 3 5 (m0 3 4)) 3 4)).bind fun v7 => (sp_Reader_isLetter v7 (mset m0 3 5 (m0 3 4))).bind fun v8 => if v8 = 0 then (rd (mset m0 3 5 (m0 3 4)) 1 700 ((mset m0 3 5 (m0 3 4)) 3 4)).bind fun v10 => (sp_Reader_isDigit v10 (mset m0 3 5 (m0 3 4))).bind fun v11 => if v11 = 0 then (rd (mset m0 3 5 (m0 3 4)) 1 700 ((mset m0 3 5 (m0 3 4)) 3 4)).bind fun v13 => (sp_Reader_isSign v13 (mset m0 3 5 (m0 3 4))).bind fun v14 => if v14 = 0 then some (mset (mset (mset m0 3 5 (m0 3 4)) 3 6 2) 3 5 (((mset (mset m0 3 5 (m0 3 4)) 3 6 2) 3 4) + 1)) else (rd (mset m0 3 5 (m0 3 4)) 1 700 ((mset m0 3 5 (m0 3 4)) 3 4)).bind fun v16 => some (mset (mset (mset m0 3 5 (m0 3 4)) 3 6 v16) 3 5 (((mset (mset m0 3 5 (m0 3 4)) 3 6 v16) 3 4) + 1)) else (sp_Reader_takeDigits F (mset m0 3 5 (m0 3 4))).bind fun v17 => some v17 else (sp_Reader_takeWord F (mset m0 3 5 (m0 3 4))).bind fun v18 => some v18 else some (mset (mset m0 3 5 (m0 3 4)) 3 6 1)
theorem ok_Reader_advance_j46 {γ : GG} {tt : Bool} {F : Nat} {g : Mem} {m0 : Mem} {res : Mem} (h : sp_Reader_advance_j46 F g m0  = some res) : WA γ M_Reader_advance 6 46 [some (.ref 3), none] [] SH m0 tt (0, 0) (pV SH res tt) := by
  unfold sp_Reader_advance_j46 at h
  refine w_aload_n (q := 47) d_Reader_advance_46 rfl rfl ?_
  refine w_aload_n (q := 48) d_Reader_advance_47 rfl rfl ?_
  refine w_get (q := 51) (ci := 6) (j := 4) d_Reader_advance_48 rfl (by decide) fl_Reader_84 (by decide) (by decide) s_3 rfl rfl ?_
  refine w_put (q := 54) (ci := 6) (j := 5) d_Reader_advance_51 rfl (by decide) fl_Reader_41 (by decide) (by decide) s_3 rfl rfl rfl rfl rfl rfl ?_
  refine w_aload_n (q := 55) d_Reader_advance_54 rfl rfl ?_
  refine w_get (q := 58) (ci := 6) (j := 4) d_Reader_advance_55 rfl (by decide) fl_Reader_84 (by decide) (by decide) s_3 rfl rfl ?_
  refine w_aload_n (q := 59) d_Reader_advance_58 rfl rfl ?_
  refine w_get (q := 62) (ci := 6) (j := 3) d_Reader_advance_59 rfl (by decide) fl_Reader_37 (by decide) (by decide) s_3 rfl rfl ?_
  by_cases c6 : ((mset m0 3 5 (m0 3 4)) 3 4) < ((mset m0 3 5 (m0 3 4)) 3 3)
  · rw [if_pos c6] at h
    refine w_icmp_lt_t (q := 73) d_Reader_advance_62 rfl c6 ?_
    refine w_aload_n (q := 74) d_Reader_advance_73 rfl rfl ?_
    refine w_get (q := 77) (ci := 6) (j := 2) d_Reader_advance_74 rfl (by decide) fl_Reader_27 (by decide) (by decide) s_3 rfl rfl ?_
    refine w_aload_n (q := 78) d_Reader_advance_77 rfl rfl ?_
    refine w_get (q := 81) (ci := 6) (j := 4) d_Reader_advance_78 rfl (by decide) fl_Reader_84 (by decide) (by decide) s_3 rfl rfl ?_
    obtain ⟨v7, hv, h⟩ := bnd h
    obtain ⟨hi, hv⟩ := rd_ok hv
    refine w_bald (q := 82) d_Reader_advance_81 rfl a_1.2 a_1.1 hi ?_
    rw [hv]
    obtain ⟨v8, hv, h⟩ := bnd h
    refine w_callSi (q := 85) (M' := M_Reader_isLetter) (n' := 0) (As := [.int v7]) (sh' := SH) (b1 := (0, 0)) d_Reader_advance_82 rfl mw_Reader_isLetter (by decide) (by decide) ml_Reader_91 rfl rfl (leb rfl) (bz _) (fun _ => rfl) (ok_Reader_isLetter hv) ?_
    by_cases c9 : v8 = 0
    · rw [if_pos c9] at h
      refine w_if_eq_t (q := 95) d_Reader_advance_85 rfl c9 ?_
      refine w_aload_n (q := 96) d_Reader_advance_95 rfl rfl ?_
      refine w_get (q := 99) (ci := 6) (j := 2) d_Reader_advance_96 rfl (by decide) fl_Reader_27 (by decide) (by decide) s_3 rfl rfl ?_
      refine w_aload_n (q := 100) d_Reader_advance_99 rfl rfl ?_
      refine w_get (q := 103) (ci := 6) (j := 4) d_Reader_advance_100 rfl (by decide) fl_Reader_84 (by decide) (by decide) s_3 rfl rfl ?_
      obtain ⟨v10, hv, h⟩ := bnd h
      obtain ⟨hi, hv⟩ := rd_ok hv
      refine w_bald (q := 104) d_Reader_advance_103 rfl a_1.2 a_1.1 hi ?_
      rw [hv]
      obtain ⟨v11, hv, h⟩ := bnd h
      refine w_callSi (q := 107) (M' := M_Reader_isDigit) (n' := 0) (As := [.int v10]) (sh' := SH) (b1 := (0, 0)) d_Reader_advance_104 rfl mw_Reader_isDigit (by decide) (by decide) ml_Reader_97 rfl rfl (leb rfl) (bz _) (fun _ => rfl) (ok_Reader_isDigit hv) ?_
      by_cases c12 : v11 = 0
      · rw [if_pos c12] at h
        refine w_if_eq_t (q := 117) d_Reader_advance_107 rfl c12 ?_
        refine w_aload_n (q := 118) d_Reader_advance_117 rfl rfl ?_
        refine w_aload_n (q := 119) d_Reader_advance_118 rfl rfl ?_
        refine w_get (q := 122) (ci := 6) (j := 2) d_Reader_advance_119 rfl (by decide) fl_Reader_27 (by decide) (by decide) s_3 rfl rfl ?_
        refine w_aload_n (q := 123) d_Reader_advance_122 rfl rfl ?_
        refine w_get (q := 126) (ci := 6) (j := 4) d_Reader_advance_123 rfl (by decide) fl_Reader_84 (by decide) (by decide) s_3 rfl rfl ?_
        obtain ⟨v13, hv, h⟩ := bnd h
        obtain ⟨hi, hv⟩ := rd_ok hv
        refine w_bald (q := 127) d_Reader_advance_126 rfl a_1.2 a_1.1 hi ?_
        rw [hv]
        obtain ⟨v14, hv, h⟩ := bnd h
        refine w_callSi (q := 130) (M' := M_Reader_isSign) (n' := 0) (As := [.int v13]) (sh' := SH) (b1 := (0, 0)) d_Reader_advance_127 rfl mw_Reader_isSign (by decide) (by decide) ml_Reader_103 rfl rfl (leb rfl) (bz _) (fun _ => rfl) (ok_Reader_isSign hv) ?_
        by_cases c15 : v14 = 0
        · rw [if_pos c15] at h
          refine w_if_eq_t (q := 145) d_Reader_advance_130 rfl c15 ?_
          refine w_iconst (q := 146) (v := 2) d_Reader_advance_145 rfl (by decide) ?_
          refine w_put (q := 149) (ci := 6) (j := 6) d_Reader_advance_146 rfl (by decide) fl_Reader_62 (by decide) (by decide) s_3 rfl rfl rfl rfl rfl rfl ?_
          refine w_aload_n (q := 150) d_Reader_advance_149 rfl rfl ?_
          refine w_aload_n (q := 151) d_Reader_advance_150 rfl rfl ?_
          refine w_get (q := 154) (ci := 6) (j := 4) d_Reader_advance_151 rfl (by decide) fl_Reader_84 (by decide) (by decide) s_3 rfl rfl ?_
          refine w_iconst (q := 155) (v := 1) d_Reader_advance_154 rfl (by decide) ?_
          refine w_iadd (q := 156) d_Reader_advance_155 rfl ?_
          refine w_put (q := 159) (ci := 6) (j := 5) d_Reader_advance_156 rfl (by decide) fl_Reader_41 (by decide) (by decide) s_3 rfl rfl rfl rfl rfl rfl ?_
          cases h
          exact w_return d_Reader_advance_159 rfl ⟨rfl, rfl, rfl, rfl⟩
        · rw [if_neg c15] at h
          refine w_if_eq_f (q := 133) d_Reader_advance_130 145 rfl rfl c15 ?_
          refine w_aload_n (q := 134) d_Reader_advance_133 rfl rfl ?_
          refine w_get (q := 137) (ci := 6) (j := 2) d_Reader_advance_134 rfl (by decide) fl_Reader_27 (by decide) (by decide) s_3 rfl rfl ?_
          refine w_aload_n (q := 138) d_Reader_advance_137 rfl rfl ?_
          refine w_get (q := 141) (ci := 6) (j := 4) d_Reader_advance_138 rfl (by decide) fl_Reader_84 (by decide) (by decide) s_3 rfl rfl ?_
          obtain ⟨v16, hv, h⟩ := bnd h
          obtain ⟨hi, hv⟩ := rd_ok hv
          refine w_bald (q := 142) d_Reader_advance_141 rfl a_1.2 a_1.1 hi ?_
          rw [hv]
          refine w_goto (q := 146) d_Reader_advance_142 rfl ?_
          refine w_put (q := 149) (ci := 6) (j := 6) d_Reader_advance_146 rfl (by decide) fl_Reader_62 (by decide) (by decide) s_3 rfl rfl rfl rfl rfl rfl ?_
          refine w_aload_n (q := 150) d_Reader_advance_149 rfl rfl ?_
          refine w_aload_n (q := 151) d_Reader_advance_150 rfl rfl ?_
          refine w_get (q := 154) (ci := 6) (j := 4) d_Reader_advance_151 rfl (by decide) fl_Reader_84 (by decide) (by decide) s_3 rfl rfl ?_
          refine w_iconst (q := 155) (v := 1) d_Reader_advance_154 rfl (by decide) ?_
          refine w_iadd (q := 156) d_Reader_advance_155 rfl ?_
          refine w_put (q := 159) (ci := 6) (j := 5) d_Reader_advance_156 rfl (by decide) fl_Reader_41 (by decide) (by decide) s_3 rfl rfl rfl rfl rfl rfl ?_
          cases h
          exact w_return d_Reader_advance_159 rfl ⟨rfl, rfl, rfl, rfl⟩
      · rw [if_neg c12] at h
        refine w_if_eq_f (q := 110) d_Reader_advance_107 117 rfl rfl c12 ?_
        refine w_aload_n (q := 111) d_Reader_advance_110 rfl rfl ?_
        obtain ⟨v17, hv, h⟩ := bnd h
        refine w_callVv (q := 114) (M' := M_Reader_takeDigits) (n' := 1) (k := 3) (As := []) (sh' := SH) (b1 := (0, 0)) d_Reader_advance_111 rfl mw_Reader_takeDigits (by decide) (by decide) ml_Reader_100 (by decide) s_3 (by decide) rfl rfl rfl (leb rfl) (bz _) (fun _ => rfl) (ok_Reader_takeDigits hv) ?_
        refine w_goto (q := 159) d_Reader_advance_114 rfl ?_
        cases h
        exact w_return d_Reader_advance_159 rfl ⟨rfl, rfl, rfl, rfl⟩
    · rw [if_neg c9] at h
      refine w_if_eq_f (q := 88) d_Reader_advance_85 95 rfl rfl c9 ?_
      refine w_aload_n (q := 89) d_Reader_advance_88 rfl rfl ?_
      obtain ⟨v18, hv, h⟩ := bnd h
      refine w_callVv (q := 92) (M' := M_Reader_takeWord) (n' := 5) (k := 3) (As := []) (sh' := SH) (b1 := (0, 0)) d_Reader_advance_89 rfl mw_Reader_takeWord (by decide) (by decide) ml_Reader_94 (by decide) s_3 (by decide) rfl rfl rfl (leb rfl) (bz _) (fun _ => rfl) (ok_Reader_takeWord hv) ?_
      refine w_goto (q := 159) d_Reader_advance_92 rfl ?_
      cases h
      exact w_return d_Reader_advance_159 rfl ⟨rfl, rfl, rfl, rfl⟩
  · rw [if_neg c6] at h
    refine w_icmp_lt_f (q := 65) d_Reader_advance_62 73 rfl rfl c6 ?_
    refine w_aload_n (q := 66) d_Reader_advance_65 rfl rfl ?_
    refine w_iconst (q := 67) (v := 1) d_Reader_advance_66 rfl (by decide) ?_
    refine w_put (q := 70) (ci := 6) (j := 6) d_Reader_advance_67 rfl (by decide) fl_Reader_62 (by decide) (by decide) s_3 rfl rfl rfl rfl rfl rfl ?_
    refine w_goto (q := 159) d_Reader_advance_70 rfl ?_
    cases h
    exact w_return d_Reader_advance_159 rfl ⟨rfl, rfl, rfl, rfl⟩
def sp_Reader_advance (F : Nat) (g : Mem) : Option (Mem) := (lpO (st_Reader_advance_13 F g) F ((mset g 3 4 (g 3 5)) 3 5, (mset g 3 4 (g 3 5)))).bind fun x5 => sp_Reader_advance_j46 F g x5
theorem ok_Reader_advance {γ : GG} {tt : Bool} {F : Nat} {g : Mem} {res : Mem} (h : sp_Reader_advance F g = some res) : CA γ M_Reader_advance 6 [.ref 3] SH g tt (0, 0) (pV SH res tt) := by
  refine CA.of mw_Reader_advance.1 1 rfl ?_
  show WA γ M_Reader_advance 6 0 [some (.ref 3), none] [] SH g tt (0, 0) (pV SH res tt)
  unfold sp_Reader_advance at h
  refine w_aload_n (q := 1) d_Reader_advance_0 rfl rfl ?_
  refine w_aload_n (q := 2) d_Reader_advance_1 rfl rfl ?_
  refine w_get (q := 5) (ci := 6) (j := 5) d_Reader_advance_2 rfl (by decide) fl_Reader_41 (by decide) (by decide) s_3 rfl rfl ?_
  refine w_put (q := 8) (ci := 6) (j := 4) d_Reader_advance_5 rfl (by decide) fl_Reader_84 (by decide) (by decide) s_3 rfl rfl rfl rfl rfl rfl ?_
  refine w_aload_n (q := 9) d_Reader_advance_8 rfl rfl ?_
  refine w_get (q := 12) (ci := 6) (j := 5) d_Reader_advance_9 rfl (by decide) fl_Reader_41 (by decide) (by decide) s_3 rfl rfl ?_
  refine w_istore_n (q := 13) (ls' := [some (.ref 3), some (.int ((mset g 3 4 (g 3 5)) 3 5))]) d_Reader_advance_12 rfl (by decide) rfl rfl ?_
  obtain ⟨x5, hx, h⟩ := bnd h
  refine w_ls (ls' := [some (.ref 3), some (.int ((mset g 3 4 (g 3 5)) 3 5))]) (And.intro rfl (And.intro rfl trivial)) ?_
  show PL_Reader_advance_13 γ tt g _ _ ((mset g 3 4 (g 3 5)) 3 5, (mset g 3 4 (g 3 5)))
  refine lp_ok (kl_Reader_advance_13) F _ x5 hx ?_
  unfold QL_Reader_advance_13
  refine w_ls (ls' := [some (.ref 3), none]) (And.intro rfl trivial) ?_
  exact ok_Reader_advance_j46 h
def sp_Reader_fail (p0 : Int32) (g : Mem) : Option (Mem) := if (g 3 9) = 0 then some (mset (mset g 3 9 p0) 3 10 ((mset g 3 9 p0) 3 4)) else some g
theorem ok_Reader_fail {γ : GG} {tt : Bool} {p0 : Int32} {g : Mem} {res : Mem} (h : sp_Reader_fail p0 g = some res) : CA γ M_Reader_fail 0 [.ref 3, .int p0] SH g tt (0, 0) (pV SH res tt) := by
  refine CA.of mw_Reader_fail.1 0 rfl ?_
  show WA γ M_Reader_fail 0 0 [some (.ref 3), some (.int p0)] [] SH g tt (0, 0) (pV SH res tt)
  unfold sp_Reader_fail at h
  refine w_aload_n (q := 1) d_Reader_fail_0 rfl rfl ?_
  refine w_get (q := 4) (ci := 6) (j := 9) d_Reader_fail_1 rfl (by decide) fl_Reader_47 (by decide) (by decide) s_3 rfl rfl ?_
  by_cases c1 : (g 3 9) = 0
  · rw [if_pos c1] at h
    refine w_if_ne_f (q := 7) d_Reader_fail_4 20 rfl rfl c1 ?_
    refine w_aload_n (q := 8) d_Reader_fail_7 rfl rfl ?_
    refine w_iload_n (q := 9) d_Reader_fail_8 rfl rfl ?_
    refine w_put (q := 12) (ci := 6) (j := 9) d_Reader_fail_9 rfl (by decide) fl_Reader_47 (by decide) (by decide) s_3 rfl rfl rfl rfl rfl rfl ?_
    refine w_aload_n (q := 13) d_Reader_fail_12 rfl rfl ?_
    refine w_aload_n (q := 14) d_Reader_fail_13 rfl rfl ?_
    refine w_get (q := 17) (ci := 6) (j := 4) d_Reader_fail_14 rfl (by decide) fl_Reader_84 (by decide) (by decide) s_3 rfl rfl ?_
    refine w_put (q := 20) (ci := 6) (j := 10) d_Reader_fail_17 rfl (by decide) fl_Reader_50 (by decide) (by decide) s_3 rfl rfl rfl rfl rfl rfl ?_
    cases h
    exact w_return d_Reader_fail_20 rfl ⟨rfl, rfl, rfl, rfl⟩
  · rw [if_neg c1] at h
    refine w_if_ne_t (q := 20) d_Reader_fail_4 rfl c1 ?_
    cases h
    exact w_return d_Reader_fail_20 rfl ⟨rfl, rfl, rfl, rfl⟩
def sp_Reader_needNumber (g : Mem) : Option (Mem) := if (g 3 6) = 4 then (sp_Reader_fail 2 g).bind fun v2 => some v2 else if (g 3 6) = 3 then some g else (sp_Reader_fail 1 g).bind fun v4 => some v4
theorem ok_Reader_needNumber {γ : GG} {tt : Bool} {g : Mem} {res : Mem} (h : sp_Reader_needNumber g = some res) : CA γ M_Reader_needNumber 1 [.ref 3] SH g tt (0, 0) (pV SH res tt) := by
  refine CA.of mw_Reader_needNumber.1 0 rfl ?_
  show WA γ M_Reader_needNumber 1 0 [some (.ref 3)] [] SH g tt (0, 0) (pV SH res tt)
  unfold sp_Reader_needNumber at h
  refine w_aload_n (q := 1) d_Reader_needNumber_0 rfl rfl ?_
  refine w_get (q := 4) (ci := 6) (j := 6) d_Reader_needNumber_1 rfl (by decide) fl_Reader_62 (by decide) (by decide) s_3 rfl rfl ?_
  refine w_iconst (q := 5) (v := 4) d_Reader_needNumber_4 rfl (by decide) ?_
  by_cases c1 : (g 3 6) = 4
  · rw [if_pos c1] at h
    refine w_icmp_ne_f (q := 8) d_Reader_needNumber_5 16 rfl rfl c1 ?_
    refine w_aload_n (q := 9) d_Reader_needNumber_8 rfl rfl ?_
    refine w_iconst (q := 10) (v := 2) d_Reader_needNumber_9 rfl (by decide) ?_
    obtain ⟨v2, hv, h⟩ := bnd h
    refine w_callVv (q := 13) (M' := M_Reader_fail) (n' := 0) (k := 3) (As := [.int 2]) (sh' := SH) (b1 := (0, 0)) d_Reader_needNumber_10 rfl mw_Reader_fail (by decide) (by decide) ml_Reader_78 (by decide) s_3 (by decide) rfl rfl rfl (leb rfl) (bz _) (fun _ => rfl) (ok_Reader_fail hv) ?_
    refine w_goto (q := 29) d_Reader_needNumber_13 rfl ?_
    cases h
    exact w_return d_Reader_needNumber_29 rfl ⟨rfl, rfl, rfl, rfl⟩
  · rw [if_neg c1] at h
    refine w_icmp_ne_t (q := 16) d_Reader_needNumber_5 rfl c1 ?_
    refine w_aload_n (q := 17) d_Reader_needNumber_16 rfl rfl ?_
    refine w_get (q := 20) (ci := 6) (j := 6) d_Reader_needNumber_17 rfl (by decide) fl_Reader_62 (by decide) (by decide) s_3 rfl rfl ?_
    refine w_iconst (q := 21) (v := 3) d_Reader_needNumber_20 rfl (by decide) ?_
    by_cases c3 : (g 3 6) = 3
    · rw [if_pos c3] at h
      refine w_icmp_eq_t (q := 29) d_Reader_needNumber_21 rfl c3 ?_
      cases h
      exact w_return d_Reader_needNumber_29 rfl ⟨rfl, rfl, rfl, rfl⟩
    · rw [if_neg c3] at h
      refine w_icmp_eq_f (q := 24) d_Reader_needNumber_21 29 rfl rfl c3 ?_
      refine w_aload_n (q := 25) d_Reader_needNumber_24 rfl rfl ?_
      refine w_iconst (q := 26) (v := 1) d_Reader_needNumber_25 rfl (by decide) ?_
      obtain ⟨v4, hv, h⟩ := bnd h
      refine w_callVv (q := 29) (M' := M_Reader_fail) (n' := 0) (k := 3) (As := [.int 1]) (sh' := SH) (b1 := (0, 0)) d_Reader_needNumber_26 rfl mw_Reader_fail (by decide) (by decide) ml_Reader_78 (by decide) s_3 (by decide) rfl rfl rfl (leb rfl) (bz _) (fun _ => rfl) (ok_Reader_fail hv) ?_
      cases h
      exact w_return d_Reader_needNumber_29 rfl ⟨rfl, rfl, rfl, rfl⟩
def sp_Reader_expect (F : Nat) (p0 : Int32) (g : Mem) : Option (Mem) := if (g 3 9) = 0 then if (g 3 6) = p0 then (sp_Reader_advance F g).bind fun v3 => some v3 else (sp_Reader_fail 1 g).bind fun v4 => some v4 else some g
theorem ok_Reader_expect {γ : GG} {tt : Bool} {F : Nat} {p0 : Int32} {g : Mem} {res : Mem} (h : sp_Reader_expect F p0 g = some res) : CA γ M_Reader_expect 7 [.ref 3, .int p0] SH g tt (0, 0) (pV SH res tt) := by
  refine CA.of mw_Reader_expect.1 0 rfl ?_
  show WA γ M_Reader_expect 7 0 [some (.ref 3), some (.int p0)] [] SH g tt (0, 0) (pV SH res tt)
  unfold sp_Reader_expect at h
  refine w_aload_n (q := 1) d_Reader_expect_0 rfl rfl ?_
  refine w_get (q := 4) (ci := 6) (j := 9) d_Reader_expect_1 rfl (by decide) fl_Reader_47 (by decide) (by decide) s_3 rfl rfl ?_
  by_cases c1 : (g 3 9) = 0
  · rw [if_pos c1] at h
    refine w_if_ne_f (q := 7) d_Reader_expect_4 27 rfl rfl c1 ?_
    refine w_aload_n (q := 8) d_Reader_expect_7 rfl rfl ?_
    refine w_get (q := 11) (ci := 6) (j := 6) d_Reader_expect_8 rfl (by decide) fl_Reader_62 (by decide) (by decide) s_3 rfl rfl ?_
    refine w_iload_n (q := 12) d_Reader_expect_11 rfl rfl ?_
    by_cases c2 : (g 3 6) = p0
    · rw [if_pos c2] at h
      refine w_icmp_ne_f (q := 15) d_Reader_expect_12 22 rfl rfl c2 ?_
      refine w_aload_n (q := 16) d_Reader_expect_15 rfl rfl ?_
      obtain ⟨v3, hv, h⟩ := bnd h
      refine w_callVv (q := 19) (M' := M_Reader_advance) (n' := 6) (k := 3) (As := []) (sh' := SH) (b1 := (0, 0)) d_Reader_expect_16 rfl mw_Reader_advance (by decide) (by decide) ml_Reader_59 (by decide) s_3 (by decide) rfl rfl rfl (leb rfl) (bz _) (fun _ => rfl) (ok_Reader_advance hv) ?_
      refine w_goto (q := 27) d_Reader_expect_19 rfl ?_
      cases h
      exact w_return d_Reader_expect_27 rfl ⟨rfl, rfl, rfl, rfl⟩
    · rw [if_neg c2] at h
      refine w_icmp_ne_t (q := 22) d_Reader_expect_12 rfl c2 ?_
      refine w_aload_n (q := 23) d_Reader_expect_22 rfl rfl ?_
      refine w_iconst (q := 24) (v := 1) d_Reader_expect_23 rfl (by decide) ?_
      obtain ⟨v4, hv, h⟩ := bnd h
      refine w_callVv (q := 27) (M' := M_Reader_fail) (n' := 0) (k := 3) (As := [.int 1]) (sh' := SH) (b1 := (0, 0)) d_Reader_expect_24 rfl mw_Reader_fail (by decide) (by decide) ml_Reader_78 (by decide) s_3 (by decide) rfl rfl rfl (leb rfl) (bz _) (fun _ => rfl) (ok_Reader_fail hv) ?_
      cases h
      exact w_return d_Reader_expect_27 rfl ⟨rfl, rfl, rfl, rfl⟩
  · rw [if_neg c1] at h
    refine w_if_ne_t (q := 27) d_Reader_expect_4 rfl c1 ?_
    cases h
    exact w_return d_Reader_expect_27 rfl ⟨rfl, rfl, rfl, rfl⟩
def sp_Reader_canBegin (g : Mem) : Option (Int32) := if (g 3 6) = 3 then some 1 else if (g 3 6) = 4 then some 1 else if 100 ≤ (g 3 6) then some 1 else if (g 3 6) = 40 then some 1 else some 0
theorem ok_Reader_canBegin {γ : GG} {tt : Bool} {g : Mem} {res : Int32} (h : sp_Reader_canBegin g = some res) : CA γ M_Reader_canBegin 0 [.ref 3] SH g tt (0, 0) (pI SH res g tt) := by
  refine CA.of mw_Reader_canBegin.1 0 rfl ?_
  show WA γ M_Reader_canBegin 0 0 [some (.ref 3)] [] SH g tt (0, 0) (pI SH res g tt)
  unfold sp_Reader_canBegin at h
  refine w_aload_n (q := 1) d_Reader_canBegin_0 rfl rfl ?_
  refine w_get (q := 4) (ci := 6) (j := 6) d_Reader_canBegin_1 rfl (by decide) fl_Reader_62 (by decide) (by decide) s_3 rfl rfl ?_
  refine w_iconst (q := 5) (v := 3) d_Reader_canBegin_4 rfl (by decide) ?_
  by_cases c1 : (g 3 6) = 3
  · rw [if_pos c1] at h
    refine w_icmp_eq_t (q := 34) d_Reader_canBegin_5 rfl c1 ?_
    refine w_iconst (q := 35) (v := 1) d_Reader_canBegin_34 rfl (by decide) ?_
    refine w_goto (q := 39) d_Reader_canBegin_35 rfl ?_
    cases h
    exact w_ireturn d_Reader_canBegin_39 rfl rfl ⟨rfl, rfl, rfl, rfl⟩
  · rw [if_neg c1] at h
    refine w_icmp_eq_f (q := 8) d_Reader_canBegin_5 34 rfl rfl c1 ?_
    refine w_aload_n (q := 9) d_Reader_canBegin_8 rfl rfl ?_
    refine w_get (q := 12) (ci := 6) (j := 6) d_Reader_canBegin_9 rfl (by decide) fl_Reader_62 (by decide) (by decide) s_3 rfl rfl ?_
    refine w_iconst (q := 13) (v := 4) d_Reader_canBegin_12 rfl (by decide) ?_
    by_cases c2 : (g 3 6) = 4
    · rw [if_pos c2] at h
      refine w_icmp_eq_t (q := 34) d_Reader_canBegin_13 rfl c2 ?_
      refine w_iconst (q := 35) (v := 1) d_Reader_canBegin_34 rfl (by decide) ?_
      refine w_goto (q := 39) d_Reader_canBegin_35 rfl ?_
      cases h
      exact w_ireturn d_Reader_canBegin_39 rfl rfl ⟨rfl, rfl, rfl, rfl⟩
    · rw [if_neg c2] at h
      refine w_icmp_eq_f (q := 16) d_Reader_canBegin_13 34 rfl rfl c2 ?_
      refine w_aload_n (q := 17) d_Reader_canBegin_16 rfl rfl ?_
      refine w_get (q := 20) (ci := 6) (j := 6) d_Reader_canBegin_17 rfl (by decide) fl_Reader_62 (by decide) (by decide) s_3 rfl rfl ?_
      refine w_bipush (q := 22) (v := 100) d_Reader_canBegin_20 rfl (by decide) ?_
      by_cases c3 : 100 ≤ (g 3 6)
      · rw [if_pos c3] at h
        refine w_icmp_ge_t (q := 34) d_Reader_canBegin_22 rfl c3 ?_
        refine w_iconst (q := 35) (v := 1) d_Reader_canBegin_34 rfl (by decide) ?_
        refine w_goto (q := 39) d_Reader_canBegin_35 rfl ?_
        cases h
        exact w_ireturn d_Reader_canBegin_39 rfl rfl ⟨rfl, rfl, rfl, rfl⟩
      · rw [if_neg c3] at h
        refine w_icmp_ge_f (q := 25) d_Reader_canBegin_22 34 rfl rfl c3 ?_
        refine w_aload_n (q := 26) d_Reader_canBegin_25 rfl rfl ?_
        refine w_get (q := 29) (ci := 6) (j := 6) d_Reader_canBegin_26 rfl (by decide) fl_Reader_62 (by decide) (by decide) s_3 rfl rfl ?_
        refine w_bipush (q := 31) (v := 40) d_Reader_canBegin_29 rfl (by decide) ?_
        by_cases c4 : (g 3 6) = 40
        · rw [if_pos c4] at h
          refine w_icmp_ne_f (q := 34) d_Reader_canBegin_31 38 rfl rfl c4 ?_
          refine w_iconst (q := 35) (v := 1) d_Reader_canBegin_34 rfl (by decide) ?_
          refine w_goto (q := 39) d_Reader_canBegin_35 rfl ?_
          cases h
          exact w_ireturn d_Reader_canBegin_39 rfl rfl ⟨rfl, rfl, rfl, rfl⟩
        · rw [if_neg c4] at h
          refine w_icmp_ne_t (q := 38) d_Reader_canBegin_31 rfl c4 ?_
          refine w_iconst (q := 39) (v := 0) d_Reader_canBegin_38 rfl (by decide) ?_
          cases h
          exact w_ireturn d_Reader_canBegin_39 rfl rfl ⟨rfl, rfl, rfl, rfl⟩
def sp_Reader_readPart_j101 (F : Nat) (E : Int32 → Mem → Option Mem) (nE : Nat) (p0 : Int32) (g : Mem) (m0 : Mem) : Option (Mem) := if (m0 3 6) < 100 then (sp_Reader_needNumber m0).bind fun v10 => if (v10 3 9) = 0 then (sp_Rule_add (4 + 4) (v10 3 7) v10).bind fun v12 => (sp_Reader_advance F v12).bind fun v13 => some v13 else some v10 else (sp_Reader_fail 3 m0).bind fun v14 => some v14
theorem ok_Reader_readPart_j101 {γ : GG} {tt : Bool} {F : Nat} {E : Int32 → Mem → Option Mem} {nE : Nat} {p0 : Int32} {g : Mem} {m0 : Mem} (hE : ∀ {p0 : Int32} {g : Mem} {res : Mem}, E p0 g = some res → CA γ M_Reader_readExpr (nE + 11) [.ref 3, .int p0] SH g tt (0, 0) (pV SH res tt)) {res : Mem} (h : sp_Reader_readPart_j101 F E nE p0 g m0  = some res) : WA γ M_Reader_readPart (nE + 12) 101 [some (.ref 3), none] [] SH m0 tt (0, 0) (pV SH res tt) := by
  unfold sp_Reader_readPart_j101 at h
  refine w_aload_n (q := 102) d_Reader_readPart_101 rfl rfl ?_
  refine w_get (q := 105) (ci := 6) (j := 6) d_Reader_readPart_102 rfl (by decide) fl_Reader_62 (by decide) (by decide) s_3 rfl rfl ?_
  refine w_bipush (q := 107) (v := 100) d_Reader_readPart_105 rfl (by decide) ?_
  by_cases c9 : (m0 3 6) < 100
  · rw [if_pos c9] at h
    refine w_icmp_lt_t (q := 118) d_Reader_readPart_107 rfl c9 ?_
    refine w_aload_n (q := 119) d_Reader_readPart_118 rfl rfl ?_
    obtain ⟨v10, hv, h⟩ := bnd h
    refine w_callVv (q := 122) (M' := M_Reader_needNumber) (n' := 1) (k := 3) (As := []) (sh' := SH) (b1 := (0, 0)) d_Reader_readPart_119 rfl mw_Reader_needNumber (by omega) (by decide) ml_Reader_120 (by decide) s_3 (by decide) rfl rfl rfl (leb rfl) (bz _) (fun _ => rfl) (ok_Reader_needNumber hv) ?_
    refine w_aload_n (q := 123) d_Reader_readPart_122 rfl rfl ?_
    refine w_get (q := 126) (ci := 6) (j := 9) d_Reader_readPart_123 rfl (by decide) fl_Reader_47 (by decide) (by decide) s_3 rfl rfl ?_
    by_cases c11 : (v10 3 9) = 0
    · rw [if_pos c11] at h
      refine w_if_ne_f (q := 129) d_Reader_readPart_126 147 rfl rfl c11 ?_
      refine w_aload_n (q := 130) d_Reader_readPart_129 rfl rfl ?_
      refine w_get (q := 133) (ci := 6) (j := 0) d_Reader_readPart_130 rfl (by decide) fl_Reader_12 (by decide) (by decide) s_3 rfl rfl ?_
      refine w_get (q := 136) (ci := 7) (j := 7) d_Reader_readPart_133 rfl (by decide) fl_Reader_198 (by decide) i_4.2.1 i_4.1 rfl rfl ?_
      refine w_aload_n (q := 137) d_Reader_readPart_136 rfl rfl ?_
      refine w_get (q := 140) (ci := 6) (j := 7) d_Reader_readPart_137 rfl (by decide) fl_Reader_117 (by decide) (by decide) s_3 rfl rfl ?_
      obtain ⟨v12, hv, h⟩ := bnd h
      refine w_callVv (q := 143) (M' := M_Rule_add) (n' := 0) (k := (4 + 4)) (As := [.int (v10 3 7)]) (sh' := SH) (b1 := (0, 0)) d_Reader_readPart_140 rfl mw_Rule_add (by omega) (by decide) ml_Reader_204 i_4.2.2.2.2.2.2.1 i_4.2.2.2.2.2.1 (by decide) rfl rfl rfl (leb rfl) (bz _) (fun _ => rfl) (ok_Rule_add i_4.2.2.2.2.2 hv) ?_
      refine w_aload_n (q := 144) d_Reader_readPart_143 rfl rfl ?_
      obtain ⟨v13, hv, h⟩ := bnd h
      refine w_callVv (q := 147) (M' := M_Reader_advance) (n' := 6) (k := 3) (As := []) (sh' := SH) (b1 := (0, 0)) d_Reader_readPart_144 rfl mw_Reader_advance (by omega) (by decide) ml_Reader_59 (by decide) s_3 (by decide) rfl rfl rfl (leb rfl) (bz _) (fun _ => rfl) (ok_Reader_advance hv) ?_
      cases h
      exact w_return d_Reader_readPart_147 rfl ⟨rfl, rfl, rfl, rfl⟩
    · rw [if_neg c11] at h
      refine w_if_ne_t (q := 147) d_Reader_readPart_126 rfl c11 ?_
      cases h
      exact w_return d_Reader_readPart_147 rfl ⟨rfl, rfl, rfl, rfl⟩
  · rw [if_neg c9] at h
    refine w_icmp_lt_f (q := 110) d_Reader_readPart_107 118 rfl rfl c9 ?_
    refine w_aload_n (q := 111) d_Reader_readPart_110 rfl rfl ?_
    refine w_iconst (q := 112) (v := 3) d_Reader_readPart_111 rfl (by decide) ?_
    obtain ⟨v14, hv, h⟩ := bnd h
    refine w_callVv (q := 115) (M' := M_Reader_fail) (n' := 0) (k := 3) (As := [.int 3]) (sh' := SH) (b1 := (0, 0)) d_Reader_readPart_112 rfl mw_Reader_fail (by omega) (by decide) ml_Reader_78 (by decide) s_3 (by decide) rfl rfl rfl (leb rfl) (bz _) (fun _ => rfl) (ok_Reader_fail hv) ?_
    refine w_goto (q := 147) d_Reader_readPart_115 rfl ?_
    cases h
    exact w_return d_Reader_readPart_147 rfl ⟨rfl, rfl, rfl, rfl⟩
def sp_Reader_readPart (F : Nat) (E : Int32 → Mem → Option Mem) (nE : Nat) (p0 : Int32) (g : Mem) : Option (Mem) := if (g 3 6) = 40 then (sp_Reader_advance F g).bind fun v2 => (E (p0 + 1) v2).bind fun v3 => (sp_Reader_expect F 41 v3).bind fun v4 => some v4 else if (g 3 6) = 111 then (sp_Rule_add (4 + 4) (-7) g).bind fun v6 => (sp_Reader_advance F v6).bind fun v7 => some v7 else if (g 3 6) < 119 then sp_Reader_readPart_j101 F E nE p0 g g else if 124 < (g 3 6) then sp_Reader_readPart_j101 F E nE p0 g g else (sp_Rule_add (4 + 4) ((-1) - ((g 3 6) - 119)) g).bind fun v16 => (sp_Reader_advance F v16).bind fun v17 => some v17
theorem ok_Reader_readPart {γ : GG} {tt : Bool} {F : Nat} {E : Int32 → Mem → Option Mem} {nE : Nat} {p0 : Int32} {g : Mem} (hE : ∀ {p0 : Int32} {g : Mem} {res : Mem}, E p0 g = some res → CA γ M_Reader_readExpr (nE + 11) [.ref 3, .int p0] SH g tt (0, 0) (pV SH res tt)) {res : Mem} (h : sp_Reader_readPart F E nE p0 g = some res) : CA γ M_Reader_readPart (nE + 12) [.ref 3, .int p0] SH g tt (0, 0) (pV SH res tt) := by
  refine CA.of mw_Reader_readPart.1 0 rfl ?_
  show WA γ M_Reader_readPart (nE + 12) 0 [some (.ref 3), some (.int p0)] [] SH g tt (0, 0) (pV SH res tt)
  unfold sp_Reader_readPart at h
  refine w_aload_n (q := 1) d_Reader_readPart_0 rfl rfl ?_
  refine w_get (q := 4) (ci := 6) (j := 6) d_Reader_readPart_1 rfl (by decide) fl_Reader_62 (by decide) (by decide) s_3 rfl rfl ?_
  refine w_bipush (q := 6) (v := 40) d_Reader_readPart_4 rfl (by decide) ?_
  by_cases c1 : (g 3 6) = 40
  · rw [if_pos c1] at h
    refine w_icmp_ne_f (q := 9) d_Reader_readPart_6 29 rfl rfl c1 ?_
    refine w_aload_n (q := 10) d_Reader_readPart_9 rfl rfl ?_
    obtain ⟨v2, hv, h⟩ := bnd h
    refine w_callVv (q := 13) (M' := M_Reader_advance) (n' := 6) (k := 3) (As := []) (sh' := SH) (b1 := (0, 0)) d_Reader_readPart_10 rfl mw_Reader_advance (by omega) (by decide) ml_Reader_59 (by decide) s_3 (by decide) rfl rfl rfl (leb rfl) (bz _) (fun _ => rfl) (ok_Reader_advance hv) ?_
    refine w_aload_n (q := 14) d_Reader_readPart_13 rfl rfl ?_
    refine w_iload_n (q := 15) d_Reader_readPart_14 rfl rfl ?_
    refine w_iconst (q := 16) (v := 1) d_Reader_readPart_15 rfl (by decide) ?_
    refine w_iadd (q := 17) d_Reader_readPart_16 rfl ?_
    obtain ⟨v3, hv, h⟩ := bnd h
    refine w_callVv (q := 20) (M' := M_Reader_readExpr) (n' := (nE + 11)) (k := 3) (As := [.int (p0 + 1)]) (sh' := SH) (b1 := (0, 0)) d_Reader_readPart_17 rfl mw_Reader_readExpr (by omega) (by decide) ml_Reader_189 (by decide) s_3 (by decide) rfl rfl rfl (leb rfl) (bz _) (fun _ => rfl) (hE hv) ?_
    refine w_aload_n (q := 21) d_Reader_readPart_20 rfl rfl ?_
    refine w_bipush (q := 23) (v := 41) d_Reader_readPart_21 rfl (by decide) ?_
    obtain ⟨v4, hv, h⟩ := bnd h
    refine w_callVv (q := 26) (M' := M_Reader_expect) (n' := 7) (k := 3) (As := [.int 41]) (sh' := SH) (b1 := (0, 0)) d_Reader_readPart_23 rfl mw_Reader_expect (by omega) (by decide) ml_Reader_81 (by decide) s_3 (by decide) rfl rfl rfl (leb rfl) (bz _) (fun _ => rfl) (ok_Reader_expect hv) ?_
    refine w_goto (q := 147) d_Reader_readPart_26 rfl ?_
    cases h
    exact w_return d_Reader_readPart_147 rfl ⟨rfl, rfl, rfl, rfl⟩
  · rw [if_neg c1] at h
    refine w_icmp_ne_t (q := 29) d_Reader_readPart_6 rfl c1 ?_
    refine w_aload_n (q := 30) d_Reader_readPart_29 rfl rfl ?_
    refine w_get (q := 33) (ci := 6) (j := 6) d_Reader_readPart_30 rfl (by decide) fl_Reader_62 (by decide) (by decide) s_3 rfl rfl ?_
    refine w_bipush (q := 35) (v := 111) d_Reader_readPart_33 rfl (by decide) ?_
    by_cases c5 : (g 3 6) = 111
    · rw [if_pos c5] at h
      refine w_icmp_ne_f (q := 38) d_Reader_readPart_35 57 rfl rfl c5 ?_
      refine w_aload_n (q := 39) d_Reader_readPart_38 rfl rfl ?_
      refine w_get (q := 42) (ci := 6) (j := 0) d_Reader_readPart_39 rfl (by decide) fl_Reader_12 (by decide) (by decide) s_3 rfl rfl ?_
      refine w_get (q := 45) (ci := 7) (j := 7) d_Reader_readPart_42 rfl (by decide) fl_Reader_198 (by decide) i_4.2.1 i_4.1 rfl rfl ?_
      refine w_bipush (q := 47) (v := (-7)) d_Reader_readPart_45 rfl (by decide) ?_
      obtain ⟨v6, hv, h⟩ := bnd h
      refine w_callVv (q := 50) (M' := M_Rule_add) (n' := 0) (k := (4 + 4)) (As := [.int ((-7))]) (sh' := SH) (b1 := (0, 0)) d_Reader_readPart_47 rfl mw_Rule_add (by omega) (by decide) ml_Reader_204 i_4.2.2.2.2.2.2.1 i_4.2.2.2.2.2.1 (by decide) rfl rfl rfl (leb rfl) (bz _) (fun _ => rfl) (ok_Rule_add i_4.2.2.2.2.2 hv) ?_
      refine w_aload_n (q := 51) d_Reader_readPart_50 rfl rfl ?_
      obtain ⟨v7, hv, h⟩ := bnd h
      refine w_callVv (q := 54) (M' := M_Reader_advance) (n' := 6) (k := 3) (As := []) (sh' := SH) (b1 := (0, 0)) d_Reader_readPart_51 rfl mw_Reader_advance (by omega) (by decide) ml_Reader_59 (by decide) s_3 (by decide) rfl rfl rfl (leb rfl) (bz _) (fun _ => rfl) (ok_Reader_advance hv) ?_
      refine w_goto (q := 147) d_Reader_readPart_54 rfl ?_
      cases h
      exact w_return d_Reader_readPart_147 rfl ⟨rfl, rfl, rfl, rfl⟩
    · rw [if_neg c5] at h
      refine w_icmp_ne_t (q := 57) d_Reader_readPart_35 rfl c5 ?_
      refine w_aload_n (q := 58) d_Reader_readPart_57 rfl rfl ?_
      refine w_get (q := 61) (ci := 6) (j := 6) d_Reader_readPart_58 rfl (by decide) fl_Reader_62 (by decide) (by decide) s_3 rfl rfl ?_
      refine w_bipush (q := 63) (v := 119) d_Reader_readPart_61 rfl (by decide) ?_
      by_cases c8 : (g 3 6) < 119
      · rw [if_pos c8] at h
        refine w_icmp_lt_t (q := 101) d_Reader_readPart_63 rfl c8 ?_
        refine w_ls (ls' := [some (.ref 3), none]) (And.intro rfl trivial) ?_
        exact ok_Reader_readPart_j101 hE h
      · rw [if_neg c8] at h
        refine w_icmp_lt_f (q := 66) d_Reader_readPart_63 101 rfl rfl c8 ?_
        refine w_aload_n (q := 67) d_Reader_readPart_66 rfl rfl ?_
        refine w_get (q := 70) (ci := 6) (j := 6) d_Reader_readPart_67 rfl (by decide) fl_Reader_62 (by decide) (by decide) s_3 rfl rfl ?_
        refine w_bipush (q := 72) (v := 124) d_Reader_readPart_70 rfl (by decide) ?_
        by_cases c15 : 124 < (g 3 6)
        · rw [if_pos c15] at h
          refine w_icmp_gt_t (q := 101) d_Reader_readPart_72 rfl c15 ?_
          refine w_ls (ls' := [some (.ref 3), none]) (And.intro rfl trivial) ?_
          exact ok_Reader_readPart_j101 hE h
        · rw [if_neg c15] at h
          refine w_icmp_gt_f (q := 75) d_Reader_readPart_72 101 rfl rfl c15 ?_
          refine w_aload_n (q := 76) d_Reader_readPart_75 rfl rfl ?_
          refine w_get (q := 79) (ci := 6) (j := 0) d_Reader_readPart_76 rfl (by decide) fl_Reader_12 (by decide) (by decide) s_3 rfl rfl ?_
          refine w_get (q := 82) (ci := 7) (j := 7) d_Reader_readPart_79 rfl (by decide) fl_Reader_198 (by decide) i_4.2.1 i_4.1 rfl rfl ?_
          refine w_iconst (q := 83) (v := (-1)) d_Reader_readPart_82 rfl (by decide) ?_
          refine w_aload_n (q := 84) d_Reader_readPart_83 rfl rfl ?_
          refine w_get (q := 87) (ci := 6) (j := 6) d_Reader_readPart_84 rfl (by decide) fl_Reader_62 (by decide) (by decide) s_3 rfl rfl ?_
          refine w_bipush (q := 89) (v := 119) d_Reader_readPart_87 rfl (by decide) ?_
          refine w_isub (q := 90) d_Reader_readPart_89 rfl ?_
          refine w_isub (q := 91) d_Reader_readPart_90 rfl ?_
          obtain ⟨v16, hv, h⟩ := bnd h
          refine w_callVv (q := 94) (M' := M_Rule_add) (n' := 0) (k := (4 + 4)) (As := [.int ((-1) - ((g 3 6) - 119))]) (sh' := SH) (b1 := (0, 0)) d_Reader_readPart_91 rfl mw_Rule_add (by omega) (by decide) ml_Reader_204 i_4.2.2.2.2.2.2.1 i_4.2.2.2.2.2.1 (by decide) rfl rfl rfl (leb rfl) (bz _) (fun _ => rfl) (ok_Rule_add i_4.2.2.2.2.2 hv) ?_
          refine w_aload_n (q := 95) d_Reader_readPart_94 rfl rfl ?_
          obtain ⟨v17, hv, h⟩ := bnd h
          refine w_callVv (q := 98) (M' := M_Reader_advance) (n' := 6) (k := 3) (As := []) (sh' := SH) (b1 := (0, 0)) d_Reader_readPart_95 rfl mw_Reader_advance (by omega) (by decide) ml_Reader_59 (by decide) s_3 (by decide) rfl rfl rfl (leb rfl) (bz _) (fun _ => rfl) (ok_Reader_advance hv) ?_
          refine w_goto (q := 147) d_Reader_readPart_98 rfl ?_
          cases h
          exact w_return d_Reader_readPart_147 rfl ⟨rfl, rfl, rfl, rfl⟩
def PL_Reader_readProduct_7 (γ : GG) (tt : Bool) (nE : Nat) (p0 : Int32) (g : Mem) (k1 : Int32) (b : Nat × Nat) (Φ : PO) (s : Int32 × Mem) : Prop := WA γ M_Reader_readProduct (nE + 13) 7 [some (.ref 3), some (.int k1), some (.int s.1), none] [] SH s.2 tt b Φ
def QL_Reader_readProduct_7 (γ : GG) (tt : Bool) (nE : Nat) (p0 : Int32) (g : Mem) (k1 : Int32) (b : Nat × Nat) (Φ : PO) (x : (Mem)) : Prop := WA γ M_Reader_readProduct (nE + 13) 82 [none, none, none, none] [] SH x tt b Φ
def sp_Reader_readProduct_j55_7 (F : Nat) (E : Int32 → Mem → Option Mem) (nE : Nat) (p0 : Int32) (k1 : Int32) (g : Mem) (m0 : Mem) (x2 : Int32) (y0 : Int32) : Option ((Int32 × Mem) ⊕ ((Mem))) := (sp_Reader_advance F m0).bind fun v6 => (sp_Reader_readPart F E nE k1 v6).bind fun v7 => (sp_Rule_add (4 + 4) y0 v7).bind fun v8 => some (.inl (x2 + 1, v8))
theorem ok_Reader_readProduct_j55_7 {γ : GG} {tt : Bool} {F : Nat} {E : Int32 → Mem → Option Mem} {nE : Nat} {p0 : Int32} {k1 : Int32} {g : Mem} {m0 : Mem} {x2 : Int32} {y0 : Int32} {b : Nat × Nat} {Φ : PO} (hE : ∀ {p0 : Int32} {g : Mem} {res : Mem}, E p0 g = some res → CA γ M_Reader_readExpr (nE + 11) [.ref 3, .int p0] SH g tt (0, 0) (pV SH res tt)) {r : (Int32 × Mem) ⊕ ((Mem))} (h : sp_Reader_readProduct_j55_7 F E nE p0 k1 g m0 x2 y0 = some r) (hr : RQ (PL_Reader_readProduct_7 γ tt nE p0 g k1 b Φ) (QL_Reader_readProduct_7 γ tt nE p0 g k1 b Φ) r) : WA γ M_Reader_readProduct (nE + 13) 55 [some (.ref 3), some (.int k1), some (.int x2), none] [.int y0] SH m0 tt b Φ := by
  unfold sp_Reader_readProduct_j55_7 at h
  refine w_istore_n (q := 56) (ls' := [some (.ref 3), some (.int k1), some (.int x2), some (.int y0)]) d_Reader_readProduct_55 rfl (by decide) rfl rfl ?_
  refine w_aload_n (q := 57) d_Reader_readProduct_56 rfl rfl ?_
  obtain ⟨v6, hv, h⟩ := bnd h
  refine w_callVv (q := 60) (M' := M_Reader_advance) (n' := 6) (k := 3) (As := []) (sh' := SH) (b1 := (0, 0)) d_Reader_readProduct_57 rfl mw_Reader_advance (by omega) (by decide) ml_Reader_59 (by decide) s_3 (by decide) rfl rfl rfl (leb rfl) (bz _) (fun _ => rfl) (ok_Reader_advance hv) ?_
  refine w_aload_n (q := 61) d_Reader_readProduct_60 rfl rfl ?_
  refine w_iload_n (q := 62) d_Reader_readProduct_61 rfl rfl ?_
  obtain ⟨v7, hv, h⟩ := bnd h
  refine w_callVv (q := 65) (M' := M_Reader_readPart) (n' := (nE + 12)) (k := 3) (As := [.int k1]) (sh' := SH) (b1 := (0, 0)) d_Reader_readProduct_62 rfl mw_Reader_readPart (by omega) (by decide) ml_Reader_219 (by decide) s_3 (by decide) rfl rfl rfl (leb rfl) (bz _) (fun _ => rfl) (ok_Reader_readPart hE hv) ?_
  refine w_aload_n (q := 66) d_Reader_readProduct_65 rfl rfl ?_
  refine w_get (q := 69) (ci := 6) (j := 0) d_Reader_readProduct_66 rfl (by decide) fl_Reader_12 (by decide) (by decide) s_3 rfl rfl ?_
  refine w_get (q := 72) (ci := 7) (j := 7) d_Reader_readProduct_69 rfl (by decide) fl_Reader_198 (by decide) i_4.2.1 i_4.1 rfl rfl ?_
  refine w_iload_n (q := 73) d_Reader_readProduct_72 rfl rfl ?_
  obtain ⟨v8, hv, h⟩ := bnd h
  refine w_callVv (q := 76) (M' := M_Rule_add) (n' := 0) (k := (4 + 4)) (As := [.int y0]) (sh' := SH) (b1 := (0, 0)) d_Reader_readProduct_73 rfl mw_Rule_add (by omega) (by decide) ml_Reader_204 i_4.2.2.2.2.2.2.1 i_4.2.2.2.2.2.1 (by decide) rfl rfl rfl (leb rfl) (bz _) (fun _ => rfl) (ok_Rule_add i_4.2.2.2.2.2 hv) ?_
  refine w_iinc (q := 79) (ls' := [some (.ref 3), some (.int k1), some (.int (x2 + 1)), some (.int y0)]) d_Reader_readProduct_76 rfl (by decide) rfl rfl rfl ?_
  refine w_goto (q := 7) d_Reader_readProduct_79 rfl ?_
  cases h
  exact w_ls (by exact (And.intro rfl (And.intro rfl (And.intro rfl trivial)))) hr
def sp_Reader_readProduct_j39_7 (F : Nat) (E : Int32 → Mem → Option Mem) (nE : Nat) (p0 : Int32) (k1 : Int32) (g : Mem) (m0 : Mem) (x2 : Int32) : Option ((Int32 × Mem) ⊕ ((Mem))) := if (m0 3 6) = 42 then sp_Reader_readProduct_j55_7 F E nE p0 k1 g m0 x2 (-18) else sp_Reader_readProduct_j55_7 F E nE p0 k1 g m0 x2 (-19)
theorem ok_Reader_readProduct_j39_7 {γ : GG} {tt : Bool} {F : Nat} {E : Int32 → Mem → Option Mem} {nE : Nat} {p0 : Int32} {k1 : Int32} {g : Mem} {m0 : Mem} {x2 : Int32} {b : Nat × Nat} {Φ : PO} (hE : ∀ {p0 : Int32} {g : Mem} {res : Mem}, E p0 g = some res → CA γ M_Reader_readExpr (nE + 11) [.ref 3, .int p0] SH g tt (0, 0) (pV SH res tt)) {r : (Int32 × Mem) ⊕ ((Mem))} (h : sp_Reader_readProduct_j39_7 F E nE p0 k1 g m0 x2 = some r) (hr : RQ (PL_Reader_readProduct_7 γ tt nE p0 g k1 b Φ) (QL_Reader_readProduct_7 γ tt nE p0 g k1 b Φ) r) : WA γ M_Reader_readProduct (nE + 13) 39 [some (.ref 3), some (.int k1), some (.int x2), none] [] SH m0 tt b Φ := by
  unfold sp_Reader_readProduct_j39_7 at h
  refine w_aload_n (q := 40) d_Reader_readProduct_39 rfl rfl ?_
  refine w_get (q := 43) (ci := 6) (j := 6) d_Reader_readProduct_40 rfl (by decide) fl_Reader_62 (by decide) (by decide) s_3 rfl rfl ?_
  refine w_bipush (q := 45) (v := 42) d_Reader_readProduct_43 rfl (by decide) ?_
  by_cases c5 : (m0 3 6) = 42
  · rw [if_pos c5] at h
    refine w_icmp_ne_f (q := 48) d_Reader_readProduct_45 53 rfl rfl c5 ?_
    refine w_bipush (q := 50) (v := (-18)) d_Reader_readProduct_48 rfl (by decide) ?_
    refine w_goto (q := 55) d_Reader_readProduct_50 rfl ?_
    refine w_ls (ls' := [some (.ref 3), some (.int k1), some (.int x2), none]) (And.intro rfl (And.intro rfl (And.intro rfl trivial))) ?_
    exact ok_Reader_readProduct_j55_7 hE h hr
  · rw [if_neg c5] at h
    refine w_icmp_ne_t (q := 53) d_Reader_readProduct_45 rfl c5 ?_
    refine w_bipush (q := 55) (v := (-19)) d_Reader_readProduct_53 rfl (by decide) ?_
    refine w_ls (ls' := [some (.ref 3), some (.int k1), some (.int x2), none]) (And.intro rfl (And.intro rfl (And.intro rfl trivial))) ?_
    exact ok_Reader_readProduct_j55_7 hE h hr
def st_Reader_readProduct_7 (F : Nat) (E : Int32 → Mem → Option Mem) (nE : Nat) (p0 : Int32) (g : Mem) (k1 : Int32) (s : Int32 × Mem) : Option ((Int32 × Mem) ⊕ ((Mem))) := if 700 ≤ s.1 then some (.inr s.2) else if (s.2 3 9) = 0 then if (s.2 3 6) = 42 then sp_Reader_readProduct_j39_7 F E nE p0 k1 g s.2 s.1 else if (s.2 3 6) = 47 then sp_Reader_readProduct_j39_7 F E nE p0 k1 g s.2 s.1 else some (.inr s.2) else some (.inr s.2)
theorem kl_Reader_readProduct_7 {γ : GG} {tt : Bool} {F : Nat} {E : Int32 → Mem → Option Mem} {nE : Nat} {p0 : Int32} {g : Mem} {k1 : Int32} {b : Nat × Nat} {Φ : PO} (hE : ∀ {p0 : Int32} {g : Mem} {res : Mem}, E p0 g = some res → CA γ M_Reader_readExpr (nE + 11) [.ref 3, .int p0] SH g tt (0, 0) (pV SH res tt)) : ∀ (s : Int32 × Mem) (r : (Int32 × Mem) ⊕ ((Mem))), st_Reader_readProduct_7 F E nE p0 g k1 s = some r → RQ (PL_Reader_readProduct_7 γ tt nE p0 g k1 b Φ) (QL_Reader_readProduct_7 γ tt nE p0 g k1 b Φ) r → PL_Reader_readProduct_7 γ tt nE p0 g k1 b Φ s := by
  intro s r h hr
  unfold st_Reader_readProduct_7 at h
  unfold PL_Reader_readProduct_7
  refine w_iload_n (q := 8) d_Reader_readProduct_7 rfl rfl ?_
  refine w_sipush (q := 11) (v := 700) d_Reader_readProduct_8 rfl (by decide) ?_
  by_cases c2 : 700 ≤ s.1
  · rw [if_pos c2] at h
    refine w_icmp_ge_t (q := 82) d_Reader_readProduct_11 rfl c2 ?_
    cases h
    exact w_ls (by exact trivial) hr
  · rw [if_neg c2] at h
    refine w_icmp_ge_f (q := 14) d_Reader_readProduct_11 82 rfl rfl c2 ?_
    refine w_aload_n (q := 15) d_Reader_readProduct_14 rfl rfl ?_
    refine w_get (q := 18) (ci := 6) (j := 9) d_Reader_readProduct_15 rfl (by decide) fl_Reader_47 (by decide) (by decide) s_3 rfl rfl ?_
    by_cases c3 : (s.2 3 9) = 0
    · rw [if_pos c3] at h
      refine w_if_ne_f (q := 21) d_Reader_readProduct_18 82 rfl rfl c3 ?_
      refine w_aload_n (q := 22) d_Reader_readProduct_21 rfl rfl ?_
      refine w_get (q := 25) (ci := 6) (j := 6) d_Reader_readProduct_22 rfl (by decide) fl_Reader_62 (by decide) (by decide) s_3 rfl rfl ?_
      refine w_bipush (q := 27) (v := 42) d_Reader_readProduct_25 rfl (by decide) ?_
      by_cases c4 : (s.2 3 6) = 42
      · rw [if_pos c4] at h
        refine w_icmp_eq_t (q := 39) d_Reader_readProduct_27 rfl c4 ?_
        refine w_ls (ls' := [some (.ref 3), some (.int k1), some (.int s.1), none]) (And.intro rfl (And.intro rfl (And.intro rfl trivial))) ?_
        exact ok_Reader_readProduct_j39_7 hE h hr
      · rw [if_neg c4] at h
        refine w_icmp_eq_f (q := 30) d_Reader_readProduct_27 39 rfl rfl c4 ?_
        refine w_aload_n (q := 31) d_Reader_readProduct_30 rfl rfl ?_
        refine w_get (q := 34) (ci := 6) (j := 6) d_Reader_readProduct_31 rfl (by decide) fl_Reader_62 (by decide) (by decide) s_3 rfl rfl ?_
        refine w_bipush (q := 36) (v := 47) d_Reader_readProduct_34 rfl (by decide) ?_
        by_cases c9 : (s.2 3 6) = 47
        · rw [if_pos c9] at h
          refine w_icmp_ne_f (q := 39) d_Reader_readProduct_36 82 rfl rfl c9 ?_
          refine w_ls (ls' := [some (.ref 3), some (.int k1), some (.int s.1), none]) (And.intro rfl (And.intro rfl (And.intro rfl trivial))) ?_
          exact ok_Reader_readProduct_j39_7 hE h hr
        · rw [if_neg c9] at h
          refine w_icmp_ne_t (q := 82) d_Reader_readProduct_36 rfl c9 ?_
          cases h
          exact w_ls (by exact trivial) hr
    · rw [if_neg c3] at h
      refine w_if_ne_t (q := 82) d_Reader_readProduct_18 rfl c3 ?_
      cases h
      exact w_ls (by exact trivial) hr
def sp_Reader_readProduct (F : Nat) (E : Int32 → Mem → Option Mem) (nE : Nat) (p0 : Int32) (g : Mem) : Option (Mem) := (sp_Reader_readPart F E nE p0 g).bind fun v1 => (lpO (st_Reader_readProduct_7 F E nE p0 g p0) F (0, v1)).bind fun x10 => some x10
theorem ok_Reader_readProduct {γ : GG} {tt : Bool} {F : Nat} {E : Int32 → Mem → Option Mem} {nE : Nat} {p0 : Int32} {g : Mem} (hE : ∀ {p0 : Int32} {g : Mem} {res : Mem}, E p0 g = some res → CA γ M_Reader_readExpr (nE + 11) [.ref 3, .int p0] SH g tt (0, 0) (pV SH res tt)) {res : Mem} (h : sp_Reader_readProduct F E nE p0 g = some res) : CA γ M_Reader_readProduct (nE + 13) [.ref 3, .int p0] SH g tt (0, 0) (pV SH res tt) := by
  refine CA.of mw_Reader_readProduct.1 2 rfl ?_
  show WA γ M_Reader_readProduct (nE + 13) 0 [some (.ref 3), some (.int p0), none, none] [] SH g tt (0, 0) (pV SH res tt)
  unfold sp_Reader_readProduct at h
  refine w_aload_n (q := 1) d_Reader_readProduct_0 rfl rfl ?_
  refine w_iload_n (q := 2) d_Reader_readProduct_1 rfl rfl ?_
  obtain ⟨v1, hv, h⟩ := bnd h
  refine w_callVv (q := 5) (M' := M_Reader_readPart) (n' := (nE + 12)) (k := 3) (As := [.int p0]) (sh' := SH) (b1 := (0, 0)) d_Reader_readProduct_2 rfl mw_Reader_readPart (by omega) (by decide) ml_Reader_219 (by decide) s_3 (by decide) rfl rfl rfl (leb rfl) (bz _) (fun _ => rfl) (ok_Reader_readPart hE hv) ?_
  refine w_iconst (q := 6) (v := 0) d_Reader_readProduct_5 rfl (by decide) ?_
  refine w_istore_n (q := 7) (ls' := [some (.ref 3), some (.int p0), some (.int 0), none]) d_Reader_readProduct_6 rfl (by decide) rfl rfl ?_
  obtain ⟨x10, hx, h⟩ := bnd h
  refine w_ls (ls' := [some (.ref 3), some (.int p0), some (.int 0), none]) (And.intro rfl (And.intro rfl (And.intro rfl trivial))) ?_
  show PL_Reader_readProduct_7 γ tt nE p0 g p0 _ _ (0, v1)
  refine lp_ok (kl_Reader_readProduct_7 hE) F _ x10 hx ?_
  unfold QL_Reader_readProduct_7
  cases h
  exact w_return d_Reader_readProduct_82 rfl ⟨rfl, rfl, rfl, rfl⟩
def PL_Reader_readSum_7 (γ : GG) (tt : Bool) (nE : Nat) (p0 : Int32) (g : Mem) (k1 : Int32) (b : Nat × Nat) (Φ : PO) (s : Int32 × Mem) : Prop := WA γ M_Reader_readSum (nE + 14) 7 [some (.ref 3), some (.int k1), some (.int s.1), none] [] SH s.2 tt b Φ
def QL_Reader_readSum_7 (γ : GG) (tt : Bool) (nE : Nat) (p0 : Int32) (g : Mem) (k1 : Int32) (b : Nat × Nat) (Φ : PO) (x : (Mem)) : Prop := WA γ M_Reader_readSum (nE + 14) 82 [none, none, none, none] [] SH x tt b Φ
def sp_Reader_readSum_j55_7 (F : Nat) (E : Int32 → Mem → Option Mem) (nE : Nat) (p0 : Int32) (k1 : Int32) (g : Mem) (m0 : Mem) (x2 : Int32) (y0 : Int32) : Option ((Int32 × Mem) ⊕ ((Mem))) := (sp_Reader_advance F m0).bind fun v6 => (sp_Reader_readProduct F E nE k1 v6).bind fun v7 => (sp_Rule_add (4 + 4) y0 v7).bind fun v8 => some (.inl (x2 + 1, v8))
theorem ok_Reader_readSum_j55_7 {γ : GG} {tt : Bool} {F : Nat} {E : Int32 → Mem → Option Mem} {nE : Nat} {p0 : Int32} {k1 : Int32} {g : Mem} {m0 : Mem} {x2 : Int32} {y0 : Int32} {b : Nat × Nat} {Φ : PO} (hE : ∀ {p0 : Int32} {g : Mem} {res : Mem}, E p0 g = some res → CA γ M_Reader_readExpr (nE + 11) [.ref 3, .int p0] SH g tt (0, 0) (pV SH res tt)) {r : (Int32 × Mem) ⊕ ((Mem))} (h : sp_Reader_readSum_j55_7 F E nE p0 k1 g m0 x2 y0 = some r) (hr : RQ (PL_Reader_readSum_7 γ tt nE p0 g k1 b Φ) (QL_Reader_readSum_7 γ tt nE p0 g k1 b Φ) r) : WA γ M_Reader_readSum (nE + 14) 55 [some (.ref 3), some (.int k1), some (.int x2), none] [.int y0] SH m0 tt b Φ := by
  unfold sp_Reader_readSum_j55_7 at h
  refine w_istore_n (q := 56) (ls' := [some (.ref 3), some (.int k1), some (.int x2), some (.int y0)]) d_Reader_readSum_55 rfl (by decide) rfl rfl ?_
  refine w_aload_n (q := 57) d_Reader_readSum_56 rfl rfl ?_
  obtain ⟨v6, hv, h⟩ := bnd h
  refine w_callVv (q := 60) (M' := M_Reader_advance) (n' := 6) (k := 3) (As := []) (sh' := SH) (b1 := (0, 0)) d_Reader_readSum_57 rfl mw_Reader_advance (by omega) (by decide) ml_Reader_59 (by decide) s_3 (by decide) rfl rfl rfl (leb rfl) (bz _) (fun _ => rfl) (ok_Reader_advance hv) ?_
  refine w_aload_n (q := 61) d_Reader_readSum_60 rfl rfl ?_
  refine w_iload_n (q := 62) d_Reader_readSum_61 rfl rfl ?_
  obtain ⟨v7, hv, h⟩ := bnd h
  refine w_callVv (q := 65) (M' := M_Reader_readProduct) (n' := (nE + 13)) (k := 3) (As := [.int k1]) (sh' := SH) (b1 := (0, 0)) d_Reader_readSum_62 rfl mw_Reader_readProduct (by omega) (by decide) ml_Reader_216 (by decide) s_3 (by decide) rfl rfl rfl (leb rfl) (bz _) (fun _ => rfl) (ok_Reader_readProduct hE hv) ?_
  refine w_aload_n (q := 66) d_Reader_readSum_65 rfl rfl ?_
  refine w_get (q := 69) (ci := 6) (j := 0) d_Reader_readSum_66 rfl (by decide) fl_Reader_12 (by decide) (by decide) s_3 rfl rfl ?_
  refine w_get (q := 72) (ci := 7) (j := 7) d_Reader_readSum_69 rfl (by decide) fl_Reader_198 (by decide) i_4.2.1 i_4.1 rfl rfl ?_
  refine w_iload_n (q := 73) d_Reader_readSum_72 rfl rfl ?_
  obtain ⟨v8, hv, h⟩ := bnd h
  refine w_callVv (q := 76) (M' := M_Rule_add) (n' := 0) (k := (4 + 4)) (As := [.int y0]) (sh' := SH) (b1 := (0, 0)) d_Reader_readSum_73 rfl mw_Rule_add (by omega) (by decide) ml_Reader_204 i_4.2.2.2.2.2.2.1 i_4.2.2.2.2.2.1 (by decide) rfl rfl rfl (leb rfl) (bz _) (fun _ => rfl) (ok_Rule_add i_4.2.2.2.2.2 hv) ?_
  refine w_iinc (q := 79) (ls' := [some (.ref 3), some (.int k1), some (.int (x2 + 1)), some (.int y0)]) d_Reader_readSum_76 rfl (by decide) rfl rfl rfl ?_
  refine w_goto (q := 7) d_Reader_readSum_79 rfl ?_
  cases h
  exact w_ls (by exact (And.intro rfl (And.intro rfl (And.intro rfl trivial)))) hr
def sp_Reader_readSum_j39_7 (F : Nat) (E : Int32 → Mem → Option Mem) (nE : Nat) (p0 : Int32) (k1 : Int32) (g : Mem) (m0 : Mem) (x2 : Int32) : Option ((Int32 × Mem) ⊕ ((Mem))) := if (m0 3 6) = 43 then sp_Reader_readSum_j55_7 F E nE p0 k1 g m0 x2 (-16) else sp_Reader_readSum_j55_7 F E nE p0 k1 g m0 x2 (-17)
theorem ok_Reader_readSum_j39_7 {γ : GG} {tt : Bool} {F : Nat} {E : Int32 → Mem → Option Mem} {nE : Nat} {p0 : Int32} {k1 : Int32} {g : Mem} {m0 : Mem} {x2 : Int32} {b : Nat × Nat} {Φ : PO} (hE : ∀ {p0 : Int32} {g : Mem} {res : Mem}, E p0 g = some res → CA γ M_Reader_readExpr (nE + 11) [.ref 3, .int p0] SH g tt (0, 0) (pV SH res tt)) {r : (Int32 × Mem) ⊕ ((Mem))} (h : sp_Reader_readSum_j39_7 F E nE p0 k1 g m0 x2 = some r) (hr : RQ (PL_Reader_readSum_7 γ tt nE p0 g k1 b Φ) (QL_Reader_readSum_7 γ tt nE p0 g k1 b Φ) r) : WA γ M_Reader_readSum (nE + 14) 39 [some (.ref 3), some (.int k1), some (.int x2), none] [] SH m0 tt b Φ := by
  unfold sp_Reader_readSum_j39_7 at h
  refine w_aload_n (q := 40) d_Reader_readSum_39 rfl rfl ?_
  refine w_get (q := 43) (ci := 6) (j := 6) d_Reader_readSum_40 rfl (by decide) fl_Reader_62 (by decide) (by decide) s_3 rfl rfl ?_
  refine w_bipush (q := 45) (v := 43) d_Reader_readSum_43 rfl (by decide) ?_
  by_cases c5 : (m0 3 6) = 43
  · rw [if_pos c5] at h
    refine w_icmp_ne_f (q := 48) d_Reader_readSum_45 53 rfl rfl c5 ?_
    refine w_bipush (q := 50) (v := (-16)) d_Reader_readSum_48 rfl (by decide) ?_
    refine w_goto (q := 55) d_Reader_readSum_50 rfl ?_
    refine w_ls (ls' := [some (.ref 3), some (.int k1), some (.int x2), none]) (And.intro rfl (And.intro rfl (And.intro rfl trivial))) ?_
    exact ok_Reader_readSum_j55_7 hE h hr
  · rw [if_neg c5] at h
    refine w_icmp_ne_t (q := 53) d_Reader_readSum_45 rfl c5 ?_
    refine w_bipush (q := 55) (v := (-17)) d_Reader_readSum_53 rfl (by decide) ?_
    refine w_ls (ls' := [some (.ref 3), some (.int k1), some (.int x2), none]) (And.intro rfl (And.intro rfl (And.intro rfl trivial))) ?_
    exact ok_Reader_readSum_j55_7 hE h hr
def st_Reader_readSum_7 (F : Nat) (E : Int32 → Mem → Option Mem) (nE : Nat) (p0 : Int32) (g : Mem) (k1 : Int32) (s : Int32 × Mem) : Option ((Int32 × Mem) ⊕ ((Mem))) := if 700 ≤ s.1 then some (.inr s.2) else if (s.2 3 9) = 0 then if (s.2 3 6) = 43 then sp_Reader_readSum_j39_7 F E nE p0 k1 g s.2 s.1 else if (s.2 3 6) = 45 then sp_Reader_readSum_j39_7 F E nE p0 k1 g s.2 s.1 else some (.inr s.2) else some (.inr s.2)
theorem kl_Reader_readSum_7 {γ : GG} {tt : Bool} {F : Nat} {E : Int32 → Mem → Option Mem} {nE : Nat} {p0 : Int32} {g : Mem} {k1 : Int32} {b : Nat × Nat} {Φ : PO} (hE : ∀ {p0 : Int32} {g : Mem} {res : Mem}, E p0 g = some res → CA γ M_Reader_readExpr (nE + 11) [.ref 3, .int p0] SH g tt (0, 0) (pV SH res tt)) : ∀ (s : Int32 × Mem) (r : (Int32 × Mem) ⊕ ((Mem))), st_Reader_readSum_7 F E nE p0 g k1 s = some r → RQ (PL_Reader_readSum_7 γ tt nE p0 g k1 b Φ) (QL_Reader_readSum_7 γ tt nE p0 g k1 b Φ) r → PL_Reader_readSum_7 γ tt nE p0 g k1 b Φ s := by
  intro s r h hr
  unfold st_Reader_readSum_7 at h
  unfold PL_Reader_readSum_7
  refine w_iload_n (q := 8) d_Reader_readSum_7 rfl rfl ?_
  refine w_sipush (q := 11) (v := 700) d_Reader_readSum_8 rfl (by decide) ?_
  by_cases c2 : 700 ≤ s.1
  · rw [if_pos c2] at h
    refine w_icmp_ge_t (q := 82) d_Reader_readSum_11 rfl c2 ?_
    cases h
    exact w_ls (by exact trivial) hr
  · rw [if_neg c2] at h
    refine w_icmp_ge_f (q := 14) d_Reader_readSum_11 82 rfl rfl c2 ?_
    refine w_aload_n (q := 15) d_Reader_readSum_14 rfl rfl ?_
    refine w_get (q := 18) (ci := 6) (j := 9) d_Reader_readSum_15 rfl (by decide) fl_Reader_47 (by decide) (by decide) s_3 rfl rfl ?_
    by_cases c3 : (s.2 3 9) = 0
    · rw [if_pos c3] at h
      refine w_if_ne_f (q := 21) d_Reader_readSum_18 82 rfl rfl c3 ?_
      refine w_aload_n (q := 22) d_Reader_readSum_21 rfl rfl ?_
      refine w_get (q := 25) (ci := 6) (j := 6) d_Reader_readSum_22 rfl (by decide) fl_Reader_62 (by decide) (by decide) s_3 rfl rfl ?_
      refine w_bipush (q := 27) (v := 43) d_Reader_readSum_25 rfl (by decide) ?_
      by_cases c4 : (s.2 3 6) = 43
      · rw [if_pos c4] at h
        refine w_icmp_eq_t (q := 39) d_Reader_readSum_27 rfl c4 ?_
        refine w_ls (ls' := [some (.ref 3), some (.int k1), some (.int s.1), none]) (And.intro rfl (And.intro rfl (And.intro rfl trivial))) ?_
        exact ok_Reader_readSum_j39_7 hE h hr
      · rw [if_neg c4] at h
        refine w_icmp_eq_f (q := 30) d_Reader_readSum_27 39 rfl rfl c4 ?_
        refine w_aload_n (q := 31) d_Reader_readSum_30 rfl rfl ?_
        refine w_get (q := 34) (ci := 6) (j := 6) d_Reader_readSum_31 rfl (by decide) fl_Reader_62 (by decide) (by decide) s_3 rfl rfl ?_
        refine w_bipush (q := 36) (v := 45) d_Reader_readSum_34 rfl (by decide) ?_
        by_cases c9 : (s.2 3 6) = 45
        · rw [if_pos c9] at h
          refine w_icmp_ne_f (q := 39) d_Reader_readSum_36 82 rfl rfl c9 ?_
          refine w_ls (ls' := [some (.ref 3), some (.int k1), some (.int s.1), none]) (And.intro rfl (And.intro rfl (And.intro rfl trivial))) ?_
          exact ok_Reader_readSum_j39_7 hE h hr
        · rw [if_neg c9] at h
          refine w_icmp_ne_t (q := 82) d_Reader_readSum_36 rfl c9 ?_
          cases h
          exact w_ls (by exact trivial) hr
    · rw [if_neg c3] at h
      refine w_if_ne_t (q := 82) d_Reader_readSum_18 rfl c3 ?_
      cases h
      exact w_ls (by exact trivial) hr
def sp_Reader_readSum (F : Nat) (E : Int32 → Mem → Option Mem) (nE : Nat) (p0 : Int32) (g : Mem) : Option (Mem) := (sp_Reader_readProduct F E nE p0 g).bind fun v1 => (lpO (st_Reader_readSum_7 F E nE p0 g p0) F (0, v1)).bind fun x10 => some x10
theorem ok_Reader_readSum {γ : GG} {tt : Bool} {F : Nat} {E : Int32 → Mem → Option Mem} {nE : Nat} {p0 : Int32} {g : Mem} (hE : ∀ {p0 : Int32} {g : Mem} {res : Mem}, E p0 g = some res → CA γ M_Reader_readExpr (nE + 11) [.ref 3, .int p0] SH g tt (0, 0) (pV SH res tt)) {res : Mem} (h : sp_Reader_readSum F E nE p0 g = some res) : CA γ M_Reader_readSum (nE + 14) [.ref 3, .int p0] SH g tt (0, 0) (pV SH res tt) := by
  refine CA.of mw_Reader_readSum.1 2 rfl ?_
  show WA γ M_Reader_readSum (nE + 14) 0 [some (.ref 3), some (.int p0), none, none] [] SH g tt (0, 0) (pV SH res tt)
  unfold sp_Reader_readSum at h
  refine w_aload_n (q := 1) d_Reader_readSum_0 rfl rfl ?_
  refine w_iload_n (q := 2) d_Reader_readSum_1 rfl rfl ?_
  obtain ⟨v1, hv, h⟩ := bnd h
  refine w_callVv (q := 5) (M' := M_Reader_readProduct) (n' := (nE + 13)) (k := 3) (As := [.int p0]) (sh' := SH) (b1 := (0, 0)) d_Reader_readSum_2 rfl mw_Reader_readProduct (by omega) (by decide) ml_Reader_216 (by decide) s_3 (by decide) rfl rfl rfl (leb rfl) (bz _) (fun _ => rfl) (ok_Reader_readProduct hE hv) ?_
  refine w_iconst (q := 6) (v := 0) d_Reader_readSum_5 rfl (by decide) ?_
  refine w_istore_n (q := 7) (ls' := [some (.ref 3), some (.int p0), some (.int 0), none]) d_Reader_readSum_6 rfl (by decide) rfl rfl ?_
  obtain ⟨x10, hx, h⟩ := bnd h
  refine w_ls (ls' := [some (.ref 3), some (.int p0), some (.int 0), none]) (And.intro rfl (And.intro rfl (And.intro rfl trivial))) ?_
  show PL_Reader_readSum_7 γ tt nE p0 g p0 _ _ (0, v1)
  refine lp_ok (kl_Reader_readSum_7 hE) F _ x10 hx ?_
  unfold QL_Reader_readSum_7
  cases h
  exact w_return d_Reader_readSum_82 rfl ⟨rfl, rfl, rfl, rfl⟩
def sp_Reader_readTest_j46 (F : Nat) (E : Int32 → Mem → Option Mem) (nE : Nat) (p0 : Int32) (g : Mem) (m0 : Mem) (x1 : Int32) (y0 : Int32) : Option (Mem) := (sp_Reader_advance F m0).bind fun v5 => (sp_Reader_readSum F E nE x1 v5).bind fun v6 => (sp_Rule_add (4 + 4) y0 v6).bind fun v7 => some v7
theorem ok_Reader_readTest_j46 {γ : GG} {tt : Bool} {F : Nat} {E : Int32 → Mem → Option Mem} {nE : Nat} {p0 : Int32} {g : Mem} {m0 : Mem} {x1 : Int32} {y0 : Int32} (hE : ∀ {p0 : Int32} {g : Mem} {res : Mem}, E p0 g = some res → CA γ M_Reader_readExpr (nE + 11) [.ref 3, .int p0] SH g tt (0, 0) (pV SH res tt)) {res : Mem} (h : sp_Reader_readTest_j46 F E nE p0 g m0 x1 y0 = some res) : WA γ M_Reader_readTest (nE + 15) 46 [some (.ref 3), some (.int x1), none] [.int y0] SH m0 tt (0, 0) (pV SH res tt) := by
  unfold sp_Reader_readTest_j46 at h
  refine w_istore_n (q := 47) (ls' := [some (.ref 3), some (.int x1), some (.int y0)]) d_Reader_readTest_46 rfl (by decide) rfl rfl ?_
  refine w_aload_n (q := 48) d_Reader_readTest_47 rfl rfl ?_
  obtain ⟨v5, hv, h⟩ := bnd h
  refine w_callVv (q := 51) (M' := M_Reader_advance) (n' := 6) (k := 3) (As := []) (sh' := SH) (b1 := (0, 0)) d_Reader_readTest_48 rfl mw_Reader_advance (by omega) (by decide) ml_Reader_59 (by decide) s_3 (by decide) rfl rfl rfl (leb rfl) (bz _) (fun _ => rfl) (ok_Reader_advance hv) ?_
  refine w_aload_n (q := 52) d_Reader_readTest_51 rfl rfl ?_
  refine w_iload_n (q := 53) d_Reader_readTest_52 rfl rfl ?_
  obtain ⟨v6, hv, h⟩ := bnd h
  refine w_callVv (q := 56) (M' := M_Reader_readSum) (n' := (nE + 14)) (k := 3) (As := [.int x1]) (sh' := SH) (b1 := (0, 0)) d_Reader_readTest_53 rfl mw_Reader_readSum (by omega) (by decide) ml_Reader_213 (by decide) s_3 (by decide) rfl rfl rfl (leb rfl) (bz _) (fun _ => rfl) (ok_Reader_readSum hE hv) ?_
  refine w_aload_n (q := 57) d_Reader_readTest_56 rfl rfl ?_
  refine w_get (q := 60) (ci := 6) (j := 0) d_Reader_readTest_57 rfl (by decide) fl_Reader_12 (by decide) (by decide) s_3 rfl rfl ?_
  refine w_get (q := 63) (ci := 7) (j := 7) d_Reader_readTest_60 rfl (by decide) fl_Reader_198 (by decide) i_4.2.1 i_4.1 rfl rfl ?_
  refine w_iload_n (q := 64) d_Reader_readTest_63 rfl rfl ?_
  obtain ⟨v7, hv, h⟩ := bnd h
  refine w_callVv (q := 67) (M' := M_Rule_add) (n' := 0) (k := (4 + 4)) (As := [.int y0]) (sh' := SH) (b1 := (0, 0)) d_Reader_readTest_64 rfl mw_Rule_add (by omega) (by decide) ml_Reader_204 i_4.2.2.2.2.2.2.1 i_4.2.2.2.2.2.1 (by decide) rfl rfl rfl (leb rfl) (bz _) (fun _ => rfl) (ok_Rule_add i_4.2.2.2.2.2 hv) ?_
  cases h
  exact w_return d_Reader_readTest_67 rfl ⟨rfl, rfl, rfl, rfl⟩
def sp_Reader_readTest_j30 (F : Nat) (E : Int32 → Mem → Option Mem) (nE : Nat) (p0 : Int32) (g : Mem) (m0 : Mem) (x1 : Int32) : Option (Mem) := if (m0 3 6) = 60 then sp_Reader_readTest_j46 F E nE p0 g m0 x1 (-14) else sp_Reader_readTest_j46 F E nE p0 g m0 x1 (-15)
theorem ok_Reader_readTest_j30 {γ : GG} {tt : Bool} {F : Nat} {E : Int32 → Mem → Option Mem} {nE : Nat} {p0 : Int32} {g : Mem} {m0 : Mem} {x1 : Int32} (hE : ∀ {p0 : Int32} {g : Mem} {res : Mem}, E p0 g = some res → CA γ M_Reader_readExpr (nE + 11) [.ref 3, .int p0] SH g tt (0, 0) (pV SH res tt)) {res : Mem} (h : sp_Reader_readTest_j30 F E nE p0 g m0 x1 = some res) : WA γ M_Reader_readTest (nE + 15) 30 [some (.ref 3), some (.int x1), none] [] SH m0 tt (0, 0) (pV SH res tt) := by
  unfold sp_Reader_readTest_j30 at h
  refine w_aload_n (q := 31) d_Reader_readTest_30 rfl rfl ?_
  refine w_get (q := 34) (ci := 6) (j := 6) d_Reader_readTest_31 rfl (by decide) fl_Reader_62 (by decide) (by decide) s_3 rfl rfl ?_
  refine w_bipush (q := 36) (v := 60) d_Reader_readTest_34 rfl (by decide) ?_
  by_cases c4 : (m0 3 6) = 60
  · rw [if_pos c4] at h
    refine w_icmp_ne_f (q := 39) d_Reader_readTest_36 44 rfl rfl c4 ?_
    refine w_bipush (q := 41) (v := (-14)) d_Reader_readTest_39 rfl (by decide) ?_
    refine w_goto (q := 46) d_Reader_readTest_41 rfl ?_
    refine w_ls (ls' := [some (.ref 3), some (.int x1), none]) (And.intro rfl (And.intro rfl trivial)) ?_
    exact ok_Reader_readTest_j46 hE h
  · rw [if_neg c4] at h
    refine w_icmp_ne_t (q := 44) d_Reader_readTest_36 rfl c4 ?_
    refine w_bipush (q := 46) (v := (-15)) d_Reader_readTest_44 rfl (by decide) ?_
    refine w_ls (ls' := [some (.ref 3), some (.int x1), none]) (And.intro rfl (And.intro rfl trivial)) ?_
    exact ok_Reader_readTest_j46 hE h
def sp_Reader_readTest (F : Nat) (E : Int32 → Mem → Option Mem) (nE : Nat) (p0 : Int32) (g : Mem) : Option (Mem) := (sp_Reader_readSum F E nE p0 g).bind fun v1 => if (v1 3 9) = 0 then if (v1 3 6) = 60 then sp_Reader_readTest_j30 F E nE p0 g v1 p0 else if (v1 3 6) = 61 then sp_Reader_readTest_j30 F E nE p0 g v1 p0 else some v1 else some v1
theorem ok_Reader_readTest {γ : GG} {tt : Bool} {F : Nat} {E : Int32 → Mem → Option Mem} {nE : Nat} {p0 : Int32} {g : Mem} (hE : ∀ {p0 : Int32} {g : Mem} {res : Mem}, E p0 g = some res → CA γ M_Reader_readExpr (nE + 11) [.ref 3, .int p0] SH g tt (0, 0) (pV SH res tt)) {res : Mem} (h : sp_Reader_readTest F E nE p0 g = some res) : CA γ M_Reader_readTest (nE + 15) [.ref 3, .int p0] SH g tt (0, 0) (pV SH res tt) := by
  refine CA.of mw_Reader_readTest.1 1 rfl ?_
  show WA γ M_Reader_readTest (nE + 15) 0 [some (.ref 3), some (.int p0), none] [] SH g tt (0, 0) (pV SH res tt)
  unfold sp_Reader_readTest at h
  refine w_aload_n (q := 1) d_Reader_readTest_0 rfl rfl ?_
  refine w_iload_n (q := 2) d_Reader_readTest_1 rfl rfl ?_
  obtain ⟨v1, hv, h⟩ := bnd h
  refine w_callVv (q := 5) (M' := M_Reader_readSum) (n' := (nE + 14)) (k := 3) (As := [.int p0]) (sh' := SH) (b1 := (0, 0)) d_Reader_readTest_2 rfl mw_Reader_readSum (by omega) (by decide) ml_Reader_213 (by decide) s_3 (by decide) rfl rfl rfl (leb rfl) (bz _) (fun _ => rfl) (ok_Reader_readSum hE hv) ?_
  refine w_aload_n (q := 6) d_Reader_readTest_5 rfl rfl ?_
  refine w_get (q := 9) (ci := 6) (j := 9) d_Reader_readTest_6 rfl (by decide) fl_Reader_47 (by decide) (by decide) s_3 rfl rfl ?_
  by_cases c2 : (v1 3 9) = 0
  · rw [if_pos c2] at h
    refine w_if_ne_f (q := 12) d_Reader_readTest_9 67 rfl rfl c2 ?_
    refine w_aload_n (q := 13) d_Reader_readTest_12 rfl rfl ?_
    refine w_get (q := 16) (ci := 6) (j := 6) d_Reader_readTest_13 rfl (by decide) fl_Reader_62 (by decide) (by decide) s_3 rfl rfl ?_
    refine w_bipush (q := 18) (v := 60) d_Reader_readTest_16 rfl (by decide) ?_
    by_cases c3 : (v1 3 6) = 60
    · rw [if_pos c3] at h
      refine w_icmp_eq_t (q := 30) d_Reader_readTest_18 rfl c3 ?_
      refine w_ls (ls' := [some (.ref 3), some (.int p0), none]) (And.intro rfl (And.intro rfl trivial)) ?_
      exact ok_Reader_readTest_j30 hE h
    · rw [if_neg c3] at h
      refine w_icmp_eq_f (q := 21) d_Reader_readTest_18 30 rfl rfl c3 ?_
      refine w_aload_n (q := 22) d_Reader_readTest_21 rfl rfl ?_
      refine w_get (q := 25) (ci := 6) (j := 6) d_Reader_readTest_22 rfl (by decide) fl_Reader_62 (by decide) (by decide) s_3 rfl rfl ?_
      refine w_bipush (q := 27) (v := 61) d_Reader_readTest_25 rfl (by decide) ?_
      by_cases c8 : (v1 3 6) = 61
      · rw [if_pos c8] at h
        refine w_icmp_ne_f (q := 30) d_Reader_readTest_27 67 rfl rfl c8 ?_
        refine w_ls (ls' := [some (.ref 3), some (.int p0), none]) (And.intro rfl (And.intro rfl trivial)) ?_
        exact ok_Reader_readTest_j30 hE h
      · rw [if_neg c8] at h
        refine w_icmp_ne_t (q := 67) d_Reader_readTest_27 rfl c8 ?_
        cases h
        exact w_return d_Reader_readTest_67 rfl ⟨rfl, rfl, rfl, rfl⟩
  · rw [if_neg c2] at h
    refine w_if_ne_t (q := 67) d_Reader_readTest_9 rfl c2 ?_
    cases h
    exact w_return d_Reader_readTest_67 rfl ⟨rfl, rfl, rfl, rfl⟩
def PL_Reader_readNot_4 (γ : GG) (tt : Bool) (nE : Nat) (p0 : Int32) (g : Mem) (k1 : Int32) (b : Nat × Nat) (Φ : PO) (s : Int32 × Int32 × Mem) : Prop := WA γ M_Reader_readNot (nE + 16) 4 [some (.ref 3), some (.int k1), some (.int s.1), some (.int s.2.1)] [] SH s.2.2 tt b Φ
def QL_Reader_readNot_4 (γ : GG) (tt : Bool) (nE : Nat) (p0 : Int32) (g : Mem) (k1 : Int32) (b : Nat × Nat) (Φ : PO) (x : (Int32 × Mem)) : Prop := WA γ M_Reader_readNot (nE + 16) 32 [some (.ref 3), some (.int k1), some (.int x.1), none] [] SH x.2 tt b Φ
def st_Reader_readNot_4 (F : Nat) (E : Int32 → Mem → Option Mem) (nE : Nat) (p0 : Int32) (g : Mem) (k1 : Int32) (s : Int32 × Int32 × Mem) : Option ((Int32 × Int32 × Mem) ⊕ ((Int32 × Mem))) := if 6 ≤ s.2.1 then some (.inr (s.1, s.2.2)) else if (s.2.2 3 6) = 118 then (sp_Reader_advance F s.2.2).bind fun v3 => some (.inl (s.1 + 1, s.2.1 + 1, v3)) else some (.inr (s.1, s.2.2))
theorem kl_Reader_readNot_4 {γ : GG} {tt : Bool} {F : Nat} {E : Int32 → Mem → Option Mem} {nE : Nat} {p0 : Int32} {g : Mem} {k1 : Int32} {b : Nat × Nat} {Φ : PO} (hE : ∀ {p0 : Int32} {g : Mem} {res : Mem}, E p0 g = some res → CA γ M_Reader_readExpr (nE + 11) [.ref 3, .int p0] SH g tt (0, 0) (pV SH res tt)) : ∀ (s : Int32 × Int32 × Mem) (r : (Int32 × Int32 × Mem) ⊕ ((Int32 × Mem))), st_Reader_readNot_4 F E nE p0 g k1 s = some r → RQ (PL_Reader_readNot_4 γ tt nE p0 g k1 b Φ) (QL_Reader_readNot_4 γ tt nE p0 g k1 b Φ) r → PL_Reader_readNot_4 γ tt nE p0 g k1 b Φ s := by
  intro s r h hr
  unfold st_Reader_readNot_4 at h
  unfold PL_Reader_readNot_4
  refine w_iload_n (q := 5) d_Reader_readNot_4 rfl rfl ?_
  refine w_bipush (q := 7) (v := 6) d_Reader_readNot_5 rfl (by decide) ?_
  by_cases c1 : 6 ≤ s.2.1
  · rw [if_pos c1] at h
    refine w_icmp_ge_t (q := 32) d_Reader_readNot_7 rfl c1 ?_
    cases h
    exact w_ls (by exact (And.intro rfl (And.intro rfl (And.intro rfl trivial)))) hr
  · rw [if_neg c1] at h
    refine w_icmp_ge_f (q := 10) d_Reader_readNot_7 32 rfl rfl c1 ?_
    refine w_aload_n (q := 11) d_Reader_readNot_10 rfl rfl ?_
    refine w_get (q := 14) (ci := 6) (j := 6) d_Reader_readNot_11 rfl (by decide) fl_Reader_62 (by decide) (by decide) s_3 rfl rfl ?_
    refine w_bipush (q := 16) (v := 118) d_Reader_readNot_14 rfl (by decide) ?_
    by_cases c2 : (s.2.2 3 6) = 118
    · rw [if_pos c2] at h
      refine w_icmp_ne_f (q := 19) d_Reader_readNot_16 32 rfl rfl c2 ?_
      refine w_iinc (q := 22) (ls' := [some (.ref 3), some (.int k1), some (.int (s.1 + 1)), some (.int s.2.1)]) d_Reader_readNot_19 rfl (by decide) rfl rfl rfl ?_
      refine w_aload_n (q := 23) d_Reader_readNot_22 rfl rfl ?_
      obtain ⟨v3, hv, h⟩ := bnd h
      refine w_callVv (q := 26) (M' := M_Reader_advance) (n' := 6) (k := 3) (As := []) (sh' := SH) (b1 := (0, 0)) d_Reader_readNot_23 rfl mw_Reader_advance (by omega) (by decide) ml_Reader_59 (by decide) s_3 (by decide) rfl rfl rfl (leb rfl) (bz _) (fun _ => rfl) (ok_Reader_advance hv) ?_
      refine w_iinc (q := 29) (ls' := [some (.ref 3), some (.int k1), some (.int (s.1 + 1)), some (.int (s.2.1 + 1))]) d_Reader_readNot_26 rfl (by decide) rfl rfl rfl ?_
      refine w_goto (q := 4) d_Reader_readNot_29 rfl ?_
      cases h
      exact w_ls (by exact (And.intro rfl (And.intro rfl (And.intro rfl (And.intro rfl trivial))))) hr
    · rw [if_neg c2] at h
      refine w_icmp_ne_t (q := 32) d_Reader_readNot_16 rfl c2 ?_
      cases h
      exact w_ls (by exact (And.intro rfl (And.intro rfl (And.intro rfl trivial)))) hr
def PL_Reader_readNot_54 (γ : GG) (tt : Bool) (nE : Nat) (p0 : Int32) (g : Mem) (k2 : Int32) (b : Nat × Nat) (Φ : PO) (s : Int32 × Mem) : Prop := WA γ M_Reader_readNot (nE + 16) 54 [some (.ref 3), none, some (.int k2), some (.int s.1)] [] SH s.2 tt b Φ
def QL_Reader_readNot_54 (γ : GG) (tt : Bool) (nE : Nat) (p0 : Int32) (g : Mem) (k2 : Int32) (b : Nat × Nat) (Φ : PO) (x : (Mem)) : Prop := WA γ M_Reader_readNot (nE + 16) 77 [none, none, none, none] [] SH x tt b Φ
def st_Reader_readNot_54 (F : Nat) (E : Int32 → Mem → Option Mem) (nE : Nat) (p0 : Int32) (g : Mem) (k2 : Int32) (s : Int32 × Mem) : Option ((Int32 × Mem) ⊕ ((Mem))) := if k2 ≤ s.1 then some (.inr s.2) else (sp_Rule_add (4 + 4) (-13) s.2).bind fun v9 => some (.inl (s.1 + 1, v9))
theorem kl_Reader_readNot_54 {γ : GG} {tt : Bool} {F : Nat} {E : Int32 → Mem → Option Mem} {nE : Nat} {p0 : Int32} {g : Mem} {k2 : Int32} {b : Nat × Nat} {Φ : PO} (hE : ∀ {p0 : Int32} {g : Mem} {res : Mem}, E p0 g = some res → CA γ M_Reader_readExpr (nE + 11) [.ref 3, .int p0] SH g tt (0, 0) (pV SH res tt)) : ∀ (s : Int32 × Mem) (r : (Int32 × Mem) ⊕ ((Mem))), st_Reader_readNot_54 F E nE p0 g k2 s = some r → RQ (PL_Reader_readNot_54 γ tt nE p0 g k2 b Φ) (QL_Reader_readNot_54 γ tt nE p0 g k2 b Φ) r → PL_Reader_readNot_54 γ tt nE p0 g k2 b Φ s := by
  intro s r h hr
  unfold st_Reader_readNot_54 at h
  unfold PL_Reader_readNot_54
  refine w_iload_n (q := 55) d_Reader_readNot_54 rfl rfl ?_
  refine w_iload_n (q := 56) d_Reader_readNot_55 rfl rfl ?_
  by_cases c8 : k2 ≤ s.1
  · rw [if_pos c8] at h
    refine w_icmp_ge_t (q := 77) d_Reader_readNot_56 rfl c8 ?_
    cases h
    exact w_ls (by exact trivial) hr
  · rw [if_neg c8] at h
    refine w_icmp_ge_f (q := 59) d_Reader_readNot_56 77 rfl rfl c8 ?_
    refine w_aload_n (q := 60) d_Reader_readNot_59 rfl rfl ?_
    refine w_get (q := 63) (ci := 6) (j := 0) d_Reader_readNot_60 rfl (by decide) fl_Reader_12 (by decide) (by decide) s_3 rfl rfl ?_
    refine w_get (q := 66) (ci := 7) (j := 7) d_Reader_readNot_63 rfl (by decide) fl_Reader_198 (by decide) i_4.2.1 i_4.1 rfl rfl ?_
    refine w_bipush (q := 68) (v := (-13)) d_Reader_readNot_66 rfl (by decide) ?_
    obtain ⟨v9, hv, h⟩ := bnd h
    refine w_callVv (q := 71) (M' := M_Rule_add) (n' := 0) (k := (4 + 4)) (As := [.int ((-13))]) (sh' := SH) (b1 := (0, 0)) d_Reader_readNot_68 rfl mw_Rule_add (by omega) (by decide) ml_Reader_204 i_4.2.2.2.2.2.2.1 i_4.2.2.2.2.2.1 (by decide) rfl rfl rfl (leb rfl) (bz _) (fun _ => rfl) (ok_Rule_add i_4.2.2.2.2.2 hv) ?_
    refine w_iinc (q := 74) (ls' := [some (.ref 3), none, some (.int k2), some (.int (s.1 + 1))]) d_Reader_readNot_71 rfl (by decide) rfl rfl rfl ?_
    refine w_goto (q := 54) d_Reader_readNot_74 rfl ?_
    cases h
    exact w_ls (by exact (And.intro rfl (And.intro rfl (And.intro rfl trivial)))) hr
def sp_Reader_readNot_j32 (F : Nat) (E : Int32 → Mem → Option Mem) (nE : Nat) (p0 : Int32) (g : Mem) (m0 : Mem) (x1 : Int32) (x2 : Int32) : Option (Mem) := if (m0 3 6) = 118 then (sp_Reader_fail 2 m0).bind fun v6 => some v6 else (sp_Reader_readTest F E nE x1 m0).bind fun v7 => (lpO (st_Reader_readNot_54 F E nE p0 g x2) F (0, v7)).bind fun x10 => some x10
theorem ok_Reader_readNot_j32 {γ : GG} {tt : Bool} {F : Nat} {E : Int32 → Mem → Option Mem} {nE : Nat} {p0 : Int32} {g : Mem} {m0 : Mem} {x1 : Int32} {x2 : Int32} (hE : ∀ {p0 : Int32} {g : Mem} {res : Mem}, E p0 g = some res → CA γ M_Reader_readExpr (nE + 11) [.ref 3, .int p0] SH g tt (0, 0) (pV SH res tt)) {res : Mem} (h : sp_Reader_readNot_j32 F E nE p0 g m0 x1 x2 = some res) : WA γ M_Reader_readNot (nE + 16) 32 [some (.ref 3), some (.int x1), some (.int x2), none] [] SH m0 tt (0, 0) (pV SH res tt) := by
  unfold sp_Reader_readNot_j32 at h
  refine w_aload_n (q := 33) d_Reader_readNot_32 rfl rfl ?_
  refine w_get (q := 36) (ci := 6) (j := 6) d_Reader_readNot_33 rfl (by decide) fl_Reader_62 (by decide) (by decide) s_3 rfl rfl ?_
  refine w_bipush (q := 38) (v := 118) d_Reader_readNot_36 rfl (by decide) ?_
  by_cases c5 : (m0 3 6) = 118
  · rw [if_pos c5] at h
    refine w_icmp_ne_f (q := 41) d_Reader_readNot_38 47 rfl rfl c5 ?_
    refine w_aload_n (q := 42) d_Reader_readNot_41 rfl rfl ?_
    refine w_iconst (q := 43) (v := 2) d_Reader_readNot_42 rfl (by decide) ?_
    obtain ⟨v6, hv, h⟩ := bnd h
    refine w_callVv (q := 46) (M' := M_Reader_fail) (n' := 0) (k := 3) (As := [.int 2]) (sh' := SH) (b1 := (0, 0)) d_Reader_readNot_43 rfl mw_Reader_fail (by omega) (by decide) ml_Reader_78 (by decide) s_3 (by decide) rfl rfl rfl (leb rfl) (bz _) (fun _ => rfl) (ok_Reader_fail hv) ?_
    cases h
    exact w_return d_Reader_readNot_46 rfl ⟨rfl, rfl, rfl, rfl⟩
  · rw [if_neg c5] at h
    refine w_icmp_ne_t (q := 47) d_Reader_readNot_38 rfl c5 ?_
    refine w_aload_n (q := 48) d_Reader_readNot_47 rfl rfl ?_
    refine w_iload_n (q := 49) d_Reader_readNot_48 rfl rfl ?_
    obtain ⟨v7, hv, h⟩ := bnd h
    refine w_callVv (q := 52) (M' := M_Reader_readTest) (n' := (nE + 15)) (k := 3) (As := [.int x1]) (sh' := SH) (b1 := (0, 0)) d_Reader_readNot_49 rfl mw_Reader_readTest (by omega) (by decide) ml_Reader_210 (by decide) s_3 (by decide) rfl rfl rfl (leb rfl) (bz _) (fun _ => rfl) (ok_Reader_readTest hE hv) ?_
    refine w_iconst (q := 53) (v := 0) d_Reader_readNot_52 rfl (by decide) ?_
    refine w_istore_n (q := 54) (ls' := [some (.ref 3), some (.int x1), some (.int x2), some (.int 0)]) d_Reader_readNot_53 rfl (by decide) rfl rfl ?_
    obtain ⟨x10, hx, h⟩ := bnd h
    refine w_ls (ls' := [some (.ref 3), none, some (.int x2), some (.int 0)]) (And.intro rfl (And.intro rfl (And.intro rfl trivial))) ?_
    show PL_Reader_readNot_54 γ tt nE p0 g x2 _ _ (0, v7)
    refine lp_ok (kl_Reader_readNot_54 hE) F _ x10 hx ?_
    unfold QL_Reader_readNot_54
    cases h
    exact w_return d_Reader_readNot_77 rfl ⟨rfl, rfl, rfl, rfl⟩
def sp_Reader_readNot (F : Nat) (E : Int32 → Mem → Option Mem) (nE : Nat) (p0 : Int32) (g : Mem) : Option (Mem) := (lpO (st_Reader_readNot_4 F E nE p0 g p0) F (0, 0, g)).bind fun x4 => sp_Reader_readNot_j32 F E nE p0 g x4.2 p0 x4.1
theorem ok_Reader_readNot {γ : GG} {tt : Bool} {F : Nat} {E : Int32 → Mem → Option Mem} {nE : Nat} {p0 : Int32} {g : Mem} (hE : ∀ {p0 : Int32} {g : Mem} {res : Mem}, E p0 g = some res → CA γ M_Reader_readExpr (nE + 11) [.ref 3, .int p0] SH g tt (0, 0) (pV SH res tt)) {res : Mem} (h : sp_Reader_readNot F E nE p0 g = some res) : CA γ M_Reader_readNot (nE + 16) [.ref 3, .int p0] SH g tt (0, 0) (pV SH res tt) := by
  refine CA.of mw_Reader_readNot.1 2 rfl ?_
  show WA γ M_Reader_readNot (nE + 16) 0 [some (.ref 3), some (.int p0), none, none] [] SH g tt (0, 0) (pV SH res tt)
  unfold sp_Reader_readNot at h
  refine w_iconst (q := 1) (v := 0) d_Reader_readNot_0 rfl (by decide) ?_
  refine w_istore_n (q := 2) (ls' := [some (.ref 3), some (.int p0), some (.int 0), none]) d_Reader_readNot_1 rfl (by decide) rfl rfl ?_
  refine w_iconst (q := 3) (v := 0) d_Reader_readNot_2 rfl (by decide) ?_
  refine w_istore_n (q := 4) (ls' := [some (.ref 3), some (.int p0), some (.int 0), some (.int 0)]) d_Reader_readNot_3 rfl (by decide) rfl rfl ?_
  obtain ⟨x4, hx, h⟩ := bnd h
  refine w_ls (ls' := [some (.ref 3), some (.int p0), some (.int 0), some (.int 0)]) (And.intro rfl (And.intro rfl (And.intro rfl (And.intro rfl trivial)))) ?_
  show PL_Reader_readNot_4 γ tt nE p0 g p0 _ _ (0, 0, g)
  refine lp_ok (kl_Reader_readNot_4 hE) F _ x4 hx ?_
  unfold QL_Reader_readNot_4
  refine w_ls (ls' := [some (.ref 3), some (.int p0), some (.int x4.1), none]) (And.intro rfl (And.intro rfl (And.intro rfl trivial))) ?_
  exact ok_Reader_readNot_j32 hE h
def PL_Reader_readAnd_7 (γ : GG) (tt : Bool) (nE : Nat) (p0 : Int32) (g : Mem) (k1 : Int32) (b : Nat × Nat) (Φ : PO) (s : Int32 × Mem) : Prop := WA γ M_Reader_readAnd (nE + 17) 7 [some (.ref 3), some (.int k1), some (.int s.1)] [] SH s.2 tt b Φ
def QL_Reader_readAnd_7 (γ : GG) (tt : Bool) (nE : Nat) (p0 : Int32) (g : Mem) (k1 : Int32) (b : Nat × Nat) (Φ : PO) (x : (Mem)) : Prop := WA γ M_Reader_readAnd (nE + 17) 57 [none, none, none] [] SH x tt b Φ
def st_Reader_readAnd_7 (F : Nat) (E : Int32 → Mem → Option Mem) (nE : Nat) (p0 : Int32) (g : Mem) (k1 : Int32) (s : Int32 × Mem) : Option ((Int32 × Mem) ⊕ ((Mem))) := if 700 ≤ s.1 then some (.inr s.2) else if (s.2 3 9) = 0 then if (s.2 3 6) = 117 then (sp_Reader_advance F s.2).bind fun v5 => (sp_Reader_readNot F E nE k1 v5).bind fun v6 => (sp_Rule_add (4 + 4) (-12) v6).bind fun v7 => some (.inl (s.1 + 1, v7)) else some (.inr s.2) else some (.inr s.2)
theorem kl_Reader_readAnd_7 {γ : GG} {tt : Bool} {F : Nat} {E : Int32 → Mem → Option Mem} {nE : Nat} {p0 : Int32} {g : Mem} {k1 : Int32} {b : Nat × Nat} {Φ : PO} (hE : ∀ {p0 : Int32} {g : Mem} {res : Mem}, E p0 g = some res → CA γ M_Reader_readExpr (nE + 11) [.ref 3, .int p0] SH g tt (0, 0) (pV SH res tt)) : ∀ (s : Int32 × Mem) (r : (Int32 × Mem) ⊕ ((Mem))), st_Reader_readAnd_7 F E nE p0 g k1 s = some r → RQ (PL_Reader_readAnd_7 γ tt nE p0 g k1 b Φ) (QL_Reader_readAnd_7 γ tt nE p0 g k1 b Φ) r → PL_Reader_readAnd_7 γ tt nE p0 g k1 b Φ s := by
  intro s r h hr
  unfold st_Reader_readAnd_7 at h
  unfold PL_Reader_readAnd_7
  refine w_iload_n (q := 8) d_Reader_readAnd_7 rfl rfl ?_
  refine w_sipush (q := 11) (v := 700) d_Reader_readAnd_8 rfl (by decide) ?_
  by_cases c2 : 700 ≤ s.1
  · rw [if_pos c2] at h
    refine w_icmp_ge_t (q := 57) d_Reader_readAnd_11 rfl c2 ?_
    cases h
    exact w_ls (by exact trivial) hr
  · rw [if_neg c2] at h
    refine w_icmp_ge_f (q := 14) d_Reader_readAnd_11 57 rfl rfl c2 ?_
    refine w_aload_n (q := 15) d_Reader_readAnd_14 rfl rfl ?_
    refine w_get (q := 18) (ci := 6) (j := 9) d_Reader_readAnd_15 rfl (by decide) fl_Reader_47 (by decide) (by decide) s_3 rfl rfl ?_
    by_cases c3 : (s.2 3 9) = 0
    · rw [if_pos c3] at h
      refine w_if_ne_f (q := 21) d_Reader_readAnd_18 57 rfl rfl c3 ?_
      refine w_aload_n (q := 22) d_Reader_readAnd_21 rfl rfl ?_
      refine w_get (q := 25) (ci := 6) (j := 6) d_Reader_readAnd_22 rfl (by decide) fl_Reader_62 (by decide) (by decide) s_3 rfl rfl ?_
      refine w_bipush (q := 27) (v := 117) d_Reader_readAnd_25 rfl (by decide) ?_
      by_cases c4 : (s.2 3 6) = 117
      · rw [if_pos c4] at h
        refine w_icmp_ne_f (q := 30) d_Reader_readAnd_27 57 rfl rfl c4 ?_
        refine w_aload_n (q := 31) d_Reader_readAnd_30 rfl rfl ?_
        obtain ⟨v5, hv, h⟩ := bnd h
        refine w_callVv (q := 34) (M' := M_Reader_advance) (n' := 6) (k := 3) (As := []) (sh' := SH) (b1 := (0, 0)) d_Reader_readAnd_31 rfl mw_Reader_advance (by omega) (by decide) ml_Reader_59 (by decide) s_3 (by decide) rfl rfl rfl (leb rfl) (bz _) (fun _ => rfl) (ok_Reader_advance hv) ?_
        refine w_aload_n (q := 35) d_Reader_readAnd_34 rfl rfl ?_
        refine w_iload_n (q := 36) d_Reader_readAnd_35 rfl rfl ?_
        obtain ⟨v6, hv, h⟩ := bnd h
        refine w_callVv (q := 39) (M' := M_Reader_readNot) (n' := (nE + 16)) (k := 3) (As := [.int k1]) (sh' := SH) (b1 := (0, 0)) d_Reader_readAnd_36 rfl mw_Reader_readNot (by omega) (by decide) ml_Reader_207 (by decide) s_3 (by decide) rfl rfl rfl (leb rfl) (bz _) (fun _ => rfl) (ok_Reader_readNot hE hv) ?_
        refine w_aload_n (q := 40) d_Reader_readAnd_39 rfl rfl ?_
        refine w_get (q := 43) (ci := 6) (j := 0) d_Reader_readAnd_40 rfl (by decide) fl_Reader_12 (by decide) (by decide) s_3 rfl rfl ?_
        refine w_get (q := 46) (ci := 7) (j := 7) d_Reader_readAnd_43 rfl (by decide) fl_Reader_198 (by decide) i_4.2.1 i_4.1 rfl rfl ?_
        refine w_bipush (q := 48) (v := (-12)) d_Reader_readAnd_46 rfl (by decide) ?_
        obtain ⟨v7, hv, h⟩ := bnd h
        refine w_callVv (q := 51) (M' := M_Rule_add) (n' := 0) (k := (4 + 4)) (As := [.int ((-12))]) (sh' := SH) (b1 := (0, 0)) d_Reader_readAnd_48 rfl mw_Rule_add (by omega) (by decide) ml_Reader_204 i_4.2.2.2.2.2.2.1 i_4.2.2.2.2.2.1 (by decide) rfl rfl rfl (leb rfl) (bz _) (fun _ => rfl) (ok_Rule_add i_4.2.2.2.2.2 hv) ?_
        refine w_iinc (q := 54) (ls' := [some (.ref 3), some (.int k1), some (.int (s.1 + 1))]) d_Reader_readAnd_51 rfl (by decide) rfl rfl rfl ?_
        refine w_goto (q := 7) d_Reader_readAnd_54 rfl ?_
        cases h
        exact w_ls (by exact (And.intro rfl (And.intro rfl (And.intro rfl trivial)))) hr
      · rw [if_neg c4] at h
        refine w_icmp_ne_t (q := 57) d_Reader_readAnd_27 rfl c4 ?_
        cases h
        exact w_ls (by exact trivial) hr
    · rw [if_neg c3] at h
      refine w_if_ne_t (q := 57) d_Reader_readAnd_18 rfl c3 ?_
      cases h
      exact w_ls (by exact trivial) hr
def sp_Reader_readAnd (F : Nat) (E : Int32 → Mem → Option Mem) (nE : Nat) (p0 : Int32) (g : Mem) : Option (Mem) := (sp_Reader_readNot F E nE p0 g).bind fun v1 => (lpO (st_Reader_readAnd_7 F E nE p0 g p0) F (0, v1)).bind fun x8 => some x8
theorem ok_Reader_readAnd {γ : GG} {tt : Bool} {F : Nat} {E : Int32 → Mem → Option Mem} {nE : Nat} {p0 : Int32} {g : Mem} (hE : ∀ {p0 : Int32} {g : Mem} {res : Mem}, E p0 g = some res → CA γ M_Reader_readExpr (nE + 11) [.ref 3, .int p0] SH g tt (0, 0) (pV SH res tt)) {res : Mem} (h : sp_Reader_readAnd F E nE p0 g = some res) : CA γ M_Reader_readAnd (nE + 17) [.ref 3, .int p0] SH g tt (0, 0) (pV SH res tt) := by
  refine CA.of mw_Reader_readAnd.1 1 rfl ?_
  show WA γ M_Reader_readAnd (nE + 17) 0 [some (.ref 3), some (.int p0), none] [] SH g tt (0, 0) (pV SH res tt)
  unfold sp_Reader_readAnd at h
  refine w_aload_n (q := 1) d_Reader_readAnd_0 rfl rfl ?_
  refine w_iload_n (q := 2) d_Reader_readAnd_1 rfl rfl ?_
  obtain ⟨v1, hv, h⟩ := bnd h
  refine w_callVv (q := 5) (M' := M_Reader_readNot) (n' := (nE + 16)) (k := 3) (As := [.int p0]) (sh' := SH) (b1 := (0, 0)) d_Reader_readAnd_2 rfl mw_Reader_readNot (by omega) (by decide) ml_Reader_207 (by decide) s_3 (by decide) rfl rfl rfl (leb rfl) (bz _) (fun _ => rfl) (ok_Reader_readNot hE hv) ?_
  refine w_iconst (q := 6) (v := 0) d_Reader_readAnd_5 rfl (by decide) ?_
  refine w_istore_n (q := 7) (ls' := [some (.ref 3), some (.int p0), some (.int 0)]) d_Reader_readAnd_6 rfl (by decide) rfl rfl ?_
  obtain ⟨x8, hx, h⟩ := bnd h
  refine w_ls (ls' := [some (.ref 3), some (.int p0), some (.int 0)]) (And.intro rfl (And.intro rfl (And.intro rfl trivial))) ?_
  show PL_Reader_readAnd_7 γ tt nE p0 g p0 _ _ (0, v1)
  refine lp_ok (kl_Reader_readAnd_7 hE) F _ x8 hx ?_
  unfold QL_Reader_readAnd_7
  cases h
  exact w_return d_Reader_readAnd_57 rfl ⟨rfl, rfl, rfl, rfl⟩
def PL_Reader_readExpr_30 (γ : GG) (tt : Bool) (nE : Nat) (p0 : Int32) (g : Mem) (k1 : Int32) (b : Nat × Nat) (Φ : PO) (s : Int32 × Mem) : Prop := WA γ M_Reader_readExpr (nE + 18) 30 [some (.ref 3), some (.int k1), some (.int s.1)] [] SH s.2 tt b Φ
def QL_Reader_readExpr_30 (γ : GG) (tt : Bool) (nE : Nat) (p0 : Int32) (g : Mem) (k1 : Int32) (b : Nat × Nat) (Φ : PO) (x : (Mem)) : Prop := WA γ M_Reader_readExpr (nE + 18) 80 [none, none, none] [] SH x tt b Φ
def st_Reader_readExpr_30 (F : Nat) (E : Int32 → Mem → Option Mem) (nE : Nat) (p0 : Int32) (g : Mem) (k1 : Int32) (s : Int32 × Mem) : Option ((Int32 × Mem) ⊕ ((Mem))) := if 700 ≤ s.1 then some (.inr s.2) else if (s.2 3 9) = 0 then if (s.2 3 6) = 116 then (sp_Reader_advance F s.2).bind fun v6 => (sp_Reader_readAnd F E nE k1 v6).bind fun v7 => (sp_Rule_add (4 + 4) (-11) v7).bind fun v8 => some (.inl (s.1 + 1, v8)) else some (.inr s.2) else some (.inr s.2)
theorem kl_Reader_readExpr_30 {γ : GG} {tt : Bool} {F : Nat} {E : Int32 → Mem → Option Mem} {nE : Nat} {p0 : Int32} {g : Mem} {k1 : Int32} {b : Nat × Nat} {Φ : PO} (hE : ∀ {p0 : Int32} {g : Mem} {res : Mem}, E p0 g = some res → CA γ M_Reader_readExpr (nE + 11) [.ref 3, .int p0] SH g tt (0, 0) (pV SH res tt)) : ∀ (s : Int32 × Mem) (r : (Int32 × Mem) ⊕ ((Mem))), st_Reader_readExpr_30 F E nE p0 g k1 s = some r → RQ (PL_Reader_readExpr_30 γ tt nE p0 g k1 b Φ) (QL_Reader_readExpr_30 γ tt nE p0 g k1 b Φ) r → PL_Reader_readExpr_30 γ tt nE p0 g k1 b Φ s := by
  intro s r h hr
  unfold st_Reader_readExpr_30 at h
  unfold PL_Reader_readExpr_30
  refine w_iload_n (q := 31) d_Reader_readExpr_30 rfl rfl ?_
  refine w_sipush (q := 34) (v := 700) d_Reader_readExpr_31 rfl (by decide) ?_
  by_cases c3 : 700 ≤ s.1
  · rw [if_pos c3] at h
    refine w_icmp_ge_t (q := 80) d_Reader_readExpr_34 rfl c3 ?_
    cases h
    exact w_ls (by exact trivial) hr
  · rw [if_neg c3] at h
    refine w_icmp_ge_f (q := 37) d_Reader_readExpr_34 80 rfl rfl c3 ?_
    refine w_aload_n (q := 38) d_Reader_readExpr_37 rfl rfl ?_
    refine w_get (q := 41) (ci := 6) (j := 9) d_Reader_readExpr_38 rfl (by decide) fl_Reader_47 (by decide) (by decide) s_3 rfl rfl ?_
    by_cases c4 : (s.2 3 9) = 0
    · rw [if_pos c4] at h
      refine w_if_ne_f (q := 44) d_Reader_readExpr_41 80 rfl rfl c4 ?_
      refine w_aload_n (q := 45) d_Reader_readExpr_44 rfl rfl ?_
      refine w_get (q := 48) (ci := 6) (j := 6) d_Reader_readExpr_45 rfl (by decide) fl_Reader_62 (by decide) (by decide) s_3 rfl rfl ?_
      refine w_bipush (q := 50) (v := 116) d_Reader_readExpr_48 rfl (by decide) ?_
      by_cases c5 : (s.2 3 6) = 116
      · rw [if_pos c5] at h
        refine w_icmp_ne_f (q := 53) d_Reader_readExpr_50 80 rfl rfl c5 ?_
        refine w_aload_n (q := 54) d_Reader_readExpr_53 rfl rfl ?_
        obtain ⟨v6, hv, h⟩ := bnd h
        refine w_callVv (q := 57) (M' := M_Reader_advance) (n' := 6) (k := 3) (As := []) (sh' := SH) (b1 := (0, 0)) d_Reader_readExpr_54 rfl mw_Reader_advance (by omega) (by decide) ml_Reader_59 (by decide) s_3 (by decide) rfl rfl rfl (leb rfl) (bz _) (fun _ => rfl) (ok_Reader_advance hv) ?_
        refine w_aload_n (q := 58) d_Reader_readExpr_57 rfl rfl ?_
        refine w_iload_n (q := 59) d_Reader_readExpr_58 rfl rfl ?_
        obtain ⟨v7, hv, h⟩ := bnd h
        refine w_callVv (q := 62) (M' := M_Reader_readAnd) (n' := (nE + 17)) (k := 3) (As := [.int k1]) (sh' := SH) (b1 := (0, 0)) d_Reader_readExpr_59 rfl mw_Reader_readAnd (by omega) (by decide) ml_Reader_195 (by decide) s_3 (by decide) rfl rfl rfl (leb rfl) (bz _) (fun _ => rfl) (ok_Reader_readAnd hE hv) ?_
        refine w_aload_n (q := 63) d_Reader_readExpr_62 rfl rfl ?_
        refine w_get (q := 66) (ci := 6) (j := 0) d_Reader_readExpr_63 rfl (by decide) fl_Reader_12 (by decide) (by decide) s_3 rfl rfl ?_
        refine w_get (q := 69) (ci := 7) (j := 7) d_Reader_readExpr_66 rfl (by decide) fl_Reader_198 (by decide) i_4.2.1 i_4.1 rfl rfl ?_
        refine w_bipush (q := 71) (v := (-11)) d_Reader_readExpr_69 rfl (by decide) ?_
        obtain ⟨v8, hv, h⟩ := bnd h
        refine w_callVv (q := 74) (M' := M_Rule_add) (n' := 0) (k := (4 + 4)) (As := [.int ((-11))]) (sh' := SH) (b1 := (0, 0)) d_Reader_readExpr_71 rfl mw_Rule_add (by omega) (by decide) ml_Reader_204 i_4.2.2.2.2.2.2.1 i_4.2.2.2.2.2.1 (by decide) rfl rfl rfl (leb rfl) (bz _) (fun _ => rfl) (ok_Rule_add i_4.2.2.2.2.2 hv) ?_
        refine w_iinc (q := 77) (ls' := [some (.ref 3), some (.int k1), some (.int (s.1 + 1))]) d_Reader_readExpr_74 rfl (by decide) rfl rfl rfl ?_
        refine w_goto (q := 30) d_Reader_readExpr_77 rfl ?_
        cases h
        exact w_ls (by exact (And.intro rfl (And.intro rfl (And.intro rfl trivial)))) hr
      · rw [if_neg c5] at h
        refine w_icmp_ne_t (q := 80) d_Reader_readExpr_50 rfl c5 ?_
        cases h
        exact w_ls (by exact trivial) hr
    · rw [if_neg c4] at h
      refine w_if_ne_t (q := 80) d_Reader_readExpr_41 rfl c4 ?_
      cases h
      exact w_ls (by exact trivial) hr
def sp_Reader_readExpr (F : Nat) (E : Int32 → Mem → Option Mem) (nE : Nat) (p0 : Int32) (g : Mem) : Option (Mem) := if p0 ≤ 6 then (sp_Reader_readAnd F E nE p0 g).bind fun v2 => (lpO (st_Reader_readExpr_30 F E nE p0 g p0) F (0, v2)).bind fun x9 => some x9 else (sp_Reader_canBegin g).bind fun v10 => if v10 = 0 then (sp_Reader_fail 1 g).bind fun v12 => some v12 else (sp_Reader_fail 2 g).bind fun v13 => some v13
theorem ok_Reader_readExpr {γ : GG} {tt : Bool} {F : Nat} {E : Int32 → Mem → Option Mem} {nE : Nat} {p0 : Int32} {g : Mem} (hE : ∀ {p0 : Int32} {g : Mem} {res : Mem}, E p0 g = some res → CA γ M_Reader_readExpr (nE + 11) [.ref 3, .int p0] SH g tt (0, 0) (pV SH res tt)) {res : Mem} (h : sp_Reader_readExpr F E nE p0 g = some res) : CA γ M_Reader_readExpr (nE + 18) [.ref 3, .int p0] SH g tt (0, 0) (pV SH res tt) := by
  refine CA.of mw_Reader_readExpr.1 1 rfl ?_
  show WA γ M_Reader_readExpr (nE + 18) 0 [some (.ref 3), some (.int p0), none] [] SH g tt (0, 0) (pV SH res tt)
  unfold sp_Reader_readExpr at h
  refine w_iload_n (q := 1) d_Reader_readExpr_0 rfl rfl ?_
  refine w_bipush (q := 3) (v := 6) d_Reader_readExpr_1 rfl (by decide) ?_
  by_cases c1 : p0 ≤ 6
  · rw [if_pos c1] at h
    refine w_icmp_le_t (q := 23) d_Reader_readExpr_3 rfl c1 ?_
    refine w_aload_n (q := 24) d_Reader_readExpr_23 rfl rfl ?_
    refine w_iload_n (q := 25) d_Reader_readExpr_24 rfl rfl ?_
    obtain ⟨v2, hv, h⟩ := bnd h
    refine w_callVv (q := 28) (M' := M_Reader_readAnd) (n' := (nE + 17)) (k := 3) (As := [.int p0]) (sh' := SH) (b1 := (0, 0)) d_Reader_readExpr_25 rfl mw_Reader_readAnd (by omega) (by decide) ml_Reader_195 (by decide) s_3 (by decide) rfl rfl rfl (leb rfl) (bz _) (fun _ => rfl) (ok_Reader_readAnd hE hv) ?_
    refine w_iconst (q := 29) (v := 0) d_Reader_readExpr_28 rfl (by decide) ?_
    refine w_istore_n (q := 30) (ls' := [some (.ref 3), some (.int p0), some (.int 0)]) d_Reader_readExpr_29 rfl (by decide) rfl rfl ?_
    obtain ⟨x9, hx, h⟩ := bnd h
    refine w_ls (ls' := [some (.ref 3), some (.int p0), some (.int 0)]) (And.intro rfl (And.intro rfl (And.intro rfl trivial))) ?_
    show PL_Reader_readExpr_30 γ tt nE p0 g p0 _ _ (0, v2)
    refine lp_ok (kl_Reader_readExpr_30 hE) F _ x9 hx ?_
    unfold QL_Reader_readExpr_30
    cases h
    exact w_return d_Reader_readExpr_80 rfl ⟨rfl, rfl, rfl, rfl⟩
  · rw [if_neg c1] at h
    refine w_icmp_le_f (q := 6) d_Reader_readExpr_3 23 rfl rfl c1 ?_
    refine w_aload_n (q := 7) d_Reader_readExpr_6 rfl rfl ?_
    refine w_aload_n (q := 8) d_Reader_readExpr_7 rfl rfl ?_
    obtain ⟨v10, hv, h⟩ := bnd h
    refine w_callVi (q := 11) (M' := M_Reader_canBegin) (n' := 0) (k := 3) (As := []) (sh' := SH) (b1 := (0, 0)) d_Reader_readExpr_8 rfl mw_Reader_canBegin (by omega) (by decide) ml_Reader_192 (by decide) s_3 (by decide) rfl rfl rfl (leb rfl) (bz _) (fun _ => rfl) (ok_Reader_canBegin hv) ?_
    by_cases c11 : v10 = 0
    · rw [if_pos c11] at h
      refine w_if_eq_t (q := 18) d_Reader_readExpr_11 rfl c11 ?_
      refine w_iconst (q := 19) (v := 1) d_Reader_readExpr_18 rfl (by decide) ?_
      obtain ⟨v12, hv, h⟩ := bnd h
      refine w_callVv (q := 22) (M' := M_Reader_fail) (n' := 0) (k := 3) (As := [.int 1]) (sh' := SH) (b1 := (0, 0)) d_Reader_readExpr_19 rfl mw_Reader_fail (by omega) (by decide) ml_Reader_78 (by decide) s_3 (by decide) rfl rfl rfl (leb rfl) (bz _) (fun _ => rfl) (ok_Reader_fail hv) ?_
      cases h
      exact w_return d_Reader_readExpr_22 rfl ⟨rfl, rfl, rfl, rfl⟩
    · rw [if_neg c11] at h
      refine w_if_eq_f (q := 14) d_Reader_readExpr_11 18 rfl rfl c11 ?_
      refine w_iconst (q := 15) (v := 2) d_Reader_readExpr_14 rfl (by decide) ?_
      refine w_goto (q := 19) d_Reader_readExpr_15 rfl ?_
      obtain ⟨v13, hv, h⟩ := bnd h
      refine w_callVv (q := 22) (M' := M_Reader_fail) (n' := 0) (k := 3) (As := [.int 2]) (sh' := SH) (b1 := (0, 0)) d_Reader_readExpr_19 rfl mw_Reader_fail (by omega) (by decide) ml_Reader_78 (by decide) s_3 (by decide) rfl rfl rfl (leb rfl) (bz _) (fun _ => rfl) (ok_Reader_fail hv) ?_
      cases h
      exact w_return d_Reader_readExpr_22 rfl ⟨rfl, rfl, rfl, rfl⟩
def rxR (F : Nat) : Nat → Int32 → Mem → Option Mem
  | 0 => fun _ _ => none
  | d + 1 => fun p g => sp_Reader_readExpr F (rxR F d) (7 * d) p g
theorem ok_rxR {γ : GG} {tt : Bool} {F : Nat} : ∀ (d : Nat) {p0 : Int32} {g : Mem} {res : Mem}, rxR F d p0 g = some res → CA γ M_Reader_readExpr (7 * d + 11) [.ref 3, .int p0] SH g tt (0, 0) (pV SH res tt) := by
  intro d
  induction d with
  | zero => intro p0 g res h; cases h
  | succ d ih =>
    intro p0 g res h
    have e : 7 * (d + 1) + 11 = 7 * d + 18 := by omega
    rw [e]
    exact ok_Reader_readExpr (nE := 7 * d) (E := rxR F d) (fun h => ih h) h
def sp_Reader_takenOrNone (F : Nat) (g : Mem) : Option (Int32 × Mem) := if (g 3 9) = 0 then (sp_Reader_advance F g).bind fun v2 => some (g 3 7, v2) else some (0, g)
theorem ok_Reader_takenOrNone {γ : GG} {tt : Bool} {F : Nat} {g : Mem} {res : Int32 × Mem} (h : sp_Reader_takenOrNone F g = some res) : CA γ M_Reader_takenOrNone 7 [.ref 3] SH g tt (0, 0) (pI SH res.1 res.2 tt) := by
  refine CA.of mw_Reader_takenOrNone.1 1 rfl ?_
  show WA γ M_Reader_takenOrNone 7 0 [some (.ref 3), none] [] SH g tt (0, 0) (pI SH res.1 res.2 tt)
  unfold sp_Reader_takenOrNone at h
  refine w_aload_n (q := 1) d_Reader_takenOrNone_0 rfl rfl ?_
  refine w_get (q := 4) (ci := 6) (j := 9) d_Reader_takenOrNone_1 rfl (by decide) fl_Reader_47 (by decide) (by decide) s_3 rfl rfl ?_
  by_cases c1 : (g 3 9) = 0
  · rw [if_pos c1] at h
    refine w_if_eq_t (q := 9) d_Reader_takenOrNone_4 rfl c1 ?_
    refine w_aload_n (q := 10) d_Reader_takenOrNone_9 rfl rfl ?_
    refine w_get (q := 13) (ci := 6) (j := 7) d_Reader_takenOrNone_10 rfl (by decide) fl_Reader_117 (by decide) (by decide) s_3 rfl rfl ?_
    refine w_istore_n (q := 14) (ls' := [some (.ref 3), some (.int (g 3 7))]) d_Reader_takenOrNone_13 rfl (by decide) rfl rfl ?_
    refine w_aload_n (q := 15) d_Reader_takenOrNone_14 rfl rfl ?_
    obtain ⟨v2, hv, h⟩ := bnd h
    refine w_callVv (q := 18) (M' := M_Reader_advance) (n' := 6) (k := 3) (As := []) (sh' := SH) (b1 := (0, 0)) d_Reader_takenOrNone_15 rfl mw_Reader_advance (by decide) (by decide) ml_Reader_59 (by decide) s_3 (by decide) rfl rfl rfl (leb rfl) (bz _) (fun _ => rfl) (ok_Reader_advance hv) ?_
    refine w_iload_n (q := 19) d_Reader_takenOrNone_18 rfl rfl ?_
    cases h
    exact w_ireturn d_Reader_takenOrNone_19 rfl rfl ⟨rfl, rfl, rfl, rfl⟩
  · rw [if_neg c1] at h
    refine w_if_eq_f (q := 7) d_Reader_takenOrNone_4 9 rfl rfl c1 ?_
    refine w_iconst (q := 8) (v := 0) d_Reader_takenOrNone_7 rfl (by decide) ?_
    cases h
    exact w_ireturn d_Reader_takenOrNone_8 rfl rfl ⟨rfl, rfl, rfl, rfl⟩
def sp_Reader_takeNumber_j34 (F : Nat) (p0 : Int32) (p1 : Int32) (g : Mem) (m0 : Mem) : Option (Int32 × Mem) := (sp_Reader_fail 2 m0).bind fun v5 => (sp_Reader_takenOrNone F v5).bind fun v6 => some (v6.1, v6.2)
theorem ok_Reader_takeNumber_j34 {γ : GG} {tt : Bool} {F : Nat} {p0 : Int32} {p1 : Int32} {g : Mem} {m0 : Mem} {res : Int32 × Mem} (h : sp_Reader_takeNumber_j34 F p0 p1 g m0  = some res) : WA γ M_Reader_takeNumber 8 34 [some (.ref 3), none, none] [] SH m0 tt (0, 0) (pI SH res.1 res.2 tt) := by
  unfold sp_Reader_takeNumber_j34 at h
  refine w_aload_n (q := 35) d_Reader_takeNumber_34 rfl rfl ?_
  refine w_iconst (q := 36) (v := 2) d_Reader_takeNumber_35 rfl (by decide) ?_
  obtain ⟨v5, hv, h⟩ := bnd h
  refine w_callVv (q := 39) (M' := M_Reader_fail) (n' := 0) (k := 3) (As := [.int 2]) (sh' := SH) (b1 := (0, 0)) d_Reader_takeNumber_36 rfl mw_Reader_fail (by decide) (by decide) ml_Reader_78 (by decide) s_3 (by decide) rfl rfl rfl (leb rfl) (bz _) (fun _ => rfl) (ok_Reader_fail hv) ?_
  refine w_aload_n (q := 40) d_Reader_takeNumber_39 rfl rfl ?_
  obtain ⟨v6, hv, h⟩ := bnd h
  refine w_callVi (q := 43) (M' := M_Reader_takenOrNone) (n' := 7) (k := 3) (As := []) (sh' := SH) (b1 := (0, 0)) d_Reader_takeNumber_40 rfl mw_Reader_takenOrNone (by decide) (by decide) ml_Reader_123 (by decide) s_3 (by decide) rfl rfl rfl (leb rfl) (bz _) (fun _ => rfl) (ok_Reader_takenOrNone hv) ?_
  cases h
  exact w_ireturn d_Reader_takeNumber_43 rfl rfl ⟨rfl, rfl, rfl, rfl⟩
def sp_Reader_takeNumber_j11 (F : Nat) (p0 : Int32) (p1 : Int32) (g : Mem) (m0 : Mem) (x1 : Int32) (x2 : Int32) : Option (Int32 × Mem) := if (m0 3 9) = 0 then if (m0 3 7) < x1 then sp_Reader_takeNumber_j34 F p0 p1 g m0 else if (m0 3 7) ≤ x2 then (sp_Reader_takenOrNone F m0).bind fun v8 => some (v8.1, v8.2) else sp_Reader_takeNumber_j34 F p0 p1 g m0 else (sp_Reader_takenOrNone F m0).bind fun v9 => some (v9.1, v9.2)
theorem ok_Reader_takeNumber_j11 {γ : GG} {tt : Bool} {F : Nat} {p0 : Int32} {p1 : Int32} {g : Mem} {m0 : Mem} {x1 : Int32} {x2 : Int32} {res : Int32 × Mem} (h : sp_Reader_takeNumber_j11 F p0 p1 g m0 x1 x2 = some res) : WA γ M_Reader_takeNumber 8 11 [some (.ref 3), some (.int x1), some (.int x2)] [] SH m0 tt (0, 0) (pI SH res.1 res.2 tt) := by
  unfold sp_Reader_takeNumber_j11 at h
  refine w_aload_n (q := 12) d_Reader_takeNumber_11 rfl rfl ?_
  refine w_get (q := 15) (ci := 6) (j := 9) d_Reader_takeNumber_12 rfl (by decide) fl_Reader_47 (by decide) (by decide) s_3 rfl rfl ?_
  by_cases c3 : (m0 3 9) = 0
  · rw [if_pos c3] at h
    refine w_if_ne_f (q := 18) d_Reader_takeNumber_15 39 rfl rfl c3 ?_
    refine w_aload_n (q := 19) d_Reader_takeNumber_18 rfl rfl ?_
    refine w_get (q := 22) (ci := 6) (j := 7) d_Reader_takeNumber_19 rfl (by decide) fl_Reader_117 (by decide) (by decide) s_3 rfl rfl ?_
    refine w_iload_n (q := 23) d_Reader_takeNumber_22 rfl rfl ?_
    by_cases c4 : (m0 3 7) < x1
    · rw [if_pos c4] at h
      refine w_icmp_lt_t (q := 34) d_Reader_takeNumber_23 rfl c4 ?_
      refine w_ls (ls' := [some (.ref 3), none, none]) (And.intro rfl trivial) ?_
      exact ok_Reader_takeNumber_j34 h
    · rw [if_neg c4] at h
      refine w_icmp_lt_f (q := 26) d_Reader_takeNumber_23 34 rfl rfl c4 ?_
      refine w_aload_n (q := 27) d_Reader_takeNumber_26 rfl rfl ?_
      refine w_get (q := 30) (ci := 6) (j := 7) d_Reader_takeNumber_27 rfl (by decide) fl_Reader_117 (by decide) (by decide) s_3 rfl rfl ?_
      refine w_iload_n (q := 31) d_Reader_takeNumber_30 rfl rfl ?_
      by_cases c7 : (m0 3 7) ≤ x2
      · rw [if_pos c7] at h
        refine w_icmp_le_t (q := 39) d_Reader_takeNumber_31 rfl c7 ?_
        refine w_aload_n (q := 40) d_Reader_takeNumber_39 rfl rfl ?_
        obtain ⟨v8, hv, h⟩ := bnd h
        refine w_callVi (q := 43) (M' := M_Reader_takenOrNone) (n' := 7) (k := 3) (As := []) (sh' := SH) (b1 := (0, 0)) d_Reader_takeNumber_40 rfl mw_Reader_takenOrNone (by decide) (by decide) ml_Reader_123 (by decide) s_3 (by decide) rfl rfl rfl (leb rfl) (bz _) (fun _ => rfl) (ok_Reader_takenOrNone hv) ?_
        cases h
        exact w_ireturn d_Reader_takeNumber_43 rfl rfl ⟨rfl, rfl, rfl, rfl⟩
      · rw [if_neg c7] at h
        refine w_icmp_le_f (q := 34) d_Reader_takeNumber_31 39 rfl rfl c7 ?_
        refine w_ls (ls' := [some (.ref 3), none, none]) (And.intro rfl trivial) ?_
        exact ok_Reader_takeNumber_j34 h
  · rw [if_neg c3] at h
    refine w_if_ne_t (q := 39) d_Reader_takeNumber_15 rfl c3 ?_
    refine w_aload_n (q := 40) d_Reader_takeNumber_39 rfl rfl ?_
    obtain ⟨v9, hv, h⟩ := bnd h
    refine w_callVi (q := 43) (M' := M_Reader_takenOrNone) (n' := 7) (k := 3) (As := []) (sh' := SH) (b1 := (0, 0)) d_Reader_takeNumber_40 rfl mw_Reader_takenOrNone (by decide) (by decide) ml_Reader_123 (by decide) s_3 (by decide) rfl rfl rfl (leb rfl) (bz _) (fun _ => rfl) (ok_Reader_takenOrNone hv) ?_
    cases h
    exact w_ireturn d_Reader_takeNumber_43 rfl rfl ⟨rfl, rfl, rfl, rfl⟩
def sp_Reader_takeNumber (F : Nat) (p0 : Int32) (p1 : Int32) (g : Mem) : Option (Int32 × Mem) := if (g 3 9) = 0 then (sp_Reader_needNumber g).bind fun v2 => sp_Reader_takeNumber_j11 F p0 p1 g v2 p0 p1 else sp_Reader_takeNumber_j11 F p0 p1 g g p0 p1
theorem ok_Reader_takeNumber {γ : GG} {tt : Bool} {F : Nat} {p0 : Int32} {p1 : Int32} {g : Mem} {res : Int32 × Mem} (h : sp_Reader_takeNumber F p0 p1 g = some res) : CA γ M_Reader_takeNumber 8 [.ref 3, .int p0, .int p1] SH g tt (0, 0) (pI SH res.1 res.2 tt) := by
  refine CA.of mw_Reader_takeNumber.1 0 rfl ?_
  show WA γ M_Reader_takeNumber 8 0 [some (.ref 3), some (.int p0), some (.int p1)] [] SH g tt (0, 0) (pI SH res.1 res.2 tt)
  unfold sp_Reader_takeNumber at h
  refine w_aload_n (q := 1) d_Reader_takeNumber_0 rfl rfl ?_
  refine w_get (q := 4) (ci := 6) (j := 9) d_Reader_takeNumber_1 rfl (by decide) fl_Reader_47 (by decide) (by decide) s_3 rfl rfl ?_
  by_cases c1 : (g 3 9) = 0
  · rw [if_pos c1] at h
    refine w_if_ne_f (q := 7) d_Reader_takeNumber_4 11 rfl rfl c1 ?_
    refine w_aload_n (q := 8) d_Reader_takeNumber_7 rfl rfl ?_
    obtain ⟨v2, hv, h⟩ := bnd h
    refine w_callVv (q := 11) (M' := M_Reader_needNumber) (n' := 1) (k := 3) (As := []) (sh' := SH) (b1 := (0, 0)) d_Reader_takeNumber_8 rfl mw_Reader_needNumber (by decide) (by decide) ml_Reader_120 (by decide) s_3 (by decide) rfl rfl rfl (leb rfl) (bz _) (fun _ => rfl) (ok_Reader_needNumber hv) ?_
    refine w_ls (ls' := [some (.ref 3), some (.int p0), some (.int p1)]) (And.intro rfl (And.intro rfl (And.intro rfl trivial))) ?_
    exact ok_Reader_takeNumber_j11 h
  · rw [if_neg c1] at h
    refine w_if_ne_t (q := 11) d_Reader_takeNumber_4 rfl c1 ?_
    refine w_ls (ls' := [some (.ref 3), some (.int p0), some (.int p1)]) (And.intro rfl (And.intro rfl (And.intro rfl trivial))) ?_
    exact ok_Reader_takeNumber_j11 h
def sp_Reader_readMonk (F : Nat) (p0 : Int32) (g : Mem) : Option (Mem) := if (g 4 0) < 6 then (sp_Reader_advance F g).bind fun v2 => (sp_Reader_takeNumber F 0 99 v2).bind fun v3 => (sp_Reader_takeNumber F 0 60 v3.2).bind fun v4 => if (v4.2 3 9) = 0 then (wr (mset v4.2 4 0 ((v4.2 4 0) + 1)) (4 + 1) 6 (v4.2 4 0) p0).bind fun g6 => (wr g6 (4 + 2) 6 (v4.2 4 0) v3.1).bind fun g7 => (sp_Roll_longest 4 (v4.2 4 0) g7).bind fun v8 => (sp_JMath_min v4.1 v8 g7).bind fun v9 => (wr g7 (12 + 1) 6 (v4.2 4 0) v9).bind fun g10 => some g10 else some v4.2 else (sp_Reader_fail 2 g).bind fun v11 => some v11
theorem ok_Reader_readMonk {γ : GG} {tt : Bool} {F : Nat} {p0 : Int32} {g : Mem} {res : Mem} (h : sp_Reader_readMonk F p0 g = some res) : CA γ M_Reader_readMonk 9 [.ref 3, .int p0] SH g tt (0, 0) (pV SH res tt) := by
  refine CA.of mw_Reader_readMonk.1 3 rfl ?_
  show WA γ M_Reader_readMonk 9 0 [some (.ref 3), some (.int p0), none, none, none] [] SH g tt (0, 0) (pV SH res tt)
  unfold sp_Reader_readMonk at h
  refine w_aload_n (q := 1) d_Reader_readMonk_0 rfl rfl ?_
  refine w_get (q := 4) (ci := 6) (j := 0) d_Reader_readMonk_1 rfl (by decide) fl_Reader_12 (by decide) (by decide) s_3 rfl rfl ?_
  refine w_get (q := 7) (ci := 7) (j := 0) d_Reader_readMonk_4 rfl (by decide) fl_Reader_126 (by decide) i_4.2.1 i_4.1 rfl rfl ?_
  refine w_bipush (q := 9) (v := 6) d_Reader_readMonk_7 rfl (by decide) ?_
  by_cases c1 : (g 4 0) < 6
  · rw [if_pos c1] at h
    refine w_icmp_lt_t (q := 18) d_Reader_readMonk_9 rfl c1 ?_
    refine w_aload_n (q := 19) d_Reader_readMonk_18 rfl rfl ?_
    obtain ⟨v2, hv, h⟩ := bnd h
    refine w_callVv (q := 22) (M' := M_Reader_advance) (n' := 6) (k := 3) (As := []) (sh' := SH) (b1 := (0, 0)) d_Reader_readMonk_19 rfl mw_Reader_advance (by decide) (by decide) ml_Reader_59 (by decide) s_3 (by decide) rfl rfl rfl (leb rfl) (bz _) (fun _ => rfl) (ok_Reader_advance hv) ?_
    refine w_aload_n (q := 23) d_Reader_readMonk_22 rfl rfl ?_
    refine w_iconst (q := 24) (v := 0) d_Reader_readMonk_23 rfl (by decide) ?_
    refine w_bipush (q := 26) (v := 99) d_Reader_readMonk_24 rfl (by decide) ?_
    obtain ⟨v3, hv, h⟩ := bnd h
    refine w_callVi (q := 29) (M' := M_Reader_takeNumber) (n' := 8) (k := 3) (As := [.int 0, .int 99]) (sh' := SH) (b1 := (0, 0)) d_Reader_readMonk_26 rfl mw_Reader_takeNumber (by decide) (by decide) ml_Reader_133 (by decide) s_3 (by decide) rfl rfl rfl (leb rfl) (bz _) (fun _ => rfl) (ok_Reader_takeNumber hv) ?_
    refine w_istore_n (q := 30) (ls' := [some (.ref 3), some (.int p0), some (.int v3.1), none, none]) d_Reader_readMonk_29 rfl (by decide) rfl rfl ?_
    refine w_aload_n (q := 31) d_Reader_readMonk_30 rfl rfl ?_
    refine w_iconst (q := 32) (v := 0) d_Reader_readMonk_31 rfl (by decide) ?_
    refine w_bipush (q := 34) (v := 60) d_Reader_readMonk_32 rfl (by decide) ?_
    obtain ⟨v4, hv, h⟩ := bnd h
    refine w_callVi (q := 37) (M' := M_Reader_takeNumber) (n' := 8) (k := 3) (As := [.int 0, .int 60]) (sh' := SH) (b1 := (0, 0)) d_Reader_readMonk_34 rfl mw_Reader_takeNumber (by decide) (by decide) ml_Reader_133 (by decide) s_3 (by decide) rfl rfl rfl (leb rfl) (bz _) (fun _ => rfl) (ok_Reader_takeNumber hv) ?_
    refine w_istore_n (q := 38) (ls' := [some (.ref 3), some (.int p0), some (.int v3.1), some (.int v4.1), none]) d_Reader_readMonk_37 rfl (by decide) rfl rfl ?_
    refine w_aload_n (q := 39) d_Reader_readMonk_38 rfl rfl ?_
    refine w_get (q := 42) (ci := 6) (j := 9) d_Reader_readMonk_39 rfl (by decide) fl_Reader_47 (by decide) (by decide) s_3 rfl rfl ?_
    by_cases c5 : (v4.2 3 9) = 0
    · rw [if_pos c5] at h
      refine w_if_ne_f (q := 45) d_Reader_readMonk_42 112 rfl rfl c5 ?_
      refine w_aload_n (q := 46) d_Reader_readMonk_45 rfl rfl ?_
      refine w_get (q := 49) (ci := 6) (j := 0) d_Reader_readMonk_46 rfl (by decide) fl_Reader_12 (by decide) (by decide) s_3 rfl rfl ?_
      refine w_get (q := 52) (ci := 7) (j := 0) d_Reader_readMonk_49 rfl (by decide) fl_Reader_126 (by decide) i_4.2.1 i_4.1 rfl rfl ?_
      refine w_istore (q := 54) (ls' := [some (.ref 3), some (.int p0), some (.int v3.1), some (.int v4.1), some (.int (v4.2 4 0))]) d_Reader_readMonk_52 rfl (by decide) rfl rfl ?_
      refine w_aload_n (q := 55) d_Reader_readMonk_54 rfl rfl ?_
      refine w_get (q := 58) (ci := 6) (j := 0) d_Reader_readMonk_55 rfl (by decide) fl_Reader_12 (by decide) (by decide) s_3 rfl rfl ?_
      refine w_dup (q := 59) d_Reader_readMonk_58 rfl rfl ?_
      refine w_get (q := 62) (ci := 7) (j := 0) d_Reader_readMonk_59 rfl (by decide) fl_Reader_126 (by decide) i_4.2.1 i_4.1 rfl rfl ?_
      refine w_iconst (q := 63) (v := 1) d_Reader_readMonk_62 rfl (by decide) ?_
      refine w_iadd (q := 64) d_Reader_readMonk_63 rfl ?_
      refine w_put (q := 67) (ci := 7) (j := 0) d_Reader_readMonk_64 rfl (by decide) fl_Reader_126 (by decide) i_4.2.1 i_4.1 rfl rfl rfl rfl rfl rfl ?_
      refine w_aload_n (q := 68) d_Reader_readMonk_67 rfl rfl ?_
      refine w_get (q := 71) (ci := 6) (j := 0) d_Reader_readMonk_68 rfl (by decide) fl_Reader_12 (by decide) (by decide) s_3 rfl rfl ?_
      refine w_get (q := 74) (ci := 7) (j := 4) d_Reader_readMonk_71 rfl (by decide) fl_Reader_136 (by decide) i_4.2.1 i_4.1 rfl rfl ?_
      refine w_iload (q := 76) d_Reader_readMonk_74 rfl rfl ?_
      refine w_iload_n (q := 77) d_Reader_readMonk_76 rfl rfl ?_
      obtain ⟨g6, hv, h⟩ := bnd h
      obtain ⟨hi, hv⟩ := wr_ok hv
      refine w_iast (q := 78) d_Reader_readMonk_77 rfl i_4.2.2.1.2 i_4.2.2.1.1 hi hv ?_
      refine w_aload_n (q := 79) d_Reader_readMonk_78 rfl rfl ?_
      refine w_get (q := 82) (ci := 6) (j := 0) d_Reader_readMonk_79 rfl (by decide) fl_Reader_12 (by decide) (by decide) s_3 rfl rfl ?_
      refine w_get (q := 85) (ci := 7) (j := 5) d_Reader_readMonk_82 rfl (by decide) fl_Reader_140 (by decide) i_4.2.1 i_4.1 rfl rfl ?_
      refine w_iload (q := 87) d_Reader_readMonk_85 rfl rfl ?_
      refine w_iload_n (q := 88) d_Reader_readMonk_87 rfl rfl ?_
      obtain ⟨g7, hv, h⟩ := bnd h
      obtain ⟨hi, hv⟩ := wr_ok hv
      refine w_iast (q := 89) d_Reader_readMonk_88 rfl i_4.2.2.2.1.2 i_4.2.2.2.1.1 hi hv ?_
      refine w_aload_n (q := 90) d_Reader_readMonk_89 rfl rfl ?_
      refine w_get (q := 93) (ci := 6) (j := 1) d_Reader_readMonk_90 rfl (by decide) fl_Reader_23 (by decide) (by decide) s_3 rfl rfl ?_
      refine w_get (q := 96) (ci := 2) (j := 1) d_Reader_readMonk_93 rfl (by decide) fl_Reader_143 (by decide) i_12.2.1 i_12.1 rfl rfl ?_
      refine w_iload (q := 98) d_Reader_readMonk_96 rfl rfl ?_
      refine w_iload_n (q := 99) d_Reader_readMonk_98 rfl rfl ?_
      refine w_aload_n (q := 100) d_Reader_readMonk_99 rfl rfl ?_
      refine w_get (q := 103) (ci := 6) (j := 0) d_Reader_readMonk_100 rfl (by decide) fl_Reader_12 (by decide) (by decide) s_3 rfl rfl ?_
      refine w_iload (q := 105) d_Reader_readMonk_103 rfl rfl ?_
      obtain ⟨v8, hv, h⟩ := bnd h
      refine w_callVi (q := 108) (M' := M_Roll_longest) (n' := 1) (k := 4) (As := [.int (v4.2 4 0)]) (sh' := SH) (b1 := (0, 0)) d_Reader_readMonk_105 rfl mw_Roll_longest (by decide) (by decide) ml_Reader_145 i_4.2.1 i_4.1 (by decide) rfl rfl rfl (leb rfl) (bz _) (fun _ => rfl) (ok_Roll_longest i_4 hv) ?_
      obtain ⟨v9, hv, h⟩ := bnd h
      refine w_callSi (q := 111) (M' := M_JMath_min) (n' := 0) (As := [.int v4.1, .int v8]) (sh' := SH) (b1 := (0, 0)) d_Reader_readMonk_108 rfl mw_JMath_min (by decide) (by decide) ml_Reader_31 rfl rfl (leb rfl) (bz _) (fun _ => rfl) (ok_JMath_min hv) ?_
      obtain ⟨g10, hv, h⟩ := bnd h
      obtain ⟨hi, hv⟩ := wr_ok hv
      refine w_iast (q := 112) d_Reader_readMonk_111 rfl i_12.2.2.1.2 i_12.2.2.1.1 hi hv ?_
      cases h
      exact w_return d_Reader_readMonk_112 rfl ⟨rfl, rfl, rfl, rfl⟩
    · rw [if_neg c5] at h
      refine w_if_ne_t (q := 112) d_Reader_readMonk_42 rfl c5 ?_
      cases h
      exact w_return d_Reader_readMonk_112 rfl ⟨rfl, rfl, rfl, rfl⟩
  · rw [if_neg c1] at h
    refine w_icmp_lt_f (q := 12) d_Reader_readMonk_9 18 rfl rfl c1 ?_
    refine w_aload_n (q := 13) d_Reader_readMonk_12 rfl rfl ?_
    refine w_iconst (q := 14) (v := 2) d_Reader_readMonk_13 rfl (by decide) ?_
    obtain ⟨v11, hv, h⟩ := bnd h
    refine w_callVv (q := 17) (M' := M_Reader_fail) (n' := 0) (k := 3) (As := [.int 2]) (sh' := SH) (b1 := (0, 0)) d_Reader_readMonk_14 rfl mw_Reader_fail (by decide) (by decide) ml_Reader_78 (by decide) s_3 (by decide) rfl rfl rfl (leb rfl) (bz _) (fun _ => rfl) (ok_Reader_fail hv) ?_
    cases h
    exact w_return d_Reader_readMonk_17 rfl ⟨rfl, rfl, rfl, rfl⟩
def sp_Reader_takeTold_j11 (F : Nat) (p0 : Int32) (g : Mem) (m0 : Mem) (x1 : Int32) : Option (Int32 × Mem) := if (m0 3 9) = 0 then if (m0 3 7) < x1 then (sp_Reader_takenOrNone F m0).bind fun v5 => some (v5.1, v5.2) else (sp_Reader_fail 3 m0).bind fun v6 => (sp_Reader_takenOrNone F v6).bind fun v7 => some (v7.1, v7.2) else (sp_Reader_takenOrNone F m0).bind fun v8 => some (v8.1, v8.2)
theorem ok_Reader_takeTold_j11 {γ : GG} {tt : Bool} {F : Nat} {p0 : Int32} {g : Mem} {m0 : Mem} {x1 : Int32} {res : Int32 × Mem} (h : sp_Reader_takeTold_j11 F p0 g m0 x1 = some res) : WA γ M_Reader_takeTold 8 11 [some (.ref 3), some (.int x1)] [] SH m0 tt (0, 0) (pI SH res.1 res.2 tt) := by
  unfold sp_Reader_takeTold_j11 at h
  refine w_aload_n (q := 12) d_Reader_takeTold_11 rfl rfl ?_
  refine w_get (q := 15) (ci := 6) (j := 9) d_Reader_takeTold_12 rfl (by decide) fl_Reader_47 (by decide) (by decide) s_3 rfl rfl ?_
  by_cases c3 : (m0 3 9) = 0
  · rw [if_pos c3] at h
    refine w_if_ne_f (q := 18) d_Reader_takeTold_15 31 rfl rfl c3 ?_
    refine w_aload_n (q := 19) d_Reader_takeTold_18 rfl rfl ?_
    refine w_get (q := 22) (ci := 6) (j := 7) d_Reader_takeTold_19 rfl (by decide) fl_Reader_117 (by decide) (by decide) s_3 rfl rfl ?_
    refine w_iload_n (q := 23) d_Reader_takeTold_22 rfl rfl ?_
    by_cases c4 : (m0 3 7) < x1
    · rw [if_pos c4] at h
      refine w_icmp_lt_t (q := 31) d_Reader_takeTold_23 rfl c4 ?_
      refine w_aload_n (q := 32) d_Reader_takeTold_31 rfl rfl ?_
      obtain ⟨v5, hv, h⟩ := bnd h
      refine w_callVi (q := 35) (M' := M_Reader_takenOrNone) (n' := 7) (k := 3) (As := []) (sh' := SH) (b1 := (0, 0)) d_Reader_takeTold_32 rfl mw_Reader_takenOrNone (by decide) (by decide) ml_Reader_123 (by decide) s_3 (by decide) rfl rfl rfl (leb rfl) (bz _) (fun _ => rfl) (ok_Reader_takenOrNone hv) ?_
      cases h
      exact w_ireturn d_Reader_takeTold_35 rfl rfl ⟨rfl, rfl, rfl, rfl⟩
    · rw [if_neg c4] at h
      refine w_icmp_lt_f (q := 26) d_Reader_takeTold_23 31 rfl rfl c4 ?_
      refine w_aload_n (q := 27) d_Reader_takeTold_26 rfl rfl ?_
      refine w_iconst (q := 28) (v := 3) d_Reader_takeTold_27 rfl (by decide) ?_
      obtain ⟨v6, hv, h⟩ := bnd h
      refine w_callVv (q := 31) (M' := M_Reader_fail) (n' := 0) (k := 3) (As := [.int 3]) (sh' := SH) (b1 := (0, 0)) d_Reader_takeTold_28 rfl mw_Reader_fail (by decide) (by decide) ml_Reader_78 (by decide) s_3 (by decide) rfl rfl rfl (leb rfl) (bz _) (fun _ => rfl) (ok_Reader_fail hv) ?_
      refine w_aload_n (q := 32) d_Reader_takeTold_31 rfl rfl ?_
      obtain ⟨v7, hv, h⟩ := bnd h
      refine w_callVi (q := 35) (M' := M_Reader_takenOrNone) (n' := 7) (k := 3) (As := []) (sh' := SH) (b1 := (0, 0)) d_Reader_takeTold_32 rfl mw_Reader_takenOrNone (by decide) (by decide) ml_Reader_123 (by decide) s_3 (by decide) rfl rfl rfl (leb rfl) (bz _) (fun _ => rfl) (ok_Reader_takenOrNone hv) ?_
      cases h
      exact w_ireturn d_Reader_takeTold_35 rfl rfl ⟨rfl, rfl, rfl, rfl⟩
  · rw [if_neg c3] at h
    refine w_if_ne_t (q := 31) d_Reader_takeTold_15 rfl c3 ?_
    refine w_aload_n (q := 32) d_Reader_takeTold_31 rfl rfl ?_
    obtain ⟨v8, hv, h⟩ := bnd h
    refine w_callVi (q := 35) (M' := M_Reader_takenOrNone) (n' := 7) (k := 3) (As := []) (sh' := SH) (b1 := (0, 0)) d_Reader_takeTold_32 rfl mw_Reader_takenOrNone (by decide) (by decide) ml_Reader_123 (by decide) s_3 (by decide) rfl rfl rfl (leb rfl) (bz _) (fun _ => rfl) (ok_Reader_takenOrNone hv) ?_
    cases h
    exact w_ireturn d_Reader_takeTold_35 rfl rfl ⟨rfl, rfl, rfl, rfl⟩
def sp_Reader_takeTold (F : Nat) (p0 : Int32) (g : Mem) : Option (Int32 × Mem) := if (g 3 9) = 0 then (sp_Reader_needNumber g).bind fun v2 => sp_Reader_takeTold_j11 F p0 g v2 p0 else sp_Reader_takeTold_j11 F p0 g g p0
theorem ok_Reader_takeTold {γ : GG} {tt : Bool} {F : Nat} {p0 : Int32} {g : Mem} {res : Int32 × Mem} (h : sp_Reader_takeTold F p0 g = some res) : CA γ M_Reader_takeTold 8 [.ref 3, .int p0] SH g tt (0, 0) (pI SH res.1 res.2 tt) := by
  refine CA.of mw_Reader_takeTold.1 0 rfl ?_
  show WA γ M_Reader_takeTold 8 0 [some (.ref 3), some (.int p0)] [] SH g tt (0, 0) (pI SH res.1 res.2 tt)
  unfold sp_Reader_takeTold at h
  refine w_aload_n (q := 1) d_Reader_takeTold_0 rfl rfl ?_
  refine w_get (q := 4) (ci := 6) (j := 9) d_Reader_takeTold_1 rfl (by decide) fl_Reader_47 (by decide) (by decide) s_3 rfl rfl ?_
  by_cases c1 : (g 3 9) = 0
  · rw [if_pos c1] at h
    refine w_if_ne_f (q := 7) d_Reader_takeTold_4 11 rfl rfl c1 ?_
    refine w_aload_n (q := 8) d_Reader_takeTold_7 rfl rfl ?_
    obtain ⟨v2, hv, h⟩ := bnd h
    refine w_callVv (q := 11) (M' := M_Reader_needNumber) (n' := 1) (k := 3) (As := []) (sh' := SH) (b1 := (0, 0)) d_Reader_takeTold_8 rfl mw_Reader_needNumber (by decide) (by decide) ml_Reader_120 (by decide) s_3 (by decide) rfl rfl rfl (leb rfl) (bz _) (fun _ => rfl) (ok_Reader_needNumber hv) ?_
    refine w_ls (ls' := [some (.ref 3), some (.int p0)]) (And.intro rfl (And.intro rfl trivial)) ?_
    exact ok_Reader_takeTold_j11 h
  · rw [if_neg c1] at h
    refine w_if_ne_t (q := 11) d_Reader_takeTold_4 rfl c1 ?_
    refine w_ls (ls' := [some (.ref 3), some (.int p0)]) (And.intro rfl (And.intro rfl trivial)) ?_
    exact ok_Reader_takeTold_j11 h
def sp_Reader_readEntry_j113 (F : Nat) (p0 : Int32) (g : Mem) (m0 : Mem) (x6 : Int32) : Option (Mem) := if (m0 3 9) = 0 then if (m0 3 6) = 115 then (sp_Reader_advance F m0).bind fun v16 => (sp_Hair_tie 12 4 x6 v16).bind fun v17 => some v17 else some m0 else some m0
theorem ok_Reader_readEntry_j113 {γ : GG} {tt : Bool} {F : Nat} {p0 : Int32} {g : Mem} {m0 : Mem} {x6 : Int32} {res : Mem} (h : sp_Reader_readEntry_j113 F p0 g m0 x6 = some res) : WA γ M_Reader_readEntry 9 113 [some (.ref 3), none, none, none, none, none, some (.int x6)] [] SH m0 tt (0, 0) (pV SH res tt) := by
  unfold sp_Reader_readEntry_j113 at h
  refine w_aload_n (q := 114) d_Reader_readEntry_113 rfl rfl ?_
  refine w_get (q := 117) (ci := 6) (j := 9) d_Reader_readEntry_114 rfl (by decide) fl_Reader_47 (by decide) (by decide) s_3 rfl rfl ?_
  by_cases c14 : (m0 3 9) = 0
  · rw [if_pos c14] at h
    refine w_if_ne_f (q := 120) d_Reader_readEntry_117 142 rfl rfl c14 ?_
    refine w_aload_n (q := 121) d_Reader_readEntry_120 rfl rfl ?_
    refine w_get (q := 124) (ci := 6) (j := 6) d_Reader_readEntry_121 rfl (by decide) fl_Reader_62 (by decide) (by decide) s_3 rfl rfl ?_
    refine w_bipush (q := 126) (v := 115) d_Reader_readEntry_124 rfl (by decide) ?_
    by_cases c15 : (m0 3 6) = 115
    · rw [if_pos c15] at h
      refine w_icmp_ne_f (q := 129) d_Reader_readEntry_126 142 rfl rfl c15 ?_
      refine w_aload_n (q := 130) d_Reader_readEntry_129 rfl rfl ?_
      obtain ⟨v16, hv, h⟩ := bnd h
      refine w_callVv (q := 133) (M' := M_Reader_advance) (n' := 6) (k := 3) (As := []) (sh' := SH) (b1 := (0, 0)) d_Reader_readEntry_130 rfl mw_Reader_advance (by decide) (by decide) ml_Reader_59 (by decide) s_3 (by decide) rfl rfl rfl (leb rfl) (bz _) (fun _ => rfl) (ok_Reader_advance hv) ?_
      refine w_aload_n (q := 134) d_Reader_readEntry_133 rfl rfl ?_
      refine w_get (q := 137) (ci := 6) (j := 1) d_Reader_readEntry_134 rfl (by decide) fl_Reader_23 (by decide) (by decide) s_3 rfl rfl ?_
      refine w_iload (q := 139) d_Reader_readEntry_137 rfl rfl ?_
      obtain ⟨v17, hv, h⟩ := bnd h
      refine w_callVv (q := 142) (M' := M_Hair_tie) (n' := 0) (k := 12) (As := [.int x6]) (sh' := SH) (b1 := (0, 0)) d_Reader_readEntry_139 rfl mw_Hair_tie (by decide) (by decide) ml_Reader_164 i_12.2.1 i_12.1 (by decide) rfl rfl rfl (leb rfl) (bz _) (fun _ => rfl) (ok_Hair_tie i_12 hv) ?_
      cases h
      exact w_return d_Reader_readEntry_142 rfl ⟨rfl, rfl, rfl, rfl⟩
    · rw [if_neg c15] at h
      refine w_icmp_ne_t (q := 142) d_Reader_readEntry_126 rfl c15 ?_
      cases h
      exact w_return d_Reader_readEntry_142 rfl ⟨rfl, rfl, rfl, rfl⟩
  · rw [if_neg c14] at h
    refine w_if_ne_t (q := 142) d_Reader_readEntry_117 rfl c14 ?_
    cases h
    exact w_return d_Reader_readEntry_142 rfl ⟨rfl, rfl, rfl, rfl⟩
def sp_Reader_readEntry (F : Nat) (p0 : Int32) (g : Mem) : Option (Mem) := (sp_Hair_isFull 12 4 g).bind fun v1 => if v1 = 0 then (sp_Reader_advance F g).bind fun v3 => (sp_Reader_takeTold F (v3 4 0) v3).bind fun v4 => (sp_Reader_takeNumber F 0 60 v4.2).bind fun v5 => (sp_Reader_takeNumber F 0 7 v5.2).bind fun v6 => (sp_Reader_takeNumber F 0 999 v6.2).bind fun v7 => if (v7.2 3 9) = 0 then (sp_Hair_braidIn 12 4 v4.1 (-v5.1) p0 v6.1 v7.1 v7.2).bind fun v9 => if (v9.2 3 6) = 114 then (sp_Reader_advance F v9.2).bind fun v11 => (sp_Reader_takeNumber F 0 7 v11).bind fun v12 => (sp_Roll_put 4 v9.1 5 v12.1 v12.2).bind fun v13 => sp_Reader_readEntry_j113 F p0 g v13 v9.1 else sp_Reader_readEntry_j113 F p0 g v9.2 v9.1 else some v7.2 else (sp_Reader_fail 2 g).bind fun v18 => some v18
theorem ok_Reader_readEntry {γ : GG} {tt : Bool} {F : Nat} {p0 : Int32} {g : Mem} {res : Mem} (h : sp_Reader_readEntry F p0 g = some res) : CA γ M_Reader_readEntry 9 [.ref 3, .int p0] SH g tt (0, 0) (pV SH res tt) := by
  refine CA.of mw_Reader_readEntry.1 5 rfl ?_
  show WA γ M_Reader_readEntry 9 0 [some (.ref 3), some (.int p0), none, none, none, none, none] [] SH g tt (0, 0) (pV SH res tt)
  unfold sp_Reader_readEntry at h
  refine w_aload_n (q := 1) d_Reader_readEntry_0 rfl rfl ?_
  refine w_get (q := 4) (ci := 6) (j := 1) d_Reader_readEntry_1 rfl (by decide) fl_Reader_23 (by decide) (by decide) s_3 rfl rfl ?_
  obtain ⟨v1, hv, h⟩ := bnd h
  refine w_callVi (q := 7) (M' := M_Hair_isFull) (n' := 0) (k := 12) (As := []) (sh' := SH) (b1 := (0, 0)) d_Reader_readEntry_4 rfl mw_Hair_isFull (by decide) (by decide) ml_Reader_149 i_12.2.1 i_12.1 (by decide) rfl rfl rfl (leb rfl) (bz _) (fun _ => rfl) (ok_Hair_isFull i_12 hv) ?_
  by_cases c2 : v1 = 0
  · rw [if_pos c2] at h
    refine w_if_eq_t (q := 16) d_Reader_readEntry_7 rfl c2 ?_
    refine w_aload_n (q := 17) d_Reader_readEntry_16 rfl rfl ?_
    obtain ⟨v3, hv, h⟩ := bnd h
    refine w_callVv (q := 20) (M' := M_Reader_advance) (n' := 6) (k := 3) (As := []) (sh' := SH) (b1 := (0, 0)) d_Reader_readEntry_17 rfl mw_Reader_advance (by decide) (by decide) ml_Reader_59 (by decide) s_3 (by decide) rfl rfl rfl (leb rfl) (bz _) (fun _ => rfl) (ok_Reader_advance hv) ?_
    refine w_aload_n (q := 21) d_Reader_readEntry_20 rfl rfl ?_
    refine w_aload_n (q := 22) d_Reader_readEntry_21 rfl rfl ?_
    refine w_get (q := 25) (ci := 6) (j := 0) d_Reader_readEntry_22 rfl (by decide) fl_Reader_12 (by decide) (by decide) s_3 rfl rfl ?_
    refine w_get (q := 28) (ci := 7) (j := 0) d_Reader_readEntry_25 rfl (by decide) fl_Reader_126 (by decide) i_4.2.1 i_4.1 rfl rfl ?_
    obtain ⟨v4, hv, h⟩ := bnd h
    refine w_callVi (q := 31) (M' := M_Reader_takeTold) (n' := 8) (k := 3) (As := [.int (v3 4 0)]) (sh' := SH) (b1 := (0, 0)) d_Reader_readEntry_28 rfl mw_Reader_takeTold (by decide) (by decide) ml_Reader_153 (by decide) s_3 (by decide) rfl rfl rfl (leb rfl) (bz _) (fun _ => rfl) (ok_Reader_takeTold hv) ?_
    refine w_istore_n (q := 32) (ls' := [some (.ref 3), some (.int p0), some (.int v4.1), none, none, none, none]) d_Reader_readEntry_31 rfl (by decide) rfl rfl ?_
    refine w_aload_n (q := 33) d_Reader_readEntry_32 rfl rfl ?_
    refine w_iconst (q := 34) (v := 0) d_Reader_readEntry_33 rfl (by decide) ?_
    refine w_bipush (q := 36) (v := 60) d_Reader_readEntry_34 rfl (by decide) ?_
    obtain ⟨v5, hv, h⟩ := bnd h
    refine w_callVi (q := 39) (M' := M_Reader_takeNumber) (n' := 8) (k := 3) (As := [.int 0, .int 60]) (sh' := SH) (b1 := (0, 0)) d_Reader_readEntry_36 rfl mw_Reader_takeNumber (by decide) (by decide) ml_Reader_133 (by decide) s_3 (by decide) rfl rfl rfl (leb rfl) (bz _) (fun _ => rfl) (ok_Reader_takeNumber hv) ?_
    refine w_istore_n (q := 40) (ls' := [some (.ref 3), some (.int p0), some (.int v4.1), some (.int v5.1), none, none, none]) d_Reader_readEntry_39 rfl (by decide) rfl rfl ?_
    refine w_aload_n (q := 41) d_Reader_readEntry_40 rfl rfl ?_
    refine w_iconst (q := 42) (v := 0) d_Reader_readEntry_41 rfl (by decide) ?_
    refine w_bipush (q := 44) (v := 7) d_Reader_readEntry_42 rfl (by decide) ?_
    obtain ⟨v6, hv, h⟩ := bnd h
    refine w_callVi (q := 47) (M' := M_Reader_takeNumber) (n' := 8) (k := 3) (As := [.int 0, .int 7]) (sh' := SH) (b1 := (0, 0)) d_Reader_readEntry_44 rfl mw_Reader_takeNumber (by decide) (by decide) ml_Reader_133 (by decide) s_3 (by decide) rfl rfl rfl (leb rfl) (bz _) (fun _ => rfl) (ok_Reader_takeNumber hv) ?_
    refine w_istore (q := 49) (ls' := [some (.ref 3), some (.int p0), some (.int v4.1), some (.int v5.1), some (.int v6.1), none, none]) d_Reader_readEntry_47 rfl (by decide) rfl rfl ?_
    refine w_aload_n (q := 50) d_Reader_readEntry_49 rfl rfl ?_
    refine w_iconst (q := 51) (v := 0) d_Reader_readEntry_50 rfl (by decide) ?_
    refine w_sipush (q := 54) (v := 999) d_Reader_readEntry_51 rfl (by decide) ?_
    obtain ⟨v7, hv, h⟩ := bnd h
    refine w_callVi (q := 57) (M' := M_Reader_takeNumber) (n' := 8) (k := 3) (As := [.int 0, .int 999]) (sh' := SH) (b1 := (0, 0)) d_Reader_readEntry_54 rfl mw_Reader_takeNumber (by decide) (by decide) ml_Reader_133 (by decide) s_3 (by decide) rfl rfl rfl (leb rfl) (bz _) (fun _ => rfl) (ok_Reader_takeNumber hv) ?_
    refine w_istore (q := 59) (ls' := [some (.ref 3), some (.int p0), some (.int v4.1), some (.int v5.1), some (.int v6.1), some (.int v7.1), none]) d_Reader_readEntry_57 rfl (by decide) rfl rfl ?_
    refine w_aload_n (q := 60) d_Reader_readEntry_59 rfl rfl ?_
    refine w_get (q := 63) (ci := 6) (j := 9) d_Reader_readEntry_60 rfl (by decide) fl_Reader_47 (by decide) (by decide) s_3 rfl rfl ?_
    by_cases c8 : (v7.2 3 9) = 0
    · rw [if_pos c8] at h
      refine w_if_ne_f (q := 66) d_Reader_readEntry_63 142 rfl rfl c8 ?_
      refine w_aload_n (q := 67) d_Reader_readEntry_66 rfl rfl ?_
      refine w_get (q := 70) (ci := 6) (j := 1) d_Reader_readEntry_67 rfl (by decide) fl_Reader_23 (by decide) (by decide) s_3 rfl rfl ?_
      refine w_iload_n (q := 71) d_Reader_readEntry_70 rfl rfl ?_
      refine w_iload_n (q := 72) d_Reader_readEntry_71 rfl rfl ?_
      refine w_ineg (q := 73) d_Reader_readEntry_72 rfl ?_
      refine w_iload_n (q := 74) d_Reader_readEntry_73 rfl rfl ?_
      refine w_iload (q := 76) d_Reader_readEntry_74 rfl rfl ?_
      refine w_iload (q := 78) d_Reader_readEntry_76 rfl rfl ?_
      obtain ⟨v9, hv, h⟩ := bnd h
      refine w_callVi (q := 81) (M' := M_Hair_braidIn) (n' := 3) (k := 12) (As := [.int v4.1, .int (-v5.1), .int p0, .int v6.1, .int v7.1]) (sh' := SH) (b1 := (0, 0)) d_Reader_readEntry_78 rfl mw_Hair_braidIn (by decide) (by decide) ml_Reader_156 i_12.2.1 i_12.1 (by decide) rfl rfl rfl (leb rfl) (bz _) (fun _ => rfl) (ok_Hair_braidIn i_12 hv) ?_
      refine w_istore (q := 83) (ls' := [some (.ref 3), some (.int p0), some (.int v4.1), some (.int v5.1), some (.int v6.1), some (.int v7.1), some (.int v9.1)]) d_Reader_readEntry_81 rfl (by decide) rfl rfl ?_
      refine w_aload_n (q := 84) d_Reader_readEntry_83 rfl rfl ?_
      refine w_get (q := 87) (ci := 6) (j := 6) d_Reader_readEntry_84 rfl (by decide) fl_Reader_62 (by decide) (by decide) s_3 rfl rfl ?_
      refine w_bipush (q := 89) (v := 114) d_Reader_readEntry_87 rfl (by decide) ?_
      by_cases c10 : (v9.2 3 6) = 114
      · rw [if_pos c10] at h
        refine w_icmp_ne_f (q := 92) d_Reader_readEntry_89 113 rfl rfl c10 ?_
        refine w_aload_n (q := 93) d_Reader_readEntry_92 rfl rfl ?_
        obtain ⟨v11, hv, h⟩ := bnd h
        refine w_callVv (q := 96) (M' := M_Reader_advance) (n' := 6) (k := 3) (As := []) (sh' := SH) (b1 := (0, 0)) d_Reader_readEntry_93 rfl mw_Reader_advance (by decide) (by decide) ml_Reader_59 (by decide) s_3 (by decide) rfl rfl rfl (leb rfl) (bz _) (fun _ => rfl) (ok_Reader_advance hv) ?_
        refine w_aload_n (q := 97) d_Reader_readEntry_96 rfl rfl ?_
        refine w_get (q := 100) (ci := 6) (j := 0) d_Reader_readEntry_97 rfl (by decide) fl_Reader_12 (by decide) (by decide) s_3 rfl rfl ?_
        refine w_iload (q := 102) d_Reader_readEntry_100 rfl rfl ?_
        refine w_iconst (q := 103) (v := 5) d_Reader_readEntry_102 rfl (by decide) ?_
        refine w_aload_n (q := 104) d_Reader_readEntry_103 rfl rfl ?_
        refine w_iconst (q := 105) (v := 0) d_Reader_readEntry_104 rfl (by decide) ?_
        refine w_bipush (q := 107) (v := 7) d_Reader_readEntry_105 rfl (by decide) ?_
        obtain ⟨v12, hv, h⟩ := bnd h
        refine w_callVi (q := 110) (M' := M_Reader_takeNumber) (n' := 8) (k := 3) (As := [.int 0, .int 7]) (sh' := SH) (b1 := (0, 0)) d_Reader_readEntry_107 rfl mw_Reader_takeNumber (by decide) (by decide) ml_Reader_133 (by decide) s_3 (by decide) rfl rfl rfl (leb rfl) (bz _) (fun _ => rfl) (ok_Reader_takeNumber hv) ?_
        obtain ⟨v13, hv, h⟩ := bnd h
        refine w_callVv (q := 113) (M' := M_Roll_put) (n' := 0) (k := 4) (As := [.int v9.1, .int 5, .int v12.1]) (sh' := SH) (b1 := (0, 0)) d_Reader_readEntry_110 rfl mw_Roll_put (by decide) (by decide) ml_Reader_160 i_4.2.1 i_4.1 (by decide) rfl rfl rfl (leb rfl) (bz _) (fun _ => rfl) (ok_Roll_put i_4 hv) ?_
        refine w_ls (ls' := [some (.ref 3), none, none, none, none, none, some (.int v9.1)]) (And.intro rfl (And.intro rfl trivial)) ?_
        exact ok_Reader_readEntry_j113 h
      · rw [if_neg c10] at h
        refine w_icmp_ne_t (q := 113) d_Reader_readEntry_89 rfl c10 ?_
        refine w_ls (ls' := [some (.ref 3), none, none, none, none, none, some (.int v9.1)]) (And.intro rfl (And.intro rfl trivial)) ?_
        exact ok_Reader_readEntry_j113 h
    · rw [if_neg c8] at h
      refine w_if_ne_t (q := 142) d_Reader_readEntry_63 rfl c8 ?_
      cases h
      exact w_return d_Reader_readEntry_142 rfl ⟨rfl, rfl, rfl, rfl⟩
  · rw [if_neg c2] at h
    refine w_if_eq_f (q := 10) d_Reader_readEntry_7 16 rfl rfl c2 ?_
    refine w_aload_n (q := 11) d_Reader_readEntry_10 rfl rfl ?_
    refine w_iconst (q := 12) (v := 2) d_Reader_readEntry_11 rfl (by decide) ?_
    obtain ⟨v18, hv, h⟩ := bnd h
    refine w_callVv (q := 15) (M' := M_Reader_fail) (n' := 0) (k := 3) (As := [.int 2]) (sh' := SH) (b1 := (0, 0)) d_Reader_readEntry_12 rfl mw_Reader_fail (by decide) (by decide) ml_Reader_78 (by decide) s_3 (by decide) rfl rfl rfl (leb rfl) (bz _) (fun _ => rfl) (ok_Reader_fail hv) ?_
    cases h
    exact w_return d_Reader_readEntry_15 rfl ⟨rfl, rfl, rfl, rfl⟩
def sp_Reader_takeCopier_j37 (F : Nat) (p0 : Int32) (g : Mem) (m0 : Mem) (x1 : Int32) : Option (Int32 × Mem) := if (m0 3 9) = 0 then (sp_Hair_holds F 12 4 (m0 3 7) x1 m0).bind fun v6 => if v6 = 0 then (sp_Reader_takenOrNone F m0).bind fun v8 => some (v8.1, v8.2) else (sp_Reader_fail 4 m0).bind fun v9 => (sp_Reader_takenOrNone F v9).bind fun v10 => some (v10.1, v10.2) else (sp_Reader_takenOrNone F m0).bind fun v11 => some (v11.1, v11.2)
theorem ok_Reader_takeCopier_j37 {γ : GG} {tt : Bool} {F : Nat} {p0 : Int32} {g : Mem} {m0 : Mem} {x1 : Int32} {res : Int32 × Mem} (h : sp_Reader_takeCopier_j37 F p0 g m0 x1 = some res) : WA γ M_Reader_takeCopier 8 37 [some (.ref 3), some (.int x1)] [] SH m0 tt (0, 0) (pI SH res.1 res.2 tt) := by
  unfold sp_Reader_takeCopier_j37 at h
  refine w_aload_n (q := 38) d_Reader_takeCopier_37 rfl rfl ?_
  refine w_get (q := 41) (ci := 6) (j := 9) d_Reader_takeCopier_38 rfl (by decide) fl_Reader_47 (by decide) (by decide) s_3 rfl rfl ?_
  by_cases c5 : (m0 3 9) = 0
  · rw [if_pos c5] at h
    refine w_if_ne_f (q := 44) d_Reader_takeCopier_41 64 rfl rfl c5 ?_
    refine w_aload_n (q := 45) d_Reader_takeCopier_44 rfl rfl ?_
    refine w_get (q := 48) (ci := 6) (j := 1) d_Reader_takeCopier_45 rfl (by decide) fl_Reader_23 (by decide) (by decide) s_3 rfl rfl ?_
    refine w_aload_n (q := 49) d_Reader_takeCopier_48 rfl rfl ?_
    refine w_get (q := 52) (ci := 6) (j := 7) d_Reader_takeCopier_49 rfl (by decide) fl_Reader_117 (by decide) (by decide) s_3 rfl rfl ?_
    refine w_iload_n (q := 53) d_Reader_takeCopier_52 rfl rfl ?_
    obtain ⟨v6, hv, h⟩ := bnd h
    refine w_callVi (q := 56) (M' := M_Hair_holds) (n' := 2) (k := 12) (As := [.int (m0 3 7), .int x1]) (sh' := SH) (b1 := (0, 0)) d_Reader_takeCopier_53 rfl mw_Hair_holds (by decide) (by decide) ml_Reader_129 i_12.2.1 i_12.1 (by decide) rfl rfl rfl (leb rfl) (bz _) (fun _ => rfl) (ok_Hair_holds i_12 hv) ?_
    by_cases c7 : v6 = 0
    · rw [if_pos c7] at h
      refine w_if_eq_t (q := 64) d_Reader_takeCopier_56 rfl c7 ?_
      refine w_aload_n (q := 65) d_Reader_takeCopier_64 rfl rfl ?_
      obtain ⟨v8, hv, h⟩ := bnd h
      refine w_callVi (q := 68) (M' := M_Reader_takenOrNone) (n' := 7) (k := 3) (As := []) (sh' := SH) (b1 := (0, 0)) d_Reader_takeCopier_65 rfl mw_Reader_takenOrNone (by decide) (by decide) ml_Reader_123 (by decide) s_3 (by decide) rfl rfl rfl (leb rfl) (bz _) (fun _ => rfl) (ok_Reader_takenOrNone hv) ?_
      cases h
      exact w_ireturn d_Reader_takeCopier_68 rfl rfl ⟨rfl, rfl, rfl, rfl⟩
    · rw [if_neg c7] at h
      refine w_if_eq_f (q := 59) d_Reader_takeCopier_56 64 rfl rfl c7 ?_
      refine w_aload_n (q := 60) d_Reader_takeCopier_59 rfl rfl ?_
      refine w_iconst (q := 61) (v := 4) d_Reader_takeCopier_60 rfl (by decide) ?_
      obtain ⟨v9, hv, h⟩ := bnd h
      refine w_callVv (q := 64) (M' := M_Reader_fail) (n' := 0) (k := 3) (As := [.int 4]) (sh' := SH) (b1 := (0, 0)) d_Reader_takeCopier_61 rfl mw_Reader_fail (by decide) (by decide) ml_Reader_78 (by decide) s_3 (by decide) rfl rfl rfl (leb rfl) (bz _) (fun _ => rfl) (ok_Reader_fail hv) ?_
      refine w_aload_n (q := 65) d_Reader_takeCopier_64 rfl rfl ?_
      obtain ⟨v10, hv, h⟩ := bnd h
      refine w_callVi (q := 68) (M' := M_Reader_takenOrNone) (n' := 7) (k := 3) (As := []) (sh' := SH) (b1 := (0, 0)) d_Reader_takeCopier_65 rfl mw_Reader_takenOrNone (by decide) (by decide) ml_Reader_123 (by decide) s_3 (by decide) rfl rfl rfl (leb rfl) (bz _) (fun _ => rfl) (ok_Reader_takenOrNone hv) ?_
      cases h
      exact w_ireturn d_Reader_takeCopier_68 rfl rfl ⟨rfl, rfl, rfl, rfl⟩
  · rw [if_neg c5] at h
    refine w_if_ne_t (q := 64) d_Reader_takeCopier_41 rfl c5 ?_
    refine w_aload_n (q := 65) d_Reader_takeCopier_64 rfl rfl ?_
    obtain ⟨v11, hv, h⟩ := bnd h
    refine w_callVi (q := 68) (M' := M_Reader_takenOrNone) (n' := 7) (k := 3) (As := []) (sh' := SH) (b1 := (0, 0)) d_Reader_takeCopier_65 rfl mw_Reader_takenOrNone (by decide) (by decide) ml_Reader_123 (by decide) s_3 (by decide) rfl rfl rfl (leb rfl) (bz _) (fun _ => rfl) (ok_Reader_takenOrNone hv) ?_
    cases h
    exact w_ireturn d_Reader_takeCopier_68 rfl rfl ⟨rfl, rfl, rfl, rfl⟩
def sp_Reader_takeCopier_j11 (F : Nat) (p0 : Int32) (g : Mem) (m0 : Mem) (x1 : Int32) : Option (Int32 × Mem) := if (m0 3 9) = 0 then if (m0 3 7) < (m0 4 0) then sp_Reader_takeCopier_j37 F p0 g m0 x1 else (sp_Reader_fail 3 m0).bind fun v12 => sp_Reader_takeCopier_j37 F p0 g v12 x1 else sp_Reader_takeCopier_j37 F p0 g m0 x1
theorem ok_Reader_takeCopier_j11 {γ : GG} {tt : Bool} {F : Nat} {p0 : Int32} {g : Mem} {m0 : Mem} {x1 : Int32} {res : Int32 × Mem} (h : sp_Reader_takeCopier_j11 F p0 g m0 x1 = some res) : WA γ M_Reader_takeCopier 8 11 [some (.ref 3), some (.int x1)] [] SH m0 tt (0, 0) (pI SH res.1 res.2 tt) := by
  unfold sp_Reader_takeCopier_j11 at h
  refine w_aload_n (q := 12) d_Reader_takeCopier_11 rfl rfl ?_
  refine w_get (q := 15) (ci := 6) (j := 9) d_Reader_takeCopier_12 rfl (by decide) fl_Reader_47 (by decide) (by decide) s_3 rfl rfl ?_
  by_cases c3 : (m0 3 9) = 0
  · rw [if_pos c3] at h
    refine w_if_ne_f (q := 18) d_Reader_takeCopier_15 37 rfl rfl c3 ?_
    refine w_aload_n (q := 19) d_Reader_takeCopier_18 rfl rfl ?_
    refine w_get (q := 22) (ci := 6) (j := 7) d_Reader_takeCopier_19 rfl (by decide) fl_Reader_117 (by decide) (by decide) s_3 rfl rfl ?_
    refine w_aload_n (q := 23) d_Reader_takeCopier_22 rfl rfl ?_
    refine w_get (q := 26) (ci := 6) (j := 0) d_Reader_takeCopier_23 rfl (by decide) fl_Reader_12 (by decide) (by decide) s_3 rfl rfl ?_
    refine w_get (q := 29) (ci := 7) (j := 0) d_Reader_takeCopier_26 rfl (by decide) fl_Reader_126 (by decide) i_4.2.1 i_4.1 rfl rfl ?_
    by_cases c4 : (m0 3 7) < (m0 4 0)
    · rw [if_pos c4] at h
      refine w_icmp_lt_t (q := 37) d_Reader_takeCopier_29 rfl c4 ?_
      refine w_ls (ls' := [some (.ref 3), some (.int x1)]) (And.intro rfl (And.intro rfl trivial)) ?_
      exact ok_Reader_takeCopier_j37 h
    · rw [if_neg c4] at h
      refine w_icmp_lt_f (q := 32) d_Reader_takeCopier_29 37 rfl rfl c4 ?_
      refine w_aload_n (q := 33) d_Reader_takeCopier_32 rfl rfl ?_
      refine w_iconst (q := 34) (v := 3) d_Reader_takeCopier_33 rfl (by decide) ?_
      obtain ⟨v12, hv, h⟩ := bnd h
      refine w_callVv (q := 37) (M' := M_Reader_fail) (n' := 0) (k := 3) (As := [.int 3]) (sh' := SH) (b1 := (0, 0)) d_Reader_takeCopier_34 rfl mw_Reader_fail (by decide) (by decide) ml_Reader_78 (by decide) s_3 (by decide) rfl rfl rfl (leb rfl) (bz _) (fun _ => rfl) (ok_Reader_fail hv) ?_
      refine w_ls (ls' := [some (.ref 3), some (.int x1)]) (And.intro rfl (And.intro rfl trivial)) ?_
      exact ok_Reader_takeCopier_j37 h
  · rw [if_neg c3] at h
    refine w_if_ne_t (q := 37) d_Reader_takeCopier_15 rfl c3 ?_
    refine w_ls (ls' := [some (.ref 3), some (.int x1)]) (And.intro rfl (And.intro rfl trivial)) ?_
    exact ok_Reader_takeCopier_j37 h
def sp_Reader_takeCopier (F : Nat) (p0 : Int32) (g : Mem) : Option (Int32 × Mem) := if (g 3 9) = 0 then (sp_Reader_needNumber g).bind fun v2 => sp_Reader_takeCopier_j11 F p0 g v2 p0 else sp_Reader_takeCopier_j11 F p0 g g p0
theorem ok_Reader_takeCopier {γ : GG} {tt : Bool} {F : Nat} {p0 : Int32} {g : Mem} {res : Int32 × Mem} (h : sp_Reader_takeCopier F p0 g = some res) : CA γ M_Reader_takeCopier 8 [.ref 3, .int p0] SH g tt (0, 0) (pI SH res.1 res.2 tt) := by
  refine CA.of mw_Reader_takeCopier.1 0 rfl ?_
  show WA γ M_Reader_takeCopier 8 0 [some (.ref 3), some (.int p0)] [] SH g tt (0, 0) (pI SH res.1 res.2 tt)
  unfold sp_Reader_takeCopier at h
  refine w_aload_n (q := 1) d_Reader_takeCopier_0 rfl rfl ?_
  refine w_get (q := 4) (ci := 6) (j := 9) d_Reader_takeCopier_1 rfl (by decide) fl_Reader_47 (by decide) (by decide) s_3 rfl rfl ?_
  by_cases c1 : (g 3 9) = 0
  · rw [if_pos c1] at h
    refine w_if_ne_f (q := 7) d_Reader_takeCopier_4 11 rfl rfl c1 ?_
    refine w_aload_n (q := 8) d_Reader_takeCopier_7 rfl rfl ?_
    obtain ⟨v2, hv, h⟩ := bnd h
    refine w_callVv (q := 11) (M' := M_Reader_needNumber) (n' := 1) (k := 3) (As := []) (sh' := SH) (b1 := (0, 0)) d_Reader_takeCopier_8 rfl mw_Reader_needNumber (by decide) (by decide) ml_Reader_120 (by decide) s_3 (by decide) rfl rfl rfl (leb rfl) (bz _) (fun _ => rfl) (ok_Reader_needNumber hv) ?_
    refine w_ls (ls' := [some (.ref 3), some (.int p0)]) (And.intro rfl (And.intro rfl trivial)) ?_
    exact ok_Reader_takeCopier_j11 h
  · rw [if_neg c1] at h
    refine w_if_ne_t (q := 11) d_Reader_takeCopier_4 rfl c1 ?_
    refine w_ls (ls' := [some (.ref 3), some (.int p0)]) (And.intro rfl (And.intro rfl trivial)) ?_
    exact ok_Reader_takeCopier_j11 h
def sp_Reader_readCopy_j54 (F : Nat) (g : Mem) (m0 : Mem) (x1 : Int32) (y0 : Int32) : Option (Mem) := (sp_Reader_takeCopier F y0 m0).bind fun v7 => (sp_Reader_takeNumber F 0 60 v7.2).bind fun v8 => if (v8.2 3 9) = 0 then (sp_Hair_copyInto 12 4 x1 v7.1 (-v8.1) v8.2).bind fun v10 => some v10.2 else some v8.2
theorem ok_Reader_readCopy_j54 {γ : GG} {tt : Bool} {F : Nat} {g : Mem} {m0 : Mem} {x1 : Int32} {y0 : Int32} {res : Mem} (h : sp_Reader_readCopy_j54 F g m0 x1 y0 = some res) : WA γ M_Reader_readCopy 9 54 [some (.ref 3), some (.int x1), none, none] [.int y0, .ref 3] SH m0 tt (0, 0) (pV SH res tt) := by
  unfold sp_Reader_readCopy_j54 at h
  obtain ⟨v7, hv, h⟩ := bnd h
  refine w_callVi (q := 57) (M' := M_Reader_takeCopier) (n' := 8) (k := 3) (As := [.int y0]) (sh' := SH) (b1 := (0, 0)) d_Reader_readCopy_54 rfl mw_Reader_takeCopier (by decide) (by decide) ml_Reader_173 (by decide) s_3 (by decide) rfl rfl rfl (leb rfl) (bz _) (fun _ => rfl) (ok_Reader_takeCopier hv) ?_
  refine w_istore_n (q := 58) (ls' := [some (.ref 3), some (.int x1), some (.int v7.1), none]) d_Reader_readCopy_57 rfl (by decide) rfl rfl ?_
  refine w_aload_n (q := 59) d_Reader_readCopy_58 rfl rfl ?_
  refine w_iconst (q := 60) (v := 0) d_Reader_readCopy_59 rfl (by decide) ?_
  refine w_bipush (q := 62) (v := 60) d_Reader_readCopy_60 rfl (by decide) ?_
  obtain ⟨v8, hv, h⟩ := bnd h
  refine w_callVi (q := 65) (M' := M_Reader_takeNumber) (n' := 8) (k := 3) (As := [.int 0, .int 60]) (sh' := SH) (b1 := (0, 0)) d_Reader_readCopy_62 rfl mw_Reader_takeNumber (by decide) (by decide) ml_Reader_133 (by decide) s_3 (by decide) rfl rfl rfl (leb rfl) (bz _) (fun _ => rfl) (ok_Reader_takeNumber hv) ?_
  refine w_istore_n (q := 66) (ls' := [some (.ref 3), some (.int x1), some (.int v7.1), some (.int v8.1)]) d_Reader_readCopy_65 rfl (by decide) rfl rfl ?_
  refine w_aload_n (q := 67) d_Reader_readCopy_66 rfl rfl ?_
  refine w_get (q := 70) (ci := 6) (j := 9) d_Reader_readCopy_67 rfl (by decide) fl_Reader_47 (by decide) (by decide) s_3 rfl rfl ?_
  by_cases c9 : (v8.2 3 9) = 0
  · rw [if_pos c9] at h
    refine w_if_ne_f (q := 73) d_Reader_readCopy_70 85 rfl rfl c9 ?_
    refine w_aload_n (q := 74) d_Reader_readCopy_73 rfl rfl ?_
    refine w_get (q := 77) (ci := 6) (j := 1) d_Reader_readCopy_74 rfl (by decide) fl_Reader_23 (by decide) (by decide) s_3 rfl rfl ?_
    refine w_iload_n (q := 78) d_Reader_readCopy_77 rfl rfl ?_
    refine w_iload_n (q := 79) d_Reader_readCopy_78 rfl rfl ?_
    refine w_iload_n (q := 80) d_Reader_readCopy_79 rfl rfl ?_
    refine w_ineg (q := 81) d_Reader_readCopy_80 rfl ?_
    obtain ⟨v10, hv, h⟩ := bnd h
    refine w_callVi (q := 84) (M' := M_Hair_copyInto) (n' := 3) (k := 12) (As := [.int x1, .int v7.1, .int (-v8.1)]) (sh' := SH) (b1 := (0, 0)) d_Reader_readCopy_81 rfl mw_Hair_copyInto (by decide) (by decide) ml_Reader_176 i_12.2.1 i_12.1 (by decide) rfl rfl rfl (leb rfl) (bz _) (fun _ => rfl) (ok_Hair_copyInto i_12 hv) ?_
    refine w_pop (q := 85) d_Reader_readCopy_84 rfl rfl ?_
    cases h
    exact w_return d_Reader_readCopy_85 rfl ⟨rfl, rfl, rfl, rfl⟩
  · rw [if_neg c9] at h
    refine w_if_ne_t (q := 85) d_Reader_readCopy_70 rfl c9 ?_
    cases h
    exact w_return d_Reader_readCopy_85 rfl ⟨rfl, rfl, rfl, rfl⟩
def sp_Reader_readCopy (F : Nat) (g : Mem) : Option (Mem) := (sp_Hair_isFull 12 4 g).bind fun v1 => if v1 = 0 then (sp_Reader_advance F g).bind fun v3 => (sp_Reader_takeTold F (v3 12 4) v3).bind fun v4 => if (v4.2 3 9) = 0 then (sp_Roll_cell 4 v4.1 7 v4.2).bind fun v6 => sp_Reader_readCopy_j54 F g v4.2 v4.1 v6 else sp_Reader_readCopy_j54 F g v4.2 v4.1 0 else (sp_Reader_fail 2 g).bind fun v11 => some v11
theorem ok_Reader_readCopy {γ : GG} {tt : Bool} {F : Nat} {g : Mem} {res : Mem} (h : sp_Reader_readCopy F g = some res) : CA γ M_Reader_readCopy 9 [.ref 3] SH g tt (0, 0) (pV SH res tt) := by
  refine CA.of mw_Reader_readCopy.1 3 rfl ?_
  show WA γ M_Reader_readCopy 9 0 [some (.ref 3), none, none, none] [] SH g tt (0, 0) (pV SH res tt)
  unfold sp_Reader_readCopy at h
  refine w_aload_n (q := 1) d_Reader_readCopy_0 rfl rfl ?_
  refine w_get (q := 4) (ci := 6) (j := 1) d_Reader_readCopy_1 rfl (by decide) fl_Reader_23 (by decide) (by decide) s_3 rfl rfl ?_
  obtain ⟨v1, hv, h⟩ := bnd h
  refine w_callVi (q := 7) (M' := M_Hair_isFull) (n' := 0) (k := 12) (As := []) (sh' := SH) (b1 := (0, 0)) d_Reader_readCopy_4 rfl mw_Hair_isFull (by decide) (by decide) ml_Reader_149 i_12.2.1 i_12.1 (by decide) rfl rfl rfl (leb rfl) (bz _) (fun _ => rfl) (ok_Hair_isFull i_12 hv) ?_
  by_cases c2 : v1 = 0
  · rw [if_pos c2] at h
    refine w_if_eq_t (q := 16) d_Reader_readCopy_7 rfl c2 ?_
    refine w_aload_n (q := 17) d_Reader_readCopy_16 rfl rfl ?_
    obtain ⟨v3, hv, h⟩ := bnd h
    refine w_callVv (q := 20) (M' := M_Reader_advance) (n' := 6) (k := 3) (As := []) (sh' := SH) (b1 := (0, 0)) d_Reader_readCopy_17 rfl mw_Reader_advance (by decide) (by decide) ml_Reader_59 (by decide) s_3 (by decide) rfl rfl rfl (leb rfl) (bz _) (fun _ => rfl) (ok_Reader_advance hv) ?_
    refine w_aload_n (q := 21) d_Reader_readCopy_20 rfl rfl ?_
    refine w_aload_n (q := 22) d_Reader_readCopy_21 rfl rfl ?_
    refine w_get (q := 25) (ci := 6) (j := 1) d_Reader_readCopy_22 rfl (by decide) fl_Reader_23 (by decide) (by decide) s_3 rfl rfl ?_
    refine w_get (q := 28) (ci := 2) (j := 4) d_Reader_readCopy_25 rfl (by decide) fl_Reader_167 (by decide) i_12.2.1 i_12.1 rfl rfl ?_
    obtain ⟨v4, hv, h⟩ := bnd h
    refine w_callVi (q := 31) (M' := M_Reader_takeTold) (n' := 8) (k := 3) (As := [.int (v3 12 4)]) (sh' := SH) (b1 := (0, 0)) d_Reader_readCopy_28 rfl mw_Reader_takeTold (by decide) (by decide) ml_Reader_153 (by decide) s_3 (by decide) rfl rfl rfl (leb rfl) (bz _) (fun _ => rfl) (ok_Reader_takeTold hv) ?_
    refine w_istore_n (q := 32) (ls' := [some (.ref 3), some (.int v4.1), none, none]) d_Reader_readCopy_31 rfl (by decide) rfl rfl ?_
    refine w_aload_n (q := 33) d_Reader_readCopy_32 rfl rfl ?_
    refine w_aload_n (q := 34) d_Reader_readCopy_33 rfl rfl ?_
    refine w_get (q := 37) (ci := 6) (j := 9) d_Reader_readCopy_34 rfl (by decide) fl_Reader_47 (by decide) (by decide) s_3 rfl rfl ?_
    by_cases c5 : (v4.2 3 9) = 0
    · rw [if_pos c5] at h
      refine w_if_ne_f (q := 40) d_Reader_readCopy_37 53 rfl rfl c5 ?_
      refine w_aload_n (q := 41) d_Reader_readCopy_40 rfl rfl ?_
      refine w_get (q := 44) (ci := 6) (j := 0) d_Reader_readCopy_41 rfl (by decide) fl_Reader_12 (by decide) (by decide) s_3 rfl rfl ?_
      refine w_iload_n (q := 45) d_Reader_readCopy_44 rfl rfl ?_
      refine w_bipush (q := 47) (v := 7) d_Reader_readCopy_45 rfl (by decide) ?_
      obtain ⟨v6, hv, h⟩ := bnd h
      refine w_callVi (q := 50) (M' := M_Roll_cell) (n' := 0) (k := 4) (As := [.int v4.1, .int 7]) (sh' := SH) (b1 := (0, 0)) d_Reader_readCopy_47 rfl mw_Roll_cell (by decide) (by decide) ml_Reader_170 i_4.2.1 i_4.1 (by decide) rfl rfl rfl (leb rfl) (bz _) (fun _ => rfl) (ok_Roll_cell i_4 hv) ?_
      refine w_goto (q := 54) d_Reader_readCopy_50 rfl ?_
      refine w_ls (ls' := [some (.ref 3), some (.int v4.1), none, none]) (And.intro rfl (And.intro rfl trivial)) ?_
      exact ok_Reader_readCopy_j54 h
    · rw [if_neg c5] at h
      refine w_if_ne_t (q := 53) d_Reader_readCopy_37 rfl c5 ?_
      refine w_iconst (q := 54) (v := 0) d_Reader_readCopy_53 rfl (by decide) ?_
      refine w_ls (ls' := [some (.ref 3), some (.int v4.1), none, none]) (And.intro rfl (And.intro rfl trivial)) ?_
      exact ok_Reader_readCopy_j54 h
  · rw [if_neg c2] at h
    refine w_if_eq_f (q := 10) d_Reader_readCopy_7 16 rfl rfl c2 ?_
    refine w_aload_n (q := 11) d_Reader_readCopy_10 rfl rfl ?_
    refine w_iconst (q := 12) (v := 2) d_Reader_readCopy_11 rfl (by decide) ?_
    obtain ⟨v11, hv, h⟩ := bnd h
    refine w_callVv (q := 15) (M' := M_Reader_fail) (n' := 0) (k := 3) (As := [.int 2]) (sh' := SH) (b1 := (0, 0)) d_Reader_readCopy_12 rfl mw_Reader_fail (by decide) (by decide) ml_Reader_78 (by decide) s_3 (by decide) rfl rfl rfl (leb rfl) (bz _) (fun _ => rfl) (ok_Reader_fail hv) ?_
    cases h
    exact w_return d_Reader_readCopy_15 rfl ⟨rfl, rfl, rfl, rfl⟩
def sp_Reader_readSetting_j30 (F : Nat) (p0 : Int32) (g : Mem) (m0 : Mem) (x1 : Int32) (x2 : Int32) : Option (Mem) := if ((m0 3 8) &&& x2) = 0 then (sp_Reader_advance F (mset m0 3 8 ((m0 3 8) ||| x2))).bind fun v4 => if x1 = 110 then (sp_Reader_takeNumber F 1 60 v4).bind fun v6 => some (mset v6.2 4 1 v6.1) else if x1 = 111 then (sp_Reader_takeNumber F 1 99 v4).bind fun v8 => some (mset v8.2 4 2 v8.1) else if x1 = 112 then (sp_Reader_takeNumber F 1 9 v4).bind fun v10 => some (mset v10.2 4 3 v10.1) else (rxR F 8 1 v4).bind fun v11 => some v11 else (sp_Reader_fail 5 m0).bind fun v12 => some v12
theorem ok_Reader_readSetting_j30 {γ : GG} {tt : Bool} {F : Nat} {p0 : Int32} {g : Mem} {m0 : Mem} {x1 : Int32} {x2 : Int32} {res : Mem} (h : sp_Reader_readSetting_j30 F p0 g m0 x1 x2 = some res) : WA γ M_Reader_readSetting 120 30 [some (.ref 3), some (.int x1), some (.int x2)] [] SH m0 tt (0, 0) (pV SH res tt) := by
  unfold sp_Reader_readSetting_j30 at h
  refine w_aload_n (q := 31) d_Reader_readSetting_30 rfl rfl ?_
  refine w_get (q := 34) (ci := 6) (j := 8) d_Reader_readSetting_31 rfl (by decide) fl_Reader_44 (by decide) (by decide) s_3 rfl rfl ?_
  refine w_iload_n (q := 35) d_Reader_readSetting_34 rfl rfl ?_
  refine w_iand (q := 36) d_Reader_readSetting_35 rfl ?_
  by_cases c3 : ((m0 3 8) &&& x2) = 0
  · rw [if_pos c3] at h
    refine w_if_eq_t (q := 45) d_Reader_readSetting_36 rfl c3 ?_
    refine w_aload_n (q := 46) d_Reader_readSetting_45 rfl rfl ?_
    refine w_dup (q := 47) d_Reader_readSetting_46 rfl rfl ?_
    refine w_get (q := 50) (ci := 6) (j := 8) d_Reader_readSetting_47 rfl (by decide) fl_Reader_44 (by decide) (by decide) s_3 rfl rfl ?_
    refine w_iload_n (q := 51) d_Reader_readSetting_50 rfl rfl ?_
    refine w_ior (q := 52) d_Reader_readSetting_51 rfl ?_
    refine w_put (q := 55) (ci := 6) (j := 8) d_Reader_readSetting_52 rfl (by decide) fl_Reader_44 (by decide) (by decide) s_3 rfl rfl rfl rfl rfl rfl ?_
    refine w_aload_n (q := 56) d_Reader_readSetting_55 rfl rfl ?_
    obtain ⟨v4, hv, h⟩ := bnd h
    refine w_callVv (q := 59) (M' := M_Reader_advance) (n' := 6) (k := 3) (As := []) (sh' := SH) (b1 := (0, 0)) d_Reader_readSetting_56 rfl mw_Reader_advance (by decide) (by decide) ml_Reader_59 (by decide) s_3 (by decide) rfl rfl rfl (leb rfl) (bz _) (fun _ => rfl) (ok_Reader_advance hv) ?_
    refine w_iload_n (q := 60) d_Reader_readSetting_59 rfl rfl ?_
    by_cases c5 : x1 = 110
    · rw [if_pos c5] at h
      refine w_tabIn (q := 88) (off := 28) d_Reader_readSetting_60 (by rw [c5]; decide) (by rw [c5]; decide) (by rw [c5]; decide +kernel) rfl ?_
      refine w_aload_n (q := 89) d_Reader_readSetting_88 rfl rfl ?_
      refine w_get (q := 92) (ci := 6) (j := 0) d_Reader_readSetting_89 rfl (by decide) fl_Reader_12 (by decide) (by decide) s_3 rfl rfl ?_
      refine w_aload_n (q := 93) d_Reader_readSetting_92 rfl rfl ?_
      refine w_iconst (q := 94) (v := 1) d_Reader_readSetting_93 rfl (by decide) ?_
      refine w_bipush (q := 96) (v := 60) d_Reader_readSetting_94 rfl (by decide) ?_
      obtain ⟨v6, hv, h⟩ := bnd h
      refine w_callVi (q := 99) (M' := M_Reader_takeNumber) (n' := 8) (k := 3) (As := [.int 1, .int 60]) (sh' := SH) (b1 := (0, 0)) d_Reader_readSetting_96 rfl mw_Reader_takeNumber (by decide) (by decide) ml_Reader_133 (by decide) s_3 (by decide) rfl rfl rfl (leb rfl) (bz _) (fun _ => rfl) (ok_Reader_takeNumber hv) ?_
      refine w_put (q := 102) (ci := 7) (j := 1) d_Reader_readSetting_99 rfl (by decide) fl_Reader_180 (by decide) i_4.2.1 i_4.1 rfl rfl rfl rfl rfl rfl ?_
      refine w_goto (q := 144) d_Reader_readSetting_102 rfl ?_
      cases h
      exact w_return d_Reader_readSetting_144 rfl ⟨rfl, rfl, rfl, rfl⟩
    rw [if_neg c5] at h
    by_cases c7 : x1 = 111
    · rw [if_pos c7] at h
      refine w_tabIn (q := 105) (off := 45) d_Reader_readSetting_60 (by rw [c7]; decide) (by rw [c7]; decide) (by rw [c7]; decide +kernel) rfl ?_
      refine w_aload_n (q := 106) d_Reader_readSetting_105 rfl rfl ?_
      refine w_get (q := 109) (ci := 6) (j := 0) d_Reader_readSetting_106 rfl (by decide) fl_Reader_12 (by decide) (by decide) s_3 rfl rfl ?_
      refine w_aload_n (q := 110) d_Reader_readSetting_109 rfl rfl ?_
      refine w_iconst (q := 111) (v := 1) d_Reader_readSetting_110 rfl (by decide) ?_
      refine w_bipush (q := 113) (v := 99) d_Reader_readSetting_111 rfl (by decide) ?_
      obtain ⟨v8, hv, h⟩ := bnd h
      refine w_callVi (q := 116) (M' := M_Reader_takeNumber) (n' := 8) (k := 3) (As := [.int 1, .int 99]) (sh' := SH) (b1 := (0, 0)) d_Reader_readSetting_113 rfl mw_Reader_takeNumber (by decide) (by decide) ml_Reader_133 (by decide) s_3 (by decide) rfl rfl rfl (leb rfl) (bz _) (fun _ => rfl) (ok_Reader_takeNumber hv) ?_
      refine w_put (q := 119) (ci := 7) (j := 2) d_Reader_readSetting_116 rfl (by decide) fl_Reader_183 (by decide) i_4.2.1 i_4.1 rfl rfl rfl rfl rfl rfl ?_
      refine w_goto (q := 144) d_Reader_readSetting_119 rfl ?_
      cases h
      exact w_return d_Reader_readSetting_144 rfl ⟨rfl, rfl, rfl, rfl⟩
    rw [if_neg c7] at h
    by_cases c9 : x1 = 112
    · rw [if_pos c9] at h
      refine w_tabIn (q := 122) (off := 62) d_Reader_readSetting_60 (by rw [c9]; decide) (by rw [c9]; decide) (by rw [c9]; decide +kernel) rfl ?_
      refine w_aload_n (q := 123) d_Reader_readSetting_122 rfl rfl ?_
      refine w_get (q := 126) (ci := 6) (j := 0) d_Reader_readSetting_123 rfl (by decide) fl_Reader_12 (by decide) (by decide) s_3 rfl rfl ?_
      refine w_aload_n (q := 127) d_Reader_readSetting_126 rfl rfl ?_
      refine w_iconst (q := 128) (v := 1) d_Reader_readSetting_127 rfl (by decide) ?_
      refine w_bipush (q := 130) (v := 9) d_Reader_readSetting_128 rfl (by decide) ?_
      obtain ⟨v10, hv, h⟩ := bnd h
      refine w_callVi (q := 133) (M' := M_Reader_takeNumber) (n' := 8) (k := 3) (As := [.int 1, .int 9]) (sh' := SH) (b1 := (0, 0)) d_Reader_readSetting_130 rfl mw_Reader_takeNumber (by decide) (by decide) ml_Reader_133 (by decide) s_3 (by decide) rfl rfl rfl (leb rfl) (bz _) (fun _ => rfl) (ok_Reader_takeNumber hv) ?_
      refine w_put (q := 136) (ci := 7) (j := 3) d_Reader_readSetting_133 rfl (by decide) fl_Reader_186 (by decide) i_4.2.1 i_4.1 rfl rfl rfl rfl rfl rfl ?_
      refine w_goto (q := 144) d_Reader_readSetting_136 rfl ?_
      cases h
      exact w_return d_Reader_readSetting_144 rfl ⟨rfl, rfl, rfl, rfl⟩
    rw [if_neg c9] at h
    have hsw : x1.toInt < 110 ∨ 112 < x1.toInt := by
      refine sw_out (fun c h1 h2 e => ?_)
      have h9 : c = 110 ∨ c = 111 ∨ c = 112 := by omega
      rcases h9 with rfl | rfl | rfl
      · exact c5 (Int32.toInt_inj.mp (e.trans (by decide)))
      · exact c7 (Int32.toInt_inj.mp (e.trans (by decide)))
      · exact c9 (Int32.toInt_inj.mp (e.trans (by decide)))
    refine w_tabOut (q := 139) d_Reader_readSetting_60 hsw rfl ?_
    refine w_aload_n (q := 140) d_Reader_readSetting_139 rfl rfl ?_
    refine w_iconst (q := 141) (v := 1) d_Reader_readSetting_140 rfl (by decide) ?_
    obtain ⟨v11, hv, h⟩ := bnd h
    refine w_callVv (q := 144) (M' := M_Reader_readExpr) (n' := 67) (k := 3) (As := [.int 1]) (sh' := SH) (b1 := (0, 0)) d_Reader_readSetting_141 rfl mw_Reader_readExpr (by decide) (by decide) ml_Reader_189 (by decide) s_3 (by decide) rfl rfl rfl (leb rfl) (bz _) (fun _ => rfl) (ok_rxR 8 hv) ?_
    cases h
    exact w_return d_Reader_readSetting_144 rfl ⟨rfl, rfl, rfl, rfl⟩
  · rw [if_neg c3] at h
    refine w_if_eq_f (q := 39) d_Reader_readSetting_36 45 rfl rfl c3 ?_
    refine w_aload_n (q := 40) d_Reader_readSetting_39 rfl rfl ?_
    refine w_iconst (q := 41) (v := 5) d_Reader_readSetting_40 rfl (by decide) ?_
    obtain ⟨v12, hv, h⟩ := bnd h
    refine w_callVv (q := 44) (M' := M_Reader_fail) (n' := 0) (k := 3) (As := [.int 5]) (sh' := SH) (b1 := (0, 0)) d_Reader_readSetting_41 rfl mw_Reader_fail (by decide) (by decide) ml_Reader_78 (by decide) s_3 (by decide) rfl rfl rfl (leb rfl) (bz _) (fun _ => rfl) (ok_Reader_fail hv) ?_
    cases h
    exact w_return d_Reader_readSetting_44 rfl ⟨rfl, rfl, rfl, rfl⟩
def sp_Reader_readSetting (F : Nat) (p0 : Int32) (g : Mem) : Option (Mem) := if p0 = 110 then if (g 4 0) ≤ 0 then sp_Reader_readSetting_j30 F p0 g g p0 (1 <<< ((p0 - 110) &&& 31)) else (sp_Reader_fail 6 g).bind fun v13 => some v13 else sp_Reader_readSetting_j30 F p0 g g p0 (1 <<< ((p0 - 110) &&& 31))
theorem ok_Reader_readSetting {γ : GG} {tt : Bool} {F : Nat} {p0 : Int32} {g : Mem} {res : Mem} (h : sp_Reader_readSetting F p0 g = some res) : CA γ M_Reader_readSetting 120 [.ref 3, .int p0] SH g tt (0, 0) (pV SH res tt) := by
  refine CA.of mw_Reader_readSetting.1 1 rfl ?_
  show WA γ M_Reader_readSetting 120 0 [some (.ref 3), some (.int p0), none] [] SH g tt (0, 0) (pV SH res tt)
  unfold sp_Reader_readSetting at h
  refine w_iconst (q := 1) (v := 1) d_Reader_readSetting_0 rfl (by decide) ?_
  refine w_iload_n (q := 2) d_Reader_readSetting_1 rfl rfl ?_
  refine w_bipush (q := 4) (v := 110) d_Reader_readSetting_2 rfl (by decide) ?_
  refine w_isub (q := 5) d_Reader_readSetting_4 rfl ?_
  refine w_ishl (q := 6) d_Reader_readSetting_5 rfl ?_
  refine w_istore_n (q := 7) (ls' := [some (.ref 3), some (.int p0), some (.int (1 <<< ((p0 - 110) &&& 31)))]) d_Reader_readSetting_6 rfl (by decide) rfl rfl ?_
  refine w_iload_n (q := 8) d_Reader_readSetting_7 rfl rfl ?_
  refine w_bipush (q := 10) (v := 110) d_Reader_readSetting_8 rfl (by decide) ?_
  by_cases c1 : p0 = 110
  · rw [if_pos c1] at h
    refine w_icmp_ne_f (q := 13) d_Reader_readSetting_10 30 rfl rfl c1 ?_
    refine w_aload_n (q := 14) d_Reader_readSetting_13 rfl rfl ?_
    refine w_get (q := 17) (ci := 6) (j := 0) d_Reader_readSetting_14 rfl (by decide) fl_Reader_12 (by decide) (by decide) s_3 rfl rfl ?_
    refine w_get (q := 20) (ci := 7) (j := 0) d_Reader_readSetting_17 rfl (by decide) fl_Reader_126 (by decide) i_4.2.1 i_4.1 rfl rfl ?_
    by_cases c2 : (g 4 0) ≤ 0
    · rw [if_pos c2] at h
      refine w_if_le_t (q := 30) d_Reader_readSetting_20 rfl c2 ?_
      refine w_ls (ls' := [some (.ref 3), some (.int p0), some (.int (1 <<< ((p0 - 110) &&& 31)))]) (And.intro rfl (And.intro rfl (And.intro rfl trivial))) ?_
      exact ok_Reader_readSetting_j30 h
    · rw [if_neg c2] at h
      refine w_if_le_f (q := 23) d_Reader_readSetting_20 30 rfl rfl c2 ?_
      refine w_aload_n (q := 24) d_Reader_readSetting_23 rfl rfl ?_
      refine w_bipush (q := 26) (v := 6) d_Reader_readSetting_24 rfl (by decide) ?_
      obtain ⟨v13, hv, h⟩ := bnd h
      refine w_callVv (q := 29) (M' := M_Reader_fail) (n' := 0) (k := 3) (As := [.int 6]) (sh' := SH) (b1 := (0, 0)) d_Reader_readSetting_26 rfl mw_Reader_fail (by decide) (by decide) ml_Reader_78 (by decide) s_3 (by decide) rfl rfl rfl (leb rfl) (bz _) (fun _ => rfl) (ok_Reader_fail hv) ?_
      cases h
      exact w_return d_Reader_readSetting_29 rfl ⟨rfl, rfl, rfl, rfl⟩
  · rw [if_neg c1] at h
    refine w_icmp_ne_t (q := 30) d_Reader_readSetting_10 rfl c1 ?_
    refine w_ls (ls' := [some (.ref 3), some (.int p0), some (.int (1 <<< ((p0 - 110) &&& 31)))]) (And.intro rfl (And.intro rfl (And.intro rfl trivial))) ?_
    exact ok_Reader_readSetting_j30 h
def PL_Reader_read_53 (γ : GG) (tt : Bool) (p0 : Int32) (g : Mem) (b : Nat × Nat) (Φ : PO) (s : Int32 × Mem) : Prop := WA γ M_Reader_read 121 53 [some (.ref 3), none, some (.int s.1)] [] SH s.2 tt b Φ
def QL_Reader_read_53 (γ : GG) (tt : Bool) (p0 : Int32) (g : Mem) (b : Nat × Nat) (Φ : PO) (x : (Mem)) : Prop := WA γ M_Reader_read 121 201 [none, none, none] [] SH x tt b Φ
def sp_Reader_read_j184_53 (F : Nat) (p0 : Int32) (g : Mem) (m0 : Mem) (x2 : Int32) : Option ((Int32 × Mem) ⊕ ((Mem))) := (sp_Reader_fail 1 m0).bind fun v14 => (sp_Reader_expect F 59 v14).bind fun v15 => some (.inl (x2 + 1, v15))
theorem ok_Reader_read_j184_53 {γ : GG} {tt : Bool} {F : Nat} {p0 : Int32} {g : Mem} {m0 : Mem} {x2 : Int32} {b : Nat × Nat} {Φ : PO} {r : (Int32 × Mem) ⊕ ((Mem))} (h : sp_Reader_read_j184_53 F p0 g m0 x2 = some r) (hr : RQ (PL_Reader_read_53 γ tt p0 g b Φ) (QL_Reader_read_53 γ tt p0 g b Φ) r) : WA γ M_Reader_read 121 184 [some (.ref 3), none, some (.int x2)] [] SH m0 tt b Φ := by
  unfold sp_Reader_read_j184_53 at h
  refine w_aload_n (q := 185) d_Reader_read_184 rfl rfl ?_
  refine w_iconst (q := 186) (v := 1) d_Reader_read_185 rfl (by decide) ?_
  obtain ⟨v14, hv, h⟩ := bnd h
  refine w_callVv (q := 189) (M' := M_Reader_fail) (n' := 0) (k := 3) (As := [.int 1]) (sh' := SH) (b1 := (0, 0)) d_Reader_read_186 rfl mw_Reader_fail (by decide) (by decide) ml_Reader_78 (by decide) s_3 (by decide) rfl rfl rfl (leb rfl) (bz _) (fun _ => rfl) (ok_Reader_fail hv) ?_
  refine w_aload_n (q := 190) d_Reader_read_189 rfl rfl ?_
  refine w_bipush (q := 192) (v := 59) d_Reader_read_190 rfl (by decide) ?_
  obtain ⟨v15, hv, h⟩ := bnd h
  refine w_callVv (q := 195) (M' := M_Reader_expect) (n' := 7) (k := 3) (As := [.int 59]) (sh' := SH) (b1 := (0, 0)) d_Reader_read_192 rfl mw_Reader_expect (by decide) (by decide) ml_Reader_81 (by decide) s_3 (by decide) rfl rfl rfl (leb rfl) (bz _) (fun _ => rfl) (ok_Reader_expect hv) ?_
  refine w_iinc (q := 198) (ls' := [some (.ref 3), none, some (.int (x2 + 1))]) d_Reader_read_195 rfl (by decide) rfl rfl rfl ?_
  refine w_goto (q := 53) d_Reader_read_198 rfl ?_
  cases h
  exact w_ls (by exact (And.intro rfl (And.intro rfl trivial))) hr
def sp_Reader_read_j139_53 (F : Nat) (p0 : Int32) (g : Mem) (m0 : Mem) (x2 : Int32) : Option ((Int32 × Mem) ⊕ ((Mem))) := if (m0 3 6) = 109 then (sp_Reader_readCopy F m0).bind fun v11 => (sp_Reader_expect F 59 v11).bind fun v12 => some (.inl (x2 + 1, v12)) else if (m0 3 6) < 110 then sp_Reader_read_j184_53 F p0 g m0 x2 else if 113 < (m0 3 6) then sp_Reader_read_j184_53 F p0 g m0 x2 else (sp_Reader_readSetting F (m0 3 6) m0).bind fun v17 => (sp_Reader_expect F 59 v17).bind fun v18 => some (.inl (x2 + 1, v18))
theorem ok_Reader_read_j139_53 {γ : GG} {tt : Bool} {F : Nat} {p0 : Int32} {g : Mem} {m0 : Mem} {x2 : Int32} {b : Nat × Nat} {Φ : PO} {r : (Int32 × Mem) ⊕ ((Mem))} (h : sp_Reader_read_j139_53 F p0 g m0 x2 = some r) (hr : RQ (PL_Reader_read_53 γ tt p0 g b Φ) (QL_Reader_read_53 γ tt p0 g b Φ) r) : WA γ M_Reader_read 121 139 [some (.ref 3), none, some (.int x2)] [] SH m0 tt b Φ := by
  unfold sp_Reader_read_j139_53 at h
  refine w_aload_n (q := 140) d_Reader_read_139 rfl rfl ?_
  refine w_get (q := 143) (ci := 6) (j := 6) d_Reader_read_140 rfl (by decide) fl_Reader_62 (by decide) (by decide) s_3 rfl rfl ?_
  refine w_bipush (q := 145) (v := 109) d_Reader_read_143 rfl (by decide) ?_
  by_cases c10 : (m0 3 6) = 109
  · rw [if_pos c10] at h
    refine w_icmp_ne_f (q := 148) d_Reader_read_145 155 rfl rfl c10 ?_
    refine w_aload_n (q := 149) d_Reader_read_148 rfl rfl ?_
    obtain ⟨v11, hv, h⟩ := bnd h
    refine w_callVv (q := 152) (M' := M_Reader_readCopy) (n' := 9) (k := 3) (As := []) (sh' := SH) (b1 := (0, 0)) d_Reader_read_149 rfl mw_Reader_readCopy (by decide) (by decide) ml_Reader_72 (by decide) s_3 (by decide) rfl rfl rfl (leb rfl) (bz _) (fun _ => rfl) (ok_Reader_readCopy hv) ?_
    refine w_goto (q := 189) d_Reader_read_152 rfl ?_
    refine w_aload_n (q := 190) d_Reader_read_189 rfl rfl ?_
    refine w_bipush (q := 192) (v := 59) d_Reader_read_190 rfl (by decide) ?_
    obtain ⟨v12, hv, h⟩ := bnd h
    refine w_callVv (q := 195) (M' := M_Reader_expect) (n' := 7) (k := 3) (As := [.int 59]) (sh' := SH) (b1 := (0, 0)) d_Reader_read_192 rfl mw_Reader_expect (by decide) (by decide) ml_Reader_81 (by decide) s_3 (by decide) rfl rfl rfl (leb rfl) (bz _) (fun _ => rfl) (ok_Reader_expect hv) ?_
    refine w_iinc (q := 198) (ls' := [some (.ref 3), none, some (.int (x2 + 1))]) d_Reader_read_195 rfl (by decide) rfl rfl rfl ?_
    refine w_goto (q := 53) d_Reader_read_198 rfl ?_
    cases h
    exact w_ls (by exact (And.intro rfl (And.intro rfl trivial))) hr
  · rw [if_neg c10] at h
    refine w_icmp_ne_t (q := 155) d_Reader_read_145 rfl c10 ?_
    refine w_aload_n (q := 156) d_Reader_read_155 rfl rfl ?_
    refine w_get (q := 159) (ci := 6) (j := 6) d_Reader_read_156 rfl (by decide) fl_Reader_62 (by decide) (by decide) s_3 rfl rfl ?_
    refine w_bipush (q := 161) (v := 110) d_Reader_read_159 rfl (by decide) ?_
    by_cases c13 : (m0 3 6) < 110
    · rw [if_pos c13] at h
      refine w_icmp_lt_t (q := 184) d_Reader_read_161 rfl c13 ?_
      refine w_ls (ls' := [some (.ref 3), none, some (.int x2)]) (And.intro rfl (And.intro rfl trivial)) ?_
      exact ok_Reader_read_j184_53 h hr
    · rw [if_neg c13] at h
      refine w_icmp_lt_f (q := 164) d_Reader_read_161 184 rfl rfl c13 ?_
      refine w_aload_n (q := 165) d_Reader_read_164 rfl rfl ?_
      refine w_get (q := 168) (ci := 6) (j := 6) d_Reader_read_165 rfl (by decide) fl_Reader_62 (by decide) (by decide) s_3 rfl rfl ?_
      refine w_bipush (q := 170) (v := 113) d_Reader_read_168 rfl (by decide) ?_
      by_cases c16 : 113 < (m0 3 6)
      · rw [if_pos c16] at h
        refine w_icmp_gt_t (q := 184) d_Reader_read_170 rfl c16 ?_
        refine w_ls (ls' := [some (.ref 3), none, some (.int x2)]) (And.intro rfl (And.intro rfl trivial)) ?_
        exact ok_Reader_read_j184_53 h hr
      · rw [if_neg c16] at h
        refine w_icmp_gt_f (q := 173) d_Reader_read_170 184 rfl rfl c16 ?_
        refine w_aload_n (q := 174) d_Reader_read_173 rfl rfl ?_
        refine w_aload_n (q := 175) d_Reader_read_174 rfl rfl ?_
        refine w_get (q := 178) (ci := 6) (j := 6) d_Reader_read_175 rfl (by decide) fl_Reader_62 (by decide) (by decide) s_3 rfl rfl ?_
        obtain ⟨v17, hv, h⟩ := bnd h
        refine w_callVv (q := 181) (M' := M_Reader_readSetting) (n' := 120) (k := 3) (As := [.int (m0 3 6)]) (sh' := SH) (b1 := (0, 0)) d_Reader_read_178 rfl mw_Reader_readSetting (by decide) (by decide) ml_Reader_75 (by decide) s_3 (by decide) rfl rfl rfl (leb rfl) (bz _) (fun _ => rfl) (ok_Reader_readSetting hv) ?_
        refine w_goto (q := 189) d_Reader_read_181 rfl ?_
        refine w_aload_n (q := 190) d_Reader_read_189 rfl rfl ?_
        refine w_bipush (q := 192) (v := 59) d_Reader_read_190 rfl (by decide) ?_
        obtain ⟨v18, hv, h⟩ := bnd h
        refine w_callVv (q := 195) (M' := M_Reader_expect) (n' := 7) (k := 3) (As := [.int 59]) (sh' := SH) (b1 := (0, 0)) d_Reader_read_192 rfl mw_Reader_expect (by decide) (by decide) ml_Reader_81 (by decide) s_3 (by decide) rfl rfl rfl (leb rfl) (bz _) (fun _ => rfl) (ok_Reader_expect hv) ?_
        refine w_iinc (q := 198) (ls' := [some (.ref 3), none, some (.int (x2 + 1))]) d_Reader_read_195 rfl (by decide) rfl rfl rfl ?_
        refine w_goto (q := 53) d_Reader_read_198 rfl ?_
        cases h
        exact w_ls (by exact (And.intro rfl (And.intro rfl trivial))) hr
def sp_Reader_read_j107_53 (F : Nat) (p0 : Int32) (g : Mem) (m0 : Mem) (x2 : Int32) : Option ((Int32 × Mem) ⊕ ((Mem))) := if (m0 3 6) < 105 then sp_Reader_read_j139_53 F p0 g m0 x2 else if 108 < (m0 3 6) then sp_Reader_read_j139_53 F p0 g m0 x2 else (sp_Reader_readEntry F ((m0 3 6) - 105) m0).bind fun v20 => (sp_Reader_expect F 59 v20).bind fun v21 => some (.inl (x2 + 1, v21))
theorem ok_Reader_read_j107_53 {γ : GG} {tt : Bool} {F : Nat} {p0 : Int32} {g : Mem} {m0 : Mem} {x2 : Int32} {b : Nat × Nat} {Φ : PO} {r : (Int32 × Mem) ⊕ ((Mem))} (h : sp_Reader_read_j107_53 F p0 g m0 x2 = some r) (hr : RQ (PL_Reader_read_53 γ tt p0 g b Φ) (QL_Reader_read_53 γ tt p0 g b Φ) r) : WA γ M_Reader_read 121 107 [some (.ref 3), none, some (.int x2)] [] SH m0 tt b Φ := by
  unfold sp_Reader_read_j107_53 at h
  refine w_aload_n (q := 108) d_Reader_read_107 rfl rfl ?_
  refine w_get (q := 111) (ci := 6) (j := 6) d_Reader_read_108 rfl (by decide) fl_Reader_62 (by decide) (by decide) s_3 rfl rfl ?_
  refine w_bipush (q := 113) (v := 105) d_Reader_read_111 rfl (by decide) ?_
  by_cases c9 : (m0 3 6) < 105
  · rw [if_pos c9] at h
    refine w_icmp_lt_t (q := 139) d_Reader_read_113 rfl c9 ?_
    refine w_ls (ls' := [some (.ref 3), none, some (.int x2)]) (And.intro rfl (And.intro rfl trivial)) ?_
    exact ok_Reader_read_j139_53 h hr
  · rw [if_neg c9] at h
    refine w_icmp_lt_f (q := 116) d_Reader_read_113 139 rfl rfl c9 ?_
    refine w_aload_n (q := 117) d_Reader_read_116 rfl rfl ?_
    refine w_get (q := 120) (ci := 6) (j := 6) d_Reader_read_117 rfl (by decide) fl_Reader_62 (by decide) (by decide) s_3 rfl rfl ?_
    refine w_bipush (q := 122) (v := 108) d_Reader_read_120 rfl (by decide) ?_
    by_cases c19 : 108 < (m0 3 6)
    · rw [if_pos c19] at h
      refine w_icmp_gt_t (q := 139) d_Reader_read_122 rfl c19 ?_
      refine w_ls (ls' := [some (.ref 3), none, some (.int x2)]) (And.intro rfl (And.intro rfl trivial)) ?_
      exact ok_Reader_read_j139_53 h hr
    · rw [if_neg c19] at h
      refine w_icmp_gt_f (q := 125) d_Reader_read_122 139 rfl rfl c19 ?_
      refine w_aload_n (q := 126) d_Reader_read_125 rfl rfl ?_
      refine w_aload_n (q := 127) d_Reader_read_126 rfl rfl ?_
      refine w_get (q := 130) (ci := 6) (j := 6) d_Reader_read_127 rfl (by decide) fl_Reader_62 (by decide) (by decide) s_3 rfl rfl ?_
      refine w_bipush (q := 132) (v := 105) d_Reader_read_130 rfl (by decide) ?_
      refine w_isub (q := 133) d_Reader_read_132 rfl ?_
      obtain ⟨v20, hv, h⟩ := bnd h
      refine w_callVv (q := 136) (M' := M_Reader_readEntry) (n' := 9) (k := 3) (As := [.int ((m0 3 6) - 105)]) (sh' := SH) (b1 := (0, 0)) d_Reader_read_133 rfl mw_Reader_readEntry (by decide) (by decide) ml_Reader_69 (by decide) s_3 (by decide) rfl rfl rfl (leb rfl) (bz _) (fun _ => rfl) (ok_Reader_readEntry hv) ?_
      refine w_goto (q := 189) d_Reader_read_136 rfl ?_
      refine w_aload_n (q := 190) d_Reader_read_189 rfl rfl ?_
      refine w_bipush (q := 192) (v := 59) d_Reader_read_190 rfl (by decide) ?_
      obtain ⟨v21, hv, h⟩ := bnd h
      refine w_callVv (q := 195) (M' := M_Reader_expect) (n' := 7) (k := 3) (As := [.int 59]) (sh' := SH) (b1 := (0, 0)) d_Reader_read_192 rfl mw_Reader_expect (by decide) (by decide) ml_Reader_81 (by decide) s_3 (by decide) rfl rfl rfl (leb rfl) (bz _) (fun _ => rfl) (ok_Reader_expect hv) ?_
      refine w_iinc (q := 198) (ls' := [some (.ref 3), none, some (.int (x2 + 1))]) d_Reader_read_195 rfl (by decide) rfl rfl rfl ?_
      refine w_goto (q := 53) d_Reader_read_198 rfl ?_
      cases h
      exact w_ls (by exact (And.intro rfl (And.intro rfl trivial))) hr
def st_Reader_read_53 (F : Nat) (p0 : Int32) (g : Mem) (s : Int32 × Mem) : Option ((Int32 × Mem) ⊕ ((Mem))) := if 700 ≤ s.1 then some (.inr s.2) else if (s.2 3 9) = 0 then if (s.2 3 6) = 1 then some (.inr s.2) else if (s.2 3 6) < 101 then sp_Reader_read_j107_53 F p0 g s.2 s.1 else if 104 < (s.2 3 6) then sp_Reader_read_j107_53 F p0 g s.2 s.1 else (sp_Reader_readMonk F ((s.2 3 6) - 101) s.2).bind fun v23 => (sp_Reader_expect F 59 v23).bind fun v24 => some (.inl (s.1 + 1, v24)) else some (.inr s.2)
theorem kl_Reader_read_53 {γ : GG} {tt : Bool} {F : Nat} {p0 : Int32} {g : Mem} {b : Nat × Nat} {Φ : PO} : ∀ (s : Int32 × Mem) (r : (Int32 × Mem) ⊕ ((Mem))), st_Reader_read_53 F p0 g s = some r → RQ (PL_Reader_read_53 γ tt p0 g b Φ) (QL_Reader_read_53 γ tt p0 g b Φ) r → PL_Reader_read_53 γ tt p0 g b Φ s := by
  intro s r h hr
  unfold st_Reader_read_53 at h
  unfold PL_Reader_read_53
  refine w_iload_n (q := 54) d_Reader_read_53 rfl rfl ?_
  refine w_sipush (q := 57) (v := 700) d_Reader_read_54 rfl (by decide) ?_
  by_cases c5 : 700 ≤ s.1
  · rw [if_pos c5] at h
    refine w_icmp_ge_t (q := 201) d_Reader_read_57 rfl c5 ?_
    cases h
    exact w_ls (by exact trivial) hr
  · rw [if_neg c5] at h
    refine w_icmp_ge_f (q := 60) d_Reader_read_57 201 rfl rfl c5 ?_
    refine w_aload_n (q := 61) d_Reader_read_60 rfl rfl ?_
    refine w_get (q := 64) (ci := 6) (j := 9) d_Reader_read_61 rfl (by decide) fl_Reader_47 (by decide) (by decide) s_3 rfl rfl ?_
    by_cases c6 : (s.2 3 9) = 0
    · rw [if_pos c6] at h
      refine w_if_ne_f (q := 67) d_Reader_read_64 201 rfl rfl c6 ?_
      refine w_aload_n (q := 68) d_Reader_read_67 rfl rfl ?_
      refine w_get (q := 71) (ci := 6) (j := 6) d_Reader_read_68 rfl (by decide) fl_Reader_62 (by decide) (by decide) s_3 rfl rfl ?_
      refine w_iconst (q := 72) (v := 1) d_Reader_read_71 rfl (by decide) ?_
      by_cases c7 : (s.2 3 6) = 1
      · rw [if_pos c7] at h
        refine w_icmp_eq_t (q := 201) d_Reader_read_72 rfl c7 ?_
        cases h
        exact w_ls (by exact trivial) hr
      · rw [if_neg c7] at h
        refine w_icmp_eq_f (q := 75) d_Reader_read_72 201 rfl rfl c7 ?_
        refine w_aload_n (q := 76) d_Reader_read_75 rfl rfl ?_
        refine w_get (q := 79) (ci := 6) (j := 6) d_Reader_read_76 rfl (by decide) fl_Reader_62 (by decide) (by decide) s_3 rfl rfl ?_
        refine w_bipush (q := 81) (v := 101) d_Reader_read_79 rfl (by decide) ?_
        by_cases c8 : (s.2 3 6) < 101
        · rw [if_pos c8] at h
          refine w_icmp_lt_t (q := 107) d_Reader_read_81 rfl c8 ?_
          refine w_ls (ls' := [some (.ref 3), none, some (.int s.1)]) (And.intro rfl (And.intro rfl trivial)) ?_
          exact ok_Reader_read_j107_53 h hr
        · rw [if_neg c8] at h
          refine w_icmp_lt_f (q := 84) d_Reader_read_81 107 rfl rfl c8 ?_
          refine w_aload_n (q := 85) d_Reader_read_84 rfl rfl ?_
          refine w_get (q := 88) (ci := 6) (j := 6) d_Reader_read_85 rfl (by decide) fl_Reader_62 (by decide) (by decide) s_3 rfl rfl ?_
          refine w_bipush (q := 90) (v := 104) d_Reader_read_88 rfl (by decide) ?_
          by_cases c22 : 104 < (s.2 3 6)
          · rw [if_pos c22] at h
            refine w_icmp_gt_t (q := 107) d_Reader_read_90 rfl c22 ?_
            refine w_ls (ls' := [some (.ref 3), none, some (.int s.1)]) (And.intro rfl (And.intro rfl trivial)) ?_
            exact ok_Reader_read_j107_53 h hr
          · rw [if_neg c22] at h
            refine w_icmp_gt_f (q := 93) d_Reader_read_90 107 rfl rfl c22 ?_
            refine w_aload_n (q := 94) d_Reader_read_93 rfl rfl ?_
            refine w_aload_n (q := 95) d_Reader_read_94 rfl rfl ?_
            refine w_get (q := 98) (ci := 6) (j := 6) d_Reader_read_95 rfl (by decide) fl_Reader_62 (by decide) (by decide) s_3 rfl rfl ?_
            refine w_bipush (q := 100) (v := 101) d_Reader_read_98 rfl (by decide) ?_
            refine w_isub (q := 101) d_Reader_read_100 rfl ?_
            obtain ⟨v23, hv, h⟩ := bnd h
            refine w_callVv (q := 104) (M' := M_Reader_readMonk) (n' := 9) (k := 3) (As := [.int ((s.2 3 6) - 101)]) (sh' := SH) (b1 := (0, 0)) d_Reader_read_101 rfl mw_Reader_readMonk (by decide) (by decide) ml_Reader_65 (by decide) s_3 (by decide) rfl rfl rfl (leb rfl) (bz _) (fun _ => rfl) (ok_Reader_readMonk hv) ?_
            refine w_goto (q := 189) d_Reader_read_104 rfl ?_
            refine w_aload_n (q := 190) d_Reader_read_189 rfl rfl ?_
            refine w_bipush (q := 192) (v := 59) d_Reader_read_190 rfl (by decide) ?_
            obtain ⟨v24, hv, h⟩ := bnd h
            refine w_callVv (q := 195) (M' := M_Reader_expect) (n' := 7) (k := 3) (As := [.int 59]) (sh' := SH) (b1 := (0, 0)) d_Reader_read_192 rfl mw_Reader_expect (by decide) (by decide) ml_Reader_81 (by decide) s_3 (by decide) rfl rfl rfl (leb rfl) (bz _) (fun _ => rfl) (ok_Reader_expect hv) ?_
            refine w_iinc (q := 198) (ls' := [some (.ref 3), none, some (.int (s.1 + 1))]) d_Reader_read_195 rfl (by decide) rfl rfl rfl ?_
            refine w_goto (q := 53) d_Reader_read_198 rfl ?_
            cases h
            exact w_ls (by exact (And.intro rfl (And.intro rfl trivial))) hr
    · rw [if_neg c6] at h
      refine w_if_ne_t (q := 201) d_Reader_read_64 rfl c6 ?_
      cases h
      exact w_ls (by exact trivial) hr
def sp_Reader_read (F : Nat) (p0 : Int32) (g : Mem) : Option (Mem) := (sp_JMath_min p0 (Int32.ofNat 700) g).bind fun v1 => (sp_Roll_clear 4 (mset (mset (mset (mset (mset g 3 3 v1) 3 5 0) 3 8 0) 3 9 0) 3 10 (-1))).bind fun v2 => (sp_Hair_begin F 12 4 v2).bind fun v3 => (sp_Reader_advance F v3).bind fun v4 => (lpO (st_Reader_read_53 F p0 g) F (0, v4)).bind fun x25 => some x25
theorem ok_Reader_read {γ : GG} {tt : Bool} {F : Nat} {p0 : Int32} {g : Mem} {res : Mem} (h : sp_Reader_read F p0 g = some res) : CA γ M_Reader_read 121 [.ref 3, .int p0] SH g tt (0, 0) (pV SH res tt) := by
  refine CA.of mw_Reader_read.1 1 rfl ?_
  show WA γ M_Reader_read 121 0 [some (.ref 3), some (.int p0), none] [] SH g tt (0, 0) (pV SH res tt)
  unfold sp_Reader_read at h
  refine w_aload_n (q := 1) d_Reader_read_0 rfl rfl ?_
  refine w_iload_n (q := 2) d_Reader_read_1 rfl rfl ?_
  refine w_aload_n (q := 3) d_Reader_read_2 rfl rfl ?_
  refine w_get (q := 6) (ci := 6) (j := 2) d_Reader_read_3 rfl (by decide) fl_Reader_27 (by decide) (by decide) s_3 rfl rfl ?_
  refine w_alen (q := 7) d_Reader_read_6 rfl a_1.2 a_1.1 (Or.inl ⟨rfl, Or.inr rfl⟩) rfl ?_
  obtain ⟨v1, hv, h⟩ := bnd h
  refine w_callSi (q := 10) (M' := M_JMath_min) (n' := 0) (As := [.int p0, .int (Int32.ofNat 700)]) (sh' := SH) (b1 := (0, 0)) d_Reader_read_7 rfl mw_JMath_min (by decide) (by decide) ml_Reader_31 rfl rfl (leb rfl) (bz _) (fun _ => rfl) (ok_JMath_min hv) ?_
  refine w_put (q := 13) (ci := 6) (j := 3) d_Reader_read_10 rfl (by decide) fl_Reader_37 (by decide) (by decide) s_3 rfl rfl rfl rfl rfl rfl ?_
  refine w_aload_n (q := 14) d_Reader_read_13 rfl rfl ?_
  refine w_iconst (q := 15) (v := 0) d_Reader_read_14 rfl (by decide) ?_
  refine w_put (q := 18) (ci := 6) (j := 5) d_Reader_read_15 rfl (by decide) fl_Reader_41 (by decide) (by decide) s_3 rfl rfl rfl rfl rfl rfl ?_
  refine w_aload_n (q := 19) d_Reader_read_18 rfl rfl ?_
  refine w_iconst (q := 20) (v := 0) d_Reader_read_19 rfl (by decide) ?_
  refine w_put (q := 23) (ci := 6) (j := 8) d_Reader_read_20 rfl (by decide) fl_Reader_44 (by decide) (by decide) s_3 rfl rfl rfl rfl rfl rfl ?_
  refine w_aload_n (q := 24) d_Reader_read_23 rfl rfl ?_
  refine w_iconst (q := 25) (v := 0) d_Reader_read_24 rfl (by decide) ?_
  refine w_put (q := 28) (ci := 6) (j := 9) d_Reader_read_25 rfl (by decide) fl_Reader_47 (by decide) (by decide) s_3 rfl rfl rfl rfl rfl rfl ?_
  refine w_aload_n (q := 29) d_Reader_read_28 rfl rfl ?_
  refine w_iconst (q := 30) (v := (-1)) d_Reader_read_29 rfl (by decide) ?_
  refine w_put (q := 33) (ci := 6) (j := 10) d_Reader_read_30 rfl (by decide) fl_Reader_50 (by decide) (by decide) s_3 rfl rfl rfl rfl rfl rfl ?_
  refine w_aload_n (q := 34) d_Reader_read_33 rfl rfl ?_
  refine w_get (q := 37) (ci := 6) (j := 0) d_Reader_read_34 rfl (by decide) fl_Reader_12 (by decide) (by decide) s_3 rfl rfl ?_
  obtain ⟨v2, hv, h⟩ := bnd h
  refine w_callVv (q := 40) (M' := M_Roll_clear) (n' := 1) (k := 4) (As := []) (sh' := SH) (b1 := (0, 0)) d_Reader_read_37 rfl mw_Roll_clear (by decide) (by decide) ml_Reader_53 i_4.2.1 i_4.1 (by decide) rfl rfl rfl (leb rfl) (bz _) (fun _ => rfl) (ok_Roll_clear i_4 hv) ?_
  refine w_aload_n (q := 41) d_Reader_read_40 rfl rfl ?_
  refine w_get (q := 44) (ci := 6) (j := 1) d_Reader_read_41 rfl (by decide) fl_Reader_23 (by decide) (by decide) s_3 rfl rfl ?_
  obtain ⟨v3, hv, h⟩ := bnd h
  refine w_callVv (q := 47) (M' := M_Hair_begin) (n' := 1) (k := 12) (As := []) (sh' := SH) (b1 := (0, 0)) d_Reader_read_44 rfl mw_Hair_begin (by decide) (by decide) ml_Reader_56 i_12.2.1 i_12.1 (by decide) rfl rfl rfl (leb rfl) (bz _) (fun _ => rfl) (ok_Hair_begin i_12 hv) ?_
  refine w_aload_n (q := 48) d_Reader_read_47 rfl rfl ?_
  obtain ⟨v4, hv, h⟩ := bnd h
  refine w_callVv (q := 51) (M' := M_Reader_advance) (n' := 6) (k := 3) (As := []) (sh' := SH) (b1 := (0, 0)) d_Reader_read_48 rfl mw_Reader_advance (by decide) (by decide) ml_Reader_59 (by decide) s_3 (by decide) rfl rfl rfl (leb rfl) (bz _) (fun _ => rfl) (ok_Reader_advance hv) ?_
  refine w_iconst (q := 52) (v := 0) d_Reader_read_51 rfl (by decide) ?_
  refine w_istore_n (q := 53) (ls' := [some (.ref 3), some (.int p0), some (.int 0)]) d_Reader_read_52 rfl (by decide) rfl rfl ?_
  obtain ⟨x25, hx, h⟩ := bnd h
  refine w_ls (ls' := [some (.ref 3), none, some (.int 0)]) (And.intro rfl (And.intro rfl trivial)) ?_
  show PL_Reader_read_53 γ tt p0 g _ _ (0, v4)
  refine lp_ok (kl_Reader_read_53) F _ x25 hx ?_
  unfold QL_Reader_read_53
  cases h
  exact w_return d_Reader_read_201 rfl ⟨rfl, rfl, rfl, rfl⟩
