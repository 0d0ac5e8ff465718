/-! functions and theorems of 26.model1 (by program: wip/gen/main.py) -/
def sp_Model_byteAt (p0 : Int32) (g : Mem) : Option (Int32) := if (g 54 14) ≤ p0 then some (-1) else (rd g 65 700 p0).bind fun v2 => some v2
theorem ok_Model_byteAt {γ : GG} {tt : Bool} {p0 : Int32} {g : Mem} {res : Int32} (h : sp_Model_byteAt p0 g = some res) : CA γ M_Model_byteAt 0 [.ref 54, .int p0] SH g tt (0, 0) (pI SH res g tt) := by
  refine CA.of mw_Model_byteAt.1 0 rfl ?_
  show WA γ M_Model_byteAt 0 0 [some (.ref 54), some (.int p0)] [] SH g tt (0, 0) (pI SH res g tt)
  unfold sp_Model_byteAt at h
  refine w_iload_n (q := 1) d_Model_byteAt_0 rfl rfl ?_
  refine w_aload_n (q := 2) d_Model_byteAt_1 rfl rfl ?_
  refine w_get (q := 5) (ci := 12) (j := 14) d_Model_byteAt_2 rfl (by decide) fl_Model_129 (by decide) (by decide) s_54 rfl rfl ?_
  by_cases c1 : (g 54 14) ≤ p0
  · rw [if_pos c1] at h
    refine w_icmp_ge_t (q := 17) d_Model_byteAt_5 rfl c1 ?_
    refine w_iconst (q := 18) (v := (-1)) d_Model_byteAt_17 rfl (by decide) ?_
    cases h
    exact w_ireturn d_Model_byteAt_18 rfl rfl ⟨rfl, rfl, rfl, rfl⟩
  · rw [if_neg c1] at h
    refine w_icmp_ge_f (q := 8) d_Model_byteAt_5 17 rfl rfl c1 ?_
    refine w_aload_n (q := 9) d_Model_byteAt_8 rfl rfl ?_
    refine w_get (q := 12) (ci := 12) (j := 11) d_Model_byteAt_9 rfl (by decide) fl_Model_71 (by decide) (by decide) s_54 rfl rfl ?_
    refine w_iload_n (q := 13) d_Model_byteAt_12 rfl rfl ?_
    obtain ⟨v2, hv, h⟩ := bnd h
    obtain ⟨hi, hv⟩ := rd_ok hv
    refine w_iald (q := 14) (t := 0) d_Model_byteAt_13 rfl a_65.2 a_65.1 hi rfl ?_
    rw [hv]
    refine w_goto (q := 18) d_Model_byteAt_14 rfl ?_
    cases h
    exact w_ireturn d_Model_byteAt_18 rfl rfl ⟨rfl, rfl, rfl, rfl⟩
def sp_Model_isLetter (p0 : Int32) (g : Mem) : Option (Int32) := if p0 < 97 then some 0 else if 122 < p0 then some 0 else some 1
theorem ok_Model_isLetter {γ : GG} {sh : List Sh} {tt : Bool} {p0 : Int32} {g : Mem} {res : Int32} (h : sp_Model_isLetter p0 g = some res) : CA γ M_Model_isLetter 0 [.int p0] sh g tt (0, 0) (pI sh res g tt) := by
  refine CA.of mw_Model_isLetter.1 0 rfl ?_
  show WA γ M_Model_isLetter 0 0 [some (.int p0)] [] sh g tt (0, 0) (pI sh res g tt)
  unfold sp_Model_isLetter at h
  refine w_iload_n (q := 1) d_Model_isLetter_0 rfl rfl ?_
  refine w_bipush (q := 3) (v := 97) d_Model_isLetter_1 rfl (by decide) ?_
  by_cases c1 : p0 < 97
  · rw [if_pos c1] at h
    refine w_icmp_lt_t (q := 16) d_Model_isLetter_3 rfl c1 ?_
    refine w_iconst (q := 17) (v := 0) d_Model_isLetter_16 rfl (by decide) ?_
    cases h
    exact w_ireturn d_Model_isLetter_17 rfl rfl ⟨rfl, rfl, rfl, rfl⟩
  · rw [if_neg c1] at h
    refine w_icmp_lt_f (q := 6) d_Model_isLetter_3 16 rfl rfl c1 ?_
    refine w_iload_n (q := 7) d_Model_isLetter_6 rfl rfl ?_
    refine w_bipush (q := 9) (v := 122) d_Model_isLetter_7 rfl (by decide) ?_
    by_cases c2 : 122 < p0
    · rw [if_pos c2] at h
      refine w_icmp_gt_t (q := 16) d_Model_isLetter_9 rfl c2 ?_
      refine w_iconst (q := 17) (v := 0) d_Model_isLetter_16 rfl (by decide) ?_
      cases h
      exact w_ireturn d_Model_isLetter_17 rfl rfl ⟨rfl, rfl, rfl, rfl⟩
    · rw [if_neg c2] at h
      refine w_icmp_gt_f (q := 12) d_Model_isLetter_9 16 rfl rfl c2 ?_
      refine w_iconst (q := 13) (v := 1) d_Model_isLetter_12 rfl (by decide) ?_
      refine w_goto (q := 17) d_Model_isLetter_13 rfl ?_
      cases h
      exact w_ireturn d_Model_isLetter_17 rfl rfl ⟨rfl, rfl, rfl, rfl⟩
def sp_Model_isDigit (p0 : Int32) (g : Mem) : Option (Int32) := if p0 < 48 then some 0 else if 57 < p0 then some 0 else some 1
theorem ok_Model_isDigit {γ : GG} {sh : List Sh} {tt : Bool} {p0 : Int32} {g : Mem} {res : Int32} (h : sp_Model_isDigit p0 g = some res) : CA γ M_Model_isDigit 0 [.int p0] sh g tt (0, 0) (pI sh res g tt) := by
  refine CA.of mw_Model_isDigit.1 0 rfl ?_
  show WA γ M_Model_isDigit 0 0 [some (.int p0)] [] sh g tt (0, 0) (pI sh res g tt)
  unfold sp_Model_isDigit at h
  refine w_iload_n (q := 1) d_Model_isDigit_0 rfl rfl ?_
  refine w_bipush (q := 3) (v := 48) d_Model_isDigit_1 rfl (by decide) ?_
  by_cases c1 : p0 < 48
  · rw [if_pos c1] at h
    refine w_icmp_lt_t (q := 16) d_Model_isDigit_3 rfl c1 ?_
    refine w_iconst (q := 17) (v := 0) d_Model_isDigit_16 rfl (by decide) ?_
    cases h
    exact w_ireturn d_Model_isDigit_17 rfl rfl ⟨rfl, rfl, rfl, rfl⟩
  · rw [if_neg c1] at h
    refine w_icmp_lt_f (q := 6) d_Model_isDigit_3 16 rfl rfl c1 ?_
    refine w_iload_n (q := 7) d_Model_isDigit_6 rfl rfl ?_
    refine w_bipush (q := 9) (v := 57) d_Model_isDigit_7 rfl (by decide) ?_
    by_cases c2 : 57 < p0
    · rw [if_pos c2] at h
      refine w_icmp_gt_t (q := 16) d_Model_isDigit_9 rfl c2 ?_
      refine w_iconst (q := 17) (v := 0) d_Model_isDigit_16 rfl (by decide) ?_
      cases h
      exact w_ireturn d_Model_isDigit_17 rfl rfl ⟨rfl, rfl, rfl, rfl⟩
    · rw [if_neg c2] at h
      refine w_icmp_gt_f (q := 12) d_Model_isDigit_9 16 rfl rfl c2 ?_
      refine w_iconst (q := 13) (v := 1) d_Model_isDigit_12 rfl (by decide) ?_
      refine w_goto (q := 17) d_Model_isDigit_13 rfl ?_
      cases h
      exact w_ireturn d_Model_isDigit_17 rfl rfl ⟨rfl, rfl, rfl, rfl⟩
def sp_Model_isMark (p0 : Int32) (g : Mem) : Option (Int32) := if p0 = 59 then some 1 else if p0 = 40 then some 1 else if p0 = 41 then some 1 else if p0 = 43 then some 1 else if p0 = 45 then some 1 else if p0 = 42 then some 1 else if p0 = 47 then some 1 else if p0 = 60 then some 1 else if p0 = 61 then some 1 else some 0
theorem ok_Model_isMark {γ : GG} {sh : List Sh} {tt : Bool} {p0 : Int32} {g : Mem} {res : Int32} (h : sp_Model_isMark p0 g = some res) : CA γ M_Model_isMark 0 [.int p0] sh g tt (0, 0) (pI sh res g tt) := by
  refine CA.of mw_Model_isMark.1 0 rfl ?_
  show WA γ M_Model_isMark 0 0 [some (.int p0)] [] sh g tt (0, 0) (pI sh res g tt)
  unfold sp_Model_isMark at h
  refine w_iload_n (q := 1) d_Model_isMark_0 rfl rfl ?_
  refine w_bipush (q := 3) (v := 59) d_Model_isMark_1 rfl (by decide) ?_
  by_cases c1 : p0 = 59
  · rw [if_pos c1] at h
    refine w_icmp_eq_t (q := 54) d_Model_isMark_3 rfl c1 ?_
    refine w_iconst (q := 55) (v := 1) d_Model_isMark_54 rfl (by decide) ?_
    refine w_goto (q := 59) d_Model_isMark_55 rfl ?_
    cases h
    exact w_ireturn d_Model_isMark_59 rfl rfl ⟨rfl, rfl, rfl, rfl⟩
  · rw [if_neg c1] at h
    refine w_icmp_eq_f (q := 6) d_Model_isMark_3 54 rfl rfl c1 ?_
    refine w_iload_n (q := 7) d_Model_isMark_6 rfl rfl ?_
    refine w_bipush (q := 9) (v := 40) d_Model_isMark_7 rfl (by decide) ?_
    by_cases c2 : p0 = 40
    · rw [if_pos c2] at h
      refine w_icmp_eq_t (q := 54) d_Model_isMark_9 rfl c2 ?_
      refine w_iconst (q := 55) (v := 1) d_Model_isMark_54 rfl (by decide) ?_
      refine w_goto (q := 59) d_Model_isMark_55 rfl ?_
      cases h
      exact w_ireturn d_Model_isMark_59 rfl rfl ⟨rfl, rfl, rfl, rfl⟩
    · rw [if_neg c2] at h
      refine w_icmp_eq_f (q := 12) d_Model_isMark_9 54 rfl rfl c2 ?_
      refine w_iload_n (q := 13) d_Model_isMark_12 rfl rfl ?_
      refine w_bipush (q := 15) (v := 41) d_Model_isMark_13 rfl (by decide) ?_
      by_cases c3 : p0 = 41
      · rw [if_pos c3] at h
        refine w_icmp_eq_t (q := 54) d_Model_isMark_15 rfl c3 ?_
        refine w_iconst (q := 55) (v := 1) d_Model_isMark_54 rfl (by decide) ?_
        refine w_goto (q := 59) d_Model_isMark_55 rfl ?_
        cases h
        exact w_ireturn d_Model_isMark_59 rfl rfl ⟨rfl, rfl, rfl, rfl⟩
      · rw [if_neg c3] at h
        refine w_icmp_eq_f (q := 18) d_Model_isMark_15 54 rfl rfl c3 ?_
        refine w_iload_n (q := 19) d_Model_isMark_18 rfl rfl ?_
        refine w_bipush (q := 21) (v := 43) d_Model_isMark_19 rfl (by decide) ?_
        by_cases c4 : p0 = 43
        · rw [if_pos c4] at h
          refine w_icmp_eq_t (q := 54) d_Model_isMark_21 rfl c4 ?_
          refine w_iconst (q := 55) (v := 1) d_Model_isMark_54 rfl (by decide) ?_
          refine w_goto (q := 59) d_Model_isMark_55 rfl ?_
          cases h
          exact w_ireturn d_Model_isMark_59 rfl rfl ⟨rfl, rfl, rfl, rfl⟩
        · rw [if_neg c4] at h
          refine w_icmp_eq_f (q := 24) d_Model_isMark_21 54 rfl rfl c4 ?_
          refine w_iload_n (q := 25) d_Model_isMark_24 rfl rfl ?_
          refine w_bipush (q := 27) (v := 45) d_Model_isMark_25 rfl (by decide) ?_
          by_cases c5 : p0 = 45
          · rw [if_pos c5] at h
            refine w_icmp_eq_t (q := 54) d_Model_isMark_27 rfl c5 ?_
            refine w_iconst (q := 55) (v := 1) d_Model_isMark_54 rfl (by decide) ?_
            refine w_goto (q := 59) d_Model_isMark_55 rfl ?_
            cases h
            exact w_ireturn d_Model_isMark_59 rfl rfl ⟨rfl, rfl, rfl, rfl⟩
          · rw [if_neg c5] at h
            refine w_icmp_eq_f (q := 30) d_Model_isMark_27 54 rfl rfl c5 ?_
            refine w_iload_n (q := 31) d_Model_isMark_30 rfl rfl ?_
            refine w_bipush (q := 33) (v := 42) d_Model_isMark_31 rfl (by decide) ?_
            by_cases c6 : p0 = 42
            · rw [if_pos c6] at h
              refine w_icmp_eq_t (q := 54) d_Model_isMark_33 rfl c6 ?_
              refine w_iconst (q := 55) (v := 1) d_Model_isMark_54 rfl (by decide) ?_
              refine w_goto (q := 59) d_Model_isMark_55 rfl ?_
              cases h
              exact w_ireturn d_Model_isMark_59 rfl rfl ⟨rfl, rfl, rfl, rfl⟩
            · rw [if_neg c6] at h
              refine w_icmp_eq_f (q := 36) d_Model_isMark_33 54 rfl rfl c6 ?_
              refine w_iload_n (q := 37) d_Model_isMark_36 rfl rfl ?_
              refine w_bipush (q := 39) (v := 47) d_Model_isMark_37 rfl (by decide) ?_
              by_cases c7 : p0 = 47
              · rw [if_pos c7] at h
                refine w_icmp_eq_t (q := 54) d_Model_isMark_39 rfl c7 ?_
                refine w_iconst (q := 55) (v := 1) d_Model_isMark_54 rfl (by decide) ?_
                refine w_goto (q := 59) d_Model_isMark_55 rfl ?_
                cases h
                exact w_ireturn d_Model_isMark_59 rfl rfl ⟨rfl, rfl, rfl, rfl⟩
              · rw [if_neg c7] at h
                refine w_icmp_eq_f (q := 42) d_Model_isMark_39 54 rfl rfl c7 ?_
                refine w_iload_n (q := 43) d_Model_isMark_42 rfl rfl ?_
                refine w_bipush (q := 45) (v := 60) d_Model_isMark_43 rfl (by decide) ?_
                by_cases c8 : p0 = 60
                · rw [if_pos c8] at h
                  refine w_icmp_eq_t (q := 54) d_Model_isMark_45 rfl c8 ?_
                  refine w_iconst (q := 55) (v := 1) d_Model_isMark_54 rfl (by decide) ?_
                  refine w_goto (q := 59) d_Model_isMark_55 rfl ?_
                  cases h
                  exact w_ireturn d_Model_isMark_59 rfl rfl ⟨rfl, rfl, rfl, rfl⟩
                · rw [if_neg c8] at h
                  refine w_icmp_eq_f (q := 48) d_Model_isMark_45 54 rfl rfl c8 ?_
                  refine w_iload_n (q := 49) d_Model_isMark_48 rfl rfl ?_
                  refine w_bipush (q := 51) (v := 61) d_Model_isMark_49 rfl (by decide) ?_
                  by_cases c9 : p0 = 61
                  · rw [if_pos c9] at h
                    refine w_icmp_ne_f (q := 54) d_Model_isMark_51 58 rfl rfl c9 ?_
                    refine w_iconst (q := 55) (v := 1) d_Model_isMark_54 rfl (by decide) ?_
                    refine w_goto (q := 59) d_Model_isMark_55 rfl ?_
                    cases h
                    exact w_ireturn d_Model_isMark_59 rfl rfl ⟨rfl, rfl, rfl, rfl⟩
                  · rw [if_neg c9] at h
                    refine w_icmp_ne_t (q := 58) d_Model_isMark_51 rfl c9 ?_
                    refine w_iconst (q := 59) (v := 0) d_Model_isMark_58 rfl (by decide) ?_
                    cases h
                    exact w_ireturn d_Model_isMark_59 rfl rfl ⟨rfl, rfl, rfl, rfl⟩
def PL_Model_stepOn_0 (γ : GG) (tt : Bool) (g : Mem) (b : Nat × Nat) (Φ : PO) (s : Mem) : Prop := WA γ M_Model_stepOn 1 0 [some (.ref 54), none] [] SH s tt b Φ
def QL_Model_stepOn_0 (γ : GG) (tt : Bool) (g : Mem) (b : Nat × Nat) (Φ : PO) (x : (Mem)) : Prop := WA γ M_Model_stepOn 1 39 [some (.ref 54), none] [] SH x tt b Φ
def st_Model_stepOn_0 (F : Nat) (g : Mem) (s : Mem) : Option ((Mem) ⊕ ((Mem))) := (sp_Model_byteAt (s 54 13) s).bind fun v1 => if v1 = 32 then some (.inl (mset s 54 13 ((s 54 13) + 1))) else (sp_Model_byteAt (s 54 13) s).bind fun v3 => if v3 = 10 then some (.inl (mset s 54 13 ((s 54 13) + 1))) else some (.inr s)
theorem kl_Model_stepOn_0 {γ : GG} {tt : Bool} {F : Nat} {g : Mem} {b : Nat × Nat} {Φ : PO} : ∀ (s : Mem) (r : (Mem) ⊕ ((Mem))), st_Model_stepOn_0 F g s = some r → RQ (PL_Model_stepOn_0 γ tt g b Φ) (QL_Model_stepOn_0 γ tt g b Φ) r → PL_Model_stepOn_0 γ tt g b Φ s := by
  intro s r h hr
  unfold st_Model_stepOn_0 at h
  unfold PL_Model_stepOn_0
  refine w_aload_n (q := 1) d_Model_stepOn_0 rfl rfl ?_
  refine w_aload_n (q := 2) d_Model_stepOn_1 rfl rfl ?_
  refine w_get (q := 5) (ci := 12) (j := 13) d_Model_stepOn_2 rfl (by decide) fl_Model_132 (by decide) (by decide) s_54 rfl rfl ?_
  obtain ⟨v1, hv, h⟩ := bnd h
  refine w_callVi (q := 8) (M' := M_Model_byteAt) (n' := 0) (k := 54) (As := [.int (s 54 13)]) (sh' := SH) (b1 := (0, 0)) d_Model_stepOn_5 rfl mw_Model_byteAt (by decide) (by decide) ml_Model_135 (by decide) s_54 (by decide) rfl rfl rfl (leb rfl) (bz _) (fun _ => rfl) (ok_Model_byteAt hv) ?_
  refine w_bipush (q := 10) (v := 32) d_Model_stepOn_8 rfl (by decide) ?_
  by_cases c2 : v1 = 32
  · rw [if_pos c2] at h
    refine w_icmp_eq_t (q := 26) d_Model_stepOn_10 rfl c2 ?_
    refine w_aload_n (q := 27) d_Model_stepOn_26 rfl rfl ?_
    refine w_dup (q := 28) d_Model_stepOn_27 rfl rfl ?_
    refine w_get (q := 31) (ci := 12) (j := 13) d_Model_stepOn_28 rfl (by decide) fl_Model_132 (by decide) (by decide) s_54 rfl rfl ?_
    refine w_iconst (q := 32) (v := 1) d_Model_stepOn_31 rfl (by decide) ?_
    refine w_iadd (q := 33) d_Model_stepOn_32 rfl ?_
    refine w_put (q := 36) (ci := 12) (j := 13) d_Model_stepOn_33 rfl (by decide) fl_Model_132 (by decide) (by decide) s_54 rfl rfl rfl rfl rfl rfl ?_
    refine w_goto (q := 0) d_Model_stepOn_36 rfl ?_
    cases h
    exact w_ls (by exact (And.intro rfl trivial)) hr
  · rw [if_neg c2] at h
    refine w_icmp_eq_f (q := 13) d_Model_stepOn_10 26 rfl rfl c2 ?_
    refine w_aload_n (q := 14) d_Model_stepOn_13 rfl rfl ?_
    refine w_aload_n (q := 15) d_Model_stepOn_14 rfl rfl ?_
    refine w_get (q := 18) (ci := 12) (j := 13) d_Model_stepOn_15 rfl (by decide) fl_Model_132 (by decide) (by decide) s_54 rfl rfl ?_
    obtain ⟨v3, hv, h⟩ := bnd h
    refine w_callVi (q := 21) (M' := M_Model_byteAt) (n' := 0) (k := 54) (As := [.int (s 54 13)]) (sh' := SH) (b1 := (0, 0)) d_Model_stepOn_18 rfl mw_Model_byteAt (by decide) (by decide) ml_Model_135 (by decide) s_54 (by decide) rfl rfl rfl (leb rfl) (bz _) (fun _ => rfl) (ok_Model_byteAt hv) ?_
    refine w_bipush (q := 23) (v := 10) d_Model_stepOn_21 rfl (by decide) ?_
    by_cases c4 : v3 = 10
    · rw [if_pos c4] at h
      refine w_icmp_ne_f (q := 26) d_Model_stepOn_23 39 rfl rfl c4 ?_
      refine w_aload_n (q := 27) d_Model_stepOn_26 rfl rfl ?_
      refine w_dup (q := 28) d_Model_stepOn_27 rfl rfl ?_
      refine w_get (q := 31) (ci := 12) (j := 13) d_Model_stepOn_28 rfl (by decide) fl_Model_132 (by decide) (by decide) s_54 rfl rfl ?_
      refine w_iconst (q := 32) (v := 1) d_Model_stepOn_31 rfl (by decide) ?_
      refine w_iadd (q := 33) d_Model_stepOn_32 rfl ?_
      refine w_put (q := 36) (ci := 12) (j := 13) d_Model_stepOn_33 rfl (by decide) fl_Model_132 (by decide) (by decide) s_54 rfl rfl rfl rfl rfl rfl ?_
      refine w_goto (q := 0) d_Model_stepOn_36 rfl ?_
      cases h
      exact w_ls (by exact (And.intro rfl trivial)) hr
    · rw [if_neg c4] at h
      refine w_icmp_ne_t (q := 39) d_Model_stepOn_23 rfl c4 ?_
      cases h
      exact w_ls (by exact (And.intro rfl trivial)) hr
def PL_Model_stepOn_123 (γ : GG) (tt : Bool) (g : Mem) (b : Nat × Nat) (Φ : PO) (s : Mem) : Prop := WA γ M_Model_stepOn 1 123 [some (.ref 54), none] [] SH s tt b Φ
def QL_Model_stepOn_123 (γ : GG) (tt : Bool) (g : Mem) (b : Nat × Nat) (Φ : PO) (x : (Mem)) : Prop := WA γ M_Model_stepOn 1 178 [some (.ref 54), none] [] SH x tt b Φ
def st_Model_stepOn_123 (F : Nat) (g : Mem) (s : Mem) : Option ((Mem) ⊕ ((Mem))) := (sp_Model_byteAt (s 54 13) s).bind fun v14 => (sp_Model_isDigit v14 s).bind fun v15 => if v15 = 0 then some (.inr s) else (sp_Model_byteAt (s 54 13) s).bind fun v17 => (sp_JMath_min 100000 (((10 * (s 54 16)) + v17) - 48) s).bind fun v18 => some (.inl (mset (mset s 54 16 v18) 54 13 (((mset s 54 16 v18) 54 13) + 1)))
theorem kl_Model_stepOn_123 {γ : GG} {tt : Bool} {F : Nat} {g : Mem} {b : Nat × Nat} {Φ : PO} : ∀ (s : Mem) (r : (Mem) ⊕ ((Mem))), st_Model_stepOn_123 F g s = some r → RQ (PL_Model_stepOn_123 γ tt g b Φ) (QL_Model_stepOn_123 γ tt g b Φ) r → PL_Model_stepOn_123 γ tt g b Φ s := by
  intro s r h hr
  unfold st_Model_stepOn_123 at h
  unfold PL_Model_stepOn_123
  refine w_aload_n (q := 124) d_Model_stepOn_123 rfl rfl ?_
  refine w_aload_n (q := 125) d_Model_stepOn_124 rfl rfl ?_
  refine w_get (q := 128) (ci := 12) (j := 13) d_Model_stepOn_125 rfl (by decide) fl_Model_132 (by decide) (by decide) s_54 rfl rfl ?_
  obtain ⟨v14, hv, h⟩ := bnd h
  refine w_callVi (q := 131) (M' := M_Model_byteAt) (n' := 0) (k := 54) (As := [.int (s 54 13)]) (sh' := SH) (b1 := (0, 0)) d_Model_stepOn_128 rfl mw_Model_byteAt (by decide) (by decide) ml_Model_135 (by decide) s_54 (by decide) rfl rfl rfl (leb rfl) (bz _) (fun _ => rfl) (ok_Model_byteAt hv) ?_
  obtain ⟨v15, hv, h⟩ := bnd h
  refine w_callSi (q := 134) (M' := M_Model_isDigit) (n' := 0) (As := [.int v14]) (sh' := SH) (b1 := (0, 0)) d_Model_stepOn_131 rfl mw_Model_isDigit (by decide) (by decide) ml_Model_149 rfl rfl (leb rfl) (bz _) (fun _ => rfl) (ok_Model_isDigit hv) ?_
  by_cases c16 : v15 = 0
  · rw [if_pos c16] at h
    refine w_if_eq_t (q := 178) d_Model_stepOn_134 rfl c16 ?_
    cases h
    exact w_ls (by exact (And.intro rfl trivial)) hr
  · rw [if_neg c16] at h
    refine w_if_eq_f (q := 137) d_Model_stepOn_134 178 rfl rfl c16 ?_
    refine w_aload_n (q := 138) d_Model_stepOn_137 rfl rfl ?_
    refine w_ldc (q := 140) d_Model_stepOn_138 rfl co_Model_155 ?_
    refine w_bipush (q := 142) (v := 10) d_Model_stepOn_140 rfl (by decide) ?_
    refine w_aload_n (q := 143) d_Model_stepOn_142 rfl rfl ?_
    refine w_get (q := 146) (ci := 12) (j := 16) d_Model_stepOn_143 rfl (by decide) fl_Model_152 (by decide) (by decide) s_54 rfl rfl ?_
    refine w_imul (q := 147) d_Model_stepOn_146 rfl ?_
    refine w_aload_n (q := 148) d_Model_stepOn_147 rfl rfl ?_
    refine w_aload_n (q := 149) d_Model_stepOn_148 rfl rfl ?_
    refine w_get (q := 152) (ci := 12) (j := 13) d_Model_stepOn_149 rfl (by decide) fl_Model_132 (by decide) (by decide) s_54 rfl rfl ?_
    obtain ⟨v17, hv, h⟩ := bnd h
    refine w_callVi (q := 155) (M' := M_Model_byteAt) (n' := 0) (k := 54) (As := [.int (s 54 13)]) (sh' := SH) (b1 := (0, 0)) d_Model_stepOn_152 rfl mw_Model_byteAt (by decide) (by decide) ml_Model_135 (by decide) s_54 (by decide) rfl rfl rfl (leb rfl) (bz _) (fun _ => rfl) (ok_Model_byteAt hv) ?_
    refine w_iadd (q := 156) d_Model_stepOn_155 rfl ?_
    refine w_bipush (q := 158) (v := 48) d_Model_stepOn_156 rfl (by decide) ?_
    refine w_isub (q := 159) d_Model_stepOn_158 rfl ?_
    obtain ⟨v18, hv, h⟩ := bnd h
    refine w_callSi (q := 162) (M' := M_JMath_min) (n' := 0) (As := [.int 100000, .int (((10 * (s 54 16)) + v17) - 48)]) (sh' := SH) (b1 := (0, 0)) d_Model_stepOn_159 rfl mw_JMath_min (by decide) (by decide) ml_Model_156 rfl rfl (leb rfl) (bz _) (fun _ => rfl) (ok_JMath_min hv) ?_
    refine w_put (q := 165) (ci := 12) (j := 16) d_Model_stepOn_162 rfl (by decide) fl_Model_152 (by decide) (by decide) s_54 rfl rfl rfl rfl rfl rfl ?_
    refine w_aload_n (q := 166) d_Model_stepOn_165 rfl rfl ?_
    refine w_dup (q := 167) d_Model_stepOn_166 rfl rfl ?_
    refine w_get (q := 170) (ci := 12) (j := 13) d_Model_stepOn_167 rfl (by decide) fl_Model_132 (by decide) (by decide) s_54 rfl rfl ?_
    refine w_iconst (q := 171) (v := 1) d_Model_stepOn_170 rfl (by decide) ?_
    refine w_iadd (q := 172) d_Model_stepOn_171 rfl ?_
    refine w_put (q := 175) (ci := 12) (j := 13) d_Model_stepOn_172 rfl (by decide) fl_Model_132 (by decide) (by decide) s_54 rfl rfl rfl rfl rfl rfl ?_
    refine w_goto (q := 123) d_Model_stepOn_175 rfl ?_
    cases h
    exact w_ls (by exact (And.intro rfl trivial)) hr
def PL_Model_stepOn_76 (γ : GG) (tt : Bool) (g : Mem) (b : Nat × Nat) (Φ : PO) (s : Mem) : Prop := WA γ M_Model_stepOn 1 76 [some (.ref 54), none] [] SH s tt b Φ
def QL_Model_stepOn_76 (γ : GG) (tt : Bool) (g : Mem) (b : Nat × Nat) (Φ : PO) (x : (Mem)) : Prop := WA γ M_Model_stepOn 1 103 [some (.ref 54), none] [] SH x tt b Φ
def st_Model_stepOn_76 (F : Nat) (g : Mem) (s : Mem) : Option ((Mem) ⊕ ((Mem))) := (sp_Model_byteAt (s 54 13) s).bind fun v20 => (sp_Model_isLetter v20 s).bind fun v21 => if v21 = 0 then some (.inr s) else some (.inl (mset s 54 13 ((s 54 13) + 1)))
theorem kl_Model_stepOn_76 {γ : GG} {tt : Bool} {F : Nat} {g : Mem} {b : Nat × Nat} {Φ : PO} : ∀ (s : Mem) (r : (Mem) ⊕ ((Mem))), st_Model_stepOn_76 F g s = some r → RQ (PL_Model_stepOn_76 γ tt g b Φ) (QL_Model_stepOn_76 γ tt g b Φ) r → PL_Model_stepOn_76 γ tt g b Φ s := by
  intro s r h hr
  unfold st_Model_stepOn_76 at h
  unfold PL_Model_stepOn_76
  refine w_aload_n (q := 77) d_Model_stepOn_76 rfl rfl ?_
  refine w_aload_n (q := 78) d_Model_stepOn_77 rfl rfl ?_
  refine w_get (q := 81) (ci := 12) (j := 13) d_Model_stepOn_78 rfl (by decide) fl_Model_132 (by decide) (by decide) s_54 rfl rfl ?_
  obtain ⟨v20, hv, h⟩ := bnd h
  refine w_callVi (q := 84) (M' := M_Model_byteAt) (n' := 0) (k := 54) (As := [.int (s 54 13)]) (sh' := SH) (b1 := (0, 0)) d_Model_stepOn_81 rfl mw_Model_byteAt (by decide) (by decide) ml_Model_135 (by decide) s_54 (by decide) rfl rfl rfl (leb rfl) (bz _) (fun _ => rfl) (ok_Model_byteAt hv) ?_
  obtain ⟨v21, hv, h⟩ := bnd h
  refine w_callSi (q := 87) (M' := M_Model_isLetter) (n' := 0) (As := [.int v20]) (sh' := SH) (b1 := (0, 0)) d_Model_stepOn_84 rfl mw_Model_isLetter (by decide) (by decide) ml_Model_145 rfl rfl (leb rfl) (bz _) (fun _ => rfl) (ok_Model_isLetter hv) ?_
  by_cases c22 : v21 = 0
  · rw [if_pos c22] at h
    refine w_if_eq_t (q := 103) d_Model_stepOn_87 rfl c22 ?_
    cases h
    exact w_ls (by exact (And.intro rfl trivial)) hr
  · rw [if_neg c22] at h
    refine w_if_eq_f (q := 90) d_Model_stepOn_87 103 rfl rfl c22 ?_
    refine w_aload_n (q := 91) d_Model_stepOn_90 rfl rfl ?_
    refine w_dup (q := 92) d_Model_stepOn_91 rfl rfl ?_
    refine w_get (q := 95) (ci := 12) (j := 13) d_Model_stepOn_92 rfl (by decide) fl_Model_132 (by decide) (by decide) s_54 rfl rfl ?_
    refine w_iconst (q := 96) (v := 1) d_Model_stepOn_95 rfl (by decide) ?_
    refine w_iadd (q := 97) d_Model_stepOn_96 rfl ?_
    refine w_put (q := 100) (ci := 12) (j := 13) d_Model_stepOn_97 rfl (by decide) fl_Model_132 (by decide) (by decide) s_54 rfl rfl rfl rfl rfl rfl ?_
    refine w_goto (q := 76) d_Model_stepOn_100 rfl ?_
    cases h
    exact w_ls (by exact (And.intro rfl trivial)) hr
def sp_Model_stepOn (F : Nat) (g : Mem) : Option (Mem) := (lpO (st_Model_stepOn_0 F g) F g).bind fun x5 => (sp_Model_byteAt ((mset x5 54 17 (x5 54 13)) 54 13) (mset x5 54 17 (x5 54 13))).bind fun v6 => if v6 = (-1) then some (mset (mset (mset x5 54 17 (x5 54 13)) 54 15 0) 54 18 ((mset (mset x5 54 17 (x5 54 13)) 54 15 0) 54 13)) else (sp_Model_isLetter v6 (mset x5 54 17 (x5 54 13))).bind fun v8 => if v8 = 0 then (sp_Model_isDigit v6 (mset x5 54 17 (x5 54 13))).bind fun v10 => if v10 = 0 then (sp_Model_isMark v6 (mset (mset x5 54 17 (x5 54 13)) 54 13 (((mset x5 54 17 (x5 54 13)) 54 13) + 1))).bind fun v12 => if v12 = 0 then some (mset (mset (mset (mset x5 54 17 (x5 54 13)) 54 13 (((mset x5 54 17 (x5 54 13)) 54 13) + 1)) 54 15 4) 54 18 ((mset (mset (mset x5 54 17 (x5 54 13)) 54 13 (((mset x5 54 17 (x5 54 13)) 54 13) + 1)) 54 15 4) 54 13)) else some (mset (mset (mset (mset x5 54 17 (x5 54 13)) 54 13 (((mset x5 54 17 (x5 54 13)) 54 13) + 1)) 54 15 3) 54 18 ((mset (mset (mset x5 54 17 (x5 54 13)) 54 13 (((mset x5 54 17 (x5 54 13)) 54 13) + 1)) 54 15 3) 54 13)) else (lpO (st_Model_stepOn_123 F g) F (mset (mset x5 54 17 (x5 54 13)) 54 16 0)).bind fun x19 => some (mset (mset x19 54 15 2) 54 18 ((mset x19 54 15 2) 54 13)) else (lpO (st_Model_stepOn_76 F g) F (mset x5 54 17 (x5 54 13))).bind fun x23 => some (mset (mset x23 54 15 1) 54 18 ((mset x23 54 15 1) 54 13))
theorem ok_Model_stepOn {γ : GG} {tt : Bool} {F : Nat} {g : Mem} {res : Mem} (h : sp_Model_stepOn F g = some res) : CA γ M_Model_stepOn 1 [.ref 54] SH g tt (0, 0) (pV SH res tt) := by
  refine CA.of mw_Model_stepOn.1 1 rfl ?_
  show WA γ M_Model_stepOn 1 0 [some (.ref 54), none] [] SH g tt (0, 0) (pV SH res tt)
  unfold sp_Model_stepOn at h
  obtain ⟨x5, hx, h⟩ := bnd h
  refine w_ls (ls' := [some (.ref 54), none]) (And.intro rfl trivial) ?_
  show PL_Model_stepOn_0 γ tt g _ _ g
  refine lp_ok (kl_Model_stepOn_0) F _ x5 hx ?_
  unfold QL_Model_stepOn_0
  refine w_aload_n (q := 40) d_Model_stepOn_39 rfl rfl ?_
  refine w_aload_n (q := 41) d_Model_stepOn_40 rfl rfl ?_
  refine w_get (q := 44) (ci := 12) (j := 13) d_Model_stepOn_41 rfl (by decide) fl_Model_132 (by decide) (by decide) s_54 rfl rfl ?_
  refine w_put (q := 47) (ci := 12) (j := 17) d_Model_stepOn_44 rfl (by decide) fl_Model_139 (by decide) (by decide) s_54 rfl rfl rfl rfl rfl rfl ?_
  refine w_aload_n (q := 48) d_Model_stepOn_47 rfl rfl ?_
  refine w_aload_n (q := 49) d_Model_stepOn_48 rfl rfl ?_
  refine w_get (q := 52) (ci := 12) (j := 13) d_Model_stepOn_49 rfl (by decide) fl_Model_132 (by decide) (by decide) s_54 rfl rfl ?_
  obtain ⟨v6, hv, h⟩ := bnd h
  refine w_callVi (q := 55) (M' := M_Model_byteAt) (n' := 0) (k := 54) (As := [.int ((mset x5 54 17 (x5 54 13)) 54 13)]) (sh' := SH) (b1 := (0, 0)) d_Model_stepOn_52 rfl mw_Model_byteAt (by decide) (by decide) ml_Model_135 (by decide) s_54 (by decide) rfl rfl rfl (leb rfl) (bz _) (fun _ => rfl) (ok_Model_byteAt hv) ?_
  refine w_istore_n (q := 56) (ls' := [some (.ref 54), some (.int v6)]) d_Model_stepOn_55 rfl (by decide) rfl rfl ?_
  refine w_iload_n (q := 57) d_Model_stepOn_56 rfl rfl ?_
  refine w_iconst (q := 58) (v := (-1)) d_Model_stepOn_57 rfl (by decide) ?_
  by_cases c7 : v6 = (-1)
  · rw [if_pos c7] at h
    refine w_icmp_ne_f (q := 61) d_Model_stepOn_58 69 rfl rfl c7 ?_
    refine w_aload_n (q := 62) d_Model_stepOn_61 rfl rfl ?_
    refine w_iconst (q := 63) (v := 0) d_Model_stepOn_62 rfl (by decide) ?_
    refine w_put (q := 66) (ci := 12) (j := 15) d_Model_stepOn_63 rfl (by decide) fl_Model_142 (by decide) (by decide) s_54 rfl rfl rfl rfl rfl rfl ?_
    refine w_goto (q := 212) d_Model_stepOn_66 rfl ?_
    refine w_aload_n (q := 213) d_Model_stepOn_212 rfl rfl ?_
    refine w_aload_n (q := 214) d_Model_stepOn_213 rfl rfl ?_
    refine w_get (q := 217) (ci := 12) (j := 13) d_Model_stepOn_214 rfl (by decide) fl_Model_132 (by decide) (by decide) s_54 rfl rfl ?_
    refine w_put (q := 220) (ci := 12) (j := 18) d_Model_stepOn_217 rfl (by decide) fl_Model_165 (by decide) (by decide) s_54 rfl rfl rfl rfl rfl rfl ?_
    cases h
    exact w_return d_Model_stepOn_220 rfl ⟨rfl, rfl, rfl, rfl⟩
  · rw [if_neg c7] at h
    refine w_icmp_ne_t (q := 69) d_Model_stepOn_58 rfl c7 ?_
    refine w_iload_n (q := 70) d_Model_stepOn_69 rfl rfl ?_
    obtain ⟨v8, hv, h⟩ := bnd h
    refine w_callSi (q := 73) (M' := M_Model_isLetter) (n' := 0) (As := [.int v6]) (sh' := SH) (b1 := (0, 0)) d_Model_stepOn_70 rfl mw_Model_isLetter (by decide) (by decide) ml_Model_145 rfl rfl (leb rfl) (bz _) (fun _ => rfl) (ok_Model_isLetter hv) ?_
    by_cases c9 : v8 = 0
    · rw [if_pos c9] at h
      refine w_if_eq_t (q := 111) d_Model_stepOn_73 rfl c9 ?_
      refine w_iload_n (q := 112) d_Model_stepOn_111 rfl rfl ?_
      obtain ⟨v10, hv, h⟩ := bnd h
      refine w_callSi (q := 115) (M' := M_Model_isDigit) (n' := 0) (As := [.int v6]) (sh' := SH) (b1 := (0, 0)) d_Model_stepOn_112 rfl mw_Model_isDigit (by decide) (by decide) ml_Model_149 rfl rfl (leb rfl) (bz _) (fun _ => rfl) (ok_Model_isDigit hv) ?_
      by_cases c11 : v10 = 0
      · rw [if_pos c11] at h
        refine w_if_eq_t (q := 186) d_Model_stepOn_115 rfl c11 ?_
        refine w_aload_n (q := 187) d_Model_stepOn_186 rfl rfl ?_
        refine w_dup (q := 188) d_Model_stepOn_187 rfl rfl ?_
        refine w_get (q := 191) (ci := 12) (j := 13) d_Model_stepOn_188 rfl (by decide) fl_Model_132 (by decide) (by decide) s_54 rfl rfl ?_
        refine w_iconst (q := 192) (v := 1) d_Model_stepOn_191 rfl (by decide) ?_
        refine w_iadd (q := 193) d_Model_stepOn_192 rfl ?_
        refine w_put (q := 196) (ci := 12) (j := 13) d_Model_stepOn_193 rfl (by decide) fl_Model_132 (by decide) (by decide) s_54 rfl rfl rfl rfl rfl rfl ?_
        refine w_aload_n (q := 197) d_Model_stepOn_196 rfl rfl ?_
        refine w_iload_n (q := 198) d_Model_stepOn_197 rfl rfl ?_
        obtain ⟨v12, hv, h⟩ := bnd h
        refine w_callSi (q := 201) (M' := M_Model_isMark) (n' := 0) (As := [.int v6]) (sh' := SH) (b1 := (0, 0)) d_Model_stepOn_198 rfl mw_Model_isMark (by decide) (by decide) ml_Model_162 rfl rfl (leb rfl) (bz _) (fun _ => rfl) (ok_Model_isMark hv) ?_
        by_cases c13 : v12 = 0
        · rw [if_pos c13] at h
          refine w_if_eq_t (q := 208) d_Model_stepOn_201 rfl c13 ?_
          refine w_iconst (q := 209) (v := 4) d_Model_stepOn_208 rfl (by decide) ?_
          refine w_put (q := 212) (ci := 12) (j := 15) d_Model_stepOn_209 rfl (by decide) fl_Model_142 (by decide) (by decide) s_54 rfl rfl rfl rfl rfl rfl ?_
          refine w_aload_n (q := 213) d_Model_stepOn_212 rfl rfl ?_
          refine w_aload_n (q := 214) d_Model_stepOn_213 rfl rfl ?_
          refine w_get (q := 217) (ci := 12) (j := 13) d_Model_stepOn_214 rfl (by decide) fl_Model_132 (by decide) (by decide) s_54 rfl rfl ?_
          refine w_put (q := 220) (ci := 12) (j := 18) d_Model_stepOn_217 rfl (by decide) fl_Model_165 (by decide) (by decide) s_54 rfl rfl rfl rfl rfl rfl ?_
          cases h
          exact w_return d_Model_stepOn_220 rfl ⟨rfl, rfl, rfl, rfl⟩
        · rw [if_neg c13] at h
          refine w_if_eq_f (q := 204) d_Model_stepOn_201 208 rfl rfl c13 ?_
          refine w_iconst (q := 205) (v := 3) d_Model_stepOn_204 rfl (by decide) ?_
          refine w_goto (q := 209) d_Model_stepOn_205 rfl ?_
          refine w_put (q := 212) (ci := 12) (j := 15) d_Model_stepOn_209 rfl (by decide) fl_Model_142 (by decide) (by decide) s_54 rfl rfl rfl rfl rfl rfl ?_
          refine w_aload_n (q := 213) d_Model_stepOn_212 rfl rfl ?_
          refine w_aload_n (q := 214) d_Model_stepOn_213 rfl rfl ?_
          refine w_get (q := 217) (ci := 12) (j := 13) d_Model_stepOn_214 rfl (by decide) fl_Model_132 (by decide) (by decide) s_54 rfl rfl ?_
          refine w_put (q := 220) (ci := 12) (j := 18) d_Model_stepOn_217 rfl (by decide) fl_Model_165 (by decide) (by decide) s_54 rfl rfl rfl rfl rfl rfl ?_
          cases h
          exact w_return d_Model_stepOn_220 rfl ⟨rfl, rfl, rfl, rfl⟩
      · rw [if_neg c11] at h
        refine w_if_eq_f (q := 118) d_Model_stepOn_115 186 rfl rfl c11 ?_
        refine w_aload_n (q := 119) d_Model_stepOn_118 rfl rfl ?_
        refine w_iconst (q := 120) (v := 0) d_Model_stepOn_119 rfl (by decide) ?_
        refine w_put (q := 123) (ci := 12) (j := 16) d_Model_stepOn_120 rfl (by decide) fl_Model_152 (by decide) (by decide) s_54 rfl rfl rfl rfl rfl rfl ?_
        obtain ⟨x19, hx, h⟩ := bnd h
        refine w_ls (ls' := [some (.ref 54), none]) (And.intro rfl trivial) ?_
        show PL_Model_stepOn_123 γ tt g _ _ (mset (mset x5 54 17 (x5 54 13)) 54 16 0)
        refine lp_ok (kl_Model_stepOn_123) F _ x19 hx ?_
        unfold QL_Model_stepOn_123
        refine w_aload_n (q := 179) d_Model_stepOn_178 rfl rfl ?_
        refine w_iconst (q := 180) (v := 2) d_Model_stepOn_179 rfl (by decide) ?_
        refine w_put (q := 183) (ci := 12) (j := 15) d_Model_stepOn_180 rfl (by decide) fl_Model_142 (by decide) (by decide) s_54 rfl rfl rfl rfl rfl rfl ?_
        refine w_goto (q := 212) d_Model_stepOn_183 rfl ?_
        refine w_aload_n (q := 213) d_Model_stepOn_212 rfl rfl ?_
        refine w_aload_n (q := 214) d_Model_stepOn_213 rfl rfl ?_
        refine w_get (q := 217) (ci := 12) (j := 13) d_Model_stepOn_214 rfl (by decide) fl_Model_132 (by decide) (by decide) s_54 rfl rfl ?_
        refine w_put (q := 220) (ci := 12) (j := 18) d_Model_stepOn_217 rfl (by decide) fl_Model_165 (by decide) (by decide) s_54 rfl rfl rfl rfl rfl rfl ?_
        cases h
        exact w_return d_Model_stepOn_220 rfl ⟨rfl, rfl, rfl, rfl⟩
    · rw [if_neg c9] at h
      refine w_if_eq_f (q := 76) d_Model_stepOn_73 111 rfl rfl c9 ?_
      obtain ⟨x23, hx, h⟩ := bnd h
      refine w_ls (ls' := [some (.ref 54), none]) (And.intro rfl trivial) ?_
      show PL_Model_stepOn_76 γ tt g _ _ (mset x5 54 17 (x5 54 13))
      refine lp_ok (kl_Model_stepOn_76) F _ x23 hx ?_
      unfold QL_Model_stepOn_76
      refine w_aload_n (q := 104) d_Model_stepOn_103 rfl rfl ?_
      refine w_iconst (q := 105) (v := 1) d_Model_stepOn_104 rfl (by decide) ?_
      refine w_put (q := 108) (ci := 12) (j := 15) d_Model_stepOn_105 rfl (by decide) fl_Model_142 (by decide) (by decide) s_54 rfl rfl rfl rfl rfl rfl ?_
      refine w_goto (q := 212) d_Model_stepOn_108 rfl ?_
      refine w_aload_n (q := 213) d_Model_stepOn_212 rfl rfl ?_
      refine w_aload_n (q := 214) d_Model_stepOn_213 rfl rfl ?_
      refine w_get (q := 217) (ci := 12) (j := 13) d_Model_stepOn_214 rfl (by decide) fl_Model_132 (by decide) (by decide) s_54 rfl rfl ?_
      refine w_put (q := 220) (ci := 12) (j := 18) d_Model_stepOn_217 rfl (by decide) fl_Model_165 (by decide) (by decide) s_54 rfl rfl rfl rfl rfl rfl ?_
      cases h
      exact w_return d_Model_stepOn_220 rfl ⟨rfl, rfl, rfl, rfl⟩
def sp_Model_wrong (p0 : Int32) (g : Mem) : Option (Mem) := if (g 54 19) = 0 then some (mset (mset g 54 19 p0) 54 20 ((mset g 54 19 p0) 54 17)) else some g
theorem ok_Model_wrong {γ : GG} {tt : Bool} {p0 : Int32} {g : Mem} {res : Mem} (h : sp_Model_wrong p0 g = some res) : CA γ M_Model_wrong 0 [.ref 54, .int p0] SH g tt (0, 0) (pV SH res tt) := by
  refine CA.of mw_Model_wrong.1 0 rfl ?_
  show WA γ M_Model_wrong 0 0 [some (.ref 54), some (.int p0)] [] SH g tt (0, 0) (pV SH res tt)
  unfold sp_Model_wrong at h
  refine w_aload_n (q := 1) d_Model_wrong_0 rfl rfl ?_
  refine w_get (q := 4) (ci := 12) (j := 19) d_Model_wrong_1 rfl (by decide) fl_Model_168 (by decide) (by decide) s_54 rfl rfl ?_
  by_cases c1 : (g 54 19) = 0
  · rw [if_pos c1] at h
    refine w_if_eq_t (q := 8) d_Model_wrong_4 rfl c1 ?_
    refine w_aload_n (q := 9) d_Model_wrong_8 rfl rfl ?_
    refine w_iload_n (q := 10) d_Model_wrong_9 rfl rfl ?_
    refine w_put (q := 13) (ci := 12) (j := 19) d_Model_wrong_10 rfl (by decide) fl_Model_168 (by decide) (by decide) s_54 rfl rfl rfl rfl rfl rfl ?_
    refine w_aload_n (q := 14) d_Model_wrong_13 rfl rfl ?_
    refine w_aload_n (q := 15) d_Model_wrong_14 rfl rfl ?_
    refine w_get (q := 18) (ci := 12) (j := 17) d_Model_wrong_15 rfl (by decide) fl_Model_139 (by decide) (by decide) s_54 rfl rfl ?_
    refine w_put (q := 21) (ci := 12) (j := 20) d_Model_wrong_18 rfl (by decide) fl_Model_171 (by decide) (by decide) s_54 rfl rfl rfl rfl rfl rfl ?_
    cases h
    exact w_return d_Model_wrong_21 rfl ⟨rfl, rfl, rfl, rfl⟩
  · rw [if_neg c1] at h
    refine w_if_eq_f (q := 7) d_Model_wrong_4 8 rfl rfl c1 ?_
    cases h
    exact w_return d_Model_wrong_7 rfl ⟨rfl, rfl, rfl, rfl⟩
def PL_Model_is_39 (γ : GG) (tt : Bool) (j0 : Nat) (g : Mem) (b : Nat × Nat) (Φ : PO) (s : Int32 × Int32) : Prop := WA γ M_Model_is 5 39 [some (.ref 54), some (.ref (1048576 + j0)), some (.int s.1), some (.int s.2)] [] SH g tt b Φ
def QL_Model_is_39 (γ : GG) (tt : Bool) (j0 : Nat) (g : Mem) (b : Nat × Nat) (Φ : PO) (x : (Int32)) : Prop := WA γ M_Model_is 5 82 [none, none, some (.int x), none] [] SH g tt b Φ
def st_Model_is_39 (F : Nat) (j0 : Nat) (g : Mem) (s : Int32 × Int32) : Option ((Int32 × Int32) ⊕ ((Int32))) := if s.1 = 0 then some (.inr s.1) else if (slen j0) ≤ s.2 then some (.inr s.1) else (sch j0 s.2).bind fun v6 => (rd g 65 700 ((g 54 17) + s.2)).bind fun v7 => if v6 = v7 then some (.inl (1, s.2 + 1)) else some (.inl (0, s.2 + 1))
theorem kl_Model_is_39 {γ : GG} {tt : Bool} {F : Nat} {j0 : Nat} {g : Mem} {b : Nat × Nat} {Φ : PO} (hj0 : j0 < 39) : ∀ (s : Int32 × Int32) (r : (Int32 × Int32) ⊕ ((Int32))), st_Model_is_39 F j0 g s = some r → RQ (PL_Model_is_39 γ tt j0 g b Φ) (QL_Model_is_39 γ tt j0 g b Φ) r → PL_Model_is_39 γ tt j0 g b Φ s := by
  intro s r h hr
  unfold st_Model_is_39 at h
  unfold PL_Model_is_39
  refine w_iload_n (q := 40) d_Model_is_39 rfl rfl ?_
  by_cases c4 : s.1 = 0
  · rw [if_pos c4] at h
    refine w_if_eq_t (q := 82) d_Model_is_40 rfl c4 ?_
    cases h
    exact w_ls (by exact (And.intro rfl trivial)) hr
  · rw [if_neg c4] at h
    refine w_if_eq_f (q := 43) d_Model_is_40 82 rfl rfl c4 ?_
    refine w_iload_n (q := 44) d_Model_is_43 rfl rfl ?_
    refine w_aload_n (q := 45) d_Model_is_44 rfl rfl ?_
    refine w_callKi (q := 48) (M' := M_JString_length) (n' := 3) (j := j0) (As := []) d_Model_is_45 rfl mw_JString_length (by decide) (by decide) ml_Model_174 hj0 rfl rfl rfl (leb rfl) (ok_JString_length hj0) ?_
    by_cases c5 : (slen j0) ≤ s.2
    · rw [if_pos c5] at h
      refine w_icmp_ge_t (q := 82) d_Model_is_48 rfl c5 ?_
      cases h
      exact w_ls (by exact (And.intro rfl trivial)) hr
    · rw [if_neg c5] at h
      refine w_icmp_ge_f (q := 51) d_Model_is_48 82 rfl rfl c5 ?_
      refine w_aload_n (q := 52) d_Model_is_51 rfl rfl ?_
      refine w_iload_n (q := 53) d_Model_is_52 rfl rfl ?_
      obtain ⟨v6, hv, h⟩ := bnd h
      refine w_callKi (q := 56) (M' := M_JString_charAt) (n' := 4) (j := j0) (As := [.int s.2]) d_Model_is_53 rfl mw_JString_charAt (by decide) (by decide) ml_Model_178 hj0 rfl rfl rfl (leb rfl) (ok_JString_charAt hj0 hv) ?_
      refine w_aload_n (q := 57) d_Model_is_56 rfl rfl ?_
      refine w_get (q := 60) (ci := 12) (j := 11) d_Model_is_57 rfl (by decide) fl_Model_71 (by decide) (by decide) s_54 rfl rfl ?_
      refine w_aload_n (q := 61) d_Model_is_60 rfl rfl ?_
      refine w_get (q := 64) (ci := 12) (j := 17) d_Model_is_61 rfl (by decide) fl_Model_139 (by decide) (by decide) s_54 rfl rfl ?_
      refine w_iload_n (q := 65) d_Model_is_64 rfl rfl ?_
      refine w_iadd (q := 66) d_Model_is_65 rfl ?_
      obtain ⟨v7, hv, h⟩ := bnd h
      obtain ⟨hi, hv⟩ := rd_ok hv
      refine w_iald (q := 67) (t := 0) d_Model_is_66 rfl a_65.2 a_65.1 hi rfl ?_
      rw [hv]
      by_cases c8 : v6 = v7
      · rw [if_pos c8] at h
        refine w_icmp_ne_f (q := 70) d_Model_is_67 74 rfl rfl c8 ?_
        refine w_iconst (q := 71) (v := 1) d_Model_is_70 rfl (by decide) ?_
        refine w_goto (q := 75) d_Model_is_71 rfl ?_
        refine w_istore_n (q := 76) (ls' := [some (.ref 54), some (.ref (1048576 + j0)), some (.int 1), some (.int s.2)]) d_Model_is_75 rfl (by decide) rfl rfl ?_
        refine w_iinc (q := 79) (ls' := [some (.ref 54), some (.ref (1048576 + j0)), some (.int 1), some (.int (s.2 + 1))]) d_Model_is_76 rfl (by decide) rfl rfl rfl ?_
        refine w_goto (q := 39) d_Model_is_79 rfl ?_
        cases h
        exact w_ls (by exact (And.intro rfl (And.intro rfl (And.intro rfl (And.intro rfl trivial))))) hr
      · rw [if_neg c8] at h
        refine w_icmp_ne_t (q := 74) d_Model_is_67 rfl c8 ?_
        refine w_iconst (q := 75) (v := 0) d_Model_is_74 rfl (by decide) ?_
        refine w_istore_n (q := 76) (ls' := [some (.ref 54), some (.ref (1048576 + j0)), some (.int 0), some (.int s.2)]) d_Model_is_75 rfl (by decide) rfl rfl ?_
        refine w_iinc (q := 79) (ls' := [some (.ref 54), some (.ref (1048576 + j0)), some (.int 0), some (.int (s.2 + 1))]) d_Model_is_76 rfl (by decide) rfl rfl rfl ?_
        refine w_goto (q := 39) d_Model_is_79 rfl ?_
        cases h
        exact w_ls (by exact (And.intro rfl (And.intro rfl (And.intro rfl (And.intro rfl trivial))))) hr
def sp_Model_is_j36 (F : Nat) (j0 : Nat) (g : Mem) (y0 : Int32) : Option (Int32) := (lpO (st_Model_is_39 F j0 g) F (y0, 0)).bind fun x9 => (bl x9).bind fun v10 => some v10
theorem ok_Model_is_j36 {γ : GG} {tt : Bool} {F : Nat} {j0 : Nat} {g : Mem} {y0 : Int32} (hj0 : j0 < 39) {res : Int32} (h : sp_Model_is_j36 F j0 g y0 = some res) : WA γ M_Model_is 5 36 [some (.ref 54), some (.ref (1048576 + j0)), none, none] [.int y0] SH g tt (0, 0) (pI SH res g tt) := by
  unfold sp_Model_is_j36 at h
  refine w_istore_n (q := 37) (ls' := [some (.ref 54), some (.ref (1048576 + j0)), some (.int y0), none]) d_Model_is_36 rfl (by decide) rfl rfl ?_
  refine w_iconst (q := 38) (v := 0) d_Model_is_37 rfl (by decide) ?_
  refine w_istore_n (q := 39) (ls' := [some (.ref 54), some (.ref (1048576 + j0)), some (.int y0), some (.int 0)]) d_Model_is_38 rfl (by decide) rfl rfl ?_
  obtain ⟨x9, hx, h⟩ := bnd h
  refine w_ls (ls' := [some (.ref 54), some (.ref (1048576 + j0)), some (.int y0), some (.int 0)]) (And.intro rfl (And.intro rfl (And.intro rfl (And.intro rfl trivial)))) ?_
  show PL_Model_is_39 γ tt j0 g _ _ (y0, 0)
  refine lp_ok (kl_Model_is_39 hj0) F _ x9 hx ?_
  unfold QL_Model_is_39
  refine w_iload_n (q := 83) d_Model_is_82 rfl rfl ?_
  obtain ⟨v10, hv, h⟩ := bnd h
  obtain ⟨hv, hn⟩ := bl_ok hv
  rw [hv] at h
  cases h
  exact w_ireturn d_Model_is_83 rfl hn ⟨rfl, rfl, rfl, rfl⟩
def sp_Model_is_j35 (F : Nat) (j0 : Nat) (g : Mem) : Option (Int32) := sp_Model_is_j36 F j0 g 0
theorem ok_Model_is_j35 {γ : GG} {tt : Bool} {F : Nat} {j0 : Nat} {g : Mem} (hj0 : j0 < 39) {res : Int32} (h : sp_Model_is_j35 F j0 g  = some res) : WA γ M_Model_is 5 35 [some (.ref 54), some (.ref (1048576 + j0)), none, none] [] SH g tt (0, 0) (pI SH res g tt) := by
  unfold sp_Model_is_j35 at h
  refine w_iconst (q := 36) (v := 0) d_Model_is_35 rfl (by decide) ?_
  refine w_ls (ls' := [some (.ref 54), some (.ref (1048576 + j0)), none, none]) (And.intro rfl (And.intro rfl trivial)) ?_
  exact ok_Model_is_j36 hj0 h
def sp_Model_is (F : Nat) (j0 : Nat) (g : Mem) : Option (Int32) := if (g 54 19) = 0 then if (g 54 15) = 1 then if (slen j0) = ((g 54 18) - (g 54 17)) then sp_Model_is_j36 F j0 g 1 else sp_Model_is_j35 F j0 g else sp_Model_is_j35 F j0 g else sp_Model_is_j35 F j0 g
theorem ok_Model_is {γ : GG} {tt : Bool} {F : Nat} {j0 : Nat} {g : Mem} (hj0 : j0 < 39) {res : Int32} (h : sp_Model_is F j0 g = some res) : CA γ M_Model_is 5 [.ref 54, .ref (1048576 + j0)] SH g tt (0, 0) (pI SH res g tt) := by
  refine CA.of mw_Model_is.1 2 rfl ?_
  show WA γ M_Model_is 5 0 [some (.ref 54), some (.ref (1048576 + j0)), none, none] [] SH g tt (0, 0) (pI SH res g tt)
  unfold sp_Model_is at h
  refine w_aload_n (q := 1) d_Model_is_0 rfl rfl ?_
  refine w_get (q := 4) (ci := 12) (j := 19) d_Model_is_1 rfl (by decide) fl_Model_168 (by decide) (by decide) s_54 rfl rfl ?_
  by_cases c1 : (g 54 19) = 0
  · rw [if_pos c1] at h
    refine w_if_ne_f (q := 7) d_Model_is_4 35 rfl rfl c1 ?_
    refine w_aload_n (q := 8) d_Model_is_7 rfl rfl ?_
    refine w_get (q := 11) (ci := 12) (j := 15) d_Model_is_8 rfl (by decide) fl_Model_142 (by decide) (by decide) s_54 rfl rfl ?_
    refine w_iconst (q := 12) (v := 1) d_Model_is_11 rfl (by decide) ?_
    by_cases c2 : (g 54 15) = 1
    · rw [if_pos c2] at h
      refine w_icmp_ne_f (q := 15) d_Model_is_12 35 rfl rfl c2 ?_
      refine w_aload_n (q := 16) d_Model_is_15 rfl rfl ?_
      refine w_callKi (q := 19) (M' := M_JString_length) (n' := 3) (j := j0) (As := []) d_Model_is_16 rfl mw_JString_length (by decide) (by decide) ml_Model_174 hj0 rfl rfl rfl (leb rfl) (ok_JString_length hj0) ?_
      refine w_aload_n (q := 20) d_Model_is_19 rfl rfl ?_
      refine w_get (q := 23) (ci := 12) (j := 18) d_Model_is_20 rfl (by decide) fl_Model_165 (by decide) (by decide) s_54 rfl rfl ?_
      refine w_aload_n (q := 24) d_Model_is_23 rfl rfl ?_
      refine w_get (q := 27) (ci := 12) (j := 17) d_Model_is_24 rfl (by decide) fl_Model_139 (by decide) (by decide) s_54 rfl rfl ?_
      refine w_isub (q := 28) d_Model_is_27 rfl ?_
      by_cases c3 : (slen j0) = ((g 54 18) - (g 54 17))
      · rw [if_pos c3] at h
        refine w_icmp_ne_f (q := 31) d_Model_is_28 35 rfl rfl c3 ?_
        refine w_iconst (q := 32) (v := 1) d_Model_is_31 rfl (by decide) ?_
        refine w_goto (q := 36) d_Model_is_32 rfl ?_
        refine w_ls (ls' := [some (.ref 54), some (.ref (1048576 + j0)), none, none]) (And.intro rfl (And.intro rfl trivial)) ?_
        exact ok_Model_is_j36 hj0 h
      · rw [if_neg c3] at h
        refine w_icmp_ne_t (q := 35) d_Model_is_28 rfl c3 ?_
        refine w_ls (ls' := [some (.ref 54), some (.ref (1048576 + j0)), none, none]) (And.intro rfl (And.intro rfl trivial)) ?_
        exact ok_Model_is_j35 hj0 h
    · rw [if_neg c2] at h
      refine w_icmp_ne_t (q := 35) d_Model_is_12 rfl c2 ?_
      refine w_ls (ls' := [some (.ref 54), some (.ref (1048576 + j0)), none, none]) (And.intro rfl (And.intro rfl trivial)) ?_
      exact ok_Model_is_j35 hj0 h
  · rw [if_neg c1] at h
    refine w_if_ne_t (q := 35) d_Model_is_4 rfl c1 ?_
    refine w_ls (ls' := [some (.ref 54), some (.ref (1048576 + j0)), none, none]) (And.intro rfl (And.intro rfl trivial)) ?_
    exact ok_Model_is_j35 hj0 h
def PL_Model_which_2 (γ : GG) (tt : Bool) (q0 : Nat) (q0j : Nat) (q0n : Nat) (g : Mem) (b : Nat × Nat) (Φ : PO) (s : Int32) : Prop := WA γ M_Model_which 6 2 [some (.ref 54), some (.ref q0), some (.int s)] [] SH g tt b Φ
def QL_Model_which_2 (γ : GG) (tt : Bool) (q0 : Nat) (q0j : Nat) (q0n : Nat) (g : Mem) (b : Nat × Nat) (Φ : PO) (x : (Int32) ⊕ (Unit)) : Prop := match x with
  | .inl x => WA γ M_Model_which 6 18 [none, none, some (.int x)] [] SH g tt b Φ
  | .inr x => WA γ M_Model_which 6 26 [none, none, none] [] SH g tt b Φ
def st_Model_which_2 (F : Nat) (q0 : Nat) (q0j : Nat) (q0n : Nat) (g : Mem) (s : Int32) : Option ((Int32) ⊕ ((Int32) ⊕ (Unit))) := if (Int32.ofNat q0n) ≤ s then some (.inr (.inr ())) else (rS q0n s).bind fun v2 => (sp_Model_is F (q0j + (s).toNatClampNeg) g).bind fun v3 => if v3 = 0 then some (.inl (s + 1)) else some (.inr (.inl s))
theorem kl_Model_which_2 {γ : GG} {tt : Bool} {F : Nat} {q0 : Nat} {q0j : Nat} {q0n : Nat} {g : Mem} {b : Nat × Nat} {Φ : PO} (hq0 : isS SH q0 q0j q0n) : ∀ (s : Int32) (r : (Int32) ⊕ ((Int32) ⊕ (Unit))), st_Model_which_2 F q0 q0j q0n g s = some r → RQ (PL_Model_which_2 γ tt q0 q0j q0n g b Φ) (QL_Model_which_2 γ tt q0 q0j q0n g b Φ) r → PL_Model_which_2 γ tt q0 q0j q0n g b Φ s := by
  intro s r h hr
  unfold st_Model_which_2 at h
  unfold PL_Model_which_2
  refine w_iload_n (q := 3) d_Model_which_2 rfl rfl ?_
  refine w_aload_n (q := 4) d_Model_which_3 rfl rfl ?_
  refine w_alen (q := 5) d_Model_which_4 rfl hq0.2.1 hq0.1 (Or.inr rfl) rfl ?_
  by_cases c1 : (Int32.ofNat q0n) ≤ s
  · rw [if_pos c1] at h
    refine w_icmp_ge_t (q := 26) d_Model_which_5 rfl c1 ?_
    cases h
    exact w_ls (by exact trivial) hr
  · rw [if_neg c1] at h
    refine w_icmp_ge_f (q := 8) d_Model_which_5 26 rfl rfl c1 ?_
    refine w_aload_n (q := 9) d_Model_which_8 rfl rfl ?_
    refine w_aload_n (q := 10) d_Model_which_9 rfl rfl ?_
    refine w_iload_n (q := 11) d_Model_which_10 rfl rfl ?_
    obtain ⟨v2, hv, h⟩ := bnd h
    obtain ⟨hi, -⟩ := rS_ok hv
    refine w_aald (q := 12) (r := 1048576 + (q0j + (s).toNatClampNeg)) d_Model_which_11 rfl hq0.2.1 hq0.1 hi (isS_at hq0 hi) ?_
    obtain ⟨v3, hv, h⟩ := bnd h
    refine w_callVi (q := 15) (M' := M_Model_is) (n' := 5) (k := 54) (As := [.ref (1048576 + (q0j + (s).toNatClampNeg))]) (sh' := SH) (b1 := (0, 0)) d_Model_which_12 rfl mw_Model_is (by decide) (by decide) ml_Model_182 (by decide) s_54 (by decide) rfl rfl rfl (leb rfl) (bz _) (fun _ => rfl) (ok_Model_is (isS_lt hq0 hi) hv) ?_
    by_cases c4 : v3 = 0
    · rw [if_pos c4] at h
      refine w_if_eq_t (q := 20) d_Model_which_15 rfl c4 ?_
      refine w_iinc (q := 23) (ls' := [some (.ref 54), some (.ref q0), some (.int (s + 1))]) d_Model_which_20 rfl (by decide) rfl rfl rfl ?_
      refine w_goto (q := 2) d_Model_which_23 rfl ?_
      cases h
      exact w_ls (by exact (And.intro rfl (And.intro rfl (And.intro rfl trivial)))) hr
    · rw [if_neg c4] at h
      refine w_if_eq_f (q := 18) d_Model_which_15 20 rfl rfl c4 ?_
      cases h
      exact w_ls (by exact (And.intro rfl trivial)) hr
def sp_Model_which (F : Nat) (q0 : Nat) (q0j : Nat) (q0n : Nat) (g : Mem) : Option (Int32) := (lpO (st_Model_which_2 F q0 q0j q0n g) F 0).bind fun x5 => match x5 with | .inl x6 => some x6 | .inr x7 => some (-1)
theorem ok_Model_which {γ : GG} {tt : Bool} {F : Nat} {q0 : Nat} {q0j : Nat} {q0n : Nat} {g : Mem} (hq0 : isS SH q0 q0j q0n) {res : Int32} (h : sp_Model_which F q0 q0j q0n g = some res) : CA γ M_Model_which 6 [.ref 54, .ref q0] SH g tt (0, 0) (pI SH res g tt) := by
  refine CA.of mw_Model_which.1 1 rfl ?_
  show WA γ M_Model_which 6 0 [some (.ref 54), some (.ref q0), none] [] SH g tt (0, 0) (pI SH res g tt)
  unfold sp_Model_which at h
  refine w_iconst (q := 1) (v := 0) d_Model_which_0 rfl (by decide) ?_
  refine w_istore_n (q := 2) (ls' := [some (.ref 54), some (.ref q0), some (.int 0)]) d_Model_which_1 rfl (by decide) rfl rfl ?_
  obtain ⟨x5, hx, h⟩ := bnd h
  refine w_ls (ls' := [some (.ref 54), some (.ref q0), some (.int 0)]) (And.intro rfl (And.intro rfl (And.intro rfl trivial))) ?_
  show PL_Model_which_2 γ tt q0 q0j q0n g _ _ 0
  refine lp_ok (kl_Model_which_2 hq0) F _ x5 hx ?_
  unfold QL_Model_which_2
  rcases x5 with x6 | x7
  · dsimp only at h ⊢
    refine w_iload_n (q := 19) d_Model_which_18 rfl rfl ?_
    cases h
    exact w_ireturn d_Model_which_19 rfl rfl ⟨rfl, rfl, rfl, rfl⟩
  · dsimp only at h ⊢
    refine w_iconst (q := 27) (v := (-1)) d_Model_which_26 rfl (by decide) ?_
    cases h
    exact w_ireturn d_Model_which_27 rfl rfl ⟨rfl, rfl, rfl, rfl⟩
def sp_Model_isMarked (p0 : Int32) (g : Mem) : Option (Int32) := if (g 54 19) = 0 then if (g 54 15) = 3 then (rd g 65 700 (g 54 17)).bind fun v3 => if v3 = p0 then some 1 else some 0 else some 0 else some 0
theorem ok_Model_isMarked {γ : GG} {tt : Bool} {p0 : Int32} {g : Mem} {res : Int32} (h : sp_Model_isMarked p0 g = some res) : CA γ M_Model_isMarked 0 [.ref 54, .int p0] SH g tt (0, 0) (pI SH res g tt) := by
  refine CA.of mw_Model_isMarked.1 0 rfl ?_
  show WA γ M_Model_isMarked 0 0 [some (.ref 54), some (.int p0)] [] SH g tt (0, 0) (pI SH res g tt)
  unfold sp_Model_isMarked at h
  refine w_aload_n (q := 1) d_Model_isMarked_0 rfl rfl ?_
  refine w_get (q := 4) (ci := 12) (j := 19) d_Model_isMarked_1 rfl (by decide) fl_Model_168 (by decide) (by decide) s_54 rfl rfl ?_
  by_cases c1 : (g 54 19) = 0
  · rw [if_pos c1] at h
    refine w_if_ne_f (q := 7) d_Model_isMarked_4 32 rfl rfl c1 ?_
    refine w_aload_n (q := 8) d_Model_isMarked_7 rfl rfl ?_
    refine w_get (q := 11) (ci := 12) (j := 15) d_Model_isMarked_8 rfl (by decide) fl_Model_142 (by decide) (by decide) s_54 rfl rfl ?_
    refine w_iconst (q := 12) (v := 3) d_Model_isMarked_11 rfl (by decide) ?_
    by_cases c2 : (g 54 15) = 3
    · rw [if_pos c2] at h
      refine w_icmp_ne_f (q := 15) d_Model_isMarked_12 32 rfl rfl c2 ?_
      refine w_aload_n (q := 16) d_Model_isMarked_15 rfl rfl ?_
      refine w_get (q := 19) (ci := 12) (j := 11) d_Model_isMarked_16 rfl (by decide) fl_Model_71 (by decide) (by decide) s_54 rfl rfl ?_
      refine w_aload_n (q := 20) d_Model_isMarked_19 rfl rfl ?_
      refine w_get (q := 23) (ci := 12) (j := 17) d_Model_isMarked_20 rfl (by decide) fl_Model_139 (by decide) (by decide) s_54 rfl rfl ?_
      obtain ⟨v3, hv, h⟩ := bnd h
      obtain ⟨hi, hv⟩ := rd_ok hv
      refine w_iald (q := 24) (t := 0) d_Model_isMarked_23 rfl a_65.2 a_65.1 hi rfl ?_
      rw [hv]
      refine w_iload_n (q := 25) d_Model_isMarked_24 rfl rfl ?_
      by_cases c4 : v3 = p0
      · rw [if_pos c4] at h
        refine w_icmp_ne_f (q := 28) d_Model_isMarked_25 32 rfl rfl c4 ?_
        refine w_iconst (q := 29) (v := 1) d_Model_isMarked_28 rfl (by decide) ?_
        refine w_goto (q := 33) d_Model_isMarked_29 rfl ?_
        cases h
        exact w_ireturn d_Model_isMarked_33 rfl rfl ⟨rfl, rfl, rfl, rfl⟩
      · rw [if_neg c4] at h
        refine w_icmp_ne_t (q := 32) d_Model_isMarked_25 rfl c4 ?_
        refine w_iconst (q := 33) (v := 0) d_Model_isMarked_32 rfl (by decide) ?_
        cases h
        exact w_ireturn d_Model_isMarked_33 rfl rfl ⟨rfl, rfl, rfl, rfl⟩
    · rw [if_neg c2] at h
      refine w_icmp_ne_t (q := 32) d_Model_isMarked_12 rfl c2 ?_
      refine w_iconst (q := 33) (v := 0) d_Model_isMarked_32 rfl (by decide) ?_
      cases h
      exact w_ireturn d_Model_isMarked_33 rfl rfl ⟨rfl, rfl, rfl, rfl⟩
  · rw [if_neg c1] at h
    refine w_if_ne_t (q := 32) d_Model_isMarked_4 rfl c1 ?_
    refine w_iconst (q := 33) (v := 0) d_Model_isMarked_32 rfl (by decide) ?_
    cases h
    exact w_ireturn d_Model_isMarked_33 rfl rfl ⟨rfl, rfl, rfl, rfl⟩
def sp_Model_mark_j20 (F : Nat) (p0 : Int32) (g : Mem) (m0 : Mem) : Option (Mem) := if (m0 54 19) = 0 then (sp_Model_stepOn F m0).bind fun v6 => some v6 else some m0
theorem ok_Model_mark_j20 {γ : GG} {tt : Bool} {F : Nat} {p0 : Int32} {g : Mem} {m0 : Mem} {res : Mem} (h : sp_Model_mark_j20 F p0 g m0  = some res) : WA γ M_Model_mark 2 20 [some (.ref 54), none] [] SH m0 tt (0, 0) (pV SH res tt) := by
  unfold sp_Model_mark_j20 at h
  refine w_aload_n (q := 21) d_Model_mark_20 rfl rfl ?_
  refine w_get (q := 24) (ci := 12) (j := 19) d_Model_mark_21 rfl (by decide) fl_Model_168 (by decide) (by decide) s_54 rfl rfl ?_
  by_cases c5 : (m0 54 19) = 0
  · rw [if_pos c5] at h
    refine w_if_ne_f (q := 27) d_Model_mark_24 31 rfl rfl c5 ?_
    refine w_aload_n (q := 28) d_Model_mark_27 rfl rfl ?_
    obtain ⟨v6, hv, h⟩ := bnd h
    refine w_callVv (q := 31) (M' := M_Model_stepOn) (n' := 1) (k := 54) (As := []) (sh' := SH) (b1 := (0, 0)) d_Model_mark_28 rfl mw_Model_stepOn (by decide) (by decide) ml_Model_193 (by decide) s_54 (by decide) rfl rfl rfl (leb rfl) (bz _) (fun _ => rfl) (ok_Model_stepOn hv) ?_
    cases h
    exact w_return d_Model_mark_31 rfl ⟨rfl, rfl, rfl, rfl⟩
  · rw [if_neg c5] at h
    refine w_if_ne_t (q := 31) d_Model_mark_24 rfl c5 ?_
    cases h
    exact w_return d_Model_mark_31 rfl ⟨rfl, rfl, rfl, rfl⟩
def sp_Model_mark (F : Nat) (p0 : Int32) (g : Mem) : Option (Mem) := if (g 54 19) = 0 then (sp_Model_isMarked p0 g).bind fun v2 => if v2 = 0 then (sp_Model_wrong 1 g).bind fun v4 => sp_Model_mark_j20 F p0 g v4 else sp_Model_mark_j20 F p0 g g else sp_Model_mark_j20 F p0 g g
theorem ok_Model_mark {γ : GG} {tt : Bool} {F : Nat} {p0 : Int32} {g : Mem} {res : Mem} (h : sp_Model_mark F p0 g = some res) : CA γ M_Model_mark 2 [.ref 54, .int p0] SH g tt (0, 0) (pV SH res tt) := by
  refine CA.of mw_Model_mark.1 0 rfl ?_
  show WA γ M_Model_mark 2 0 [some (.ref 54), some (.int p0)] [] SH g tt (0, 0) (pV SH res tt)
  unfold sp_Model_mark at h
  refine w_aload_n (q := 1) d_Model_mark_0 rfl rfl ?_
  refine w_get (q := 4) (ci := 12) (j := 19) d_Model_mark_1 rfl (by decide) fl_Model_168 (by decide) (by decide) s_54 rfl rfl ?_
  by_cases c1 : (g 54 19) = 0
  · rw [if_pos c1] at h
    refine w_if_ne_f (q := 7) d_Model_mark_4 20 rfl rfl c1 ?_
    refine w_aload_n (q := 8) d_Model_mark_7 rfl rfl ?_
    refine w_iload_n (q := 9) d_Model_mark_8 rfl rfl ?_
    obtain ⟨v2, hv, h⟩ := bnd h
    refine w_callVi (q := 12) (M' := M_Model_isMarked) (n' := 0) (k := 54) (As := [.int p0]) (sh' := SH) (b1 := (0, 0)) d_Model_mark_9 rfl mw_Model_isMarked (by decide) (by decide) ml_Model_186 (by decide) s_54 (by decide) rfl rfl rfl (leb rfl) (bz _) (fun _ => rfl) (ok_Model_isMarked hv) ?_
    by_cases c3 : v2 = 0
    · rw [if_pos c3] at h
      refine w_if_ne_f (q := 15) d_Model_mark_12 20 rfl rfl c3 ?_
      refine w_aload_n (q := 16) d_Model_mark_15 rfl rfl ?_
      refine w_iconst (q := 17) (v := 1) d_Model_mark_16 rfl (by decide) ?_
      obtain ⟨v4, hv, h⟩ := bnd h
      refine w_callVv (q := 20) (M' := M_Model_wrong) (n' := 0) (k := 54) (As := [.int 1]) (sh' := SH) (b1 := (0, 0)) d_Model_mark_17 rfl mw_Model_wrong (by decide) (by decide) ml_Model_189 (by decide) s_54 (by decide) rfl rfl rfl (leb rfl) (bz _) (fun _ => rfl) (ok_Model_wrong hv) ?_
      refine w_ls (ls' := [some (.ref 54), none]) (And.intro rfl trivial) ?_
      exact ok_Model_mark_j20 h
    · rw [if_neg c3] at h
      refine w_if_ne_t (q := 20) d_Model_mark_12 rfl c3 ?_
      refine w_ls (ls' := [some (.ref 54), none]) (And.intro rfl trivial) ?_
      exact ok_Model_mark_j20 h
  · rw [if_neg c1] at h
    refine w_if_ne_t (q := 20) d_Model_mark_4 rfl c1 ?_
    refine w_ls (ls' := [some (.ref 54), none]) (And.intro rfl trivial) ?_
    exact ok_Model_mark_j20 h
def sp_Model_numberNow_j59 (p0 : Int32) (p1 : Int32) (g : Mem) (m0 : Mem) : Option (Int32 × Mem) := if (m0 54 19) = 0 then some (m0 54 16, m0) else some (0, m0)
theorem ok_Model_numberNow_j59 {γ : GG} {tt : Bool} {p0 : Int32} {p1 : Int32} {g : Mem} {m0 : Mem} {res : Int32 × Mem} (h : sp_Model_numberNow_j59 p0 p1 g m0  = some res) : WA γ M_Model_numberNow 1 59 [some (.ref 54), none, none] [] SH m0 tt (0, 0) (pI SH res.1 res.2 tt) := by
  unfold sp_Model_numberNow_j59 at h
  refine w_aload_n (q := 60) d_Model_numberNow_59 rfl rfl ?_
  refine w_get (q := 63) (ci := 12) (j := 19) d_Model_numberNow_60 rfl (by decide) fl_Model_168 (by decide) (by decide) s_54 rfl rfl ?_
  by_cases c5 : (m0 54 19) = 0
  · rw [if_pos c5] at h
    refine w_if_ne_f (q := 66) d_Model_numberNow_63 73 rfl rfl c5 ?_
    refine w_aload_n (q := 67) d_Model_numberNow_66 rfl rfl ?_
    refine w_get (q := 70) (ci := 12) (j := 16) d_Model_numberNow_67 rfl (by decide) fl_Model_152 (by decide) (by decide) s_54 rfl rfl ?_
    refine w_goto (q := 74) d_Model_numberNow_70 rfl ?_
    cases h
    exact w_ireturn d_Model_numberNow_74 rfl rfl ⟨rfl, rfl, rfl, rfl⟩
  · rw [if_neg c5] at h
    refine w_if_ne_t (q := 73) d_Model_numberNow_63 rfl c5 ?_
    refine w_iconst (q := 74) (v := 0) d_Model_numberNow_73 rfl (by decide) ?_
    cases h
    exact w_ireturn d_Model_numberNow_74 rfl rfl ⟨rfl, rfl, rfl, rfl⟩
def sp_Model_numberNow_j54 (p0 : Int32) (p1 : Int32) (g : Mem) (m0 : Mem) : Option (Int32 × Mem) := (sp_Model_wrong 2 m0).bind fun v4 => sp_Model_numberNow_j59 p0 p1 g v4
theorem ok_Model_numberNow_j54 {γ : GG} {tt : Bool} {p0 : Int32} {p1 : Int32} {g : Mem} {m0 : Mem} {res : Int32 × Mem} (h : sp_Model_numberNow_j54 p0 p1 g m0  = some res) : WA γ M_Model_numberNow 1 54 [some (.ref 54), none, none] [] SH m0 tt (0, 0) (pI SH res.1 res.2 tt) := by
  unfold sp_Model_numberNow_j54 at h
  refine w_aload_n (q := 55) d_Model_numberNow_54 rfl rfl ?_
  refine w_iconst (q := 56) (v := 2) d_Model_numberNow_55 rfl (by decide) ?_
  obtain ⟨v4, hv, h⟩ := bnd h
  refine w_callVv (q := 59) (M' := M_Model_wrong) (n' := 0) (k := 54) (As := [.int 2]) (sh' := SH) (b1 := (0, 0)) d_Model_numberNow_56 rfl mw_Model_wrong (by decide) (by decide) ml_Model_189 (by decide) s_54 (by decide) rfl rfl rfl (leb rfl) (bz _) (fun _ => rfl) (ok_Model_wrong hv) ?_
  refine w_ls (ls' := [some (.ref 54), none, none]) (And.intro rfl trivial) ?_
  exact ok_Model_numberNow_j59 h
def sp_Model_numberNow (p0 : Int32) (p1 : Int32) (g : Mem) : Option (Int32 × Mem) := if (g 54 19) = 0 then if (g 54 15) = 2 then if 4 < ((g 54 18) - (g 54 17)) then sp_Model_numberNow_j54 p0 p1 g g else if (g 54 16) < p0 then sp_Model_numberNow_j54 p0 p1 g g else if (g 54 16) ≤ p1 then sp_Model_numberNow_j59 p0 p1 g g else sp_Model_numberNow_j54 p0 p1 g g else (sp_Model_wrong 1 g).bind fun v8 => sp_Model_numberNow_j59 p0 p1 g v8 else some (0, g)
theorem ok_Model_numberNow {γ : GG} {tt : Bool} {p0 : Int32} {p1 : Int32} {g : Mem} {res : Int32 × Mem} (h : sp_Model_numberNow p0 p1 g = some res) : CA γ M_Model_numberNow 1 [.ref 54, .int p0, .int p1] SH g tt (0, 0) (pI SH res.1 res.2 tt) := by
  refine CA.of mw_Model_numberNow.1 0 rfl ?_
  show WA γ M_Model_numberNow 1 0 [some (.ref 54), some (.int p0), some (.int p1)] [] SH g tt (0, 0) (pI SH res.1 res.2 tt)
  unfold sp_Model_numberNow at h
  refine w_aload_n (q := 1) d_Model_numberNow_0 rfl rfl ?_
  refine w_get (q := 4) (ci := 12) (j := 19) d_Model_numberNow_1 rfl (by decide) fl_Model_168 (by decide) (by decide) s_54 rfl rfl ?_
  by_cases c1 : (g 54 19) = 0
  · rw [if_pos c1] at h
    refine w_if_eq_t (q := 9) d_Model_numberNow_4 rfl c1 ?_
    refine w_aload_n (q := 10) d_Model_numberNow_9 rfl rfl ?_
    refine w_get (q := 13) (ci := 12) (j := 15) d_Model_numberNow_10 rfl (by decide) fl_Model_142 (by decide) (by decide) s_54 rfl rfl ?_
    refine w_iconst (q := 14) (v := 2) d_Model_numberNow_13 rfl (by decide) ?_
    by_cases c2 : (g 54 15) = 2
    · rw [if_pos c2] at h
      refine w_icmp_eq_t (q := 25) d_Model_numberNow_14 rfl c2 ?_
      refine w_aload_n (q := 26) d_Model_numberNow_25 rfl rfl ?_
      refine w_get (q := 29) (ci := 12) (j := 18) d_Model_numberNow_26 rfl (by decide) fl_Model_165 (by decide) (by decide) s_54 rfl rfl ?_
      refine w_aload_n (q := 30) d_Model_numberNow_29 rfl rfl ?_
      refine w_get (q := 33) (ci := 12) (j := 17) d_Model_numberNow_30 rfl (by decide) fl_Model_139 (by decide) (by decide) s_54 rfl rfl ?_
      refine w_isub (q := 34) d_Model_numberNow_33 rfl ?_
      refine w_iconst (q := 35) (v := 4) d_Model_numberNow_34 rfl (by decide) ?_
      by_cases c3 : 4 < ((g 54 18) - (g 54 17))
      · rw [if_pos c3] at h
        refine w_icmp_gt_t (q := 54) d_Model_numberNow_35 rfl c3 ?_
        refine w_ls (ls' := [some (.ref 54), none, none]) (And.intro rfl trivial) ?_
        exact ok_Model_numberNow_j54 h
      · rw [if_neg c3] at h
        refine w_icmp_gt_f (q := 38) d_Model_numberNow_35 54 rfl rfl c3 ?_
        refine w_aload_n (q := 39) d_Model_numberNow_38 rfl rfl ?_
        refine w_get (q := 42) (ci := 12) (j := 16) d_Model_numberNow_39 rfl (by decide) fl_Model_152 (by decide) (by decide) s_54 rfl rfl ?_
        refine w_iload_n (q := 43) d_Model_numberNow_42 rfl rfl ?_
        by_cases c6 : (g 54 16) < p0
        · rw [if_pos c6] at h
          refine w_icmp_lt_t (q := 54) d_Model_numberNow_43 rfl c6 ?_
          refine w_ls (ls' := [some (.ref 54), none, none]) (And.intro rfl trivial) ?_
          exact ok_Model_numberNow_j54 h
        · rw [if_neg c6] at h
          refine w_icmp_lt_f (q := 46) d_Model_numberNow_43 54 rfl rfl c6 ?_
          refine w_aload_n (q := 47) d_Model_numberNow_46 rfl rfl ?_
          refine w_get (q := 50) (ci := 12) (j := 16) d_Model_numberNow_47 rfl (by decide) fl_Model_152 (by decide) (by decide) s_54 rfl rfl ?_
          refine w_iload_n (q := 51) d_Model_numberNow_50 rfl rfl ?_
          by_cases c7 : (g 54 16) ≤ p1
          · rw [if_pos c7] at h
            refine w_icmp_le_t (q := 59) d_Model_numberNow_51 rfl c7 ?_
            refine w_ls (ls' := [some (.ref 54), none, none]) (And.intro rfl trivial) ?_
            exact ok_Model_numberNow_j59 h
          · rw [if_neg c7] at h
            refine w_icmp_le_f (q := 54) d_Model_numberNow_51 59 rfl rfl c7 ?_
            refine w_ls (ls' := [some (.ref 54), none, none]) (And.intro rfl trivial) ?_
            exact ok_Model_numberNow_j54 h
    · rw [if_neg c2] at h
      refine w_icmp_eq_f (q := 17) d_Model_numberNow_14 25 rfl rfl c2 ?_
      refine w_aload_n (q := 18) d_Model_numberNow_17 rfl rfl ?_
      refine w_iconst (q := 19) (v := 1) d_Model_numberNow_18 rfl (by decide) ?_
      obtain ⟨v8, hv, h⟩ := bnd h
      refine w_callVv (q := 22) (M' := M_Model_wrong) (n' := 0) (k := 54) (As := [.int 1]) (sh' := SH) (b1 := (0, 0)) d_Model_numberNow_19 rfl mw_Model_wrong (by decide) (by decide) ml_Model_189 (by decide) s_54 (by decide) rfl rfl rfl (leb rfl) (bz _) (fun _ => rfl) (ok_Model_wrong hv) ?_
      refine w_goto (q := 59) d_Model_numberNow_22 rfl ?_
      refine w_ls (ls' := [some (.ref 54), none, none]) (And.intro rfl trivial) ?_
      exact ok_Model_numberNow_j59 h
  · rw [if_neg c1] at h
    refine w_if_eq_f (q := 7) d_Model_numberNow_4 9 rfl rfl c1 ?_
    refine w_iconst (q := 8) (v := 0) d_Model_numberNow_7 rfl (by decide) ?_
    cases h
    exact w_ireturn d_Model_numberNow_8 rfl rfl ⟨rfl, rfl, rfl, rfl⟩
def sp_Model_readNumber (F : Nat) (p0 : Int32) (p1 : Int32) (g : Mem) : Option (Int32 × Mem) := (sp_Model_numberNow p0 p1 g).bind fun v1 => if (v1.2 54 19) = 0 then (sp_Model_stepOn F v1.2).bind fun v3 => some (v1.1, v3) else some (v1.1, v1.2)
theorem ok_Model_readNumber {γ : GG} {tt : Bool} {F : Nat} {p0 : Int32} {p1 : Int32} {g : Mem} {res : Int32 × Mem} (h : sp_Model_readNumber F p0 p1 g = some res) : CA γ M_Model_readNumber 2 [.ref 54, .int p0, .int p1] SH g tt (0, 0) (pI SH res.1 res.2 tt) := by
  refine CA.of mw_Model_readNumber.1 1 rfl ?_
  show WA γ M_Model_readNumber 2 0 [some (.ref 54), some (.int p0), some (.int p1), none] [] SH g tt (0, 0) (pI SH res.1 res.2 tt)
  unfold sp_Model_readNumber at h
  refine w_aload_n (q := 1) d_Model_readNumber_0 rfl rfl ?_
  refine w_iload_n (q := 2) d_Model_readNumber_1 rfl rfl ?_
  refine w_iload_n (q := 3) d_Model_readNumber_2 rfl rfl ?_
  obtain ⟨v1, hv, h⟩ := bnd h
  refine w_callVi (q := 6) (M' := M_Model_numberNow) (n' := 1) (k := 54) (As := [.int p0, .int p1]) (sh' := SH) (b1 := (0, 0)) d_Model_readNumber_3 rfl mw_Model_numberNow (by decide) (by decide) ml_Model_196 (by decide) s_54 (by decide) rfl rfl rfl (leb rfl) (bz _) (fun _ => rfl) (ok_Model_numberNow hv) ?_
  refine w_istore_n (q := 7) (ls' := [some (.ref 54), some (.int p0), some (.int p1), some (.int v1.1)]) d_Model_readNumber_6 rfl (by decide) rfl rfl ?_
  refine w_aload_n (q := 8) d_Model_readNumber_7 rfl rfl ?_
  refine w_get (q := 11) (ci := 12) (j := 19) d_Model_readNumber_8 rfl (by decide) fl_Model_168 (by decide) (by decide) s_54 rfl rfl ?_
  by_cases c2 : (v1.2 54 19) = 0
  · rw [if_pos c2] at h
    refine w_if_ne_f (q := 14) d_Model_readNumber_11 18 rfl rfl c2 ?_
    refine w_aload_n (q := 15) d_Model_readNumber_14 rfl rfl ?_
    obtain ⟨v3, hv, h⟩ := bnd h
    refine w_callVv (q := 18) (M' := M_Model_stepOn) (n' := 1) (k := 54) (As := []) (sh' := SH) (b1 := (0, 0)) d_Model_readNumber_15 rfl mw_Model_stepOn (by decide) (by decide) ml_Model_193 (by decide) s_54 (by decide) rfl rfl rfl (leb rfl) (bz _) (fun _ => rfl) (ok_Model_stepOn hv) ?_
    refine w_iload_n (q := 19) d_Model_readNumber_18 rfl rfl ?_
    cases h
    exact w_ireturn d_Model_readNumber_19 rfl rfl ⟨rfl, rfl, rfl, rfl⟩
  · rw [if_neg c2] at h
    refine w_if_ne_t (q := 18) d_Model_readNumber_11 rfl c2 ?_
    refine w_iload_n (q := 19) d_Model_readNumber_18 rfl rfl ?_
    cases h
    exact w_ireturn d_Model_readNumber_19 rfl rfl ⟨rfl, rfl, rfl, rfl⟩
def sp_Model_lay (p0 : Int32) (g : Mem) : Option (Mem) := if (g 54 19) = 0 then (rd g 58 12 11).bind fun v2 => (wr g 63 1400 (700 + v2) p0).bind fun g3 => (rd g3 58 12 11).bind fun v4 => (wr g3 58 12 11 (v4 + 1)).bind fun g5 => some g5 else some g
theorem ok_Model_lay {γ : GG} {tt : Bool} {p0 : Int32} {g : Mem} {res : Mem} (h : sp_Model_lay p0 g = some res) : CA γ M_Model_lay 0 [.ref 54, .int p0] SH g tt (0, 0) (pV SH res tt) := by
  refine CA.of mw_Model_lay.1 0 rfl ?_
  show WA γ M_Model_lay 0 0 [some (.ref 54), some (.int p0)] [] SH g tt (0, 0) (pV SH res tt)
  unfold sp_Model_lay at h
  refine w_aload_n (q := 1) d_Model_lay_0 rfl rfl ?_
  refine w_get (q := 4) (ci := 12) (j := 19) d_Model_lay_1 rfl (by decide) fl_Model_168 (by decide) (by decide) s_54 rfl rfl ?_
  by_cases c1 : (g 54 19) = 0
  · rw [if_pos c1] at h
    refine w_if_eq_t (q := 8) d_Model_lay_4 rfl c1 ?_
    refine w_aload_n (q := 9) d_Model_lay_8 rfl rfl ?_
    refine w_get (q := 12) (ci := 12) (j := 9) d_Model_lay_9 rfl (by decide) fl_Model_65 (by decide) (by decide) s_54 rfl rfl ?_
    refine w_sipush (q := 15) (v := 700) d_Model_lay_12 rfl (by decide) ?_
    refine w_aload_n (q := 16) d_Model_lay_15 rfl rfl ?_
    refine w_get (q := 19) (ci := 12) (j := 4) d_Model_lay_16 rfl (by decide) fl_Model_51 (by decide) (by decide) s_54 rfl rfl ?_
    refine w_bipush (q := 21) (v := 11) d_Model_lay_19 rfl (by decide) ?_
    obtain ⟨v2, hv, h⟩ := bnd h
    obtain ⟨hi, hv⟩ := rd_ok hv
    refine w_iald (q := 22) (t := 0) d_Model_lay_21 rfl a_58.2 a_58.1 hi rfl ?_
    rw [hv]
    refine w_iadd (q := 23) d_Model_lay_22 rfl ?_
    refine w_iload_n (q := 24) d_Model_lay_23 rfl rfl ?_
    obtain ⟨g3, hv, h⟩ := bnd h
    obtain ⟨hi, hv⟩ := wr_ok hv
    refine w_iast (q := 25) d_Model_lay_24 rfl a_63.2 a_63.1 hi hv ?_
    refine w_aload_n (q := 26) d_Model_lay_25 rfl rfl ?_
    refine w_get (q := 29) (ci := 12) (j := 4) d_Model_lay_26 rfl (by decide) fl_Model_51 (by decide) (by decide) s_54 rfl rfl ?_
    refine w_bipush (q := 31) (v := 11) d_Model_lay_29 rfl (by decide) ?_
    refine w_dup2 (q := 32) d_Model_lay_31 rfl rfl rfl ?_
    obtain ⟨v4, hv, h⟩ := bnd h
    obtain ⟨hi, hv⟩ := rd_ok hv
    refine w_iald (q := 33) (t := 0) d_Model_lay_32 rfl a_58.2 a_58.1 hi rfl ?_
    rw [hv]
    refine w_iconst (q := 34) (v := 1) d_Model_lay_33 rfl (by decide) ?_
    refine w_iadd (q := 35) d_Model_lay_34 rfl ?_
    obtain ⟨g5, hv, h⟩ := bnd h
    obtain ⟨hi, hv⟩ := wr_ok hv
    refine w_iast (q := 36) d_Model_lay_35 rfl a_58.2 a_58.1 hi hv ?_
    cases h
    exact w_return d_Model_lay_36 rfl ⟨rfl, rfl, rfl, rfl⟩
  · rw [if_neg c1] at h
    refine w_if_eq_f (q := 7) d_Model_lay_4 8 rfl rfl c1 ?_
    cases h
    exact w_return d_Model_lay_7 rfl ⟨rfl, rfl, rfl, rfl⟩
def sp_Model_readPart_j56 (F : Nat) (E : Int32 → Mem → Option Mem) (nE : Nat) (p0 : Int32) (g : Mem) (m0 : Mem) (x2 : Int32) : Option (Mem) := (sp_Model_lay ((-1) - x2) m0).bind fun v9 => if (v9 54 19) = 0 then (sp_Model_stepOn F v9).bind fun v11 => some v11 else some v9
theorem ok_Model_readPart_j56 {γ : GG} {tt : Bool} {F : Nat} {E : Int32 → Mem → Option Mem} {nE : Nat} {p0 : Int32} {g : Mem} {m0 : Mem} {x2 : Int32} (hE : ∀ {p0 : Int32} {g : Mem} {res : Mem}, E p0 g = some res → CA γ M_Model_readExpression (nE + 11) [.ref 54, .int p0] SH g tt (0, 0) (pV SH res tt)) {res : Mem} (h : sp_Model_readPart_j56 F E nE p0 g m0 x2 = some res) : WA γ M_Model_readPart (nE + 12) 56 [some (.ref 54), none, some (.int x2)] [] SH m0 tt (0, 0) (pV SH res tt) := by
  unfold sp_Model_readPart_j56 at h
  refine w_aload_n (q := 57) d_Model_readPart_56 rfl rfl ?_
  refine w_iconst (q := 58) (v := (-1)) d_Model_readPart_57 rfl (by decide) ?_
  refine w_iload_n (q := 59) d_Model_readPart_58 rfl rfl ?_
  refine w_isub (q := 60) d_Model_readPart_59 rfl ?_
  obtain ⟨v9, hv, h⟩ := bnd h
  refine w_callVv (q := 63) (M' := M_Model_lay) (n' := 0) (k := 54) (As := [.int ((-1) - x2)]) (sh' := SH) (b1 := (0, 0)) d_Model_readPart_60 rfl mw_Model_lay (by omega) (by decide) ml_Model_205 (by decide) s_54 (by decide) rfl rfl rfl (leb rfl) (bz _) (fun _ => rfl) (ok_Model_lay hv) ?_
  refine w_aload_n (q := 64) d_Model_readPart_63 rfl rfl ?_
  refine w_get (q := 67) (ci := 12) (j := 19) d_Model_readPart_64 rfl (by decide) fl_Model_168 (by decide) (by decide) s_54 rfl rfl ?_
  by_cases c10 : (v9 54 19) = 0
  · rw [if_pos c10] at h
    refine w_if_ne_f (q := 70) d_Model_readPart_67 74 rfl rfl c10 ?_
    refine w_aload_n (q := 71) d_Model_readPart_70 rfl rfl ?_
    obtain ⟨v11, hv, h⟩ := bnd h
    refine w_callVv (q := 74) (M' := M_Model_stepOn) (n' := 1) (k := 54) (As := []) (sh' := SH) (b1 := (0, 0)) d_Model_readPart_71 rfl mw_Model_stepOn (by omega) (by decide) ml_Model_193 (by decide) s_54 (by decide) rfl rfl rfl (leb rfl) (bz _) (fun _ => rfl) (ok_Model_stepOn hv) ?_
    cases h
    exact w_return d_Model_readPart_74 rfl ⟨rfl, rfl, rfl, rfl⟩
  · rw [if_neg c10] at h
    refine w_if_ne_t (q := 74) d_Model_readPart_67 rfl c10 ?_
    cases h
    exact w_return d_Model_readPart_74 rfl ⟨rfl, rfl, rfl, rfl⟩
def sp_Model_readPart (F : Nat) (E : Int32 → Mem → Option Mem) (nE : Nat) (p0 : Int32) (g : Mem) : Option (Mem) := if (g 54 19) = 0 then if (g 54 15) = 2 then (sp_Model_readNumber F 0 9999 g).bind fun v3 => (sp_Model_lay v3.1 v3.2).bind fun v4 => some v4 else if (g 54 15) = 1 then (sp_Model_which F 57 23 7 g).bind fun v6 => if v6 = (-1) then (sp_Model_wrong 3 g).bind fun v8 => sp_Model_readPart_j56 F E nE p0 g v8 v6 else sp_Model_readPart_j56 F E nE p0 g g v6 else (sp_Model_mark F 40 g).bind fun v12 => (E (p0 + 1) v12).bind fun v13 => (sp_Model_mark F 41 v13).bind fun v14 => some v14 else some g
theorem ok_Model_readPart {γ : GG} {tt : Bool} {F : Nat} {E : Int32 → Mem → Option Mem} {nE : Nat} {p0 : Int32} {g : Mem} (hE : ∀ {p0 : Int32} {g : Mem} {res : Mem}, E p0 g = some res → CA γ M_Model_readExpression (nE + 11) [.ref 54, .int p0] SH g tt (0, 0) (pV SH res tt)) {res : Mem} (h : sp_Model_readPart F E nE p0 g = some res) : CA γ M_Model_readPart (nE + 12) [.ref 54, .int p0] SH g tt (0, 0) (pV SH res tt) := by
  refine CA.of mw_Model_readPart.1 1 rfl ?_
  show WA γ M_Model_readPart (nE + 12) 0 [some (.ref 54), some (.int p0), none] [] SH g tt (0, 0) (pV SH res tt)
  unfold sp_Model_readPart at h
  refine w_aload_n (q := 1) d_Model_readPart_0 rfl rfl ?_
  refine w_get (q := 4) (ci := 12) (j := 19) d_Model_readPart_1 rfl (by decide) fl_Model_168 (by decide) (by decide) s_54 rfl rfl ?_
  by_cases c1 : (g 54 19) = 0
  · rw [if_pos c1] at h
    refine w_if_eq_t (q := 8) d_Model_readPart_4 rfl c1 ?_
    refine w_aload_n (q := 9) d_Model_readPart_8 rfl rfl ?_
    refine w_get (q := 12) (ci := 12) (j := 15) d_Model_readPart_9 rfl (by decide) fl_Model_142 (by decide) (by decide) s_54 rfl rfl ?_
    refine w_iconst (q := 13) (v := 2) d_Model_readPart_12 rfl (by decide) ?_
    by_cases c2 : (g 54 15) = 2
    · rw [if_pos c2] at h
      refine w_icmp_ne_f (q := 16) d_Model_readPart_13 29 rfl rfl c2 ?_
      refine w_aload_n (q := 17) d_Model_readPart_16 rfl rfl ?_
      refine w_aload_n (q := 18) d_Model_readPart_17 rfl rfl ?_
      refine w_iconst (q := 19) (v := 0) d_Model_readPart_18 rfl (by decide) ?_
      refine w_sipush (q := 22) (v := 9999) d_Model_readPart_19 rfl (by decide) ?_
      obtain ⟨v3, hv, h⟩ := bnd h
      refine w_callVi (q := 25) (M' := M_Model_readNumber) (n' := 2) (k := 54) (As := [.int 0, .int 9999]) (sh' := SH) (b1 := (0, 0)) d_Model_readPart_22 rfl mw_Model_readNumber (by omega) (by decide) ml_Model_202 (by decide) s_54 (by decide) rfl rfl rfl (leb rfl) (bz _) (fun _ => rfl) (ok_Model_readNumber hv) ?_
      obtain ⟨v4, hv, h⟩ := bnd h
      refine w_callVv (q := 28) (M' := M_Model_lay) (n' := 0) (k := 54) (As := [.int v3.1]) (sh' := SH) (b1 := (0, 0)) d_Model_readPart_25 rfl mw_Model_lay (by omega) (by decide) ml_Model_205 (by decide) s_54 (by decide) rfl rfl rfl (leb rfl) (bz _) (fun _ => rfl) (ok_Model_lay hv) ?_
      cases h
      exact w_return d_Model_readPart_28 rfl ⟨rfl, rfl, rfl, rfl⟩
    · rw [if_neg c2] at h
      refine w_icmp_ne_t (q := 29) d_Model_readPart_13 rfl c2 ?_
      refine w_aload_n (q := 30) d_Model_readPart_29 rfl rfl ?_
      refine w_get (q := 33) (ci := 12) (j := 15) d_Model_readPart_30 rfl (by decide) fl_Model_142 (by decide) (by decide) s_54 rfl rfl ?_
      refine w_iconst (q := 34) (v := 1) d_Model_readPart_33 rfl (by decide) ?_
      by_cases c5 : (g 54 15) = 1
      · rw [if_pos c5] at h
        refine w_icmp_ne_f (q := 37) d_Model_readPart_34 75 rfl rfl c5 ?_
        refine w_aload_n (q := 38) d_Model_readPart_37 rfl rfl ?_
        refine w_aload_n (q := 39) d_Model_readPart_38 rfl rfl ?_
        refine w_get (q := 42) (ci := 12) (j := 2) d_Model_readPart_39 rfl (by decide) fl_Model_48 (by decide) (by decide) s_54 rfl rfl ?_
        obtain ⟨v6, hv, h⟩ := bnd h
        refine w_callVi (q := 45) (M' := M_Model_which) (n' := 6) (k := 54) (As := [.ref 57]) (sh' := SH) (b1 := (0, 0)) d_Model_readPart_42 rfl mw_Model_which (by omega) (by decide) ml_Model_208 (by decide) s_54 (by decide) rfl rfl rfl (leb rfl) (bz _) (fun _ => rfl) (ok_Model_which t_57 hv) ?_
        refine w_istore_n (q := 46) (ls' := [some (.ref 54), some (.int p0), some (.int v6)]) d_Model_readPart_45 rfl (by decide) rfl rfl ?_
        refine w_iload_n (q := 47) d_Model_readPart_46 rfl rfl ?_
        refine w_iconst (q := 48) (v := (-1)) d_Model_readPart_47 rfl (by decide) ?_
        by_cases c7 : v6 = (-1)
        · rw [if_pos c7] at h
          refine w_icmp_ne_f (q := 51) d_Model_readPart_48 56 rfl rfl c7 ?_
          refine w_aload_n (q := 52) d_Model_readPart_51 rfl rfl ?_
          refine w_iconst (q := 53) (v := 3) d_Model_readPart_52 rfl (by decide) ?_
          obtain ⟨v8, hv, h⟩ := bnd h
          refine w_callVv (q := 56) (M' := M_Model_wrong) (n' := 0) (k := 54) (As := [.int 3]) (sh' := SH) (b1 := (0, 0)) d_Model_readPart_53 rfl mw_Model_wrong (by omega) (by decide) ml_Model_189 (by decide) s_54 (by decide) rfl rfl rfl (leb rfl) (bz _) (fun _ => rfl) (ok_Model_wrong hv) ?_
          refine w_ls (ls' := [some (.ref 54), none, some (.int v6)]) (And.intro rfl (And.intro rfl trivial)) ?_
          exact ok_Model_readPart_j56 hE h
        · rw [if_neg c7] at h
          refine w_icmp_ne_t (q := 56) d_Model_readPart_48 rfl c7 ?_
          refine w_ls (ls' := [some (.ref 54), none, some (.int v6)]) (And.intro rfl (And.intro rfl trivial)) ?_
          exact ok_Model_readPart_j56 hE h
      · rw [if_neg c5] at h
        refine w_icmp_ne_t (q := 75) d_Model_readPart_34 rfl c5 ?_
        refine w_aload_n (q := 76) d_Model_readPart_75 rfl rfl ?_
        refine w_bipush (q := 78) (v := 40) d_Model_readPart_76 rfl (by decide) ?_
        obtain ⟨v12, hv, h⟩ := bnd h
        refine w_callVv (q := 81) (M' := M_Model_mark) (n' := 2) (k := 54) (As := [.int 40]) (sh' := SH) (b1 := (0, 0)) d_Model_readPart_78 rfl mw_Model_mark (by omega) (by decide) ml_Model_212 (by decide) s_54 (by decide) rfl rfl rfl (leb rfl) (bz _) (fun _ => rfl) (ok_Model_mark hv) ?_
        refine w_aload_n (q := 82) d_Model_readPart_81 rfl rfl ?_
        refine w_iload_n (q := 83) d_Model_readPart_82 rfl rfl ?_
        refine w_iconst (q := 84) (v := 1) d_Model_readPart_83 rfl (by decide) ?_
        refine w_iadd (q := 85) d_Model_readPart_84 rfl ?_
        obtain ⟨v13, hv, h⟩ := bnd h
        refine w_callVv (q := 88) (M' := M_Model_readExpression) (n' := (nE + 11)) (k := 54) (As := [.int (p0 + 1)]) (sh' := SH) (b1 := (0, 0)) d_Model_readPart_85 rfl mw_Model_readExpression (by omega) (by decide) ml_Model_215 (by decide) s_54 (by decide) rfl rfl rfl (leb rfl) (bz _) (fun _ => rfl) (hE hv) ?_
        refine w_aload_n (q := 89) d_Model_readPart_88 rfl rfl ?_
        refine w_bipush (q := 91) (v := 41) d_Model_readPart_89 rfl (by decide) ?_
        obtain ⟨v14, hv, h⟩ := bnd h
        refine w_callVv (q := 94) (M' := M_Model_mark) (n' := 2) (k := 54) (As := [.int 41]) (sh' := SH) (b1 := (0, 0)) d_Model_readPart_91 rfl mw_Model_mark (by omega) (by decide) ml_Model_212 (by decide) s_54 (by decide) rfl rfl rfl (leb rfl) (bz _) (fun _ => rfl) (ok_Model_mark hv) ?_
        cases h
        exact w_return d_Model_readPart_94 rfl ⟨rfl, rfl, rfl, rfl⟩
  · rw [if_neg c1] at h
    refine w_if_eq_f (q := 7) d_Model_readPart_4 8 rfl rfl c1 ?_
    cases h
    exact w_return d_Model_readPart_7 rfl ⟨rfl, rfl, rfl, rfl⟩
def PL_Model_readProduct_5 (γ : GG) (tt : Bool) (nE : Nat) (p0 : Int32) (g : Mem) (k1 : Int32) (b : Nat × Nat) (Φ : PO) (s : Mem) : Prop := WA γ M_Model_readProduct (nE + 13) 5 [some (.ref 54), some (.int k1), none] [] SH s tt b Φ
def QL_Model_readProduct_5 (γ : GG) (tt : Bool) (nE : Nat) (p0 : Int32) (g : Mem) (k1 : Int32) (b : Nat × Nat) (Φ : PO) (x : (Mem)) : Prop := WA γ M_Model_readProduct (nE + 13) 57 [none, none, none] [] SH x tt b Φ
def sp_Model_readProduct_j39_5 (F : Nat) (E : Int32 → Mem → Option Mem) (nE : Nat) (p0 : Int32) (k1 : Int32) (g : Mem) (m0 : Mem) (y0 : Int32) : Option ((Mem) ⊕ ((Mem))) := (sp_Model_stepOn F m0).bind fun v8 => (sp_Model_readPart F E nE k1 v8).bind fun v9 => (sp_Model_lay y0 v9).bind fun v10 => some (.inl v10)
theorem ok_Model_readProduct_j39_5 {γ : GG} {tt : Bool} {F : Nat} {E : Int32 → Mem → Option Mem} {nE : Nat} {p0 : Int32} {k1 : Int32} {g : Mem} {m0 : Mem} {y0 : Int32} {b : Nat × Nat} {Φ : PO} (hE : ∀ {p0 : Int32} {g : Mem} {res : Mem}, E p0 g = some res → CA γ M_Model_readExpression (nE + 11) [.ref 54, .int p0] SH g tt (0, 0) (pV SH res tt)) {r : (Mem) ⊕ ((Mem))} (h : sp_Model_readProduct_j39_5 F E nE p0 k1 g m0 y0 = some r) (hr : RQ (PL_Model_readProduct_5 γ tt nE p0 g k1 b Φ) (QL_Model_readProduct_5 γ tt nE p0 g k1 b Φ) r) : WA γ M_Model_readProduct (nE + 13) 39 [some (.ref 54), some (.int k1), none] [.int y0] SH m0 tt b Φ := by
  unfold sp_Model_readProduct_j39_5 at h
  refine w_istore_n (q := 40) (ls' := [some (.ref 54), some (.int k1), some (.int y0)]) d_Model_readProduct_39 rfl (by decide) rfl rfl ?_
  refine w_aload_n (q := 41) d_Model_readProduct_40 rfl rfl ?_
  obtain ⟨v8, hv, h⟩ := bnd h
  refine w_callVv (q := 44) (M' := M_Model_stepOn) (n' := 1) (k := 54) (As := []) (sh' := SH) (b1 := (0, 0)) d_Model_readProduct_41 rfl mw_Model_stepOn (by omega) (by decide) ml_Model_193 (by decide) s_54 (by decide) rfl rfl rfl (leb rfl) (bz _) (fun _ => rfl) (ok_Model_stepOn hv) ?_
  refine w_aload_n (q := 45) d_Model_readProduct_44 rfl rfl ?_
  refine w_iload_n (q := 46) d_Model_readProduct_45 rfl rfl ?_
  obtain ⟨v9, hv, h⟩ := bnd h
  refine w_callVv (q := 49) (M' := M_Model_readPart) (n' := (nE + 12)) (k := 54) (As := [.int k1]) (sh' := SH) (b1 := (0, 0)) d_Model_readProduct_46 rfl mw_Model_readPart (by omega) (by decide) ml_Model_218 (by decide) s_54 (by decide) rfl rfl rfl (leb rfl) (bz _) (fun _ => rfl) (ok_Model_readPart hE hv) ?_
  refine w_aload_n (q := 50) d_Model_readProduct_49 rfl rfl ?_
  refine w_iload_n (q := 51) d_Model_readProduct_50 rfl rfl ?_
  obtain ⟨v10, hv, h⟩ := bnd h
  refine w_callVv (q := 54) (M' := M_Model_lay) (n' := 0) (k := 54) (As := [.int y0]) (sh' := SH) (b1 := (0, 0)) d_Model_readProduct_51 rfl mw_Model_lay (by omega) (by decide) ml_Model_205 (by decide) s_54 (by decide) rfl rfl rfl (leb rfl) (bz _) (fun _ => rfl) (ok_Model_lay hv) ?_
  refine w_goto (q := 5) d_Model_readProduct_54 rfl ?_
  cases h
  exact w_ls (by exact (And.intro rfl (And.intro rfl trivial))) hr
def sp_Model_readProduct_j23_5 (F : Nat) (E : Int32 → Mem → Option Mem) (nE : Nat) (p0 : Int32) (k1 : Int32) (g : Mem) (m0 : Mem) : Option ((Mem) ⊕ ((Mem))) := (sp_Model_isMarked 42 m0).bind fun v6 => if v6 = 0 then sp_Model_readProduct_j39_5 F E nE p0 k1 g m0 (-23) else sp_Model_readProduct_j39_5 F E nE p0 k1 g m0 (-22)
theorem ok_Model_readProduct_j23_5 {γ : GG} {tt : Bool} {F : Nat} {E : Int32 → Mem → Option Mem} {nE : Nat} {p0 : Int32} {k1 : Int32} {g : Mem} {m0 : Mem} {b : Nat × Nat} {Φ : PO} (hE : ∀ {p0 : Int32} {g : Mem} {res : Mem}, E p0 g = some res → CA γ M_Model_readExpression (nE + 11) [.ref 54, .int p0] SH g tt (0, 0) (pV SH res tt)) {r : (Mem) ⊕ ((Mem))} (h : sp_Model_readProduct_j23_5 F E nE p0 k1 g m0  = some r) (hr : RQ (PL_Model_readProduct_5 γ tt nE p0 g k1 b Φ) (QL_Model_readProduct_5 γ tt nE p0 g k1 b Φ) r) : WA γ M_Model_readProduct (nE + 13) 23 [some (.ref 54), some (.int k1), none] [] SH m0 tt b Φ := by
  unfold sp_Model_readProduct_j23_5 at h
  refine w_aload_n (q := 24) d_Model_readProduct_23 rfl rfl ?_
  refine w_bipush (q := 26) (v := 42) d_Model_readProduct_24 rfl (by decide) ?_
  obtain ⟨v6, hv, h⟩ := bnd h
  refine w_callVi (q := 29) (M' := M_Model_isMarked) (n' := 0) (k := 54) (As := [.int 42]) (sh' := SH) (b1 := (0, 0)) d_Model_readProduct_26 rfl mw_Model_isMarked (by omega) (by decide) ml_Model_186 (by decide) s_54 (by decide) rfl rfl rfl (leb rfl) (bz _) (fun _ => rfl) (ok_Model_isMarked hv) ?_
  by_cases c7 : v6 = 0
  · rw [if_pos c7] at h
    refine w_if_eq_t (q := 37) d_Model_readProduct_29 rfl c7 ?_
    refine w_bipush (q := 39) (v := (-23)) d_Model_readProduct_37 rfl (by decide) ?_
    refine w_ls (ls' := [some (.ref 54), some (.int k1), none]) (And.intro rfl (And.intro rfl trivial)) ?_
    exact ok_Model_readProduct_j39_5 hE h hr
  · rw [if_neg c7] at h
    refine w_if_eq_f (q := 32) d_Model_readProduct_29 37 rfl rfl c7 ?_
    refine w_bipush (q := 34) (v := (-22)) d_Model_readProduct_32 rfl (by decide) ?_
    refine w_goto (q := 39) d_Model_readProduct_34 rfl ?_
    refine w_ls (ls' := [some (.ref 54), some (.int k1), none]) (And.intro rfl (And.intro rfl trivial)) ?_
    exact ok_Model_readProduct_j39_5 hE h hr
def st_Model_readProduct_5 (F : Nat) (E : Int32 → Mem → Option Mem) (nE : Nat) (p0 : Int32) (g : Mem) (k1 : Int32) (s : Mem) : Option ((Mem) ⊕ ((Mem))) := (sp_Model_isMarked 42 s).bind fun v2 => if v2 = 0 then (sp_Model_isMarked 47 s).bind fun v4 => if v4 = 0 then some (.inr s) else sp_Model_readProduct_j23_5 F E nE p0 k1 g s else sp_Model_readProduct_j23_5 F E nE p0 k1 g s
theorem kl_Model_readProduct_5 {γ : GG} {tt : Bool} {F : Nat} {E : Int32 → Mem → Option Mem} {nE : Nat} {p0 : Int32} {g : Mem} {k1 : Int32} {b : Nat × Nat} {Φ : PO} (hE : ∀ {p0 : Int32} {g : Mem} {res : Mem}, E p0 g = some res → CA γ M_Model_readExpression (nE + 11) [.ref 54, .int p0] SH g tt (0, 0) (pV SH res tt)) : ∀ (s : Mem) (r : (Mem) ⊕ ((Mem))), st_Model_readProduct_5 F E nE p0 g k1 s = some r → RQ (PL_Model_readProduct_5 γ tt nE p0 g k1 b Φ) (QL_Model_readProduct_5 γ tt nE p0 g k1 b Φ) r → PL_Model_readProduct_5 γ tt nE p0 g k1 b Φ s := by
  intro s r h hr
  unfold st_Model_readProduct_5 at h
  unfold PL_Model_readProduct_5
  refine w_aload_n (q := 6) d_Model_readProduct_5 rfl rfl ?_
  refine w_bipush (q := 8) (v := 42) d_Model_readProduct_6 rfl (by decide) ?_
  obtain ⟨v2, hv, h⟩ := bnd h
  refine w_callVi (q := 11) (M' := M_Model_isMarked) (n' := 0) (k := 54) (As := [.int 42]) (sh' := SH) (b1 := (0, 0)) d_Model_readProduct_8 rfl mw_Model_isMarked (by omega) (by decide) ml_Model_186 (by decide) s_54 (by decide) rfl rfl rfl (leb rfl) (bz _) (fun _ => rfl) (ok_Model_isMarked hv) ?_
  by_cases c3 : v2 = 0
  · rw [if_pos c3] at h
    refine w_if_ne_f (q := 14) d_Model_readProduct_11 23 rfl rfl c3 ?_
    refine w_aload_n (q := 15) d_Model_readProduct_14 rfl rfl ?_
    refine w_bipush (q := 17) (v := 47) d_Model_readProduct_15 rfl (by decide) ?_
    obtain ⟨v4, hv, h⟩ := bnd h
    refine w_callVi (q := 20) (M' := M_Model_isMarked) (n' := 0) (k := 54) (As := [.int 47]) (sh' := SH) (b1 := (0, 0)) d_Model_readProduct_17 rfl mw_Model_isMarked (by omega) (by decide) ml_Model_186 (by decide) s_54 (by decide) rfl rfl rfl (leb rfl) (bz _) (fun _ => rfl) (ok_Model_isMarked hv) ?_
    by_cases c5 : v4 = 0
    · rw [if_pos c5] at h
      refine w_if_eq_t (q := 57) d_Model_readProduct_20 rfl c5 ?_
      cases h
      exact w_ls (by exact trivial) hr
    · rw [if_neg c5] at h
      refine w_if_eq_f (q := 23) d_Model_readProduct_20 57 rfl rfl c5 ?_
      refine w_ls (ls' := [some (.ref 54), some (.int k1), none]) (And.intro rfl (And.intro rfl trivial)) ?_
      exact ok_Model_readProduct_j23_5 hE h hr
  · rw [if_neg c3] at h
    refine w_if_ne_t (q := 23) d_Model_readProduct_11 rfl c3 ?_
    refine w_ls (ls' := [some (.ref 54), some (.int k1), none]) (And.intro rfl (And.intro rfl trivial)) ?_
    exact ok_Model_readProduct_j23_5 hE h hr
def sp_Model_readProduct (F : Nat) (E : Int32 → Mem → Option Mem) (nE : Nat) (p0 : Int32) (g : Mem) : Option (Mem) := (sp_Model_readPart F E nE p0 g).bind fun v1 => (lpO (st_Model_readProduct_5 F E nE p0 g p0) F v1).bind fun x11 => some x11
theorem ok_Model_readProduct {γ : GG} {tt : Bool} {F : Nat} {E : Int32 → Mem → Option Mem} {nE : Nat} {p0 : Int32} {g : Mem} (hE : ∀ {p0 : Int32} {g : Mem} {res : Mem}, E p0 g = some res → CA γ M_Model_readExpression (nE + 11) [.ref 54, .int p0] SH g tt (0, 0) (pV SH res tt)) {res : Mem} (h : sp_Model_readProduct F E nE p0 g = some res) : CA γ M_Model_readProduct (nE + 13) [.ref 54, .int p0] SH g tt (0, 0) (pV SH res tt) := by
  refine CA.of mw_Model_readProduct.1 1 rfl ?_
  show WA γ M_Model_readProduct (nE + 13) 0 [some (.ref 54), some (.int p0), none] [] SH g tt (0, 0) (pV SH res tt)
  unfold sp_Model_readProduct at h
  refine w_aload_n (q := 1) d_Model_readProduct_0 rfl rfl ?_
  refine w_iload_n (q := 2) d_Model_readProduct_1 rfl rfl ?_
  obtain ⟨v1, hv, h⟩ := bnd h
  refine w_callVv (q := 5) (M' := M_Model_readPart) (n' := (nE + 12)) (k := 54) (As := [.int p0]) (sh' := SH) (b1 := (0, 0)) d_Model_readProduct_2 rfl mw_Model_readPart (by omega) (by decide) ml_Model_218 (by decide) s_54 (by decide) rfl rfl rfl (leb rfl) (bz _) (fun _ => rfl) (ok_Model_readPart hE hv) ?_
  obtain ⟨x11, hx, h⟩ := bnd h
  refine w_ls (ls' := [some (.ref 54), some (.int p0), none]) (And.intro rfl (And.intro rfl trivial)) ?_
  show PL_Model_readProduct_5 γ tt nE p0 g p0 _ _ v1
  refine lp_ok (kl_Model_readProduct_5 hE) F _ x11 hx ?_
  unfold QL_Model_readProduct_5
  cases h
  exact w_return d_Model_readProduct_57 rfl ⟨rfl, rfl, rfl, rfl⟩
def PL_Model_readSum_5 (γ : GG) (tt : Bool) (nE : Nat) (p0 : Int32) (g : Mem) (k1 : Int32) (b : Nat × Nat) (Φ : PO) (s : Mem) : Prop := WA γ M_Model_readSum (nE + 14) 5 [some (.ref 54), some (.int k1), none] [] SH s tt b Φ
def QL_Model_readSum_5 (γ : GG) (tt : Bool) (nE : Nat) (p0 : Int32) (g : Mem) (k1 : Int32) (b : Nat × Nat) (Φ : PO) (x : (Mem)) : Prop := WA γ M_Model_readSum (nE + 14) 57 [none, none, none] [] SH x tt b Φ
def sp_Model_readSum_j39_5 (F : Nat) (E : Int32 → Mem → Option Mem) (nE : Nat) (p0 : Int32) (k1 : Int32) (g : Mem) (m0 : Mem) (y0 : Int32) : Option ((Mem) ⊕ ((Mem))) := (sp_Model_stepOn F m0).bind fun v8 => (sp_Model_readProduct F E nE k1 v8).bind fun v9 => (sp_Model_lay y0 v9).bind fun v10 => some (.inl v10)
theorem ok_Model_readSum_j39_5 {γ : GG} {tt : Bool} {F : Nat} {E : Int32 → Mem → Option Mem} {nE : Nat} {p0 : Int32} {k1 : Int32} {g : Mem} {m0 : Mem} {y0 : Int32} {b : Nat × Nat} {Φ : PO} (hE : ∀ {p0 : Int32} {g : Mem} {res : Mem}, E p0 g = some res → CA γ M_Model_readExpression (nE + 11) [.ref 54, .int p0] SH g tt (0, 0) (pV SH res tt)) {r : (Mem) ⊕ ((Mem))} (h : sp_Model_readSum_j39_5 F E nE p0 k1 g m0 y0 = some r) (hr : RQ (PL_Model_readSum_5 γ tt nE p0 g k1 b Φ) (QL_Model_readSum_5 γ tt nE p0 g k1 b Φ) r) : WA γ M_Model_readSum (nE + 14) 39 [some (.ref 54), some (.int k1), none] [.int y0] SH m0 tt b Φ := by
  unfold sp_Model_readSum_j39_5 at h
  refine w_istore_n (q := 40) (ls' := [some (.ref 54), some (.int k1), some (.int y0)]) d_Model_readSum_39 rfl (by decide) rfl rfl ?_
  refine w_aload_n (q := 41) d_Model_readSum_40 rfl rfl ?_
  obtain ⟨v8, hv, h⟩ := bnd h
  refine w_callVv (q := 44) (M' := M_Model_stepOn) (n' := 1) (k := 54) (As := []) (sh' := SH) (b1 := (0, 0)) d_Model_readSum_41 rfl mw_Model_stepOn (by omega) (by decide) ml_Model_193 (by decide) s_54 (by decide) rfl rfl rfl (leb rfl) (bz _) (fun _ => rfl) (ok_Model_stepOn hv) ?_
  refine w_aload_n (q := 45) d_Model_readSum_44 rfl rfl ?_
  refine w_iload_n (q := 46) d_Model_readSum_45 rfl rfl ?_
  obtain ⟨v9, hv, h⟩ := bnd h
  refine w_callVv (q := 49) (M' := M_Model_readProduct) (n' := (nE + 13)) (k := 54) (As := [.int k1]) (sh' := SH) (b1 := (0, 0)) d_Model_readSum_46 rfl mw_Model_readProduct (by omega) (by decide) ml_Model_221 (by decide) s_54 (by decide) rfl rfl rfl (leb rfl) (bz _) (fun _ => rfl) (ok_Model_readProduct hE hv) ?_
  refine w_aload_n (q := 50) d_Model_readSum_49 rfl rfl ?_
  refine w_iload_n (q := 51) d_Model_readSum_50 rfl rfl ?_
  obtain ⟨v10, hv, h⟩ := bnd h
  refine w_callVv (q := 54) (M' := M_Model_lay) (n' := 0) (k := 54) (As := [.int y0]) (sh' := SH) (b1 := (0, 0)) d_Model_readSum_51 rfl mw_Model_lay (by omega) (by decide) ml_Model_205 (by decide) s_54 (by decide) rfl rfl rfl (leb rfl) (bz _) (fun _ => rfl) (ok_Model_lay hv) ?_
  refine w_goto (q := 5) d_Model_readSum_54 rfl ?_
  cases h
  exact w_ls (by exact (And.intro rfl (And.intro rfl trivial))) hr
def sp_Model_readSum_j23_5 (F : Nat) (E : Int32 → Mem → Option Mem) (nE : Nat) (p0 : Int32) (k1 : Int32) (g : Mem) (m0 : Mem) : Option ((Mem) ⊕ ((Mem))) := (sp_Model_isMarked 43 m0).bind fun v6 => if v6 = 0 then sp_Model_readSum_j39_5 F E nE p0 k1 g m0 (-21) else sp_Model_readSum_j39_5 F E nE p0 k1 g m0 (-20)
theorem ok_Model_readSum_j23_5 {γ : GG} {tt : Bool} {F : Nat} {E : Int32 → Mem → Option Mem} {nE : Nat} {p0 : Int32} {k1 : Int32} {g : Mem} {m0 : Mem} {b : Nat × Nat} {Φ : PO} (hE : ∀ {p0 : Int32} {g : Mem} {res : Mem}, E p0 g = some res → CA γ M_Model_readExpression (nE + 11) [.ref 54, .int p0] SH g tt (0, 0) (pV SH res tt)) {r : (Mem) ⊕ ((Mem))} (h : sp_Model_readSum_j23_5 F E nE p0 k1 g m0  = some r) (hr : RQ (PL_Model_readSum_5 γ tt nE p0 g k1 b Φ) (QL_Model_readSum_5 γ tt nE p0 g k1 b Φ) r) : WA γ M_Model_readSum (nE + 14) 23 [some (.ref 54), some (.int k1), none] [] SH m0 tt b Φ := by
  unfold sp_Model_readSum_j23_5 at h
  refine w_aload_n (q := 24) d_Model_readSum_23 rfl rfl ?_
  refine w_bipush (q := 26) (v := 43) d_Model_readSum_24 rfl (by decide) ?_
  obtain ⟨v6, hv, h⟩ := bnd h
  refine w_callVi (q := 29) (M' := M_Model_isMarked) (n' := 0) (k := 54) (As := [.int 43]) (sh' := SH) (b1 := (0, 0)) d_Model_readSum_26 rfl mw_Model_isMarked (by omega) (by decide) ml_Model_186 (by decide) s_54 (by decide) rfl rfl rfl (leb rfl) (bz _) (fun _ => rfl) (ok_Model_isMarked hv) ?_
  by_cases c7 : v6 = 0
  · rw [if_pos c7] at h
    refine w_if_eq_t (q := 37) d_Model_readSum_29 rfl c7 ?_
    refine w_bipush (q := 39) (v := (-21)) d_Model_readSum_37 rfl (by decide) ?_
    refine w_ls (ls' := [some (.ref 54), some (.int k1), none]) (And.intro rfl (And.intro rfl trivial)) ?_
    exact ok_Model_readSum_j39_5 hE h hr
  · rw [if_neg c7] at h
    refine w_if_eq_f (q := 32) d_Model_readSum_29 37 rfl rfl c7 ?_
    refine w_bipush (q := 34) (v := (-20)) d_Model_readSum_32 rfl (by decide) ?_
    refine w_goto (q := 39) d_Model_readSum_34 rfl ?_
    refine w_ls (ls' := [some (.ref 54), some (.int k1), none]) (And.intro rfl (And.intro rfl trivial)) ?_
    exact ok_Model_readSum_j39_5 hE h hr
def st_Model_readSum_5 (F : Nat) (E : Int32 → Mem → Option Mem) (nE : Nat) (p0 : Int32) (g : Mem) (k1 : Int32) (s : Mem) : Option ((Mem) ⊕ ((Mem))) := (sp_Model_isMarked 43 s).bind fun v2 => if v2 = 0 then (sp_Model_isMarked 45 s).bind fun v4 => if v4 = 0 then some (.inr s) else sp_Model_readSum_j23_5 F E nE p0 k1 g s else sp_Model_readSum_j23_5 F E nE p0 k1 g s
theorem kl_Model_readSum_5 {γ : GG} {tt : Bool} {F : Nat} {E : Int32 → Mem → Option Mem} {nE : Nat} {p0 : Int32} {g : Mem} {k1 : Int32} {b : Nat × Nat} {Φ : PO} (hE : ∀ {p0 : Int32} {g : Mem} {res : Mem}, E p0 g = some res → CA γ M_Model_readExpression (nE + 11) [.ref 54, .int p0] SH g tt (0, 0) (pV SH res tt)) : ∀ (s : Mem) (r : (Mem) ⊕ ((Mem))), st_Model_readSum_5 F E nE p0 g k1 s = some r → RQ (PL_Model_readSum_5 γ tt nE p0 g k1 b Φ) (QL_Model_readSum_5 γ tt nE p0 g k1 b Φ) r → PL_Model_readSum_5 γ tt nE p0 g k1 b Φ s := by
  intro s r h hr
  unfold st_Model_readSum_5 at h
  unfold PL_Model_readSum_5
  refine w_aload_n (q := 6) d_Model_readSum_5 rfl rfl ?_
  refine w_bipush (q := 8) (v := 43) d_Model_readSum_6 rfl (by decide) ?_
  obtain ⟨v2, hv, h⟩ := bnd h
  refine w_callVi (q := 11) (M' := M_Model_isMarked) (n' := 0) (k := 54) (As := [.int 43]) (sh' := SH) (b1 := (0, 0)) d_Model_readSum_8 rfl mw_Model_isMarked (by omega) (by decide) ml_Model_186 (by decide) s_54 (by decide) rfl rfl rfl (leb rfl) (bz _) (fun _ => rfl) (ok_Model_isMarked hv) ?_
  by_cases c3 : v2 = 0
  · rw [if_pos c3] at h
    refine w_if_ne_f (q := 14) d_Model_readSum_11 23 rfl rfl c3 ?_
    refine w_aload_n (q := 15) d_Model_readSum_14 rfl rfl ?_
    refine w_bipush (q := 17) (v := 45) d_Model_readSum_15 rfl (by decide) ?_
    obtain ⟨v4, hv, h⟩ := bnd h
    refine w_callVi (q := 20) (M' := M_Model_isMarked) (n' := 0) (k := 54) (As := [.int 45]) (sh' := SH) (b1 := (0, 0)) d_Model_readSum_17 rfl mw_Model_isMarked (by omega) (by decide) ml_Model_186 (by decide) s_54 (by decide) rfl rfl rfl (leb rfl) (bz _) (fun _ => rfl) (ok_Model_isMarked hv) ?_
    by_cases c5 : v4 = 0
    · rw [if_pos c5] at h
      refine w_if_eq_t (q := 57) d_Model_readSum_20 rfl c5 ?_
      cases h
      exact w_ls (by exact trivial) hr
    · rw [if_neg c5] at h
      refine w_if_eq_f (q := 23) d_Model_readSum_20 57 rfl rfl c5 ?_
      refine w_ls (ls' := [some (.ref 54), some (.int k1), none]) (And.intro rfl (And.intro rfl trivial)) ?_
      exact ok_Model_readSum_j23_5 hE h hr
  · rw [if_neg c3] at h
    refine w_if_ne_t (q := 23) d_Model_readSum_11 rfl c3 ?_
    refine w_ls (ls' := [some (.ref 54), some (.int k1), none]) (And.intro rfl (And.intro rfl trivial)) ?_
    exact ok_Model_readSum_j23_5 hE h hr
def sp_Model_readSum (F : Nat) (E : Int32 → Mem → Option Mem) (nE : Nat) (p0 : Int32) (g : Mem) : Option (Mem) := (sp_Model_readProduct F E nE p0 g).bind fun v1 => (lpO (st_Model_readSum_5 F E nE p0 g p0) F v1).bind fun x11 => some x11
theorem ok_Model_readSum {γ : GG} {tt : Bool} {F : Nat} {E : Int32 → Mem → Option Mem} {nE : Nat} {p0 : Int32} {g : Mem} (hE : ∀ {p0 : Int32} {g : Mem} {res : Mem}, E p0 g = some res → CA γ M_Model_readExpression (nE + 11) [.ref 54, .int p0] SH g tt (0, 0) (pV SH res tt)) {res : Mem} (h : sp_Model_readSum F E nE p0 g = some res) : CA γ M_Model_readSum (nE + 14) [.ref 54, .int p0] SH g tt (0, 0) (pV SH res tt) := by
  refine CA.of mw_Model_readSum.1 1 rfl ?_
  show WA γ M_Model_readSum (nE + 14) 0 [some (.ref 54), some (.int p0), none] [] SH g tt (0, 0) (pV SH res tt)
  unfold sp_Model_readSum at h
  refine w_aload_n (q := 1) d_Model_readSum_0 rfl rfl ?_
  refine w_iload_n (q := 2) d_Model_readSum_1 rfl rfl ?_
  obtain ⟨v1, hv, h⟩ := bnd h
  refine w_callVv (q := 5) (M' := M_Model_readProduct) (n' := (nE + 13)) (k := 54) (As := [.int p0]) (sh' := SH) (b1 := (0, 0)) d_Model_readSum_2 rfl mw_Model_readProduct (by omega) (by decide) ml_Model_221 (by decide) s_54 (by decide) rfl rfl rfl (leb rfl) (bz _) (fun _ => rfl) (ok_Model_readProduct hE hv) ?_
  obtain ⟨x11, hx, h⟩ := bnd h
  refine w_ls (ls' := [some (.ref 54), some (.int p0), none]) (And.intro rfl (And.intro rfl trivial)) ?_
  show PL_Model_readSum_5 γ tt nE p0 g p0 _ _ v1
  refine lp_ok (kl_Model_readSum_5 hE) F _ x11 hx ?_
  unfold QL_Model_readSum_5
  cases h
  exact w_return d_Model_readSum_57 rfl ⟨rfl, rfl, rfl, rfl⟩
def PL_Model_readNot_2 (γ : GG) (tt : Bool) (nE : Nat) (p0 : Int32) (g : Mem) (k1 : Int32) (b : Nat × Nat) (Φ : PO) (s : Int32 × Mem) : Prop := WA γ M_Model_readNot (nE + 16) 2 [some (.ref 54), some (.int k1), some (.int s.1), none] [] SH s.2 tt b Φ
def QL_Model_readNot_2 (γ : GG) (tt : Bool) (nE : Nat) (p0 : Int32) (g : Mem) (k1 : Int32) (b : Nat × Nat) (Φ : PO) (x : (Int32 × Mem)) : Prop := WA γ M_Model_readNot (nE + 16) 39 [some (.ref 54), some (.int k1), some (.int x.1), none] [] SH x.2 tt b Φ
def sp_Model_readNot_j22_2 (F : Nat) (E : Int32 → Mem → Option Mem) (nE : Nat) (p0 : Int32) (k1 : Int32) (g : Mem) (m0 : Mem) (x2 : Int32) : Option ((Int32 × Mem) ⊕ ((Int32 × Mem))) := if (m0 54 19) = 0 then (sp_Model_stepOn F m0).bind fun v6 => some (.inl (x2 + 1, v6)) else some (.inl (x2 + 1, m0))
theorem ok_Model_readNot_j22_2 {γ : GG} {tt : Bool} {F : Nat} {E : Int32 → Mem → Option Mem} {nE : Nat} {p0 : Int32} {k1 : Int32} {g : Mem} {m0 : Mem} {x2 : Int32} {b : Nat × Nat} {Φ : PO} (hE : ∀ {p0 : Int32} {g : Mem} {res : Mem}, E p0 g = some res → CA γ M_Model_readExpression (nE + 11) [.ref 54, .int p0] SH g tt (0, 0) (pV SH res tt)) {r : (Int32 × Mem) ⊕ ((Int32 × Mem))} (h : sp_Model_readNot_j22_2 F E nE p0 k1 g m0 x2 = some r) (hr : RQ (PL_Model_readNot_2 γ tt nE p0 g k1 b Φ) (QL_Model_readNot_2 γ tt nE p0 g k1 b Φ) r) : WA γ M_Model_readNot (nE + 16) 22 [some (.ref 54), some (.int k1), some (.int x2), none] [] SH m0 tt b Φ := by
  unfold sp_Model_readNot_j22_2 at h
  refine w_iinc (q := 25) (ls' := [some (.ref 54), some (.int k1), some (.int (x2 + 1)), none]) d_Model_readNot_22 rfl (by decide) rfl rfl rfl ?_
  refine w_aload_n (q := 26) d_Model_readNot_25 rfl rfl ?_
  refine w_get (q := 29) (ci := 12) (j := 19) d_Model_readNot_26 rfl (by decide) fl_Model_168 (by decide) (by decide) s_54 rfl rfl ?_
  by_cases c5 : (m0 54 19) = 0
  · rw [if_pos c5] at h
    refine w_if_ne_f (q := 32) d_Model_readNot_29 2 rfl rfl c5 ?_
    refine w_aload_n (q := 33) d_Model_readNot_32 rfl rfl ?_
    obtain ⟨v6, hv, h⟩ := bnd h
    refine w_callVv (q := 36) (M' := M_Model_stepOn) (n' := 1) (k := 54) (As := []) (sh' := SH) (b1 := (0, 0)) d_Model_readNot_33 rfl mw_Model_stepOn (by omega) (by decide) ml_Model_193 (by decide) s_54 (by decide) rfl rfl rfl (leb rfl) (bz _) (fun _ => rfl) (ok_Model_stepOn hv) ?_
    refine w_goto (q := 2) d_Model_readNot_36 rfl ?_
    cases h
    exact w_ls (by exact (And.intro rfl (And.intro rfl (And.intro rfl trivial)))) hr
  · rw [if_neg c5] at h
    refine w_if_ne_t (q := 2) d_Model_readNot_29 rfl c5 ?_
    cases h
    exact w_ls (by exact (And.intro rfl (And.intro rfl (And.intro rfl trivial)))) hr
def st_Model_readNot_2 (F : Nat) (E : Int32 → Mem → Option Mem) (nE : Nat) (p0 : Int32) (g : Mem) (k1 : Int32) (s : Int32 × Mem) : Option ((Int32 × Mem) ⊕ ((Int32 × Mem))) := (sp_Model_is F 33 s.2).bind fun v1 => if v1 = 0 then some (.inr (s.1, s.2)) else if s.1 = 6 then (sp_Model_wrong 2 s.2).bind fun v4 => sp_Model_readNot_j22_2 F E nE p0 k1 g v4 s.1 else sp_Model_readNot_j22_2 F E nE p0 k1 g s.2 s.1
theorem kl_Model_readNot_2 {γ : GG} {tt : Bool} {F : Nat} {E : Int32 → Mem → Option Mem} {nE : Nat} {p0 : Int32} {g : Mem} {k1 : Int32} {b : Nat × Nat} {Φ : PO} (hE : ∀ {p0 : Int32} {g : Mem} {res : Mem}, E p0 g = some res → CA γ M_Model_readExpression (nE + 11) [.ref 54, .int p0] SH g tt (0, 0) (pV SH res tt)) : ∀ (s : Int32 × Mem) (r : (Int32 × Mem) ⊕ ((Int32 × Mem))), st_Model_readNot_2 F E nE p0 g k1 s = some r → RQ (PL_Model_readNot_2 γ tt nE p0 g k1 b Φ) (QL_Model_readNot_2 γ tt nE p0 g k1 b Φ) r → PL_Model_readNot_2 γ tt nE p0 g k1 b Φ s := by
  intro s r h hr
  unfold st_Model_readNot_2 at h
  unfold PL_Model_readNot_2
  refine w_aload_n (q := 3) d_Model_readNot_2 rfl rfl ?_
  refine w_ldcS (q := 5) (j := 33) d_Model_readNot_3 rfl (by decide) rfl ?_
  obtain ⟨v1, hv, h⟩ := bnd h
  refine w_callVi (q := 8) (M' := M_Model_is) (n' := 5) (k := 54) (As := [.ref (1048576 + 33)]) (sh' := SH) (b1 := (0, 0)) d_Model_readNot_5 rfl mw_Model_is (by omega) (by decide) ml_Model_182 (by decide) s_54 (by decide) rfl rfl rfl (leb rfl) (bz _) (fun _ => rfl) (ok_Model_is (by decide) hv) ?_
  by_cases c2 : v1 = 0
  · rw [if_pos c2] at h
    refine w_if_eq_t (q := 39) d_Model_readNot_8 rfl c2 ?_
    cases h
    exact w_ls (by exact (And.intro rfl (And.intro rfl (And.intro rfl trivial)))) hr
  · rw [if_neg c2] at h
    refine w_if_eq_f (q := 11) d_Model_readNot_8 39 rfl rfl c2 ?_
    refine w_iload_n (q := 12) d_Model_readNot_11 rfl rfl ?_
    refine w_bipush (q := 14) (v := 6) d_Model_readNot_12 rfl (by decide) ?_
    by_cases c3 : s.1 = 6
    · rw [if_pos c3] at h
      refine w_icmp_ne_f (q := 17) d_Model_readNot_14 22 rfl rfl c3 ?_
      refine w_aload_n (q := 18) d_Model_readNot_17 rfl rfl ?_
      refine w_iconst (q := 19) (v := 2) d_Model_readNot_18 rfl (by decide) ?_
      obtain ⟨v4, hv, h⟩ := bnd h
      refine w_callVv (q := 22) (M' := M_Model_wrong) (n' := 0) (k := 54) (As := [.int 2]) (sh' := SH) (b1 := (0, 0)) d_Model_readNot_19 rfl mw_Model_wrong (by omega) (by decide) ml_Model_189 (by decide) s_54 (by decide) rfl rfl rfl (leb rfl) (bz _) (fun _ => rfl) (ok_Model_wrong hv) ?_
      refine w_ls (ls' := [some (.ref 54), some (.int k1), some (.int s.1), none]) (And.intro rfl (And.intro rfl (And.intro rfl trivial))) ?_
      exact ok_Model_readNot_j22_2 hE h hr
    · rw [if_neg c3] at h
      refine w_icmp_ne_t (q := 22) d_Model_readNot_14 rfl c3 ?_
      refine w_ls (ls' := [some (.ref 54), some (.int k1), some (.int s.1), none]) (And.intro rfl (And.intro rfl (And.intro rfl trivial))) ?_
      exact ok_Model_readNot_j22_2 hE h hr
def PL_Model_readNot_95 (γ : GG) (tt : Bool) (nE : Nat) (p0 : Int32) (g : Mem) (k2 : Int32) (b : Nat × Nat) (Φ : PO) (s : Int32 × Mem) : Prop := WA γ M_Model_readNot (nE + 16) 95 [some (.ref 54), none, some (.int k2), some (.int s.1)] [] SH s.2 tt b Φ
def QL_Model_readNot_95 (γ : GG) (tt : Bool) (nE : Nat) (p0 : Int32) (g : Mem) (k2 : Int32) (b : Nat × Nat) (Φ : PO) (x : (Mem)) : Prop := WA γ M_Model_readNot (nE + 16) 112 [none, none, none, none] [] SH x tt b Φ
def st_Model_readNot_95 (F : Nat) (E : Int32 → Mem → Option Mem) (nE : Nat) (p0 : Int32) (g : Mem) (k2 : Int32) (s : Int32 × Mem) : Option ((Int32 × Mem) ⊕ ((Mem))) := if k2 ≤ s.1 then some (.inr s.2) else (sp_Model_lay (-28) s.2).bind fun v14 => some (.inl (s.1 + 1, v14))
theorem kl_Model_readNot_95 {γ : GG} {tt : Bool} {F : Nat} {E : Int32 → Mem → Option Mem} {nE : Nat} {p0 : Int32} {g : Mem} {k2 : Int32} {b : Nat × Nat} {Φ : PO} (hE : ∀ {p0 : Int32} {g : Mem} {res : Mem}, E p0 g = some res → CA γ M_Model_readExpression (nE + 11) [.ref 54, .int p0] SH g tt (0, 0) (pV SH res tt)) : ∀ (s : Int32 × Mem) (r : (Int32 × Mem) ⊕ ((Mem))), st_Model_readNot_95 F E nE p0 g k2 s = some r → RQ (PL_Model_readNot_95 γ tt nE p0 g k2 b Φ) (QL_Model_readNot_95 γ tt nE p0 g k2 b Φ) r → PL_Model_readNot_95 γ tt nE p0 g k2 b Φ s := by
  intro s r h hr
  unfold st_Model_readNot_95 at h
  unfold PL_Model_readNot_95
  refine w_iload_n (q := 96) d_Model_readNot_95 rfl rfl ?_
  refine w_iload_n (q := 97) d_Model_readNot_96 rfl rfl ?_
  by_cases c13 : k2 ≤ s.1
  · rw [if_pos c13] at h
    refine w_icmp_ge_t (q := 112) d_Model_readNot_97 rfl c13 ?_
    cases h
    exact w_ls (by exact trivial) hr
  · rw [if_neg c13] at h
    refine w_icmp_ge_f (q := 100) d_Model_readNot_97 112 rfl rfl c13 ?_
    refine w_aload_n (q := 101) d_Model_readNot_100 rfl rfl ?_
    refine w_bipush (q := 103) (v := (-28)) d_Model_readNot_101 rfl (by decide) ?_
    obtain ⟨v14, hv, h⟩ := bnd h
    refine w_callVv (q := 106) (M' := M_Model_lay) (n' := 0) (k := 54) (As := [.int ((-28))]) (sh' := SH) (b1 := (0, 0)) d_Model_readNot_103 rfl mw_Model_lay (by omega) (by decide) ml_Model_205 (by decide) s_54 (by decide) rfl rfl rfl (leb rfl) (bz _) (fun _ => rfl) (ok_Model_lay hv) ?_
    refine w_iinc (q := 109) (ls' := [some (.ref 54), none, some (.int k2), some (.int (s.1 + 1))]) d_Model_readNot_106 rfl (by decide) rfl rfl rfl ?_
    refine w_goto (q := 95) d_Model_readNot_109 rfl ?_
    cases h
    exact w_ls (by exact (And.intro rfl (And.intro rfl (And.intro rfl trivial)))) hr
def sp_Model_readNot_j93 (F : Nat) (E : Int32 → Mem → Option Mem) (nE : Nat) (p0 : Int32) (g : Mem) (m0 : Mem) (x2 : Int32) : Option (Mem) := (lpO (st_Model_readNot_95 F E nE p0 g x2) F (0, m0)).bind fun x15 => some x15
theorem ok_Model_readNot_j93 {γ : GG} {tt : Bool} {F : Nat} {E : Int32 → Mem → Option Mem} {nE : Nat} {p0 : Int32} {g : Mem} {m0 : Mem} {x2 : Int32} (hE : ∀ {p0 : Int32} {g : Mem} {res : Mem}, E p0 g = some res → CA γ M_Model_readExpression (nE + 11) [.ref 54, .int p0] SH g tt (0, 0) (pV SH res tt)) {res : Mem} (h : sp_Model_readNot_j93 F E nE p0 g m0 x2 = some res) : WA γ M_Model_readNot (nE + 16) 93 [some (.ref 54), none, some (.int x2), none] [] SH m0 tt (0, 0) (pV SH res tt) := by
  unfold sp_Model_readNot_j93 at h
  refine w_iconst (q := 94) (v := 0) d_Model_readNot_93 rfl (by decide) ?_
  refine w_istore_n (q := 95) (ls' := [some (.ref 54), none, some (.int x2), some (.int 0)]) d_Model_readNot_94 rfl (by decide) rfl rfl ?_
  obtain ⟨x15, hx, h⟩ := bnd h
  refine w_ls (ls' := [some (.ref 54), none, some (.int x2), some (.int 0)]) (And.intro rfl (And.intro rfl (And.intro rfl trivial))) ?_
  show PL_Model_readNot_95 γ tt nE p0 g x2 _ _ (0, m0)
  refine lp_ok (kl_Model_readNot_95 hE) F _ x15 hx ?_
  unfold QL_Model_readNot_95
  cases h
  exact w_return d_Model_readNot_112 rfl ⟨rfl, rfl, rfl, rfl⟩
def sp_Model_readNot_j78 (F : Nat) (E : Int32 → Mem → Option Mem) (nE : Nat) (p0 : Int32) (g : Mem) (m0 : Mem) (x1 : Int32) (x2 : Int32) (y0 : Int32) : Option (Mem) := (sp_Model_stepOn F m0).bind fun v18 => (sp_Model_readSum F E nE x1 v18).bind fun v19 => (sp_Model_lay y0 v19).bind fun v20 => sp_Model_readNot_j93 F E nE p0 g v20 x2
theorem ok_Model_readNot_j78 {γ : GG} {tt : Bool} {F : Nat} {E : Int32 → Mem → Option Mem} {nE : Nat} {p0 : Int32} {g : Mem} {m0 : Mem} {x1 : Int32} {x2 : Int32} {y0 : Int32} (hE : ∀ {p0 : Int32} {g : Mem} {res : Mem}, E p0 g = some res → CA γ M_Model_readExpression (nE + 11) [.ref 54, .int p0] SH g tt (0, 0) (pV SH res tt)) {res : Mem} (h : sp_Model_readNot_j78 F E nE p0 g m0 x1 x2 y0 = some res) : WA γ M_Model_readNot (nE + 16) 78 [some (.ref 54), some (.int x1), some (.int x2), none] [.int y0] SH m0 tt (0, 0) (pV SH res tt) := by
  unfold sp_Model_readNot_j78 at h
  refine w_istore_n (q := 79) (ls' := [some (.ref 54), some (.int x1), some (.int x2), some (.int y0)]) d_Model_readNot_78 rfl (by decide) rfl rfl ?_
  refine w_aload_n (q := 80) d_Model_readNot_79 rfl rfl ?_
  obtain ⟨v18, hv, h⟩ := bnd h
  refine w_callVv (q := 83) (M' := M_Model_stepOn) (n' := 1) (k := 54) (As := []) (sh' := SH) (b1 := (0, 0)) d_Model_readNot_80 rfl mw_Model_stepOn (by omega) (by decide) ml_Model_193 (by decide) s_54 (by decide) rfl rfl rfl (leb rfl) (bz _) (fun _ => rfl) (ok_Model_stepOn hv) ?_
  refine w_aload_n (q := 84) d_Model_readNot_83 rfl rfl ?_
  refine w_iload_n (q := 85) d_Model_readNot_84 rfl rfl ?_
  obtain ⟨v19, hv, h⟩ := bnd h
  refine w_callVv (q := 88) (M' := M_Model_readSum) (n' := (nE + 14)) (k := 54) (As := [.int x1]) (sh' := SH) (b1 := (0, 0)) d_Model_readNot_85 rfl mw_Model_readSum (by omega) (by decide) ml_Model_226 (by decide) s_54 (by decide) rfl rfl rfl (leb rfl) (bz _) (fun _ => rfl) (ok_Model_readSum hE hv) ?_
  refine w_aload_n (q := 89) d_Model_readNot_88 rfl rfl ?_
  refine w_iload_n (q := 90) d_Model_readNot_89 rfl rfl ?_
  obtain ⟨v20, hv, h⟩ := bnd h
  refine w_callVv (q := 93) (M' := M_Model_lay) (n' := 0) (k := 54) (As := [.int y0]) (sh' := SH) (b1 := (0, 0)) d_Model_readNot_90 rfl mw_Model_lay (by omega) (by decide) ml_Model_205 (by decide) s_54 (by decide) rfl rfl rfl (leb rfl) (bz _) (fun _ => rfl) (ok_Model_lay hv) ?_
  refine w_ls (ls' := [some (.ref 54), none, some (.int x2), none]) (And.intro rfl (And.intro rfl trivial)) ?_
  exact ok_Model_readNot_j93 hE h
def sp_Model_readNot_j62 (F : Nat) (E : Int32 → Mem → Option Mem) (nE : Nat) (p0 : Int32) (g : Mem) (m0 : Mem) (x1 : Int32) (x2 : Int32) : Option (Mem) := (sp_Model_isMarked 60 m0).bind fun v16 => if v16 = 0 then sp_Model_readNot_j78 F E nE p0 g m0 x1 x2 (-25) else sp_Model_readNot_j78 F E nE p0 g m0 x1 x2 (-24)
theorem ok_Model_readNot_j62 {γ : GG} {tt : Bool} {F : Nat} {E : Int32 → Mem → Option Mem} {nE : Nat} {p0 : Int32} {g : Mem} {m0 : Mem} {x1 : Int32} {x2 : Int32} (hE : ∀ {p0 : Int32} {g : Mem} {res : Mem}, E p0 g = some res → CA γ M_Model_readExpression (nE + 11) [.ref 54, .int p0] SH g tt (0, 0) (pV SH res tt)) {res : Mem} (h : sp_Model_readNot_j62 F E nE p0 g m0 x1 x2 = some res) : WA γ M_Model_readNot (nE + 16) 62 [some (.ref 54), some (.int x1), some (.int x2), none] [] SH m0 tt (0, 0) (pV SH res tt) := by
  unfold sp_Model_readNot_j62 at h
  refine w_aload_n (q := 63) d_Model_readNot_62 rfl rfl ?_
  refine w_bipush (q := 65) (v := 60) d_Model_readNot_63 rfl (by decide) ?_
  obtain ⟨v16, hv, h⟩ := bnd h
  refine w_callVi (q := 68) (M' := M_Model_isMarked) (n' := 0) (k := 54) (As := [.int 60]) (sh' := SH) (b1 := (0, 0)) d_Model_readNot_65 rfl mw_Model_isMarked (by omega) (by decide) ml_Model_186 (by decide) s_54 (by decide) rfl rfl rfl (leb rfl) (bz _) (fun _ => rfl) (ok_Model_isMarked hv) ?_
  by_cases c17 : v16 = 0
  · rw [if_pos c17] at h
    refine w_if_eq_t (q := 76) d_Model_readNot_68 rfl c17 ?_
    refine w_bipush (q := 78) (v := (-25)) d_Model_readNot_76 rfl (by decide) ?_
    refine w_ls (ls' := [some (.ref 54), some (.int x1), some (.int x2), none]) (And.intro rfl (And.intro rfl (And.intro rfl trivial))) ?_
    exact ok_Model_readNot_j78 hE h
  · rw [if_neg c17] at h
    refine w_if_eq_f (q := 71) d_Model_readNot_68 76 rfl rfl c17 ?_
    refine w_bipush (q := 73) (v := (-24)) d_Model_readNot_71 rfl (by decide) ?_
    refine w_goto (q := 78) d_Model_readNot_73 rfl ?_
    refine w_ls (ls' := [some (.ref 54), some (.int x1), some (.int x2), none]) (And.intro rfl (And.intro rfl (And.intro rfl trivial))) ?_
    exact ok_Model_readNot_j78 hE h
def sp_Model_readNot (F : Nat) (E : Int32 → Mem → Option Mem) (nE : Nat) (p0 : Int32) (g : Mem) : Option (Mem) := (lpO (st_Model_readNot_2 F E nE p0 g p0) F (0, g)).bind fun x7 => (sp_Model_readSum F E nE p0 x7.2).bind fun v8 => (sp_Model_isMarked 60 v8).bind fun v9 => if v9 = 0 then (sp_Model_isMarked 61 v8).bind fun v11 => if v11 = 0 then sp_Model_readNot_j93 F E nE p0 g v8 x7.1 else sp_Model_readNot_j62 F E nE p0 g v8 p0 x7.1 else sp_Model_readNot_j62 F E nE p0 g v8 p0 x7.1
theorem ok_Model_readNot {γ : GG} {tt : Bool} {F : Nat} {E : Int32 → Mem → Option Mem} {nE : Nat} {p0 : Int32} {g : Mem} (hE : ∀ {p0 : Int32} {g : Mem} {res : Mem}, E p0 g = some res → CA γ M_Model_readExpression (nE + 11) [.ref 54, .int p0] SH g tt (0, 0) (pV SH res tt)) {res : Mem} (h : sp_Model_readNot F E nE p0 g = some res) : CA γ M_Model_readNot (nE + 16) [.ref 54, .int p0] SH g tt (0, 0) (pV SH res tt) := by
  refine CA.of mw_Model_readNot.1 2 rfl ?_
  show WA γ M_Model_readNot (nE + 16) 0 [some (.ref 54), some (.int p0), none, none] [] SH g tt (0, 0) (pV SH res tt)
  unfold sp_Model_readNot at h
  refine w_iconst (q := 1) (v := 0) d_Model_readNot_0 rfl (by decide) ?_
  refine w_istore_n (q := 2) (ls' := [some (.ref 54), some (.int p0), some (.int 0), none]) d_Model_readNot_1 rfl (by decide) rfl rfl ?_
  obtain ⟨x7, hx, h⟩ := bnd h
  refine w_ls (ls' := [some (.ref 54), some (.int p0), some (.int 0), none]) (And.intro rfl (And.intro rfl (And.intro rfl trivial))) ?_
  show PL_Model_readNot_2 γ tt nE p0 g p0 _ _ (0, g)
  refine lp_ok (kl_Model_readNot_2 hE) F _ x7 hx ?_
  unfold QL_Model_readNot_2
  refine w_aload_n (q := 40) d_Model_readNot_39 rfl rfl ?_
  refine w_iload_n (q := 41) d_Model_readNot_40 rfl rfl ?_
  obtain ⟨v8, hv, h⟩ := bnd h
  refine w_callVv (q := 44) (M' := M_Model_readSum) (n' := (nE + 14)) (k := 54) (As := [.int p0]) (sh' := SH) (b1 := (0, 0)) d_Model_readNot_41 rfl mw_Model_readSum (by omega) (by decide) ml_Model_226 (by decide) s_54 (by decide) rfl rfl rfl (leb rfl) (bz _) (fun _ => rfl) (ok_Model_readSum hE hv) ?_
  refine w_aload_n (q := 45) d_Model_readNot_44 rfl rfl ?_
  refine w_bipush (q := 47) (v := 60) d_Model_readNot_45 rfl (by decide) ?_
  obtain ⟨v9, hv, h⟩ := bnd h
  refine w_callVi (q := 50) (M' := M_Model_isMarked) (n' := 0) (k := 54) (As := [.int 60]) (sh' := SH) (b1 := (0, 0)) d_Model_readNot_47 rfl mw_Model_isMarked (by omega) (by decide) ml_Model_186 (by decide) s_54 (by decide) rfl rfl rfl (leb rfl) (bz _) (fun _ => rfl) (ok_Model_isMarked hv) ?_
  by_cases c10 : v9 = 0
  · rw [if_pos c10] at h
    refine w_if_ne_f (q := 53) d_Model_readNot_50 62 rfl rfl c10 ?_
    refine w_aload_n (q := 54) d_Model_readNot_53 rfl rfl ?_
    refine w_bipush (q := 56) (v := 61) d_Model_readNot_54 rfl (by decide) ?_
    obtain ⟨v11, hv, h⟩ := bnd h
    refine w_callVi (q := 59) (M' := M_Model_isMarked) (n' := 0) (k := 54) (As := [.int 61]) (sh' := SH) (b1 := (0, 0)) d_Model_readNot_56 rfl mw_Model_isMarked (by omega) (by decide) ml_Model_186 (by decide) s_54 (by decide) rfl rfl rfl (leb rfl) (bz _) (fun _ => rfl) (ok_Model_isMarked hv) ?_
    by_cases c12 : v11 = 0
    · rw [if_pos c12] at h
      refine w_if_eq_t (q := 93) d_Model_readNot_59 rfl c12 ?_
      refine w_ls (ls' := [some (.ref 54), none, some (.int x7.1), none]) (And.intro rfl (And.intro rfl trivial)) ?_
      exact ok_Model_readNot_j93 hE h
    · rw [if_neg c12] at h
      refine w_if_eq_f (q := 62) d_Model_readNot_59 93 rfl rfl c12 ?_
      refine w_ls (ls' := [some (.ref 54), some (.int p0), some (.int x7.1), none]) (And.intro rfl (And.intro rfl (And.intro rfl trivial))) ?_
      exact ok_Model_readNot_j62 hE h
  · rw [if_neg c10] at h
    refine w_if_ne_t (q := 62) d_Model_readNot_50 rfl c10 ?_
    refine w_ls (ls' := [some (.ref 54), some (.int p0), some (.int x7.1), none]) (And.intro rfl (And.intro rfl (And.intro rfl trivial))) ?_
    exact ok_Model_readNot_j62 hE h
def PL_Model_readAnd_5 (γ : GG) (tt : Bool) (nE : Nat) (p0 : Int32) (g : Mem) (k1 : Int32) (b : Nat × Nat) (Φ : PO) (s : Mem) : Prop := WA γ M_Model_readAnd (nE + 17) 5 [some (.ref 54), some (.int k1)] [] SH s tt b Φ
def QL_Model_readAnd_5 (γ : GG) (tt : Bool) (nE : Nat) (p0 : Int32) (g : Mem) (k1 : Int32) (b : Nat × Nat) (Φ : PO) (x : (Mem)) : Prop := WA γ M_Model_readAnd (nE + 17) 32 [none, none] [] SH x tt b Φ
def st_Model_readAnd_5 (F : Nat) (E : Int32 → Mem → Option Mem) (nE : Nat) (p0 : Int32) (g : Mem) (k1 : Int32) (s : Mem) : Option ((Mem) ⊕ ((Mem))) := (sp_Model_is F 34 s).bind fun v2 => if v2 = 0 then some (.inr s) else (sp_Model_stepOn F s).bind fun v4 => (sp_Model_readNot F E nE k1 v4).bind fun v5 => (sp_Model_lay (-26) v5).bind fun v6 => some (.inl v6)
theorem kl_Model_readAnd_5 {γ : GG} {tt : Bool} {F : Nat} {E : Int32 → Mem → Option Mem} {nE : Nat} {p0 : Int32} {g : Mem} {k1 : Int32} {b : Nat × Nat} {Φ : PO} (hE : ∀ {p0 : Int32} {g : Mem} {res : Mem}, E p0 g = some res → CA γ M_Model_readExpression (nE + 11) [.ref 54, .int p0] SH g tt (0, 0) (pV SH res tt)) : ∀ (s : Mem) (r : (Mem) ⊕ ((Mem))), st_Model_readAnd_5 F E nE p0 g k1 s = some r → RQ (PL_Model_readAnd_5 γ tt nE p0 g k1 b Φ) (QL_Model_readAnd_5 γ tt nE p0 g k1 b Φ) r → PL_Model_readAnd_5 γ tt nE p0 g k1 b Φ s := by
  intro s r h hr
  unfold st_Model_readAnd_5 at h
  unfold PL_Model_readAnd_5
  refine w_aload_n (q := 6) d_Model_readAnd_5 rfl rfl ?_
  refine w_ldcS (q := 8) (j := 34) d_Model_readAnd_6 rfl (by decide) rfl ?_
  obtain ⟨v2, hv, h⟩ := bnd h
  refine w_callVi (q := 11) (M' := M_Model_is) (n' := 5) (k := 54) (As := [.ref (1048576 + 34)]) (sh' := SH) (b1 := (0, 0)) d_Model_readAnd_8 rfl mw_Model_is (by omega) (by decide) ml_Model_182 (by decide) s_54 (by decide) rfl rfl rfl (leb rfl) (bz _) (fun _ => rfl) (ok_Model_is (by decide) hv) ?_
  by_cases c3 : v2 = 0
  · rw [if_pos c3] at h
    refine w_if_eq_t (q := 32) d_Model_readAnd_11 rfl c3 ?_
    cases h
    exact w_ls (by exact trivial) hr
  · rw [if_neg c3] at h
    refine w_if_eq_f (q := 14) d_Model_readAnd_11 32 rfl rfl c3 ?_
    refine w_aload_n (q := 15) d_Model_readAnd_14 rfl rfl ?_
    obtain ⟨v4, hv, h⟩ := bnd h
    refine w_callVv (q := 18) (M' := M_Model_stepOn) (n' := 1) (k := 54) (As := []) (sh' := SH) (b1 := (0, 0)) d_Model_readAnd_15 rfl mw_Model_stepOn (by omega) (by decide) ml_Model_193 (by decide) s_54 (by decide) rfl rfl rfl (leb rfl) (bz _) (fun _ => rfl) (ok_Model_stepOn hv) ?_
    refine w_aload_n (q := 19) d_Model_readAnd_18 rfl rfl ?_
    refine w_iload_n (q := 20) d_Model_readAnd_19 rfl rfl ?_
    obtain ⟨v5, hv, h⟩ := bnd h
    refine w_callVv (q := 23) (M' := M_Model_readNot) (n' := (nE + 16)) (k := 54) (As := [.int k1]) (sh' := SH) (b1 := (0, 0)) d_Model_readAnd_20 rfl mw_Model_readNot (by omega) (by decide) ml_Model_229 (by decide) s_54 (by decide) rfl rfl rfl (leb rfl) (bz _) (fun _ => rfl) (ok_Model_readNot hE hv) ?_
    refine w_aload_n (q := 24) d_Model_readAnd_23 rfl rfl ?_
    refine w_bipush (q := 26) (v := (-26)) d_Model_readAnd_24 rfl (by decide) ?_
    obtain ⟨v6, hv, h⟩ := bnd h
    refine w_callVv (q := 29) (M' := M_Model_lay) (n' := 0) (k := 54) (As := [.int ((-26))]) (sh' := SH) (b1 := (0, 0)) d_Model_readAnd_26 rfl mw_Model_lay (by omega) (by decide) ml_Model_205 (by decide) s_54 (by decide) rfl rfl rfl (leb rfl) (bz _) (fun _ => rfl) (ok_Model_lay hv) ?_
    refine w_goto (q := 5) d_Model_readAnd_29 rfl ?_
    cases h
    exact w_ls (by exact (And.intro rfl (And.intro rfl trivial))) hr
def sp_Model_readAnd (F : Nat) (E : Int32 → Mem → Option Mem) (nE : Nat) (p0 : Int32) (g : Mem) : Option (Mem) := (sp_Model_readNot F E nE p0 g).bind fun v1 => (lpO (st_Model_readAnd_5 F E nE p0 g p0) F v1).bind fun x7 => some x7
theorem ok_Model_readAnd {γ : GG} {tt : Bool} {F : Nat} {E : Int32 → Mem → Option Mem} {nE : Nat} {p0 : Int32} {g : Mem} (hE : ∀ {p0 : Int32} {g : Mem} {res : Mem}, E p0 g = some res → CA γ M_Model_readExpression (nE + 11) [.ref 54, .int p0] SH g tt (0, 0) (pV SH res tt)) {res : Mem} (h : sp_Model_readAnd F E nE p0 g = some res) : CA γ M_Model_readAnd (nE + 17) [.ref 54, .int p0] SH g tt (0, 0) (pV SH res tt) := by
  refine CA.of mw_Model_readAnd.1 0 rfl ?_
  show WA γ M_Model_readAnd (nE + 17) 0 [some (.ref 54), some (.int p0)] [] SH g tt (0, 0) (pV SH res tt)
  unfold sp_Model_readAnd at h
  refine w_aload_n (q := 1) d_Model_readAnd_0 rfl rfl ?_
  refine w_iload_n (q := 2) d_Model_readAnd_1 rfl rfl ?_
  obtain ⟨v1, hv, h⟩ := bnd h
  refine w_callVv (q := 5) (M' := M_Model_readNot) (n' := (nE + 16)) (k := 54) (As := [.int p0]) (sh' := SH) (b1 := (0, 0)) d_Model_readAnd_2 rfl mw_Model_readNot (by omega) (by decide) ml_Model_229 (by decide) s_54 (by decide) rfl rfl rfl (leb rfl) (bz _) (fun _ => rfl) (ok_Model_readNot hE hv) ?_
  obtain ⟨x7, hx, h⟩ := bnd h
  refine w_ls (ls' := [some (.ref 54), some (.int p0)]) (And.intro rfl (And.intro rfl trivial)) ?_
  show PL_Model_readAnd_5 γ tt nE p0 g p0 _ _ v1
  refine lp_ok (kl_Model_readAnd_5 hE) F _ x7 hx ?_
  unfold QL_Model_readAnd_5
  cases h
  exact w_return d_Model_readAnd_32 rfl ⟨rfl, rfl, rfl, rfl⟩
def PL_Model_readExpression_67 (γ : GG) (tt : Bool) (nE : Nat) (p0 : Int32) (g : Mem) (k1 : Int32) (b : Nat × Nat) (Φ : PO) (s : Mem) : Prop := WA γ M_Model_readExpression (nE + 18) 67 [some (.ref 54), some (.int k1), none] [] SH s tt b Φ
def QL_Model_readExpression_67 (γ : GG) (tt : Bool) (nE : Nat) (p0 : Int32) (g : Mem) (k1 : Int32) (b : Nat × Nat) (Φ : PO) (x : (Mem)) : Prop := WA γ M_Model_readExpression (nE + 18) 94 [none, none, none] [] SH x tt b Φ
def st_Model_readExpression_67 (F : Nat) (E : Int32 → Mem → Option Mem) (nE : Nat) (p0 : Int32) (g : Mem) (k1 : Int32) (s : Mem) : Option ((Mem) ⊕ ((Mem))) := (sp_Model_is F 35 s).bind fun v6 => if v6 = 0 then some (.inr s) else (sp_Model_stepOn F s).bind fun v8 => (sp_Model_readAnd F E nE k1 v8).bind fun v9 => (sp_Model_lay (-27) v9).bind fun v10 => some (.inl v10)
theorem kl_Model_readExpression_67 {γ : GG} {tt : Bool} {F : Nat} {E : Int32 → Mem → Option Mem} {nE : Nat} {p0 : Int32} {g : Mem} {k1 : Int32} {b : Nat × Nat} {Φ : PO} (hE : ∀ {p0 : Int32} {g : Mem} {res : Mem}, E p0 g = some res → CA γ M_Model_readExpression (nE + 11) [.ref 54, .int p0] SH g tt (0, 0) (pV SH res tt)) : ∀ (s : Mem) (r : (Mem) ⊕ ((Mem))), st_Model_readExpression_67 F E nE p0 g k1 s = some r → RQ (PL_Model_readExpression_67 γ tt nE p0 g k1 b Φ) (QL_Model_readExpression_67 γ tt nE p0 g k1 b Φ) r → PL_Model_readExpression_67 γ tt nE p0 g k1 b Φ s := by
  intro s r h hr
  unfold st_Model_readExpression_67 at h
  unfold PL_Model_readExpression_67
  refine w_aload_n (q := 68) d_Model_readExpression_67 rfl rfl ?_
  refine w_ldcS (q := 70) (j := 35) d_Model_readExpression_68 rfl (by decide) rfl ?_
  obtain ⟨v6, hv, h⟩ := bnd h
  refine w_callVi (q := 73) (M' := M_Model_is) (n' := 5) (k := 54) (As := [.ref (1048576 + 35)]) (sh' := SH) (b1 := (0, 0)) d_Model_readExpression_70 rfl mw_Model_is (by omega) (by decide) ml_Model_182 (by decide) s_54 (by decide) rfl rfl rfl (leb rfl) (bz _) (fun _ => rfl) (ok_Model_is (by decide) hv) ?_
  by_cases c7 : v6 = 0
  · rw [if_pos c7] at h
    refine w_if_eq_t (q := 94) d_Model_readExpression_73 rfl c7 ?_
    cases h
    exact w_ls (by exact trivial) hr
  · rw [if_neg c7] at h
    refine w_if_eq_f (q := 76) d_Model_readExpression_73 94 rfl rfl c7 ?_
    refine w_aload_n (q := 77) d_Model_readExpression_76 rfl rfl ?_
    obtain ⟨v8, hv, h⟩ := bnd h
    refine w_callVv (q := 80) (M' := M_Model_stepOn) (n' := 1) (k := 54) (As := []) (sh' := SH) (b1 := (0, 0)) d_Model_readExpression_77 rfl mw_Model_stepOn (by omega) (by decide) ml_Model_193 (by decide) s_54 (by decide) rfl rfl rfl (leb rfl) (bz _) (fun _ => rfl) (ok_Model_stepOn hv) ?_
    refine w_aload_n (q := 81) d_Model_readExpression_80 rfl rfl ?_
    refine w_iload_n (q := 82) d_Model_readExpression_81 rfl rfl ?_
    obtain ⟨v9, hv, h⟩ := bnd h
    refine w_callVv (q := 85) (M' := M_Model_readAnd) (n' := (nE + 17)) (k := 54) (As := [.int k1]) (sh' := SH) (b1 := (0, 0)) d_Model_readExpression_82 rfl mw_Model_readAnd (by omega) (by decide) ml_Model_234 (by decide) s_54 (by decide) rfl rfl rfl (leb rfl) (bz _) (fun _ => rfl) (ok_Model_readAnd hE hv) ?_
    refine w_aload_n (q := 86) d_Model_readExpression_85 rfl rfl ?_
    refine w_bipush (q := 88) (v := (-27)) d_Model_readExpression_86 rfl (by decide) ?_
    obtain ⟨v10, hv, h⟩ := bnd h
    refine w_callVv (q := 91) (M' := M_Model_lay) (n' := 0) (k := 54) (As := [.int ((-27))]) (sh' := SH) (b1 := (0, 0)) d_Model_readExpression_88 rfl mw_Model_lay (by omega) (by decide) ml_Model_205 (by decide) s_54 (by decide) rfl rfl rfl (leb rfl) (bz _) (fun _ => rfl) (ok_Model_lay hv) ?_
    refine w_goto (q := 67) d_Model_readExpression_91 rfl ?_
    cases h
    exact w_ls (by exact (And.intro rfl (And.intro rfl trivial))) hr
def sp_Model_readExpression_j62 (F : Nat) (E : Int32 → Mem → Option Mem) (nE : Nat) (p0 : Int32) (g : Mem) (m0 : Mem) (x1 : Int32) : Option (Mem) := (sp_Model_readAnd F E nE x1 m0).bind fun v5 => (lpO (st_Model_readExpression_67 F E nE p0 g x1) F v5).bind fun x11 => some x11
theorem ok_Model_readExpression_j62 {γ : GG} {tt : Bool} {F : Nat} {E : Int32 → Mem → Option Mem} {nE : Nat} {p0 : Int32} {g : Mem} {m0 : Mem} {x1 : Int32} (hE : ∀ {p0 : Int32} {g : Mem} {res : Mem}, E p0 g = some res → CA γ M_Model_readExpression (nE + 11) [.ref 54, .int p0] SH g tt (0, 0) (pV SH res tt)) {res : Mem} (h : sp_Model_readExpression_j62 F E nE p0 g m0 x1 = some res) : WA γ M_Model_readExpression (nE + 18) 62 [some (.ref 54), some (.int x1), none] [] SH m0 tt (0, 0) (pV SH res tt) := by
  unfold sp_Model_readExpression_j62 at h
  refine w_aload_n (q := 63) d_Model_readExpression_62 rfl rfl ?_
  refine w_iload_n (q := 64) d_Model_readExpression_63 rfl rfl ?_
  obtain ⟨v5, hv, h⟩ := bnd h
  refine w_callVv (q := 67) (M' := M_Model_readAnd) (n' := (nE + 17)) (k := 54) (As := [.int x1]) (sh' := SH) (b1 := (0, 0)) d_Model_readExpression_64 rfl mw_Model_readAnd (by omega) (by decide) ml_Model_234 (by decide) s_54 (by decide) rfl rfl rfl (leb rfl) (bz _) (fun _ => rfl) (ok_Model_readAnd hE hv) ?_
  obtain ⟨x11, hx, h⟩ := bnd h
  refine w_ls (ls' := [some (.ref 54), some (.int x1), none]) (And.intro rfl (And.intro rfl trivial)) ?_
  show PL_Model_readExpression_67 γ tt nE p0 g x1 _ _ v5
  refine lp_ok (kl_Model_readExpression_67 hE) F _ x11 hx ?_
  unfold QL_Model_readExpression_67
  cases h
  exact w_return d_Model_readExpression_94 rfl ⟨rfl, rfl, rfl, rfl⟩
def sp_Model_readExpression_j38 (F : Nat) (E : Int32 → Mem → Option Mem) (nE : Nat) (p0 : Int32) (g : Mem) (m0 : Mem) (x1 : Int32) (y0 : Int32) : Option (Mem) := if y0 = 0 then (sp_Model_wrong 1 m0).bind fun v4 => sp_Model_readExpression_j62 F E nE p0 g v4 x1 else if x1 = 6 then (sp_Model_wrong 2 m0).bind fun v13 => sp_Model_readExpression_j62 F E nE p0 g v13 x1 else sp_Model_readExpression_j62 F E nE p0 g m0 x1
theorem ok_Model_readExpression_j38 {γ : GG} {tt : Bool} {F : Nat} {E : Int32 → Mem → Option Mem} {nE : Nat} {p0 : Int32} {g : Mem} {m0 : Mem} {x1 : Int32} {y0 : Int32} (hE : ∀ {p0 : Int32} {g : Mem} {res : Mem}, E p0 g = some res → CA γ M_Model_readExpression (nE + 11) [.ref 54, .int p0] SH g tt (0, 0) (pV SH res tt)) {res : Mem} (h : sp_Model_readExpression_j38 F E nE p0 g m0 x1 y0 = some res) : WA γ M_Model_readExpression (nE + 18) 38 [some (.ref 54), some (.int x1), none] [.int y0] SH m0 tt (0, 0) (pV SH res tt) := by
  unfold sp_Model_readExpression_j38 at h
  refine w_istore_n (q := 39) (ls' := [some (.ref 54), some (.int x1), some (.int y0)]) d_Model_readExpression_38 rfl (by decide) rfl rfl ?_
  refine w_iload_n (q := 40) d_Model_readExpression_39 rfl rfl ?_
  by_cases c3 : y0 = 0
  · rw [if_pos c3] at h
    refine w_if_ne_f (q := 43) d_Model_readExpression_40 51 rfl rfl c3 ?_
    refine w_aload_n (q := 44) d_Model_readExpression_43 rfl rfl ?_
    refine w_iconst (q := 45) (v := 1) d_Model_readExpression_44 rfl (by decide) ?_
    obtain ⟨v4, hv, h⟩ := bnd h
    refine w_callVv (q := 48) (M' := M_Model_wrong) (n' := 0) (k := 54) (As := [.int 1]) (sh' := SH) (b1 := (0, 0)) d_Model_readExpression_45 rfl mw_Model_wrong (by omega) (by decide) ml_Model_189 (by decide) s_54 (by decide) rfl rfl rfl (leb rfl) (bz _) (fun _ => rfl) (ok_Model_wrong hv) ?_
    refine w_goto (q := 62) d_Model_readExpression_48 rfl ?_
    refine w_ls (ls' := [some (.ref 54), some (.int x1), none]) (And.intro rfl (And.intro rfl trivial)) ?_
    exact ok_Model_readExpression_j62 hE h
  · rw [if_neg c3] at h
    refine w_if_ne_t (q := 51) d_Model_readExpression_40 rfl c3 ?_
    refine w_iload_n (q := 52) d_Model_readExpression_51 rfl rfl ?_
    refine w_bipush (q := 54) (v := 6) d_Model_readExpression_52 rfl (by decide) ?_
    by_cases c12 : x1 = 6
    · rw [if_pos c12] at h
      refine w_icmp_ne_f (q := 57) d_Model_readExpression_54 62 rfl rfl c12 ?_
      refine w_aload_n (q := 58) d_Model_readExpression_57 rfl rfl ?_
      refine w_iconst (q := 59) (v := 2) d_Model_readExpression_58 rfl (by decide) ?_
      obtain ⟨v13, hv, h⟩ := bnd h
      refine w_callVv (q := 62) (M' := M_Model_wrong) (n' := 0) (k := 54) (As := [.int 2]) (sh' := SH) (b1 := (0, 0)) d_Model_readExpression_59 rfl mw_Model_wrong (by omega) (by decide) ml_Model_189 (by decide) s_54 (by decide) rfl rfl rfl (leb rfl) (bz _) (fun _ => rfl) (ok_Model_wrong hv) ?_
      refine w_ls (ls' := [some (.ref 54), some (.int x1), none]) (And.intro rfl (And.intro rfl trivial)) ?_
      exact ok_Model_readExpression_j62 hE h
    · rw [if_neg c12] at h
      refine w_icmp_ne_t (q := 62) d_Model_readExpression_54 rfl c12 ?_
      refine w_ls (ls' := [some (.ref 54), some (.int x1), none]) (And.intro rfl (And.intro rfl trivial)) ?_
      exact ok_Model_readExpression_j62 hE h
def sp_Model_readExpression_j33 (F : Nat) (E : Int32 → Mem → Option Mem) (nE : Nat) (p0 : Int32) (g : Mem) (m0 : Mem) (x1 : Int32) : Option (Mem) := sp_Model_readExpression_j38 F E nE p0 g m0 x1 1
theorem ok_Model_readExpression_j33 {γ : GG} {tt : Bool} {F : Nat} {E : Int32 → Mem → Option Mem} {nE : Nat} {p0 : Int32} {g : Mem} {m0 : Mem} {x1 : Int32} (hE : ∀ {p0 : Int32} {g : Mem} {res : Mem}, E p0 g = some res → CA γ M_Model_readExpression (nE + 11) [.ref 54, .int p0] SH g tt (0, 0) (pV SH res tt)) {res : Mem} (h : sp_Model_readExpression_j33 F E nE p0 g m0 x1 = some res) : WA γ M_Model_readExpression (nE + 18) 33 [some (.ref 54), some (.int x1), none] [] SH m0 tt (0, 0) (pV SH res tt) := by
  unfold sp_Model_readExpression_j33 at h
  refine w_iconst (q := 34) (v := 1) d_Model_readExpression_33 rfl (by decide) ?_
  refine w_goto (q := 38) d_Model_readExpression_34 rfl ?_
  refine w_ls (ls' := [some (.ref 54), some (.int x1), none]) (And.intro rfl (And.intro rfl trivial)) ?_
  exact ok_Model_readExpression_j38 hE h
def sp_Model_readExpression (F : Nat) (E : Int32 → Mem → Option Mem) (nE : Nat) (p0 : Int32) (g : Mem) : Option (Mem) := if (g 54 19) = 0 then if (g 54 15) = 2 then sp_Model_readExpression_j33 F E nE p0 g g p0 else if (g 54 15) = 1 then sp_Model_readExpression_j33 F E nE p0 g g p0 else (sp_Model_isMarked 40 g).bind fun v15 => if v15 = 0 then sp_Model_readExpression_j38 F E nE p0 g g p0 0 else sp_Model_readExpression_j33 F E nE p0 g g p0 else some g
theorem ok_Model_readExpression {γ : GG} {tt : Bool} {F : Nat} {E : Int32 → Mem → Option Mem} {nE : Nat} {p0 : Int32} {g : Mem} (hE : ∀ {p0 : Int32} {g : Mem} {res : Mem}, E p0 g = some res → CA γ M_Model_readExpression (nE + 11) [.ref 54, .int p0] SH g tt (0, 0) (pV SH res tt)) {res : Mem} (h : sp_Model_readExpression F E nE p0 g = some res) : CA γ M_Model_readExpression (nE + 18) [.ref 54, .int p0] SH g tt (0, 0) (pV SH res tt) := by
  refine CA.of mw_Model_readExpression.1 1 rfl ?_
  show WA γ M_Model_readExpression (nE + 18) 0 [some (.ref 54), some (.int p0), none] [] SH g tt (0, 0) (pV SH res tt)
  unfold sp_Model_readExpression at h
  refine w_aload_n (q := 1) d_Model_readExpression_0 rfl rfl ?_
  refine w_get (q := 4) (ci := 12) (j := 19) d_Model_readExpression_1 rfl (by decide) fl_Model_168 (by decide) (by decide) s_54 rfl rfl ?_
  by_cases c1 : (g 54 19) = 0
  · rw [if_pos c1] at h
    refine w_if_eq_t (q := 8) d_Model_readExpression_4 rfl c1 ?_
    refine w_aload_n (q := 9) d_Model_readExpression_8 rfl rfl ?_
    refine w_get (q := 12) (ci := 12) (j := 15) d_Model_readExpression_9 rfl (by decide) fl_Model_142 (by decide) (by decide) s_54 rfl rfl ?_
    refine w_iconst (q := 13) (v := 2) d_Model_readExpression_12 rfl (by decide) ?_
    by_cases c2 : (g 54 15) = 2
    · rw [if_pos c2] at h
      refine w_icmp_eq_t (q := 33) d_Model_readExpression_13 rfl c2 ?_
      refine w_ls (ls' := [some (.ref 54), some (.int p0), none]) (And.intro rfl (And.intro rfl trivial)) ?_
      exact ok_Model_readExpression_j33 hE h
    · rw [if_neg c2] at h
      refine w_icmp_eq_f (q := 16) d_Model_readExpression_13 33 rfl rfl c2 ?_
      refine w_aload_n (q := 17) d_Model_readExpression_16 rfl rfl ?_
      refine w_get (q := 20) (ci := 12) (j := 15) d_Model_readExpression_17 rfl (by decide) fl_Model_142 (by decide) (by decide) s_54 rfl rfl ?_
      refine w_iconst (q := 21) (v := 1) d_Model_readExpression_20 rfl (by decide) ?_
      by_cases c14 : (g 54 15) = 1
      · rw [if_pos c14] at h
        refine w_icmp_eq_t (q := 33) d_Model_readExpression_21 rfl c14 ?_
        refine w_ls (ls' := [some (.ref 54), some (.int p0), none]) (And.intro rfl (And.intro rfl trivial)) ?_
        exact ok_Model_readExpression_j33 hE h
      · rw [if_neg c14] at h
        refine w_icmp_eq_f (q := 24) d_Model_readExpression_21 33 rfl rfl c14 ?_
        refine w_aload_n (q := 25) d_Model_readExpression_24 rfl rfl ?_
        refine w_bipush (q := 27) (v := 40) d_Model_readExpression_25 rfl (by decide) ?_
        obtain ⟨v15, hv, h⟩ := bnd h
        refine w_callVi (q := 30) (M' := M_Model_isMarked) (n' := 0) (k := 54) (As := [.int 40]) (sh' := SH) (b1 := (0, 0)) d_Model_readExpression_27 rfl mw_Model_isMarked (by omega) (by decide) ml_Model_186 (by decide) s_54 (by decide) rfl rfl rfl (leb rfl) (bz _) (fun _ => rfl) (ok_Model_isMarked hv) ?_
        by_cases c16 : v15 = 0
        · rw [if_pos c16] at h
          refine w_if_eq_t (q := 37) d_Model_readExpression_30 rfl c16 ?_
          refine w_iconst (q := 38) (v := 0) d_Model_readExpression_37 rfl (by decide) ?_
          refine w_ls (ls' := [some (.ref 54), some (.int p0), none]) (And.intro rfl (And.intro rfl trivial)) ?_
          exact ok_Model_readExpression_j38 hE h
        · rw [if_neg c16] at h
          refine w_if_eq_f (q := 33) d_Model_readExpression_30 37 rfl rfl c16 ?_
          refine w_ls (ls' := [some (.ref 54), some (.int p0), none]) (And.intro rfl (And.intro rfl trivial)) ?_
          exact ok_Model_readExpression_j33 hE h
  · rw [if_neg c1] at h
    refine w_if_eq_f (q := 7) d_Model_readExpression_4 8 rfl rfl c1 ?_
    cases h
    exact w_return d_Model_readExpression_7 rfl ⟨rfl, rfl, rfl, rfl⟩
def rxM (F : Nat) : Nat → Int32 → Mem → Option Mem
  | 0 => fun _ _ => none
  | d + 1 => fun p g => sp_Model_readExpression F (rxM F d) (7 * d) p g
theorem ok_rxM {γ : GG} {tt : Bool} {F : Nat} : ∀ (d : Nat) {p0 : Int32} {g : Mem} {res : Mem}, rxM F d p0 g = some res → CA γ M_Model_readExpression (7 * d + 11) [.ref 54, .int p0] SH g tt (0, 0) (pV SH res tt) := by
  intro d
  induction d with
  | zero => intro p0 g res h; cases h
  | succ d ih =>
    intro p0 g res h
    have e : 7 * (d + 1) + 11 = 7 * d + 18 := by omega
    rw [e]
    exact ok_Model_readExpression (nE := 7 * d) (E := rxM F d) (fun h => ih h) h
def sp_Model_fail (p0 : Int32) (g : Mem) : Option (Int32 × Mem) := some (0, (mset g 54 3 p0))
theorem ok_Model_fail {γ : GG} {tt : Bool} {p0 : Int32} {g : Mem} {res : Int32 × Mem} (h : sp_Model_fail p0 g = some res) : CA γ M_Model_fail 0 [.ref 54, .int p0] SH g tt (0, 0) (pI SH res.1 res.2 tt) := by
  refine CA.of mw_Model_fail.1 0 rfl ?_
  show WA γ M_Model_fail 0 0 [some (.ref 54), some (.int p0)] [] SH g tt (0, 0) (pI SH res.1 res.2 tt)
  unfold sp_Model_fail at h
  refine w_aload_n (q := 1) d_Model_fail_0 rfl rfl ?_
  refine w_iload_n (q := 2) d_Model_fail_1 rfl rfl ?_
  refine w_put (q := 5) (ci := 12) (j := 3) d_Model_fail_2 rfl (by decide) fl_Model_114 (by decide) (by decide) s_54 rfl rfl rfl rfl rfl rfl ?_
  refine w_iconst (q := 6) (v := 0) d_Model_fail_5 rfl (by decide) ?_
  cases h
  exact w_ireturn d_Model_fail_6 rfl rfl ⟨rfl, rfl, rfl, rfl⟩
def sp_Model_failing (p0 : Int32) (g : Mem) : Option (Int32 × Mem) := some (0, (mset g 54 3 p0))
theorem ok_Model_failing {γ : GG} {tt : Bool} {p0 : Int32} {g : Mem} {res : Int32 × Mem} (h : sp_Model_failing p0 g = some res) : CA γ M_Model_failing 0 [.ref 54, .int p0] SH g tt (0, 0) (pI SH res.1 res.2 tt) := by
  refine CA.of mw_Model_failing.1 0 rfl ?_
  show WA γ M_Model_failing 0 0 [some (.ref 54), some (.int p0)] [] SH g tt (0, 0) (pI SH res.1 res.2 tt)
  unfold sp_Model_failing at h
  refine w_aload_n (q := 1) d_Model_failing_0 rfl rfl ?_
  refine w_iload_n (q := 2) d_Model_failing_1 rfl rfl ?_
  refine w_put (q := 5) (ci := 12) (j := 3) d_Model_failing_2 rfl (by decide) fl_Model_114 (by decide) (by decide) s_54 rfl rfl rfl rfl rfl rfl ?_
  refine w_iconst (q := 6) (v := 0) d_Model_failing_5 rfl (by decide) ?_
  cases h
  exact w_ireturn d_Model_failing_6 rfl rfl ⟨rfl, rfl, rfl, rfl⟩
def sp_Model_isIn (p0 : Int64) (p1 : Int64) (p2 : Int64) (g : Mem) : Option (Int32) := if (lg_cmp p0 p1) < 0 then some 0 else if 0 < (lg_cmp p0 p2) then some 0 else some 1
theorem ok_Model_isIn {γ : GG} {sh : List Sh} {tt : Bool} {p0 : Int64} {p1 : Int64} {p2 : Int64} {g : Mem} {res : Int32} (h : sp_Model_isIn p0 p1 p2 g = some res) : CA γ M_Model_isIn 0 [.long (p0), .long (p1), .long (p2)] sh g tt (0, 0) (pI sh res g tt) := by
  refine CA.of mw_Model_isIn.1 0 rfl ?_
  show WA γ M_Model_isIn 0 0 [some (.long (p0)), none, some (.long (p1)), none, some (.long (p2)), none] [] sh g tt (0, 0) (pI sh res g tt)
  unfold sp_Model_isIn at h
  refine w_lload_n (q := 1) d_Model_isIn_0 rfl rfl ?_
  refine w_lload_n (q := 2) d_Model_isIn_1 rfl rfl ?_
  refine w_lcmp (q := 3) d_Model_isIn_2 rfl ?_
  by_cases c1 : (lg_cmp p0 p1) < 0
  · rw [if_pos c1] at h
    refine w_if_lt_t (q := 17) d_Model_isIn_3 rfl c1 ?_
    refine w_iconst (q := 18) (v := 0) d_Model_isIn_17 rfl (by decide) ?_
    cases h
    exact w_ireturn d_Model_isIn_18 rfl rfl ⟨rfl, rfl, rfl, rfl⟩
  · rw [if_neg c1] at h
    refine w_if_lt_f (q := 6) d_Model_isIn_3 17 rfl rfl c1 ?_
    refine w_lload_n (q := 7) d_Model_isIn_6 rfl rfl ?_
    refine w_lload (q := 9) d_Model_isIn_7 rfl rfl ?_
    refine w_lcmp (q := 10) d_Model_isIn_9 rfl ?_
    by_cases c2 : 0 < (lg_cmp p0 p2)
    · rw [if_pos c2] at h
      refine w_if_gt_t (q := 17) d_Model_isIn_10 rfl c2 ?_
      refine w_iconst (q := 18) (v := 0) d_Model_isIn_17 rfl (by decide) ?_
      cases h
      exact w_ireturn d_Model_isIn_18 rfl rfl ⟨rfl, rfl, rfl, rfl⟩
    · rw [if_neg c2] at h
      refine w_if_gt_f (q := 13) d_Model_isIn_10 17 rfl rfl c2 ?_
      refine w_iconst (q := 14) (v := 1) d_Model_isIn_13 rfl (by decide) ?_
      refine w_goto (q := 18) d_Model_isIn_14 rfl ?_
      cases h
      exact w_ireturn d_Model_isIn_18 rfl rfl ⟨rfl, rfl, rfl, rfl⟩
def sp_Model_isOf (p0 : Int32) (p1 : Int32) (g : Mem) : Option (Int32) := if ((p0 >>> (p1 &&& 31)) &&& 1) = 1 then some 1 else some 0
theorem ok_Model_isOf {γ : GG} {sh : List Sh} {tt : Bool} {p0 : Int32} {p1 : Int32} {g : Mem} {res : Int32} (h : sp_Model_isOf p0 p1 g = some res) : CA γ M_Model_isOf 0 [.int p0, .int p1] sh g tt (0, 0) (pI sh res g tt) := by
  refine CA.of mw_Model_isOf.1 0 rfl ?_
  show WA γ M_Model_isOf 0 0 [some (.int p0), some (.int p1)] [] sh g tt (0, 0) (pI sh res g tt)
  unfold sp_Model_isOf at h
  refine w_iload_n (q := 1) d_Model_isOf_0 rfl rfl ?_
  refine w_iload_n (q := 2) d_Model_isOf_1 rfl rfl ?_
  refine w_ishr (q := 3) d_Model_isOf_2 rfl ?_
  refine w_iconst (q := 4) (v := 1) d_Model_isOf_3 rfl (by decide) ?_
  refine w_iand (q := 5) d_Model_isOf_4 rfl ?_
  refine w_iconst (q := 6) (v := 1) d_Model_isOf_5 rfl (by decide) ?_
  by_cases c1 : ((p0 >>> (p1 &&& 31)) &&& 1) = 1
  · rw [if_pos c1] at h
    refine w_icmp_ne_f (q := 9) d_Model_isOf_6 13 rfl rfl c1 ?_
    refine w_iconst (q := 10) (v := 1) d_Model_isOf_9 rfl (by decide) ?_
    refine w_goto (q := 14) d_Model_isOf_10 rfl ?_
    cases h
    exact w_ireturn d_Model_isOf_14 rfl rfl ⟨rfl, rfl, rfl, rfl⟩
  · rw [if_neg c1] at h
    refine w_icmp_ne_t (q := 13) d_Model_isOf_6 rfl c1 ?_
    refine w_iconst (q := 14) (v := 0) d_Model_isOf_13 rfl (by decide) ?_
    cases h
    exact w_ireturn d_Model_isOf_14 rfl rfl ⟨rfl, rfl, rfl, rfl⟩
def sp_Model_isMonk (p0 : Int32) (g : Mem) : Option (Int32) := (rd g 58 12 0).bind fun v1 => (sp_Model_isIn p0.toInt64 0 ((v1 - 1).toInt64) g).bind fun v2 => (bl v2).bind fun v3 => some v3
theorem ok_Model_isMonk {γ : GG} {tt : Bool} {p0 : Int32} {g : Mem} {res : Int32} (h : sp_Model_isMonk p0 g = some res) : CA γ M_Model_isMonk 1 [.ref 54, .int p0] SH g tt (0, 0) (pI SH res g tt) := by
  refine CA.of mw_Model_isMonk.1 0 rfl ?_
  show WA γ M_Model_isMonk 1 0 [some (.ref 54), some (.int p0)] [] SH g tt (0, 0) (pI SH res g tt)
  unfold sp_Model_isMonk at h
  refine w_iload_n (q := 1) d_Model_isMonk_0 rfl rfl ?_
  refine w_i2l (q := 2) d_Model_isMonk_1 rfl ?_
  refine w_lconst (q := 3) (v := 0) d_Model_isMonk_2 rfl (by decide) ?_
  refine w_aload_n (q := 4) d_Model_isMonk_3 rfl rfl ?_
  refine w_get (q := 7) (ci := 12) (j := 4) d_Model_isMonk_4 rfl (by decide) fl_Model_51 (by decide) (by decide) s_54 rfl rfl ?_
  refine w_iconst (q := 8) (v := 0) d_Model_isMonk_7 rfl (by decide) ?_
  obtain ⟨v1, hv, h⟩ := bnd h
  obtain ⟨hi, hv⟩ := rd_ok hv
  refine w_iald (q := 9) (t := 0) d_Model_isMonk_8 rfl a_58.2 a_58.1 hi rfl ?_
  rw [hv]
  refine w_iconst (q := 10) (v := 1) d_Model_isMonk_9 rfl (by decide) ?_
  refine w_isub (q := 11) d_Model_isMonk_10 rfl ?_
  refine w_i2l (q := 12) d_Model_isMonk_11 rfl ?_
  obtain ⟨v2, hv, h⟩ := bnd h
  refine w_callSi (q := 15) (M' := M_Model_isIn) (n' := 0) (As := [.long (p0.toInt64), .long (0), .long ((v1 - 1).toInt64)]) (sh' := SH) (b1 := (0, 0)) d_Model_isMonk_12 rfl mw_Model_isIn (by decide) (by decide) ml_Model_117 rfl rfl (leb rfl) (bz _) (fun _ => rfl) (ok_Model_isIn hv) ?_
  obtain ⟨v3, hv, h⟩ := bnd h
  obtain ⟨hv, hn⟩ := bl_ok hv
  rw [hv] at h
  cases h
  exact w_ireturn d_Model_isMonk_15 rfl hn ⟨rfl, rfl, rfl, rfl⟩
def sp_Model_isEntry (p0 : Int32) (g : Mem) : Option (Int32) := (sp_Model_isIn p0.toInt64 0 (((g 54 26) - 1).toInt64) g).bind fun v1 => (bl v1).bind fun v2 => some v2
theorem ok_Model_isEntry {γ : GG} {tt : Bool} {p0 : Int32} {g : Mem} {res : Int32} (h : sp_Model_isEntry p0 g = some res) : CA γ M_Model_isEntry 1 [.ref 54, .int p0] SH g tt (0, 0) (pI SH res g tt) := by
  refine CA.of mw_Model_isEntry.1 0 rfl ?_
  show WA γ M_Model_isEntry 1 0 [some (.ref 54), some (.int p0)] [] SH g tt (0, 0) (pI SH res g tt)
  unfold sp_Model_isEntry at h
  refine w_iload_n (q := 1) d_Model_isEntry_0 rfl rfl ?_
  refine w_i2l (q := 2) d_Model_isEntry_1 rfl ?_
  refine w_lconst (q := 3) (v := 0) d_Model_isEntry_2 rfl (by decide) ?_
  refine w_aload_n (q := 4) d_Model_isEntry_3 rfl rfl ?_
  refine w_get (q := 7) (ci := 12) (j := 26) d_Model_isEntry_4 rfl (by decide) fl_Model_121 (by decide) (by decide) s_54 rfl rfl ?_
  refine w_iconst (q := 8) (v := 1) d_Model_isEntry_7 rfl (by decide) ?_
  refine w_isub (q := 9) d_Model_isEntry_8 rfl ?_
  refine w_i2l (q := 10) d_Model_isEntry_9 rfl ?_
  obtain ⟨v1, hv, h⟩ := bnd h
  refine w_callSi (q := 13) (M' := M_Model_isIn) (n' := 0) (As := [.long (p0.toInt64), .long (0), .long (((g 54 26) - 1).toInt64)]) (sh' := SH) (b1 := (0, 0)) d_Model_isEntry_10 rfl mw_Model_isIn (by decide) (by decide) ml_Model_117 rfl rfl (leb rfl) (bz _) (fun _ => rfl) (ok_Model_isIn hv) ?_
  obtain ⟨v2, hv, h⟩ := bnd h
  obtain ⟨hv, hn⟩ := bl_ok hv
  rw [hv] at h
  cases h
  exact w_ireturn d_Model_isEntry_13 rfl hn ⟨rfl, rfl, rfl, rfl⟩
def sp_Model_isAbout (p0 : Int32) (g : Mem) : Option (Int32) := (sp_Model_isIn p0.toInt64 0 7 g).bind fun v1 => (bl v1).bind fun v2 => some v2
theorem ok_Model_isAbout {γ : GG} {sh : List Sh} {tt : Bool} {p0 : Int32} {g : Mem} {res : Int32} (h : sp_Model_isAbout p0 g = some res) : CA γ M_Model_isAbout 1 [.int p0] sh g tt (0, 0) (pI sh res g tt) := by
  refine CA.of mw_Model_isAbout.1 0 rfl ?_
  show WA γ M_Model_isAbout 1 0 [some (.int p0)] [] sh g tt (0, 0) (pI sh res g tt)
  unfold sp_Model_isAbout at h
  refine w_iload_n (q := 1) d_Model_isAbout_0 rfl rfl ?_
  refine w_i2l (q := 2) d_Model_isAbout_1 rfl ?_
  refine w_lconst (q := 3) (v := 0) d_Model_isAbout_2 rfl (by decide) ?_
  refine w_ldc2 (q := 6) d_Model_isAbout_3 rfl lo_Model_124 ?_
  obtain ⟨v1, hv, h⟩ := bnd h
  refine w_callSi (q := 9) (M' := M_Model_isIn) (n' := 0) (As := [.long (p0.toInt64), .long (0), .long (7)]) (sh' := sh) (b1 := (0, 0)) d_Model_isAbout_6 rfl mw_Model_isIn (by decide) (by decide) ml_Model_117 rfl rfl (leb rfl) (bz _) (fun _ => rfl) (ok_Model_isIn hv) ?_
  obtain ⟨v2, hv, h⟩ := bnd h
  obtain ⟨hv, hn⟩ := bl_ok hv
  rw [hv] at h
  cases h
  exact w_ireturn d_Model_isAbout_9 rfl hn ⟨rfl, rfl, rfl, rfl⟩
def PL_Model_feed_23 (γ : GG) (tt : Bool) (p0 : Int32) (p1 : Int32) (p2 : Int32) (p3 : Int32) (p4 : Int32) (g : Mem) (k1 : Int32) (k2 : Int32) (k3 : Int32) (k4 : Int32) (k5 : Int32) (b : Nat × Nat) (Φ : PO) (s : Int32 × Mem) : Prop := WA γ M_Model_feed 0 23 [some (.ref 54), some (.int k1), some (.int k2), some (.int k3), some (.int k4), some (.int k5), some (.int s.1), none] [] SH s.2 tt b Φ
def QL_Model_feed_23 (γ : GG) (tt : Bool) (p0 : Int32) (p1 : Int32) (p2 : Int32) (p3 : Int32) (p4 : Int32) (g : Mem) (k1 : Int32) (k2 : Int32) (k3 : Int32) (k4 : Int32) (k5 : Int32) (b : Nat × Nat) (Φ : PO) (x : (Mem)) : Prop := WA γ M_Model_feed 0 120 [some (.ref 54), none, none, none, none, none, none, none] [] SH x tt b Φ
def sp_Model_feed_j76_23 (F : Nat) (p0 : Int32) (p1 : Int32) (p2 : Int32) (p3 : Int32) (p4 : Int32) (k1 : Int32) (k2 : Int32) (k3 : Int32) (k4 : Int32) (k5 : Int32) (g : Mem) (m0 : Mem) (x6 : Int32) (y0 : Int32) : Option ((Int32 × Mem) ⊕ ((Mem))) := (rm x6 4).bind fun v7 => (wr m0 65 700 (m0 54 12) ((y0 >>> ((24 - (8 * v7)) &&& 31)) &&& 255)).bind fun g8 => some (.inl (x6 + 1, (mset g8 54 12 ((g8 54 12) + 1))))
theorem ok_Model_feed_j76_23 {γ : GG} {tt : Bool} {F : Nat} {p0 : Int32} {p1 : Int32} {p2 : Int32} {p3 : Int32} {p4 : Int32} {k1 : Int32} {k2 : Int32} {k3 : Int32} {k4 : Int32} {k5 : Int32} {g : Mem} {m0 : Mem} {x6 : Int32} {y0 : Int32} {b : Nat × Nat} {Φ : PO} {r : (Int32 × Mem) ⊕ ((Mem))} (h : sp_Model_feed_j76_23 F p0 p1 p2 p3 p4 k1 k2 k3 k4 k5 g m0 x6 y0 = some r) (hr : RQ (PL_Model_feed_23 γ tt p0 p1 p2 p3 p4 g k1 k2 k3 k4 k5 b Φ) (QL_Model_feed_23 γ tt p0 p1 p2 p3 p4 g k1 k2 k3 k4 k5 b Φ) r) : WA γ M_Model_feed 0 76 [some (.ref 54), some (.int k1), some (.int k2), some (.int k3), some (.int k4), some (.int k5), some (.int x6), none] [.int y0] SH m0 tt b Φ := by
  unfold sp_Model_feed_j76_23 at h
  refine w_istore (q := 78) (ls' := [some (.ref 54), some (.int k1), some (.int k2), some (.int k3), some (.int k4), some (.int k5), some (.int x6), some (.int y0)]) d_Model_feed_76 rfl (by decide) rfl rfl ?_
  refine w_aload_n (q := 79) d_Model_feed_78 rfl rfl ?_
  refine w_get (q := 82) (ci := 12) (j := 11) d_Model_feed_79 rfl (by decide) fl_Model_71 (by decide) (by decide) s_54 rfl rfl ?_
  refine w_aload_n (q := 83) d_Model_feed_82 rfl rfl ?_
  refine w_get (q := 86) (ci := 12) (j := 12) d_Model_feed_83 rfl (by decide) fl_Model_126 (by decide) (by decide) s_54 rfl rfl ?_
  refine w_iload (q := 88) d_Model_feed_86 rfl rfl ?_
  refine w_bipush (q := 90) (v := 24) d_Model_feed_88 rfl (by decide) ?_
  refine w_bipush (q := 92) (v := 8) d_Model_feed_90 rfl (by decide) ?_
  refine w_iload (q := 94) d_Model_feed_92 rfl rfl ?_
  refine w_iconst (q := 95) (v := 4) d_Model_feed_94 rfl (by decide) ?_
  obtain ⟨v7, hv, h⟩ := bnd h
  obtain ⟨hz, hv⟩ := rm_ok hv
  refine w_irem (q := 96) d_Model_feed_95 rfl hz ?_
  rw [hv]
  refine w_imul (q := 97) d_Model_feed_96 rfl ?_
  refine w_isub (q := 98) d_Model_feed_97 rfl ?_
  refine w_ishr (q := 99) d_Model_feed_98 rfl ?_
  refine w_sipush (q := 102) (v := 255) d_Model_feed_99 rfl (by decide) ?_
  refine w_iand (q := 103) d_Model_feed_102 rfl ?_
  obtain ⟨g8, hv, h⟩ := bnd h
  obtain ⟨hi, hv⟩ := wr_ok hv
  refine w_iast (q := 104) d_Model_feed_103 rfl a_65.2 a_65.1 hi hv ?_
  refine w_aload_n (q := 105) d_Model_feed_104 rfl rfl ?_
  refine w_dup (q := 106) d_Model_feed_105 rfl rfl ?_
  refine w_get (q := 109) (ci := 12) (j := 12) d_Model_feed_106 rfl (by decide) fl_Model_126 (by decide) (by decide) s_54 rfl rfl ?_
  refine w_iconst (q := 110) (v := 1) d_Model_feed_109 rfl (by decide) ?_
  refine w_iadd (q := 111) d_Model_feed_110 rfl ?_
  refine w_put (q := 114) (ci := 12) (j := 12) d_Model_feed_111 rfl (by decide) fl_Model_126 (by decide) (by decide) s_54 rfl rfl rfl rfl rfl rfl ?_
  refine w_iinc (q := 117) (ls' := [some (.ref 54), some (.int k1), some (.int k2), some (.int k3), some (.int k4), some (.int k5), some (.int (x6 + 1)), some (.int y0)]) d_Model_feed_114 rfl (by decide) rfl rfl rfl ?_
  refine w_goto (q := 23) d_Model_feed_117 rfl ?_
  cases h
  exact w_ls (by exact (And.intro rfl (And.intro rfl (And.intro rfl (And.intro rfl (And.intro rfl (And.intro rfl (And.intro rfl trivial)))))))) hr
def st_Model_feed_23 (F : Nat) (p0 : Int32) (p1 : Int32) (p2 : Int32) (p3 : Int32) (p4 : Int32) (g : Mem) (k1 : Int32) (k2 : Int32) (k3 : Int32) (k4 : Int32) (k5 : Int32) (s : Int32 × Mem) : Option ((Int32 × Mem) ⊕ ((Mem))) := if 20 ≤ s.1 then some (.inr s.2) else if 4 ≤ s.1 then if 8 ≤ s.1 then if 12 ≤ s.1 then if 16 ≤ s.1 then sp_Model_feed_j76_23 F p0 p1 p2 p3 p4 k1 k2 k3 k4 k5 g s.2 s.1 k5 else sp_Model_feed_j76_23 F p0 p1 p2 p3 p4 k1 k2 k3 k4 k5 g s.2 s.1 k4 else sp_Model_feed_j76_23 F p0 p1 p2 p3 p4 k1 k2 k3 k4 k5 g s.2 s.1 k3 else sp_Model_feed_j76_23 F p0 p1 p2 p3 p4 k1 k2 k3 k4 k5 g s.2 s.1 k2 else sp_Model_feed_j76_23 F p0 p1 p2 p3 p4 k1 k2 k3 k4 k5 g s.2 s.1 k1
theorem kl_Model_feed_23 {γ : GG} {tt : Bool} {F : Nat} {p0 : Int32} {p1 : Int32} {p2 : Int32} {p3 : Int32} {p4 : Int32} {g : Mem} {k1 : Int32} {k2 : Int32} {k3 : Int32} {k4 : Int32} {k5 : Int32} {b : Nat × Nat} {Φ : PO} : ∀ (s : Int32 × Mem) (r : (Int32 × Mem) ⊕ ((Mem))), st_Model_feed_23 F p0 p1 p2 p3 p4 g k1 k2 k3 k4 k5 s = some r → RQ (PL_Model_feed_23 γ tt p0 p1 p2 p3 p4 g k1 k2 k3 k4 k5 b Φ) (QL_Model_feed_23 γ tt p0 p1 p2 p3 p4 g k1 k2 k3 k4 k5 b Φ) r → PL_Model_feed_23 γ tt p0 p1 p2 p3 p4 g k1 k2 k3 k4 k5 b Φ s := by
  intro s r h hr
  unfold st_Model_feed_23 at h
  unfold PL_Model_feed_23
  refine w_iload (q := 25) d_Model_feed_23 rfl rfl ?_
  refine w_bipush (q := 27) (v := 20) d_Model_feed_25 rfl (by decide) ?_
  by_cases c2 : 20 ≤ s.1
  · rw [if_pos c2] at h
    refine w_icmp_ge_t (q := 120) d_Model_feed_27 rfl c2 ?_
    cases h
    exact w_ls (by exact (And.intro rfl trivial)) hr
  · rw [if_neg c2] at h
    refine w_icmp_ge_f (q := 30) d_Model_feed_27 120 rfl rfl c2 ?_
    refine w_iload (q := 32) d_Model_feed_30 rfl rfl ?_
    refine w_iconst (q := 33) (v := 4) d_Model_feed_32 rfl (by decide) ?_
    by_cases c3 : 4 ≤ s.1
    · rw [if_pos c3] at h
      refine w_icmp_ge_t (q := 40) d_Model_feed_33 rfl c3 ?_
      refine w_iload (q := 42) d_Model_feed_40 rfl rfl ?_
      refine w_bipush (q := 44) (v := 8) d_Model_feed_42 rfl (by decide) ?_
      by_cases c4 : 8 ≤ s.1
      · rw [if_pos c4] at h
        refine w_icmp_ge_t (q := 51) d_Model_feed_44 rfl c4 ?_
        refine w_iload (q := 53) d_Model_feed_51 rfl rfl ?_
        refine w_bipush (q := 55) (v := 12) d_Model_feed_53 rfl (by decide) ?_
        by_cases c5 : 12 ≤ s.1
        · rw [if_pos c5] at h
          refine w_icmp_ge_t (q := 62) d_Model_feed_55 rfl c5 ?_
          refine w_iload (q := 64) d_Model_feed_62 rfl rfl ?_
          refine w_bipush (q := 66) (v := 16) d_Model_feed_64 rfl (by decide) ?_
          by_cases c6 : 16 ≤ s.1
          · rw [if_pos c6] at h
            refine w_icmp_ge_t (q := 74) d_Model_feed_66 rfl c6 ?_
            refine w_iload (q := 76) d_Model_feed_74 rfl rfl ?_
            refine w_ls (ls' := [some (.ref 54), some (.int k1), some (.int k2), some (.int k3), some (.int k4), some (.int k5), some (.int s.1), none]) (And.intro rfl (And.intro rfl (And.intro rfl (And.intro rfl (And.intro rfl (And.intro rfl (And.intro rfl trivial))))))) ?_
            exact ok_Model_feed_j76_23 h hr
          · rw [if_neg c6] at h
            refine w_icmp_ge_f (q := 69) d_Model_feed_66 74 rfl rfl c6 ?_
            refine w_iload (q := 71) d_Model_feed_69 rfl rfl ?_
            refine w_goto (q := 76) d_Model_feed_71 rfl ?_
            refine w_ls (ls' := [some (.ref 54), some (.int k1), some (.int k2), some (.int k3), some (.int k4), some (.int k5), some (.int s.1), none]) (And.intro rfl (And.intro rfl (And.intro rfl (And.intro rfl (And.intro rfl (And.intro rfl (And.intro rfl trivial))))))) ?_
            exact ok_Model_feed_j76_23 h hr
        · rw [if_neg c5] at h
          refine w_icmp_ge_f (q := 58) d_Model_feed_55 62 rfl rfl c5 ?_
          refine w_iload_n (q := 59) d_Model_feed_58 rfl rfl ?_
          refine w_goto (q := 76) d_Model_feed_59 rfl ?_
          refine w_ls (ls' := [some (.ref 54), some (.int k1), some (.int k2), some (.int k3), some (.int k4), some (.int k5), some (.int s.1), none]) (And.intro rfl (And.intro rfl (And.intro rfl (And.intro rfl (And.intro rfl (And.intro rfl (And.intro rfl trivial))))))) ?_
          exact ok_Model_feed_j76_23 h hr
      · rw [if_neg c4] at h
        refine w_icmp_ge_f (q := 47) d_Model_feed_44 51 rfl rfl c4 ?_
        refine w_iload_n (q := 48) d_Model_feed_47 rfl rfl ?_
        refine w_goto (q := 76) d_Model_feed_48 rfl ?_
        refine w_ls (ls' := [some (.ref 54), some (.int k1), some (.int k2), some (.int k3), some (.int k4), some (.int k5), some (.int s.1), none]) (And.intro rfl (And.intro rfl (And.intro rfl (And.intro rfl (And.intro rfl (And.intro rfl (And.intro rfl trivial))))))) ?_
        exact ok_Model_feed_j76_23 h hr
    · rw [if_neg c3] at h
      refine w_icmp_ge_f (q := 36) d_Model_feed_33 40 rfl rfl c3 ?_
      refine w_iload_n (q := 37) d_Model_feed_36 rfl rfl ?_
      refine w_goto (q := 76) d_Model_feed_37 rfl ?_
      refine w_ls (ls' := [some (.ref 54), some (.int k1), some (.int k2), some (.int k3), some (.int k4), some (.int k5), some (.int s.1), none]) (And.intro rfl (And.intro rfl (And.intro rfl (And.intro rfl (And.intro rfl (And.intro rfl (And.intro rfl trivial))))))) ?_
      exact ok_Model_feed_j76_23 h hr
def sp_Model_feed (F : Nat) (p0 : Int32) (p1 : Int32) (p2 : Int32) (p3 : Int32) (p4 : Int32) (g : Mem) : Option (Int32 × Mem) := if (((mset g 54 3 0) 54 12) + 20) ≤ 700 then (lpO (st_Model_feed_23 F p0 p1 p2 p3 p4 g p0 p1 p2 p3 p4) F (0, (mset g 54 3 0))).bind fun x9 => some (x9 54 12, x9) else some ((-1), (mset g 54 3 0))
theorem ok_Model_feed {γ : GG} {tt : Bool} {F : Nat} {p0 : Int32} {p1 : Int32} {p2 : Int32} {p3 : Int32} {p4 : Int32} {g : Mem} {res : Int32 × Mem} (h : sp_Model_feed F p0 p1 p2 p3 p4 g = some res) : CA γ M_Model_feed 0 [.ref 54, .int p0, .int p1, .int p2, .int p3, .int p4] SH g tt (0, 0) (pI SH res.1 res.2 tt) := by
  refine CA.of mw_Model_feed.1 2 rfl ?_
  show WA γ M_Model_feed 0 0 [some (.ref 54), some (.int p0), some (.int p1), some (.int p2), some (.int p3), some (.int p4), none, none] [] SH g tt (0, 0) (pI SH res.1 res.2 tt)
  unfold sp_Model_feed at h
  refine w_aload_n (q := 1) d_Model_feed_0 rfl rfl ?_
  refine w_iconst (q := 2) (v := 0) d_Model_feed_1 rfl (by decide) ?_
  refine w_put (q := 5) (ci := 12) (j := 3) d_Model_feed_2 rfl (by decide) fl_Model_114 (by decide) (by decide) s_54 rfl rfl rfl rfl rfl rfl ?_
  refine w_aload_n (q := 6) d_Model_feed_5 rfl rfl ?_
  refine w_get (q := 9) (ci := 12) (j := 12) d_Model_feed_6 rfl (by decide) fl_Model_126 (by decide) (by decide) s_54 rfl rfl ?_
  refine w_bipush (q := 11) (v := 20) d_Model_feed_9 rfl (by decide) ?_
  refine w_iadd (q := 12) d_Model_feed_11 rfl ?_
  refine w_sipush (q := 15) (v := 700) d_Model_feed_12 rfl (by decide) ?_
  by_cases c1 : (((mset g 54 3 0) 54 12) + 20) ≤ 700
  · rw [if_pos c1] at h
    refine w_icmp_le_t (q := 20) d_Model_feed_15 rfl c1 ?_
    refine w_iconst (q := 21) (v := 0) d_Model_feed_20 rfl (by decide) ?_
    refine w_istore (q := 23) (ls' := [some (.ref 54), some (.int p0), some (.int p1), some (.int p2), some (.int p3), some (.int p4), some (.int 0), none]) d_Model_feed_21 rfl (by decide) rfl rfl ?_
    obtain ⟨x9, hx, h⟩ := bnd h
    refine w_ls (ls' := [some (.ref 54), some (.int p0), some (.int p1), some (.int p2), some (.int p3), some (.int p4), some (.int 0), none]) (And.intro rfl (And.intro rfl (And.intro rfl (And.intro rfl (And.intro rfl (And.intro rfl (And.intro rfl trivial))))))) ?_
    show PL_Model_feed_23 γ tt p0 p1 p2 p3 p4 g p0 p1 p2 p3 p4 _ _ (0, (mset g 54 3 0))
    refine lp_ok (kl_Model_feed_23) F _ x9 hx ?_
    unfold QL_Model_feed_23
    refine w_aload_n (q := 121) d_Model_feed_120 rfl rfl ?_
    refine w_get (q := 124) (ci := 12) (j := 12) d_Model_feed_121 rfl (by decide) fl_Model_126 (by decide) (by decide) s_54 rfl rfl ?_
    cases h
    exact w_ireturn d_Model_feed_124 rfl rfl ⟨rfl, rfl, rfl, rfl⟩
  · rw [if_neg c1] at h
    refine w_icmp_le_f (q := 18) d_Model_feed_15 20 rfl rfl c1 ?_
    refine w_iconst (q := 19) (v := (-1)) d_Model_feed_18 rfl (by decide) ?_
    cases h
    exact w_ireturn d_Model_feed_19 rfl rfl ⟨rfl, rfl, rfl, rfl⟩
def sp_Model_oneNow_j26 (p0 : Int32) (g : Mem) (m0 : Mem) (x2 : Int32) : Option (Int32 × Mem) := if (m0 54 19) = 0 then some (x2, m0) else some (0, m0)
theorem ok_Model_oneNow_j26 {γ : GG} {tt : Bool} {p0 : Int32} {g : Mem} {m0 : Mem} {x2 : Int32} {res : Int32 × Mem} (h : sp_Model_oneNow_j26 p0 g m0 x2 = some res) : WA γ M_Model_oneNow 2 26 [some (.ref 54), none, some (.int x2)] [] SH m0 tt (0, 0) (pI SH res.1 res.2 tt) := by
  unfold sp_Model_oneNow_j26 at h
  refine w_aload_n (q := 27) d_Model_oneNow_26 rfl rfl ?_
  refine w_get (q := 30) (ci := 12) (j := 19) d_Model_oneNow_27 rfl (by decide) fl_Model_168 (by decide) (by decide) s_54 rfl rfl ?_
  by_cases c4 : (m0 54 19) = 0
  · rw [if_pos c4] at h
    refine w_if_ne_f (q := 33) d_Model_oneNow_30 37 rfl rfl c4 ?_
    refine w_iload_n (q := 34) d_Model_oneNow_33 rfl rfl ?_
    refine w_goto (q := 38) d_Model_oneNow_34 rfl ?_
    cases h
    exact w_ireturn d_Model_oneNow_38 rfl rfl ⟨rfl, rfl, rfl, rfl⟩
  · rw [if_neg c4] at h
    refine w_if_ne_t (q := 37) d_Model_oneNow_30 rfl c4 ?_
    refine w_iconst (q := 38) (v := 0) d_Model_oneNow_37 rfl (by decide) ?_
    cases h
    exact w_ireturn d_Model_oneNow_38 rfl rfl ⟨rfl, rfl, rfl, rfl⟩
def sp_Model_oneNow (p0 : Int32) (g : Mem) : Option (Int32 × Mem) := (sp_Model_numberNow 0 9999 g).bind fun v1 => if (v1.2 54 19) = 0 then if v1.1 < p0 then sp_Model_oneNow_j26 p0 g v1.2 v1.1 else (sp_Model_wrong 3 v1.2).bind fun v5 => sp_Model_oneNow_j26 p0 g v5 v1.1 else sp_Model_oneNow_j26 p0 g v1.2 v1.1
theorem ok_Model_oneNow {γ : GG} {tt : Bool} {p0 : Int32} {g : Mem} {res : Int32 × Mem} (h : sp_Model_oneNow p0 g = some res) : CA γ M_Model_oneNow 2 [.ref 54, .int p0] SH g tt (0, 0) (pI SH res.1 res.2 tt) := by
  refine CA.of mw_Model_oneNow.1 1 rfl ?_
  show WA γ M_Model_oneNow 2 0 [some (.ref 54), some (.int p0), none] [] SH g tt (0, 0) (pI SH res.1 res.2 tt)
  unfold sp_Model_oneNow at h
  refine w_aload_n (q := 1) d_Model_oneNow_0 rfl rfl ?_
  refine w_iconst (q := 2) (v := 0) d_Model_oneNow_1 rfl (by decide) ?_
  refine w_sipush (q := 5) (v := 9999) d_Model_oneNow_2 rfl (by decide) ?_
  obtain ⟨v1, hv, h⟩ := bnd h
  refine w_callVi (q := 8) (M' := M_Model_numberNow) (n' := 1) (k := 54) (As := [.int 0, .int 9999]) (sh' := SH) (b1 := (0, 0)) d_Model_oneNow_5 rfl mw_Model_numberNow (by decide) (by decide) ml_Model_196 (by decide) s_54 (by decide) rfl rfl rfl (leb rfl) (bz _) (fun _ => rfl) (ok_Model_numberNow hv) ?_
  refine w_istore_n (q := 9) (ls' := [some (.ref 54), some (.int p0), some (.int v1.1)]) d_Model_oneNow_8 rfl (by decide) rfl rfl ?_
  refine w_aload_n (q := 10) d_Model_oneNow_9 rfl rfl ?_
  refine w_get (q := 13) (ci := 12) (j := 19) d_Model_oneNow_10 rfl (by decide) fl_Model_168 (by decide) (by decide) s_54 rfl rfl ?_
  by_cases c2 : (v1.2 54 19) = 0
  · rw [if_pos c2] at h
    refine w_if_ne_f (q := 16) d_Model_oneNow_13 26 rfl rfl c2 ?_
    refine w_iload_n (q := 17) d_Model_oneNow_16 rfl rfl ?_
    refine w_iload_n (q := 18) d_Model_oneNow_17 rfl rfl ?_
    by_cases c3 : v1.1 < p0
    · rw [if_pos c3] at h
      refine w_icmp_lt_t (q := 26) d_Model_oneNow_18 rfl c3 ?_
      refine w_ls (ls' := [some (.ref 54), none, some (.int v1.1)]) (And.intro rfl (And.intro rfl trivial)) ?_
      exact ok_Model_oneNow_j26 h
    · rw [if_neg c3] at h
      refine w_icmp_lt_f (q := 21) d_Model_oneNow_18 26 rfl rfl c3 ?_
      refine w_aload_n (q := 22) d_Model_oneNow_21 rfl rfl ?_
      refine w_iconst (q := 23) (v := 3) d_Model_oneNow_22 rfl (by decide) ?_
      obtain ⟨v5, hv, h⟩ := bnd h
      refine w_callVv (q := 26) (M' := M_Model_wrong) (n' := 0) (k := 54) (As := [.int 3]) (sh' := SH) (b1 := (0, 0)) d_Model_oneNow_23 rfl mw_Model_wrong (by decide) (by decide) ml_Model_189 (by decide) s_54 (by decide) rfl rfl rfl (leb rfl) (bz _) (fun _ => rfl) (ok_Model_wrong hv) ?_
      refine w_ls (ls' := [some (.ref 54), none, some (.int v1.1)]) (And.intro rfl (And.intro rfl trivial)) ?_
      exact ok_Model_oneNow_j26 h
  · rw [if_neg c2] at h
    refine w_if_ne_t (q := 26) d_Model_oneNow_13 rfl c2 ?_
    refine w_ls (ls' := [some (.ref 54), none, some (.int v1.1)]) (And.intro rfl (And.intro rfl trivial)) ?_
    exact ok_Model_oneNow_j26 h
def sp_Model_readOne (F : Nat) (p0 : Int32) (g : Mem) : Option (Int32 × Mem) := (sp_Model_oneNow p0 g).bind fun v1 => if (v1.2 54 19) = 0 then (sp_Model_stepOn F v1.2).bind fun v3 => some (v1.1, v3) else some (v1.1, v1.2)
theorem ok_Model_readOne {γ : GG} {tt : Bool} {F : Nat} {p0 : Int32} {g : Mem} {res : Int32 × Mem} (h : sp_Model_readOne F p0 g = some res) : CA γ M_Model_readOne 3 [.ref 54, .int p0] SH g tt (0, 0) (pI SH res.1 res.2 tt) := by
  refine CA.of mw_Model_readOne.1 1 rfl ?_
  show WA γ M_Model_readOne 3 0 [some (.ref 54), some (.int p0), none] [] SH g tt (0, 0) (pI SH res.1 res.2 tt)
  unfold sp_Model_readOne at h
  refine w_aload_n (q := 1) d_Model_readOne_0 rfl rfl ?_
  refine w_iload_n (q := 2) d_Model_readOne_1 rfl rfl ?_
  obtain ⟨v1, hv, h⟩ := bnd h
  refine w_callVi (q := 5) (M' := M_Model_oneNow) (n' := 2) (k := 54) (As := [.int p0]) (sh' := SH) (b1 := (0, 0)) d_Model_readOne_2 rfl mw_Model_oneNow (by decide) (by decide) ml_Model_199 (by decide) s_54 (by decide) rfl rfl rfl (leb rfl) (bz _) (fun _ => rfl) (ok_Model_oneNow hv) ?_
  refine w_istore_n (q := 6) (ls' := [some (.ref 54), some (.int p0), some (.int v1.1)]) d_Model_readOne_5 rfl (by decide) rfl rfl ?_
  refine w_aload_n (q := 7) d_Model_readOne_6 rfl rfl ?_
  refine w_get (q := 10) (ci := 12) (j := 19) d_Model_readOne_7 rfl (by decide) fl_Model_168 (by decide) (by decide) s_54 rfl rfl ?_
  by_cases c2 : (v1.2 54 19) = 0
  · rw [if_pos c2] at h
    refine w_if_ne_f (q := 13) d_Model_readOne_10 17 rfl rfl c2 ?_
    refine w_aload_n (q := 14) d_Model_readOne_13 rfl rfl ?_
    obtain ⟨v3, hv, h⟩ := bnd h
    refine w_callVv (q := 17) (M' := M_Model_stepOn) (n' := 1) (k := 54) (As := []) (sh' := SH) (b1 := (0, 0)) d_Model_readOne_14 rfl mw_Model_stepOn (by decide) (by decide) ml_Model_193 (by decide) s_54 (by decide) rfl rfl rfl (leb rfl) (bz _) (fun _ => rfl) (ok_Model_stepOn hv) ?_
    refine w_iload_n (q := 18) d_Model_readOne_17 rfl rfl ?_
    cases h
    exact w_ireturn d_Model_readOne_18 rfl rfl ⟨rfl, rfl, rfl, rfl⟩
  · rw [if_neg c2] at h
    refine w_if_ne_t (q := 17) d_Model_readOne_10 rfl c2 ?_
    refine w_iload_n (q := 18) d_Model_readOne_17 rfl rfl ?_
    cases h
    exact w_ireturn d_Model_readOne_18 rfl rfl ⟨rfl, rfl, rfl, rfl⟩
def sp_Model_mayHave (p0 : Int32) (p1 : Int32) (g : Mem) : Option (Int32) := if p0 = 2 then some 0 else if p0 = 1 then (sp_JMath_min 5 p1 g).bind fun v3 => some v3 else some p1
theorem ok_Model_mayHave {γ : GG} {sh : List Sh} {tt : Bool} {p0 : Int32} {p1 : Int32} {g : Mem} {res : Int32} (h : sp_Model_mayHave p0 p1 g = some res) : CA γ M_Model_mayHave 1 [.int p0, .int p1] sh g tt (0, 0) (pI sh res g tt) := by
  refine CA.of mw_Model_mayHave.1 0 rfl ?_
  show WA γ M_Model_mayHave 1 0 [some (.int p0), some (.int p1)] [] sh g tt (0, 0) (pI sh res g tt)
  unfold sp_Model_mayHave at h
  refine w_iload_n (q := 1) d_Model_mayHave_0 rfl rfl ?_
  refine w_iconst (q := 2) (v := 2) d_Model_mayHave_1 rfl (by decide) ?_
  by_cases c1 : p0 = 2
  · rw [if_pos c1] at h
    refine w_icmp_ne_f (q := 5) d_Model_mayHave_2 9 rfl rfl c1 ?_
    refine w_iconst (q := 6) (v := 0) d_Model_mayHave_5 rfl (by decide) ?_
    refine w_goto (q := 23) d_Model_mayHave_6 rfl ?_
    cases h
    exact w_ireturn d_Model_mayHave_23 rfl rfl ⟨rfl, rfl, rfl, rfl⟩
  · rw [if_neg c1] at h
    refine w_icmp_ne_t (q := 9) d_Model_mayHave_2 rfl c1 ?_
    refine w_iload_n (q := 10) d_Model_mayHave_9 rfl rfl ?_
    refine w_iconst (q := 11) (v := 1) d_Model_mayHave_10 rfl (by decide) ?_
    by_cases c2 : p0 = 1
    · rw [if_pos c2] at h
      refine w_icmp_ne_f (q := 14) d_Model_mayHave_11 22 rfl rfl c2 ?_
      refine w_iconst (q := 15) (v := 5) d_Model_mayHave_14 rfl (by decide) ?_
      refine w_iload_n (q := 16) d_Model_mayHave_15 rfl rfl ?_
      obtain ⟨v3, hv, h⟩ := bnd h
      refine w_callSi (q := 19) (M' := M_JMath_min) (n' := 0) (As := [.int 5, .int p1]) (sh' := sh) (b1 := (0, 0)) d_Model_mayHave_16 rfl mw_JMath_min (by decide) (by decide) ml_Model_156 rfl rfl (leb rfl) (bz _) (fun _ => rfl) (ok_JMath_min hv) ?_
      refine w_goto (q := 23) d_Model_mayHave_19 rfl ?_
      cases h
      exact w_ireturn d_Model_mayHave_23 rfl rfl ⟨rfl, rfl, rfl, rfl⟩
    · rw [if_neg c2] at h
      refine w_icmp_ne_t (q := 22) d_Model_mayHave_11 rfl c2 ?_
      refine w_iload_n (q := 23) d_Model_mayHave_22 rfl rfl ?_
      cases h
      exact w_ireturn d_Model_mayHave_23 rfl rfl ⟨rfl, rfl, rfl, rfl⟩
def sp_Model_readMonk_j17 (F : Nat) (p0 : Int32) (g : Mem) (m0 : Mem) (x1 : Int32) : Option (Mem) := if (m0 54 19) = 0 then (sp_Model_stepOn F m0).bind fun v5 => (rd v5 58 12 6).bind fun v6 => (wr v5 59 12 (6 + v6) x1).bind fun g7 => (sp_Model_readNumber F 0 99 g7).bind fun v8 => (wr v8.2 60 12 (6 + v6) v8.1).bind fun g9 => (sp_Model_readNumber F 0 60 g9).bind fun v10 => (rd v10.2 58 12 7).bind fun v11 => (sp_Model_mayHave x1 v11 v10.2).bind fun v12 => (sp_JMath_min v10.1 v12 v10.2).bind fun v13 => (wr v10.2 61 12 (6 + v6) v13).bind fun g14 => (rd g14 58 12 6).bind fun v15 => (wr g14 58 12 6 (v15 + 1)).bind fun g16 => some g16 else some m0
theorem ok_Model_readMonk_j17 {γ : GG} {tt : Bool} {F : Nat} {p0 : Int32} {g : Mem} {m0 : Mem} {x1 : Int32} {res : Mem} (h : sp_Model_readMonk_j17 F p0 g m0 x1 = some res) : WA γ M_Model_readMonk 3 17 [some (.ref 54), some (.int x1), none] [] SH m0 tt (0, 0) (pV SH res tt) := by
  unfold sp_Model_readMonk_j17 at h
  refine w_aload_n (q := 18) d_Model_readMonk_17 rfl rfl ?_
  refine w_get (q := 21) (ci := 12) (j := 19) d_Model_readMonk_18 rfl (by decide) fl_Model_168 (by decide) (by decide) s_54 rfl rfl ?_
  by_cases c4 : (m0 54 19) = 0
  · rw [if_pos c4] at h
    refine w_if_eq_t (q := 25) d_Model_readMonk_21 rfl c4 ?_
    refine w_aload_n (q := 26) d_Model_readMonk_25 rfl rfl ?_
    obtain ⟨v5, hv, h⟩ := bnd h
    refine w_callVv (q := 29) (M' := M_Model_stepOn) (n' := 1) (k := 54) (As := []) (sh' := SH) (b1 := (0, 0)) d_Model_readMonk_26 rfl mw_Model_stepOn (by decide) (by decide) ml_Model_193 (by decide) s_54 (by decide) rfl rfl rfl (leb rfl) (bz _) (fun _ => rfl) (ok_Model_stepOn hv) ?_
    refine w_bipush (q := 31) (v := 6) d_Model_readMonk_29 rfl (by decide) ?_
    refine w_aload_n (q := 32) d_Model_readMonk_31 rfl rfl ?_
    refine w_get (q := 35) (ci := 12) (j := 4) d_Model_readMonk_32 rfl (by decide) fl_Model_51 (by decide) (by decide) s_54 rfl rfl ?_
    refine w_bipush (q := 37) (v := 6) d_Model_readMonk_35 rfl (by decide) ?_
    obtain ⟨v6, hv, h⟩ := bnd h
    obtain ⟨hi, hv⟩ := rd_ok hv
    refine w_iald (q := 38) (t := 0) d_Model_readMonk_37 rfl a_58.2 a_58.1 hi rfl ?_
    rw [hv]
    refine w_iadd (q := 39) d_Model_readMonk_38 rfl ?_
    refine w_istore_n (q := 40) (ls' := [some (.ref 54), some (.int x1), some (.int (6 + v6))]) d_Model_readMonk_39 rfl (by decide) rfl rfl ?_
    refine w_aload_n (q := 41) d_Model_readMonk_40 rfl rfl ?_
    refine w_get (q := 44) (ci := 12) (j := 5) d_Model_readMonk_41 rfl (by decide) fl_Model_55 (by decide) (by decide) s_54 rfl rfl ?_
    refine w_iload_n (q := 45) d_Model_readMonk_44 rfl rfl ?_
    refine w_iload_n (q := 46) d_Model_readMonk_45 rfl rfl ?_
    obtain ⟨g7, hv, h⟩ := bnd h
    obtain ⟨hi, hv⟩ := wr_ok hv
    refine w_iast (q := 47) d_Model_readMonk_46 rfl a_59.2 a_59.1 hi hv ?_
    refine w_aload_n (q := 48) d_Model_readMonk_47 rfl rfl ?_
    refine w_get (q := 51) (ci := 12) (j := 6) d_Model_readMonk_48 rfl (by decide) fl_Model_57 (by decide) (by decide) s_54 rfl rfl ?_
    refine w_iload_n (q := 52) d_Model_readMonk_51 rfl rfl ?_
    refine w_aload_n (q := 53) d_Model_readMonk_52 rfl rfl ?_
    refine w_iconst (q := 54) (v := 0) d_Model_readMonk_53 rfl (by decide) ?_
    refine w_bipush (q := 56) (v := 99) d_Model_readMonk_54 rfl (by decide) ?_
    obtain ⟨v8, hv, h⟩ := bnd h
    refine w_callVi (q := 59) (M' := M_Model_readNumber) (n' := 2) (k := 54) (As := [.int 0, .int 99]) (sh' := SH) (b1 := (0, 0)) d_Model_readMonk_56 rfl mw_Model_readNumber (by decide) (by decide) ml_Model_202 (by decide) s_54 (by decide) rfl rfl rfl (leb rfl) (bz _) (fun _ => rfl) (ok_Model_readNumber hv) ?_
    obtain ⟨g9, hv, h⟩ := bnd h
    obtain ⟨hi, hv⟩ := wr_ok hv
    refine w_iast (q := 60) d_Model_readMonk_59 rfl a_60.2 a_60.1 hi hv ?_
    refine w_aload_n (q := 61) d_Model_readMonk_60 rfl rfl ?_
    refine w_get (q := 64) (ci := 12) (j := 7) d_Model_readMonk_61 rfl (by decide) fl_Model_59 (by decide) (by decide) s_54 rfl rfl ?_
    refine w_iload_n (q := 65) d_Model_readMonk_64 rfl rfl ?_
    refine w_aload_n (q := 66) d_Model_readMonk_65 rfl rfl ?_
    refine w_iconst (q := 67) (v := 0) d_Model_readMonk_66 rfl (by decide) ?_
    refine w_bipush (q := 69) (v := 60) d_Model_readMonk_67 rfl (by decide) ?_
    obtain ⟨v10, hv, h⟩ := bnd h
    refine w_callVi (q := 72) (M' := M_Model_readNumber) (n' := 2) (k := 54) (As := [.int 0, .int 60]) (sh' := SH) (b1 := (0, 0)) d_Model_readMonk_69 rfl mw_Model_readNumber (by decide) (by decide) ml_Model_202 (by decide) s_54 (by decide) rfl rfl rfl (leb rfl) (bz _) (fun _ => rfl) (ok_Model_readNumber hv) ?_
    refine w_iload_n (q := 73) d_Model_readMonk_72 rfl rfl ?_
    refine w_aload_n (q := 74) d_Model_readMonk_73 rfl rfl ?_
    refine w_get (q := 77) (ci := 12) (j := 4) d_Model_readMonk_74 rfl (by decide) fl_Model_51 (by decide) (by decide) s_54 rfl rfl ?_
    refine w_bipush (q := 79) (v := 7) d_Model_readMonk_77 rfl (by decide) ?_
    obtain ⟨v11, hv, h⟩ := bnd h
    obtain ⟨hi, hv⟩ := rd_ok hv
    refine w_iald (q := 80) (t := 0) d_Model_readMonk_79 rfl a_58.2 a_58.1 hi rfl ?_
    rw [hv]
    obtain ⟨v12, hv, h⟩ := bnd h
    refine w_callSi (q := 83) (M' := M_Model_mayHave) (n' := 1) (As := [.int x1, .int v11]) (sh' := SH) (b1 := (0, 0)) d_Model_readMonk_80 rfl mw_Model_mayHave (by decide) (by decide) ml_Model_239 rfl rfl (leb rfl) (bz _) (fun _ => rfl) (ok_Model_mayHave hv) ?_
    obtain ⟨v13, hv, h⟩ := bnd h
    refine w_callSi (q := 86) (M' := M_JMath_min) (n' := 0) (As := [.int v10.1, .int v12]) (sh' := SH) (b1 := (0, 0)) d_Model_readMonk_83 rfl mw_JMath_min (by decide) (by decide) ml_Model_156 rfl rfl (leb rfl) (bz _) (fun _ => rfl) (ok_JMath_min hv) ?_
    obtain ⟨g14, hv, h⟩ := bnd h
    obtain ⟨hi, hv⟩ := wr_ok hv
    refine w_iast (q := 87) d_Model_readMonk_86 rfl a_61.2 a_61.1 hi hv ?_
    refine w_aload_n (q := 88) d_Model_readMonk_87 rfl rfl ?_
    refine w_get (q := 91) (ci := 12) (j := 4) d_Model_readMonk_88 rfl (by decide) fl_Model_51 (by decide) (by decide) s_54 rfl rfl ?_
    refine w_bipush (q := 93) (v := 6) d_Model_readMonk_91 rfl (by decide) ?_
    refine w_dup2 (q := 94) d_Model_readMonk_93 rfl rfl rfl ?_
    obtain ⟨v15, hv, h⟩ := bnd h
    obtain ⟨hi, hv⟩ := rd_ok hv
    refine w_iald (q := 95) (t := 0) d_Model_readMonk_94 rfl a_58.2 a_58.1 hi rfl ?_
    rw [hv]
    refine w_iconst (q := 96) (v := 1) d_Model_readMonk_95 rfl (by decide) ?_
    refine w_iadd (q := 97) d_Model_readMonk_96 rfl ?_
    obtain ⟨g16, hv, h⟩ := bnd h
    obtain ⟨hi, hv⟩ := wr_ok hv
    refine w_iast (q := 98) d_Model_readMonk_97 rfl a_58.2 a_58.1 hi hv ?_
    cases h
    exact w_return d_Model_readMonk_98 rfl ⟨rfl, rfl, rfl, rfl⟩
  · rw [if_neg c4] at h
    refine w_if_eq_f (q := 24) d_Model_readMonk_21 25 rfl rfl c4 ?_
    cases h
    exact w_return d_Model_readMonk_24 rfl ⟨rfl, rfl, rfl, rfl⟩
def sp_Model_readMonk (F : Nat) (p0 : Int32) (g : Mem) : Option (Mem) := (rd g 58 12 6).bind fun v1 => if v1 = 6 then (sp_Model_wrong 2 g).bind fun v3 => sp_Model_readMonk_j17 F p0 g v3 p0 else sp_Model_readMonk_j17 F p0 g g p0
theorem ok_Model_readMonk {γ : GG} {tt : Bool} {F : Nat} {p0 : Int32} {g : Mem} {res : Mem} (h : sp_Model_readMonk F p0 g = some res) : CA γ M_Model_readMonk 3 [.ref 54, .int p0] SH g tt (0, 0) (pV SH res tt) := by
  refine CA.of mw_Model_readMonk.1 1 rfl ?_
  show WA γ M_Model_readMonk 3 0 [some (.ref 54), some (.int p0), none] [] SH g tt (0, 0) (pV SH res tt)
  unfold sp_Model_readMonk at h
  refine w_aload_n (q := 1) d_Model_readMonk_0 rfl rfl ?_
  refine w_get (q := 4) (ci := 12) (j := 4) d_Model_readMonk_1 rfl (by decide) fl_Model_51 (by decide) (by decide) s_54 rfl rfl ?_
  refine w_bipush (q := 6) (v := 6) d_Model_readMonk_4 rfl (by decide) ?_
  obtain ⟨v1, hv, h⟩ := bnd h
  obtain ⟨hi, hv⟩ := rd_ok hv
  refine w_iald (q := 7) (t := 0) d_Model_readMonk_6 rfl a_58.2 a_58.1 hi rfl ?_
  rw [hv]
  refine w_bipush (q := 9) (v := 6) d_Model_readMonk_7 rfl (by decide) ?_
  by_cases c2 : v1 = 6
  · rw [if_pos c2] at h
    refine w_icmp_ne_f (q := 12) d_Model_readMonk_9 17 rfl rfl c2 ?_
    refine w_aload_n (q := 13) d_Model_readMonk_12 rfl rfl ?_
    refine w_iconst (q := 14) (v := 2) d_Model_readMonk_13 rfl (by decide) ?_
    obtain ⟨v3, hv, h⟩ := bnd h
    refine w_callVv (q := 17) (M' := M_Model_wrong) (n' := 0) (k := 54) (As := [.int 2]) (sh' := SH) (b1 := (0, 0)) d_Model_readMonk_14 rfl mw_Model_wrong (by decide) (by decide) ml_Model_189 (by decide) s_54 (by decide) rfl rfl rfl (leb rfl) (bz _) (fun _ => rfl) (ok_Model_wrong hv) ?_
    refine w_ls (ls' := [some (.ref 54), some (.int p0), none]) (And.intro rfl (And.intro rfl trivial)) ?_
    exact ok_Model_readMonk_j17 h
  · rw [if_neg c2] at h
    refine w_icmp_ne_t (q := 17) d_Model_readMonk_9 rfl c2 ?_
    refine w_ls (ls' := [some (.ref 54), some (.int p0), none]) (And.intro rfl (And.intro rfl trivial)) ?_
    exact ok_Model_readMonk_j17 h
def sp_Model_readAt (p0 : Int32) (g : Mem) : Option (Int32) := some (9 * (24 + p0))
theorem ok_Model_readAt {γ : GG} {sh : List Sh} {tt : Bool} {p0 : Int32} {g : Mem} {res : Int32} (h : sp_Model_readAt p0 g = some res) : CA γ M_Model_readAt 0 [.int p0] sh g tt (0, 0) (pI sh res g tt) := by
  refine CA.of mw_Model_readAt.1 0 rfl ?_
  show WA γ M_Model_readAt 0 0 [some (.int p0)] [] sh g tt (0, 0) (pI sh res g tt)
  unfold sp_Model_readAt at h
  refine w_bipush (q := 2) (v := 9) d_Model_readAt_0 rfl (by decide) ?_
  refine w_bipush (q := 4) (v := 24) d_Model_readAt_2 rfl (by decide) ?_
  refine w_iload_n (q := 5) d_Model_readAt_4 rfl rfl ?_
  refine w_iadd (q := 6) d_Model_readAt_5 rfl ?_
  refine w_imul (q := 7) d_Model_readAt_6 rfl ?_
  cases h
  exact w_ireturn d_Model_readAt_7 rfl rfl ⟨rfl, rfl, rfl, rfl⟩
def sp_Model_anotherEntry_j17 (F : Nat) (g : Mem) (m0 : Mem) : Option (Int32 × Mem) := if (m0 54 19) = 0 then (sp_Model_stepOn F m0).bind fun v5 => some (1, v5) else some (0, m0)
theorem ok_Model_anotherEntry_j17 {γ : GG} {tt : Bool} {F : Nat} {g : Mem} {m0 : Mem} {res : Int32 × Mem} (h : sp_Model_anotherEntry_j17 F g m0  = some res) : WA γ M_Model_anotherEntry 2 17 [some (.ref 54)] [] SH m0 tt (0, 0) (pI SH res.1 res.2 tt) := by
  unfold sp_Model_anotherEntry_j17 at h
  refine w_aload_n (q := 18) d_Model_anotherEntry_17 rfl rfl ?_
  refine w_get (q := 21) (ci := 12) (j := 19) d_Model_anotherEntry_18 rfl (by decide) fl_Model_168 (by decide) (by decide) s_54 rfl rfl ?_
  by_cases c4 : (m0 54 19) = 0
  · rw [if_pos c4] at h
    refine w_if_eq_t (q := 26) d_Model_anotherEntry_21 rfl c4 ?_
    refine w_aload_n (q := 27) d_Model_anotherEntry_26 rfl rfl ?_
    obtain ⟨v5, hv, h⟩ := bnd h
    refine w_callVv (q := 30) (M' := M_Model_stepOn) (n' := 1) (k := 54) (As := []) (sh' := SH) (b1 := (0, 0)) d_Model_anotherEntry_27 rfl mw_Model_stepOn (by decide) (by decide) ml_Model_193 (by decide) s_54 (by decide) rfl rfl rfl (leb rfl) (bz _) (fun _ => rfl) (ok_Model_stepOn hv) ?_
    refine w_iconst (q := 31) (v := 1) d_Model_anotherEntry_30 rfl (by decide) ?_
    cases h
    exact w_ireturn d_Model_anotherEntry_31 rfl rfl ⟨rfl, rfl, rfl, rfl⟩
  · rw [if_neg c4] at h
    refine w_if_eq_f (q := 24) d_Model_anotherEntry_21 26 rfl rfl c4 ?_
    refine w_iconst (q := 25) (v := 0) d_Model_anotherEntry_24 rfl (by decide) ?_
    cases h
    exact w_ireturn d_Model_anotherEntry_25 rfl rfl ⟨rfl, rfl, rfl, rfl⟩
def sp_Model_anotherEntry (F : Nat) (g : Mem) : Option (Int32 × Mem) := (rd g 58 12 10).bind fun v1 => if v1 = 24 then (sp_Model_wrong 2 g).bind fun v3 => sp_Model_anotherEntry_j17 F g v3 else sp_Model_anotherEntry_j17 F g g
theorem ok_Model_anotherEntry {γ : GG} {tt : Bool} {F : Nat} {g : Mem} {res : Int32 × Mem} (h : sp_Model_anotherEntry F g = some res) : CA γ M_Model_anotherEntry 2 [.ref 54] SH g tt (0, 0) (pI SH res.1 res.2 tt) := by
  refine CA.of mw_Model_anotherEntry.1 0 rfl ?_
  show WA γ M_Model_anotherEntry 2 0 [some (.ref 54)] [] SH g tt (0, 0) (pI SH res.1 res.2 tt)
  unfold sp_Model_anotherEntry at h
  refine w_aload_n (q := 1) d_Model_anotherEntry_0 rfl rfl ?_
  refine w_get (q := 4) (ci := 12) (j := 4) d_Model_anotherEntry_1 rfl (by decide) fl_Model_51 (by decide) (by decide) s_54 rfl rfl ?_
  refine w_bipush (q := 6) (v := 10) d_Model_anotherEntry_4 rfl (by decide) ?_
  obtain ⟨v1, hv, h⟩ := bnd h
  obtain ⟨hi, hv⟩ := rd_ok hv
  refine w_iald (q := 7) (t := 0) d_Model_anotherEntry_6 rfl a_58.2 a_58.1 hi rfl ?_
  rw [hv]
  refine w_bipush (q := 9) (v := 24) d_Model_anotherEntry_7 rfl (by decide) ?_
  by_cases c2 : v1 = 24
  · rw [if_pos c2] at h
    refine w_icmp_ne_f (q := 12) d_Model_anotherEntry_9 17 rfl rfl c2 ?_
    refine w_aload_n (q := 13) d_Model_anotherEntry_12 rfl rfl ?_
    refine w_iconst (q := 14) (v := 2) d_Model_anotherEntry_13 rfl (by decide) ?_
    obtain ⟨v3, hv, h⟩ := bnd h
    refine w_callVv (q := 17) (M' := M_Model_wrong) (n' := 0) (k := 54) (As := [.int 2]) (sh' := SH) (b1 := (0, 0)) d_Model_anotherEntry_14 rfl mw_Model_wrong (by decide) (by decide) ml_Model_189 (by decide) s_54 (by decide) rfl rfl rfl (leb rfl) (bz _) (fun _ => rfl) (ok_Model_wrong hv) ?_
    refine w_ls (ls' := [some (.ref 54)]) (And.intro rfl trivial) ?_
    exact ok_Model_anotherEntry_j17 h
  · rw [if_neg c2] at h
    refine w_icmp_ne_t (q := 17) d_Model_anotherEntry_9 rfl c2 ?_
    refine w_ls (ls' := [some (.ref 54)]) (And.intro rfl trivial) ?_
    exact ok_Model_anotherEntry_j17 h
def sp_Model_readEntry_j171 (F : Nat) (p0 : Int32) (g : Mem) (m0 : Mem) (x2 : Int32) : Option (Mem) := (rd m0 58 12 10).bind fun v24 => (wr m0 62 432 (x2 + 7) v24).bind fun g25 => (wr g25 62 432 (x2 + 8) 0).bind fun g26 => (rd g26 58 12 10).bind fun v27 => (wr g26 58 12 10 (v27 + 1)).bind fun g28 => some g28
theorem ok_Model_readEntry_j171 {γ : GG} {tt : Bool} {F : Nat} {p0 : Int32} {g : Mem} {m0 : Mem} {x2 : Int32} {res : Mem} (h : sp_Model_readEntry_j171 F p0 g m0 x2 = some res) : WA γ M_Model_readEntry 6 171 [some (.ref 54), none, some (.int x2)] [] SH m0 tt (0, 0) (pV SH res tt) := by
  unfold sp_Model_readEntry_j171 at h
  refine w_aload_n (q := 172) d_Model_readEntry_171 rfl rfl ?_
  refine w_get (q := 175) (ci := 12) (j := 8) d_Model_readEntry_172 rfl (by decide) fl_Model_62 (by decide) (by decide) s_54 rfl rfl ?_
  refine w_iload_n (q := 176) d_Model_readEntry_175 rfl rfl ?_
  refine w_bipush (q := 178) (v := 7) d_Model_readEntry_176 rfl (by decide) ?_
  refine w_iadd (q := 179) d_Model_readEntry_178 rfl ?_
  refine w_aload_n (q := 180) d_Model_readEntry_179 rfl rfl ?_
  refine w_get (q := 183) (ci := 12) (j := 4) d_Model_readEntry_180 rfl (by decide) fl_Model_51 (by decide) (by decide) s_54 rfl rfl ?_
  refine w_bipush (q := 185) (v := 10) d_Model_readEntry_183 rfl (by decide) ?_
  obtain ⟨v24, hv, h⟩ := bnd h
  obtain ⟨hi, hv⟩ := rd_ok hv
  refine w_iald (q := 186) (t := 0) d_Model_readEntry_185 rfl a_58.2 a_58.1 hi rfl ?_
  rw [hv]
  obtain ⟨g25, hv, h⟩ := bnd h
  obtain ⟨hi, hv⟩ := wr_ok hv
  refine w_iast (q := 187) d_Model_readEntry_186 rfl a_62.2 a_62.1 hi hv ?_
  refine w_aload_n (q := 188) d_Model_readEntry_187 rfl rfl ?_
  refine w_get (q := 191) (ci := 12) (j := 8) d_Model_readEntry_188 rfl (by decide) fl_Model_62 (by decide) (by decide) s_54 rfl rfl ?_
  refine w_iload_n (q := 192) d_Model_readEntry_191 rfl rfl ?_
  refine w_bipush (q := 194) (v := 8) d_Model_readEntry_192 rfl (by decide) ?_
  refine w_iadd (q := 195) d_Model_readEntry_194 rfl ?_
  refine w_iconst (q := 196) (v := 0) d_Model_readEntry_195 rfl (by decide) ?_
  obtain ⟨g26, hv, h⟩ := bnd h
  obtain ⟨hi, hv⟩ := wr_ok hv
  refine w_iast (q := 197) d_Model_readEntry_196 rfl a_62.2 a_62.1 hi hv ?_
  refine w_aload_n (q := 198) d_Model_readEntry_197 rfl rfl ?_
  refine w_get (q := 201) (ci := 12) (j := 4) d_Model_readEntry_198 rfl (by decide) fl_Model_51 (by decide) (by decide) s_54 rfl rfl ?_
  refine w_bipush (q := 203) (v := 10) d_Model_readEntry_201 rfl (by decide) ?_
  refine w_dup2 (q := 204) d_Model_readEntry_203 rfl rfl rfl ?_
  obtain ⟨v27, hv, h⟩ := bnd h
  obtain ⟨hi, hv⟩ := rd_ok hv
  refine w_iald (q := 205) (t := 0) d_Model_readEntry_204 rfl a_58.2 a_58.1 hi rfl ?_
  rw [hv]
  refine w_iconst (q := 206) (v := 1) d_Model_readEntry_205 rfl (by decide) ?_
  refine w_iadd (q := 207) d_Model_readEntry_206 rfl ?_
  obtain ⟨g28, hv, h⟩ := bnd h
  obtain ⟨hi, hv⟩ := wr_ok hv
  refine w_iast (q := 208) d_Model_readEntry_207 rfl a_58.2 a_58.1 hi hv ?_
  cases h
  exact w_return d_Model_readEntry_208 rfl ⟨rfl, rfl, rfl, rfl⟩
def sp_Model_readEntry_j153 (F : Nat) (p0 : Int32) (g : Mem) (m0 : Mem) (x2 : Int32) (y0 : Int32) (y1 : Int32) : Option (Mem) := (wr m0 62 432 y1 y0).bind fun g20 => (rd g20 62 432 (x2 + 6)).bind fun v21 => if v21 = 1 then (sp_Model_stepOn F g20).bind fun v23 => sp_Model_readEntry_j171 F p0 g v23 x2 else sp_Model_readEntry_j171 F p0 g g20 x2
theorem ok_Model_readEntry_j153 {γ : GG} {tt : Bool} {F : Nat} {p0 : Int32} {g : Mem} {m0 : Mem} {x2 : Int32} {y0 : Int32} {y1 : Int32} {res : Mem} (h : sp_Model_readEntry_j153 F p0 g m0 x2 y0 y1 = some res) : WA γ M_Model_readEntry 6 153 [some (.ref 54), none, some (.int x2)] [.int y0, .int y1, .ref 62] SH m0 tt (0, 0) (pV SH res tt) := by
  unfold sp_Model_readEntry_j153 at h
  obtain ⟨g20, hv, h⟩ := bnd h
  obtain ⟨hi, hv⟩ := wr_ok hv
  refine w_iast (q := 154) d_Model_readEntry_153 rfl a_62.2 a_62.1 hi hv ?_
  refine w_aload_n (q := 155) d_Model_readEntry_154 rfl rfl ?_
  refine w_get (q := 158) (ci := 12) (j := 8) d_Model_readEntry_155 rfl (by decide) fl_Model_62 (by decide) (by decide) s_54 rfl rfl ?_
  refine w_iload_n (q := 159) d_Model_readEntry_158 rfl rfl ?_
  refine w_bipush (q := 161) (v := 6) d_Model_readEntry_159 rfl (by decide) ?_
  refine w_iadd (q := 162) d_Model_readEntry_161 rfl ?_
  obtain ⟨v21, hv, h⟩ := bnd h
  obtain ⟨hi, hv⟩ := rd_ok hv
  refine w_iald (q := 163) (t := 0) d_Model_readEntry_162 rfl a_62.2 a_62.1 hi rfl ?_
  rw [hv]
  refine w_iconst (q := 164) (v := 1) d_Model_readEntry_163 rfl (by decide) ?_
  by_cases c22 : v21 = 1
  · rw [if_pos c22] at h
    refine w_icmp_ne_f (q := 167) d_Model_readEntry_164 171 rfl rfl c22 ?_
    refine w_aload_n (q := 168) d_Model_readEntry_167 rfl rfl ?_
    obtain ⟨v23, hv, h⟩ := bnd h
    refine w_callVv (q := 171) (M' := M_Model_stepOn) (n' := 1) (k := 54) (As := []) (sh' := SH) (b1 := (0, 0)) d_Model_readEntry_168 rfl mw_Model_stepOn (by decide) (by decide) ml_Model_193 (by decide) s_54 (by decide) rfl rfl rfl (leb rfl) (bz _) (fun _ => rfl) (ok_Model_stepOn hv) ?_
    refine w_ls (ls' := [some (.ref 54), none, some (.int x2)]) (And.intro rfl (And.intro rfl trivial)) ?_
    exact ok_Model_readEntry_j171 h
  · rw [if_neg c22] at h
    refine w_icmp_ne_t (q := 171) d_Model_readEntry_164 rfl c22 ?_
    refine w_ls (ls' := [some (.ref 54), none, some (.int x2)]) (And.intro rfl (And.intro rfl trivial)) ?_
    exact ok_Model_readEntry_j171 h
def sp_Model_readEntry_j131 (F : Nat) (p0 : Int32) (g : Mem) (m0 : Mem) (x2 : Int32) : Option (Mem) := (sp_Model_is F 37 m0).bind fun v18 => if v18 = 0 then sp_Model_readEntry_j153 F p0 g m0 x2 0 (x2 + 6) else sp_Model_readEntry_j153 F p0 g m0 x2 1 (x2 + 6)
theorem ok_Model_readEntry_j131 {γ : GG} {tt : Bool} {F : Nat} {p0 : Int32} {g : Mem} {m0 : Mem} {x2 : Int32} {res : Mem} (h : sp_Model_readEntry_j131 F p0 g m0 x2 = some res) : WA γ M_Model_readEntry 6 131 [some (.ref 54), none, some (.int x2)] [] SH m0 tt (0, 0) (pV SH res tt) := by
  unfold sp_Model_readEntry_j131 at h
  refine w_aload_n (q := 132) d_Model_readEntry_131 rfl rfl ?_
  refine w_get (q := 135) (ci := 12) (j := 8) d_Model_readEntry_132 rfl (by decide) fl_Model_62 (by decide) (by decide) s_54 rfl rfl ?_
  refine w_iload_n (q := 136) d_Model_readEntry_135 rfl rfl ?_
  refine w_bipush (q := 138) (v := 6) d_Model_readEntry_136 rfl (by decide) ?_
  refine w_iadd (q := 139) d_Model_readEntry_138 rfl ?_
  refine w_aload_n (q := 140) d_Model_readEntry_139 rfl rfl ?_
  refine w_ldcS (q := 142) (j := 37) d_Model_readEntry_140 rfl (by decide) rfl ?_
  obtain ⟨v18, hv, h⟩ := bnd h
  refine w_callVi (q := 145) (M' := M_Model_is) (n' := 5) (k := 54) (As := [.ref (1048576 + 37)]) (sh' := SH) (b1 := (0, 0)) d_Model_readEntry_142 rfl mw_Model_is (by decide) (by decide) ml_Model_182 (by decide) s_54 (by decide) rfl rfl rfl (leb rfl) (bz _) (fun _ => rfl) (ok_Model_is (by decide) hv) ?_
  by_cases c19 : v18 = 0
  · rw [if_pos c19] at h
    refine w_if_eq_t (q := 152) d_Model_readEntry_145 rfl c19 ?_
    refine w_iconst (q := 153) (v := 0) d_Model_readEntry_152 rfl (by decide) ?_
    refine w_ls (ls' := [some (.ref 54), none, some (.int x2)]) (And.intro rfl (And.intro rfl trivial)) ?_
    exact ok_Model_readEntry_j153 h
  · rw [if_neg c19] at h
    refine w_if_eq_f (q := 148) d_Model_readEntry_145 152 rfl rfl c19 ?_
    refine w_iconst (q := 149) (v := 1) d_Model_readEntry_148 rfl (by decide) ?_
    refine w_goto (q := 153) d_Model_readEntry_149 rfl ?_
    refine w_ls (ls' := [some (.ref 54), none, some (.int x2)]) (And.intro rfl (And.intro rfl trivial)) ?_
    exact ok_Model_readEntry_j153 h
def sp_Model_readEntry (F : Nat) (p0 : Int32) (g : Mem) : Option (Mem) := (sp_Model_anotherEntry F g).bind fun v1 => if v1.1 = 0 then some v1.2 else (rd v1.2 58 12 10).bind fun v3 => (sp_Model_readAt v3 v1.2).bind fun v4 => (wr v1.2 62 432 (v4 + 0) p0).bind fun g5 => (rd g5 58 12 6).bind fun v6 => (sp_Model_readOne F v6 g5).bind fun v7 => (wr v7.2 62 432 (v4 + 1) v7.1).bind fun g8 => (sp_Model_readNumber F 0 60 g8).bind fun v9 => (wr v9.2 62 432 (v4 + 2) (-v9.1)).bind fun g10 => (sp_Model_readNumber F 0 7 g10).bind fun v11 => (wr v11.2 62 432 (v4 + 3) v11.1).bind fun g12 => (sp_Model_readNumber F 0 999 g12).bind fun v13 => (wr v13.2 62 432 (v4 + 4) v13.1).bind fun g14 => (wr g14 62 432 (v4 + 5) 0).bind fun g15 => (sp_Model_is F 36 g15).bind fun v16 => if v16 = 0 then sp_Model_readEntry_j131 F p0 g g15 v4 else (sp_Model_stepOn F g15).bind fun v29 => (sp_Model_readNumber F 0 7 v29).bind fun v30 => (wr v30.2 62 432 (v4 + 5) v30.1).bind fun g31 => sp_Model_readEntry_j131 F p0 g g31 v4
theorem ok_Model_readEntry {γ : GG} {tt : Bool} {F : Nat} {p0 : Int32} {g : Mem} {res : Mem} (h : sp_Model_readEntry F p0 g = some res) : CA γ M_Model_readEntry 6 [.ref 54, .int p0] SH g tt (0, 0) (pV SH res tt) := by
  refine CA.of mw_Model_readEntry.1 1 rfl ?_
  show WA γ M_Model_readEntry 6 0 [some (.ref 54), some (.int p0), none] [] SH g tt (0, 0) (pV SH res tt)
  unfold sp_Model_readEntry at h
  refine w_aload_n (q := 1) d_Model_readEntry_0 rfl rfl ?_
  obtain ⟨v1, hv, h⟩ := bnd h
  refine w_callVi (q := 4) (M' := M_Model_anotherEntry) (n' := 2) (k := 54) (As := []) (sh' := SH) (b1 := (0, 0)) d_Model_readEntry_1 rfl mw_Model_anotherEntry (by decide) (by decide) ml_Model_242 (by decide) s_54 (by decide) rfl rfl rfl (leb rfl) (bz _) (fun _ => rfl) (ok_Model_anotherEntry hv) ?_
  by_cases c2 : v1.1 = 0
  · rw [if_pos c2] at h
    refine w_if_ne_f (q := 7) d_Model_readEntry_4 8 rfl rfl c2 ?_
    cases h
    exact w_return d_Model_readEntry_7 rfl ⟨rfl, rfl, rfl, rfl⟩
  · rw [if_neg c2] at h
    refine w_if_ne_t (q := 8) d_Model_readEntry_4 rfl c2 ?_
    refine w_aload_n (q := 9) d_Model_readEntry_8 rfl rfl ?_
    refine w_get (q := 12) (ci := 12) (j := 4) d_Model_readEntry_9 rfl (by decide) fl_Model_51 (by decide) (by decide) s_54 rfl rfl ?_
    refine w_bipush (q := 14) (v := 10) d_Model_readEntry_12 rfl (by decide) ?_
    obtain ⟨v3, hv, h⟩ := bnd h
    obtain ⟨hi, hv⟩ := rd_ok hv
    refine w_iald (q := 15) (t := 0) d_Model_readEntry_14 rfl a_58.2 a_58.1 hi rfl ?_
    rw [hv]
    obtain ⟨v4, hv, h⟩ := bnd h
    refine w_callSi (q := 18) (M' := M_Model_readAt) (n' := 0) (As := [.int v3]) (sh' := SH) (b1 := (0, 0)) d_Model_readEntry_15 rfl mw_Model_readAt (by decide) (by decide) ml_Model_246 rfl rfl (leb rfl) (bz _) (fun _ => rfl) (ok_Model_readAt hv) ?_
    refine w_istore_n (q := 19) (ls' := [some (.ref 54), some (.int p0), some (.int v4)]) d_Model_readEntry_18 rfl (by decide) rfl rfl ?_
    refine w_aload_n (q := 20) d_Model_readEntry_19 rfl rfl ?_
    refine w_get (q := 23) (ci := 12) (j := 8) d_Model_readEntry_20 rfl (by decide) fl_Model_62 (by decide) (by decide) s_54 rfl rfl ?_
    refine w_iload_n (q := 24) d_Model_readEntry_23 rfl rfl ?_
    refine w_iconst (q := 25) (v := 0) d_Model_readEntry_24 rfl (by decide) ?_
    refine w_iadd (q := 26) d_Model_readEntry_25 rfl ?_
    refine w_iload_n (q := 27) d_Model_readEntry_26 rfl rfl ?_
    obtain ⟨g5, hv, h⟩ := bnd h
    obtain ⟨hi, hv⟩ := wr_ok hv
    refine w_iast (q := 28) d_Model_readEntry_27 rfl a_62.2 a_62.1 hi hv ?_
    refine w_aload_n (q := 29) d_Model_readEntry_28 rfl rfl ?_
    refine w_get (q := 32) (ci := 12) (j := 8) d_Model_readEntry_29 rfl (by decide) fl_Model_62 (by decide) (by decide) s_54 rfl rfl ?_
    refine w_iload_n (q := 33) d_Model_readEntry_32 rfl rfl ?_
    refine w_iconst (q := 34) (v := 1) d_Model_readEntry_33 rfl (by decide) ?_
    refine w_iadd (q := 35) d_Model_readEntry_34 rfl ?_
    refine w_aload_n (q := 36) d_Model_readEntry_35 rfl rfl ?_
    refine w_aload_n (q := 37) d_Model_readEntry_36 rfl rfl ?_
    refine w_get (q := 40) (ci := 12) (j := 4) d_Model_readEntry_37 rfl (by decide) fl_Model_51 (by decide) (by decide) s_54 rfl rfl ?_
    refine w_bipush (q := 42) (v := 6) d_Model_readEntry_40 rfl (by decide) ?_
    obtain ⟨v6, hv, h⟩ := bnd h
    obtain ⟨hi, hv⟩ := rd_ok hv
    refine w_iald (q := 43) (t := 0) d_Model_readEntry_42 rfl a_58.2 a_58.1 hi rfl ?_
    rw [hv]
    obtain ⟨v7, hv, h⟩ := bnd h
    refine w_callVi (q := 46) (M' := M_Model_readOne) (n' := 3) (k := 54) (As := [.int v6]) (sh' := SH) (b1 := (0, 0)) d_Model_readEntry_43 rfl mw_Model_readOne (by decide) (by decide) ml_Model_249 (by decide) s_54 (by decide) rfl rfl rfl (leb rfl) (bz _) (fun _ => rfl) (ok_Model_readOne hv) ?_
    obtain ⟨g8, hv, h⟩ := bnd h
    obtain ⟨hi, hv⟩ := wr_ok hv
    refine w_iast (q := 47) d_Model_readEntry_46 rfl a_62.2 a_62.1 hi hv ?_
    refine w_aload_n (q := 48) d_Model_readEntry_47 rfl rfl ?_
    refine w_get (q := 51) (ci := 12) (j := 8) d_Model_readEntry_48 rfl (by decide) fl_Model_62 (by decide) (by decide) s_54 rfl rfl ?_
    refine w_iload_n (q := 52) d_Model_readEntry_51 rfl rfl ?_
    refine w_iconst (q := 53) (v := 2) d_Model_readEntry_52 rfl (by decide) ?_
    refine w_iadd (q := 54) d_Model_readEntry_53 rfl ?_
    refine w_aload_n (q := 55) d_Model_readEntry_54 rfl rfl ?_
    refine w_iconst (q := 56) (v := 0) d_Model_readEntry_55 rfl (by decide) ?_
    refine w_bipush (q := 58) (v := 60) d_Model_readEntry_56 rfl (by decide) ?_
    obtain ⟨v9, hv, h⟩ := bnd h
    refine w_callVi (q := 61) (M' := M_Model_readNumber) (n' := 2) (k := 54) (As := [.int 0, .int 60]) (sh' := SH) (b1 := (0, 0)) d_Model_readEntry_58 rfl mw_Model_readNumber (by decide) (by decide) ml_Model_202 (by decide) s_54 (by decide) rfl rfl rfl (leb rfl) (bz _) (fun _ => rfl) (ok_Model_readNumber hv) ?_
    refine w_ineg (q := 62) d_Model_readEntry_61 rfl ?_
    obtain ⟨g10, hv, h⟩ := bnd h
    obtain ⟨hi, hv⟩ := wr_ok hv
    refine w_iast (q := 63) d_Model_readEntry_62 rfl a_62.2 a_62.1 hi hv ?_
    refine w_aload_n (q := 64) d_Model_readEntry_63 rfl rfl ?_
    refine w_get (q := 67) (ci := 12) (j := 8) d_Model_readEntry_64 rfl (by decide) fl_Model_62 (by decide) (by decide) s_54 rfl rfl ?_
    refine w_iload_n (q := 68) d_Model_readEntry_67 rfl rfl ?_
    refine w_iconst (q := 69) (v := 3) d_Model_readEntry_68 rfl (by decide) ?_
    refine w_iadd (q := 70) d_Model_readEntry_69 rfl ?_
    refine w_aload_n (q := 71) d_Model_readEntry_70 rfl rfl ?_
    refine w_iconst (q := 72) (v := 0) d_Model_readEntry_71 rfl (by decide) ?_
    refine w_bipush (q := 74) (v := 7) d_Model_readEntry_72 rfl (by decide) ?_
    obtain ⟨v11, hv, h⟩ := bnd h
    refine w_callVi (q := 77) (M' := M_Model_readNumber) (n' := 2) (k := 54) (As := [.int 0, .int 7]) (sh' := SH) (b1 := (0, 0)) d_Model_readEntry_74 rfl mw_Model_readNumber (by decide) (by decide) ml_Model_202 (by decide) s_54 (by decide) rfl rfl rfl (leb rfl) (bz _) (fun _ => rfl) (ok_Model_readNumber hv) ?_
    obtain ⟨g12, hv, h⟩ := bnd h
    obtain ⟨hi, hv⟩ := wr_ok hv
    refine w_iast (q := 78) d_Model_readEntry_77 rfl a_62.2 a_62.1 hi hv ?_
    refine w_aload_n (q := 79) d_Model_readEntry_78 rfl rfl ?_
    refine w_get (q := 82) (ci := 12) (j := 8) d_Model_readEntry_79 rfl (by decide) fl_Model_62 (by decide) (by decide) s_54 rfl rfl ?_
    refine w_iload_n (q := 83) d_Model_readEntry_82 rfl rfl ?_
    refine w_iconst (q := 84) (v := 4) d_Model_readEntry_83 rfl (by decide) ?_
    refine w_iadd (q := 85) d_Model_readEntry_84 rfl ?_
    refine w_aload_n (q := 86) d_Model_readEntry_85 rfl rfl ?_
    refine w_iconst (q := 87) (v := 0) d_Model_readEntry_86 rfl (by decide) ?_
    refine w_sipush (q := 90) (v := 999) d_Model_readEntry_87 rfl (by decide) ?_
    obtain ⟨v13, hv, h⟩ := bnd h
    refine w_callVi (q := 93) (M' := M_Model_readNumber) (n' := 2) (k := 54) (As := [.int 0, .int 999]) (sh' := SH) (b1 := (0, 0)) d_Model_readEntry_90 rfl mw_Model_readNumber (by decide) (by decide) ml_Model_202 (by decide) s_54 (by decide) rfl rfl rfl (leb rfl) (bz _) (fun _ => rfl) (ok_Model_readNumber hv) ?_
    obtain ⟨g14, hv, h⟩ := bnd h
    obtain ⟨hi, hv⟩ := wr_ok hv
    refine w_iast (q := 94) d_Model_readEntry_93 rfl a_62.2 a_62.1 hi hv ?_
    refine w_aload_n (q := 95) d_Model_readEntry_94 rfl rfl ?_
    refine w_get (q := 98) (ci := 12) (j := 8) d_Model_readEntry_95 rfl (by decide) fl_Model_62 (by decide) (by decide) s_54 rfl rfl ?_
    refine w_iload_n (q := 99) d_Model_readEntry_98 rfl rfl ?_
    refine w_iconst (q := 100) (v := 5) d_Model_readEntry_99 rfl (by decide) ?_
    refine w_iadd (q := 101) d_Model_readEntry_100 rfl ?_
    refine w_iconst (q := 102) (v := 0) d_Model_readEntry_101 rfl (by decide) ?_
    obtain ⟨g15, hv, h⟩ := bnd h
    obtain ⟨hi, hv⟩ := wr_ok hv
    refine w_iast (q := 103) d_Model_readEntry_102 rfl a_62.2 a_62.1 hi hv ?_
    refine w_aload_n (q := 104) d_Model_readEntry_103 rfl rfl ?_
    refine w_ldcS (q := 106) (j := 36) d_Model_readEntry_104 rfl (by decide) rfl ?_
    obtain ⟨v16, hv, h⟩ := bnd h
    refine w_callVi (q := 109) (M' := M_Model_is) (n' := 5) (k := 54) (As := [.ref (1048576 + 36)]) (sh' := SH) (b1 := (0, 0)) d_Model_readEntry_106 rfl mw_Model_is (by decide) (by decide) ml_Model_182 (by decide) s_54 (by decide) rfl rfl rfl (leb rfl) (bz _) (fun _ => rfl) (ok_Model_is (by decide) hv) ?_
    by_cases c17 : v16 = 0
    · rw [if_pos c17] at h
      refine w_if_eq_t (q := 131) d_Model_readEntry_109 rfl c17 ?_
      refine w_ls (ls' := [some (.ref 54), none, some (.int v4)]) (And.intro rfl (And.intro rfl trivial)) ?_
      exact ok_Model_readEntry_j131 h
    · rw [if_neg c17] at h
      refine w_if_eq_f (q := 112) d_Model_readEntry_109 131 rfl rfl c17 ?_
      refine w_aload_n (q := 113) d_Model_readEntry_112 rfl rfl ?_
      obtain ⟨v29, hv, h⟩ := bnd h
      refine w_callVv (q := 116) (M' := M_Model_stepOn) (n' := 1) (k := 54) (As := []) (sh' := SH) (b1 := (0, 0)) d_Model_readEntry_113 rfl mw_Model_stepOn (by decide) (by decide) ml_Model_193 (by decide) s_54 (by decide) rfl rfl rfl (leb rfl) (bz _) (fun _ => rfl) (ok_Model_stepOn hv) ?_
      refine w_aload_n (q := 117) d_Model_readEntry_116 rfl rfl ?_
      refine w_get (q := 120) (ci := 12) (j := 8) d_Model_readEntry_117 rfl (by decide) fl_Model_62 (by decide) (by decide) s_54 rfl rfl ?_
      refine w_iload_n (q := 121) d_Model_readEntry_120 rfl rfl ?_
      refine w_iconst (q := 122) (v := 5) d_Model_readEntry_121 rfl (by decide) ?_
      refine w_iadd (q := 123) d_Model_readEntry_122 rfl ?_
      refine w_aload_n (q := 124) d_Model_readEntry_123 rfl rfl ?_
      refine w_iconst (q := 125) (v := 0) d_Model_readEntry_124 rfl (by decide) ?_
      refine w_bipush (q := 127) (v := 7) d_Model_readEntry_125 rfl (by decide) ?_
      obtain ⟨v30, hv, h⟩ := bnd h
      refine w_callVi (q := 130) (M' := M_Model_readNumber) (n' := 2) (k := 54) (As := [.int 0, .int 7]) (sh' := SH) (b1 := (0, 0)) d_Model_readEntry_127 rfl mw_Model_readNumber (by decide) (by decide) ml_Model_202 (by decide) s_54 (by decide) rfl rfl rfl (leb rfl) (bz _) (fun _ => rfl) (ok_Model_readNumber hv) ?_
      obtain ⟨g31, hv, h⟩ := bnd h
      obtain ⟨hi, hv⟩ := wr_ok hv
      refine w_iast (q := 131) d_Model_readEntry_130 rfl a_62.2 a_62.1 hi hv ?_
      refine w_ls (ls' := [some (.ref 54), none, some (.int v4)]) (And.intro rfl (And.intro rfl trivial)) ?_
      exact ok_Model_readEntry_j131 h
def PL_Model_readCopy_37 (γ : GG) (tt : Bool) (g : Mem) (k1 : Int32) (k2 : Int32) (b : Nat × Nat) (Φ : PO) (s : Int32 × Mem) : Prop := WA γ M_Model_readCopy 4 37 [some (.ref 54), some (.int k1), some (.int k2), some (.int s.1), none, none] [] SH s.2 tt b Φ
def QL_Model_readCopy_37 (γ : GG) (tt : Bool) (g : Mem) (k1 : Int32) (k2 : Int32) (b : Nat × Nat) (Φ : PO) (x : (Mem)) : Prop := WA γ M_Model_readCopy 4 105 [some (.ref 54), some (.int k1), some (.int k2), none, none, none] [] SH x tt b Φ
def st_Model_readCopy_37 (F : Nat) (g : Mem) (k1 : Int32) (k2 : Int32) (s : Int32 × Mem) : Option ((Int32 × Mem) ⊕ ((Mem))) := (rd s.2 58 12 10).bind fun v8 => if v8 ≤ s.1 then some (.inr s.2) else if (s.2 54 19) = 0 then (sp_Model_readAt s.1 s.2).bind fun v11 => (rd s.2 62 432 (v11 + 7)).bind fun v12 => (rd s.2 62 432 (k1 + 7)).bind fun v13 => if v12 = v13 then (sp_Model_readAt s.1 s.2).bind fun v15 => (rd s.2 62 432 (v15 + 1)).bind fun v16 => if v16 = k2 then (sp_Model_wrong 4 s.2).bind fun v18 => some (.inl (s.1 + 1, v18)) else some (.inl (s.1 + 1, s.2)) else some (.inl (s.1 + 1, s.2)) else some (.inr s.2)
theorem kl_Model_readCopy_37 {γ : GG} {tt : Bool} {F : Nat} {g : Mem} {k1 : Int32} {k2 : Int32} {b : Nat × Nat} {Φ : PO} : ∀ (s : Int32 × Mem) (r : (Int32 × Mem) ⊕ ((Mem))), st_Model_readCopy_37 F g k1 k2 s = some r → RQ (PL_Model_readCopy_37 γ tt g k1 k2 b Φ) (QL_Model_readCopy_37 γ tt g k1 k2 b Φ) r → PL_Model_readCopy_37 γ tt g k1 k2 b Φ s := by
  intro s r h hr
  unfold st_Model_readCopy_37 at h
  unfold PL_Model_readCopy_37
  refine w_iload_n (q := 38) d_Model_readCopy_37 rfl rfl ?_
  refine w_aload_n (q := 39) d_Model_readCopy_38 rfl rfl ?_
  refine w_get (q := 42) (ci := 12) (j := 4) d_Model_readCopy_39 rfl (by decide) fl_Model_51 (by decide) (by decide) s_54 rfl rfl ?_
  refine w_bipush (q := 44) (v := 10) d_Model_readCopy_42 rfl (by decide) ?_
  obtain ⟨v8, hv, h⟩ := bnd h
  obtain ⟨hi, hv⟩ := rd_ok hv
  refine w_iald (q := 45) (t := 0) d_Model_readCopy_44 rfl a_58.2 a_58.1 hi rfl ?_
  rw [hv]
  by_cases c9 : v8 ≤ s.1
  · rw [if_pos c9] at h
    refine w_icmp_ge_t (q := 105) d_Model_readCopy_45 rfl c9 ?_
    cases h
    exact w_ls (by exact (And.intro rfl (And.intro rfl (And.intro rfl trivial)))) hr
  · rw [if_neg c9] at h
    refine w_icmp_ge_f (q := 48) d_Model_readCopy_45 105 rfl rfl c9 ?_
    refine w_aload_n (q := 49) d_Model_readCopy_48 rfl rfl ?_
    refine w_get (q := 52) (ci := 12) (j := 19) d_Model_readCopy_49 rfl (by decide) fl_Model_168 (by decide) (by decide) s_54 rfl rfl ?_
    by_cases c10 : (s.2 54 19) = 0
    · rw [if_pos c10] at h
      refine w_if_ne_f (q := 55) d_Model_readCopy_52 105 rfl rfl c10 ?_
      refine w_aload_n (q := 56) d_Model_readCopy_55 rfl rfl ?_
      refine w_get (q := 59) (ci := 12) (j := 8) d_Model_readCopy_56 rfl (by decide) fl_Model_62 (by decide) (by decide) s_54 rfl rfl ?_
      refine w_iload_n (q := 60) d_Model_readCopy_59 rfl rfl ?_
      obtain ⟨v11, hv, h⟩ := bnd h
      refine w_callSi (q := 63) (M' := M_Model_readAt) (n' := 0) (As := [.int s.1]) (sh' := SH) (b1 := (0, 0)) d_Model_readCopy_60 rfl mw_Model_readAt (by decide) (by decide) ml_Model_246 rfl rfl (leb rfl) (bz _) (fun _ => rfl) (ok_Model_readAt hv) ?_
      refine w_bipush (q := 65) (v := 7) d_Model_readCopy_63 rfl (by decide) ?_
      refine w_iadd (q := 66) d_Model_readCopy_65 rfl ?_
      obtain ⟨v12, hv, h⟩ := bnd h
      obtain ⟨hi, hv⟩ := rd_ok hv
      refine w_iald (q := 67) (t := 0) d_Model_readCopy_66 rfl a_62.2 a_62.1 hi rfl ?_
      rw [hv]
      refine w_aload_n (q := 68) d_Model_readCopy_67 rfl rfl ?_
      refine w_get (q := 71) (ci := 12) (j := 8) d_Model_readCopy_68 rfl (by decide) fl_Model_62 (by decide) (by decide) s_54 rfl rfl ?_
      refine w_iload_n (q := 72) d_Model_readCopy_71 rfl rfl ?_
      refine w_bipush (q := 74) (v := 7) d_Model_readCopy_72 rfl (by decide) ?_
      refine w_iadd (q := 75) d_Model_readCopy_74 rfl ?_
      obtain ⟨v13, hv, h⟩ := bnd h
      obtain ⟨hi, hv⟩ := rd_ok hv
      refine w_iald (q := 76) (t := 0) d_Model_readCopy_75 rfl a_62.2 a_62.1 hi rfl ?_
      rw [hv]
      by_cases c14 : v12 = v13
      · rw [if_pos c14] at h
        refine w_icmp_ne_f (q := 79) d_Model_readCopy_76 99 rfl rfl c14 ?_
        refine w_aload_n (q := 80) d_Model_readCopy_79 rfl rfl ?_
        refine w_get (q := 83) (ci := 12) (j := 8) d_Model_readCopy_80 rfl (by decide) fl_Model_62 (by decide) (by decide) s_54 rfl rfl ?_
        refine w_iload_n (q := 84) d_Model_readCopy_83 rfl rfl ?_
        obtain ⟨v15, hv, h⟩ := bnd h
        refine w_callSi (q := 87) (M' := M_Model_readAt) (n' := 0) (As := [.int s.1]) (sh' := SH) (b1 := (0, 0)) d_Model_readCopy_84 rfl mw_Model_readAt (by decide) (by decide) ml_Model_246 rfl rfl (leb rfl) (bz _) (fun _ => rfl) (ok_Model_readAt hv) ?_
        refine w_iconst (q := 88) (v := 1) d_Model_readCopy_87 rfl (by decide) ?_
        refine w_iadd (q := 89) d_Model_readCopy_88 rfl ?_
        obtain ⟨v16, hv, h⟩ := bnd h
        obtain ⟨hi, hv⟩ := rd_ok hv
        refine w_iald (q := 90) (t := 0) d_Model_readCopy_89 rfl a_62.2 a_62.1 hi rfl ?_
        rw [hv]
        refine w_iload_n (q := 91) d_Model_readCopy_90 rfl rfl ?_
        by_cases c17 : v16 = k2
        · rw [if_pos c17] at h
          refine w_icmp_ne_f (q := 94) d_Model_readCopy_91 99 rfl rfl c17 ?_
          refine w_aload_n (q := 95) d_Model_readCopy_94 rfl rfl ?_
          refine w_iconst (q := 96) (v := 4) d_Model_readCopy_95 rfl (by decide) ?_
          obtain ⟨v18, hv, h⟩ := bnd h
          refine w_callVv (q := 99) (M' := M_Model_wrong) (n' := 0) (k := 54) (As := [.int 4]) (sh' := SH) (b1 := (0, 0)) d_Model_readCopy_96 rfl mw_Model_wrong (by decide) (by decide) ml_Model_189 (by decide) s_54 (by decide) rfl rfl rfl (leb rfl) (bz _) (fun _ => rfl) (ok_Model_wrong hv) ?_
          refine w_iinc (q := 102) (ls' := [some (.ref 54), some (.int k1), some (.int k2), some (.int (s.1 + 1)), none, none]) d_Model_readCopy_99 rfl (by decide) rfl rfl rfl ?_
          refine w_goto (q := 37) d_Model_readCopy_102 rfl ?_
          cases h
          exact w_ls (by exact (And.intro rfl (And.intro rfl (And.intro rfl (And.intro rfl trivial))))) hr
        · rw [if_neg c17] at h
          refine w_icmp_ne_t (q := 99) d_Model_readCopy_91 rfl c17 ?_
          refine w_iinc (q := 102) (ls' := [some (.ref 54), some (.int k1), some (.int k2), some (.int (s.1 + 1)), none, none]) d_Model_readCopy_99 rfl (by decide) rfl rfl rfl ?_
          refine w_goto (q := 37) d_Model_readCopy_102 rfl ?_
          cases h
          exact w_ls (by exact (And.intro rfl (And.intro rfl (And.intro rfl (And.intro rfl trivial))))) hr
      · rw [if_neg c14] at h
        refine w_icmp_ne_t (q := 99) d_Model_readCopy_76 rfl c14 ?_
        refine w_iinc (q := 102) (ls' := [some (.ref 54), some (.int k1), some (.int k2), some (.int (s.1 + 1)), none, none]) d_Model_readCopy_99 rfl (by decide) rfl rfl rfl ?_
        refine w_goto (q := 37) d_Model_readCopy_102 rfl ?_
        cases h
        exact w_ls (by exact (And.intro rfl (And.intro rfl (And.intro rfl (And.intro rfl trivial))))) hr
    · rw [if_neg c10] at h
      refine w_if_ne_t (q := 105) d_Model_readCopy_52 rfl c10 ?_
      cases h
      exact w_ls (by exact (And.intro rfl (And.intro rfl (And.intro rfl trivial)))) hr
def PL_Model_readCopy_147 (γ : GG) (tt : Bool) (g : Mem) (k1 : Int32) (k2 : Int32) (k3 : Int32) (k4 : Int32) (b : Nat × Nat) (Φ : PO) (s : Int32 × Mem) : Prop := WA γ M_Model_readCopy 4 147 [some (.ref 54), some (.int k1), some (.int k2), some (.int k3), some (.int k4), some (.int s.1)] [] SH s.2 tt b Φ
def QL_Model_readCopy_147 (γ : GG) (tt : Bool) (g : Mem) (k1 : Int32) (k2 : Int32) (k3 : Int32) (k4 : Int32) (b : Nat × Nat) (Φ : PO) (x : (Mem)) : Prop := WA γ M_Model_readCopy 4 179 [some (.ref 54), none, some (.int k2), some (.int k3), some (.int k4), none] [] SH x tt b Φ
def st_Model_readCopy_147 (F : Nat) (g : Mem) (k1 : Int32) (k2 : Int32) (k3 : Int32) (k4 : Int32) (s : Int32 × Mem) : Option ((Int32 × Mem) ⊕ ((Mem))) := if 9 ≤ s.1 then some (.inr s.2) else (rd s.2 62 432 (k1 + s.1)).bind fun v27 => (wr s.2 62 432 (k4 + s.1) v27).bind fun g28 => some (.inl (s.1 + 1, g28))
theorem kl_Model_readCopy_147 {γ : GG} {tt : Bool} {F : Nat} {g : Mem} {k1 : Int32} {k2 : Int32} {k3 : Int32} {k4 : Int32} {b : Nat × Nat} {Φ : PO} : ∀ (s : Int32 × Mem) (r : (Int32 × Mem) ⊕ ((Mem))), st_Model_readCopy_147 F g k1 k2 k3 k4 s = some r → RQ (PL_Model_readCopy_147 γ tt g k1 k2 k3 k4 b Φ) (QL_Model_readCopy_147 γ tt g k1 k2 k3 k4 b Φ) r → PL_Model_readCopy_147 γ tt g k1 k2 k3 k4 b Φ s := by
  intro s r h hr
  unfold st_Model_readCopy_147 at h
  unfold PL_Model_readCopy_147
  refine w_iload (q := 149) d_Model_readCopy_147 rfl rfl ?_
  refine w_bipush (q := 151) (v := 9) d_Model_readCopy_149 rfl (by decide) ?_
  by_cases c26 : 9 ≤ s.1
  · rw [if_pos c26] at h
    refine w_icmp_ge_t (q := 179) d_Model_readCopy_151 rfl c26 ?_
    cases h
    exact w_ls (by exact (And.intro rfl (And.intro rfl (And.intro rfl (And.intro rfl trivial))))) hr
  · rw [if_neg c26] at h
    refine w_icmp_ge_f (q := 154) d_Model_readCopy_151 179 rfl rfl c26 ?_
    refine w_aload_n (q := 155) d_Model_readCopy_154 rfl rfl ?_
    refine w_get (q := 158) (ci := 12) (j := 8) d_Model_readCopy_155 rfl (by decide) fl_Model_62 (by decide) (by decide) s_54 rfl rfl ?_
    refine w_iload (q := 160) d_Model_readCopy_158 rfl rfl ?_
    refine w_iload (q := 162) d_Model_readCopy_160 rfl rfl ?_
    refine w_iadd (q := 163) d_Model_readCopy_162 rfl ?_
    refine w_aload_n (q := 164) d_Model_readCopy_163 rfl rfl ?_
    refine w_get (q := 167) (ci := 12) (j := 8) d_Model_readCopy_164 rfl (by decide) fl_Model_62 (by decide) (by decide) s_54 rfl rfl ?_
    refine w_iload_n (q := 168) d_Model_readCopy_167 rfl rfl ?_
    refine w_iload (q := 170) d_Model_readCopy_168 rfl rfl ?_
    refine w_iadd (q := 171) d_Model_readCopy_170 rfl ?_
    obtain ⟨v27, hv, h⟩ := bnd h
    obtain ⟨hi, hv⟩ := rd_ok hv
    refine w_iald (q := 172) (t := 0) d_Model_readCopy_171 rfl a_62.2 a_62.1 hi rfl ?_
    rw [hv]
    obtain ⟨g28, hv, h⟩ := bnd h
    obtain ⟨hi, hv⟩ := wr_ok hv
    refine w_iast (q := 173) d_Model_readCopy_172 rfl a_62.2 a_62.1 hi hv ?_
    refine w_iinc (q := 176) (ls' := [some (.ref 54), some (.int k1), some (.int k2), some (.int k3), some (.int k4), some (.int (s.1 + 1))]) d_Model_readCopy_173 rfl (by decide) rfl rfl rfl ?_
    refine w_goto (q := 147) d_Model_readCopy_176 rfl ?_
    cases h
    exact w_ls (by exact (And.intro rfl (And.intro rfl (And.intro rfl (And.intro rfl (And.intro rfl (And.intro rfl trivial))))))) hr
def sp_Model_readCopy_j116 (F : Nat) (g : Mem) (m0 : Mem) (x1 : Int32) (x2 : Int32) : Option (Mem) := (sp_Model_readNumber F 0 60 m0).bind fun v22 => if (v22.2 54 19) = 0 then (rd v22.2 58 12 10).bind fun v24 => (sp_Model_readAt v24 v22.2).bind fun v25 => (lpO (st_Model_readCopy_147 F g x1 x2 v22.1 v25) F (0, v22.2)).bind fun x29 => (wr x29 62 432 (v25 + 1) x2).bind fun g30 => (wr g30 62 432 (v25 + 2) (-v22.1)).bind fun g31 => (wr g31 62 432 (v25 + 6) 0).bind fun g32 => (rd g32 58 12 10).bind fun v33 => (wr g32 58 12 10 (v33 + 1)).bind fun g34 => some g34 else some v22.2
theorem ok_Model_readCopy_j116 {γ : GG} {tt : Bool} {F : Nat} {g : Mem} {m0 : Mem} {x1 : Int32} {x2 : Int32} {res : Mem} (h : sp_Model_readCopy_j116 F g m0 x1 x2 = some res) : WA γ M_Model_readCopy 4 116 [some (.ref 54), some (.int x1), some (.int x2), none, none, none] [] SH m0 tt (0, 0) (pV SH res tt) := by
  unfold sp_Model_readCopy_j116 at h
  refine w_aload_n (q := 117) d_Model_readCopy_116 rfl rfl ?_
  refine w_iconst (q := 118) (v := 0) d_Model_readCopy_117 rfl (by decide) ?_
  refine w_bipush (q := 120) (v := 60) d_Model_readCopy_118 rfl (by decide) ?_
  obtain ⟨v22, hv, h⟩ := bnd h
  refine w_callVi (q := 123) (M' := M_Model_readNumber) (n' := 2) (k := 54) (As := [.int 0, .int 60]) (sh' := SH) (b1 := (0, 0)) d_Model_readCopy_120 rfl mw_Model_readNumber (by decide) (by decide) ml_Model_202 (by decide) s_54 (by decide) rfl rfl rfl (leb rfl) (bz _) (fun _ => rfl) (ok_Model_readNumber hv) ?_
  refine w_istore_n (q := 124) (ls' := [some (.ref 54), some (.int x1), some (.int x2), some (.int v22.1), none, none]) d_Model_readCopy_123 rfl (by decide) rfl rfl ?_
  refine w_aload_n (q := 125) d_Model_readCopy_124 rfl rfl ?_
  refine w_get (q := 128) (ci := 12) (j := 19) d_Model_readCopy_125 rfl (by decide) fl_Model_168 (by decide) (by decide) s_54 rfl rfl ?_
  by_cases c23 : (v22.2 54 19) = 0
  · rw [if_pos c23] at h
    refine w_if_eq_t (q := 132) d_Model_readCopy_128 rfl c23 ?_
    refine w_aload_n (q := 133) d_Model_readCopy_132 rfl rfl ?_
    refine w_get (q := 136) (ci := 12) (j := 4) d_Model_readCopy_133 rfl (by decide) fl_Model_51 (by decide) (by decide) s_54 rfl rfl ?_
    refine w_bipush (q := 138) (v := 10) d_Model_readCopy_136 rfl (by decide) ?_
    obtain ⟨v24, hv, h⟩ := bnd h
    obtain ⟨hi, hv⟩ := rd_ok hv
    refine w_iald (q := 139) (t := 0) d_Model_readCopy_138 rfl a_58.2 a_58.1 hi rfl ?_
    rw [hv]
    obtain ⟨v25, hv, h⟩ := bnd h
    refine w_callSi (q := 142) (M' := M_Model_readAt) (n' := 0) (As := [.int v24]) (sh' := SH) (b1 := (0, 0)) d_Model_readCopy_139 rfl mw_Model_readAt (by decide) (by decide) ml_Model_246 rfl rfl (leb rfl) (bz _) (fun _ => rfl) (ok_Model_readAt hv) ?_
    refine w_istore (q := 144) (ls' := [some (.ref 54), some (.int x1), some (.int x2), some (.int v22.1), some (.int v25), none]) d_Model_readCopy_142 rfl (by decide) rfl rfl ?_
    refine w_iconst (q := 145) (v := 0) d_Model_readCopy_144 rfl (by decide) ?_
    refine w_istore (q := 147) (ls' := [some (.ref 54), some (.int x1), some (.int x2), some (.int v22.1), some (.int v25), some (.int 0)]) d_Model_readCopy_145 rfl (by decide) rfl rfl ?_
    obtain ⟨x29, hx, h⟩ := bnd h
    refine w_ls (ls' := [some (.ref 54), some (.int x1), some (.int x2), some (.int v22.1), some (.int v25), some (.int 0)]) (And.intro rfl (And.intro rfl (And.intro rfl (And.intro rfl (And.intro rfl (And.intro rfl trivial)))))) ?_
    show PL_Model_readCopy_147 γ tt g x1 x2 v22.1 v25 _ _ (0, v22.2)
    refine lp_ok (kl_Model_readCopy_147) F _ x29 hx ?_
    unfold QL_Model_readCopy_147
    refine w_aload_n (q := 180) d_Model_readCopy_179 rfl rfl ?_
    refine w_get (q := 183) (ci := 12) (j := 8) d_Model_readCopy_180 rfl (by decide) fl_Model_62 (by decide) (by decide) s_54 rfl rfl ?_
    refine w_iload (q := 185) d_Model_readCopy_183 rfl rfl ?_
    refine w_iconst (q := 186) (v := 1) d_Model_readCopy_185 rfl (by decide) ?_
    refine w_iadd (q := 187) d_Model_readCopy_186 rfl ?_
    refine w_iload_n (q := 188) d_Model_readCopy_187 rfl rfl ?_
    obtain ⟨g30, hv, h⟩ := bnd h
    obtain ⟨hi, hv⟩ := wr_ok hv
    refine w_iast (q := 189) d_Model_readCopy_188 rfl a_62.2 a_62.1 hi hv ?_
    refine w_aload_n (q := 190) d_Model_readCopy_189 rfl rfl ?_
    refine w_get (q := 193) (ci := 12) (j := 8) d_Model_readCopy_190 rfl (by decide) fl_Model_62 (by decide) (by decide) s_54 rfl rfl ?_
    refine w_iload (q := 195) d_Model_readCopy_193 rfl rfl ?_
    refine w_iconst (q := 196) (v := 2) d_Model_readCopy_195 rfl (by decide) ?_
    refine w_iadd (q := 197) d_Model_readCopy_196 rfl ?_
    refine w_iload_n (q := 198) d_Model_readCopy_197 rfl rfl ?_
    refine w_ineg (q := 199) d_Model_readCopy_198 rfl ?_
    obtain ⟨g31, hv, h⟩ := bnd h
    obtain ⟨hi, hv⟩ := wr_ok hv
    refine w_iast (q := 200) d_Model_readCopy_199 rfl a_62.2 a_62.1 hi hv ?_
    refine w_aload_n (q := 201) d_Model_readCopy_200 rfl rfl ?_
    refine w_get (q := 204) (ci := 12) (j := 8) d_Model_readCopy_201 rfl (by decide) fl_Model_62 (by decide) (by decide) s_54 rfl rfl ?_
    refine w_iload (q := 206) d_Model_readCopy_204 rfl rfl ?_
    refine w_bipush (q := 208) (v := 6) d_Model_readCopy_206 rfl (by decide) ?_
    refine w_iadd (q := 209) d_Model_readCopy_208 rfl ?_
    refine w_iconst (q := 210) (v := 0) d_Model_readCopy_209 rfl (by decide) ?_
    obtain ⟨g32, hv, h⟩ := bnd h
    obtain ⟨hi, hv⟩ := wr_ok hv
    refine w_iast (q := 211) d_Model_readCopy_210 rfl a_62.2 a_62.1 hi hv ?_
    refine w_aload_n (q := 212) d_Model_readCopy_211 rfl rfl ?_
    refine w_get (q := 215) (ci := 12) (j := 4) d_Model_readCopy_212 rfl (by decide) fl_Model_51 (by decide) (by decide) s_54 rfl rfl ?_
    refine w_bipush (q := 217) (v := 10) d_Model_readCopy_215 rfl (by decide) ?_
    refine w_dup2 (q := 218) d_Model_readCopy_217 rfl rfl rfl ?_
    obtain ⟨v33, hv, h⟩ := bnd h
    obtain ⟨hi, hv⟩ := rd_ok hv
    refine w_iald (q := 219) (t := 0) d_Model_readCopy_218 rfl a_58.2 a_58.1 hi rfl ?_
    rw [hv]
    refine w_iconst (q := 220) (v := 1) d_Model_readCopy_219 rfl (by decide) ?_
    refine w_iadd (q := 221) d_Model_readCopy_220 rfl ?_
    obtain ⟨g34, hv, h⟩ := bnd h
    obtain ⟨hi, hv⟩ := wr_ok hv
    refine w_iast (q := 222) d_Model_readCopy_221 rfl a_58.2 a_58.1 hi hv ?_
    cases h
    exact w_return d_Model_readCopy_222 rfl ⟨rfl, rfl, rfl, rfl⟩
  · rw [if_neg c23] at h
    refine w_if_eq_f (q := 131) d_Model_readCopy_128 132 rfl rfl c23 ?_
    cases h
    exact w_return d_Model_readCopy_131 rfl ⟨rfl, rfl, rfl, rfl⟩
def sp_Model_readCopy_j105 (F : Nat) (g : Mem) (m0 : Mem) (x1 : Int32) (x2 : Int32) : Option (Mem) := if (m0 54 19) = 0 then (sp_Model_stepOn F m0).bind fun v21 => sp_Model_readCopy_j116 F g v21 x1 x2 else sp_Model_readCopy_j116 F g m0 x1 x2
theorem ok_Model_readCopy_j105 {γ : GG} {tt : Bool} {F : Nat} {g : Mem} {m0 : Mem} {x1 : Int32} {x2 : Int32} {res : Mem} (h : sp_Model_readCopy_j105 F g m0 x1 x2 = some res) : WA γ M_Model_readCopy 4 105 [some (.ref 54), some (.int x1), some (.int x2), none, none, none] [] SH m0 tt (0, 0) (pV SH res tt) := by
  unfold sp_Model_readCopy_j105 at h
  refine w_aload_n (q := 106) d_Model_readCopy_105 rfl rfl ?_
  refine w_get (q := 109) (ci := 12) (j := 19) d_Model_readCopy_106 rfl (by decide) fl_Model_168 (by decide) (by decide) s_54 rfl rfl ?_
  by_cases c20 : (m0 54 19) = 0
  · rw [if_pos c20] at h
    refine w_if_ne_f (q := 112) d_Model_readCopy_109 116 rfl rfl c20 ?_
    refine w_aload_n (q := 113) d_Model_readCopy_112 rfl rfl ?_
    obtain ⟨v21, hv, h⟩ := bnd h
    refine w_callVv (q := 116) (M' := M_Model_stepOn) (n' := 1) (k := 54) (As := []) (sh' := SH) (b1 := (0, 0)) d_Model_readCopy_113 rfl mw_Model_stepOn (by decide) (by decide) ml_Model_193 (by decide) s_54 (by decide) rfl rfl rfl (leb rfl) (bz _) (fun _ => rfl) (ok_Model_stepOn hv) ?_
    refine w_ls (ls' := [some (.ref 54), some (.int x1), some (.int x2), none, none, none]) (And.intro rfl (And.intro rfl (And.intro rfl trivial))) ?_
    exact ok_Model_readCopy_j116 h
  · rw [if_neg c20] at h
    refine w_if_ne_t (q := 116) d_Model_readCopy_109 rfl c20 ?_
    refine w_ls (ls' := [some (.ref 54), some (.int x1), some (.int x2), none, none, none]) (And.intro rfl (And.intro rfl (And.intro rfl trivial))) ?_
    exact ok_Model_readCopy_j116 h
def sp_Model_readCopy (F : Nat) (g : Mem) : Option (Mem) := (sp_Model_anotherEntry F g).bind fun v1 => if v1.1 = 0 then some v1.2 else (rd v1.2 58 12 10).bind fun v3 => (sp_Model_readOne F v3 v1.2).bind fun v4 => (sp_Model_readAt v4.1 v4.2).bind fun v5 => (rd v4.2 58 12 6).bind fun v6 => (sp_Model_oneNow v6 v4.2).bind fun v7 => (lpO (st_Model_readCopy_37 F g v5 v7.1) F (0, v7.2)).bind fun x19 => sp_Model_readCopy_j105 F g x19 v5 v7.1
theorem ok_Model_readCopy {γ : GG} {tt : Bool} {F : Nat} {g : Mem} {res : Mem} (h : sp_Model_readCopy F g = some res) : CA γ M_Model_readCopy 4 [.ref 54] SH g tt (0, 0) (pV SH res tt) := by
  refine CA.of mw_Model_readCopy.1 5 rfl ?_
  show WA γ M_Model_readCopy 4 0 [some (.ref 54), none, none, none, none, none] [] SH g tt (0, 0) (pV SH res tt)
  unfold sp_Model_readCopy at h
  refine w_aload_n (q := 1) d_Model_readCopy_0 rfl rfl ?_
  obtain ⟨v1, hv, h⟩ := bnd h
  refine w_callVi (q := 4) (M' := M_Model_anotherEntry) (n' := 2) (k := 54) (As := []) (sh' := SH) (b1 := (0, 0)) d_Model_readCopy_1 rfl mw_Model_anotherEntry (by decide) (by decide) ml_Model_242 (by decide) s_54 (by decide) rfl rfl rfl (leb rfl) (bz _) (fun _ => rfl) (ok_Model_anotherEntry hv) ?_
  by_cases c2 : v1.1 = 0
  · rw [if_pos c2] at h
    refine w_if_ne_f (q := 7) d_Model_readCopy_4 8 rfl rfl c2 ?_
    cases h
    exact w_return d_Model_readCopy_7 rfl ⟨rfl, rfl, rfl, rfl⟩
  · rw [if_neg c2] at h
    refine w_if_ne_t (q := 8) d_Model_readCopy_4 rfl c2 ?_
    refine w_aload_n (q := 9) d_Model_readCopy_8 rfl rfl ?_
    refine w_aload_n (q := 10) d_Model_readCopy_9 rfl rfl ?_
    refine w_get (q := 13) (ci := 12) (j := 4) d_Model_readCopy_10 rfl (by decide) fl_Model_51 (by decide) (by decide) s_54 rfl rfl ?_
    refine w_bipush (q := 15) (v := 10) d_Model_readCopy_13 rfl (by decide) ?_
    obtain ⟨v3, hv, h⟩ := bnd h
    obtain ⟨hi, hv⟩ := rd_ok hv
    refine w_iald (q := 16) (t := 0) d_Model_readCopy_15 rfl a_58.2 a_58.1 hi rfl ?_
    rw [hv]
    obtain ⟨v4, hv, h⟩ := bnd h
    refine w_callVi (q := 19) (M' := M_Model_readOne) (n' := 3) (k := 54) (As := [.int v3]) (sh' := SH) (b1 := (0, 0)) d_Model_readCopy_16 rfl mw_Model_readOne (by decide) (by decide) ml_Model_249 (by decide) s_54 (by decide) rfl rfl rfl (leb rfl) (bz _) (fun _ => rfl) (ok_Model_readOne hv) ?_
    obtain ⟨v5, hv, h⟩ := bnd h
    refine w_callSi (q := 22) (M' := M_Model_readAt) (n' := 0) (As := [.int v4.1]) (sh' := SH) (b1 := (0, 0)) d_Model_readCopy_19 rfl mw_Model_readAt (by decide) (by decide) ml_Model_246 rfl rfl (leb rfl) (bz _) (fun _ => rfl) (ok_Model_readAt hv) ?_
    refine w_istore_n (q := 23) (ls' := [some (.ref 54), some (.int v5), none, none, none, none]) d_Model_readCopy_22 rfl (by decide) rfl rfl ?_
    refine w_aload_n (q := 24) d_Model_readCopy_23 rfl rfl ?_
    refine w_aload_n (q := 25) d_Model_readCopy_24 rfl rfl ?_
    refine w_get (q := 28) (ci := 12) (j := 4) d_Model_readCopy_25 rfl (by decide) fl_Model_51 (by decide) (by decide) s_54 rfl rfl ?_
    refine w_bipush (q := 30) (v := 6) d_Model_readCopy_28 rfl (by decide) ?_
    obtain ⟨v6, hv, h⟩ := bnd h
    obtain ⟨hi, hv⟩ := rd_ok hv
    refine w_iald (q := 31) (t := 0) d_Model_readCopy_30 rfl a_58.2 a_58.1 hi rfl ?_
    rw [hv]
    obtain ⟨v7, hv, h⟩ := bnd h
    refine w_callVi (q := 34) (M' := M_Model_oneNow) (n' := 2) (k := 54) (As := [.int v6]) (sh' := SH) (b1 := (0, 0)) d_Model_readCopy_31 rfl mw_Model_oneNow (by decide) (by decide) ml_Model_199 (by decide) s_54 (by decide) rfl rfl rfl (leb rfl) (bz _) (fun _ => rfl) (ok_Model_oneNow hv) ?_
    refine w_istore_n (q := 35) (ls' := [some (.ref 54), some (.int v5), some (.int v7.1), none, none, none]) d_Model_readCopy_34 rfl (by decide) rfl rfl ?_
    refine w_iconst (q := 36) (v := 0) d_Model_readCopy_35 rfl (by decide) ?_
    refine w_istore_n (q := 37) (ls' := [some (.ref 54), some (.int v5), some (.int v7.1), some (.int 0), none, none]) d_Model_readCopy_36 rfl (by decide) rfl rfl ?_
    obtain ⟨x19, hx, h⟩ := bnd h
    refine w_ls (ls' := [some (.ref 54), some (.int v5), some (.int v7.1), some (.int 0), none, none]) (And.intro rfl (And.intro rfl (And.intro rfl (And.intro rfl trivial)))) ?_
    show PL_Model_readCopy_37 γ tt g v5 v7.1 _ _ (0, v7.2)
    refine lp_ok (kl_Model_readCopy_37) F _ x19 hx ?_
    unfold QL_Model_readCopy_37
    refine w_ls (ls' := [some (.ref 54), some (.int v5), some (.int v7.1), none, none, none]) (And.intro rfl (And.intro rfl (And.intro rfl trivial))) ?_
    exact ok_Model_readCopy_j105 h
def sp_Model_readLine_j248 (F : Nat) (p0 : Int32) (g : Mem) (m0 : Mem) (x1 : Int32) (x2 : Int32) : Option (Int32 × Mem) := (sp_Model_mark F 59 m0).bind fun v21 => some (x1 ||| x2, v21)
theorem ok_Model_readLine_j248 {γ : GG} {tt : Bool} {F : Nat} {p0 : Int32} {g : Mem} {m0 : Mem} {x1 : Int32} {x2 : Int32} {res : Int32 × Mem} (h : sp_Model_readLine_j248 F p0 g m0 x1 x2 = some res) : WA γ M_Model_readLine 120 248 [some (.ref 54), some (.int x1), some (.int x2), none, none] [] SH m0 tt (0, 0) (pI SH res.1 res.2 tt) := by
  unfold sp_Model_readLine_j248 at h
  refine w_aload_n (q := 249) d_Model_readLine_248 rfl rfl ?_
  refine w_bipush (q := 251) (v := 59) d_Model_readLine_249 rfl (by decide) ?_
  obtain ⟨v21, hv, h⟩ := bnd h
  refine w_callVv (q := 254) (M' := M_Model_mark) (n' := 2) (k := 54) (As := [.int 59]) (sh' := SH) (b1 := (0, 0)) d_Model_readLine_251 rfl mw_Model_mark (by decide) (by decide) ml_Model_212 (by decide) s_54 (by decide) rfl rfl rfl (leb rfl) (bz _) (fun _ => rfl) (ok_Model_mark hv) ?_
  refine w_iload_n (q := 255) d_Model_readLine_254 rfl rfl ?_
  refine w_iload_n (q := 256) d_Model_readLine_255 rfl rfl ?_
  refine w_ior (q := 257) d_Model_readLine_256 rfl ?_
  cases h
  exact w_ireturn d_Model_readLine_257 rfl rfl ⟨rfl, rfl, rfl, rfl⟩
def sp_Model_readLine_j124 (F : Nat) (p0 : Int32) (g : Mem) (m0 : Mem) (x1 : Int32) (x2 : Int32) : Option (Int32 × Mem) := if x2 = 1 then (sp_Model_readNumber F 1 60 m0).bind fun v28 => (wr v28.2 58 12 7 v28.1).bind fun g29 => sp_Model_readLine_j248 F p0 g g29 x1 x2 else if x2 = 2 then (sp_Model_readNumber F 1 99 m0).bind fun v31 => (wr v31.2 58 12 8 v31.1).bind fun g32 => sp_Model_readLine_j248 F p0 g g32 x1 x2 else if x2 = 4 then (sp_Model_readNumber F 1 9 m0).bind fun v34 => (wr v34.2 58 12 9 v34.1).bind fun g35 => sp_Model_readLine_j248 F p0 g g35 x1 x2 else (rxM F 8 0 m0).bind fun v36 => sp_Model_readLine_j248 F p0 g v36 x1 x2
theorem ok_Model_readLine_j124 {γ : GG} {tt : Bool} {F : Nat} {p0 : Int32} {g : Mem} {m0 : Mem} {x1 : Int32} {x2 : Int32} {res : Int32 × Mem} (h : sp_Model_readLine_j124 F p0 g m0 x1 x2 = some res) : WA γ M_Model_readLine 120 124 [some (.ref 54), some (.int x1), some (.int x2), none, none] [] SH m0 tt (0, 0) (pI SH res.1 res.2 tt) := by
  unfold sp_Model_readLine_j124 at h
  refine w_iload_n (q := 125) d_Model_readLine_124 rfl rfl ?_
  refine w_iconst (q := 126) (v := 1) d_Model_readLine_125 rfl (by decide) ?_
  by_cases c27 : x2 = 1
  · rw [if_pos c27] at h
    refine w_icmp_ne_f (q := 129) d_Model_readLine_126 146 rfl rfl c27 ?_
    refine w_aload_n (q := 130) d_Model_readLine_129 rfl rfl ?_
    refine w_get (q := 133) (ci := 12) (j := 4) d_Model_readLine_130 rfl (by decide) fl_Model_51 (by decide) (by decide) s_54 rfl rfl ?_
    refine w_bipush (q := 135) (v := 7) d_Model_readLine_133 rfl (by decide) ?_
    refine w_aload_n (q := 136) d_Model_readLine_135 rfl rfl ?_
    refine w_iconst (q := 137) (v := 1) d_Model_readLine_136 rfl (by decide) ?_
    refine w_bipush (q := 139) (v := 60) d_Model_readLine_137 rfl (by decide) ?_
    obtain ⟨v28, hv, h⟩ := bnd h
    refine w_callVi (q := 142) (M' := M_Model_readNumber) (n' := 2) (k := 54) (As := [.int 1, .int 60]) (sh' := SH) (b1 := (0, 0)) d_Model_readLine_139 rfl mw_Model_readNumber (by decide) (by decide) ml_Model_202 (by decide) s_54 (by decide) rfl rfl rfl (leb rfl) (bz _) (fun _ => rfl) (ok_Model_readNumber hv) ?_
    obtain ⟨g29, hv, h⟩ := bnd h
    obtain ⟨hi, hv⟩ := wr_ok hv
    refine w_iast (q := 143) d_Model_readLine_142 rfl a_58.2 a_58.1 hi hv ?_
    refine w_goto (q := 248) d_Model_readLine_143 rfl ?_
    refine w_ls (ls' := [some (.ref 54), some (.int x1), some (.int x2), none, none]) (And.intro rfl (And.intro rfl (And.intro rfl trivial))) ?_
    exact ok_Model_readLine_j248 h
  · rw [if_neg c27] at h
    refine w_icmp_ne_t (q := 146) d_Model_readLine_126 rfl c27 ?_
    refine w_iload_n (q := 147) d_Model_readLine_146 rfl rfl ?_
    refine w_iconst (q := 148) (v := 2) d_Model_readLine_147 rfl (by decide) ?_
    by_cases c30 : x2 = 2
    · rw [if_pos c30] at h
      refine w_icmp_ne_f (q := 151) d_Model_readLine_148 168 rfl rfl c30 ?_
      refine w_aload_n (q := 152) d_Model_readLine_151 rfl rfl ?_
      refine w_get (q := 155) (ci := 12) (j := 4) d_Model_readLine_152 rfl (by decide) fl_Model_51 (by decide) (by decide) s_54 rfl rfl ?_
      refine w_bipush (q := 157) (v := 8) d_Model_readLine_155 rfl (by decide) ?_
      refine w_aload_n (q := 158) d_Model_readLine_157 rfl rfl ?_
      refine w_iconst (q := 159) (v := 1) d_Model_readLine_158 rfl (by decide) ?_
      refine w_bipush (q := 161) (v := 99) d_Model_readLine_159 rfl (by decide) ?_
      obtain ⟨v31, hv, h⟩ := bnd h
      refine w_callVi (q := 164) (M' := M_Model_readNumber) (n' := 2) (k := 54) (As := [.int 1, .int 99]) (sh' := SH) (b1 := (0, 0)) d_Model_readLine_161 rfl mw_Model_readNumber (by decide) (by decide) ml_Model_202 (by decide) s_54 (by decide) rfl rfl rfl (leb rfl) (bz _) (fun _ => rfl) (ok_Model_readNumber hv) ?_
      obtain ⟨g32, hv, h⟩ := bnd h
      obtain ⟨hi, hv⟩ := wr_ok hv
      refine w_iast (q := 165) d_Model_readLine_164 rfl a_58.2 a_58.1 hi hv ?_
      refine w_goto (q := 248) d_Model_readLine_165 rfl ?_
      refine w_ls (ls' := [some (.ref 54), some (.int x1), some (.int x2), none, none]) (And.intro rfl (And.intro rfl (And.intro rfl trivial))) ?_
      exact ok_Model_readLine_j248 h
    · rw [if_neg c30] at h
      refine w_icmp_ne_t (q := 168) d_Model_readLine_148 rfl c30 ?_
      refine w_iload_n (q := 169) d_Model_readLine_168 rfl rfl ?_
      refine w_iconst (q := 170) (v := 4) d_Model_readLine_169 rfl (by decide) ?_
      by_cases c33 : x2 = 4
      · rw [if_pos c33] at h
        refine w_icmp_ne_f (q := 173) d_Model_readLine_170 190 rfl rfl c33 ?_
        refine w_aload_n (q := 174) d_Model_readLine_173 rfl rfl ?_
        refine w_get (q := 177) (ci := 12) (j := 4) d_Model_readLine_174 rfl (by decide) fl_Model_51 (by decide) (by decide) s_54 rfl rfl ?_
        refine w_bipush (q := 179) (v := 9) d_Model_readLine_177 rfl (by decide) ?_
        refine w_aload_n (q := 180) d_Model_readLine_179 rfl rfl ?_
        refine w_iconst (q := 181) (v := 1) d_Model_readLine_180 rfl (by decide) ?_
        refine w_bipush (q := 183) (v := 9) d_Model_readLine_181 rfl (by decide) ?_
        obtain ⟨v34, hv, h⟩ := bnd h
        refine w_callVi (q := 186) (M' := M_Model_readNumber) (n' := 2) (k := 54) (As := [.int 1, .int 9]) (sh' := SH) (b1 := (0, 0)) d_Model_readLine_183 rfl mw_Model_readNumber (by decide) (by decide) ml_Model_202 (by decide) s_54 (by decide) rfl rfl rfl (leb rfl) (bz _) (fun _ => rfl) (ok_Model_readNumber hv) ?_
        obtain ⟨g35, hv, h⟩ := bnd h
        obtain ⟨hi, hv⟩ := wr_ok hv
        refine w_iast (q := 187) d_Model_readLine_186 rfl a_58.2 a_58.1 hi hv ?_
        refine w_goto (q := 248) d_Model_readLine_187 rfl ?_
        refine w_ls (ls' := [some (.ref 54), some (.int x1), some (.int x2), none, none]) (And.intro rfl (And.intro rfl (And.intro rfl trivial))) ?_
        exact ok_Model_readLine_j248 h
      · rw [if_neg c33] at h
        refine w_icmp_ne_t (q := 190) d_Model_readLine_170 rfl c33 ?_
        refine w_aload_n (q := 191) d_Model_readLine_190 rfl rfl ?_
        refine w_iconst (q := 192) (v := 0) d_Model_readLine_191 rfl (by decide) ?_
        obtain ⟨v36, hv, h⟩ := bnd h
        refine w_callVv (q := 195) (M' := M_Model_readExpression) (n' := 67) (k := 54) (As := [.int 0]) (sh' := SH) (b1 := (0, 0)) d_Model_readLine_192 rfl mw_Model_readExpression (by decide) (by decide) ml_Model_215 (by decide) s_54 (by decide) rfl rfl rfl (leb rfl) (bz _) (fun _ => rfl) (ok_rxM 8 hv) ?_
        refine w_goto (q := 248) d_Model_readLine_195 rfl ?_
        refine w_ls (ls' := [some (.ref 54), some (.int x1), some (.int x2), none, none]) (And.intro rfl (And.intro rfl (And.intro rfl trivial))) ?_
        exact ok_Model_readLine_j248 h
def sp_Model_readLine_j109 (F : Nat) (p0 : Int32) (g : Mem) (m0 : Mem) (x1 : Int32) (x2 : Int32) (x3 : Int32) (x4 : Int32) : Option (Int32 × Mem) := if x2 ≤ 0 then if x3 = (-1) then if x4 = (-1) then (sp_Model_is F 38 m0).bind fun v18 => if v18 = 0 then (sp_Model_wrong 1 m0).bind fun v20 => sp_Model_readLine_j248 F p0 g v20 x1 x2 else (sp_Model_readCopy F m0).bind fun v22 => sp_Model_readLine_j248 F p0 g v22 x1 x2 else (sp_Model_readEntry F x4 m0).bind fun v23 => sp_Model_readLine_j248 F p0 g v23 x1 x2 else (sp_Model_readMonk F x3 m0).bind fun v24 => sp_Model_readLine_j248 F p0 g v24 x1 x2 else if (m0 54 19) = 0 then (sp_Model_stepOn F m0).bind fun v26 => sp_Model_readLine_j124 F p0 g v26 x1 x2 else sp_Model_readLine_j124 F p0 g m0 x1 x2
theorem ok_Model_readLine_j109 {γ : GG} {tt : Bool} {F : Nat} {p0 : Int32} {g : Mem} {m0 : Mem} {x1 : Int32} {x2 : Int32} {x3 : Int32} {x4 : Int32} {res : Int32 × Mem} (h : sp_Model_readLine_j109 F p0 g m0 x1 x2 x3 x4 = some res) : WA γ M_Model_readLine 120 109 [some (.ref 54), some (.int x1), some (.int x2), some (.int x3), some (.int x4)] [] SH m0 tt (0, 0) (pI SH res.1 res.2 tt) := by
  unfold sp_Model_readLine_j109 at h
  refine w_iload_n (q := 110) d_Model_readLine_109 rfl rfl ?_
  by_cases c15 : x2 ≤ 0
  · rw [if_pos c15] at h
    refine w_if_le_t (q := 198) d_Model_readLine_110 rfl c15 ?_
    refine w_iload_n (q := 199) d_Model_readLine_198 rfl rfl ?_
    refine w_iconst (q := 200) (v := (-1)) d_Model_readLine_199 rfl (by decide) ?_
    by_cases c16 : x3 = (-1)
    · rw [if_pos c16] at h
      refine w_icmp_eq_t (q := 211) d_Model_readLine_200 rfl c16 ?_
      refine w_iload (q := 213) d_Model_readLine_211 rfl rfl ?_
      refine w_iconst (q := 214) (v := (-1)) d_Model_readLine_213 rfl (by decide) ?_
      by_cases c17 : x4 = (-1)
      · rw [if_pos c17] at h
        refine w_icmp_eq_t (q := 226) d_Model_readLine_214 rfl c17 ?_
        refine w_aload_n (q := 227) d_Model_readLine_226 rfl rfl ?_
        refine w_ldcSW (q := 230) (j := 38) d_Model_readLine_227 rfl (by decide) rfl ?_
        obtain ⟨v18, hv, h⟩ := bnd h
        refine w_callVi (q := 233) (M' := M_Model_is) (n' := 5) (k := 54) (As := [.ref (1048576 + 38)]) (sh' := SH) (b1 := (0, 0)) d_Model_readLine_230 rfl mw_Model_is (by decide) (by decide) ml_Model_182 (by decide) s_54 (by decide) rfl rfl rfl (leb rfl) (bz _) (fun _ => rfl) (ok_Model_is (by decide) hv) ?_
        by_cases c19 : v18 = 0
        · rw [if_pos c19] at h
          refine w_if_eq_t (q := 243) d_Model_readLine_233 rfl c19 ?_
          refine w_aload_n (q := 244) d_Model_readLine_243 rfl rfl ?_
          refine w_iconst (q := 245) (v := 1) d_Model_readLine_244 rfl (by decide) ?_
          obtain ⟨v20, hv, h⟩ := bnd h
          refine w_callVv (q := 248) (M' := M_Model_wrong) (n' := 0) (k := 54) (As := [.int 1]) (sh' := SH) (b1 := (0, 0)) d_Model_readLine_245 rfl mw_Model_wrong (by decide) (by decide) ml_Model_189 (by decide) s_54 (by decide) rfl rfl rfl (leb rfl) (bz _) (fun _ => rfl) (ok_Model_wrong hv) ?_
          refine w_ls (ls' := [some (.ref 54), some (.int x1), some (.int x2), none, none]) (And.intro rfl (And.intro rfl (And.intro rfl trivial))) ?_
          exact ok_Model_readLine_j248 h
        · rw [if_neg c19] at h
          refine w_if_eq_f (q := 236) d_Model_readLine_233 243 rfl rfl c19 ?_
          refine w_aload_n (q := 237) d_Model_readLine_236 rfl rfl ?_
          obtain ⟨v22, hv, h⟩ := bnd h
          refine w_callVv (q := 240) (M' := M_Model_readCopy) (n' := 4) (k := 54) (As := []) (sh' := SH) (b1 := (0, 0)) d_Model_readLine_237 rfl mw_Model_readCopy (by decide) (by decide) ml_Model_270 (by decide) s_54 (by decide) rfl rfl rfl (leb rfl) (bz _) (fun _ => rfl) (ok_Model_readCopy hv) ?_
          refine w_goto (q := 248) d_Model_readLine_240 rfl ?_
          refine w_ls (ls' := [some (.ref 54), some (.int x1), some (.int x2), none, none]) (And.intro rfl (And.intro rfl (And.intro rfl trivial))) ?_
          exact ok_Model_readLine_j248 h
      · rw [if_neg c17] at h
        refine w_icmp_eq_f (q := 217) d_Model_readLine_214 226 rfl rfl c17 ?_
        refine w_aload_n (q := 218) d_Model_readLine_217 rfl rfl ?_
        refine w_iload (q := 220) d_Model_readLine_218 rfl rfl ?_
        obtain ⟨v23, hv, h⟩ := bnd h
        refine w_callVv (q := 223) (M' := M_Model_readEntry) (n' := 6) (k := 54) (As := [.int x4]) (sh' := SH) (b1 := (0, 0)) d_Model_readLine_220 rfl mw_Model_readEntry (by decide) (by decide) ml_Model_265 (by decide) s_54 (by decide) rfl rfl rfl (leb rfl) (bz _) (fun _ => rfl) (ok_Model_readEntry hv) ?_
        refine w_goto (q := 248) d_Model_readLine_223 rfl ?_
        refine w_ls (ls' := [some (.ref 54), some (.int x1), some (.int x2), none, none]) (And.intro rfl (And.intro rfl (And.intro rfl trivial))) ?_
        exact ok_Model_readLine_j248 h
    · rw [if_neg c16] at h
      refine w_icmp_eq_f (q := 203) d_Model_readLine_200 211 rfl rfl c16 ?_
      refine w_aload_n (q := 204) d_Model_readLine_203 rfl rfl ?_
      refine w_iload_n (q := 205) d_Model_readLine_204 rfl rfl ?_
      obtain ⟨v24, hv, h⟩ := bnd h
      refine w_callVv (q := 208) (M' := M_Model_readMonk) (n' := 3) (k := 54) (As := [.int x3]) (sh' := SH) (b1 := (0, 0)) d_Model_readLine_205 rfl mw_Model_readMonk (by decide) (by decide) ml_Model_262 (by decide) s_54 (by decide) rfl rfl rfl (leb rfl) (bz _) (fun _ => rfl) (ok_Model_readMonk hv) ?_
      refine w_goto (q := 248) d_Model_readLine_208 rfl ?_
      refine w_ls (ls' := [some (.ref 54), some (.int x1), some (.int x2), none, none]) (And.intro rfl (And.intro rfl (And.intro rfl trivial))) ?_
      exact ok_Model_readLine_j248 h
  · rw [if_neg c15] at h
    refine w_if_le_f (q := 113) d_Model_readLine_110 198 rfl rfl c15 ?_
    refine w_aload_n (q := 114) d_Model_readLine_113 rfl rfl ?_
    refine w_get (q := 117) (ci := 12) (j := 19) d_Model_readLine_114 rfl (by decide) fl_Model_168 (by decide) (by decide) s_54 rfl rfl ?_
    by_cases c25 : (m0 54 19) = 0
    · rw [if_pos c25] at h
      refine w_if_ne_f (q := 120) d_Model_readLine_117 124 rfl rfl c25 ?_
      refine w_aload_n (q := 121) d_Model_readLine_120 rfl rfl ?_
      obtain ⟨v26, hv, h⟩ := bnd h
      refine w_callVv (q := 124) (M' := M_Model_stepOn) (n' := 1) (k := 54) (As := []) (sh' := SH) (b1 := (0, 0)) d_Model_readLine_121 rfl mw_Model_stepOn (by decide) (by decide) ml_Model_193 (by decide) s_54 (by decide) rfl rfl rfl (leb rfl) (bz _) (fun _ => rfl) (ok_Model_stepOn hv) ?_
      refine w_ls (ls' := [some (.ref 54), some (.int x1), some (.int x2), none, none]) (And.intro rfl (And.intro rfl (And.intro rfl trivial))) ?_
      exact ok_Model_readLine_j124 h
    · rw [if_neg c25] at h
      refine w_if_ne_t (q := 124) d_Model_readLine_117 rfl c25 ?_
      refine w_ls (ls' := [some (.ref 54), some (.int x1), some (.int x2), none, none]) (And.intro rfl (And.intro rfl (And.intro rfl trivial))) ?_
      exact ok_Model_readLine_j124 h
def sp_Model_readLine_j98 (F : Nat) (p0 : Int32) (g : Mem) (m0 : Mem) (x1 : Int32) (x2 : Int32) (x3 : Int32) (x4 : Int32) : Option (Int32 × Mem) := if (x2 &&& x1) = 0 then sp_Model_readLine_j109 F p0 g m0 x1 x2 x3 x4 else (sp_Model_wrong 5 m0).bind fun v37 => sp_Model_readLine_j109 F p0 g v37 x1 x2 x3 x4
theorem ok_Model_readLine_j98 {γ : GG} {tt : Bool} {F : Nat} {p0 : Int32} {g : Mem} {m0 : Mem} {x1 : Int32} {x2 : Int32} {x3 : Int32} {x4 : Int32} {res : Int32 × Mem} (h : sp_Model_readLine_j98 F p0 g m0 x1 x2 x3 x4 = some res) : WA γ M_Model_readLine 120 98 [some (.ref 54), some (.int x1), some (.int x2), some (.int x3), some (.int x4)] [] SH m0 tt (0, 0) (pI SH res.1 res.2 tt) := by
  unfold sp_Model_readLine_j98 at h
  refine w_iload_n (q := 99) d_Model_readLine_98 rfl rfl ?_
  refine w_iload_n (q := 100) d_Model_readLine_99 rfl rfl ?_
  refine w_iand (q := 101) d_Model_readLine_100 rfl ?_
  by_cases c14 : (x2 &&& x1) = 0
  · rw [if_pos c14] at h
    refine w_if_eq_t (q := 109) d_Model_readLine_101 rfl c14 ?_
    refine w_ls (ls' := [some (.ref 54), some (.int x1), some (.int x2), some (.int x3), some (.int x4)]) (And.intro rfl (And.intro rfl (And.intro rfl (And.intro rfl (And.intro rfl trivial))))) ?_
    exact ok_Model_readLine_j109 h
  · rw [if_neg c14] at h
    refine w_if_eq_f (q := 104) d_Model_readLine_101 109 rfl rfl c14 ?_
    refine w_aload_n (q := 105) d_Model_readLine_104 rfl rfl ?_
    refine w_iconst (q := 106) (v := 5) d_Model_readLine_105 rfl (by decide) ?_
    obtain ⟨v37, hv, h⟩ := bnd h
    refine w_callVv (q := 109) (M' := M_Model_wrong) (n' := 0) (k := 54) (As := [.int 5]) (sh' := SH) (b1 := (0, 0)) d_Model_readLine_106 rfl mw_Model_wrong (by decide) (by decide) ml_Model_189 (by decide) s_54 (by decide) rfl rfl rfl (leb rfl) (bz _) (fun _ => rfl) (ok_Model_wrong hv) ?_
    refine w_ls (ls' := [some (.ref 54), some (.int x1), some (.int x2), some (.int x3), some (.int x4)]) (And.intro rfl (And.intro rfl (And.intro rfl (And.intro rfl (And.intro rfl trivial))))) ?_
    exact ok_Model_readLine_j109 h
def sp_Model_readLine_j57 (F : Nat) (p0 : Int32) (g : Mem) (m0 : Mem) (x1 : Int32) (y0 : Int32) : Option (Int32 × Mem) := (sp_Model_which F 55 15 4 m0).bind fun v9 => (sp_Model_which F 56 19 4 m0).bind fun v10 => if y0 = 1 then (rd m0 58 12 6).bind fun v12 => if v12 ≤ 0 then sp_Model_readLine_j98 F p0 g m0 x1 y0 v9 v10 else (sp_Model_wrong 6 m0).bind fun v38 => sp_Model_readLine_j98 F p0 g v38 x1 y0 v9 v10 else sp_Model_readLine_j98 F p0 g m0 x1 y0 v9 v10
theorem ok_Model_readLine_j57 {γ : GG} {tt : Bool} {F : Nat} {p0 : Int32} {g : Mem} {m0 : Mem} {x1 : Int32} {y0 : Int32} {res : Int32 × Mem} (h : sp_Model_readLine_j57 F p0 g m0 x1 y0 = some res) : WA γ M_Model_readLine 120 57 [some (.ref 54), some (.int x1), none, none, none] [.int y0] SH m0 tt (0, 0) (pI SH res.1 res.2 tt) := by
  unfold sp_Model_readLine_j57 at h
  refine w_istore_n (q := 58) (ls' := [some (.ref 54), some (.int x1), some (.int y0), none, none]) d_Model_readLine_57 rfl (by decide) rfl rfl ?_
  refine w_aload_n (q := 59) d_Model_readLine_58 rfl rfl ?_
  refine w_aload_n (q := 60) d_Model_readLine_59 rfl rfl ?_
  refine w_get (q := 63) (ci := 12) (j := 0) d_Model_readLine_60 rfl (by decide) fl_Model_19 (by decide) (by decide) s_54 rfl rfl ?_
  obtain ⟨v9, hv, h⟩ := bnd h
  refine w_callVi (q := 66) (M' := M_Model_which) (n' := 6) (k := 54) (As := [.ref 55]) (sh' := SH) (b1 := (0, 0)) d_Model_readLine_63 rfl mw_Model_which (by decide) (by decide) ml_Model_208 (by decide) s_54 (by decide) rfl rfl rfl (leb rfl) (bz _) (fun _ => rfl) (ok_Model_which t_55 hv) ?_
  refine w_istore_n (q := 67) (ls' := [some (.ref 54), some (.int x1), some (.int y0), some (.int v9), none]) d_Model_readLine_66 rfl (by decide) rfl rfl ?_
  refine w_aload_n (q := 68) d_Model_readLine_67 rfl rfl ?_
  refine w_aload_n (q := 69) d_Model_readLine_68 rfl rfl ?_
  refine w_get (q := 72) (ci := 12) (j := 1) d_Model_readLine_69 rfl (by decide) fl_Model_31 (by decide) (by decide) s_54 rfl rfl ?_
  obtain ⟨v10, hv, h⟩ := bnd h
  refine w_callVi (q := 75) (M' := M_Model_which) (n' := 6) (k := 54) (As := [.ref 56]) (sh' := SH) (b1 := (0, 0)) d_Model_readLine_72 rfl mw_Model_which (by decide) (by decide) ml_Model_208 (by decide) s_54 (by decide) rfl rfl rfl (leb rfl) (bz _) (fun _ => rfl) (ok_Model_which t_56 hv) ?_
  refine w_istore (q := 77) (ls' := [some (.ref 54), some (.int x1), some (.int y0), some (.int v9), some (.int v10)]) d_Model_readLine_75 rfl (by decide) rfl rfl ?_
  refine w_iload_n (q := 78) d_Model_readLine_77 rfl rfl ?_
  refine w_iconst (q := 79) (v := 1) d_Model_readLine_78 rfl (by decide) ?_
  by_cases c11 : y0 = 1
  · rw [if_pos c11] at h
    refine w_icmp_ne_f (q := 82) d_Model_readLine_79 98 rfl rfl c11 ?_
    refine w_aload_n (q := 83) d_Model_readLine_82 rfl rfl ?_
    refine w_get (q := 86) (ci := 12) (j := 4) d_Model_readLine_83 rfl (by decide) fl_Model_51 (by decide) (by decide) s_54 rfl rfl ?_
    refine w_bipush (q := 88) (v := 6) d_Model_readLine_86 rfl (by decide) ?_
    obtain ⟨v12, hv, h⟩ := bnd h
    obtain ⟨hi, hv⟩ := rd_ok hv
    refine w_iald (q := 89) (t := 0) d_Model_readLine_88 rfl a_58.2 a_58.1 hi rfl ?_
    rw [hv]
    by_cases c13 : v12 ≤ 0
    · rw [if_pos c13] at h
      refine w_if_le_t (q := 98) d_Model_readLine_89 rfl c13 ?_
      refine w_ls (ls' := [some (.ref 54), some (.int x1), some (.int y0), some (.int v9), some (.int v10)]) (And.intro rfl (And.intro rfl (And.intro rfl (And.intro rfl (And.intro rfl trivial))))) ?_
      exact ok_Model_readLine_j98 h
    · rw [if_neg c13] at h
      refine w_if_le_f (q := 92) d_Model_readLine_89 98 rfl rfl c13 ?_
      refine w_aload_n (q := 93) d_Model_readLine_92 rfl rfl ?_
      refine w_bipush (q := 95) (v := 6) d_Model_readLine_93 rfl (by decide) ?_
      obtain ⟨v38, hv, h⟩ := bnd h
      refine w_callVv (q := 98) (M' := M_Model_wrong) (n' := 0) (k := 54) (As := [.int 6]) (sh' := SH) (b1 := (0, 0)) d_Model_readLine_95 rfl mw_Model_wrong (by decide) (by decide) ml_Model_189 (by decide) s_54 (by decide) rfl rfl rfl (leb rfl) (bz _) (fun _ => rfl) (ok_Model_wrong hv) ?_
      refine w_ls (ls' := [some (.ref 54), some (.int x1), some (.int y0), some (.int v9), some (.int v10)]) (And.intro rfl (And.intro rfl (And.intro rfl (And.intro rfl (And.intro rfl trivial))))) ?_
      exact ok_Model_readLine_j98 h
  · rw [if_neg c11] at h
    refine w_icmp_ne_t (q := 98) d_Model_readLine_79 rfl c11 ?_
    refine w_ls (ls' := [some (.ref 54), some (.int x1), some (.int y0), some (.int v9), some (.int v10)]) (And.intro rfl (And.intro rfl (And.intro rfl (And.intro rfl (And.intro rfl trivial))))) ?_
    exact ok_Model_readLine_j98 h
def sp_Model_readLine (F : Nat) (p0 : Int32) (g : Mem) : Option (Int32 × Mem) := (sp_Model_is F 30 g).bind fun v1 => if v1 = 0 then (sp_Model_is F 27 g).bind fun v3 => if v3 = 0 then (sp_Model_is F 31 g).bind fun v5 => if v5 = 0 then (sp_Model_is F 32 g).bind fun v7 => if v7 = 0 then sp_Model_readLine_j57 F p0 g g p0 0 else sp_Model_readLine_j57 F p0 g g p0 8 else sp_Model_readLine_j57 F p0 g g p0 4 else sp_Model_readLine_j57 F p0 g g p0 2 else sp_Model_readLine_j57 F p0 g g p0 1
theorem ok_Model_readLine {γ : GG} {tt : Bool} {F : Nat} {p0 : Int32} {g : Mem} {res : Int32 × Mem} (h : sp_Model_readLine F p0 g = some res) : CA γ M_Model_readLine 120 [.ref 54, .int p0] SH g tt (0, 0) (pI SH res.1 res.2 tt) := by
  refine CA.of mw_Model_readLine.1 3 rfl ?_
  show WA γ M_Model_readLine 120 0 [some (.ref 54), some (.int p0), none, none, none] [] SH g tt (0, 0) (pI SH res.1 res.2 tt)
  unfold sp_Model_readLine at h
  refine w_aload_n (q := 1) d_Model_readLine_0 rfl rfl ?_
  refine w_ldcSW (q := 4) (j := 30) d_Model_readLine_1 rfl (by decide) rfl ?_
  obtain ⟨v1, hv, h⟩ := bnd h
  refine w_callVi (q := 7) (M' := M_Model_is) (n' := 5) (k := 54) (As := [.ref (1048576 + 30)]) (sh' := SH) (b1 := (0, 0)) d_Model_readLine_4 rfl mw_Model_is (by decide) (by decide) ml_Model_182 (by decide) s_54 (by decide) rfl rfl rfl (leb rfl) (bz _) (fun _ => rfl) (ok_Model_is (by decide) hv) ?_
  by_cases c2 : v1 = 0
  · rw [if_pos c2] at h
    refine w_if_eq_t (q := 14) d_Model_readLine_7 rfl c2 ?_
    refine w_aload_n (q := 15) d_Model_readLine_14 rfl rfl ?_
    refine w_ldcS (q := 17) (j := 27) d_Model_readLine_15 rfl (by decide) rfl ?_
    obtain ⟨v3, hv, h⟩ := bnd h
    refine w_callVi (q := 20) (M' := M_Model_is) (n' := 5) (k := 54) (As := [.ref (1048576 + 27)]) (sh' := SH) (b1 := (0, 0)) d_Model_readLine_17 rfl mw_Model_is (by decide) (by decide) ml_Model_182 (by decide) s_54 (by decide) rfl rfl rfl (leb rfl) (bz _) (fun _ => rfl) (ok_Model_is (by decide) hv) ?_
    by_cases c4 : v3 = 0
    · rw [if_pos c4] at h
      refine w_if_eq_t (q := 27) d_Model_readLine_20 rfl c4 ?_
      refine w_aload_n (q := 28) d_Model_readLine_27 rfl rfl ?_
      refine w_ldcSW (q := 31) (j := 31) d_Model_readLine_28 rfl (by decide) rfl ?_
      obtain ⟨v5, hv, h⟩ := bnd h
      refine w_callVi (q := 34) (M' := M_Model_is) (n' := 5) (k := 54) (As := [.ref (1048576 + 31)]) (sh' := SH) (b1 := (0, 0)) d_Model_readLine_31 rfl mw_Model_is (by decide) (by decide) ml_Model_182 (by decide) s_54 (by decide) rfl rfl rfl (leb rfl) (bz _) (fun _ => rfl) (ok_Model_is (by decide) hv) ?_
      by_cases c6 : v5 = 0
      · rw [if_pos c6] at h
        refine w_if_eq_t (q := 41) d_Model_readLine_34 rfl c6 ?_
        refine w_aload_n (q := 42) d_Model_readLine_41 rfl rfl ?_
        refine w_ldcSW (q := 45) (j := 32) d_Model_readLine_42 rfl (by decide) rfl ?_
        obtain ⟨v7, hv, h⟩ := bnd h
        refine w_callVi (q := 48) (M' := M_Model_is) (n' := 5) (k := 54) (As := [.ref (1048576 + 32)]) (sh' := SH) (b1 := (0, 0)) d_Model_readLine_45 rfl mw_Model_is (by decide) (by decide) ml_Model_182 (by decide) s_54 (by decide) rfl rfl rfl (leb rfl) (bz _) (fun _ => rfl) (ok_Model_is (by decide) hv) ?_
        by_cases c8 : v7 = 0
        · rw [if_pos c8] at h
          refine w_if_eq_t (q := 56) d_Model_readLine_48 rfl c8 ?_
          refine w_iconst (q := 57) (v := 0) d_Model_readLine_56 rfl (by decide) ?_
          refine w_ls (ls' := [some (.ref 54), some (.int p0), none, none, none]) (And.intro rfl (And.intro rfl trivial)) ?_
          exact ok_Model_readLine_j57 h
        · rw [if_neg c8] at h
          refine w_if_eq_f (q := 51) d_Model_readLine_48 56 rfl rfl c8 ?_
          refine w_bipush (q := 53) (v := 8) d_Model_readLine_51 rfl (by decide) ?_
          refine w_goto (q := 57) d_Model_readLine_53 rfl ?_
          refine w_ls (ls' := [some (.ref 54), some (.int p0), none, none, none]) (And.intro rfl (And.intro rfl trivial)) ?_
          exact ok_Model_readLine_j57 h
      · rw [if_neg c6] at h
        refine w_if_eq_f (q := 37) d_Model_readLine_34 41 rfl rfl c6 ?_
        refine w_iconst (q := 38) (v := 4) d_Model_readLine_37 rfl (by decide) ?_
        refine w_goto (q := 57) d_Model_readLine_38 rfl ?_
        refine w_ls (ls' := [some (.ref 54), some (.int p0), none, none, none]) (And.intro rfl (And.intro rfl trivial)) ?_
        exact ok_Model_readLine_j57 h
    · rw [if_neg c4] at h
      refine w_if_eq_f (q := 23) d_Model_readLine_20 27 rfl rfl c4 ?_
      refine w_iconst (q := 24) (v := 2) d_Model_readLine_23 rfl (by decide) ?_
      refine w_goto (q := 57) d_Model_readLine_24 rfl ?_
      refine w_ls (ls' := [some (.ref 54), some (.int p0), none, none, none]) (And.intro rfl (And.intro rfl trivial)) ?_
      exact ok_Model_readLine_j57 h
  · rw [if_neg c2] at h
    refine w_if_eq_f (q := 10) d_Model_readLine_7 14 rfl rfl c2 ?_
    refine w_iconst (q := 11) (v := 1) d_Model_readLine_10 rfl (by decide) ?_
    refine w_goto (q := 57) d_Model_readLine_11 rfl ?_
    refine w_ls (ls' := [some (.ref 54), some (.int p0), none, none, none]) (And.intro rfl (And.intro rfl trivial)) ?_
    exact ok_Model_readLine_j57 h
def PL_Model_takeHalf_2 (γ : GG) (sh : List Sh) (tt : Bool) (q0 : Nat) (q0n : Nat) (g : Mem) (b : Nat × Nat) (Φ : PO) (s : Int32 × Mem) : Prop := WA γ M_Model_takeHalf 0 2 [some (.ref q0), some (.int s.1)] [] sh s.2 tt b Φ
def QL_Model_takeHalf_2 (γ : GG) (sh : List Sh) (tt : Bool) (q0 : Nat) (q0n : Nat) (g : Mem) (b : Nat × Nat) (Φ : PO) (x : (Mem)) : Prop := WA γ M_Model_takeHalf 0 27 [none, none] [] sh x tt b Φ
def st_Model_takeHalf_2 (F : Nat) (q0 : Nat) (q0n : Nat) (g : Mem) (s : Int32 × Mem) : Option ((Int32 × Mem) ⊕ ((Mem))) := (dv (Int32.ofNat q0n) 2).bind fun v1 => if v1 ≤ s.1 then some (.inr s.2) else (dv (Int32.ofNat q0n) 2).bind fun v3 => (rd s.2 q0 q0n (v3 + s.1)).bind fun v4 => (wr s.2 q0 q0n s.1 v4).bind fun g5 => some (.inl (s.1 + 1, g5))
theorem kl_Model_takeHalf_2 {γ : GG} {sh : List Sh} {tt : Bool} {F : Nat} {q0 : Nat} {q0n : Nat} {g : Mem} {b : Nat × Nat} {Φ : PO} (hq0 : isA sh q0 q0n) : ∀ (s : Int32 × Mem) (r : (Int32 × Mem) ⊕ ((Mem))), st_Model_takeHalf_2 F q0 q0n g s = some r → RQ (PL_Model_takeHalf_2 γ sh tt q0 q0n g b Φ) (QL_Model_takeHalf_2 γ sh tt q0 q0n g b Φ) r → PL_Model_takeHalf_2 γ sh tt q0 q0n g b Φ s := by
  intro s r h hr
  unfold st_Model_takeHalf_2 at h
  unfold PL_Model_takeHalf_2
  refine w_iload_n (q := 3) d_Model_takeHalf_2 rfl rfl ?_
  refine w_aload_n (q := 4) d_Model_takeHalf_3 rfl rfl ?_
  refine w_alen (q := 5) d_Model_takeHalf_4 rfl hq0.2 hq0.1 (Or.inl ⟨rfl, Or.inl rfl⟩) rfl ?_
  refine w_iconst (q := 6) (v := 2) d_Model_takeHalf_5 rfl (by decide) ?_
  obtain ⟨v1, hv, h⟩ := bnd h
  obtain ⟨hz, hv⟩ := dv_ok hv
  refine w_idiv (q := 7) d_Model_takeHalf_6 rfl hz ?_
  rw [hv]
  by_cases c2 : v1 ≤ s.1
  · rw [if_pos c2] at h
    refine w_icmp_ge_t (q := 27) d_Model_takeHalf_7 rfl c2 ?_
    cases h
    exact w_ls (by exact trivial) hr
  · rw [if_neg c2] at h
    refine w_icmp_ge_f (q := 10) d_Model_takeHalf_7 27 rfl rfl c2 ?_
    refine w_aload_n (q := 11) d_Model_takeHalf_10 rfl rfl ?_
    refine w_iload_n (q := 12) d_Model_takeHalf_11 rfl rfl ?_
    refine w_aload_n (q := 13) d_Model_takeHalf_12 rfl rfl ?_
    refine w_aload_n (q := 14) d_Model_takeHalf_13 rfl rfl ?_
    refine w_alen (q := 15) d_Model_takeHalf_14 rfl hq0.2 hq0.1 (Or.inl ⟨rfl, Or.inl rfl⟩) rfl ?_
    refine w_iconst (q := 16) (v := 2) d_Model_takeHalf_15 rfl (by decide) ?_
    obtain ⟨v3, hv, h⟩ := bnd h
    obtain ⟨hz, hv⟩ := dv_ok hv
    refine w_idiv (q := 17) d_Model_takeHalf_16 rfl hz ?_
    rw [hv]
    refine w_iload_n (q := 18) d_Model_takeHalf_17 rfl rfl ?_
    refine w_iadd (q := 19) d_Model_takeHalf_18 rfl ?_
    obtain ⟨v4, hv, h⟩ := bnd h
    obtain ⟨hi, hv⟩ := rd_ok hv
    refine w_iald (q := 20) (t := 0) d_Model_takeHalf_19 rfl hq0.2 hq0.1 hi rfl ?_
    rw [hv]
    obtain ⟨g5, hv, h⟩ := bnd h
    obtain ⟨hi, hv⟩ := wr_ok hv
    refine w_iast (q := 21) d_Model_takeHalf_20 rfl hq0.2 hq0.1 hi hv ?_
    refine w_iinc (q := 24) (ls' := [some (.ref q0), some (.int (s.1 + 1))]) d_Model_takeHalf_21 rfl (by decide) rfl rfl rfl ?_
    refine w_goto (q := 2) d_Model_takeHalf_24 rfl ?_
    cases h
    exact w_ls (by exact (And.intro rfl (And.intro rfl trivial))) hr
def sp_Model_takeHalf (F : Nat) (q0 : Nat) (q0n : Nat) (g : Mem) : Option (Mem) := (lpO (st_Model_takeHalf_2 F q0 q0n g) F (0, g)).bind fun x6 => some x6
theorem ok_Model_takeHalf {γ : GG} {sh : List Sh} {tt : Bool} {F : Nat} {q0 : Nat} {q0n : Nat} {g : Mem} (hq0 : isA sh q0 q0n) {res : Mem} (h : sp_Model_takeHalf F q0 q0n g = some res) : CA γ M_Model_takeHalf 0 [.ref q0] sh g tt (0, 0) (pV sh res tt) := by
  refine CA.of mw_Model_takeHalf.1 1 rfl ?_
  show WA γ M_Model_takeHalf 0 0 [some (.ref q0), none] [] sh g tt (0, 0) (pV sh res tt)
  unfold sp_Model_takeHalf at h
  refine w_iconst (q := 1) (v := 0) d_Model_takeHalf_0 rfl (by decide) ?_
  refine w_istore_n (q := 2) (ls' := [some (.ref q0), some (.int 0)]) d_Model_takeHalf_1 rfl (by decide) rfl rfl ?_
  obtain ⟨x6, hx, h⟩ := bnd h
  refine w_ls (ls' := [some (.ref q0), some (.int 0)]) (And.intro rfl (And.intro rfl trivial)) ?_
  show PL_Model_takeHalf_2 γ sh tt q0 q0n g _ _ (0, g)
  refine lp_ok (kl_Model_takeHalf_2 hq0) F _ x6 hx ?_
  unfold QL_Model_takeHalf_2
  cases h
  exact w_return d_Model_takeHalf_27 rfl ⟨rfl, rfl, rfl, rfl⟩
def sp_Model_of (p0 : Int32) (p1 : Int32) (g : Mem) : Option (Int32) := (rd g 62 432 ((9 * p0) + p1)).bind fun v1 => some v1
theorem ok_Model_of {γ : GG} {tt : Bool} {p0 : Int32} {p1 : Int32} {g : Mem} {res : Int32} (h : sp_Model_of p0 p1 g = some res) : CA γ M_Model_of 0 [.ref 54, .int p0, .int p1] SH g tt (0, 0) (pI SH res g tt) := by
  refine CA.of mw_Model_of.1 0 rfl ?_
  show WA γ M_Model_of 0 0 [some (.ref 54), some (.int p0), some (.int p1)] [] SH g tt (0, 0) (pI SH res g tt)
  unfold sp_Model_of at h
  refine w_aload_n (q := 1) d_Model_of_0 rfl rfl ?_
  refine w_get (q := 4) (ci := 12) (j := 8) d_Model_of_1 rfl (by decide) fl_Model_62 (by decide) (by decide) s_54 rfl rfl ?_
  refine w_bipush (q := 6) (v := 9) d_Model_of_4 rfl (by decide) ?_
  refine w_iload_n (q := 7) d_Model_of_6 rfl rfl ?_
  refine w_imul (q := 8) d_Model_of_7 rfl ?_
  refine w_iload_n (q := 9) d_Model_of_8 rfl rfl ?_
  refine w_iadd (q := 10) d_Model_of_9 rfl ?_
  obtain ⟨v1, hv, h⟩ := bnd h
  obtain ⟨hi, hv⟩ := rd_ok hv
  refine w_iald (q := 11) (t := 0) d_Model_of_10 rfl a_62.2 a_62.1 hi rfl ?_
  rw [hv]
  cases h
  exact w_ireturn d_Model_of_11 rfl rfl ⟨rfl, rfl, rfl, rfl⟩
def sp_Model_isThere (p0 : Int32) (g : Mem) : Option (Int32) := (sp_Model_of p0 8 g).bind fun v1 => if v1 = 0 then some 1 else some 0
theorem ok_Model_isThere {γ : GG} {tt : Bool} {p0 : Int32} {g : Mem} {res : Int32} (h : sp_Model_isThere p0 g = some res) : CA γ M_Model_isThere 1 [.ref 54, .int p0] SH g tt (0, 0) (pI SH res g tt) := by
  refine CA.of mw_Model_isThere.1 0 rfl ?_
  show WA γ M_Model_isThere 1 0 [some (.ref 54), some (.int p0)] [] SH g tt (0, 0) (pI SH res g tt)
  unfold sp_Model_isThere at h
  refine w_aload_n (q := 1) d_Model_isThere_0 rfl rfl ?_
  refine w_iload_n (q := 2) d_Model_isThere_1 rfl rfl ?_
  refine w_bipush (q := 4) (v := 8) d_Model_isThere_2 rfl (by decide) ?_
  obtain ⟨v1, hv, h⟩ := bnd h
  refine w_callVi (q := 7) (M' := M_Model_of) (n' := 0) (k := 54) (As := [.int p0, .int 8]) (sh' := SH) (b1 := (0, 0)) d_Model_isThere_4 rfl mw_Model_of (by decide) (by decide) ml_Model_305 (by decide) s_54 (by decide) rfl rfl rfl (leb rfl) (bz _) (fun _ => rfl) (ok_Model_of hv) ?_
  by_cases c2 : v1 = 0
  · rw [if_pos c2] at h
    refine w_if_ne_f (q := 10) d_Model_isThere_7 14 rfl rfl c2 ?_
    refine w_iconst (q := 11) (v := 1) d_Model_isThere_10 rfl (by decide) ?_
    refine w_goto (q := 15) d_Model_isThere_11 rfl ?_
    cases h
    exact w_ireturn d_Model_isThere_15 rfl rfl ⟨rfl, rfl, rfl, rfl⟩
  · rw [if_neg c2] at h
    refine w_if_ne_t (q := 14) d_Model_isThere_7 rfl c2 ?_
    refine w_iconst (q := 15) (v := 0) d_Model_isThere_14 rfl (by decide) ?_
    cases h
    exact w_ireturn d_Model_isThere_15 rfl rfl ⟨rfl, rfl, rfl, rfl⟩
def sp_Model_yearOf (p0 : Int32) (g : Mem) : Option (Int32) := (sp_Model_isOf (g 54 25) p0 g).bind fun v1 => if v1 = 0 then some (g 54 24) else (rd g 66 6 p0).bind fun v3 => some v3
theorem ok_Model_yearOf {γ : GG} {tt : Bool} {p0 : Int32} {g : Mem} {res : Int32} (h : sp_Model_yearOf p0 g = some res) : CA γ M_Model_yearOf 1 [.ref 54, .int p0] SH g tt (0, 0) (pI SH res g tt) := by
  refine CA.of mw_Model_yearOf.1 0 rfl ?_
  show WA γ M_Model_yearOf 1 0 [some (.ref 54), some (.int p0)] [] SH g tt (0, 0) (pI SH res g tt)
  unfold sp_Model_yearOf at h
  refine w_aload_n (q := 1) d_Model_yearOf_0 rfl rfl ?_
  refine w_get (q := 4) (ci := 12) (j := 25) d_Model_yearOf_1 rfl (by decide) fl_Model_289 (by decide) (by decide) s_54 rfl rfl ?_
  refine w_iload_n (q := 5) d_Model_yearOf_4 rfl rfl ?_
  obtain ⟨v1, hv, h⟩ := bnd h
  refine w_callSi (q := 8) (M' := M_Model_isOf) (n' := 0) (As := [.int (g 54 25), .int p0]) (sh' := SH) (b1 := (0, 0)) d_Model_yearOf_5 rfl mw_Model_isOf (by decide) (by decide) ml_Model_308 rfl rfl (leb rfl) (bz _) (fun _ => rfl) (ok_Model_isOf hv) ?_
  by_cases c2 : v1 = 0
  · rw [if_pos c2] at h
    refine w_if_eq_t (q := 20) d_Model_yearOf_8 rfl c2 ?_
    refine w_aload_n (q := 21) d_Model_yearOf_20 rfl rfl ?_
    refine w_get (q := 24) (ci := 12) (j := 24) d_Model_yearOf_21 rfl (by decide) fl_Model_286 (by decide) (by decide) s_54 rfl rfl ?_
    cases h
    exact w_ireturn d_Model_yearOf_24 rfl rfl ⟨rfl, rfl, rfl, rfl⟩
  · rw [if_neg c2] at h
    refine w_if_eq_f (q := 11) d_Model_yearOf_8 20 rfl rfl c2 ?_
    refine w_aload_n (q := 12) d_Model_yearOf_11 rfl rfl ?_
    refine w_get (q := 15) (ci := 12) (j := 22) d_Model_yearOf_12 rfl (by decide) fl_Model_78 (by decide) (by decide) s_54 rfl rfl ?_
    refine w_iload_n (q := 16) d_Model_yearOf_15 rfl rfl ?_
    obtain ⟨v3, hv, h⟩ := bnd h
    obtain ⟨hi, hv⟩ := rd_ok hv
    refine w_iald (q := 17) (t := 0) d_Model_yearOf_16 rfl a_66.2 a_66.1 hi rfl ?_
    rw [hv]
    refine w_goto (q := 24) d_Model_yearOf_17 rfl ?_
    cases h
    exact w_ireturn d_Model_yearOf_24 rfl rfl ⟨rfl, rfl, rfl, rfl⟩
def sp_Model_old (p0 : Int32) (g : Mem) : Option (Int32) := (sp_Model_of p0 1 g).bind fun v1 => (sp_Model_yearOf v1 g).bind fun v2 => (sp_Model_of p0 2 g).bind fun v3 => some (v2 - v3)
theorem ok_Model_old {γ : GG} {tt : Bool} {p0 : Int32} {g : Mem} {res : Int32} (h : sp_Model_old p0 g = some res) : CA γ M_Model_old 2 [.ref 54, .int p0] SH g tt (0, 0) (pI SH res g tt) := by
  refine CA.of mw_Model_old.1 0 rfl ?_
  show WA γ M_Model_old 2 0 [some (.ref 54), some (.int p0)] [] SH g tt (0, 0) (pI SH res g tt)
  unfold sp_Model_old at h
  refine w_aload_n (q := 1) d_Model_old_0 rfl rfl ?_
  refine w_aload_n (q := 2) d_Model_old_1 rfl rfl ?_
  refine w_iload_n (q := 3) d_Model_old_2 rfl rfl ?_
  refine w_iconst (q := 4) (v := 1) d_Model_old_3 rfl (by decide) ?_
  obtain ⟨v1, hv, h⟩ := bnd h
  refine w_callVi (q := 7) (M' := M_Model_of) (n' := 0) (k := 54) (As := [.int p0, .int 1]) (sh' := SH) (b1 := (0, 0)) d_Model_old_4 rfl mw_Model_of (by decide) (by decide) ml_Model_305 (by decide) s_54 (by decide) rfl rfl rfl (leb rfl) (bz _) (fun _ => rfl) (ok_Model_of hv) ?_
  obtain ⟨v2, hv, h⟩ := bnd h
  refine w_callVi (q := 10) (M' := M_Model_yearOf) (n' := 1) (k := 54) (As := [.int v1]) (sh' := SH) (b1 := (0, 0)) d_Model_old_7 rfl mw_Model_yearOf (by decide) (by decide) ml_Model_312 (by decide) s_54 (by decide) rfl rfl rfl (leb rfl) (bz _) (fun _ => rfl) (ok_Model_yearOf hv) ?_
  refine w_aload_n (q := 11) d_Model_old_10 rfl rfl ?_
  refine w_iload_n (q := 12) d_Model_old_11 rfl rfl ?_
  refine w_iconst (q := 13) (v := 2) d_Model_old_12 rfl (by decide) ?_
  obtain ⟨v3, hv, h⟩ := bnd h
  refine w_callVi (q := 16) (M' := M_Model_of) (n' := 0) (k := 54) (As := [.int p0, .int 2]) (sh' := SH) (b1 := (0, 0)) d_Model_old_13 rfl mw_Model_of (by decide) (by decide) ml_Model_305 (by decide) s_54 (by decide) rfl rfl rfl (leb rfl) (bz _) (fun _ => rfl) (ok_Model_of hv) ?_
  refine w_isub (q := 17) d_Model_old_16 rfl ?_
  cases h
  exact w_ireturn d_Model_old_17 rfl rfl ⟨rfl, rfl, rfl, rfl⟩
def sp_Model_lose (p0 : Int32) (g : Mem) : Option (Mem) := (wr g 62 432 ((9 * p0) + 8) 1).bind fun g1 => some g1
theorem ok_Model_lose {γ : GG} {tt : Bool} {p0 : Int32} {g : Mem} {res : Mem} (h : sp_Model_lose p0 g = some res) : CA γ M_Model_lose 0 [.ref 54, .int p0] SH g tt (0, 0) (pV SH res tt) := by
  refine CA.of mw_Model_lose.1 0 rfl ?_
  show WA γ M_Model_lose 0 0 [some (.ref 54), some (.int p0)] [] SH g tt (0, 0) (pV SH res tt)
  unfold sp_Model_lose at h
  refine w_aload_n (q := 1) d_Model_lose_0 rfl rfl ?_
  refine w_get (q := 4) (ci := 12) (j := 8) d_Model_lose_1 rfl (by decide) fl_Model_62 (by decide) (by decide) s_54 rfl rfl ?_
  refine w_bipush (q := 6) (v := 9) d_Model_lose_4 rfl (by decide) ?_
  refine w_iload_n (q := 7) d_Model_lose_6 rfl rfl ?_
  refine w_imul (q := 8) d_Model_lose_7 rfl ?_
  refine w_bipush (q := 10) (v := 8) d_Model_lose_8 rfl (by decide) ?_
  refine w_iadd (q := 11) d_Model_lose_10 rfl ?_
  refine w_iconst (q := 12) (v := 1) d_Model_lose_11 rfl (by decide) ?_
  obtain ⟨g1, hv, h⟩ := bnd h
  obtain ⟨hi, hv⟩ := wr_ok hv
  refine w_iast (q := 13) d_Model_lose_12 rfl a_62.2 a_62.1 hi hv ?_
  cases h
  exact w_return d_Model_lose_13 rfl ⟨rfl, rfl, rfl, rfl⟩
def PL_Model_loseFar_4 (γ : GG) (tt : Bool) (g : Mem) (b : Nat × Nat) (Φ : PO) (s : Int32 × Int32 × Mem) : Prop := WA γ M_Model_loseFar 3 4 [some (.ref 54), some (.int s.1), some (.int s.2.1)] [] SH s.2.2 tt b Φ
def QL_Model_loseFar_4 (γ : GG) (tt : Bool) (g : Mem) (b : Nat × Nat) (Φ : PO) (x : (Int32 × Mem)) : Prop := WA γ M_Model_loseFar 3 56 [none, some (.int x.1), none] [] SH x.2 tt b Φ
def st_Model_loseFar_4 (F : Nat) (g : Mem) (s : Int32 × Int32 × Mem) : Option ((Int32 × Int32 × Mem) ⊕ ((Int32 × Mem))) := if (s.2.2 54 26) ≤ s.2.1 then some (.inr (s.1, s.2.2)) else (sp_Model_isThere s.2.1 s.2.2).bind fun v2 => if v2 = 0 then some (.inl (s.1, s.2.1 + 1, s.2.2)) else (sp_Model_old s.2.1 s.2.2).bind fun v4 => (sp_Model_of s.2.1 1 s.2.2).bind fun v5 => (rd s.2.2 61 12 v5).bind fun v6 => if v6 < v4 then (sp_Model_lose s.2.1 s.2.2).bind fun v8 => some (.inl (s.1 + 1, s.2.1 + 1, v8)) else some (.inl (s.1, s.2.1 + 1, s.2.2))
theorem kl_Model_loseFar_4 {γ : GG} {tt : Bool} {F : Nat} {g : Mem} {b : Nat × Nat} {Φ : PO} : ∀ (s : Int32 × Int32 × Mem) (r : (Int32 × Int32 × Mem) ⊕ ((Int32 × Mem))), st_Model_loseFar_4 F g s = some r → RQ (PL_Model_loseFar_4 γ tt g b Φ) (QL_Model_loseFar_4 γ tt g b Φ) r → PL_Model_loseFar_4 γ tt g b Φ s := by
  intro s r h hr
  unfold st_Model_loseFar_4 at h
  unfold PL_Model_loseFar_4
  refine w_iload_n (q := 5) d_Model_loseFar_4 rfl rfl ?_
  refine w_aload_n (q := 6) d_Model_loseFar_5 rfl rfl ?_
  refine w_get (q := 9) (ci := 12) (j := 26) d_Model_loseFar_6 rfl (by decide) fl_Model_121 (by decide) (by decide) s_54 rfl rfl ?_
  by_cases c1 : (s.2.2 54 26) ≤ s.2.1
  · rw [if_pos c1] at h
    refine w_icmp_ge_t (q := 56) d_Model_loseFar_9 rfl c1 ?_
    cases h
    exact w_ls (by exact (And.intro rfl trivial)) hr
  · rw [if_neg c1] at h
    refine w_icmp_ge_f (q := 12) d_Model_loseFar_9 56 rfl rfl c1 ?_
    refine w_aload_n (q := 13) d_Model_loseFar_12 rfl rfl ?_
    refine w_iload_n (q := 14) d_Model_loseFar_13 rfl rfl ?_
    obtain ⟨v2, hv, h⟩ := bnd h
    refine w_callVi (q := 17) (M' := M_Model_isThere) (n' := 1) (k := 54) (As := [.int s.2.1]) (sh' := SH) (b1 := (0, 0)) d_Model_loseFar_14 rfl mw_Model_isThere (by decide) (by decide) ml_Model_315 (by decide) s_54 (by decide) rfl rfl rfl (leb rfl) (bz _) (fun _ => rfl) (ok_Model_isThere hv) ?_
    by_cases c3 : v2 = 0
    · rw [if_pos c3] at h
      refine w_if_eq_t (q := 50) d_Model_loseFar_17 rfl c3 ?_
      refine w_iinc (q := 53) (ls' := [some (.ref 54), some (.int s.1), some (.int (s.2.1 + 1))]) d_Model_loseFar_50 rfl (by decide) rfl rfl rfl ?_
      refine w_goto (q := 4) d_Model_loseFar_53 rfl ?_
      cases h
      exact w_ls (by exact (And.intro rfl (And.intro rfl (And.intro rfl trivial)))) hr
    · rw [if_neg c3] at h
      refine w_if_eq_f (q := 20) d_Model_loseFar_17 50 rfl rfl c3 ?_
      refine w_aload_n (q := 21) d_Model_loseFar_20 rfl rfl ?_
      refine w_iload_n (q := 22) d_Model_loseFar_21 rfl rfl ?_
      obtain ⟨v4, hv, h⟩ := bnd h
      refine w_callVi (q := 25) (M' := M_Model_old) (n' := 2) (k := 54) (As := [.int s.2.1]) (sh' := SH) (b1 := (0, 0)) d_Model_loseFar_22 rfl mw_Model_old (by decide) (by decide) ml_Model_318 (by decide) s_54 (by decide) rfl rfl rfl (leb rfl) (bz _) (fun _ => rfl) (ok_Model_old hv) ?_
      refine w_aload_n (q := 26) d_Model_loseFar_25 rfl rfl ?_
      refine w_get (q := 29) (ci := 12) (j := 7) d_Model_loseFar_26 rfl (by decide) fl_Model_59 (by decide) (by decide) s_54 rfl rfl ?_
      refine w_aload_n (q := 30) d_Model_loseFar_29 rfl rfl ?_
      refine w_iload_n (q := 31) d_Model_loseFar_30 rfl rfl ?_
      refine w_iconst (q := 32) (v := 1) d_Model_loseFar_31 rfl (by decide) ?_
      obtain ⟨v5, hv, h⟩ := bnd h
      refine w_callVi (q := 35) (M' := M_Model_of) (n' := 0) (k := 54) (As := [.int s.2.1, .int 1]) (sh' := SH) (b1 := (0, 0)) d_Model_loseFar_32 rfl mw_Model_of (by decide) (by decide) ml_Model_305 (by decide) s_54 (by decide) rfl rfl rfl (leb rfl) (bz _) (fun _ => rfl) (ok_Model_of hv) ?_
      obtain ⟨v6, hv, h⟩ := bnd h
      obtain ⟨hi, hv⟩ := rd_ok hv
      refine w_iald (q := 36) (t := 0) d_Model_loseFar_35 rfl a_61.2 a_61.1 hi rfl ?_
      rw [hv]
      by_cases c7 : v6 < v4
      · rw [if_pos c7] at h
        refine w_icmp_gt_t (q := 42) d_Model_loseFar_36 rfl c7 ?_
        refine w_aload_n (q := 43) d_Model_loseFar_42 rfl rfl ?_
        refine w_iload_n (q := 44) d_Model_loseFar_43 rfl rfl ?_
        obtain ⟨v8, hv, h⟩ := bnd h
        refine w_callVv (q := 47) (M' := M_Model_lose) (n' := 0) (k := 54) (As := [.int s.2.1]) (sh' := SH) (b1 := (0, 0)) d_Model_loseFar_44 rfl mw_Model_lose (by decide) (by decide) ml_Model_320 (by decide) s_54 (by decide) rfl rfl rfl (leb rfl) (bz _) (fun _ => rfl) (ok_Model_lose hv) ?_
        refine w_iinc (q := 50) (ls' := [some (.ref 54), some (.int (s.1 + 1)), some (.int s.2.1)]) d_Model_loseFar_47 rfl (by decide) rfl rfl rfl ?_
        refine w_iinc (q := 53) (ls' := [some (.ref 54), some (.int (s.1 + 1)), some (.int (s.2.1 + 1))]) d_Model_loseFar_50 rfl (by decide) rfl rfl rfl ?_
        refine w_goto (q := 4) d_Model_loseFar_53 rfl ?_
        cases h
        exact w_ls (by exact (And.intro rfl (And.intro rfl (And.intro rfl trivial)))) hr
      · rw [if_neg c7] at h
        refine w_icmp_gt_f (q := 39) d_Model_loseFar_36 42 rfl rfl c7 ?_
        refine w_goto (q := 50) d_Model_loseFar_39 rfl ?_
        refine w_iinc (q := 53) (ls' := [some (.ref 54), some (.int s.1), some (.int (s.2.1 + 1))]) d_Model_loseFar_50 rfl (by decide) rfl rfl rfl ?_
        refine w_goto (q := 4) d_Model_loseFar_53 rfl ?_
        cases h
        exact w_ls (by exact (And.intro rfl (And.intro rfl (And.intro rfl trivial)))) hr
def sp_Model_loseFar (F : Nat) (g : Mem) : Option (Int32 × Mem) := (lpO (st_Model_loseFar_4 F g) F (0, 0, g)).bind fun x9 => some (x9.1, x9.2)
theorem ok_Model_loseFar {γ : GG} {tt : Bool} {F : Nat} {g : Mem} {res : Int32 × Mem} (h : sp_Model_loseFar F g = some res) : CA γ M_Model_loseFar 3 [.ref 54] SH g tt (0, 0) (pI SH res.1 res.2 tt) := by
  refine CA.of mw_Model_loseFar.1 2 rfl ?_
  show WA γ M_Model_loseFar 3 0 [some (.ref 54), none, none] [] SH g tt (0, 0) (pI SH res.1 res.2 tt)
  unfold sp_Model_loseFar at h
  refine w_iconst (q := 1) (v := 0) d_Model_loseFar_0 rfl (by decide) ?_
  refine w_istore_n (q := 2) (ls' := [some (.ref 54), some (.int 0), none]) d_Model_loseFar_1 rfl (by decide) rfl rfl ?_
  refine w_iconst (q := 3) (v := 0) d_Model_loseFar_2 rfl (by decide) ?_
  refine w_istore_n (q := 4) (ls' := [some (.ref 54), some (.int 0), some (.int 0)]) d_Model_loseFar_3 rfl (by decide) rfl rfl ?_
  obtain ⟨x9, hx, h⟩ := bnd h
  refine w_ls (ls' := [some (.ref 54), some (.int 0), some (.int 0)]) (And.intro rfl (And.intro rfl (And.intro rfl trivial))) ?_
  show PL_Model_loseFar_4 γ tt g _ _ (0, 0, g)
  refine lp_ok (kl_Model_loseFar_4) F _ x9 hx ?_
  unfold QL_Model_loseFar_4
  refine w_iload_n (q := 57) d_Model_loseFar_56 rfl rfl ?_
  cases h
  exact w_ireturn d_Model_loseFar_57 rfl rfl ⟨rfl, rfl, rfl, rfl⟩
def PL_Model_takeOver_64 (γ : GG) (tt : Bool) (g : Mem) (b : Nat × Nat) (Φ : PO) (s : Int32 × Mem) : Prop := WA γ M_Model_takeOver 4 64 [some (.ref 54), some (.int s.1)] [] SH s.2 tt b Φ
def QL_Model_takeOver_64 (γ : GG) (tt : Bool) (g : Mem) (b : Nat × Nat) (Φ : PO) (x : (Mem)) : Prop := WA γ M_Model_takeOver 4 83 [some (.ref 54), none] [] SH x tt b Φ
def st_Model_takeOver_64 (F : Nat) (g : Mem) (s : Int32 × Mem) : Option ((Int32 × Mem) ⊕ ((Mem))) := if 6 ≤ s.1 then some (.inr s.2) else (wr s.2 66 6 s.1 0).bind fun g9 => some (.inl (s.1 + 1, g9))
theorem kl_Model_takeOver_64 {γ : GG} {tt : Bool} {F : Nat} {g : Mem} {b : Nat × Nat} {Φ : PO} : ∀ (s : Int32 × Mem) (r : (Int32 × Mem) ⊕ ((Mem))), st_Model_takeOver_64 F g s = some r → RQ (PL_Model_takeOver_64 γ tt g b Φ) (QL_Model_takeOver_64 γ tt g b Φ) r → PL_Model_takeOver_64 γ tt g b Φ s := by
  intro s r h hr
  unfold st_Model_takeOver_64 at h
  unfold PL_Model_takeOver_64
  refine w_iload_n (q := 65) d_Model_takeOver_64 rfl rfl ?_
  refine w_bipush (q := 67) (v := 6) d_Model_takeOver_65 rfl (by decide) ?_
  by_cases c8 : 6 ≤ s.1
  · rw [if_pos c8] at h
    refine w_icmp_ge_t (q := 83) d_Model_takeOver_67 rfl c8 ?_
    cases h
    exact w_ls (by exact (And.intro rfl trivial)) hr
  · rw [if_neg c8] at h
    refine w_icmp_ge_f (q := 70) d_Model_takeOver_67 83 rfl rfl c8 ?_
    refine w_aload_n (q := 71) d_Model_takeOver_70 rfl rfl ?_
    refine w_get (q := 74) (ci := 12) (j := 22) d_Model_takeOver_71 rfl (by decide) fl_Model_78 (by decide) (by decide) s_54 rfl rfl ?_
    refine w_iload_n (q := 75) d_Model_takeOver_74 rfl rfl ?_
    refine w_iconst (q := 76) (v := 0) d_Model_takeOver_75 rfl (by decide) ?_
    obtain ⟨g9, hv, h⟩ := bnd h
    obtain ⟨hi, hv⟩ := wr_ok hv
    refine w_iast (q := 77) d_Model_takeOver_76 rfl a_66.2 a_66.1 hi hv ?_
    refine w_iinc (q := 80) (ls' := [some (.ref 54), some (.int (s.1 + 1))]) d_Model_takeOver_77 rfl (by decide) rfl rfl rfl ?_
    refine w_goto (q := 64) d_Model_takeOver_80 rfl ?_
    cases h
    exact w_ls (by exact (And.intro rfl (And.intro rfl trivial))) hr
def sp_Model_takeOver (F : Nat) (g : Mem) : Option (Mem) := (sp_Model_takeHalf F 58 12 g).bind fun v1 => (sp_Model_takeHalf F 59 12 v1).bind fun v2 => (sp_Model_takeHalf F 60 12 v2).bind fun v3 => (sp_Model_takeHalf F 61 12 v3).bind fun v4 => (sp_Model_takeHalf F 62 432 v4).bind fun v5 => (sp_Model_takeHalf F 63 1400 v5).bind fun v6 => (rd (mset (mset v6 54 24 0) 54 25 0) 58 12 4).bind fun v7 => (lpO (st_Model_takeOver_64 F g) F (0, (mset (mset (mset v6 54 24 0) 54 25 0) 54 26 v7))).bind fun x10 => (sp_Model_loseFar F x10).bind fun v11 => some (mset (mset (mset v11.2 54 27 0) 54 28 0) 54 35 0)
theorem ok_Model_takeOver {γ : GG} {tt : Bool} {F : Nat} {g : Mem} {res : Mem} (h : sp_Model_takeOver F g = some res) : CA γ M_Model_takeOver 4 [.ref 54] SH g tt (0, 0) (pV SH res tt) := by
  refine CA.of mw_Model_takeOver.1 1 rfl ?_
  show WA γ M_Model_takeOver 4 0 [some (.ref 54), none] [] SH g tt (0, 0) (pV SH res tt)
  unfold sp_Model_takeOver at h
  refine w_aload_n (q := 1) d_Model_takeOver_0 rfl rfl ?_
  refine w_get (q := 4) (ci := 12) (j := 4) d_Model_takeOver_1 rfl (by decide) fl_Model_51 (by decide) (by decide) s_54 rfl rfl ?_
  obtain ⟨v1, hv, h⟩ := bnd h
  refine w_callSv (q := 7) (M' := M_Model_takeHalf) (n' := 0) (As := [.ref 58]) (sh' := SH) (b1 := (0, 0)) d_Model_takeOver_4 rfl mw_Model_takeHalf (by decide) (by decide) ml_Model_282 rfl rfl (leb rfl) (bz _) (fun _ => rfl) (ok_Model_takeHalf a_58 hv) ?_
  refine w_aload_n (q := 8) d_Model_takeOver_7 rfl rfl ?_
  refine w_get (q := 11) (ci := 12) (j := 5) d_Model_takeOver_8 rfl (by decide) fl_Model_55 (by decide) (by decide) s_54 rfl rfl ?_
  obtain ⟨v2, hv, h⟩ := bnd h
  refine w_callSv (q := 14) (M' := M_Model_takeHalf) (n' := 0) (As := [.ref 59]) (sh' := SH) (b1 := (0, 0)) d_Model_takeOver_11 rfl mw_Model_takeHalf (by decide) (by decide) ml_Model_282 rfl rfl (leb rfl) (bz _) (fun _ => rfl) (ok_Model_takeHalf a_59 hv) ?_
  refine w_aload_n (q := 15) d_Model_takeOver_14 rfl rfl ?_
  refine w_get (q := 18) (ci := 12) (j := 6) d_Model_takeOver_15 rfl (by decide) fl_Model_57 (by decide) (by decide) s_54 rfl rfl ?_
  obtain ⟨v3, hv, h⟩ := bnd h
  refine w_callSv (q := 21) (M' := M_Model_takeHalf) (n' := 0) (As := [.ref 60]) (sh' := SH) (b1 := (0, 0)) d_Model_takeOver_18 rfl mw_Model_takeHalf (by decide) (by decide) ml_Model_282 rfl rfl (leb rfl) (bz _) (fun _ => rfl) (ok_Model_takeHalf a_60 hv) ?_
  refine w_aload_n (q := 22) d_Model_takeOver_21 rfl rfl ?_
  refine w_get (q := 25) (ci := 12) (j := 7) d_Model_takeOver_22 rfl (by decide) fl_Model_59 (by decide) (by decide) s_54 rfl rfl ?_
  obtain ⟨v4, hv, h⟩ := bnd h
  refine w_callSv (q := 28) (M' := M_Model_takeHalf) (n' := 0) (As := [.ref 61]) (sh' := SH) (b1 := (0, 0)) d_Model_takeOver_25 rfl mw_Model_takeHalf (by decide) (by decide) ml_Model_282 rfl rfl (leb rfl) (bz _) (fun _ => rfl) (ok_Model_takeHalf a_61 hv) ?_
  refine w_aload_n (q := 29) d_Model_takeOver_28 rfl rfl ?_
  refine w_get (q := 32) (ci := 12) (j := 8) d_Model_takeOver_29 rfl (by decide) fl_Model_62 (by decide) (by decide) s_54 rfl rfl ?_
  obtain ⟨v5, hv, h⟩ := bnd h
  refine w_callSv (q := 35) (M' := M_Model_takeHalf) (n' := 0) (As := [.ref 62]) (sh' := SH) (b1 := (0, 0)) d_Model_takeOver_32 rfl mw_Model_takeHalf (by decide) (by decide) ml_Model_282 rfl rfl (leb rfl) (bz _) (fun _ => rfl) (ok_Model_takeHalf a_62 hv) ?_
  refine w_aload_n (q := 36) d_Model_takeOver_35 rfl rfl ?_
  refine w_get (q := 39) (ci := 12) (j := 9) d_Model_takeOver_36 rfl (by decide) fl_Model_65 (by decide) (by decide) s_54 rfl rfl ?_
  obtain ⟨v6, hv, h⟩ := bnd h
  refine w_callSv (q := 42) (M' := M_Model_takeHalf) (n' := 0) (As := [.ref 63]) (sh' := SH) (b1 := (0, 0)) d_Model_takeOver_39 rfl mw_Model_takeHalf (by decide) (by decide) ml_Model_282 rfl rfl (leb rfl) (bz _) (fun _ => rfl) (ok_Model_takeHalf a_63 hv) ?_
  refine w_aload_n (q := 43) d_Model_takeOver_42 rfl rfl ?_
  refine w_iconst (q := 44) (v := 0) d_Model_takeOver_43 rfl (by decide) ?_
  refine w_put (q := 47) (ci := 12) (j := 24) d_Model_takeOver_44 rfl (by decide) fl_Model_286 (by decide) (by decide) s_54 rfl rfl rfl rfl rfl rfl ?_
  refine w_aload_n (q := 48) d_Model_takeOver_47 rfl rfl ?_
  refine w_iconst (q := 49) (v := 0) d_Model_takeOver_48 rfl (by decide) ?_
  refine w_put (q := 52) (ci := 12) (j := 25) d_Model_takeOver_49 rfl (by decide) fl_Model_289 (by decide) (by decide) s_54 rfl rfl rfl rfl rfl rfl ?_
  refine w_aload_n (q := 53) d_Model_takeOver_52 rfl rfl ?_
  refine w_aload_n (q := 54) d_Model_takeOver_53 rfl rfl ?_
  refine w_get (q := 57) (ci := 12) (j := 4) d_Model_takeOver_54 rfl (by decide) fl_Model_51 (by decide) (by decide) s_54 rfl rfl ?_
  refine w_iconst (q := 58) (v := 4) d_Model_takeOver_57 rfl (by decide) ?_
  obtain ⟨v7, hv, h⟩ := bnd h
  obtain ⟨hi, hv⟩ := rd_ok hv
  refine w_iald (q := 59) (t := 0) d_Model_takeOver_58 rfl a_58.2 a_58.1 hi rfl ?_
  rw [hv]
  refine w_put (q := 62) (ci := 12) (j := 26) d_Model_takeOver_59 rfl (by decide) fl_Model_121 (by decide) (by decide) s_54 rfl rfl rfl rfl rfl rfl ?_
  refine w_iconst (q := 63) (v := 0) d_Model_takeOver_62 rfl (by decide) ?_
  refine w_istore_n (q := 64) (ls' := [some (.ref 54), some (.int 0)]) d_Model_takeOver_63 rfl (by decide) rfl rfl ?_
  obtain ⟨x10, hx, h⟩ := bnd h
  refine w_ls (ls' := [some (.ref 54), some (.int 0)]) (And.intro rfl (And.intro rfl trivial)) ?_
  show PL_Model_takeOver_64 γ tt g _ _ (0, (mset (mset (mset v6 54 24 0) 54 25 0) 54 26 v7))
  refine lp_ok (kl_Model_takeOver_64) F _ x10 hx ?_
  unfold QL_Model_takeOver_64
  refine w_aload_n (q := 84) d_Model_takeOver_83 rfl rfl ?_
  obtain ⟨v11, hv, h⟩ := bnd h
  refine w_callVi (q := 87) (M' := M_Model_loseFar) (n' := 3) (k := 54) (As := []) (sh' := SH) (b1 := (0, 0)) d_Model_takeOver_84 rfl mw_Model_loseFar (by decide) (by decide) ml_Model_292 (by decide) s_54 (by decide) rfl rfl rfl (leb rfl) (bz _) (fun _ => rfl) (ok_Model_loseFar hv) ?_
  refine w_pop (q := 88) d_Model_takeOver_87 rfl rfl ?_
  refine w_aload_n (q := 89) d_Model_takeOver_88 rfl rfl ?_
  refine w_iconst (q := 90) (v := 0) d_Model_takeOver_89 rfl (by decide) ?_
  refine w_put (q := 93) (ci := 12) (j := 27) d_Model_takeOver_90 rfl (by decide) fl_Model_295 (by decide) (by decide) s_54 rfl rfl rfl rfl rfl rfl ?_
  refine w_aload_n (q := 94) d_Model_takeOver_93 rfl rfl ?_
  refine w_iconst (q := 95) (v := 0) d_Model_takeOver_94 rfl (by decide) ?_
  refine w_put (q := 98) (ci := 12) (j := 28) d_Model_takeOver_95 rfl (by decide) fl_Model_298 (by decide) (by decide) s_54 rfl rfl rfl rfl rfl rfl ?_
  refine w_aload_n (q := 99) d_Model_takeOver_98 rfl rfl ?_
  refine w_iconst (q := 100) (v := 0) d_Model_takeOver_99 rfl (by decide) ?_
  refine w_put (q := 103) (ci := 12) (j := 35) d_Model_takeOver_100 rfl (by decide) fl_Model_301 (by decide) (by decide) s_54 rfl rfl rfl rfl rfl rfl ?_
  cases h
  exact w_return d_Model_takeOver_103 rfl ⟨rfl, rfl, rfl, rfl⟩
