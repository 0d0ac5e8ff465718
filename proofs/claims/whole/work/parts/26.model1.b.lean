/-! functions and theorems of 26.model1 (by program: wip/gen/main.py) -/
def sp_Model_thrown (g : Mem) : Option (Int32) := some (g 54 3)
theorem ok_Model_thrown {γ : GG} {tt : Bool} {g : Mem} {res : Int32} (h : sp_Model_thrown g = some res) : CA γ M_Model_thrown 0 [.ref 54] SH g tt (0, 0) (pI SH res g tt) := by
  refine CA.of mw_Model_thrown.1 0 rfl ?_
  show WA γ M_Model_thrown 0 0 [some (.ref 54)] [] SH g tt (0, 0) (pI SH res g tt)
  unfold sp_Model_thrown at h
  refine w_aload_n (q := 1) d_Model_thrown_0 rfl rfl ?_
  refine w_get (q := 4) (ci := 12) (j := 3) d_Model_thrown_1 rfl (by decide) fl_Model_114 (by decide) (by decide) s_54 rfl rfl ?_
  cases h
  exact w_ireturn d_Model_thrown_4 rfl rfl ⟨rfl, rfl, rfl, rfl⟩
def sp_Model_fail (p0 : Int32) (g : Mem) : Option (Int32 × Mem) := some (0, (mset g 54 3 p0))
theorem ok_Model_fail {γ : GG} {tt : Bool} {p0 : Int32} {g : Mem} {res : Int32 × Mem} (h : sp_Model_fail p0 g = some res) : CA γ M_Model_fail 0 [.ref 54, .int p0] SH g tt (0, 0) (pI SH res.1 res.2 tt) := by
  refine CA.of mw_Model_fail.1 0 rfl ?_
  show WA γ M_Model_fail 0 0 [some (.ref 54), some (.int p0)] [] SH g tt (0, 0) (pI SH res.1 res.2 tt)
  unfold sp_Model_fail at h
  refine w_aload_n (q := 1) d_Model_fail_0 rfl rfl ?_
  refine w_iload_n (q := 2) d_Model_fail_1 rfl rfl ?_
  refine w_put (q := 5) (ci := 12) (j := 3) d_Model_fail_2 rfl (by decide) fl_Model_114 (by decide) (by decide) s_54 rfl rfl rfl rfl rfl rfl ?_
  refine w_iconst (q := 6) (v := 0) d_Model_fail_5 rfl (by decide) ?_
  cases h
  exact w_ireturn d_Model_fail_6 rfl rfl ⟨rfl, rfl, rfl, rfl⟩
def sp_Model_failing (p0 : Int32) (g : Mem) : Option (Int32 × Mem) := some (0, (mset g 54 3 p0))
theorem ok_Model_failing {γ : GG} {tt : Bool} {p0 : Int32} {g : Mem} {res : Int32 × Mem} (h : sp_Model_failing p0 g = some res) : CA γ M_Model_failing 0 [.ref 54, .int p0] SH g tt (0, 0) (pI SH res.1 res.2 tt) := by
  refine CA.of mw_Model_failing.1 0 rfl ?_
  show WA γ M_Model_failing 0 0 [some (.ref 54), some (.int p0)] [] SH g tt (0, 0) (pI SH res.1 res.2 tt)
  unfold sp_Model_failing at h
  refine w_aload_n (q := 1) d_Model_failing_0 rfl rfl ?_
  refine w_iload_n (q := 2) d_Model_failing_1 rfl rfl ?_
  refine w_put (q := 5) (ci := 12) (j := 3) d_Model_failing_2 rfl (by decide) fl_Model_114 (by decide) (by decide) s_54 rfl rfl rfl rfl rfl rfl ?_
  refine w_iconst (q := 6) (v := 0) d_Model_failing_5 rfl (by decide) ?_
  cases h
  exact w_ireturn d_Model_failing_6 rfl rfl ⟨rfl, rfl, rfl, rfl⟩
def sp_Model_isIn (p0 : Int64) (p1 : Int64) (p2 : Int64) (g : Mem) : Option (Int32) := if (lg_cmp p0 p1) < 0 then some 0 else if 0 < (lg_cmp p0 p2) then some 0 else some 1
theorem ok_Model_isIn {γ : GG} {sh : List Sh} {tt : Bool} {p0 : Int64} {p1 : Int64} {p2 : Int64} {g : Mem} {res : Int32} (h : sp_Model_isIn p0 p1 p2 g = some res) : CA γ M_Model_isIn 0 [.long (p0), .long (p1), .long (p2)] sh g tt (0, 0) (pI sh res g tt) := by
  refine CA.of mw_Model_isIn.1 0 rfl ?_
  show WA γ M_Model_isIn 0 0 [some (.long (p0)), none, some (.long (p1)), none, some (.long (p2)), none] [] sh g tt (0, 0) (pI sh res g tt)
  unfold sp_Model_isIn at h
  refine w_lload_n (q := 1) d_Model_isIn_0 rfl rfl ?_
  refine w_lload_n (q := 2) d_Model_isIn_1 rfl rfl ?_
  refine w_lcmp (q := 3) d_Model_isIn_2 rfl ?_
  by_cases c1 : (lg_cmp p0 p1) < 0
  · rw [if_pos c1] at h
    refine w_if_lt_t (q := 17) d_Model_isIn_3 rfl c1 ?_
    refine w_iconst (q := 18) (v := 0) d_Model_isIn_17 rfl (by decide) ?_
    cases h
    exact w_ireturn d_Model_isIn_18 rfl rfl ⟨rfl, rfl, rfl, rfl⟩
  · rw [if_neg c1] at h
    refine w_if_lt_f (q := 6) d_Model_isIn_3 17 rfl rfl c1 ?_
    refine w_lload_n (q := 7) d_Model_isIn_6 rfl rfl ?_
    refine w_lload (q := 9) d_Model_isIn_7 rfl rfl ?_
    refine w_lcmp (q := 10) d_Model_isIn_9 rfl ?_
    by_cases c2 : 0 < (lg_cmp p0 p2)
    · rw [if_pos c2] at h
      refine w_if_gt_t (q := 17) d_Model_isIn_10 rfl c2 ?_
      refine w_iconst (q := 18) (v := 0) d_Model_isIn_17 rfl (by decide) ?_
      cases h
      exact w_ireturn d_Model_isIn_18 rfl rfl ⟨rfl, rfl, rfl, rfl⟩
    · rw [if_neg c2] at h
      refine w_if_gt_f (q := 13) d_Model_isIn_10 17 rfl rfl c2 ?_
      refine w_iconst (q := 14) (v := 1) d_Model_isIn_13 rfl (by decide) ?_
      refine w_goto (q := 18) d_Model_isIn_14 rfl ?_
      cases h
      exact w_ireturn d_Model_isIn_18 rfl rfl ⟨rfl, rfl, rfl, rfl⟩
def sp_Model_isOf (p0 : Int32) (p1 : Int32) (g : Mem) : Option (Int32) := if ((p0 >>> (p1 &&& 31)) &&& 1) = 1 then some 1 else some 0
theorem ok_Model_isOf {γ : GG} {sh : List Sh} {tt : Bool} {p0 : Int32} {p1 : Int32} {g : Mem} {res : Int32} (h : sp_Model_isOf p0 p1 g = some res) : CA γ M_Model_isOf 0 [.int p0, .int p1] sh g tt (0, 0) (pI sh res g tt) := by
  refine CA.of mw_Model_isOf.1 0 rfl ?_
  show WA γ M_Model_isOf 0 0 [some (.int p0), some (.int p1)] [] sh g tt (0, 0) (pI sh res g tt)
  unfold sp_Model_isOf at h
  refine w_iload_n (q := 1) d_Model_isOf_0 rfl rfl ?_
  refine w_iload_n (q := 2) d_Model_isOf_1 rfl rfl ?_
  refine w_ishr (q := 3) d_Model_isOf_2 rfl ?_
  refine w_iconst (q := 4) (v := 1) d_Model_isOf_3 rfl (by decide) ?_
  refine w_iand (q := 5) d_Model_isOf_4 rfl ?_
  refine w_iconst (q := 6) (v := 1) d_Model_isOf_5 rfl (by decide) ?_
  by_cases c1 : ((p0 >>> (p1 &&& 31)) &&& 1) = 1
  · rw [if_pos c1] at h
    refine w_icmp_ne_f (q := 9) d_Model_isOf_6 13 rfl rfl c1 ?_
    refine w_iconst (q := 10) (v := 1) d_Model_isOf_9 rfl (by decide) ?_
    refine w_goto (q := 14) d_Model_isOf_10 rfl ?_
    cases h
    exact w_ireturn d_Model_isOf_14 rfl rfl ⟨rfl, rfl, rfl, rfl⟩
  · rw [if_neg c1] at h
    refine w_icmp_ne_t (q := 13) d_Model_isOf_6 rfl c1 ?_
    refine w_iconst (q := 14) (v := 0) d_Model_isOf_13 rfl (by decide) ?_
    cases h
    exact w_ireturn d_Model_isOf_14 rfl rfl ⟨rfl, rfl, rfl, rfl⟩
def sp_Model_isMonk (p0 : Int32) (g : Mem) : Option (Int32) := (rd g 58 12 0).bind fun v1 => (sp_Model_isIn p0.toInt64 0 ((v1 - 1).toInt64) g).bind fun v2 => (bl v2).bind fun v3 => some v3
theorem ok_Model_isMonk {γ : GG} {tt : Bool} {p0 : Int32} {g : Mem} {res : Int32} (h : sp_Model_isMonk p0 g = some res) : CA γ M_Model_isMonk 1 [.ref 54, .int p0] SH g tt (0, 0) (pI SH res g tt) := by
  refine CA.of mw_Model_isMonk.1 0 rfl ?_
  show WA γ M_Model_isMonk 1 0 [some (.ref 54), some (.int p0)] [] SH g tt (0, 0) (pI SH res g tt)
  unfold sp_Model_isMonk at h
  refine w_iload_n (q := 1) d_Model_isMonk_0 rfl rfl ?_
  refine w_i2l (q := 2) d_Model_isMonk_1 rfl ?_
  refine w_lconst (q := 3) (v := 0) d_Model_isMonk_2 rfl (by decide) ?_
  refine w_aload_n (q := 4) d_Model_isMonk_3 rfl rfl ?_
  refine w_get (q := 7) (ci := 12) (j := 4) d_Model_isMonk_4 rfl (by decide) fl_Model_51 (by decide) (by decide) s_54 rfl rfl ?_
  refine w_iconst (q := 8) (v := 0) d_Model_isMonk_7 rfl (by decide) ?_
  obtain ⟨v1, hv, h⟩ := bnd h
  obtain ⟨hi, hv⟩ := rd_ok hv
  refine w_iald (q := 9) (t := 0) d_Model_isMonk_8 rfl a_58.2 a_58.1 hi rfl ?_
  rw [hv]
  refine w_iconst (q := 10) (v := 1) d_Model_isMonk_9 rfl (by decide) ?_
  refine w_isub (q := 11) d_Model_isMonk_10 rfl ?_
  refine w_i2l (q := 12) d_Model_isMonk_11 rfl ?_
  obtain ⟨v2, hv, h⟩ := bnd h
  refine w_callSi (q := 15) (M' := M_Model_isIn) (n' := 0) (As := [.long (p0.toInt64), .long (0), .long ((v1 - 1).toInt64)]) (sh' := SH) (b1 := (0, 0)) d_Model_isMonk_12 rfl mw_Model_isIn (by decide) (by decide) ml_Model_117 rfl rfl (leb rfl) (bz _) (fun _ => rfl) (ok_Model_isIn hv) ?_
  obtain ⟨v3, hv, h⟩ := bnd h
  obtain ⟨hv, hn⟩ := bl_ok hv
  rw [hv] at h
  cases h
  exact w_ireturn d_Model_isMonk_15 rfl hn ⟨rfl, rfl, rfl, rfl⟩
def sp_Model_isEntry (p0 : Int32) (g : Mem) : Option (Int32) := (sp_Model_isIn p0.toInt64 0 (((g 54 26) - 1).toInt64) g).bind fun v1 => (bl v1).bind fun v2 => some v2
theorem ok_Model_isEntry {γ : GG} {tt : Bool} {p0 : Int32} {g : Mem} {res : Int32} (h : sp_Model_isEntry p0 g = some res) : CA γ M_Model_isEntry 1 [.ref 54, .int p0] SH g tt (0, 0) (pI SH res g tt) := by
  refine CA.of mw_Model_isEntry.1 0 rfl ?_
  show WA γ M_Model_isEntry 1 0 [some (.ref 54), some (.int p0)] [] SH g tt (0, 0) (pI SH res g tt)
  unfold sp_Model_isEntry at h
  refine w_iload_n (q := 1) d_Model_isEntry_0 rfl rfl ?_
  refine w_i2l (q := 2) d_Model_isEntry_1 rfl ?_
  refine w_lconst (q := 3) (v := 0) d_Model_isEntry_2 rfl (by decide) ?_
  refine w_aload_n (q := 4) d_Model_isEntry_3 rfl rfl ?_
  refine w_get (q := 7) (ci := 12) (j := 26) d_Model_isEntry_4 rfl (by decide) fl_Model_121 (by decide) (by decide) s_54 rfl rfl ?_
  refine w_iconst (q := 8) (v := 1) d_Model_isEntry_7 rfl (by decide) ?_
  refine w_isub (q := 9) d_Model_isEntry_8 rfl ?_
  refine w_i2l (q := 10) d_Model_isEntry_9 rfl ?_
  obtain ⟨v1, hv, h⟩ := bnd h
  refine w_callSi (q := 13) (M' := M_Model_isIn) (n' := 0) (As := [.long (p0.toInt64), .long (0), .long (((g 54 26) - 1).toInt64)]) (sh' := SH) (b1 := (0, 0)) d_Model_isEntry_10 rfl mw_Model_isIn (by decide) (by decide) ml_Model_117 rfl rfl (leb rfl) (bz _) (fun _ => rfl) (ok_Model_isIn hv) ?_
  obtain ⟨v2, hv, h⟩ := bnd h
  obtain ⟨hv, hn⟩ := bl_ok hv
  rw [hv] at h
  cases h
  exact w_ireturn d_Model_isEntry_13 rfl hn ⟨rfl, rfl, rfl, rfl⟩
def sp_Model_isAbout (p0 : Int32) (g : Mem) : Option (Int32) := (sp_Model_isIn p0.toInt64 0 7 g).bind fun v1 => (bl v1).bind fun v2 => some v2
theorem ok_Model_isAbout {γ : GG} {sh : List Sh} {tt : Bool} {p0 : Int32} {g : Mem} {res : Int32} (h : sp_Model_isAbout p0 g = some res) : CA γ M_Model_isAbout 1 [.int p0] sh g tt (0, 0) (pI sh res g tt) := by
  refine CA.of mw_Model_isAbout.1 0 rfl ?_
  show WA γ M_Model_isAbout 1 0 [some (.int p0)] [] sh g tt (0, 0) (pI sh res g tt)
  unfold sp_Model_isAbout at h
  refine w_iload_n (q := 1) d_Model_isAbout_0 rfl rfl ?_
  refine w_i2l (q := 2) d_Model_isAbout_1 rfl ?_
  refine w_lconst (q := 3) (v := 0) d_Model_isAbout_2 rfl (by decide) ?_
  refine w_ldc2 (q := 6) d_Model_isAbout_3 rfl lo_Model_124 ?_
  obtain ⟨v1, hv, h⟩ := bnd h
  refine w_callSi (q := 9) (M' := M_Model_isIn) (n' := 0) (As := [.long (p0.toInt64), .long (0), .long (7)]) (sh' := sh) (b1 := (0, 0)) d_Model_isAbout_6 rfl mw_Model_isIn (by decide) (by decide) ml_Model_117 rfl rfl (leb rfl) (bz _) (fun _ => rfl) (ok_Model_isIn hv) ?_
  obtain ⟨v2, hv, h⟩ := bnd h
  obtain ⟨hv, hn⟩ := bl_ok hv
  rw [hv] at h
  cases h
  exact w_ireturn d_Model_isAbout_9 rfl hn ⟨rfl, rfl, rfl, rfl⟩
def PL_Model_feed_23 (γ : GG) (tt : Bool) (p0 : Int32) (p1 : Int32) (p2 : Int32) (p3 : Int32) (p4 : Int32) (g : Mem) (k1 : Int32) (k2 : Int32) (k3 : Int32) (k4 : Int32) (k5 : Int32) (b : Nat × Nat) (Φ : PO) (s : Int32 × Mem) : Prop := WA γ M_Model_feed 0 23 [some (.ref 54), some (.int k1), some (.int k2), some (.int k3), some (.int k4), some (.int k5), some (.int s.1), none] [] SH s.2 tt b Φ
def QL_Model_feed_23 (γ : GG) (tt : Bool) (p0 : Int32) (p1 : Int32) (p2 : Int32) (p3 : Int32) (p4 : Int32) (g : Mem) (k1 : Int32) (k2 : Int32) (k3 : Int32) (k4 : Int32) (k5 : Int32) (b : Nat × Nat) (Φ : PO) (x : (Mem)) : Prop := WA γ M_Model_feed 0 120 [some (.ref 54), none, none, none, none, none, none, none] [] SH x tt b Φ
def sp_Model_feed_j76_23 (F : Nat) (p0 : Int32) (p1 : Int32) (p2 : Int32) (p3 : Int32) (p4 : Int32) (k1 : Int32) (k2 : Int32) (k3 : Int32) (k4 : Int32) (k5 : Int32) (g : Mem) (m0 : Mem) (x6 : Int32) (y0 : Int32) : Option ((Int32 × Mem) ⊕ ((Mem))) := (rm x6 4).bind fun v7 => (wr m0 65 700 (m0 54 12) ((y0 >>> ((24 - (8 * v7)) &&& 31)) &&& 255)).bind fun g8 => some (.inl (x6 + 1, (mset g8 54 12 ((g8 54 12) + 1))))
theorem ok_Model_feed_j76_23 {γ : GG} {tt : Bool} {F : Nat} {p0 : Int32} {p1 : Int32} {p2 : Int32} {p3 : Int32} {p4 : Int32} {k1 : Int32} {k2 : Int32} {k3 : Int32} {k4 : Int32} {k5 : Int32} {g : Mem} {m0 : Mem} {x6 : Int32} {y0 : Int32} {b : Nat × Nat} {Φ : PO} {r : (Int32 × Mem) ⊕ ((Mem))} (h : sp_Model_feed_j76_23 F p0 p1 p2 p3 p4 k1 k2 k3 k4 k5 g m0 x6 y0 = some r) (hr : RQ (PL_Model_feed_23 γ tt p0 p1 p2 p3 p4 g k1 k2 k3 k4 k5 b Φ) (QL_Model_feed_23 γ tt p0 p1 p2 p3 p4 g k1 k2 k3 k4 k5 b Φ) r) : WA γ M_Model_feed 0 76 [some (.ref 54), some (.int k1), some (.int k2), some (.int k3), some (.int k4), some (.int k5), some (.int x6), none] [.int y0] SH m0 tt b Φ := by
  unfold sp_Model_feed_j76_23 at h
  refine w_istore (q := 78) (ls' := [some (.ref 54), some (.int k1), some (.int k2), some (.int k3), some (.int k4), some (.int k5), some (.int x6), some (.int y0)]) d_Model_feed_76 rfl (by decide) rfl rfl ?_
  refine w_aload_n (q := 79) d_Model_feed_78 rfl rfl ?_
  refine w_get (q := 82) (ci := 12) (j := 11) d_Model_feed_79 rfl (by decide) fl_Model_71 (by decide) (by decide) s_54 rfl rfl ?_
  refine w_aload_n (q := 83) d_Model_feed_82 rfl rfl ?_
  refine w_get (q := 86) (ci := 12) (j := 12) d_Model_feed_83 rfl (by decide) fl_Model_126 (by decide) (by decide) s_54 rfl rfl ?_
  refine w_iload (q := 88) d_Model_feed_86 rfl rfl ?_
  refine w_bipush (q := 90) (v := 24) d_Model_feed_88 rfl (by decide) ?_
  refine w_bipush (q := 92) (v := 8) d_Model_feed_90 rfl (by decide) ?_
  refine w_iload (q := 94) d_Model_feed_92 rfl rfl ?_
  refine w_iconst (q := 95) (v := 4) d_Model_feed_94 rfl (by decide) ?_
  obtain ⟨v7, hv, h⟩ := bnd h
  obtain ⟨hz, hv⟩ := rm_ok hv
  refine w_irem (q := 96) d_Model_feed_95 rfl hz ?_
  rw [hv]
  refine w_imul (q := 97) d_Model_feed_96 rfl ?_
  refine w_isub (q := 98) d_Model_feed_97 rfl ?_
  refine w_ishr (q := 99) d_Model_feed_98 rfl ?_
  refine w_sipush (q := 102) (v := 255) d_Model_feed_99 rfl (by decide) ?_
  refine w_iand (q := 103) d_Model_feed_102 rfl ?_
  obtain ⟨g8, hv, h⟩ := bnd h
  obtain ⟨hi, hv⟩ := wr_ok hv
  refine w_iast (q := 104) d_Model_feed_103 rfl a_65.2 a_65.1 hi hv ?_
  refine w_aload_n (q := 105) d_Model_feed_104 rfl rfl ?_
  refine w_dup (q := 106) d_Model_feed_105 rfl rfl ?_
  refine w_get (q := 109) (ci := 12) (j := 12) d_Model_feed_106 rfl (by decide) fl_Model_126 (by decide) (by decide) s_54 rfl rfl ?_
  refine w_iconst (q := 110) (v := 1) d_Model_feed_109 rfl (by decide) ?_
  refine w_iadd (q := 111) d_Model_feed_110 rfl ?_
  refine w_put (q := 114) (ci := 12) (j := 12) d_Model_feed_111 rfl (by decide) fl_Model_126 (by decide) (by decide) s_54 rfl rfl rfl rfl rfl rfl ?_
  refine w_iinc (q := 117) (ls' := [some (.ref 54), some (.int k1), some (.int k2), some (.int k3), some (.int k4), some (.int k5), some (.int (x6 + 1)), some (.int y0)]) d_Model_feed_114 rfl (by decide) rfl rfl rfl ?_
  refine w_goto (q := 23) d_Model_feed_117 rfl ?_
  cases h
  exact w_ls (by exact (And.intro rfl (And.intro rfl (And.intro rfl (And.intro rfl (And.intro rfl (And.intro rfl (And.intro rfl trivial)))))))) hr
def st_Model_feed_23 (F : Nat) (p0 : Int32) (p1 : Int32) (p2 : Int32) (p3 : Int32) (p4 : Int32) (g : Mem) (k1 : Int32) (k2 : Int32) (k3 : Int32) (k4 : Int32) (k5 : Int32) (s : Int32 × Mem) : Option ((Int32 × Mem) ⊕ ((Mem))) := if 20 ≤ s.1 then some (.inr s.2) else if 4 ≤ s.1 then if 8 ≤ s.1 then if 12 ≤ s.1 then if 16 ≤ s.1 then sp_Model_feed_j76_23 F p0 p1 p2 p3 p4 k1 k2 k3 k4 k5 g s.2 s.1 k5 else sp_Model_feed_j76_23 F p0 p1 p2 p3 p4 k1 k2 k3 k4 k5 g s.2 s.1 k4 else sp_Model_feed_j76_23 F p0 p1 p2 p3 p4 k1 k2 k3 k4 k5 g s.2 s.1 k3 else sp_Model_feed_j76_23 F p0 p1 p2 p3 p4 k1 k2 k3 k4 k5 g s.2 s.1 k2 else sp_Model_feed_j76_23 F p0 p1 p2 p3 p4 k1 k2 k3 k4 k5 g s.2 s.1 k1
theorem kl_Model_feed_23 {γ : GG} {tt : Bool} {F : Nat} {p0 : Int32} {p1 : Int32} {p2 : Int32} {p3 : Int32} {p4 : Int32} {g : Mem} {k1 : Int32} {k2 : Int32} {k3 : Int32} {k4 : Int32} {k5 : Int32} {b : Nat × Nat} {Φ : PO} : ∀ (s : Int32 × Mem) (r : (Int32 × Mem) ⊕ ((Mem))), st_Model_feed_23 F p0 p1 p2 p3 p4 g k1 k2 k3 k4 k5 s = some r → RQ (PL_Model_feed_23 γ tt p0 p1 p2 p3 p4 g k1 k2 k3 k4 k5 b Φ) (QL_Model_feed_23 γ tt p0 p1 p2 p3 p4 g k1 k2 k3 k4 k5 b Φ) r → PL_Model_feed_23 γ tt p0 p1 p2 p3 p4 g k1 k2 k3 k4 k5 b Φ s := by
  intro s r h hr
  unfold st_Model_feed_23 at h
  unfold PL_Model_feed_23
  refine w_iload (q := 25) d_Model_feed_23 rfl rfl ?_
  refine w_bipush (q := 27) (v := 20) d_Model_feed_25 rfl (by decide) ?_
  by_cases c2 : 20 ≤ s.1
  · rw [if_pos c2] at h
    refine w_icmp_ge_t (q := 120) d_Model_feed_27 rfl c2 ?_
    cases h
    exact w_ls (by exact (And.intro rfl trivial)) hr
  · rw [if_neg c2] at h
    refine w_icmp_ge_f (q := 30) d_Model_feed_27 120 rfl rfl c2 ?_
    refine w_iload (q := 32) d_Model_feed_30 rfl rfl ?_
    refine w_iconst (q := 33) (v := 4) d_Model_feed_32 rfl (by decide) ?_
    by_cases c3 : 4 ≤ s.1
    · rw [if_pos c3] at h
      refine w_icmp_ge_t (q := 40) d_Model_feed_33 rfl c3 ?_
      refine w_iload (q := 42) d_Model_feed_40 rfl rfl ?_
      refine w_bipush (q := 44) (v := 8) d_Model_feed_42 rfl (by decide) ?_
      by_cases c4 : 8 ≤ s.1
      · rw [if_pos c4] at h
        refine w_icmp_ge_t (q := 51) d_Model_feed_44 rfl c4 ?_
        refine w_iload (q := 53) d_Model_feed_51 rfl rfl ?_
        refine w_bipush (q := 55) (v := 12) d_Model_feed_53 rfl (by decide) ?_
        by_cases c5 : 12 ≤ s.1
        · rw [if_pos c5] at h
          refine w_icmp_ge_t (q := 62) d_Model_feed_55 rfl c5 ?_
          refine w_iload (q := 64) d_Model_feed_62 rfl rfl ?_
          refine w_bipush (q := 66) (v := 16) d_Model_feed_64 rfl (by decide) ?_
          by_cases c6 : 16 ≤ s.1
          · rw [if_pos c6] at h
            refine w_icmp_ge_t (q := 74) d_Model_feed_66 rfl c6 ?_
            refine w_iload (q := 76) d_Model_feed_74 rfl rfl ?_
            refine w_ls (ls' := [some (.ref 54), some (.int k1), some (.int k2), some (.int k3), some (.int k4), some (.int k5), some (.int s.1), none]) (And.intro rfl (And.intro rfl (And.intro rfl (And.intro rfl (And.intro rfl (And.intro rfl (And.intro rfl trivial))))))) ?_
            exact ok_Model_feed_j76_23 h hr
          · rw [if_neg c6] at h
            refine w_icmp_ge_f (q := 69) d_Model_feed_66 74 rfl rfl c6 ?_
            refine w_iload (q := 71) d_Model_feed_69 rfl rfl ?_
            refine w_goto (q := 76) d_Model_feed_71 rfl ?_
            refine w_ls (ls' := [some (.ref 54), some (.int k1), some (.int k2), some (.int k3), some (.int k4), some (.int k5), some (.int s.1), none]) (And.intro rfl (And.intro rfl (And.intro rfl (And.intro rfl (And.intro rfl (And.intro rfl (And.intro rfl trivial))))))) ?_
            exact ok_Model_feed_j76_23 h hr
        · rw [if_neg c5] at h
          refine w_icmp_ge_f (q := 58) d_Model_feed_55 62 rfl rfl c5 ?_
          refine w_iload_n (q := 59) d_Model_feed_58 rfl rfl ?_
          refine w_goto (q := 76) d_Model_feed_59 rfl ?_
          refine w_ls (ls' := [some (.ref 54), some (.int k1), some (.int k2), some (.int k3), some (.int k4), some (.int k5), some (.int s.1), none]) (And.intro rfl (And.intro rfl (And.intro rfl (And.intro rfl (And.intro rfl (And.intro rfl (And.intro rfl trivial))))))) ?_
          exact ok_Model_feed_j76_23 h hr
      · rw [if_neg c4] at h
        refine w_icmp_ge_f (q := 47) d_Model_feed_44 51 rfl rfl c4 ?_
        refine w_iload_n (q := 48) d_Model_feed_47 rfl rfl ?_
        refine w_goto (q := 76) d_Model_feed_48 rfl ?_
        refine w_ls (ls' := [some (.ref 54), some (.int k1), some (.int k2), some (.int k3), some (.int k4), some (.int k5), some (.int s.1), none]) (And.intro rfl (And.intro rfl (And.intro rfl (And.intro rfl (And.intro rfl (And.intro rfl (And.intro rfl trivial))))))) ?_
        exact ok_Model_feed_j76_23 h hr
    · rw [if_neg c3] at h
      refine w_icmp_ge_f (q := 36) d_Model_feed_33 40 rfl rfl c3 ?_
      refine w_iload_n (q := 37) d_Model_feed_36 rfl rfl ?_
      refine w_goto (q := 76) d_Model_feed_37 rfl ?_
      refine w_ls (ls' := [some (.ref 54), some (.int k1), some (.int k2), some (.int k3), some (.int k4), some (.int k5), some (.int s.1), none]) (And.intro rfl (And.intro rfl (And.intro rfl (And.intro rfl (And.intro rfl (And.intro rfl (And.intro rfl trivial))))))) ?_
      exact ok_Model_feed_j76_23 h hr
def sp_Model_feed (F : Nat) (p0 : Int32) (p1 : Int32) (p2 : Int32) (p3 : Int32) (p4 : Int32) (g : Mem) : Option (Int32 × Mem) := if (((mset g 54 3 0) 54 12) + 20) ≤ 700 then (lpO (st_Model_feed_23 F p0 p1 p2 p3 p4 g p0 p1 p2 p3 p4) F (0, (mset g 54 3 0))).bind fun x9 => some (x9 54 12, x9) else some ((-1), (mset g 54 3 0))
theorem ok_Model_feed {γ : GG} {tt : Bool} {F : Nat} {p0 : Int32} {p1 : Int32} {p2 : Int32} {p3 : Int32} {p4 : Int32} {g : Mem} {res : Int32 × Mem} (h : sp_Model_feed F p0 p1 p2 p3 p4 g = some res) : CA γ M_Model_feed 0 [.ref 54, .int p0, .int p1, .int p2, .int p3, .int p4] SH g tt (0, 0) (pI SH res.1 res.2 tt) := by
  refine CA.of mw_Model_feed.1 2 rfl ?_
  show WA γ M_Model_feed 0 0 [some (.ref 54), some (.int p0), some (.int p1), some (.int p2), some (.int p3), some (.int p4), none, none] [] SH g tt (0, 0) (pI SH res.1 res.2 tt)
  unfold sp_Model_feed at h
  refine w_aload_n (q := 1) d_Model_feed_0 rfl rfl ?_
  refine w_iconst (q := 2) (v := 0) d_Model_feed_1 rfl (by decide) ?_
  refine w_put (q := 5) (ci := 12) (j := 3) d_Model_feed_2 rfl (by decide) fl_Model_114 (by decide) (by decide) s_54 rfl rfl rfl rfl rfl rfl ?_
  refine w_aload_n (q := 6) d_Model_feed_5 rfl rfl ?_
  refine w_get (q := 9) (ci := 12) (j := 12) d_Model_feed_6 rfl (by decide) fl_Model_126 (by decide) (by decide) s_54 rfl rfl ?_
  refine w_bipush (q := 11) (v := 20) d_Model_feed_9 rfl (by decide) ?_
  refine w_iadd (q := 12) d_Model_feed_11 rfl ?_
  refine w_sipush (q := 15) (v := 700) d_Model_feed_12 rfl (by decide) ?_
  by_cases c1 : (((mset g 54 3 0) 54 12) + 20) ≤ 700
  · rw [if_pos c1] at h
    refine w_icmp_le_t (q := 20) d_Model_feed_15 rfl c1 ?_
    refine w_iconst (q := 21) (v := 0) d_Model_feed_20 rfl (by decide) ?_
    refine w_istore (q := 23) (ls' := [some (.ref 54), some (.int p0), some (.int p1), some (.int p2), some (.int p3), some (.int p4), some (.int 0), none]) d_Model_feed_21 rfl (by decide) rfl rfl ?_
    obtain ⟨x9, hx, h⟩ := bnd h
    refine w_ls (ls' := [some (.ref 54), some (.int p0), some (.int p1), some (.int p2), some (.int p3), some (.int p4), some (.int 0), none]) (And.intro rfl (And.intro rfl (And.intro rfl (And.intro rfl (And.intro rfl (And.intro rfl (And.intro rfl trivial))))))) ?_
    show PL_Model_feed_23 γ tt p0 p1 p2 p3 p4 g p0 p1 p2 p3 p4 _ _ (0, (mset g 54 3 0))
    refine lp_ok (kl_Model_feed_23) F _ x9 hx ?_
    unfold QL_Model_feed_23
    refine w_aload_n (q := 121) d_Model_feed_120 rfl rfl ?_
    refine w_get (q := 124) (ci := 12) (j := 12) d_Model_feed_121 rfl (by decide) fl_Model_126 (by decide) (by decide) s_54 rfl rfl ?_
    cases h
    exact w_ireturn d_Model_feed_124 rfl rfl ⟨rfl, rfl, rfl, rfl⟩
  · rw [if_neg c1] at h
    refine w_icmp_le_f (q := 18) d_Model_feed_15 20 rfl rfl c1 ?_
    refine w_iconst (q := 19) (v := (-1)) d_Model_feed_18 rfl (by decide) ?_
    cases h
    exact w_ireturn d_Model_feed_19 rfl rfl ⟨rfl, rfl, rfl, rfl⟩
def sp_Model_byteAt (p0 : Int32) (g : Mem) : Option (Int32) := if (g 54 14) ≤ p0 then some (-1) else (rd g 65 700 p0).bind fun v2 => some v2
theorem ok_Model_byteAt {γ : GG} {tt : Bool} {p0 : Int32} {g : Mem} {res : Int32} (h : sp_Model_byteAt p0 g = some res) : CA γ M_Model_byteAt 0 [.ref 54, .int p0] SH g tt (0, 0) (pI SH res g tt) := by
  refine CA.of mw_Model_byteAt.1 0 rfl ?_
  show WA γ M_Model_byteAt 0 0 [some (.ref 54), some (.int p0)] [] SH g tt (0, 0) (pI SH res g tt)
  unfold sp_Model_byteAt at h
  refine w_iload_n (q := 1) d_Model_byteAt_0 rfl rfl ?_
  refine w_aload_n (q := 2) d_Model_byteAt_1 rfl rfl ?_
  refine w_get (q := 5) (ci := 12) (j := 14) d_Model_byteAt_2 rfl (by decide) fl_Model_129 (by decide) (by decide) s_54 rfl rfl ?_
  by_cases c1 : (g 54 14) ≤ p0
  · rw [if_pos c1] at h
    refine w_icmp_ge_t (q := 17) d_Model_byteAt_5 rfl c1 ?_
    refine w_iconst (q := 18) (v := (-1)) d_Model_byteAt_17 rfl (by decide) ?_
    cases h
    exact w_ireturn d_Model_byteAt_18 rfl rfl ⟨rfl, rfl, rfl, rfl⟩
  · rw [if_neg c1] at h
    refine w_icmp_ge_f (q := 8) d_Model_byteAt_5 17 rfl rfl c1 ?_
    refine w_aload_n (q := 9) d_Model_byteAt_8 rfl rfl ?_
    refine w_get (q := 12) (ci := 12) (j := 11) d_Model_byteAt_9 rfl (by decide) fl_Model_71 (by decide) (by decide) s_54 rfl rfl ?_
    refine w_iload_n (q := 13) d_Model_byteAt_12 rfl rfl ?_
    obtain ⟨v2, hv, h⟩ := bnd h
    obtain ⟨hi, hv⟩ := rd_ok hv
    refine w_iald (q := 14) (t := 0) d_Model_byteAt_13 rfl a_65.2 a_65.1 hi rfl ?_
    rw [hv]
    refine w_goto (q := 18) d_Model_byteAt_14 rfl ?_
    cases h
    exact w_ireturn d_Model_byteAt_18 rfl rfl ⟨rfl, rfl, rfl, rfl⟩
def sp_Model_isLetter (p0 : Int32) (g : Mem) : Option (Int32) := if p0 < 97 then some 0 else if 122 < p0 then some 0 else some 1
theorem ok_Model_isLetter {γ : GG} {sh : List Sh} {tt : Bool} {p0 : Int32} {g : Mem} {res : Int32} (h : sp_Model_isLetter p0 g = some res) : CA γ M_Model_isLetter 0 [.int p0] sh g tt (0, 0) (pI sh res g tt) := by
  refine CA.of mw_Model_isLetter.1 0 rfl ?_
  show WA γ M_Model_isLetter 0 0 [some (.int p0)] [] sh g tt (0, 0) (pI sh res g tt)
  unfold sp_Model_isLetter at h
  refine w_iload_n (q := 1) d_Model_isLetter_0 rfl rfl ?_
  refine w_bipush (q := 3) (v := 97) d_Model_isLetter_1 rfl (by decide) ?_
  by_cases c1 : p0 < 97
  · rw [if_pos c1] at h
    refine w_icmp_lt_t (q := 16) d_Model_isLetter_3 rfl c1 ?_
    refine w_iconst (q := 17) (v := 0) d_Model_isLetter_16 rfl (by decide) ?_
    cases h
    exact w_ireturn d_Model_isLetter_17 rfl rfl ⟨rfl, rfl, rfl, rfl⟩
  · rw [if_neg c1] at h
    refine w_icmp_lt_f (q := 6) d_Model_isLetter_3 16 rfl rfl c1 ?_
    refine w_iload_n (q := 7) d_Model_isLetter_6 rfl rfl ?_
    refine w_bipush (q := 9) (v := 122) d_Model_isLetter_7 rfl (by decide) ?_
    by_cases c2 : 122 < p0
    · rw [if_pos c2] at h
      refine w_icmp_gt_t (q := 16) d_Model_isLetter_9 rfl c2 ?_
      refine w_iconst (q := 17) (v := 0) d_Model_isLetter_16 rfl (by decide) ?_
      cases h
      exact w_ireturn d_Model_isLetter_17 rfl rfl ⟨rfl, rfl, rfl, rfl⟩
    · rw [if_neg c2] at h
      refine w_icmp_gt_f (q := 12) d_Model_isLetter_9 16 rfl rfl c2 ?_
      refine w_iconst (q := 13) (v := 1) d_Model_isLetter_12 rfl (by decide) ?_
      refine w_goto (q := 17) d_Model_isLetter_13 rfl ?_
      cases h
      exact w_ireturn d_Model_isLetter_17 rfl rfl ⟨rfl, rfl, rfl, rfl⟩
def sp_Model_isDigit (p0 : Int32) (g : Mem) : Option (Int32) := if p0 < 48 then some 0 else if 57 < p0 then some 0 else some 1
theorem ok_Model_isDigit {γ : GG} {sh : List Sh} {tt : Bool} {p0 : Int32} {g : Mem} {res : Int32} (h : sp_Model_isDigit p0 g = some res) : CA γ M_Model_isDigit 0 [.int p0] sh g tt (0, 0) (pI sh res g tt) := by
  refine CA.of mw_Model_isDigit.1 0 rfl ?_
  show WA γ M_Model_isDigit 0 0 [some (.int p0)] [] sh g tt (0, 0) (pI sh res g tt)
  unfold sp_Model_isDigit at h
  refine w_iload_n (q := 1) d_Model_isDigit_0 rfl rfl ?_
  refine w_bipush (q := 3) (v := 48) d_Model_isDigit_1 rfl (by decide) ?_
  by_cases c1 : p0 < 48
  · rw [if_pos c1] at h
    refine w_icmp_lt_t (q := 16) d_Model_isDigit_3 rfl c1 ?_
    refine w_iconst (q := 17) (v := 0) d_Model_isDigit_16 rfl (by decide) ?_
    cases h
    exact w_ireturn d_Model_isDigit_17 rfl rfl ⟨rfl, rfl, rfl, rfl⟩
  · rw [if_neg c1] at h
    refine w_icmp_lt_f (q := 6) d_Model_isDigit_3 16 rfl rfl c1 ?_
    refine w_iload_n (q := 7) d_Model_isDigit_6 rfl rfl ?_
    refine w_bipush (q := 9) (v := 57) d_Model_isDigit_7 rfl (by decide) ?_
    by_cases c2 : 57 < p0
    · rw [if_pos c2] at h
      refine w_icmp_gt_t (q := 16) d_Model_isDigit_9 rfl c2 ?_
      refine w_iconst (q := 17) (v := 0) d_Model_isDigit_16 rfl (by decide) ?_
      cases h
      exact w_ireturn d_Model_isDigit_17 rfl rfl ⟨rfl, rfl, rfl, rfl⟩
    · rw [if_neg c2] at h
      refine w_icmp_gt_f (q := 12) d_Model_isDigit_9 16 rfl rfl c2 ?_
      refine w_iconst (q := 13) (v := 1) d_Model_isDigit_12 rfl (by decide) ?_
      refine w_goto (q := 17) d_Model_isDigit_13 rfl ?_
      cases h
      exact w_ireturn d_Model_isDigit_17 rfl rfl ⟨rfl, rfl, rfl, rfl⟩
def sp_Model_isMark (p0 : Int32) (g : Mem) : Option (Int32) := if p0 = 59 then some 1 else if p0 = 40 then some 1 else if p0 = 41 then some 1 else if p0 = 43 then some 1 else if p0 = 45 then some 1 else if p0 = 42 then some 1 else if p0 = 47 then some 1 else if p0 = 60 then some 1 else if p0 = 61 then some 1 else some 0
theorem ok_Model_isMark {γ : GG} {sh : List Sh} {tt : Bool} {p0 : Int32} {g : Mem} {res : Int32} (h : sp_Model_isMark p0 g = some res) : CA γ M_Model_isMark 0 [.int p0] sh g tt (0, 0) (pI sh res g tt) := by
  refine CA.of mw_Model_isMark.1 0 rfl ?_
  show WA γ M_Model_isMark 0 0 [some (.int p0)] [] sh g tt (0, 0) (pI sh res g tt)
  unfold sp_Model_isMark at h
  refine w_iload_n (q := 1) d_Model_isMark_0 rfl rfl ?_
  refine w_bipush (q := 3) (v := 59) d_Model_isMark_1 rfl (by decide) ?_
  by_cases c1 : p0 = 59
  · rw [if_pos c1] at h
    refine w_icmp_eq_t (q := 54) d_Model_isMark_3 rfl c1 ?_
    refine w_iconst (q := 55) (v := 1) d_Model_isMark_54 rfl (by decide) ?_
    refine w_goto (q := 59) d_Model_isMark_55 rfl ?_
    cases h
    exact w_ireturn d_Model_isMark_59 rfl rfl ⟨rfl, rfl, rfl, rfl⟩
  · rw [if_neg c1] at h
    refine w_icmp_eq_f (q := 6) d_Model_isMark_3 54 rfl rfl c1 ?_
    refine w_iload_n (q := 7) d_Model_isMark_6 rfl rfl ?_
    refine w_bipush (q := 9) (v := 40) d_Model_isMark_7 rfl (by decide) ?_
    by_cases c2 : p0 = 40
    · rw [if_pos c2] at h
      refine w_icmp_eq_t (q := 54) d_Model_isMark_9 rfl c2 ?_
      refine w_iconst (q := 55) (v := 1) d_Model_isMark_54 rfl (by decide) ?_
      refine w_goto (q := 59) d_Model_isMark_55 rfl ?_
      cases h
      exact w_ireturn d_Model_isMark_59 rfl rfl ⟨rfl, rfl, rfl, rfl⟩
    · rw [if_neg c2] at h
      refine w_icmp_eq_f (q := 12) d_Model_isMark_9 54 rfl rfl c2 ?_
      refine w_iload_n (q := 13) d_Model_isMark_12 rfl rfl ?_
      refine w_bipush (q := 15) (v := 41) d_Model_isMark_13 rfl (by decide) ?_
      by_cases c3 : p0 = 41
      · rw [if_pos c3] at h
        refine w_icmp_eq_t (q := 54) d_Model_isMark_15 rfl c3 ?_
        refine w_iconst (q := 55) (v := 1) d_Model_isMark_54 rfl (by decide) ?_
        refine w_goto (q := 59) d_Model_isMark_55 rfl ?_
        cases h
        exact w_ireturn d_Model_isMark_59 rfl rfl ⟨rfl, rfl, rfl, rfl⟩
      · rw [if_neg c3] at h
        refine w_icmp_eq_f (q := 18) d_Model_isMark_15 54 rfl rfl c3 ?_
        refine w_iload_n (q := 19) d_Model_isMark_18 rfl rfl ?_
        refine w_bipush (q := 21) (v := 43) d_Model_isMark_19 rfl (by decide) ?_
        by_cases c4 : p0 = 43
        · rw [if_pos c4] at h
          refine w_icmp_eq_t (q := 54) d_Model_isMark_21 rfl c4 ?_
          refine w_iconst (q := 55) (v := 1) d_Model_isMark_54 rfl (by decide) ?_
          refine w_goto (q := 59) d_Model_isMark_55 rfl ?_
          cases h
          exact w_ireturn d_Model_isMark_59 rfl rfl ⟨rfl, rfl, rfl, rfl⟩
        · rw [if_neg c4] at h
          refine w_icmp_eq_f (q := 24) d_Model_isMark_21 54 rfl rfl c4 ?_
          refine w_iload_n (q := 25) d_Model_isMark_24 rfl rfl ?_
          refine w_bipush (q := 27) (v := 45) d_Model_isMark_25 rfl (by decide) ?_
          by_cases c5 : p0 = 45
          · rw [if_pos c5] at h
            refine w_icmp_eq_t (q := 54) d_Model_isMark_27 rfl c5 ?_
            refine w_iconst (q := 55) (v := 1) d_Model_isMark_54 rfl (by decide) ?_
            refine w_goto (q := 59) d_Model_isMark_55 rfl ?_
            cases h
            exact w_ireturn d_Model_isMark_59 rfl rfl ⟨rfl, rfl, rfl, rfl⟩
          · rw [if_neg c5] at h
            refine w_icmp_eq_f (q := 30) d_Model_isMark_27 54 rfl rfl c5 ?_
            refine w_iload_n (q := 31) d_Model_isMark_30 rfl rfl ?_
            refine w_bipush (q := 33) (v := 42) d_Model_isMark_31 rfl (by decide) ?_
            by_cases c6 : p0 = 42
            · rw [if_pos c6] at h
              refine w_icmp_eq_t (q := 54) d_Model_isMark_33 rfl c6 ?_
              refine w_iconst (q := 55) (v := 1) d_Model_isMark_54 rfl (by decide) ?_
              refine w_goto (q := 59) d_Model_isMark_55 rfl ?_
              cases h
              exact w_ireturn d_Model_isMark_59 rfl rfl ⟨rfl, rfl, rfl, rfl⟩
            · rw [if_neg c6] at h
              refine w_icmp_eq_f (q := 36) d_Model_isMark_33 54 rfl rfl c6 ?_
              refine w_iload_n (q := 37) d_Model_isMark_36 rfl rfl ?_
              refine w_bipush (q := 39) (v := 47) d_Model_isMark_37 rfl (by decide) ?_
              by_cases c7 : p0 = 47
              · rw [if_pos c7] at h
                refine w_icmp_eq_t (q := 54) d_Model_isMark_39 rfl c7 ?_
                refine w_iconst (q := 55) (v := 1) d_Model_isMark_54 rfl (by decide) ?_
                refine w_goto (q := 59) d_Model_isMark_55 rfl ?_
                cases h
                exact w_ireturn d_Model_isMark_59 rfl rfl ⟨rfl, rfl, rfl, rfl⟩
              · rw [if_neg c7] at h
                refine w_icmp_eq_f (q := 42) d_Model_isMark_39 54 rfl rfl c7 ?_
                refine w_iload_n (q := 43) d_Model_isMark_42 rfl rfl ?_
                refine w_bipush (q := 45) (v := 60) d_Model_isMark_43 rfl (by decide) ?_
                by_cases c8 : p0 = 60
                · rw [if_pos c8] at h
                  refine w_icmp_eq_t (q := 54) d_Model_isMark_45 rfl c8 ?_
                  refine w_iconst (q := 55) (v := 1) d_Model_isMark_54 rfl (by decide) ?_
                  refine w_goto (q := 59) d_Model_isMark_55 rfl ?_
                  cases h
                  exact w_ireturn d_Model_isMark_59 rfl rfl ⟨rfl, rfl, rfl, rfl⟩
                · rw [if_neg c8] at h
                  refine w_icmp_eq_f (q := 48) d_Model_isMark_45 54 rfl rfl c8 ?_
                  refine w_iload_n (q := 49) d_Model_isMark_48 rfl rfl ?_
                  refine w_bipush (q := 51) (v := 61) d_Model_isMark_49 rfl (by decide) ?_
                  by_cases c9 : p0 = 61
                  · rw [if_pos c9] at h
                    refine w_icmp_ne_f (q := 54) d_Model_isMark_51 58 rfl rfl c9 ?_
                    refine w_iconst (q := 55) (v := 1) d_Model_isMark_54 rfl (by decide) ?_
                    refine w_goto (q := 59) d_Model_isMark_55 rfl ?_
                    cases h
                    exact w_ireturn d_Model_isMark_59 rfl rfl ⟨rfl, rfl, rfl, rfl⟩
                  · rw [if_neg c9] at h
                    refine w_icmp_ne_t (q := 58) d_Model_isMark_51 rfl c9 ?_
                    refine w_iconst (q := 59) (v := 0) d_Model_isMark_58 rfl (by decide) ?_
                    cases h
                    exact w_ireturn d_Model_isMark_59 rfl rfl ⟨rfl, rfl, rfl, rfl⟩
def PL_Model_stepOn_0 (γ : GG) (tt : Bool) (g : Mem) (b : Nat × Nat) (Φ : PO) (s : Mem) : Prop := WA γ M_Model_stepOn 1 0 [some (.ref 54), none] [] SH s tt b Φ
def QL_Model_stepOn_0 (γ : GG) (tt : Bool) (g : Mem) (b : Nat × Nat) (Φ : PO) (x : (Mem)) : Prop := WA γ M_Model_stepOn 1 39 [some (.ref 54), none] [] SH x tt b Φ
def st_Model_stepOn_0 (F : Nat) (g : Mem) (s : Mem) : Option ((Mem) ⊕ ((Mem))) := (sp_Model_byteAt (s 54 13) s).bind fun v1 => if v1 = 32 then some (.inl (mset s 54 13 ((s 54 13) + 1))) else (sp_Model_byteAt (s 54 13) s).bind fun v3 => if v3 = 10 then some (.inl (mset s 54 13 ((s 54 13) + 1))) else some (.inr s)
theorem kl_Model_stepOn_0 {γ : GG} {tt : Bool} {F : Nat} {g : Mem} {b : Nat × Nat} {Φ : PO} : ∀ (s : Mem) (r : (Mem) ⊕ ((Mem))), st_Model_stepOn_0 F g s = some r → RQ (PL_Model_stepOn_0 γ tt g b Φ) (QL_Model_stepOn_0 γ tt g b Φ) r → PL_Model_stepOn_0 γ tt g b Φ s := by
  intro s r h hr
  unfold st_Model_stepOn_0 at h
  unfold PL_Model_stepOn_0
  refine w_aload_n (q := 1) d_Model_stepOn_0 rfl rfl ?_
  refine w_aload_n (q := 2) d_Model_stepOn_1 rfl rfl ?_
  refine w_get (q := 5) (ci := 12) (j := 13) d_Model_stepOn_2 rfl (by decide) fl_Model_132 (by decide) (by decide) s_54 rfl rfl ?_
  obtain ⟨v1, hv, h⟩ := bnd h
  refine w_callVi (q := 8) (M' := M_Model_byteAt) (n' := 0) (k := 54) (As := [.int (s 54 13)]) (sh' := SH) (b1 := (0, 0)) d_Model_stepOn_5 rfl mw_Model_byteAt (by decide) (by decide) ml_Model_135 (by decide) s_54 (by decide) rfl rfl rfl (leb rfl) (bz _) (fun _ => rfl) (ok_Model_byteAt hv) ?_
  refine w_bipush (q := 10) (v := 32) d_Model_stepOn_8 rfl (by decide) ?_
  by_cases c2 : v1 = 32
  · rw [if_pos c2] at h
    refine w_icmp_eq_t (q := 26) d_Model_stepOn_10 rfl c2 ?_
    refine w_aload_n (q := 27) d_Model_stepOn_26 rfl rfl ?_
    refine w_dup (q := 28) d_Model_stepOn_27 rfl rfl ?_
    refine w_get (q := 31) (ci := 12) (j := 13) d_Model_stepOn_28 rfl (by decide) fl_Model_132 (by decide) (by decide) s_54 rfl rfl ?_
    refine w_iconst (q := 32) (v := 1) d_Model_stepOn_31 rfl (by decide) ?_
    refine w_iadd (q := 33) d_Model_stepOn_32 rfl ?_
    refine w_put (q := 36) (ci := 12) (j := 13) d_Model_stepOn_33 rfl (by decide) fl_Model_132 (by decide) (by decide) s_54 rfl rfl rfl rfl rfl rfl ?_
    refine w_goto (q := 0) d_Model_stepOn_36 rfl ?_
    cases h
    exact w_ls (by exact (And.intro rfl trivial)) hr
  · rw [if_neg c2] at h
    refine w_icmp_eq_f (q := 13) d_Model_stepOn_10 26 rfl rfl c2 ?_
    refine w_aload_n (q := 14) d_Model_stepOn_13 rfl rfl ?_
    refine w_aload_n (q := 15) d_Model_stepOn_14 rfl rfl ?_
    refine w_get (q := 18) (ci := 12) (j := 13) d_Model_stepOn_15 rfl (by decide) fl_Model_132 (by decide) (by decide) s_54 rfl rfl ?_
    obtain ⟨v3, hv, h⟩ := bnd h
    refine w_callVi (q := 21) (M' := M_Model_byteAt) (n' := 0) (k := 54) (As := [.int (s 54 13)]) (sh' := SH) (b1 := (0, 0)) d_Model_stepOn_18 rfl mw_Model_byteAt (by decide) (by decide) ml_Model_135 (by decide) s_54 (by decide) rfl rfl rfl (leb rfl) (bz _) (fun _ => rfl) (ok_Model_byteAt hv) ?_
    refine w_bipush (q := 23) (v := 10) d_Model_stepOn_21 rfl (by decide) ?_
    by_cases c4 : v3 = 10
    · rw [if_pos c4] at h
      refine w_icmp_ne_f (q := 26) d_Model_stepOn_23 39 rfl rfl c4 ?_
      refine w_aload_n (q := 27) d_Model_stepOn_26 rfl rfl ?_
      refine w_dup (q := 28) d_Model_stepOn_27 rfl rfl ?_
      refine w_get (q := 31) (ci := 12) (j := 13) d_Model_stepOn_28 rfl (by decide) fl_Model_132 (by decide) (by decide) s_54 rfl rfl ?_
      refine w_iconst (q := 32) (v := 1) d_Model_stepOn_31 rfl (by decide) ?_
      refine w_iadd (q := 33) d_Model_stepOn_32 rfl ?_
      refine w_put (q := 36) (ci := 12) (j := 13) d_Model_stepOn_33 rfl (by decide) fl_Model_132 (by decide) (by decide) s_54 rfl rfl rfl rfl rfl rfl ?_
      refine w_goto (q := 0) d_Model_stepOn_36 rfl ?_
      cases h
      exact w_ls (by exact (And.intro rfl trivial)) hr
    · rw [if_neg c4] at h
      refine w_icmp_ne_t (q := 39) d_Model_stepOn_23 rfl c4 ?_
      cases h
      exact w_ls (by exact (And.intro rfl trivial)) hr
def PL_Model_stepOn_123 (γ : GG) (tt : Bool) (g : Mem) (b : Nat × Nat) (Φ : PO) (s : Mem) : Prop := WA γ M_Model_stepOn 1 123 [some (.ref 54), none] [] SH s tt b Φ
def QL_Model_stepOn_123 (γ : GG) (tt : Bool) (g : Mem) (b : Nat × Nat) (Φ : PO) (x : (Mem)) : Prop := WA γ M_Model_stepOn 1 178 [some (.ref 54), none] [] SH x tt b Φ
def st_Model_stepOn_123 (F : Nat) (g : Mem) (s : Mem) : Option ((Mem) ⊕ ((Mem))) := (sp_Model_byteAt (s 54 13) s).bind fun v14 => (sp_Model_isDigit v14 s).bind fun v15 => if v15 = 0 then some (.inr s) else (sp_Model_byteAt (s 54 13) s).bind fun v17 => (sp_JMath_min 100000 (((10 * (s 54 16)) + v17) - 48) s).bind fun v18 => some (.inl (mset (mset s 54 16 v18) 54 13 (((mset s 54 16 v18) 54 13) + 1)))
theorem kl_Model_stepOn_123 {γ : GG} {tt : Bool} {F : Nat} {g : Mem} {b : Nat × Nat} {Φ : PO} : ∀ (s : Mem) (r : (Mem) ⊕ ((Mem))), st_Model_stepOn_123 F g s = some r → RQ (PL_Model_stepOn_123 γ tt g b Φ) (QL_Model_stepOn_123 γ tt g b Φ) r → PL_Model_stepOn_123 γ tt g b Φ s := by
  intro s r h hr
  unfold st_Model_stepOn_123 at h
  unfold PL_Model_stepOn_123
  refine w_aload_n (q := 124) d_Model_stepOn_123 rfl rfl ?_
  refine w_aload_n (q := 125) d_Model_stepOn_124 rfl rfl ?_
  refine w_get (q := 128) (ci := 12) (j := 13) d_Model_stepOn_125 rfl (by decide) fl_Model_132 (by decide) (by decide) s_54 rfl rfl ?_
  obtain ⟨v14, hv, h⟩ := bnd h
  refine w_callVi (q := 131) (M' := M_Model_byteAt) (n' := 0) (k := 54) (As := [.int (s 54 13)]) (sh' := SH) (b1 := (0, 0)) d_Model_stepOn_128 rfl mw_Model_byteAt (by decide) (by decide) ml_Model_135 (by decide) s_54 (by decide) rfl rfl rfl (leb rfl) (bz _) (fun _ => rfl) (ok_Model_byteAt hv) ?_
  obtain ⟨v15, hv, h⟩ := bnd h
  refine w_callSi (q := 134) (M' := M_Model_isDigit) (n' := 0) (As := [.int v14]) (sh' := SH) (b1 := (0, 0)) d_Model_stepOn_131 rfl mw_Model_isDigit (by decide) (by decide) ml_Model_149 rfl rfl (leb rfl) (bz _) (fun _ => rfl) (ok_Model_isDigit hv) ?_
  by_cases c16 : v15 = 0
  · rw [if_pos c16] at h
    refine w_if_eq_t (q := 178) d_Model_stepOn_134 rfl c16 ?_
    cases h
    exact w_ls (by exact (And.intro rfl trivial)) hr
  · rw [if_neg c16] at h
    refine w_if_eq_f (q := 137) d_Model_stepOn_134 178 rfl rfl c16 ?_
    refine w_aload_n (q := 138) d_Model_stepOn_137 rfl rfl ?_
    refine w_ldc (q := 140) d_Model_stepOn_138 rfl co_Model_155 ?_
    refine w_bipush (q := 142) (v := 10) d_Model_stepOn_140 rfl (by decide) ?_
    refine w_aload_n (q := 143) d_Model_stepOn_142 rfl rfl ?_
    refine w_get (q := 146) (ci := 12) (j := 16) d_Model_stepOn_143 rfl (by decide) fl_Model_152 (by decide) (by decide) s_54 rfl rfl ?_
    refine w_imul (q := 147) d_Model_stepOn_146 rfl ?_
    refine w_aload_n (q := 148) d_Model_stepOn_147 rfl rfl ?_
    refine w_aload_n (q := 149) d_Model_stepOn_148 rfl rfl ?_
    refine w_get (q := 152) (ci := 12) (j := 13) d_Model_stepOn_149 rfl (by decide) fl_Model_132 (by decide) (by decide) s_54 rfl rfl ?_
    obtain ⟨v17, hv, h⟩ := bnd h
    refine w_callVi (q := 155) (M' := M_Model_byteAt) (n' := 0) (k := 54) (As := [.int (s 54 13)]) (sh' := SH) (b1 := (0, 0)) d_Model_stepOn_152 rfl mw_Model_byteAt (by decide) (by decide) ml_Model_135 (by decide) s_54 (by decide) rfl rfl rfl (leb rfl) (bz _) (fun _ => rfl) (ok_Model_byteAt hv) ?_
    refine w_iadd (q := 156) d_Model_stepOn_155 rfl ?_
    refine w_bipush (q := 158) (v := 48) d_Model_stepOn_156 rfl (by decide) ?_
    refine w_isub (q := 159) d_Model_stepOn_158 rfl ?_
    obtain ⟨v18, hv, h⟩ := bnd h
    refine w_callSi (q := 162) (M' := M_JMath_min) (n' := 0) (As := [.int 100000, .int (((10 * (s 54 16)) + v17) - 48)]) (sh' := SH) (b1 := (0, 0)) d_Model_stepOn_159 rfl mw_JMath_min (by decide) (by decide) ml_Model_156 rfl rfl (leb rfl) (bz _) (fun _ => rfl) (ok_JMath_min hv) ?_
    refine w_put (q := 165) (ci := 12) (j := 16) d_Model_stepOn_162 rfl (by decide) fl_Model_152 (by decide) (by decide) s_54 rfl rfl rfl rfl rfl rfl ?_
    refine w_aload_n (q := 166) d_Model_stepOn_165 rfl rfl ?_
    refine w_dup (q := 167) d_Model_stepOn_166 rfl rfl ?_
    refine w_get (q := 170) (ci := 12) (j := 13) d_Model_stepOn_167 rfl (by decide) fl_Model_132 (by decide) (by decide) s_54 rfl rfl ?_
    refine w_iconst (q := 171) (v := 1) d_Model_stepOn_170 rfl (by decide) ?_
    refine w_iadd (q := 172) d_Model_stepOn_171 rfl ?_
    refine w_put (q := 175) (ci := 12) (j := 13) d_Model_stepOn_172 rfl (by decide) fl_Model_132 (by decide) (by decide) s_54 rfl rfl rfl rfl rfl rfl ?_
    refine w_goto (q := 123) d_Model_stepOn_175 rfl ?_
    cases h
    exact w_ls (by exact (And.intro rfl trivial)) hr
def PL_Model_stepOn_76 (γ : GG) (tt : Bool) (g : Mem) (b : Nat × Nat) (Φ : PO) (s : Mem) : Prop := WA γ M_Model_stepOn 1 76 [some (.ref 54), none] [] SH s tt b Φ
def QL_Model_stepOn_76 (γ : GG) (tt : Bool) (g : Mem) (b : Nat × Nat) (Φ : PO) (x : (Mem)) : Prop := WA γ M_Model_stepOn 1 103 [some (.ref 54), none] [] SH x tt b Φ
def st_Model_stepOn_76 (F : Nat) (g : Mem) (s : Mem) : Option ((Mem) ⊕ ((Mem))) := (sp_Model_byteAt (s 54 13) s).bind fun v20 => (sp_Model_isLetter v20 s).bind fun v21 => if v21 = 0 then some (.inr s) else some (.inl (mset s 54 13 ((s 54 13) + 1)))
theorem kl_Model_stepOn_76 {γ : GG} {tt : Bool} {F : Nat} {g : Mem} {b : Nat × Nat} {Φ : PO} : ∀ (s : Mem) (r : (Mem) ⊕ ((Mem))), st_Model_stepOn_76 F g s = some r → RQ (PL_Model_stepOn_76 γ tt g b Φ) (QL_Model_stepOn_76 γ tt g b Φ) r → PL_Model_stepOn_76 γ tt g b Φ s := by
  intro s r h hr
  unfold st_Model_stepOn_76 at h
  unfold PL_Model_stepOn_76
  refine w_aload_n (q := 77) d_Model_stepOn_76 rfl rfl ?_
  refine w_aload_n (q := 78) d_Model_stepOn_77 rfl rfl ?_
  refine w_get (q := 81) (ci := 12) (j := 13) d_Model_stepOn_78 rfl (by decide) fl_Model_132 (by decide) (by decide) s_54 rfl rfl ?_
  obtain ⟨v20, hv, h⟩ := bnd h
  refine w_callVi (q := 84) (M' := M_Model_byteAt) (n' := 0) (k := 54) (As := [.int (s 54 13)]) (sh' := SH) (b1 := (0, 0)) d_Model_stepOn_81 rfl mw_Model_byteAt (by decide) (by decide) ml_Model_135 (by decide) s_54 (by decide) rfl rfl rfl (leb rfl) (bz _) (fun _ => rfl) (ok_Model_byteAt hv) ?_
  obtain ⟨v21, hv, h⟩ := bnd h
  refine w_callSi (q := 87) (M' := M_Model_isLetter) (n' := 0) (As := [.int v20]) (sh' := SH) (b1 := (0, 0)) d_Model_stepOn_84 rfl mw_Model_isLetter (by decide) (by decide) ml_Model_145 rfl rfl (leb rfl) (bz _) (fun _ => rfl) (ok_Model_isLetter hv) ?_
  by_cases c22 : v21 = 0
  · rw [if_pos c22] at h
    refine w_if_eq_t (q := 103) d_Model_stepOn_87 rfl c22 ?_
    cases h
    exact w_ls (by exact (And.intro rfl trivial)) hr
  · rw [if_neg c22] at h
    refine w_if_eq_f (q := 90) d_Model_stepOn_87 103 rfl rfl c22 ?_
    refine w_aload_n (q := 91) d_Model_stepOn_90 rfl rfl ?_
    refine w_dup (q := 92) d_Model_stepOn_91 rfl rfl ?_
    refine w_get (q := 95) (ci := 12) (j := 13) d_Model_stepOn_92 rfl (by decide) fl_Model_132 (by decide) (by decide) s_54 rfl rfl ?_
    refine w_iconst (q := 96) (v := 1) d_Model_stepOn_95 rfl (by decide) ?_
    refine w_iadd (q := 97) d_Model_stepOn_96 rfl ?_
    refine w_put (q := 100) (ci := 12) (j := 13) d_Model_stepOn_97 rfl (by decide) fl_Model_132 (by decide) (by decide) s_54 rfl rfl rfl rfl rfl rfl ?_
    refine w_goto (q := 76) d_Model_stepOn_100 rfl ?_
    cases h
    exact w_ls (by exact (And.intro rfl trivial)) hr
def sp_Model_stepOn (F : Nat) (g : Mem) : Option (Mem) := (lpO (st_Model_stepOn_0 F g) F g).bind fun x5 => (sp_Model_byteAt ((mset x5 54 17 (x5 54 13)) 54 13) (mset x5 54 17 (x5 54 13))).bind fun v6 => if v6 = (-1) then some (mset (mset (mset x5 54 17 (x5 54 13)) 54 15 0) 54 18 ((mset (mset x5 54 17 (x5 54 13)) 54 15 0) 54 13)) else (sp_Model_isLetter v6 (mset x5 54 17 (x5 54 13))).bind fun v8 => if v8 = 0 then (sp_Model_isDigit v6 (mset x5 54 17 (x5 54 13))).bind fun v10 => if v10 = 0 then (sp_Model_isMark v6 (mset (mset x5 54 17 (x5 54 13)) 54 13 (((mset x5 54 17 (x5 54 13)) 54 13) + 1))).bind fun v12 => if v12 = 0 then some (mset (mset (mset (mset x5 54 17 (x5 54 13)) 54 13 (((mset x5 54 17 (x5 54 13)) 54 13) + 1)) 54 15 4) 54 18 ((mset (mset (mset x5 54 17 (x5 54 13)) 54 13 (((mset x5 54 17 (x5 54 13)) 54 13) + 1)) 54 15 4) 54 13)) else some (mset (mset (mset (mset x5 54 17 (x5 54 13)) 54 13 (((mset x5 54 17 (x5 54 13)) 54 13) + 1)) 54 15 3) 54 18 ((mset (mset (mset x5 54 17 (x5 54 13)) 54 13 (((mset x5 54 17 (x5 54 13)) 54 13) + 1)) 54 15 3) 54 13)) else (lpO (st_Model_stepOn_123 F g) F (mset (mset x5 54 17 (x5 54 13)) 54 16 0)).bind fun x19 => some (mset (mset x19 54 15 2) 54 18 ((mset x19 54 15 2) 54 13)) else (lpO (st_Model_stepOn_76 F g) F (mset x5 54 17 (x5 54 13))).bind fun x23 => some (mset (mset x23 54 15 1) 54 18 ((mset x23 54 15 1) 54 13))
theorem ok_Model_stepOn {γ : GG} {tt : Bool} {F : Nat} {g : Mem} {res : Mem} (h : sp_Model_stepOn F g = some res) : CA γ M_Model_stepOn 1 [.ref 54] SH g tt (0, 0) (pV SH res tt) := by
  refine CA.of mw_Model_stepOn.1 1 rfl ?_
  show WA γ M_Model_stepOn 1 0 [some (.ref 54), none] [] SH g tt (0, 0) (pV SH res tt)
  unfold sp_Model_stepOn at h
  obtain ⟨x5, hx, h⟩ := bnd h
  refine w_ls (ls' := [some (.ref 54), none]) (And.intro rfl trivial) ?_
  show PL_Model_stepOn_0 γ tt g _ _ g
  refine lp_ok (kl_Model_stepOn_0) F _ x5 hx ?_
  unfold QL_Model_stepOn_0
  refine w_aload_n (q := 40) d_Model_stepOn_39 rfl rfl ?_
  refine w_aload_n (q := 41) d_Model_stepOn_40 rfl rfl ?_
  refine w_get (q := 44) (ci := 12) (j := 13) d_Model_stepOn_41 rfl (by decide) fl_Model_132 (by decide) (by decide) s_54 rfl rfl ?_
  refine w_put (q := 47) (ci := 12) (j := 17) d_Model_stepOn_44 rfl (by decide) fl_Model_139 (by decide) (by decide) s_54 rfl rfl rfl rfl rfl rfl ?_
  refine w_aload_n (q := 48) d_Model_stepOn_47 rfl rfl ?_
  refine w_aload_n (q := 49) d_Model_stepOn_48 rfl rfl ?_
  refine w_get (q := 52) (ci := 12) (j := 13) d_Model_stepOn_49 rfl (by decide) fl_Model_132 (by decide) (by decide) s_54 rfl rfl ?_
  obtain ⟨v6, hv, h⟩ := bnd h
  refine w_callVi (q := 55) (M' := M_Model_byteAt) (n' := 0) (k := 54) (As := [.int ((mset x5 54 17 (x5 54 13)) 54 13)]) (sh' := SH) (b1 := (0, 0)) d_Model_stepOn_52 rfl mw_Model_byteAt (by decide) (by decide) ml_Model_135 (by decide) s_54 (by decide) rfl rfl rfl (leb rfl) (bz _) (fun _ => rfl) (ok_Model_byteAt hv) ?_
  refine w_istore_n (q := 56) (ls' := [some (.ref 54), some (.int v6)]) d_Model_stepOn_55 rfl (by decide) rfl rfl ?_
  refine w_iload_n (q := 57) d_Model_stepOn_56 rfl rfl ?_
  refine w_iconst (q := 58) (v := (-1)) d_Model_stepOn_57 rfl (by decide) ?_
  by_cases c7 : v6 = (-1)
  · rw [if_pos c7] at h
    refine w_icmp_ne_f (q := 61) d_Model_stepOn_58 69 rfl rfl c7 ?_
    refine w_aload_n (q := 62) d_Model_stepOn_61 rfl rfl ?_
    refine w_iconst (q := 63) (v := 0) d_Model_stepOn_62 rfl (by decide) ?_
    refine w_put (q := 66) (ci := 12) (j := 15) d_Model_stepOn_63 rfl (by decide) fl_Model_142 (by decide) (by decide) s_54 rfl rfl rfl rfl rfl rfl ?_
    refine w_goto (q := 212) d_Model_stepOn_66 rfl ?_
    refine w_aload_n (q := 213) d_Model_stepOn_212 rfl rfl ?_
    refine w_aload_n (q := 214) d_Model_stepOn_213 rfl rfl ?_
    refine w_get (q := 217) (ci := 12) (j := 13) d_Model_stepOn_214 rfl (by decide) fl_Model_132 (by decide) (by decide) s_54 rfl rfl ?_
    refine w_put (q := 220) (ci := 12) (j := 18) d_Model_stepOn_217 rfl (by decide) fl_Model_165 (by decide) (by decide) s_54 rfl rfl rfl rfl rfl rfl ?_
    cases h
    exact w_return d_Model_stepOn_220 rfl ⟨rfl, rfl, rfl, rfl⟩
  · rw [if_neg c7] at h
    refine w_icmp_ne_t (q := 69) d_Model_stepOn_58 rfl c7 ?_
    refine w_iload_n (q := 70) d_Model_stepOn_69 rfl rfl ?_
    obtain ⟨v8, hv, h⟩ := bnd h
    refine w_callSi (q := 73) (M' := M_Model_isLetter) (n' := 0) (As := [.int v6]) (sh' := SH) (b1 := (0, 0)) d_Model_stepOn_70 rfl mw_Model_isLetter (by decide) (by decide) ml_Model_145 rfl rfl (leb rfl) (bz _) (fun _ => rfl) (ok_Model_isLetter hv) ?_
    by_cases c9 : v8 = 0
    · rw [if_pos c9] at h
      refine w_if_eq_t (q := 111) d_Model_stepOn_73 rfl c9 ?_
      refine w_iload_n (q := 112) d_Model_stepOn_111 rfl rfl ?_
      obtain ⟨v10, hv, h⟩ := bnd h
      refine w_callSi (q := 115) (M' := M_Model_isDigit) (n' := 0) (As := [.int v6]) (sh' := SH) (b1 := (0, 0)) d_Model_stepOn_112 rfl mw_Model_isDigit (by decide) (by decide) ml_Model_149 rfl rfl (leb rfl) (bz _) (fun _ => rfl) (ok_Model_isDigit hv) ?_
      by_cases c11 : v10 = 0
      · rw [if_pos c11] at h
        refine w_if_eq_t (q := 186) d_Model_stepOn_115 rfl c11 ?_
        refine w_aload_n (q := 187) d_Model_stepOn_186 rfl rfl ?_
        refine w_dup (q := 188) d_Model_stepOn_187 rfl rfl ?_
        refine w_get (q := 191) (ci := 12) (j := 13) d_Model_stepOn_188 rfl (by decide) fl_Model_132 (by decide) (by decide) s_54 rfl rfl ?_
        refine w_iconst (q := 192) (v := 1) d_Model_stepOn_191 rfl (by decide) ?_
        refine w_iadd (q := 193) d_Model_stepOn_192 rfl ?_
        refine w_put (q := 196) (ci := 12) (j := 13) d_Model_stepOn_193 rfl (by decide) fl_Model_132 (by decide) (by decide) s_54 rfl rfl rfl rfl rfl rfl ?_
        refine w_aload_n (q := 197) d_Model_stepOn_196 rfl rfl ?_
        refine w_iload_n (q := 198) d_Model_stepOn_197 rfl rfl ?_
        obtain ⟨v12, hv, h⟩ := bnd h
        refine w_callSi (q := 201) (M' := M_Model_isMark) (n' := 0) (As := [.int v6]) (sh' := SH) (b1 := (0, 0)) d_Model_stepOn_198 rfl mw_Model_isMark (by decide) (by decide) ml_Model_162 rfl rfl (leb rfl) (bz _) (fun _ => rfl) (ok_Model_isMark hv) ?_
        by_cases c13 : v12 = 0
        · rw [if_pos c13] at h
          refine w_if_eq_t (q := 208) d_Model_stepOn_201 rfl c13 ?_
          refine w_iconst (q := 209) (v := 4) d_Model_stepOn_208 rfl (by decide) ?_
          refine w_put (q := 212) (ci := 12) (j := 15) d_Model_stepOn_209 rfl (by decide) fl_Model_142 (by decide) (by decide) s_54 rfl rfl rfl rfl rfl rfl ?_
          refine w_aload_n (q := 213) d_Model_stepOn_212 rfl rfl ?_
          refine w_aload_n (q := 214) d_Model_stepOn_213 rfl rfl ?_
          refine w_get (q := 217) (ci := 12) (j := 13) d_Model_stepOn_214 rfl (by decide) fl_Model_132 (by decide) (by decide) s_54 rfl rfl ?_
          refine w_put (q := 220) (ci := 12) (j := 18) d_Model_stepOn_217 rfl (by decide) fl_Model_165 (by decide) (by decide) s_54 rfl rfl rfl rfl rfl rfl ?_
          cases h
          exact w_return d_Model_stepOn_220 rfl ⟨rfl, rfl, rfl, rfl⟩
        · rw [if_neg c13] at h
          refine w_if_eq_f (q := 204) d_Model_stepOn_201 208 rfl rfl c13 ?_
          refine w_iconst (q := 205) (v := 3) d_Model_stepOn_204 rfl (by decide) ?_
          refine w_goto (q := 209) d_Model_stepOn_205 rfl ?_
          refine w_put (q := 212) (ci := 12) (j := 15) d_Model_stepOn_209 rfl (by decide) fl_Model_142 (by decide) (by decide) s_54 rfl rfl rfl rfl rfl rfl ?_
          refine w_aload_n (q := 213) d_Model_stepOn_212 rfl rfl ?_
          refine w_aload_n (q := 214) d_Model_stepOn_213 rfl rfl ?_
          refine w_get (q := 217) (ci := 12) (j := 13) d_Model_stepOn_214 rfl (by decide) fl_Model_132 (by decide) (by decide) s_54 rfl rfl ?_
          refine w_put (q := 220) (ci := 12) (j := 18) d_Model_stepOn_217 rfl (by decide) fl_Model_165 (by decide) (by decide) s_54 rfl rfl rfl rfl rfl rfl ?_
          cases h
          exact w_return d_Model_stepOn_220 rfl ⟨rfl, rfl, rfl, rfl⟩
      · rw [if_neg c11] at h
        refine w_if_eq_f (q := 118) d_Model_stepOn_115 186 rfl rfl c11 ?_
        refine w_aload_n (q := 119) d_Model_stepOn_118 rfl rfl ?_
        refine w_iconst (q := 120) (v := 0) d_Model_stepOn_119 rfl (by decide) ?_
        refine w_put (q := 123) (ci := 12) (j := 16) d_Model_stepOn_120 rfl (by decide) fl_Model_152 (by decide) (by decide) s_54 rfl rfl rfl rfl rfl rfl ?_
        obtain ⟨x19, hx, h⟩ := bnd h
        refine w_ls (ls' := [some (.ref 54), none]) (And.intro rfl trivial) ?_
        show PL_Model_stepOn_123 γ tt g _ _ (mset (mset x5 54 17 (x5 54 13)) 54 16 0)
        refine lp_ok (kl_Model_stepOn_123) F _ x19 hx ?_
        unfold QL_Model_stepOn_123
        refine w_aload_n (q := 179) d_Model_stepOn_178 rfl rfl ?_
        refine w_iconst (q := 180) (v := 2) d_Model_stepOn_179 rfl (by decide) ?_
        refine w_put (q := 183) (ci := 12) (j := 15) d_Model_stepOn_180 rfl (by decide) fl_Model_142 (by decide) (by decide) s_54 rfl rfl rfl rfl rfl rfl ?_
        refine w_goto (q := 212) d_Model_stepOn_183 rfl ?_
        refine w_aload_n (q := 213) d_Model_stepOn_212 rfl rfl ?_
        refine w_aload_n (q := 214) d_Model_stepOn_213 rfl rfl ?_
        refine w_get (q := 217) (ci := 12) (j := 13) d_Model_stepOn_214 rfl (by decide) fl_Model_132 (by decide) (by decide) s_54 rfl rfl ?_
        refine w_put (q := 220) (ci := 12) (j := 18) d_Model_stepOn_217 rfl (by decide) fl_Model_165 (by decide) (by decide) s_54 rfl rfl rfl rfl rfl rfl ?_
        cases h
        exact w_return d_Model_stepOn_220 rfl ⟨rfl, rfl, rfl, rfl⟩
    · rw [if_neg c9] at h
      refine w_if_eq_f (q := 76) d_Model_stepOn_73 111 rfl rfl c9 ?_
      obtain ⟨x23, hx, h⟩ := bnd h
      refine w_ls (ls' := [some (.ref 54), none]) (And.intro rfl trivial) ?_
      show PL_Model_stepOn_76 γ tt g _ _ (mset x5 54 17 (x5 54 13))
      refine lp_ok (kl_Model_stepOn_76) F _ x23 hx ?_
      unfold QL_Model_stepOn_76
      refine w_aload_n (q := 104) d_Model_stepOn_103 rfl rfl ?_
      refine w_iconst (q := 105) (v := 1) d_Model_stepOn_104 rfl (by decide) ?_
      refine w_put (q := 108) (ci := 12) (j := 15) d_Model_stepOn_105 rfl (by decide) fl_Model_142 (by decide) (by decide) s_54 rfl rfl rfl rfl rfl rfl ?_
      refine w_goto (q := 212) d_Model_stepOn_108 rfl ?_
      refine w_aload_n (q := 213) d_Model_stepOn_212 rfl rfl ?_
      refine w_aload_n (q := 214) d_Model_stepOn_213 rfl rfl ?_
      refine w_get (q := 217) (ci := 12) (j := 13) d_Model_stepOn_214 rfl (by decide) fl_Model_132 (by decide) (by decide) s_54 rfl rfl ?_
      refine w_put (q := 220) (ci := 12) (j := 18) d_Model_stepOn_217 rfl (by decide) fl_Model_165 (by decide) (by decide) s_54 rfl rfl rfl rfl rfl rfl ?_
      cases h
      exact w_return d_Model_stepOn_220 rfl ⟨rfl, rfl, rfl, rfl⟩
def sp_Model_wrong (p0 : Int32) (g : Mem) : Option (Mem) := if (g 54 19) = 0 then some (mset (mset g 54 19 p0) 54 20 ((mset g 54 19 p0) 54 17)) else some g
theorem ok_Model_wrong {γ : GG} {tt : Bool} {p0 : Int32} {g : Mem} {res : Mem} (h : sp_Model_wrong p0 g = some res) : CA γ M_Model_wrong 0 [.ref 54, .int p0] SH g tt (0, 0) (pV SH res tt) := by
  refine CA.of mw_Model_wrong.1 0 rfl ?_
  show WA γ M_Model_wrong 0 0 [some (.ref 54), some (.int p0)] [] SH g tt (0, 0) (pV SH res tt)
  unfold sp_Model_wrong at h
  refine w_aload_n (q := 1) d_Model_wrong_0 rfl rfl ?_
  refine w_get (q := 4) (ci := 12) (j := 19) d_Model_wrong_1 rfl (by decide) fl_Model_168 (by decide) (by decide) s_54 rfl rfl ?_
  by_cases c1 : (g 54 19) = 0
  · rw [if_pos c1] at h
    refine w_if_eq_t (q := 8) d_Model_wrong_4 rfl c1 ?_
    refine w_aload_n (q := 9) d_Model_wrong_8 rfl rfl ?_
    refine w_iload_n (q := 10) d_Model_wrong_9 rfl rfl ?_
    refine w_put (q := 13) (ci := 12) (j := 19) d_Model_wrong_10 rfl (by decide) fl_Model_168 (by decide) (by decide) s_54 rfl rfl rfl rfl rfl rfl ?_
    refine w_aload_n (q := 14) d_Model_wrong_13 rfl rfl ?_
    refine w_aload_n (q := 15) d_Model_wrong_14 rfl rfl ?_
    refine w_get (q := 18) (ci := 12) (j := 17) d_Model_wrong_15 rfl (by decide) fl_Model_139 (by decide) (by decide) s_54 rfl rfl ?_
    refine w_put (q := 21) (ci := 12) (j := 20) d_Model_wrong_18 rfl (by decide) fl_Model_171 (by decide) (by decide) s_54 rfl rfl rfl rfl rfl rfl ?_
    cases h
    exact w_return d_Model_wrong_21 rfl ⟨rfl, rfl, rfl, rfl⟩
  · rw [if_neg c1] at h
    refine w_if_eq_f (q := 7) d_Model_wrong_4 8 rfl rfl c1 ?_
    cases h
    exact w_return d_Model_wrong_7 rfl ⟨rfl, rfl, rfl, rfl⟩
def PL_Model_is_39 (γ : GG) (tt : Bool) (j0 : Nat) (g : Mem) (b : Nat × Nat) (Φ : PO) (s : Int32 × Int32) : Prop := WA γ M_Model_is 5 39 [some (.ref 54), some (.ref (1048576 + j0)), some (.int s.1), some (.int s.2)] [] SH g tt b Φ
def QL_Model_is_39 (γ : GG) (tt : Bool) (j0 : Nat) (g : Mem) (b : Nat × Nat) (Φ : PO) (x : (Int32)) : Prop := WA γ M_Model_is 5 82 [none, none, some (.int x), none] [] SH g tt b Φ
def st_Model_is_39 (F : Nat) (j0 : Nat) (g : Mem) (s : Int32 × Int32) : Option ((Int32 × Int32) ⊕ ((Int32))) := if s.1 = 0 then some (.inr s.1) else if (slen j0) ≤ s.2 then some (.inr s.1) else (sch j0 s.2).bind fun v6 => (rd g 65 700 ((g 54 17) + s.2)).bind fun v7 => if v6 = v7 then some (.inl (1, s.2 + 1)) else some (.inl (0, s.2 + 1))
theorem kl_Model_is_39 {γ : GG} {tt : Bool} {F : Nat} {j0 : Nat} {g : Mem} {b : Nat × Nat} {Φ : PO} (hj0 : j0 < 39) : ∀ (s : Int32 × Int32) (r : (Int32 × Int32) ⊕ ((Int32))), st_Model_is_39 F j0 g s = some r → RQ (PL_Model_is_39 γ tt j0 g b Φ) (QL_Model_is_39 γ tt j0 g b Φ) r → PL_Model_is_39 γ tt j0 g b Φ s := by
  intro s r h hr
  unfold st_Model_is_39 at h
  unfold PL_Model_is_39
  refine w_iload_n (q := 40) d_Model_is_39 rfl rfl ?_
  by_cases c4 : s.1 = 0
  · rw [if_pos c4] at h
    refine w_if_eq_t (q := 82) d_Model_is_40 rfl c4 ?_
    cases h
    exact w_ls (by exact (And.intro rfl trivial)) hr
  · rw [if_neg c4] at h
    refine w_if_eq_f (q := 43) d_Model_is_40 82 rfl rfl c4 ?_
    refine w_iload_n (q := 44) d_Model_is_43 rfl rfl ?_
    refine w_aload_n (q := 45) d_Model_is_44 rfl rfl ?_
    refine w_callKi (q := 48) (M' := M_JString_length) (n' := 3) (j := j0) (As := []) d_Model_is_45 rfl mw_JString_length (by decide) (by decide) ml_Model_174 hj0 rfl rfl rfl (leb rfl) (ok_JString_length hj0) ?_
    by_cases c5 : (slen j0) ≤ s.2
    · rw [if_pos c5] at h
      refine w_icmp_ge_t (q := 82) d_Model_is_48 rfl c5 ?_
      cases h
      exact w_ls (by exact (And.intro rfl trivial)) hr
    · rw [if_neg c5] at h
      refine w_icmp_ge_f (q := 51) d_Model_is_48 82 rfl rfl c5 ?_
      refine w_aload_n (q := 52) d_Model_is_51 rfl rfl ?_
      refine w_iload_n (q := 53) d_Model_is_52 rfl rfl ?_
      obtain ⟨v6, hv, h⟩ := bnd h
      refine w_callKi (q := 56) (M' := M_JString_charAt) (n' := 4) (j := j0) (As := [.int s.2]) d_Model_is_53 rfl mw_JString_charAt (by decide) (by decide) ml_Model_178 hj0 rfl rfl rfl (leb rfl) (ok_JString_charAt hj0 hv) ?_
      refine w_aload_n (q := 57) d_Model_is_56 rfl rfl ?_
      refine w_get (q := 60) (ci := 12) (j := 11) d_Model_is_57 rfl (by decide) fl_Model_71 (by decide) (by decide) s_54 rfl rfl ?_
      refine w_aload_n (q := 61) d_Model_is_60 rfl rfl ?_
      refine w_get (q := 64) (ci := 12) (j := 17) d_Model_is_61 rfl (by decide) fl_Model_139 (by decide) (by decide) s_54 rfl rfl ?_
      refine w_iload_n (q := 65) d_Model_is_64 rfl rfl ?_
      refine w_iadd (q := 66) d_Model_is_65 rfl ?_
      obtain ⟨v7, hv, h⟩ := bnd h
      obtain ⟨hi, hv⟩ := rd_ok hv
      refine w_iald (q := 67) (t := 0) d_Model_is_66 rfl a_65.2 a_65.1 hi rfl ?_
      rw [hv]
      by_cases c8 : v6 = v7
      · rw [if_pos c8] at h
        refine w_icmp_ne_f (q := 70) d_Model_is_67 74 rfl rfl c8 ?_
        refine w_iconst (q := 71) (v := 1) d_Model_is_70 rfl (by decide) ?_
        refine w_goto (q := 75) d_Model_is_71 rfl ?_
        refine w_istore_n (q := 76) (ls' := [some (.ref 54), some (.ref (1048576 + j0)), some (.int 1), some (.int s.2)]) d_Model_is_75 rfl (by decide) rfl rfl ?_
        refine w_iinc (q := 79) (ls' := [some (.ref 54), some (.ref (1048576 + j0)), some (.int 1), some (.int (s.2 + 1))]) d_Model_is_76 rfl (by decide) rfl rfl rfl ?_
        refine w_goto (q := 39) d_Model_is_79 rfl ?_
        cases h
        exact w_ls (by exact (And.intro rfl (And.intro rfl (And.intro rfl (And.intro rfl trivial))))) hr
      · rw [if_neg c8] at h
        refine w_icmp_ne_t (q := 74) d_Model_is_67 rfl c8 ?_
        refine w_iconst (q := 75) (v := 0) d_Model_is_74 rfl (by decide) ?_
        refine w_istore_n (q := 76) (ls' := [some (.ref 54), some (.ref (1048576 + j0)), some (.int 0), some (.int s.2)]) d_Model_is_75 rfl (by decide) rfl rfl ?_
        refine w_iinc (q := 79) (ls' := [some (.ref 54), some (.ref (1048576 + j0)), some (.int 0), some (.int (s.2 + 1))]) d_Model_is_76 rfl (by decide) rfl rfl rfl ?_
        refine w_goto (q := 39) d_Model_is_79 rfl ?_
        cases h
        exact w_ls (by exact (And.intro rfl (And.intro rfl (And.intro rfl (And.intro rfl trivial))))) hr
def sp_Model_is_j36 (F : Nat) (j0 : Nat) (g : Mem) (y0 : Int32) : Option (Int32) := (lpO (st_Model_is_39 F j0 g) F (y0, 0)).bind fun x9 => (bl x9).bind fun v10 => some v10
theorem ok_Model_is_j36 {γ : GG} {tt : Bool} {F : Nat} {j0 : Nat} {g : Mem} {y0 : Int32} (hj0 : j0 < 39) {res : Int32} (h : sp_Model_is_j36 F j0 g y0 = some res) : WA γ M_Model_is 5 36 [some (.ref 54), some (.ref (1048576 + j0)), none, none] [.int y0] SH g tt (0, 0) (pI SH res g tt) := by
  unfold sp_Model_is_j36 at h
  refine w_istore_n (q := 37) (ls' := [some (.ref 54), some (.ref (1048576 + j0)), some (.int y0), none]) d_Model_is_36 rfl (by decide) rfl rfl ?_
  refine w_iconst (q := 38) (v := 0) d_Model_is_37 rfl (by decide) ?_
  refine w_istore_n (q := 39) (ls' := [some (.ref 54), some (.ref (1048576 + j0)), some (.int y0), some (.int 0)]) d_Model_is_38 rfl (by decide) rfl rfl ?_
  obtain ⟨x9, hx, h⟩ := bnd h
  refine w_ls (ls' := [some (.ref 54), some (.ref (1048576 + j0)), some (.int y0), some (.int 0)]) (And.intro rfl (And.intro rfl (And.intro rfl (And.intro rfl trivial)))) ?_
  show PL_Model_is_39 γ tt j0 g _ _ (y0, 0)
  refine lp_ok (kl_Model_is_39 hj0) F _ x9 hx ?_
  unfold QL_Model_is_39
  refine w_iload_n (q := 83) d_Model_is_82 rfl rfl ?_
  obtain ⟨v10, hv, h⟩ := bnd h
  obtain ⟨hv, hn⟩ := bl_ok hv
  rw [hv] at h
  cases h
  exact w_ireturn d_Model_is_83 rfl hn ⟨rfl, rfl, rfl, rfl⟩
def sp_Model_is_j35 (F : Nat) (j0 : Nat) (g : Mem) : Option (Int32) := sp_Model_is_j36 F j0 g 0
theorem ok_Model_is_j35 {γ : GG} {tt : Bool} {F : Nat} {j0 : Nat} {g : Mem} (hj0 : j0 < 39) {res : Int32} (h : sp_Model_is_j35 F j0 g  = some res) : WA γ M_Model_is 5 35 [some (.ref 54), some (.ref (1048576 + j0)), none, none] [] SH g tt (0, 0) (pI SH res g tt) := by
  unfold sp_Model_is_j35 at h
  refine w_iconst (q := 36) (v := 0) d_Model_is_35 rfl (by decide) ?_
  refine w_ls (ls' := [some (.ref 54), some (.ref (1048576 + j0)), none, none]) (And.intro rfl (And.intro rfl trivial)) ?_
  exact ok_Model_is_j36 hj0 h
def sp_Model_is (F : Nat) (j0 : Nat) (g : Mem) : Option (Int32) := if (g 54 19) = 0 then if (g 54 15) = 1 then if (slen j0) = ((g 54 18) - (g 54 17)) then sp_Model_is_j36 F j0 g 1 else sp_Model_is_j35 F j0 g else sp_Model_is_j35 F j0 g else sp_Model_is_j35 F j0 g
theorem ok_Model_is {γ : GG} {tt : Bool} {F : Nat} {j0 : Nat} {g : Mem} (hj0 : j0 < 39) {res : Int32} (h : sp_Model_is F j0 g = some res) : CA γ M_Model_is 5 [.ref 54, .ref (1048576 + j0)] SH g tt (0, 0) (pI SH res g tt) := by
  refine CA.of mw_Model_is.1 2 rfl ?_
  show WA γ M_Model_is 5 0 [some (.ref 54), some (.ref (1048576 + j0)), none, none] [] SH g tt (0, 0) (pI SH res g tt)
  unfold sp_Model_is at h
  refine w_aload_n (q := 1) d_Model_is_0 rfl rfl ?_
  refine w_get (q := 4) (ci := 12) (j := 19) d_Model_is_1 rfl (by decide) fl_Model_168 (by decide) (by decide) s_54 rfl rfl ?_
  by_cases c1 : (g 54 19) = 0
  · rw [if_pos c1] at h
    refine w_if_ne_f (q := 7) d_Model_is_4 35 rfl rfl c1 ?_
    refine w_aload_n (q := 8) d_Model_is_7 rfl rfl ?_
    refine w_get (q := 11) (ci := 12) (j := 15) d_Model_is_8 rfl (by decide) fl_Model_142 (by decide) (by decide) s_54 rfl rfl ?_
    refine w_iconst (q := 12) (v := 1) d_Model_is_11 rfl (by decide) ?_
    by_cases c2 : (g 54 15) = 1
    · rw [if_pos c2] at h
      refine w_icmp_ne_f (q := 15) d_Model_is_12 35 rfl rfl c2 ?_
      refine w_aload_n (q := 16) d_Model_is_15 rfl rfl ?_
      refine w_callKi (q := 19) (M' := M_JString_length) (n' := 3) (j := j0) (As := []) d_Model_is_16 rfl mw_JString_length (by decide) (by decide) ml_Model_174 hj0 rfl rfl rfl (leb rfl) (ok_JString_length hj0) ?_
      refine w_aload_n (q := 20) d_Model_is_19 rfl rfl ?_
      refine w_get (q := 23) (ci := 12) (j := 18) d_Model_is_20 rfl (by decide) fl_Model_165 (by decide) (by decide) s_54 rfl rfl ?_
      refine w_aload_n (q := 24) d_Model_is_23 rfl rfl ?_
      refine w_get (q := 27) (ci := 12) (j := 17) d_Model_is_24 rfl (by decide) fl_Model_139 (by decide) (by decide) s_54 rfl rfl ?_
      refine w_isub (q := 28) d_Model_is_27 rfl ?_
      by_cases c3 : (slen j0) = ((g 54 18) - (g 54 17))
      · rw [if_pos c3] at h
        refine w_icmp_ne_f (q := 31) d_Model_is_28 35 rfl rfl c3 ?_
        refine w_iconst (q := 32) (v := 1) d_Model_is_31 rfl (by decide) ?_
        refine w_goto (q := 36) d_Model_is_32 rfl ?_
        refine w_ls (ls' := [some (.ref 54), some (.ref (1048576 + j0)), none, none]) (And.intro rfl (And.intro rfl trivial)) ?_
        exact ok_Model_is_j36 hj0 h
      · rw [if_neg c3] at h
        refine w_icmp_ne_t (q := 35) d_Model_is_28 rfl c3 ?_
        refine w_ls (ls' := [some (.ref 54), some (.ref (1048576 + j0)), none, none]) (And.intro rfl (And.intro rfl trivial)) ?_
        exact ok_Model_is_j35 hj0 h
    · rw [if_neg c2] at h
      refine w_icmp_ne_t (q := 35) d_Model_is_12 rfl c2 ?_
      refine w_ls (ls' := [some (.ref 54), some (.ref (1048576 + j0)), none, none]) (And.intro rfl (And.intro rfl trivial)) ?_
      exact ok_Model_is_j35 hj0 h
  · rw [if_neg c1] at h
    refine w_if_ne_t (q := 35) d_Model_is_4 rfl c1 ?_
    refine w_ls (ls' := [some (.ref 54), some (.ref (1048576 + j0)), none, none]) (And.intro rfl (And.intro rfl trivial)) ?_
    exact ok_Model_is_j35 hj0 h
def PL_Model_which_2 (γ : GG) (tt : Bool) (q0 : Nat) (q0j : Nat) (q0n : Nat) (g : Mem) (b : Nat × Nat) (Φ : PO) (s : Int32) : Prop := WA γ M_Model_which 6 2 [some (.ref 54), some (.ref q0), some (.int s)] [] SH g tt b Φ
def QL_Model_which_2 (γ : GG) (tt : Bool) (q0 : Nat) (q0j : Nat) (q0n : Nat) (g : Mem) (b : Nat × Nat) (Φ : PO) (x : (Int32) ⊕ (Unit)) : Prop := match x with
  | .inl x => WA γ M_Model_which 6 18 [none, none, some (.int x)] [] SH g tt b Φ
  | .inr x => WA γ M_Model_which 6 26 [none, none, none] [] SH g tt b Φ
def st_Model_which_2 (F : Nat) (q0 : Nat) (q0j : Nat) (q0n : Nat) (g : Mem) (s : Int32) : Option ((Int32) ⊕ ((Int32) ⊕ (Unit))) := if (Int32.ofNat q0n) ≤ s then some (.inr (.inr ())) else (rS q0n s).bind fun v2 => (sp_Model_is F (q0j + (s).toNatClampNeg) g).bind fun v3 => if v3 = 0 then some (.inl (s + 1)) else some (.inr (.inl s))
theorem kl_Model_which_2 {γ : GG} {tt : Bool} {F : Nat} {q0 : Nat} {q0j : Nat} {q0n : Nat} {g : Mem} {b : Nat × Nat} {Φ : PO} (hq0 : isS SH q0 q0j q0n) : ∀ (s : Int32) (r : (Int32) ⊕ ((Int32) ⊕ (Unit))), st_Model_which_2 F q0 q0j q0n g s = some r → RQ (PL_Model_which_2 γ tt q0 q0j q0n g b Φ) (QL_Model_which_2 γ tt q0 q0j q0n g b Φ) r → PL_Model_which_2 γ tt q0 q0j q0n g b Φ s := by
  intro s r h hr
  unfold st_Model_which_2 at h
  unfold PL_Model_which_2
  refine w_iload_n (q := 3) d_Model_which_2 rfl rfl ?_
  refine w_aload_n (q := 4) d_Model_which_3 rfl rfl ?_
  refine w_alen (q := 5) d_Model_which_4 rfl hq0.2.1 hq0.1 (Or.inr rfl) rfl ?_
  by_cases c1 : (Int32.ofNat q0n) ≤ s
  · rw [if_pos c1] at h
    refine w_icmp_ge_t (q := 26) d_Model_which_5 rfl c1 ?_
    cases h
    exact w_ls (by exact trivial) hr
  · rw [if_neg c1] at h
    refine w_icmp_ge_f (q := 8) d_Model_which_5 26 rfl rfl c1 ?_
    refine w_aload_n (q := 9) d_Model_which_8 rfl rfl ?_
    refine w_aload_n (q := 10) d_Model_which_9 rfl rfl ?_
    refine w_iload_n (q := 11) d_Model_which_10 rfl rfl ?_
    obtain ⟨v2, hv, h⟩ := bnd h
    obtain ⟨hi, -⟩ := rS_ok hv
    refine w_aald (q := 12) (r := 1048576 + (q0j + (s).toNatClampNeg)) d_Model_which_11 rfl hq0.2.1 hq0.1 hi (isS_at hq0 hi) ?_
    obtain ⟨v3, hv, h⟩ := bnd h
    refine w_callVi (q := 15) (M' := M_Model_is) (n' := 5) (k := 54) (As := [.ref (1048576 + (q0j + (s).toNatClampNeg))]) (sh' := SH) (b1 := (0, 0)) d_Model_which_12 rfl mw_Model_is (by decide) (by decide) ml_Model_182 (by decide) s_54 (by decide) rfl rfl rfl (leb rfl) (bz _) (fun _ => rfl) (ok_Model_is (isS_lt hq0 hi) hv) ?_
    by_cases c4 : v3 = 0
    · rw [if_pos c4] at h
      refine w_if_eq_t (q := 20) d_Model_which_15 rfl c4 ?_
      refine w_iinc (q := 23) (ls' := [some (.ref 54), some (.ref q0), some (.int (s + 1))]) d_Model_which_20 rfl (by decide) rfl rfl rfl ?_
      refine w_goto (q := 2) d_Model_which_23 rfl ?_
      cases h
      exact w_ls (by exact (And.intro rfl (And.intro rfl (And.intro rfl trivial)))) hr
    · rw [if_neg c4] at h
      refine w_if_eq_f (q := 18) d_Model_which_15 20 rfl rfl c4 ?_
      cases h
      exact w_ls (by exact (And.intro rfl trivial)) hr
def sp_Model_which (F : Nat) (q0 : Nat) (q0j : Nat) (q0n : Nat) (g : Mem) : Option (Int32) := (lpO (st_Model_which_2 F q0 q0j q0n g) F 0).bind fun x5 => match x5 with | .inl x6 => some x6 | .inr x7 => some (-1)
theorem ok_Model_which {γ : GG} {tt : Bool} {F : Nat} {q0 : Nat} {q0j : Nat} {q0n : Nat} {g : Mem} (hq0 : isS SH q0 q0j q0n) {res : Int32} (h : sp_Model_which F q0 q0j q0n g = some res) : CA γ M_Model_which 6 [.ref 54, .ref q0] SH g tt (0, 0) (pI SH res g tt) := by
  refine CA.of mw_Model_which.1 1 rfl ?_
  show WA γ M_Model_which 6 0 [some (.ref 54), some (.ref q0), none] [] SH g tt (0, 0) (pI SH res g tt)
  unfold sp_Model_which at h
  refine w_iconst (q := 1) (v := 0) d_Model_which_0 rfl (by decide) ?_
  refine w_istore_n (q := 2) (ls' := [some (.ref 54), some (.ref q0), some (.int 0)]) d_Model_which_1 rfl (by decide) rfl rfl ?_
  obtain ⟨x5, hx, h⟩ := bnd h
  refine w_ls (ls' := [some (.ref 54), some (.ref q0), some (.int 0)]) (And.intro rfl (And.intro rfl (And.intro rfl trivial))) ?_
  show PL_Model_which_2 γ tt q0 q0j q0n g _ _ 0
  refine lp_ok (kl_Model_which_2 hq0) F _ x5 hx ?_
  unfold QL_Model_which_2
  rcases x5 with x6 | x7
  · dsimp only at h ⊢
    refine w_iload_n (q := 19) d_Model_which_18 rfl rfl ?_
    cases h
    exact w_ireturn d_Model_which_19 rfl rfl ⟨rfl, rfl, rfl, rfl⟩
  · dsimp only at h ⊢
    refine w_iconst (q := 27) (v := (-1)) d_Model_which_26 rfl (by decide) ?_
    cases h
    exact w_ireturn d_Model_which_27 rfl rfl ⟨rfl, rfl, rfl, rfl⟩
def sp_Model_isMarked (p0 : Int32) (g : Mem) : Option (Int32) := if (g 54 19) = 0 then if (g 54 15) = 3 then (rd g 65 700 (g 54 17)).bind fun v3 => if v3 = p0 then some 1 else some 0 else some 0 else some 0
theorem ok_Model_isMarked {γ : GG} {tt : Bool} {p0 : Int32} {g : Mem} {res : Int32} (h : sp_Model_isMarked p0 g = some res) : CA γ M_Model_isMarked 0 [.ref 54, .int p0] SH g tt (0, 0) (pI SH res g tt) := by
  refine CA.of mw_Model_isMarked.1 0 rfl ?_
  show WA γ M_Model_isMarked 0 0 [some (.ref 54), some (.int p0)] [] SH g tt (0, 0) (pI SH res g tt)
  unfold sp_Model_isMarked at h
  refine w_aload_n (q := 1) d_Model_isMarked_0 rfl rfl ?_
  refine w_get (q := 4) (ci := 12) (j := 19) d_Model_isMarked_1 rfl (by decide) fl_Model_168 (by decide) (by decide) s_54 rfl rfl ?_
  by_cases c1 : (g 54 19) = 0
  · rw [if_pos c1] at h
    refine w_if_ne_f (q := 7) d_Model_isMarked_4 32 rfl rfl c1 ?_
    refine w_aload_n (q := 8) d_Model_isMarked_7 rfl rfl ?_
    refine w_get (q := 11) (ci := 12) (j := 15) d_Model_isMarked_8 rfl (by decide) fl_Model_142 (by decide) (by decide) s_54 rfl rfl ?_
    refine w_iconst (q := 12) (v := 3) d_Model_isMarked_11 rfl (by decide) ?_
    by_cases c2 : (g 54 15) = 3
    · rw [if_pos c2] at h
      refine w_icmp_ne_f (q := 15) d_Model_isMarked_12 32 rfl rfl c2 ?_
      refine w_aload_n (q := 16) d_Model_isMarked_15 rfl rfl ?_
      refine w_get (q := 19) (ci := 12) (j := 11) d_Model_isMarked_16 rfl (by decide) fl_Model_71 (by decide) (by decide) s_54 rfl rfl ?_
      refine w_aload_n (q := 20) d_Model_isMarked_19 rfl rfl ?_
      refine w_get (q := 23) (ci := 12) (j := 17) d_Model_isMarked_20 rfl (by decide) fl_Model_139 (by decide) (by decide) s_54 rfl rfl ?_
      obtain ⟨v3, hv, h⟩ := bnd h
      obtain ⟨hi, hv⟩ := rd_ok hv
      refine w_iald (q := 24) (t := 0) d_Model_isMarked_23 rfl a_65.2 a_65.1 hi rfl ?_
      rw [hv]
      refine w_iload_n (q := 25) d_Model_isMarked_24 rfl rfl ?_
      by_cases c4 : v3 = p0
      · rw [if_pos c4] at h
        refine w_icmp_ne_f (q := 28) d_Model_isMarked_25 32 rfl rfl c4 ?_
        refine w_iconst (q := 29) (v := 1) d_Model_isMarked_28 rfl (by decide) ?_
        refine w_goto (q := 33) d_Model_isMarked_29 rfl ?_
        cases h
        exact w_ireturn d_Model_isMarked_33 rfl rfl ⟨rfl, rfl, rfl, rfl⟩
      · rw [if_neg c4] at h
        refine w_icmp_ne_t (q := 32) d_Model_isMarked_25 rfl c4 ?_
        refine w_iconst (q := 33) (v := 0) d_Model_isMarked_32 rfl (by decide) ?_
        cases h
        exact w_ireturn d_Model_isMarked_33 rfl rfl ⟨rfl, rfl, rfl, rfl⟩
    · rw [if_neg c2] at h
      refine w_icmp_ne_t (q := 32) d_Model_isMarked_12 rfl c2 ?_
      refine w_iconst (q := 33) (v := 0) d_Model_isMarked_32 rfl (by decide) ?_
      cases h
      exact w_ireturn d_Model_isMarked_33 rfl rfl ⟨rfl, rfl, rfl, rfl⟩
  · rw [if_neg c1] at h
    refine w_if_ne_t (q := 32) d_Model_isMarked_4 rfl c1 ?_
    refine w_iconst (q := 33) (v := 0) d_Model_isMarked_32 rfl (by decide) ?_
    cases h
    exact w_ireturn d_Model_isMarked_33 rfl rfl ⟨rfl, rfl, rfl, rfl⟩
def sp_Model_mark_j20 (F : Nat) (p0 : Int32) (g : Mem) (m0 : Mem) : Option (Mem) := if (m0 54 19) = 0 then (sp_Model_stepOn F m0).bind fun v6 => some v6 else some m0
theorem ok_Model_mark_j20 {γ : GG} {tt : Bool} {F : Nat} {p0 : Int32} {g : Mem} {m0 : Mem} {res : Mem} (h : sp_Model_mark_j20 F p0 g m0  = some res) : WA γ M_Model_mark 2 20 [some (.ref 54), none] [] SH m0 tt (0, 0) (pV SH res tt) := by
  unfold sp_Model_mark_j20 at h
  refine w_aload_n (q := 21) d_Model_mark_20 rfl rfl ?_
  refine w_get (q := 24) (ci := 12) (j := 19) d_Model_mark_21 rfl (by decide) fl_Model_168 (by decide) (by decide) s_54 rfl rfl ?_
  by_cases c5 : (m0 54 19) = 0
  · rw [if_pos c5] at h
    refine w_if_ne_f (q := 27) d_Model_mark_24 31 rfl rfl c5 ?_
    refine w_aload_n (q := 28) d_Model_mark_27 rfl rfl ?_
    obtain ⟨v6, hv, h⟩ := bnd h
    refine w_callVv (q := 31) (M' := M_Model_stepOn) (n' := 1) (k := 54) (As := []) (sh' := SH) (b1 := (0, 0)) d_Model_mark_28 rfl mw_Model_stepOn (by decide) (by decide) ml_Model_193 (by decide) s_54 (by decide) rfl rfl rfl (leb rfl) (bz _) (fun _ => rfl) (ok_Model_stepOn hv) ?_
    cases h
    exact w_return d_Model_mark_31 rfl ⟨rfl, rfl, rfl, rfl⟩
  · rw [if_neg c5] at h
    refine w_if_ne_t (q := 31) d_Model_mark_24 rfl c5 ?_
    cases h
    exact w_return d_Model_mark_31 rfl ⟨rfl, rfl, rfl, rfl⟩
def sp_Model_mark (F : Nat) (p0 : Int32) (g : Mem) : Option (Mem) := if (g 54 19) = 0 then (sp_Model_isMarked p0 g).bind fun v2 => if v2 = 0 then (sp_Model_wrong 1 g).bind fun v4 => sp_Model_mark_j20 F p0 g v4 else sp_Model_mark_j20 F p0 g g else sp_Model_mark_j20 F p0 g g
theorem ok_Model_mark {γ : GG} {tt : Bool} {F : Nat} {p0 : Int32} {g : Mem} {res : Mem} (h : sp_Model_mark F p0 g = some res) : CA γ M_Model_mark 2 [.ref 54, .int p0] SH g tt (0, 0) (pV SH res tt) := by
  refine CA.of mw_Model_mark.1 0 rfl ?_
  show WA γ M_Model_mark 2 0 [some (.ref 54), some (.int p0)] [] SH g tt (0, 0) (pV SH res tt)
  unfold sp_Model_mark at h
  refine w_aload_n (q := 1) d_Model_mark_0 rfl rfl ?_
  refine w_get (q := 4) (ci := 12) (j := 19) d_Model_mark_1 rfl (by decide) fl_Model_168 (by decide) (by decide) s_54 rfl rfl ?_
  by_cases c1 : (g 54 19) = 0
  · rw [if_pos c1] at h
    refine w_if_ne_f (q := 7) d_Model_mark_4 20 rfl rfl c1 ?_
    refine w_aload_n (q := 8) d_Model_mark_7 rfl rfl ?_
    refine w_iload_n (q := 9) d_Model_mark_8 rfl rfl ?_
    obtain ⟨v2, hv, h⟩ := bnd h
    refine w_callVi (q := 12) (M' := M_Model_isMarked) (n' := 0) (k := 54) (As := [.int p0]) (sh' := SH) (b1 := (0, 0)) d_Model_mark_9 rfl mw_Model_isMarked (by decide) (by decide) ml_Model_186 (by decide) s_54 (by decide) rfl rfl rfl (leb rfl) (bz _) (fun _ => rfl) (ok_Model_isMarked hv) ?_
    by_cases c3 : v2 = 0
    · rw [if_pos c3] at h
      refine w_if_ne_f (q := 15) d_Model_mark_12 20 rfl rfl c3 ?_
      refine w_aload_n (q := 16) d_Model_mark_15 rfl rfl ?_
      refine w_iconst (q := 17) (v := 1) d_Model_mark_16 rfl (by decide) ?_
      obtain ⟨v4, hv, h⟩ := bnd h
      refine w_callVv (q := 20) (M' := M_Model_wrong) (n' := 0) (k := 54) (As := [.int 1]) (sh' := SH) (b1 := (0, 0)) d_Model_mark_17 rfl mw_Model_wrong (by decide) (by decide) ml_Model_189 (by decide) s_54 (by decide) rfl rfl rfl (leb rfl) (bz _) (fun _ => rfl) (ok_Model_wrong hv) ?_
      refine w_ls (ls' := [some (.ref 54), none]) (And.intro rfl trivial) ?_
      exact ok_Model_mark_j20 h
    · rw [if_neg c3] at h
      refine w_if_ne_t (q := 20) d_Model_mark_12 rfl c3 ?_
      refine w_ls (ls' := [some (.ref 54), none]) (And.intro rfl trivial) ?_
      exact ok_Model_mark_j20 h
  · rw [if_neg c1] at h
    refine w_if_ne_t (q := 20) d_Model_mark_4 rfl c1 ?_
    refine w_ls (ls' := [some (.ref 54), none]) (And.intro rfl trivial) ?_
    exact ok_Model_mark_j20 h
def sp_Model_numberNow_j59 (p0 : Int32) (p1 : Int32) (g : Mem) (m0 : Mem) : Option (Int32 × Mem) := if (m0 54 19) = 0 then some (m0 54 16, m0) else some (0, m0)
theorem ok_Model_numberNow_j59 {γ : GG} {tt : Bool} {p0 : Int32} {p1 : Int32} {g : Mem} {m0 : Mem} {res : Int32 × Mem} (h : sp_Model_numberNow_j59 p0 p1 g m0  = some res) : WA γ M_Model_numberNow 1 59 [some (.ref 54), none, none] [] SH m0 tt (0, 0) (pI SH res.1 res.2 tt) := by
  unfold sp_Model_numberNow_j59 at h
  refine w_aload_n (q := 60) d_Model_numberNow_59 rfl rfl ?_
  refine w_get (q := 63) (ci := 12) (j := 19) d_Model_numberNow_60 rfl (by decide) fl_Model_168 (by decide) (by decide) s_54 rfl rfl ?_
  by_cases c5 : (m0 54 19) = 0
  · rw [if_pos c5] at h
    refine w_if_ne_f (q := 66) d_Model_numberNow_63 73 rfl rfl c5 ?_
    refine w_aload_n (q := 67) d_Model_numberNow_66 rfl rfl ?_
    refine w_get (q := 70) (ci := 12) (j := 16) d_Model_numberNow_67 rfl (by decide) fl_Model_152 (by decide) (by decide) s_54 rfl rfl ?_
    refine w_goto (q := 74) d_Model_numberNow_70 rfl ?_
    cases h
    exact w_ireturn d_Model_numberNow_74 rfl rfl ⟨rfl, rfl, rfl, rfl⟩
  · rw [if_neg c5] at h
    refine w_if_ne_t (q := 73) d_Model_numberNow_63 rfl c5 ?_
    refine w_iconst (q := 74) (v := 0) d_Model_numberNow_73 rfl (by decide) ?_
    cases h
    exact w_ireturn d_Model_numberNow_74 rfl rfl ⟨rfl, rfl, rfl, rfl⟩
def sp_Model_numberNow_j54 (p0 : Int32) (p1 : Int32) (g : Mem) (m0 : Mem) : Option (Int32 × Mem) := (sp_Model_wrong 2 m0).bind fun v4 => sp_Model_numberNow_j59 p0 p1 g v4
theorem ok_Model_numberNow_j54 {γ : GG} {tt : Bool} {p0 : Int32} {p1 : Int32} {g : Mem} {m0 : Mem} {res : Int32 × Mem} (h : sp_Model_numberNow_j54 p0 p1 g m0  = some res) : WA γ M_Model_numberNow 1 54 [some (.ref 54), none, none] [] SH m0 tt (0, 0) (pI SH res.1 res.2 tt) := by
  unfold sp_Model_numberNow_j54 at h
  refine w_aload_n (q := 55) d_Model_numberNow_54 rfl rfl ?_
  refine w_iconst (q := 56) (v := 2) d_Model_numberNow_55 rfl (by decide) ?_
  obtain ⟨v4, hv, h⟩ := bnd h
  refine w_callVv (q := 59) (M' := M_Model_wrong) (n' := 0) (k := 54) (As := [.int 2]) (sh' := SH) (b1 := (0, 0)) d_Model_numberNow_56 rfl mw_Model_wrong (by decide) (by decide) ml_Model_189 (by decide) s_54 (by decide) rfl rfl rfl (leb rfl) (bz _) (fun _ => rfl) (ok_Model_wrong hv) ?_
  refine w_ls (ls' := [some (.ref 54), none, none]) (And.intro rfl trivial) ?_
  exact ok_Model_numberNow_j59 h
def sp_Model_numberNow (p0 : Int32) (p1 : Int32) (g : Mem) : Option (Int32 × Mem) := if (g 54 19) = 0 then if (g 54 15) = 2 then if 4 < ((g 54 18) - (g 54 17)) then sp_Model_numberNow_j54 p0 p1 g g else if (g 54 16) < p0 then sp_Model_numberNow_j54 p0 p1 g g else if (g 54 16) ≤ p1 then sp_Model_numberNow_j59 p0 p1 g g else sp_Model_numberNow_j54 p0 p1 g g else (sp_Model_wrong 1 g).bind fun v8 => sp_Model_numberNow_j59 p0 p1 g v8 else some (0, g)
theorem ok_Model_numberNow {γ : GG} {tt : Bool} {p0 : Int32} {p1 : Int32} {g : Mem} {res : Int32 × Mem} (h : sp_Model_numberNow p0 p1 g = some res) : CA γ M_Model_numberNow 1 [.ref 54, .int p0, .int p1] SH g tt (0, 0) (pI SH res.1 res.2 tt) := by
  refine CA.of mw_Model_numberNow.1 0 rfl ?_
  show WA γ M_Model_numberNow 1 0 [some (.ref 54), some (.int p0), some (.int p1)] [] SH g tt (0, 0) (pI SH res.1 res.2 tt)
  unfold sp_Model_numberNow at h
  refine w_aload_n (q := 1) d_Model_numberNow_0 rfl rfl ?_
  refine w_get (q := 4) (ci := 12) (j := 19) d_Model_numberNow_1 rfl (by decide) fl_Model_168 (by decide) (by decide) s_54 rfl rfl ?_
  by_cases c1 : (g 54 19) = 0
  · rw [if_pos c1] at h
    refine w_if_eq_t (q := 9) d_Model_numberNow_4 rfl c1 ?_
    refine w_aload_n (q := 10) d_Model_numberNow_9 rfl rfl ?_
    refine w_get (q := 13) (ci := 12) (j := 15) d_Model_numberNow_10 rfl (by decide) fl_Model_142 (by decide) (by decide) s_54 rfl rfl ?_
    refine w_iconst (q := 14) (v := 2) d_Model_numberNow_13 rfl (by decide) ?_
    by_cases c2 : (g 54 15) = 2
    · rw [if_pos c2] at h
      refine w_icmp_eq_t (q := 25) d_Model_numberNow_14 rfl c2 ?_
      refine w_aload_n (q := 26) d_Model_numberNow_25 rfl rfl ?_
      refine w_get (q := 29) (ci := 12) (j := 18) d_Model_numberNow_26 rfl (by decide) fl_Model_165 (by decide) (by decide) s_54 rfl rfl ?_
      refine w_aload_n (q := 30) d_Model_numberNow_29 rfl rfl ?_
      refine w_get (q := 33) (ci := 12) (j := 17) d_Model_numberNow_30 rfl (by decide) fl_Model_139 (by decide) (by decide) s_54 rfl rfl ?_
      refine w_isub (q := 34) d_Model_numberNow_33 rfl ?_
      refine w_iconst (q := 35) (v := 4) d_Model_numberNow_34 rfl (by decide) ?_
      by_cases c3 : 4 < ((g 54 18) - (g 54 17))
      · rw [if_pos c3] at h
        refine w_icmp_gt_t (q := 54) d_Model_numberNow_35 rfl c3 ?_
        refine w_ls (ls' := [some (.ref 54), none, none]) (And.intro rfl trivial) ?_
        exact ok_Model_numberNow_j54 h
      · rw [if_neg c3] at h
        refine w_icmp_gt_f (q := 38) d_Model_numberNow_35 54 rfl rfl c3 ?_
        refine w_aload_n (q := 39) d_Model_numberNow_38 rfl rfl ?_
        refine w_get (q := 42) (ci := 12) (j := 16) d_Model_numberNow_39 rfl (by decide) fl_Model_152 (by decide) (by decide) s_54 rfl rfl ?_
        refine w_iload_n (q := 43) d_Model_numberNow_42 rfl rfl ?_
        by_cases c6 : (g 54 16) < p0
        · rw [if_pos c6] at h
          refine w_icmp_lt_t (q := 54) d_Model_numberNow_43 rfl c6 ?_
          refine w_ls (ls' := [some (.ref 54), none, none]) (And.intro rfl trivial) ?_
          exact ok_Model_numberNow_j54 h
        · rw [if_neg c6] at h
          refine w_icmp_lt_f (q := 46) d_Model_numberNow_43 54 rfl rfl c6 ?_
          refine w_aload_n (q := 47) d_Model_numberNow_46 rfl rfl ?_
          refine w_get (q := 50) (ci := 12) (j := 16) d_Model_numberNow_47 rfl (by decide) fl_Model_152 (by decide) (by decide) s_54 rfl rfl ?_
          refine w_iload_n (q := 51) d_Model_numberNow_50 rfl rfl ?_
          by_cases c7 : (g 54 16) ≤ p1
          · rw [if_pos c7] at h
            refine w_icmp_le_t (q := 59) d_Model_numberNow_51 rfl c7 ?_
            refine w_ls (ls' := [some (.ref 54), none, none]) (And.intro rfl trivial) ?_
            exact ok_Model_numberNow_j59 h
          · rw [if_neg c7] at h
            refine w_icmp_le_f (q := 54) d_Model_numberNow_51 59 rfl rfl c7 ?_
            refine w_ls (ls' := [some (.ref 54), none, none]) (And.intro rfl trivial) ?_
            exact ok_Model_numberNow_j54 h
    · rw [if_neg c2] at h
      refine w_icmp_eq_f (q := 17) d_Model_numberNow_14 25 rfl rfl c2 ?_
      refine w_aload_n (q := 18) d_Model_numberNow_17 rfl rfl ?_
      refine w_iconst (q := 19) (v := 1) d_Model_numberNow_18 rfl (by decide) ?_
      obtain ⟨v8, hv, h⟩ := bnd h
      refine w_callVv (q := 22) (M' := M_Model_wrong) (n' := 0) (k := 54) (As := [.int 1]) (sh' := SH) (b1 := (0, 0)) d_Model_numberNow_19 rfl mw_Model_wrong (by decide) (by decide) ml_Model_189 (by decide) s_54 (by decide) rfl rfl rfl (leb rfl) (bz _) (fun _ => rfl) (ok_Model_wrong hv) ?_
      refine w_goto (q := 59) d_Model_numberNow_22 rfl ?_
      refine w_ls (ls' := [some (.ref 54), none, none]) (And.intro rfl trivial) ?_
      exact ok_Model_numberNow_j59 h
  · rw [if_neg c1] at h
    refine w_if_eq_f (q := 7) d_Model_numberNow_4 9 rfl rfl c1 ?_
    refine w_iconst (q := 8) (v := 0) d_Model_numberNow_7 rfl (by decide) ?_
    cases h
    exact w_ireturn d_Model_numberNow_8 rfl rfl ⟨rfl, rfl, rfl, rfl⟩
def sp_Model_readNumber (F : Nat) (p0 : Int32) (p1 : Int32) (g : Mem) : Option (Int32 × Mem) := (sp_Model_numberNow p0 p1 g).bind fun v1 => if (v1.2 54 19) = 0 then (sp_Model_stepOn F v1.2).bind fun v3 => some (v1.1, v3) else some (v1.1, v1.2)
theorem ok_Model_readNumber {γ : GG} {tt : Bool} {F : Nat} {p0 : Int32} {p1 : Int32} {g : Mem} {res : Int32 × Mem} (h : sp_Model_readNumber F p0 p1 g = some res) : CA γ M_Model_readNumber 2 [.ref 54, .int p0, .int p1] SH g tt (0, 0) (pI SH res.1 res.2 tt) := by
  refine CA.of mw_Model_readNumber.1 1 rfl ?_
  show WA γ M_Model_readNumber 2 0 [some (.ref 54), some (.int p0), some (.int p1), none] [] SH g tt (0, 0) (pI SH res.1 res.2 tt)
  unfold sp_Model_readNumber at h
  refine w_aload_n (q := 1) d_Model_readNumber_0 rfl rfl ?_
  refine w_iload_n (q := 2) d_Model_readNumber_1 rfl rfl ?_
  refine w_iload_n (q := 3) d_Model_readNumber_2 rfl rfl ?_
  obtain ⟨v1, hv, h⟩ := bnd h
  refine w_callVi (q := 6) (M' := M_Model_numberNow) (n' := 1) (k := 54) (As := [.int p0, .int p1]) (sh' := SH) (b1 := (0, 0)) d_Model_readNumber_3 rfl mw_Model_numberNow (by decide) (by decide) ml_Model_196 (by decide) s_54 (by decide) rfl rfl rfl (leb rfl) (bz _) (fun _ => rfl) (ok_Model_numberNow hv) ?_
  refine w_istore_n (q := 7) (ls' := [some (.ref 54), some (.int p0), some (.int p1), some (.int v1.1)]) d_Model_readNumber_6 rfl (by decide) rfl rfl ?_
  refine w_aload_n (q := 8) d_Model_readNumber_7 rfl rfl ?_
  refine w_get (q := 11) (ci := 12) (j := 19) d_Model_readNumber_8 rfl (by decide) fl_Model_168 (by decide) (by decide) s_54 rfl rfl ?_
  by_cases c2 : (v1.2 54 19) = 0
  · rw [if_pos c2] at h
    refine w_if_ne_f (q := 14) d_Model_readNumber_11 18 rfl rfl c2 ?_
    refine w_aload_n (q := 15) d_Model_readNumber_14 rfl rfl ?_
    obtain ⟨v3, hv, h⟩ := bnd h
    refine w_callVv (q := 18) (M' := M_Model_stepOn) (n' := 1) (k := 54) (As := []) (sh' := SH) (b1 := (0, 0)) d_Model_readNumber_15 rfl mw_Model_stepOn (by decide) (by decide) ml_Model_193 (by decide) s_54 (by decide) rfl rfl rfl (leb rfl) (bz _) (fun _ => rfl) (ok_Model_stepOn hv) ?_
    refine w_iload_n (q := 19) d_Model_readNumber_18 rfl rfl ?_
    cases h
    exact w_ireturn d_Model_readNumber_19 rfl rfl ⟨rfl, rfl, rfl, rfl⟩
  · rw [if_neg c2] at h
    refine w_if_ne_t (q := 18) d_Model_readNumber_11 rfl c2 ?_
    refine w_iload_n (q := 19) d_Model_readNumber_18 rfl rfl ?_
    cases h
    exact w_ireturn d_Model_readNumber_19 rfl rfl ⟨rfl, rfl, rfl, rfl⟩
def sp_Model_oneNow_j26 (p0 : Int32) (g : Mem) (m0 : Mem) (x2 : Int32) : Option (Int32 × Mem) := if (m0 54 19) = 0 then some (x2, m0) else some (0, m0)
theorem ok_Model_oneNow_j26 {γ : GG} {tt : Bool} {p0 : Int32} {g : Mem} {m0 : Mem} {x2 : Int32} {res : Int32 × Mem} (h : sp_Model_oneNow_j26 p0 g m0 x2 = some res) : WA γ M_Model_oneNow 2 26 [some (.ref 54), none, some (.int x2)] [] SH m0 tt (0, 0) (pI SH res.1 res.2 tt) := by
  unfold sp_Model_oneNow_j26 at h
  refine w_aload_n (q := 27) d_Model_oneNow_26 rfl rfl ?_
  refine w_get (q := 30) (ci := 12) (j := 19) d_Model_oneNow_27 rfl (by decide) fl_Model_168 (by decide) (by decide) s_54 rfl rfl ?_
  by_cases c4 : (m0 54 19) = 0
  · rw [if_pos c4] at h
    refine w_if_ne_f (q := 33) d_Model_oneNow_30 37 rfl rfl c4 ?_
    refine w_iload_n (q := 34) d_Model_oneNow_33 rfl rfl ?_
    refine w_goto (q := 38) d_Model_oneNow_34 rfl ?_
    cases h
    exact w_ireturn d_Model_oneNow_38 rfl rfl ⟨rfl, rfl, rfl, rfl⟩
  · rw [if_neg c4] at h
    refine w_if_ne_t (q := 37) d_Model_oneNow_30 rfl c4 ?_
    refine w_iconst (q := 38) (v := 0) d_Model_oneNow_37 rfl (by decide) ?_
    cases h
    exact w_ireturn d_Model_oneNow_38 rfl rfl ⟨rfl, rfl, rfl, rfl⟩
def sp_Model_oneNow (p0 : Int32) (g : Mem) : Option (Int32 × Mem) := (sp_Model_numberNow 0 9999 g).bind fun v1 => if (v1.2 54 19) = 0 then if v1.1 < p0 then sp_Model_oneNow_j26 p0 g v1.2 v1.1 else (sp_Model_wrong 3 v1.2).bind fun v5 => sp_Model_oneNow_j26 p0 g v5 v1.1 else sp_Model_oneNow_j26 p0 g v1.2 v1.1
theorem ok_Model_oneNow {γ : GG} {tt : Bool} {p0 : Int32} {g : Mem} {res : Int32 × Mem} (h : sp_Model_oneNow p0 g = some res) : CA γ M_Model_oneNow 2 [.ref 54, .int p0] SH g tt (0, 0) (pI SH res.1 res.2 tt) := by
  refine CA.of mw_Model_oneNow.1 1 rfl ?_
  show WA γ M_Model_oneNow 2 0 [some (.ref 54), some (.int p0), none] [] SH g tt (0, 0) (pI SH res.1 res.2 tt)
  unfold sp_Model_oneNow at h
  refine w_aload_n (q := 1) d_Model_oneNow_0 rfl rfl ?_
  refine w_iconst (q := 2) (v := 0) d_Model_oneNow_1 rfl (by decide) ?_
  refine w_sipush (q := 5) (v := 9999) d_Model_oneNow_2 rfl (by decide) ?_
  obtain ⟨v1, hv, h⟩ := bnd h
  refine w_callVi (q := 8) (M' := M_Model_numberNow) (n' := 1) (k := 54) (As := [.int 0, .int 9999]) (sh' := SH) (b1 := (0, 0)) d_Model_oneNow_5 rfl mw_Model_numberNow (by decide) (by decide) ml_Model_196 (by decide) s_54 (by decide) rfl rfl rfl (leb rfl) (bz _) (fun _ => rfl) (ok_Model_numberNow hv) ?_
  refine w_istore_n (q := 9) (ls' := [some (.ref 54), some (.int p0), some (.int v1.1)]) d_Model_oneNow_8 rfl (by decide) rfl rfl ?_
  refine w_aload_n (q := 10) d_Model_oneNow_9 rfl rfl ?_
  refine w_get (q := 13) (ci := 12) (j := 19) d_Model_oneNow_10 rfl (by decide) fl_Model_168 (by decide) (by decide) s_54 rfl rfl ?_
  by_cases c2 : (v1.2 54 19) = 0
  · rw [if_pos c2] at h
    refine w_if_ne_f (q := 16) d_Model_oneNow_13 26 rfl rfl c2 ?_
    refine w_iload_n (q := 17) d_Model_oneNow_16 rfl rfl ?_
    refine w_iload_n (q := 18) d_Model_oneNow_17 rfl rfl ?_
    by_cases c3 : v1.1 < p0
    · rw [if_pos c3] at h
      refine w_icmp_lt_t (q := 26) d_Model_oneNow_18 rfl c3 ?_
      refine w_ls (ls' := [some (.ref 54), none, some (.int v1.1)]) (And.intro rfl (And.intro rfl trivial)) ?_
      exact ok_Model_oneNow_j26 h
    · rw [if_neg c3] at h
      refine w_icmp_lt_f (q := 21) d_Model_oneNow_18 26 rfl rfl c3 ?_
      refine w_aload_n (q := 22) d_Model_oneNow_21 rfl rfl ?_
      refine w_iconst (q := 23) (v := 3) d_Model_oneNow_22 rfl (by decide) ?_
      obtain ⟨v5, hv, h⟩ := bnd h
      refine w_callVv (q := 26) (M' := M_Model_wrong) (n' := 0) (k := 54) (As := [.int 3]) (sh' := SH) (b1 := (0, 0)) d_Model_oneNow_23 rfl mw_Model_wrong (by decide) (by decide) ml_Model_189 (by decide) s_54 (by decide) rfl rfl rfl (leb rfl) (bz _) (fun _ => rfl) (ok_Model_wrong hv) ?_
      refine w_ls (ls' := [some (.ref 54), none, some (.int v1.1)]) (And.intro rfl (And.intro rfl trivial)) ?_
      exact ok_Model_oneNow_j26 h
  · rw [if_neg c2] at h
    refine w_if_ne_t (q := 26) d_Model_oneNow_13 rfl c2 ?_
    refine w_ls (ls' := [some (.ref 54), none, some (.int v1.1)]) (And.intro rfl (And.intro rfl trivial)) ?_
    exact ok_Model_oneNow_j26 h
def sp_Model_readOne (F : Nat) (p0 : Int32) (g : Mem) : Option (Int32 × Mem) := (sp_Model_oneNow p0 g).bind fun v1 => if (v1.2 54 19) = 0 then (sp_Model_stepOn F v1.2).bind fun v3 => some (v1.1, v3) else some (v1.1, v1.2)
theorem ok_Model_readOne {γ : GG} {tt : Bool} {F : Nat} {p0 : Int32} {g : Mem} {res : Int32 × Mem} (h : sp_Model_readOne F p0 g = some res) : CA γ M_Model_readOne 3 [.ref 54, .int p0] SH g tt (0, 0) (pI SH res.1 res.2 tt) := by
  refine CA.of mw_Model_readOne.1 1 rfl ?_
  show WA γ M_Model_readOne 3 0 [some (.ref 54), some (.int p0), none] [] SH g tt (0, 0) (pI SH res.1 res.2 tt)
  unfold sp_Model_readOne at h
  refine w_aload_n (q := 1) d_Model_readOne_0 rfl rfl ?_
  refine w_iload_n (q := 2) d_Model_readOne_1 rfl rfl ?_
  obtain ⟨v1, hv, h⟩ := bnd h
  refine w_callVi (q := 5) (M' := M_Model_oneNow) (n' := 2) (k := 54) (As := [.int p0]) (sh' := SH) (b1 := (0, 0)) d_Model_readOne_2 rfl mw_Model_oneNow (by decide) (by decide) ml_Model_199 (by decide) s_54 (by decide) rfl rfl rfl (leb rfl) (bz _) (fun _ => rfl) (ok_Model_oneNow hv) ?_
  refine w_istore_n (q := 6) (ls' := [some (.ref 54), some (.int p0), some (.int v1.1)]) d_Model_readOne_5 rfl (by decide) rfl rfl ?_
  refine w_aload_n (q := 7) d_Model_readOne_6 rfl rfl ?_
  refine w_get (q := 10) (ci := 12) (j := 19) d_Model_readOne_7 rfl (by decide) fl_Model_168 (by decide) (by decide) s_54 rfl rfl ?_
  by_cases c2 : (v1.2 54 19) = 0
  · rw [if_pos c2] at h
    refine w_if_ne_f (q := 13) d_Model_readOne_10 17 rfl rfl c2 ?_
    refine w_aload_n (q := 14) d_Model_readOne_13 rfl rfl ?_
    obtain ⟨v3, hv, h⟩ := bnd h
    refine w_callVv (q := 17) (M' := M_Model_stepOn) (n' := 1) (k := 54) (As := []) (sh' := SH) (b1 := (0, 0)) d_Model_readOne_14 rfl mw_Model_stepOn (by decide) (by decide) ml_Model_193 (by decide) s_54 (by decide) rfl rfl rfl (leb rfl) (bz _) (fun _ => rfl) (ok_Model_stepOn hv) ?_
    refine w_iload_n (q := 18) d_Model_readOne_17 rfl rfl ?_
    cases h
    exact w_ireturn d_Model_readOne_18 rfl rfl ⟨rfl, rfl, rfl, rfl⟩
  · rw [if_neg c2] at h
    refine w_if_ne_t (q := 17) d_Model_readOne_10 rfl c2 ?_
    refine w_iload_n (q := 18) d_Model_readOne_17 rfl rfl ?_
    cases h
    exact w_ireturn d_Model_readOne_18 rfl rfl ⟨rfl, rfl, rfl, rfl⟩
def sp_Model_lay (p0 : Int32) (g : Mem) : Option (Mem) := if (g 54 19) = 0 then (rd g 58 12 11).bind fun v2 => (wr g 63 1400 (700 + v2) p0).bind fun g3 => (rd g3 58 12 11).bind fun v4 => (wr g3 58 12 11 (v4 + 1)).bind fun g5 => some g5 else some g
theorem ok_Model_lay {γ : GG} {tt : Bool} {p0 : Int32} {g : Mem} {res : Mem} (h : sp_Model_lay p0 g = some res) : CA γ M_Model_lay 0 [.ref 54, .int p0] SH g tt (0, 0) (pV SH res tt) := by
  refine CA.of mw_Model_lay.1 0 rfl ?_
  show WA γ M_Model_lay 0 0 [some (.ref 54), some (.int p0)] [] SH g tt (0, 0) (pV SH res tt)
  unfold sp_Model_lay at h
  refine w_aload_n (q := 1) d_Model_lay_0 rfl rfl ?_
  refine w_get (q := 4) (ci := 12) (j := 19) d_Model_lay_1 rfl (by decide) fl_Model_168 (by decide) (by decide) s_54 rfl rfl ?_
  by_cases c1 : (g 54 19) = 0
  · rw [if_pos c1] at h
    refine w_if_eq_t (q := 8) d_Model_lay_4 rfl c1 ?_
    refine w_aload_n (q := 9) d_Model_lay_8 rfl rfl ?_
    refine w_get (q := 12) (ci := 12) (j := 9) d_Model_lay_9 rfl (by decide) fl_Model_65 (by decide) (by decide) s_54 rfl rfl ?_
    refine w_sipush (q := 15) (v := 700) d_Model_lay_12 rfl (by decide) ?_
    refine w_aload_n (q := 16) d_Model_lay_15 rfl rfl ?_
    refine w_get (q := 19) (ci := 12) (j := 4) d_Model_lay_16 rfl (by decide) fl_Model_51 (by decide) (by decide) s_54 rfl rfl ?_
    refine w_bipush (q := 21) (v := 11) d_Model_lay_19 rfl (by decide) ?_
    obtain ⟨v2, hv, h⟩ := bnd h
    obtain ⟨hi, hv⟩ := rd_ok hv
    refine w_iald (q := 22) (t := 0) d_Model_lay_21 rfl a_58.2 a_58.1 hi rfl ?_
    rw [hv]
    refine w_iadd (q := 23) d_Model_lay_22 rfl ?_
    refine w_iload_n (q := 24) d_Model_lay_23 rfl rfl ?_
    obtain ⟨g3, hv, h⟩ := bnd h
    obtain ⟨hi, hv⟩ := wr_ok hv
    refine w_iast (q := 25) d_Model_lay_24 rfl a_63.2 a_63.1 hi hv ?_
    refine w_aload_n (q := 26) d_Model_lay_25 rfl rfl ?_
    refine w_get (q := 29) (ci := 12) (j := 4) d_Model_lay_26 rfl (by decide) fl_Model_51 (by decide) (by decide) s_54 rfl rfl ?_
    refine w_bipush (q := 31) (v := 11) d_Model_lay_29 rfl (by decide) ?_
    refine w_dup2 (q := 32) d_Model_lay_31 rfl rfl rfl ?_
    obtain ⟨v4, hv, h⟩ := bnd h
    obtain ⟨hi, hv⟩ := rd_ok hv
    refine w_iald (q := 33) (t := 0) d_Model_lay_32 rfl a_58.2 a_58.1 hi rfl ?_
    rw [hv]
    refine w_iconst (q := 34) (v := 1) d_Model_lay_33 rfl (by decide) ?_
    refine w_iadd (q := 35) d_Model_lay_34 rfl ?_
    obtain ⟨g5, hv, h⟩ := bnd h
    obtain ⟨hi, hv⟩ := wr_ok hv
    refine w_iast (q := 36) d_Model_lay_35 rfl a_58.2 a_58.1 hi hv ?_
    cases h
    exact w_return d_Model_lay_36 rfl ⟨rfl, rfl, rfl, rfl⟩
  · rw [if_neg c1] at h
    refine w_if_eq_f (q := 7) d_Model_lay_4 8 rfl rfl c1 ?_
    cases h
    exact w_return d_Model_lay_7 rfl ⟨rfl, rfl, rfl, rfl⟩
def sp_Model_mayHave (p0 : Int32) (p1 : Int32) (g : Mem) : Option (Int32) := if p0 = 2 then some 0 else if p0 = 1 then (sp_JMath_min 5 p1 g).bind fun v3 => some v3 else some p1
theorem ok_Model_mayHave {γ : GG} {sh : List Sh} {tt : Bool} {p0 : Int32} {p1 : Int32} {g : Mem} {res : Int32} (h : sp_Model_mayHave p0 p1 g = some res) : CA γ M_Model_mayHave 1 [.int p0, .int p1] sh g tt (0, 0) (pI sh res g tt) := by
  refine CA.of mw_Model_mayHave.1 0 rfl ?_
  show WA γ M_Model_mayHave 1 0 [some (.int p0), some (.int p1)] [] sh g tt (0, 0) (pI sh res g tt)
  unfold sp_Model_mayHave at h
  refine w_iload_n (q := 1) d_Model_mayHave_0 rfl rfl ?_
  refine w_iconst (q := 2) (v := 2) d_Model_mayHave_1 rfl (by decide) ?_
  by_cases c1 : p0 = 2
  · rw [if_pos c1] at h
    refine w_icmp_ne_f (q := 5) d_Model_mayHave_2 9 rfl rfl c1 ?_
    refine w_iconst (q := 6) (v := 0) d_Model_mayHave_5 rfl (by decide) ?_
    refine w_goto (q := 23) d_Model_mayHave_6 rfl ?_
    cases h
    exact w_ireturn d_Model_mayHave_23 rfl rfl ⟨rfl, rfl, rfl, rfl⟩
  · rw [if_neg c1] at h
    refine w_icmp_ne_t (q := 9) d_Model_mayHave_2 rfl c1 ?_
    refine w_iload_n (q := 10) d_Model_mayHave_9 rfl rfl ?_
    refine w_iconst (q := 11) (v := 1) d_Model_mayHave_10 rfl (by decide) ?_
    by_cases c2 : p0 = 1
    · rw [if_pos c2] at h
      refine w_icmp_ne_f (q := 14) d_Model_mayHave_11 22 rfl rfl c2 ?_
      refine w_iconst (q := 15) (v := 5) d_Model_mayHave_14 rfl (by decide) ?_
      refine w_iload_n (q := 16) d_Model_mayHave_15 rfl rfl ?_
      obtain ⟨v3, hv, h⟩ := bnd h
      refine w_callSi (q := 19) (M' := M_JMath_min) (n' := 0) (As := [.int 5, .int p1]) (sh' := sh) (b1 := (0, 0)) d_Model_mayHave_16 rfl mw_JMath_min (by decide) (by decide) ml_Model_156 rfl rfl (leb rfl) (bz _) (fun _ => rfl) (ok_JMath_min hv) ?_
      refine w_goto (q := 23) d_Model_mayHave_19 rfl ?_
      cases h
      exact w_ireturn d_Model_mayHave_23 rfl rfl ⟨rfl, rfl, rfl, rfl⟩
    · rw [if_neg c2] at h
      refine w_icmp_ne_t (q := 22) d_Model_mayHave_11 rfl c2 ?_
      refine w_iload_n (q := 23) d_Model_mayHave_22 rfl rfl ?_
      cases h
      exact w_ireturn d_Model_mayHave_23 rfl rfl ⟨rfl, rfl, rfl, rfl⟩
def sp_Model_readMonk_j17 (F : Nat) (p0 : Int32) (g : Mem) (m0 : Mem) (x1 : Int32) : Option (Mem) := if (m0 54 19) = 0 then (sp_Model_stepOn F m0).bind fun v5 => (rd v5 58 12 6).bind fun v6 => (wr v5 59 12 (6 + v6) x1).bind fun g7 => (sp_Model_readNumber F 0 99 g7).bind fun v8 => (wr v8.2 60 12 (6 + v6) v8.1).bind fun g9 => (sp_Model_readNumber F 0 60 g9).bind fun v10 => (rd v10.2 58 12 7).bind fun v11 => (sp_Model_mayHave x1 v11 v10.2).bind fun v12 => (sp_JMath_min v10.1 v12 v10.2).bind fun v13 => (wr v10.2 61 12 (6 + v6) v13).bind fun g14 => (rd g14 58 12 6).bind fun v15 => (wr g14 58 12 6 (v15 + 1)).bind fun g16 => some g16 else some m0
theorem ok_Model_readMonk_j17 {γ : GG} {tt : Bool} {F : Nat} {p0 : Int32} {g : Mem} {m0 : Mem} {x1 : Int32} {res : Mem} (h : sp_Model_readMonk_j17 F p0 g m0 x1 = some res) : WA γ M_Model_readMonk 3 17 [some (.ref 54), some (.int x1), none] [] SH m0 tt (0, 0) (pV SH res tt) := by
  unfold sp_Model_readMonk_j17 at h
  refine w_aload_n (q := 18) d_Model_readMonk_17 rfl rfl ?_
  refine w_get (q := 21) (ci := 12) (j := 19) d_Model_readMonk_18 rfl (by decide) fl_Model_168 (by decide) (by decide) s_54 rfl rfl ?_
  by_cases c4 : (m0 54 19) = 0
  · rw [if_pos c4] at h
    refine w_if_eq_t (q := 25) d_Model_readMonk_21 rfl c4 ?_
    refine w_aload_n (q := 26) d_Model_readMonk_25 rfl rfl ?_
    obtain ⟨v5, hv, h⟩ := bnd h
    refine w_callVv (q := 29) (M' := M_Model_stepOn) (n' := 1) (k := 54) (As := []) (sh' := SH) (b1 := (0, 0)) d_Model_readMonk_26 rfl mw_Model_stepOn (by decide) (by decide) ml_Model_193 (by decide) s_54 (by decide) rfl rfl rfl (leb rfl) (bz _) (fun _ => rfl) (ok_Model_stepOn hv) ?_
    refine w_bipush (q := 31) (v := 6) d_Model_readMonk_29 rfl (by decide) ?_
    refine w_aload_n (q := 32) d_Model_readMonk_31 rfl rfl ?_
    refine w_get (q := 35) (ci := 12) (j := 4) d_Model_readMonk_32 rfl (by decide) fl_Model_51 (by decide) (by decide) s_54 rfl rfl ?_
    refine w_bipush (q := 37) (v := 6) d_Model_readMonk_35 rfl (by decide) ?_
    obtain ⟨v6, hv, h⟩ := bnd h
    obtain ⟨hi, hv⟩ := rd_ok hv
    refine w_iald (q := 38) (t := 0) d_Model_readMonk_37 rfl a_58.2 a_58.1 hi rfl ?_
    rw [hv]
    refine w_iadd (q := 39) d_Model_readMonk_38 rfl ?_
    refine w_istore_n (q := 40) (ls' := [some (.ref 54), some (.int x1), some (.int (6 + v6))]) d_Model_readMonk_39 rfl (by decide) rfl rfl ?_
    refine w_aload_n (q := 41) d_Model_readMonk_40 rfl rfl ?_
    refine w_get (q := 44) (ci := 12) (j := 5) d_Model_readMonk_41 rfl (by decide) fl_Model_55 (by decide) (by decide) s_54 rfl rfl ?_
    refine w_iload_n (q := 45) d_Model_readMonk_44 rfl rfl ?_
    refine w_iload_n (q := 46) d_Model_readMonk_45 rfl rfl ?_
    obtain ⟨g7, hv, h⟩ := bnd h
    obtain ⟨hi, hv⟩ := wr_ok hv
    refine w_iast (q := 47) d_Model_readMonk_46 rfl a_59.2 a_59.1 hi hv ?_
    refine w_aload_n (q := 48) d_Model_readMonk_47 rfl rfl ?_
    refine w_get (q := 51) (ci := 12) (j := 6) d_Model_readMonk_48 rfl (by decide) fl_Model_57 (by decide) (by decide) s_54 rfl rfl ?_
    refine w_iload_n (q := 52) d_Model_readMonk_51 rfl rfl ?_
    refine w_aload_n (q := 53) d_Model_readMonk_52 rfl rfl ?_
    refine w_iconst (q := 54) (v := 0) d_Model_readMonk_53 rfl (by decide) ?_
    refine w_bipush (q := 56) (v := 99) d_Model_readMonk_54 rfl (by decide) ?_
    obtain ⟨v8, hv, h⟩ := bnd h
    refine w_callVi (q := 59) (M' := M_Model_readNumber) (n' := 2) (k := 54) (As := [.int 0, .int 99]) (sh' := SH) (b1 := (0, 0)) d_Model_readMonk_56 rfl mw_Model_readNumber (by decide) (by decide) ml_Model_202 (by decide) s_54 (by decide) rfl rfl rfl (leb rfl) (bz _) (fun _ => rfl) (ok_Model_readNumber hv) ?_
    obtain ⟨g9, hv, h⟩ := bnd h
    obtain ⟨hi, hv⟩ := wr_ok hv
    refine w_iast (q := 60) d_Model_readMonk_59 rfl a_60.2 a_60.1 hi hv ?_
    refine w_aload_n (q := 61) d_Model_readMonk_60 rfl rfl ?_
    refine w_get (q := 64) (ci := 12) (j := 7) d_Model_readMonk_61 rfl (by decide) fl_Model_59 (by decide) (by decide) s_54 rfl rfl ?_
    refine w_iload_n (q := 65) d_Model_readMonk_64 rfl rfl ?_
    refine w_aload_n (q := 66) d_Model_readMonk_65 rfl rfl ?_
    refine w_iconst (q := 67) (v := 0) d_Model_readMonk_66 rfl (by decide) ?_
    refine w_bipush (q := 69) (v := 60) d_Model_readMonk_67 rfl (by decide) ?_
    obtain ⟨v10, hv, h⟩ := bnd h
    refine w_callVi (q := 72) (M' := M_Model_readNumber) (n' := 2) (k := 54) (As := [.int 0, .int 60]) (sh' := SH) (b1 := (0, 0)) d_Model_readMonk_69 rfl mw_Model_readNumber (by decide) (by decide) ml_Model_202 (by decide) s_54 (by decide) rfl rfl rfl (leb rfl) (bz _) (fun _ => rfl) (ok_Model_readNumber hv) ?_
    refine w_iload_n (q := 73) d_Model_readMonk_72 rfl rfl ?_
    refine w_aload_n (q := 74) d_Model_readMonk_73 rfl rfl ?_
    refine w_get (q := 77) (ci := 12) (j := 4) d_Model_readMonk_74 rfl (by decide) fl_Model_51 (by decide) (by decide) s_54 rfl rfl ?_
    refine w_bipush (q := 79) (v := 7) d_Model_readMonk_77 rfl (by decide) ?_
    obtain ⟨v11, hv, h⟩ := bnd h
    obtain ⟨hi, hv⟩ := rd_ok hv
    refine w_iald (q := 80) (t := 0) d_Model_readMonk_79 rfl a_58.2 a_58.1 hi rfl ?_
    rw [hv]
    obtain ⟨v12, hv, h⟩ := bnd h
    refine w_callSi (q := 83) (M' := M_Model_mayHave) (n' := 1) (As := [.int x1, .int v11]) (sh' := SH) (b1 := (0, 0)) d_Model_readMonk_80 rfl mw_Model_mayHave (by decide) (by decide) ml_Model_239 rfl rfl (leb rfl) (bz _) (fun _ => rfl) (ok_Model_mayHave hv) ?_
    obtain ⟨v13, hv, h⟩ := bnd h
    refine w_callSi (q := 86) (M' := M_JMath_min) (n' := 0) (As := [.int v10.1, .int v12]) (sh' := SH) (b1 := (0, 0)) d_Model_readMonk_83 rfl mw_JMath_min (by decide) (by decide) ml_Model_156 rfl rfl (leb rfl) (bz _) (fun _ => rfl) (ok_JMath_min hv) ?_
    obtain ⟨g14, hv, h⟩ := bnd h
    obtain ⟨hi, hv⟩ := wr_ok hv
    refine w_iast (q := 87) d_Model_readMonk_86 rfl a_61.2 a_61.1 hi hv ?_
    refine w_aload_n (q := 88) d_Model_readMonk_87 rfl rfl ?_
    refine w_get (q := 91) (ci := 12) (j := 4) d_Model_readMonk_88 rfl (by decide) fl_Model_51 (by decide) (by decide) s_54 rfl rfl ?_
    refine w_bipush (q := 93) (v := 6) d_Model_readMonk_91 rfl (by decide) ?_
    refine w_dup2 (q := 94) d_Model_readMonk_93 rfl rfl rfl ?_
    obtain ⟨v15, hv, h⟩ := bnd h
    obtain ⟨hi, hv⟩ := rd_ok hv
    refine w_iald (q := 95) (t := 0) d_Model_readMonk_94 rfl a_58.2 a_58.1 hi rfl ?_
    rw [hv]
    refine w_iconst (q := 96) (v := 1) d_Model_readMonk_95 rfl (by decide) ?_
    refine w_iadd (q := 97) d_Model_readMonk_96 rfl ?_
    obtain ⟨g16, hv, h⟩ := bnd h
    obtain ⟨hi, hv⟩ := wr_ok hv
    refine w_iast (q := 98) d_Model_readMonk_97 rfl a_58.2 a_58.1 hi hv ?_
    cases h
    exact w_return d_Model_readMonk_98 rfl ⟨rfl, rfl, rfl, rfl⟩
  · rw [if_neg c4] at h
    refine w_if_eq_f (q := 24) d_Model_readMonk_21 25 rfl rfl c4 ?_
    cases h
    exact w_return d_Model_readMonk_24 rfl ⟨rfl, rfl, rfl, rfl⟩
def sp_Model_readMonk (F : Nat) (p0 : Int32) (g : Mem) : Option (Mem) := (rd g 58 12 6).bind fun v1 => if v1 = 6 then (sp_Model_wrong 2 g).bind fun v3 => sp_Model_readMonk_j17 F p0 g v3 p0 else sp_Model_readMonk_j17 F p0 g g p0
theorem ok_Model_readMonk {γ : GG} {tt : Bool} {F : Nat} {p0 : Int32} {g : Mem} {res : Mem} (h : sp_Model_readMonk F p0 g = some res) : CA γ M_Model_readMonk 3 [.ref 54, .int p0] SH g tt (0, 0) (pV SH res tt) := by
  refine CA.of mw_Model_readMonk.1 1 rfl ?_
  show WA γ M_Model_readMonk 3 0 [some (.ref 54), some (.int p0), none] [] SH g tt (0, 0) (pV SH res tt)
  unfold sp_Model_readMonk at h
  refine w_aload_n (q := 1) d_Model_readMonk_0 rfl rfl ?_
  refine w_get (q := 4) (ci := 12) (j := 4) d_Model_readMonk_1 rfl (by decide) fl_Model_51 (by decide) (by decide) s_54 rfl rfl ?_
  refine w_bipush (q := 6) (v := 6) d_Model_readMonk_4 rfl (by decide) ?_
  obtain ⟨v1, hv, h⟩ := bnd h
  obtain ⟨hi, hv⟩ := rd_ok hv
  refine w_iald (q := 7) (t := 0) d_Model_readMonk_6 rfl a_58.2 a_58.1 hi rfl ?_
  rw [hv]
  refine w_bipush (q := 9) (v := 6) d_Model_readMonk_7 rfl (by decide) ?_
  by_cases c2 : v1 = 6
  · rw [if_pos c2] at h
    refine w_icmp_ne_f (q := 12) d_Model_readMonk_9 17 rfl rfl c2 ?_
    refine w_aload_n (q := 13) d_Model_readMonk_12 rfl rfl ?_
    refine w_iconst (q := 14) (v := 2) d_Model_readMonk_13 rfl (by decide) ?_
    obtain ⟨v3, hv, h⟩ := bnd h
    refine w_callVv (q := 17) (M' := M_Model_wrong) (n' := 0) (k := 54) (As := [.int 2]) (sh' := SH) (b1 := (0, 0)) d_Model_readMonk_14 rfl mw_Model_wrong (by decide) (by decide) ml_Model_189 (by decide) s_54 (by decide) rfl rfl rfl (leb rfl) (bz _) (fun _ => rfl) (ok_Model_wrong hv) ?_
    refine w_ls (ls' := [some (.ref 54), some (.int p0), none]) (And.intro rfl (And.intro rfl trivial)) ?_
    exact ok_Model_readMonk_j17 h
  · rw [if_neg c2] at h
    refine w_icmp_ne_t (q := 17) d_Model_readMonk_9 rfl c2 ?_
    refine w_ls (ls' := [some (.ref 54), some (.int p0), none]) (And.intro rfl (And.intro rfl trivial)) ?_
    exact ok_Model_readMonk_j17 h
def sp_Model_readAt (p0 : Int32) (g : Mem) : Option (Int32) := some (9 * (24 + p0))
theorem ok_Model_readAt {γ : GG} {sh : List Sh} {tt : Bool} {p0 : Int32} {g : Mem} {res : Int32} (h : sp_Model_readAt p0 g = some res) : CA γ M_Model_readAt 0 [.int p0] sh g tt (0, 0) (pI sh res g tt) := by
  refine CA.of mw_Model_readAt.1 0 rfl ?_
  show WA γ M_Model_readAt 0 0 [some (.int p0)] [] sh g tt (0, 0) (pI sh res g tt)
  unfold sp_Model_readAt at h
  refine w_bipush (q := 2) (v := 9) d_Model_readAt_0 rfl (by decide) ?_
  refine w_bipush (q := 4) (v := 24) d_Model_readAt_2 rfl (by decide) ?_
  refine w_iload_n (q := 5) d_Model_readAt_4 rfl rfl ?_
  refine w_iadd (q := 6) d_Model_readAt_5 rfl ?_
  refine w_imul (q := 7) d_Model_readAt_6 rfl ?_
  cases h
  exact w_ireturn d_Model_readAt_7 rfl rfl ⟨rfl, rfl, rfl, rfl⟩
def sp_Model_anotherEntry_j17 (F : Nat) (g : Mem) (m0 : Mem) : Option (Int32 × Mem) := if (m0 54 19) = 0 then (sp_Model_stepOn F m0).bind fun v5 => some (1, v5) else some (0, m0)
theorem ok_Model_anotherEntry_j17 {γ : GG} {tt : Bool} {F : Nat} {g : Mem} {m0 : Mem} {res : Int32 × Mem} (h : sp_Model_anotherEntry_j17 F g m0  = some res) : WA γ M_Model_anotherEntry 2 17 [some (.ref 54)] [] SH m0 tt (0, 0) (pI SH res.1 res.2 tt) := by
  unfold sp_Model_anotherEntry_j17 at h
  refine w_aload_n (q := 18) d_Model_anotherEntry_17 rfl rfl ?_
  refine w_get (q := 21) (ci := 12) (j := 19) d_Model_anotherEntry_18 rfl (by decide) fl_Model_168 (by decide) (by decide) s_54 rfl rfl ?_
  by_cases c4 : (m0 54 19) = 0
  · rw [if_pos c4] at h
    refine w_if_eq_t (q := 26) d_Model_anotherEntry_21 rfl c4 ?_
    refine w_aload_n (q := 27) d_Model_anotherEntry_26 rfl rfl ?_
    obtain ⟨v5, hv, h⟩ := bnd h
    refine w_callVv (q := 30) (M' := M_Model_stepOn) (n' := 1) (k := 54) (As := []) (sh' := SH) (b1 := (0, 0)) d_Model_anotherEntry_27 rfl mw_Model_stepOn (by decide) (by decide) ml_Model_193 (by decide) s_54 (by decide) rfl rfl rfl (leb rfl) (bz _) (fun _ => rfl) (ok_Model_stepOn hv) ?_
    refine w_iconst (q := 31) (v := 1) d_Model_anotherEntry_30 rfl (by decide) ?_
    cases h
    exact w_ireturn d_Model_anotherEntry_31 rfl rfl ⟨rfl, rfl, rfl, rfl⟩
  · rw [if_neg c4] at h
    refine w_if_eq_f (q := 24) d_Model_anotherEntry_21 26 rfl rfl c4 ?_
    refine w_iconst (q := 25) (v := 0) d_Model_anotherEntry_24 rfl (by decide) ?_
    cases h
    exact w_ireturn d_Model_anotherEntry_25 rfl rfl ⟨rfl, rfl, rfl, rfl⟩
def sp_Model_anotherEntry (F : Nat) (g : Mem) : Option (Int32 × Mem) := (rd g 58 12 10).bind fun v1 => if v1 = 24 then (sp_Model_wrong 2 g).bind fun v3 => sp_Model_anotherEntry_j17 F g v3 else sp_Model_anotherEntry_j17 F g g
theorem ok_Model_anotherEntry {γ : GG} {tt : Bool} {F : Nat} {g : Mem} {res : Int32 × Mem} (h : sp_Model_anotherEntry F g = some res) : CA γ M_Model_anotherEntry 2 [.ref 54] SH g tt (0, 0) (pI SH res.1 res.2 tt) := by
  refine CA.of mw_Model_anotherEntry.1 0 rfl ?_
  show WA γ M_Model_anotherEntry 2 0 [some (.ref 54)] [] SH g tt (0, 0) (pI SH res.1 res.2 tt)
  unfold sp_Model_anotherEntry at h
  refine w_aload_n (q := 1) d_Model_anotherEntry_0 rfl rfl ?_
  refine w_get (q := 4) (ci := 12) (j := 4) d_Model_anotherEntry_1 rfl (by decide) fl_Model_51 (by decide) (by decide) s_54 rfl rfl ?_
  refine w_bipush (q := 6) (v := 10) d_Model_anotherEntry_4 rfl (by decide) ?_
  obtain ⟨v1, hv, h⟩ := bnd h
  obtain ⟨hi, hv⟩ := rd_ok hv
  refine w_iald (q := 7) (t := 0) d_Model_anotherEntry_6 rfl a_58.2 a_58.1 hi rfl ?_
  rw [hv]
  refine w_bipush (q := 9) (v := 24) d_Model_anotherEntry_7 rfl (by decide) ?_
  by_cases c2 : v1 = 24
  · rw [if_pos c2] at h
    refine w_icmp_ne_f (q := 12) d_Model_anotherEntry_9 17 rfl rfl c2 ?_
    refine w_aload_n (q := 13) d_Model_anotherEntry_12 rfl rfl ?_
    refine w_iconst (q := 14) (v := 2) d_Model_anotherEntry_13 rfl (by decide) ?_
    obtain ⟨v3, hv, h⟩ := bnd h
    refine w_callVv (q := 17) (M' := M_Model_wrong) (n' := 0) (k := 54) (As := [.int 2]) (sh' := SH) (b1 := (0, 0)) d_Model_anotherEntry_14 rfl mw_Model_wrong (by decide) (by decide) ml_Model_189 (by decide) s_54 (by decide) rfl rfl rfl (leb rfl) (bz _) (fun _ => rfl) (ok_Model_wrong hv) ?_
    refine w_ls (ls' := [some (.ref 54)]) (And.intro rfl trivial) ?_
    exact ok_Model_anotherEntry_j17 h
  · rw [if_neg c2] at h
    refine w_icmp_ne_t (q := 17) d_Model_anotherEntry_9 rfl c2 ?_
    refine w_ls (ls' := [some (.ref 54)]) (And.intro rfl trivial) ?_
    exact ok_Model_anotherEntry_j17 h
def sp_Model_readEntry_j171 (F : Nat) (p0 : Int32) (g : Mem) (m0 : Mem) (x2 : Int32) : Option (Mem) := (rd m0 58 12 10).bind fun v24 => (wr m0 62 432 (x2 + 7) v24).bind fun g25 => (wr g25 62 432 (x2 + 8) 0).bind fun g26 => (rd g26 58 12 10).bind fun v27 => (wr g26 58 12 10 (v27 + 1)).bind fun g28 => some g28
theorem ok_Model_readEntry_j171 {γ : GG} {tt : Bool} {F : Nat} {p0 : Int32} {g : Mem} {m0 : Mem} {x2 : Int32} {res : Mem} (h : sp_Model_readEntry_j171 F p0 g m0 x2 = some res) : WA γ M_Model_readEntry 6 171 [some (.ref 54), none, some (.int x2)] [] SH m0 tt (0, 0) (pV SH res tt) := by
  unfold sp_Model_readEntry_j171 at h
  refine w_aload_n (q := 172) d_Model_readEntry_171 rfl rfl ?_
  refine w_get (q := 175) (ci := 12) (j := 8) d_Model_readEntry_172 rfl (by decide) fl_Model_62 (by decide) (by decide) s_54 rfl rfl ?_
  refine w_iload_n (q := 176) d_Model_readEntry_175 rfl rfl ?_
  refine w_bipush (q := 178) (v := 7) d_Model_readEntry_176 rfl (by decide) ?_
  refine w_iadd (q := 179) d_Model_readEntry_178 rfl ?_
  refine w_aload_n (q := 180) d_Model_readEntry_179 rfl rfl ?_
  refine w_get (q := 183) (ci := 12) (j := 4) d_Model_readEntry_180 rfl (by decide) fl_Model_51 (by decide) (by decide) s_54 rfl rfl ?_
  refine w_bipush (q := 185) (v := 10) d_Model_readEntry_183 rfl (by decide) ?_
  obtain ⟨v24, hv, h⟩ := bnd h
  obtain ⟨hi, hv⟩ := rd_ok hv
  refine w_iald (q := 186) (t := 0) d_Model_readEntry_185 rfl a_58.2 a_58.1 hi rfl ?_
  rw [hv]
  obtain ⟨g25, hv, h⟩ := bnd h
  obtain ⟨hi, hv⟩ := wr_ok hv
  refine w_iast (q := 187) d_Model_readEntry_186 rfl a_62.2 a_62.1 hi hv ?_
  refine w_aload_n (q := 188) d_Model_readEntry_187 rfl rfl ?_
  refine w_get (q := 191) (ci := 12) (j := 8) d_Model_readEntry_188 rfl (by decide) fl_Model_62 (by decide) (by decide) s_54 rfl rfl ?_
  refine w_iload_n (q := 192) d_Model_readEntry_191 rfl rfl ?_
  refine w_bipush (q := 194) (v := 8) d_Model_readEntry_192 rfl (by decide) ?_
  refine w_iadd (q := 195) d_Model_readEntry_194 rfl ?_
  refine w_iconst (q := 196) (v := 0) d_Model_readEntry_195 rfl (by decide) ?_
  obtain ⟨g26, hv, h⟩ := bnd h
  obtain ⟨hi, hv⟩ := wr_ok hv
  refine w_iast (q := 197) d_Model_readEntry_196 rfl a_62.2 a_62.1 hi hv ?_
  refine w_aload_n (q := 198) d_Model_readEntry_197 rfl rfl ?_
  refine w_get (q := 201) (ci := 12) (j := 4) d_Model_readEntry_198 rfl (by decide) fl_Model_51 (by decide) (by decide) s_54 rfl rfl ?_
  refine w_bipush (q := 203) (v := 10) d_Model_readEntry_201 rfl (by decide) ?_
  refine w_dup2 (q := 204) d_Model_readEntry_203 rfl rfl rfl ?_
  obtain ⟨v27, hv, h⟩ := bnd h
  obtain ⟨hi, hv⟩ := rd_ok hv
  refine w_iald (q := 205) (t := 0) d_Model_readEntry_204 rfl a_58.2 a_58.1 hi rfl ?_
  rw [hv]
  refine w_iconst (q := 206) (v := 1) d_Model_readEntry_205 rfl (by decide) ?_
  refine w_iadd (q := 207) d_Model_readEntry_206 rfl ?_
  obtain ⟨g28, hv, h⟩ := bnd h
  obtain ⟨hi, hv⟩ := wr_ok hv
  refine w_iast (q := 208) d_Model_readEntry_207 rfl a_58.2 a_58.1 hi hv ?_
  cases h
  exact w_return d_Model_readEntry_208 rfl ⟨rfl, rfl, rfl, rfl⟩
def sp_Model_readEntry_j153 (F : Nat) (p0 : Int32) (g : Mem) (m0 : Mem) (x2 : Int32) (y0 : Int32) (y1 : Int32) : Option (Mem) := (wr m0 62 432 y1 y0).bind fun g20 => (rd g20 62 432 (x2 + 6)).bind fun v21 => if v21 = 1 then (sp_Model_stepOn F g20).bind fun v23 => sp_Model_readEntry_j171 F p0 g v23 x2 else sp_Model_readEntry_j171 F p0 g g20 x2
theorem ok_Model_readEntry_j153 {γ : GG} {tt : Bool} {F : Nat} {p0 : Int32} {g : Mem} {m0 : Mem} {x2 : Int32} {y0 : Int32} {y1 : Int32} {res : Mem} (h : sp_Model_readEntry_j153 F p0 g m0 x2 y0 y1 = some res) : WA γ M_Model_readEntry 6 153 [some (.ref 54), none, some (.int x2)] [.int y0, .int y1, .ref 62] SH m0 tt (0, 0) (pV SH res tt) := by
  unfold sp_Model_readEntry_j153 at h
  obtain ⟨g20, hv, h⟩ := bnd h
  obtain ⟨hi, hv⟩ := wr_ok hv
  refine w_iast (q := 154) d_Model_readEntry_153 rfl a_62.2 a_62.1 hi hv ?_
  refine w_aload_n (q := 155) d_Model_readEntry_154 rfl rfl ?_
  refine w_get (q := 158) (ci := 12) (j := 8) d_Model_readEntry_155 rfl (by decide) fl_Model_62 (by decide) (by decide) s_54 rfl rfl ?_
  refine w_iload_n (q := 159) d_Model_readEntry_158 rfl rfl ?_
  refine w_bipush (q := 161) (v := 6) d_Model_readEntry_159 rfl (by decide) ?_
  refine w_iadd (q := 162) d_Model_readEntry_161 rfl ?_
  obtain ⟨v21, hv, h⟩ := bnd h
  obtain ⟨hi, hv⟩ := rd_ok hv
  refine w_iald (q := 163) (t := 0) d_Model_readEntry_162 rfl a_62.2 a_62.1 hi rfl ?_
  rw [hv]
  refine w_iconst (q := 164) (v := 1) d_Model_readEntry_163 rfl (by decide) ?_
  by_cases c22 : v21 = 1
  · rw [if_pos c22] at h
    refine w_icmp_ne_f (q := 167) d_Model_readEntry_164 171 rfl rfl c22 ?_
    refine w_aload_n (q := 168) d_Model_readEntry_167 rfl rfl ?_
    obtain ⟨v23, hv, h⟩ := bnd h
    refine w_callVv (q := 171) (M' := M_Model_stepOn) (n' := 1) (k := 54) (As := []) (sh' := SH) (b1 := (0, 0)) d_Model_readEntry_168 rfl mw_Model_stepOn (by decide) (by decide) ml_Model_193 (by decide) s_54 (by decide) rfl rfl rfl (leb rfl) (bz _) (fun _ => rfl) (ok_Model_stepOn hv) ?_
    refine w_ls (ls' := [some (.ref 54), none, some (.int x2)]) (And.intro rfl (And.intro rfl trivial)) ?_
    exact ok_Model_readEntry_j171 h
  · rw [if_neg c22] at h
    refine w_icmp_ne_t (q := 171) d_Model_readEntry_164 rfl c22 ?_
    refine w_ls (ls' := [some (.ref 54), none, some (.int x2)]) (And.intro rfl (And.intro rfl trivial)) ?_
    exact ok_Model_readEntry_j171 h
def sp_Model_readEntry_j131 (F : Nat) (p0 : Int32) (g : Mem) (m0 : Mem) (x2 : Int32) : Option (Mem) := (sp_Model_is F 37 m0).bind fun v18 => if v18 = 0 then sp_Model_readEntry_j153 F p0 g m0 x2 0 (x2 + 6) else sp_Model_readEntry_j153 F p0 g m0 x2 1 (x2 + 6)
theorem ok_Model_readEntry_j131 {γ : GG} {tt : Bool} {F : Nat} {p0 : Int32} {g : Mem} {m0 : Mem} {x2 : Int32} {res : Mem} (h : sp_Model_readEntry_j131 F p0 g m0 x2 = some res) : WA γ M_Model_readEntry 6 131 [some (.ref 54), none, some (.int x2)] [] SH m0 tt (0, 0) (pV SH res tt) := by
  unfold sp_Model_readEntry_j131 at h
  refine w_aload_n (q := 132) d_Model_readEntry_131 rfl rfl ?_
  refine w_get (q := 135) (ci := 12) (j := 8) d_Model_readEntry_132 rfl (by decide) fl_Model_62 (by decide) (by decide) s_54 rfl rfl ?_
  refine w_iload_n (q := 136) d_Model_readEntry_135 rfl rfl ?_
  refine w_bipush (q := 138) (v := 6) d_Model_readEntry_136 rfl (by decide) ?_
  refine w_iadd (q := 139) d_Model_readEntry_138 rfl ?_
  refine w_aload_n (q := 140) d_Model_readEntry_139 rfl rfl ?_
  refine w_ldcS (q := 142) (j := 37) d_Model_readEntry_140 rfl (by decide) rfl ?_
  obtain ⟨v18, hv, h⟩ := bnd h
  refine w_callVi (q := 145) (M' := M_Model_is) (n' := 5) (k := 54) (As := [.ref (1048576 + 37)]) (sh' := SH) (b1 := (0, 0)) d_Model_readEntry_142 rfl mw_Model_is (by decide) (by decide) ml_Model_182 (by decide) s_54 (by decide) rfl rfl rfl (leb rfl) (bz _) (fun _ => rfl) (ok_Model_is (by decide) hv) ?_
  by_cases c19 : v18 = 0
  · rw [if_pos c19] at h
    refine w_if_eq_t (q := 152) d_Model_readEntry_145 rfl c19 ?_
    refine w_iconst (q := 153) (v := 0) d_Model_readEntry_152 rfl (by decide) ?_
    refine w_ls (ls' := [some (.ref 54), none, some (.int x2)]) (And.intro rfl (And.intro rfl trivial)) ?_
    exact ok_Model_readEntry_j153 h
  · rw [if_neg c19] at h
    refine w_if_eq_f (q := 148) d_Model_readEntry_145 152 rfl rfl c19 ?_
    refine w_iconst (q := 149) (v := 1) d_Model_readEntry_148 rfl (by decide) ?_
    refine w_goto (q := 153) d_Model_readEntry_149 rfl ?_
    refine w_ls (ls' := [some (.ref 54), none, some (.int x2)]) (And.intro rfl (And.intro rfl trivial)) ?_
    exact ok_Model_readEntry_j153 h
def sp_Model_readEntry (F : Nat) (p0 : Int32) (g : Mem) : Option (Mem) := (sp_Model_anotherEntry F g).bind fun v1 => if v1.1 = 0 then some v1.2 else (rd v1.2 58 12 10).bind fun v3 => (sp_Model_readAt v3 v1.2).bind fun v4 => (wr v1.2 62 432 (v4 + 0) p0).bind fun g5 => (rd g5 58 12 6).bind fun v6 => (sp_Model_readOne F v6 g5).bind fun v7 => (wr v7.2 62 432 (v4 + 1) v7.1).bind fun g8 => (sp_Model_readNumber F 0 60 g8).bind fun v9 => (wr v9.2 62 432 (v4 + 2) (-v9.1)).bind fun g10 => (sp_Model_readNumber F 0 7 g10).bind fun v11 => (wr v11.2 62 432 (v4 + 3) v11.1).bind fun g12 => (sp_Model_readNumber F 0 999 g12).bind fun v13 => (wr v13.2 62 432 (v4 + 4) v13.1).bind fun g14 => (wr g14 62 432 (v4 + 5) 0).bind fun g15 => (sp_Model_is F 36 g15).bind fun v16 => if v16 = 0 then sp_Model_readEntry_j131 F p0 g g15 v4 else (sp_Model_stepOn F g15).bind fun v29 => (sp_Model_readNumber F 0 7 v29).bind fun v30 => (wr v30.2 62 432 (v4 + 5) v30.1).bind fun g31 => sp_Model_readEntry_j131 F p0 g g31 v4
theorem ok_Model_readEntry {γ : GG} {tt : Bool} {F : Nat} {p0 : Int32} {g : Mem} {res : Mem} (h : sp_Model_readEntry F p0 g = some res) : CA γ M_Model_readEntry 6 [.ref 54, .int p0] SH g tt (0, 0) (pV SH res tt) := by
  refine CA.of mw_Model_readEntry.1 1 rfl ?_
  show WA γ M_Model_readEntry 6 0 [some (.ref 54), some (.int p0), none] [] SH g tt (0, 0) (pV SH res tt)
  unfold sp_Model_readEntry at h
  refine w_aload_n (q := 1) d_Model_readEntry_0 rfl rfl ?_
  obtain ⟨v1, hv, h⟩ := bnd h
  refine w_callVi (q := 4) (M' := M_Model_anotherEntry) (n' := 2) (k := 54) (As := []) (sh' := SH) (b1 := (0, 0)) d_Model_readEntry_1 rfl mw_Model_anotherEntry (by decide) (by decide) ml_Model_242 (by decide) s_54 (by decide) rfl rfl rfl (leb rfl) (bz _) (fun _ => rfl) (ok_Model_anotherEntry hv) ?_
  by_cases c2 : v1.1 = 0
  · rw [if_pos c2] at h
    refine w_if_ne_f (q := 7) d_Model_readEntry_4 8 rfl rfl c2 ?_
    cases h
    exact w_return d_Model_readEntry_7 rfl ⟨rfl, rfl, rfl, rfl⟩
  · rw [if_neg c2] at h
    refine w_if_ne_t (q := 8) d_Model_readEntry_4 rfl c2 ?_
    refine w_aload_n (q := 9) d_Model_readEntry_8 rfl rfl ?_
    refine w_get (q := 12) (ci := 12) (j := 4) d_Model_readEntry_9 rfl (by decide) fl_Model_51 (by decide) (by decide) s_54 rfl rfl ?_
    refine w_bipush (q := 14) (v := 10) d_Model_readEntry_12 rfl (by decide) ?_
    obtain ⟨v3, hv, h⟩ := bnd h
    obtain ⟨hi, hv⟩ := rd_ok hv
    refine w_iald (q := 15) (t := 0) d_Model_readEntry_14 rfl a_58.2 a_58.1 hi rfl ?_
    rw [hv]
    obtain ⟨v4, hv, h⟩ := bnd h
    refine w_callSi (q := 18) (M' := M_Model_readAt) (n' := 0) (As := [.int v3]) (sh' := SH) (b1 := (0, 0)) d_Model_readEntry_15 rfl mw_Model_readAt (by decide) (by decide) ml_Model_246 rfl rfl (leb rfl) (bz _) (fun _ => rfl) (ok_Model_readAt hv) ?_
    refine w_istore_n (q := 19) (ls' := [some (.ref 54), some (.int p0), some (.int v4)]) d_Model_readEntry_18 rfl (by decide) rfl rfl ?_
    refine w_aload_n (q := 20) d_Model_readEntry_19 rfl rfl ?_
    refine w_get (q := 23) (ci := 12) (j := 8) d_Model_readEntry_20 rfl (by decide) fl_Model_62 (by decide) (by decide) s_54 rfl rfl ?_
    refine w_iload_n (q := 24) d_Model_readEntry_23 rfl rfl ?_
    refine w_iconst (q := 25) (v := 0) d_Model_readEntry_24 rfl (by decide) ?_
    refine w_iadd (q := 26) d_Model_readEntry_25 rfl ?_
    refine w_iload_n (q := 27) d_Model_readEntry_26 rfl rfl ?_
    obtain ⟨g5, hv, h⟩ := bnd h
    obtain ⟨hi, hv⟩ := wr_ok hv
    refine w_iast (q := 28) d_Model_readEntry_27 rfl a_62.2 a_62.1 hi hv ?_
    refine w_aload_n (q := 29) d_Model_readEntry_28 rfl rfl ?_
    refine w_get (q := 32) (ci := 12) (j := 8) d_Model_readEntry_29 rfl (by decide) fl_Model_62 (by decide) (by decide) s_54 rfl rfl ?_
    refine w_iload_n (q := 33) d_Model_readEntry_32 rfl rfl ?_
    refine w_iconst (q := 34) (v := 1) d_Model_readEntry_33 rfl (by decide) ?_
    refine w_iadd (q := 35) d_Model_readEntry_34 rfl ?_
    refine w_aload_n (q := 36) d_Model_readEntry_35 rfl rfl ?_
    refine w_aload_n (q := 37) d_Model_readEntry_36 rfl rfl ?_
    refine w_get (q := 40) (ci := 12) (j := 4) d_Model_readEntry_37 rfl (by decide) fl_Model_51 (by decide) (by decide) s_54 rfl rfl ?_
    refine w_bipush (q := 42) (v := 6) d_Model_readEntry_40 rfl (by decide) ?_
    obtain ⟨v6, hv, h⟩ := bnd h
    obtain ⟨hi, hv⟩ := rd_ok hv
    refine w_iald (q := 43) (t := 0) d_Model_readEntry_42 rfl a_58.2 a_58.1 hi rfl ?_
    rw [hv]
    obtain ⟨v7, hv, h⟩ := bnd h
    refine w_callVi (q := 46) (M' := M_Model_readOne) (n' := 3) (k := 54) (As := [.int v6]) (sh' := SH) (b1 := (0, 0)) d_Model_readEntry_43 rfl mw_Model_readOne (by decide) (by decide) ml_Model_249 (by decide) s_54 (by decide) rfl rfl rfl (leb rfl) (bz _) (fun _ => rfl) (ok_Model_readOne hv) ?_
    obtain ⟨g8, hv, h⟩ := bnd h
    obtain ⟨hi, hv⟩ := wr_ok hv
    refine w_iast (q := 47) d_Model_readEntry_46 rfl a_62.2 a_62.1 hi hv ?_
    refine w_aload_n (q := 48) d_Model_readEntry_47 rfl rfl ?_
    refine w_get (q := 51) (ci := 12) (j := 8) d_Model_readEntry_48 rfl (by decide) fl_Model_62 (by decide) (by decide) s_54 rfl rfl ?_
    refine w_iload_n (q := 52) d_Model_readEntry_51 rfl rfl ?_
    refine w_iconst (q := 53) (v := 2) d_Model_readEntry_52 rfl (by decide) ?_
    refine w_iadd (q := 54) d_Model_readEntry_53 rfl ?_
    refine w_aload_n (q := 55) d_Model_readEntry_54 rfl rfl ?_
    refine w_iconst (q := 56) (v := 0) d_Model_readEntry_55 rfl (by decide) ?_
    refine w_bipush (q := 58) (v := 60) d_Model_readEntry_56 rfl (by decide) ?_
    obtain ⟨v9, hv, h⟩ := bnd h
    refine w_callVi (q := 61) (M' := M_Model_readNumber) (n' := 2) (k := 54) (As := [.int 0, .int 60]) (sh' := SH) (b1 := (0, 0)) d_Model_readEntry_58 rfl mw_Model_readNumber (by decide) (by decide) ml_Model_202 (by decide) s_54 (by decide) rfl rfl rfl (leb rfl) (bz _) (fun _ => rfl) (ok_Model_readNumber hv) ?_
    refine w_ineg (q := 62) d_Model_readEntry_61 rfl ?_
    obtain ⟨g10, hv, h⟩ := bnd h
    obtain ⟨hi, hv⟩ := wr_ok hv
    refine w_iast (q := 63) d_Model_readEntry_62 rfl a_62.2 a_62.1 hi hv ?_
    refine w_aload_n (q := 64) d_Model_readEntry_63 rfl rfl ?_
    refine w_get (q := 67) (ci := 12) (j := 8) d_Model_readEntry_64 rfl (by decide) fl_Model_62 (by decide) (by decide) s_54 rfl rfl ?_
    refine w_iload_n (q := 68) d_Model_readEntry_67 rfl rfl ?_
    refine w_iconst (q := 69) (v := 3) d_Model_readEntry_68 rfl (by decide) ?_
    refine w_iadd (q := 70) d_Model_readEntry_69 rfl ?_
    refine w_aload_n (q := 71) d_Model_readEntry_70 rfl rfl ?_
    refine w_iconst (q := 72) (v := 0) d_Model_readEntry_71 rfl (by decide) ?_
    refine w_bipush (q := 74) (v := 7) d_Model_readEntry_72 rfl (by decide) ?_
    obtain ⟨v11, hv, h⟩ := bnd h
    refine w_callVi (q := 77) (M' := M_Model_readNumber) (n' := 2) (k := 54) (As := [.int 0, .int 7]) (sh' := SH) (b1 := (0, 0)) d_Model_readEntry_74 rfl mw_Model_readNumber (by decide) (by decide) ml_Model_202 (by decide) s_54 (by decide) rfl rfl rfl (leb rfl) (bz _) (fun _ => rfl) (ok_Model_readNumber hv) ?_
    obtain ⟨g12, hv, h⟩ := bnd h
    obtain ⟨hi, hv⟩ := wr_ok hv
    refine w_iast (q := 78) d_Model_readEntry_77 rfl a_62.2 a_62.1 hi hv ?_
    refine w_aload_n (q := 79) d_Model_readEntry_78 rfl rfl ?_
    refine w_get (q := 82) (ci := 12) (j := 8) d_Model_readEntry_79 rfl (by decide) fl_Model_62 (by decide) (by decide) s_54 rfl rfl ?_
    refine w_iload_n (q := 83) d_Model_readEntry_82 rfl rfl ?_
    refine w_iconst (q := 84) (v := 4) d_Model_readEntry_83 rfl (by decide) ?_
    refine w_iadd (q := 85) d_Model_readEntry_84 rfl ?_
    refine w_aload_n (q := 86) d_Model_readEntry_85 rfl rfl ?_
    refine w_iconst (q := 87) (v := 0) d_Model_readEntry_86 rfl (by decide) ?_
    refine w_sipush (q := 90) (v := 999) d_Model_readEntry_87 rfl (by decide) ?_
    obtain ⟨v13, hv, h⟩ := bnd h
    refine w_callVi (q := 93) (M' := M_Model_readNumber) (n' := 2) (k := 54) (As := [.int 0, .int 999]) (sh' := SH) (b1 := (0, 0)) d_Model_readEntry_90 rfl mw_Model_readNumber (by decide) (by decide) ml_Model_202 (by decide) s_54 (by decide) rfl rfl rfl (leb rfl) (bz _) (fun _ => rfl) (ok_Model_readNumber hv) ?_
    obtain ⟨g14, hv, h⟩ := bnd h
    obtain ⟨hi, hv⟩ := wr_ok hv
    refine w_iast (q := 94) d_Model_readEntry_93 rfl a_62.2 a_62.1 hi hv ?_
    refine w_aload_n (q := 95) d_Model_readEntry_94 rfl rfl ?_
    refine w_get (q := 98) (ci := 12) (j := 8) d_Model_readEntry_95 rfl (by decide) fl_Model_62 (by decide) (by decide) s_54 rfl rfl ?_
    refine w_iload_n (q := 99) d_Model_readEntry_98 rfl rfl ?_
    refine w_iconst (q := 100) (v := 5) d_Model_readEntry_99 rfl (by decide) ?_
    refine w_iadd (q := 101) d_Model_readEntry_100 rfl ?_
    refine w_iconst (q := 102) (v := 0) d_Model_readEntry_101 rfl (by decide) ?_
    obtain ⟨g15, hv, h⟩ := bnd h
    obtain ⟨hi, hv⟩ := wr_ok hv
    refine w_iast (q := 103) d_Model_readEntry_102 rfl a_62.2 a_62.1 hi hv ?_
    refine w_aload_n (q := 104) d_Model_readEntry_103 rfl rfl ?_
    refine w_ldcS (q := 106) (j := 36) d_Model_readEntry_104 rfl (by decide) rfl ?_
    obtain ⟨v16, hv, h⟩ := bnd h
    refine w_callVi (q := 109) (M' := M_Model_is) (n' := 5) (k := 54) (As := [.ref (1048576 + 36)]) (sh' := SH) (b1 := (0, 0)) d_Model_readEntry_106 rfl mw_Model_is (by decide) (by decide) ml_Model_182 (by decide) s_54 (by decide) rfl rfl rfl (leb rfl) (bz _) (fun _ => rfl) (ok_Model_is (by decide) hv) ?_
    by_cases c17 : v16 = 0
    · rw [if_pos c17] at h
      refine w_if_eq_t (q := 131) d_Model_readEntry_109 rfl c17 ?_
      refine w_ls (ls' := [some (.ref 54), none, some (.int v4)]) (And.intro rfl (And.intro rfl trivial)) ?_
      exact ok_Model_readEntry_j131 h
    · rw [if_neg c17] at h
      refine w_if_eq_f (q := 112) d_Model_readEntry_109 131 rfl rfl c17 ?_
      refine w_aload_n (q := 113) d_Model_readEntry_112 rfl rfl ?_
      obtain ⟨v29, hv, h⟩ := bnd h
      refine w_callVv (q := 116) (M' := M_Model_stepOn) (n' := 1) (k := 54) (As := []) (sh' := SH) (b1 := (0, 0)) d_Model_readEntry_113 rfl mw_Model_stepOn (by decide) (by decide) ml_Model_193 (by decide) s_54 (by decide) rfl rfl rfl (leb rfl) (bz _) (fun _ => rfl) (ok_Model_stepOn hv) ?_
      refine w_aload_n (q := 117) d_Model_readEntry_116 rfl rfl ?_
      refine w_get (q := 120) (ci := 12) (j := 8) d_Model_readEntry_117 rfl (by decide) fl_Model_62 (by decide) (by decide) s_54 rfl rfl ?_
      refine w_iload_n (q := 121) d_Model_readEntry_120 rfl rfl ?_
      refine w_iconst (q := 122) (v := 5) d_Model_readEntry_121 rfl (by decide) ?_
      refine w_iadd (q := 123) d_Model_readEntry_122 rfl ?_
      refine w_aload_n (q := 124) d_Model_readEntry_123 rfl rfl ?_
      refine w_iconst (q := 125) (v := 0) d_Model_readEntry_124 rfl (by decide) ?_
      refine w_bipush (q := 127) (v := 7) d_Model_readEntry_125 rfl (by decide) ?_
      obtain ⟨v30, hv, h⟩ := bnd h
      refine w_callVi (q := 130) (M' := M_Model_readNumber) (n' := 2) (k := 54) (As := [.int 0, .int 7]) (sh' := SH) (b1 := (0, 0)) d_Model_readEntry_127 rfl mw_Model_readNumber (by decide) (by decide) ml_Model_202 (by decide) s_54 (by decide) rfl rfl rfl (leb rfl) (bz _) (fun _ => rfl) (ok_Model_readNumber hv) ?_
      obtain ⟨g31, hv, h⟩ := bnd h
      obtain ⟨hi, hv⟩ := wr_ok hv
      refine w_iast (q := 131) d_Model_readEntry_130 rfl a_62.2 a_62.1 hi hv ?_
      refine w_ls (ls' := [some (.ref 54), none, some (.int v4)]) (And.intro rfl (And.intro rfl trivial)) ?_
      exact ok_Model_readEntry_j131 h
def PL_Model_readCopy_37 (γ : GG) (tt : Bool) (g : Mem) (k1 : Int32) (k2 : Int32) (b : Nat × Nat) (Φ : PO) (s : Int32 × Mem) : Prop := WA γ M_Model_readCopy 4 37 [some (.ref 54), some (.int k1), some (.int k2), some (.int s.1), none, none] [] SH s.2 tt b Φ
def QL_Model_readCopy_37 (γ : GG) (tt : Bool) (g : Mem) (k1 : Int32) (k2 : Int32) (b : Nat × Nat) (Φ : PO) (x : (Mem)) : Prop := WA γ M_Model_readCopy 4 105 [some (.ref 54), some (.int k1), some (.int k2), none, none, none] [] SH x tt b Φ
def st_Model_readCopy_37 (F : Nat) (g : Mem) (k1 : Int32) (k2 : Int32) (s : Int32 × Mem) : Option ((Int32 × Mem) ⊕ ((Mem))) := (rd s.2 58 12 10).bind fun v8 => if v8 ≤ s.1 then some (.inr s.2) else if (s.2 54 19) = 0 then (sp_Model_readAt s.1 s.2).bind fun v11 => (rd s.2 62 432 (v11 + 7)).bind fun v12 => (rd s.2 62 432 (k1 + 7)).bind fun v13 => if v12 = v13 then (sp_Model_readAt s.1 s.2).bind fun v15 => (rd s.2 62 432 (v15 + 1)).bind fun v16 => if v16 = k2 then (sp_Model_wrong 4 s.2).bind fun v18 => some (.inl (s.1 + 1, v18)) else some (.inl (s.1 + 1, s.2)) else some (.inl (s.1 + 1, s.2)) else some (.inr s.2)
theorem kl_Model_readCopy_37 {γ : GG} {tt : Bool} {F : Nat} {g : Mem} {k1 : Int32} {k2 : Int32} {b : Nat × Nat} {Φ : PO} : ∀ (s : Int32 × Mem) (r : (Int32 × Mem) ⊕ ((Mem))), st_Model_readCopy_37 F g k1 k2 s = some r → RQ (PL_Model_readCopy_37 γ tt g k1 k2 b Φ) (QL_Model_readCopy_37 γ tt g k1 k2 b Φ) r → PL_Model_readCopy_37 γ tt g k1 k2 b Φ s := by
  intro s r h hr
  unfold st_Model_readCopy_37 at h
  unfold PL_Model_readCopy_37
  refine w_iload_n (q := 38) d_Model_readCopy_37 rfl rfl ?_
  refine w_aload_n (q := 39) d_Model_readCopy_38 rfl rfl ?_
  refine w_get (q := 42) (ci := 12) (j := 4) d_Model_readCopy_39 rfl (by decide) fl_Model_51 (by decide) (by decide) s_54 rfl rfl ?_
  refine w_bipush (q := 44) (v := 10) d_Model_readCopy_42 rfl (by decide) ?_
  obtain ⟨v8, hv, h⟩ := bnd h
  obtain ⟨hi, hv⟩ := rd_ok hv
  refine w_iald (q := 45) (t := 0) d_Model_readCopy_44 rfl a_58.2 a_58.1 hi rfl ?_
  rw [hv]
  by_cases c9 : v8 ≤ s.1
  · rw [if_pos c9] at h
    refine w_icmp_ge_t (q := 105) d_Model_readCopy_45 rfl c9 ?_
    cases h
    exact w_ls (by exact (And.intro rfl (And.intro rfl (And.intro rfl trivial)))) hr
  · rw [if_neg c9] at h
    refine w_icmp_ge_f (q := 48) d_Model_readCopy_45 105 rfl rfl c9 ?_
    refine w_aload_n (q := 49) d_Model_readCopy_48 rfl rfl ?_
    refine w_get (q := 52) (ci := 12) (j := 19) d_Model_readCopy_49 rfl (by decide) fl_Model_168 (by decide) (by decide) s_54 rfl rfl ?_
    by_cases c10 : (s.2 54 19) = 0
    · rw [if_pos c10] at h
      refine w_if_ne_f (q := 55) d_Model_readCopy_52 105 rfl rfl c10 ?_
      refine w_aload_n (q := 56) d_Model_readCopy_55 rfl rfl ?_
      refine w_get (q := 59) (ci := 12) (j := 8) d_Model_readCopy_56 rfl (by decide) fl_Model_62 (by decide) (by decide) s_54 rfl rfl ?_
      refine w_iload_n (q := 60) d_Model_readCopy_59 rfl rfl ?_
      obtain ⟨v11, hv, h⟩ := bnd h
      refine w_callSi (q := 63) (M' := M_Model_readAt) (n' := 0) (As := [.int s.1]) (sh' := SH) (b1 := (0, 0)) d_Model_readCopy_60 rfl mw_Model_readAt (by decide) (by decide) ml_Model_246 rfl rfl (leb rfl) (bz _) (fun _ => rfl) (ok_Model_readAt hv) ?_
      refine w_bipush (q := 65) (v := 7) d_Model_readCopy_63 rfl (by decide) ?_
      refine w_iadd (q := 66) d_Model_readCopy_65 rfl ?_
      obtain ⟨v12, hv, h⟩ := bnd h
      obtain ⟨hi, hv⟩ := rd_ok hv
      refine w_iald (q := 67) (t := 0) d_Model_readCopy_66 rfl a_62.2 a_62.1 hi rfl ?_
      rw [hv]
      refine w_aload_n (q := 68) d_Model_readCopy_67 rfl rfl ?_
      refine w_get (q := 71) (ci := 12) (j := 8) d_Model_readCopy_68 rfl (by decide) fl_Model_62 (by decide) (by decide) s_54 rfl rfl ?_
      refine w_iload_n (q := 72) d_Model_readCopy_71 rfl rfl ?_
      refine w_bipush (q := 74) (v := 7) d_Model_readCopy_72 rfl (by decide) ?_
      refine w_iadd (q := 75) d_Model_readCopy_74 rfl ?_
      obtain ⟨v13, hv, h⟩ := bnd h
      obtain ⟨hi, hv⟩ := rd_ok hv
      refine w_iald (q := 76) (t := 0) d_Model_readCopy_75 rfl a_62.2 a_62.1 hi rfl ?_
      rw [hv]
      by_cases c14 : v12 = v13
      · rw [if_pos c14] at h
        refine w_icmp_ne_f (q := 79) d_Model_readCopy_76 99 rfl rfl c14 ?_
        refine w_aload_n (q := 80) d_Model_readCopy_79 rfl rfl ?_
        refine w_get (q := 83) (ci := 12) (j := 8) d_Model_readCopy_80 rfl (by decide) fl_Model_62 (by decide) (by decide) s_54 rfl rfl ?_
        refine w_iload_n (q := 84) d_Model_readCopy_83 rfl rfl ?_
        obtain ⟨v15, hv, h⟩ := bnd h
        refine w_callSi (q := 87) (M' := M_Model_readAt) (n' := 0) (As := [.int s.1]) (sh' := SH) (b1 := (0, 0)) d_Model_readCopy_84 rfl mw_Model_readAt (by decide) (by decide) ml_Model_246 rfl rfl (leb rfl) (bz _) (fun _ => rfl) (ok_Model_readAt hv) ?_
        refine w_iconst (q := 88) (v := 1) d_Model_readCopy_87 rfl (by decide) ?_
        refine w_iadd (q := 89) d_Model_readCopy_88 rfl ?_
        obtain ⟨v16, hv, h⟩ := bnd h
        obtain ⟨hi, hv⟩ := rd_ok hv
        refine w_iald (q := 90) (t := 0) d_Model_readCopy_89 rfl a_62.2 a_62.1 hi rfl ?_
        rw [hv]
        refine w_iload_n (q := 91) d_Model_readCopy_90 rfl rfl ?_
        by_cases c17 : v16 = k2
        · rw [if_pos c17] at h
          refine w_icmp_ne_f (q := 94) d_Model_readCopy_91 99 rfl rfl c17 ?_
          refine w_aload_n (q := 95) d_Model_readCopy_94 rfl rfl ?_
          refine w_iconst (q := 96) (v := 4) d_Model_readCopy_95 rfl (by decide) ?_
          obtain ⟨v18, hv, h⟩ := bnd h
          refine w_callVv (q := 99) (M' := M_Model_wrong) (n' := 0) (k := 54) (As := [.int 4]) (sh' := SH) (b1 := (0, 0)) d_Model_readCopy_96 rfl mw_Model_wrong (by decide) (by decide) ml_Model_189 (by decide) s_54 (by decide) rfl rfl rfl (leb rfl) (bz _) (fun _ => rfl) (ok_Model_wrong hv) ?_
          refine w_iinc (q := 102) (ls' := [some (.ref 54), some (.int k1), some (.int k2), some (.int (s.1 + 1)), none, none]) d_Model_readCopy_99 rfl (by decide) rfl rfl rfl ?_
          refine w_goto (q := 37) d_Model_readCopy_102 rfl ?_
          cases h
          exact w_ls (by exact (And.intro rfl (And.intro rfl (And.intro rfl (And.intro rfl trivial))))) hr
        · rw [if_neg c17] at h
          refine w_icmp_ne_t (q := 99) d_Model_readCopy_91 rfl c17 ?_
          refine w_iinc (q := 102) (ls' := [some (.ref 54), some (.int k1), some (.int k2), some (.int (s.1 + 1)), none, none]) d_Model_readCopy_99 rfl (by decide) rfl rfl rfl ?_
          refine w_goto (q := 37) d_Model_readCopy_102 rfl ?_
          cases h
          exact w_ls (by exact (And.intro rfl (And.intro rfl (And.intro rfl (And.intro rfl trivial))))) hr
      · rw [if_neg c14] at h
        refine w_icmp_ne_t (q := 99) d_Model_readCopy_76 rfl c14 ?_
        refine w_iinc (q := 102) (ls' := [some (.ref 54), some (.int k1), some (.int k2), some (.int (s.1 + 1)), none, none]) d_Model_readCopy_99 rfl (by decide) rfl rfl rfl ?_
        refine w_goto (q := 37) d_Model_readCopy_102 rfl ?_
        cases h
        exact w_ls (by exact (And.intro rfl (And.intro rfl (And.intro rfl (And.intro rfl trivial))))) hr
    · rw [if_neg c10] at h
      refine w_if_ne_t (q := 105) d_Model_readCopy_52 rfl c10 ?_
      cases h
      exact w_ls (by exact (And.intro rfl (And.intro rfl (And.intro rfl trivial)))) hr
def PL_Model_readCopy_147 (γ : GG) (tt : Bool) (g : Mem) (k1 : Int32) (k2 : Int32) (k3 : Int32) (k4 : Int32) (b : Nat × Nat) (Φ : PO) (s : Int32 × Mem) : Prop := WA γ M_Model_readCopy 4 147 [some (.ref 54), some (.int k1), some (.int k2), some (.int k3), some (.int k4), some (.int s.1)] [] SH s.2 tt b Φ
def QL_Model_readCopy_147 (γ : GG) (tt : Bool) (g : Mem) (k1 : Int32) (k2 : Int32) (k3 : Int32) (k4 : Int32) (b : Nat × Nat) (Φ : PO) (x : (Mem)) : Prop := WA γ M_Model_readCopy 4 179 [some (.ref 54), none, some (.int k2), some (.int k3), some (.int k4), none] [] SH x tt b Φ
def st_Model_readCopy_147 (F : Nat) (g : Mem) (k1 : Int32) (k2 : Int32) (k3 : Int32) (k4 : Int32) (s : Int32 × Mem) : Option ((Int32 × Mem) ⊕ ((Mem))) := if 9 ≤ s.1 then some (.inr s.2) else (rd s.2 62 432 (k1 + s.1)).bind fun v27 => (wr s.2 62 432 (k4 + s.1) v27).bind fun g28 => some (.inl (s.1 + 1, g28))
theorem kl_Model_readCopy_147 {γ : GG} {tt : Bool} {F : Nat} {g : Mem} {k1 : Int32} {k2 : Int32} {k3 : Int32} {k4 : Int32} {b : Nat × Nat} {Φ : PO} : ∀ (s : Int32 × Mem) (r : (Int32 × Mem) ⊕ ((Mem))), st_Model_readCopy_147 F g k1 k2 k3 k4 s = some r → RQ (PL_Model_readCopy_147 γ tt g k1 k2 k3 k4 b Φ) (QL_Model_readCopy_147 γ tt g k1 k2 k3 k4 b Φ) r → PL_Model_readCopy_147 γ tt g k1 k2 k3 k4 b Φ s := by
  intro s r h hr
  unfold st_Model_readCopy_147 at h
  unfold PL_Model_readCopy_147
  refine w_iload (q := 149) d_Model_readCopy_147 rfl rfl ?_
  refine w_bipush (q := 151) (v := 9) d_Model_readCopy_149 rfl (by decide) ?_
  by_cases c26 : 9 ≤ s.1
  · rw [if_pos c26] at h
    refine w_icmp_ge_t (q := 179) d_Model_readCopy_151 rfl c26 ?_
    cases h
    exact w_ls (by exact (And.intro rfl (And.intro rfl (And.intro rfl (And.intro rfl trivial))))) hr
  · rw [if_neg c26] at h
    refine w_icmp_ge_f (q := 154) d_Model_readCopy_151 179 rfl rfl c26 ?_
    refine w_aload_n (q := 155) d_Model_readCopy_154 rfl rfl ?_
    refine w_get (q := 158) (ci := 12) (j := 8) d_Model_readCopy_155 rfl (by decide) fl_Model_62 (by decide) (by decide) s_54 rfl rfl ?_
    refine w_iload (q := 160) d_Model_readCopy_158 rfl rfl ?_
    refine w_iload (q := 162) d_Model_readCopy_160 rfl rfl ?_
    refine w_iadd (q := 163) d_Model_readCopy_162 rfl ?_
    refine w_aload_n (q := 164) d_Model_readCopy_163 rfl rfl ?_
    refine w_get (q := 167) (ci := 12) (j := 8) d_Model_readCopy_164 rfl (by decide) fl_Model_62 (by decide) (by decide) s_54 rfl rfl ?_
    refine w_iload_n (q := 168) d_Model_readCopy_167 rfl rfl ?_
    refine w_iload (q := 170) d_Model_readCopy_168 rfl rfl ?_
    refine w_iadd (q := 171) d_Model_readCopy_170 rfl ?_
    obtain ⟨v27, hv, h⟩ := bnd h
    obtain ⟨hi, hv⟩ := rd_ok hv
    refine w_iald (q := 172) (t := 0) d_Model_readCopy_171 rfl a_62.2 a_62.1 hi rfl ?_
    rw [hv]
    obtain ⟨g28, hv, h⟩ := bnd h
    obtain ⟨hi, hv⟩ := wr_ok hv
    refine w_iast (q := 173) d_Model_readCopy_172 rfl a_62.2 a_62.1 hi hv ?_
    refine w_iinc (q := 176) (ls' := [some (.ref 54), some (.int k1), some (.int k2), some (.int k3), some (.int k4), some (.int (s.1 + 1))]) d_Model_readCopy_173 rfl (by decide) rfl rfl rfl ?_
    refine w_goto (q := 147) d_Model_readCopy_176 rfl ?_
    cases h
    exact w_ls (by exact (And.intro rfl (And.intro rfl (And.intro rfl (And.intro rfl (And.intro rfl (And.intro rfl trivial))))))) hr
def sp_Model_readCopy_j116 (F : Nat) (g : Mem) (m0 : Mem) (x1 : Int32) (x2 : Int32) : Option (Mem) := (sp_Model_readNumber F 0 60 m0).bind fun v22 => if (v22.2 54 19) = 0 then (rd v22.2 58 12 10).bind fun v24 => (sp_Model_readAt v24 v22.2).bind fun v25 => (lpO (st_Model_readCopy_147 F g x1 x2 v22.1 v25) F (0, v22.2)).bind fun x29 => (wr x29 62 432 (v25 + 1) x2).bind fun g30 => (wr g30 62 432 (v25 + 2) (-v22.1)).bind fun g31 => (wr g31 62 432 (v25 + 6) 0).bind fun g32 => (rd g32 58 12 10).bind fun v33 => (wr g32 58 12 10 (v33 + 1)).bind fun g34 => some g34 else some v22.2
theorem ok_Model_readCopy_j116 {γ : GG} {tt : Bool} {F : Nat} {g : Mem} {m0 : Mem} {x1 : Int32} {x2 : Int32} {res : Mem} (h : sp_Model_readCopy_j116 F g m0 x1 x2 = some res) : WA γ M_Model_readCopy 4 116 [some (.ref 54), some (.int x1), some (.int x2), none, none, none] [] SH m0 tt (0, 0) (pV SH res tt) := by
  unfold sp_Model_readCopy_j116 at h
  refine w_aload_n (q := 117) d_Model_readCopy_116 rfl rfl ?_
  refine w_iconst (q := 118) (v := 0) d_Model_readCopy_117 rfl (by decide) ?_
  refine w_bipush (q := 120) (v := 60) d_Model_readCopy_118 rfl (by decide) ?_
  obtain ⟨v22, hv, h⟩ := bnd h
  refine w_callVi (q := 123) (M' := M_Model_readNumber) (n' := 2) (k := 54) (As := [.int 0, .int 60]) (sh' := SH) (b1 := (0, 0)) d_Model_readCopy_120 rfl mw_Model_readNumber (by decide) (by decide) ml_Model_202 (by decide) s_54 (by decide) rfl rfl rfl (leb rfl) (bz _) (fun _ => rfl) (ok_Model_readNumber hv) ?_
  refine w_istore_n (q := 124) (ls' := [some (.ref 54), some (.int x1), some (.int x2), some (.int v22.1), none, none]) d_Model_readCopy_123 rfl (by decide) rfl rfl ?_
  refine w_aload_n (q := 125) d_Model_readCopy_124 rfl rfl ?_
  refine w_get (q := 128) (ci := 12) (j := 19) d_Model_readCopy_125 rfl (by decide) fl_Model_168 (by decide) (by decide) s_54 rfl rfl ?_
  by_cases c23 : (v22.2 54 19) = 0
  · rw [if_pos c23] at h
    refine w_if_eq_t (q := 132) d_Model_readCopy_128 rfl c23 ?_
    refine w_aload_n (q := 133) d_Model_readCopy_132 rfl rfl ?_
    refine w_get (q := 136) (ci := 12) (j := 4) d_Model_readCopy_133 rfl (by decide) fl_Model_51 (by decide) (by decide) s_54 rfl rfl ?_
    refine w_bipush (q := 138) (v := 10) d_Model_readCopy_136 rfl (by decide) ?_
    obtain ⟨v24, hv, h⟩ := bnd h
    obtain ⟨hi, hv⟩ := rd_ok hv
    refine w_iald (q := 139) (t := 0) d_Model_readCopy_138 rfl a_58.2 a_58.1 hi rfl ?_
    rw [hv]
    obtain ⟨v25, hv, h⟩ := bnd h
    refine w_callSi (q := 142) (M' := M_Model_readAt) (n' := 0) (As := [.int v24]) (sh' := SH) (b1 := (0, 0)) d_Model_readCopy_139 rfl mw_Model_readAt (by decide) (by decide) ml_Model_246 rfl rfl (leb rfl) (bz _) (fun _ => rfl) (ok_Model_readAt hv) ?_
    refine w_istore (q := 144) (ls' := [some (.ref 54), some (.int x1), some (.int x2), some (.int v22.1), some (.int v25), none]) d_Model_readCopy_142 rfl (by decide) rfl rfl ?_
    refine w_iconst (q := 145) (v := 0) d_Model_readCopy_144 rfl (by decide) ?_
    refine w_istore (q := 147) (ls' := [some (.ref 54), some (.int x1), some (.int x2), some (.int v22.1), some (.int v25), some (.int 0)]) d_Model_readCopy_145 rfl (by decide) rfl rfl ?_
    obtain ⟨x29, hx, h⟩ := bnd h
    refine w_ls (ls' := [some (.ref 54), some (.int x1), some (.int x2), some (.int v22.1), some (.int v25), some (.int 0)]) (And.intro rfl (And.intro rfl (And.intro rfl (And.intro rfl (And.intro rfl (And.intro rfl trivial)))))) ?_
    show PL_Model_readCopy_147 γ tt g x1 x2 v22.1 v25 _ _ (0, v22.2)
    refine lp_ok (kl_Model_readCopy_147) F _ x29 hx ?_
    unfold QL_Model_readCopy_147
    refine w_aload_n (q := 180) d_Model_readCopy_179 rfl rfl ?_
    refine w_get (q := 183) (ci := 12) (j := 8) d_Model_readCopy_180 rfl (by decide) fl_Model_62 (by decide) (by decide) s_54 rfl rfl ?_
    refine w_iload (q := 185) d_Model_readCopy_183 rfl rfl ?_
    refine w_iconst (q := 186) (v := 1) d_Model_readCopy_185 rfl (by decide) ?_
    refine w_iadd (q := 187) d_Model_readCopy_186 rfl ?_
    refine w_iload_n (q := 188) d_Model_readCopy_187 rfl rfl ?_
    obtain ⟨g30, hv, h⟩ := bnd h
    obtain ⟨hi, hv⟩ := wr_ok hv
    refine w_iast (q := 189) d_Model_readCopy_188 rfl a_62.2 a_62.1 hi hv ?_
    refine w_aload_n (q := 190) d_Model_readCopy_189 rfl rfl ?_
    refine w_get (q := 193) (ci := 12) (j := 8) d_Model_readCopy_190 rfl (by decide) fl_Model_62 (by decide) (by decide) s_54 rfl rfl ?_
    refine w_iload (q := 195) d_Model_readCopy_193 rfl rfl ?_
    refine w_iconst (q := 196) (v := 2) d_Model_readCopy_195 rfl (by decide) ?_
    refine w_iadd (q := 197) d_Model_readCopy_196 rfl ?_
    refine w_iload_n (q := 198) d_Model_readCopy_197 rfl rfl ?_
    refine w_ineg (q := 199) d_Model_readCopy_198 rfl ?_
    obtain ⟨g31, hv, h⟩ := bnd h
    obtain ⟨hi, hv⟩ := wr_ok hv
    refine w_iast (q := 200) d_Model_readCopy_199 rfl a_62.2 a_62.1 hi hv ?_
    refine w_aload_n (q := 201) d_Model_readCopy_200 rfl rfl ?_
    refine w_get (q := 204) (ci := 12) (j := 8) d_Model_readCopy_201 rfl (by decide) fl_Model_62 (by decide) (by decide) s_54 rfl rfl ?_
    refine w_iload (q := 206) d_Model_readCopy_204 rfl rfl ?_
    refine w_bipush (q := 208) (v := 6) d_Model_readCopy_206 rfl (by decide) ?_
    refine w_iadd (q := 209) d_Model_readCopy_208 rfl ?_
    refine w_iconst (q := 210) (v := 0) d_Model_readCopy_209 rfl (by decide) ?_
    obtain ⟨g32, hv, h⟩ := bnd h
    obtain ⟨hi, hv⟩ := wr_ok hv
    refine w_iast (q := 211) d_Model_readCopy_210 rfl a_62.2 a_62.1 hi hv ?_
    refine w_aload_n (q := 212) d_Model_readCopy_211 rfl rfl ?_
    refine w_get (q := 215) (ci := 12) (j := 4) d_Model_readCopy_212 rfl (by decide) fl_Model_51 (by decide) (by decide) s_54 rfl rfl ?_
    refine w_bipush (q := 217) (v := 10) d_Model_readCopy_215 rfl (by decide) ?_
    refine w_dup2 (q := 218) d_Model_readCopy_217 rfl rfl rfl ?_
    obtain ⟨v33, hv, h⟩ := bnd h
    obtain ⟨hi, hv⟩ := rd_ok hv
    refine w_iald (q := 219) (t := 0) d_Model_readCopy_218 rfl a_58.2 a_58.1 hi rfl ?_
    rw [hv]
    refine w_iconst (q := 220) (v := 1) d_Model_readCopy_219 rfl (by decide) ?_
    refine w_iadd (q := 221) d_Model_readCopy_220 rfl ?_
    obtain ⟨g34, hv, h⟩ := bnd h
    obtain ⟨hi, hv⟩ := wr_ok hv
    refine w_iast (q := 222) d_Model_readCopy_221 rfl a_58.2 a_58.1 hi hv ?_
    cases h
    exact w_return d_Model_readCopy_222 rfl ⟨rfl, rfl, rfl, rfl⟩
  · rw [if_neg c23] at h
    refine w_if_eq_f (q := 131) d_Model_readCopy_128 132 rfl rfl c23 ?_
    cases h
    exact w_return d_Model_readCopy_131 rfl ⟨rfl, rfl, rfl, rfl⟩
def sp_Model_readCopy_j105 (F : Nat) (g : Mem) (m0 : Mem) (x1 : Int32) (x2 : Int32) : Option (Mem) := if (m0 54 19) = 0 then (sp_Model_stepOn F m0).bind fun v21 => sp_Model_readCopy_j116 F g v21 x1 x2 else sp_Model_readCopy_j116 F g m0 x1 x2
theorem ok_Model_readCopy_j105 {γ : GG} {tt : Bool} {F : Nat} {g : Mem} {m0 : Mem} {x1 : Int32} {x2 : Int32} {res : Mem} (h : sp_Model_readCopy_j105 F g m0 x1 x2 = some res) : WA γ M_Model_readCopy 4 105 [some (.ref 54), some (.int x1), some (.int x2), none, none, none] [] SH m0 tt (0, 0) (pV SH res tt) := by
  unfold sp_Model_readCopy_j105 at h
  refine w_aload_n (q := 106) d_Model_readCopy_105 rfl rfl ?_
  refine w_get (q := 109) (ci := 12) (j := 19) d_Model_readCopy_106 rfl (by decide) fl_Model_168 (by decide) (by decide) s_54 rfl rfl ?_
  by_cases c20 : (m0 54 19) = 0
  · rw [if_pos c20] at h
    refine w_if_ne_f (q := 112) d_Model_readCopy_109 116 rfl rfl c20 ?_
    refine w_aload_n (q := 113) d_Model_readCopy_112 rfl rfl ?_
    obtain ⟨v21, hv, h⟩ := bnd h
    refine w_callVv (q := 116) (M' := M_Model_stepOn) (n' := 1) (k := 54) (As := []) (sh' := SH) (b1 := (0, 0)) d_Model_readCopy_113 rfl mw_Model_stepOn (by decide) (by decide) ml_Model_193 (by decide) s_54 (by decide) rfl rfl rfl (leb rfl) (bz _) (fun _ => rfl) (ok_Model_stepOn hv) ?_
    refine w_ls (ls' := [some (.ref 54), some (.int x1), some (.int x2), none, none, none]) (And.intro rfl (And.intro rfl (And.intro rfl trivial))) ?_
    exact ok_Model_readCopy_j116 h
  · rw [if_neg c20] at h
    refine w_if_ne_t (q := 116) d_Model_readCopy_109 rfl c20 ?_
    refine w_ls (ls' := [some (.ref 54), some (.int x1), some (.int x2), none, none, none]) (And.intro rfl (And.intro rfl (And.intro rfl trivial))) ?_
    exact ok_Model_readCopy_j116 h
def sp_Model_readCopy (F : Nat) (g : Mem) : Option (Mem) := (sp_Model_anotherEntry F g).bind fun v1 => if v1.1 = 0 then some v1.2 else (rd v1.2 58 12 10).bind fun v3 => (sp_Model_readOne F v3 v1.2).bind fun v4 => (sp_Model_readAt v4.1 v4.2).bind fun v5 => (rd v4.2 58 12 6).bind fun v6 => (sp_Model_oneNow v6 v4.2).bind fun v7 => (lpO (st_Model_readCopy_37 F g v5 v7.1) F (0, v7.2)).bind fun x19 => sp_Model_readCopy_j105 F g x19 v5 v7.1
theorem ok_Model_readCopy {γ : GG} {tt : Bool} {F : Nat} {g : Mem} {res : Mem} (h : sp_Model_readCopy F g = some res) : CA γ M_Model_readCopy 4 [.ref 54] SH g tt (0, 0) (pV SH res tt) := by
  refine CA.of mw_Model_readCopy.1 5 rfl ?_
  show WA γ M_Model_readCopy 4 0 [some (.ref 54), none, none, none, none, none] [] SH g tt (0, 0) (pV SH res tt)
  unfold sp_Model_readCopy at h
  refine w_aload_n (q := 1) d_Model_readCopy_0 rfl rfl ?_
  obtain ⟨v1, hv, h⟩ := bnd h
  refine w_callVi (q := 4) (M' := M_Model_anotherEntry) (n' := 2) (k := 54) (As := []) (sh' := SH) (b1 := (0, 0)) d_Model_readCopy_1 rfl mw_Model_anotherEntry (by decide) (by decide) ml_Model_242 (by decide) s_54 (by decide) rfl rfl rfl (leb rfl) (bz _) (fun _ => rfl) (ok_Model_anotherEntry hv) ?_
  by_cases c2 : v1.1 = 0
  · rw [if_pos c2] at h
    refine w_if_ne_f (q := 7) d_Model_readCopy_4 8 rfl rfl c2 ?_
    cases h
    exact w_return d_Model_readCopy_7 rfl ⟨rfl, rfl, rfl, rfl⟩
  · rw [if_neg c2] at h
    refine w_if_ne_t (q := 8) d_Model_readCopy_4 rfl c2 ?_
    refine w_aload_n (q := 9) d_Model_readCopy_8 rfl rfl ?_
    refine w_aload_n (q := 10) d_Model_readCopy_9 rfl rfl ?_
    refine w_get (q := 13) (ci := 12) (j := 4) d_Model_readCopy_10 rfl (by decide) fl_Model_51 (by decide) (by decide) s_54 rfl rfl ?_
    refine w_bipush (q := 15) (v := 10) d_Model_readCopy_13 rfl (by decide) ?_
    obtain ⟨v3, hv, h⟩ := bnd h
    obtain ⟨hi, hv⟩ := rd_ok hv
    refine w_iald (q := 16) (t := 0) d_Model_readCopy_15 rfl a_58.2 a_58.1 hi rfl ?_
    rw [hv]
    obtain ⟨v4, hv, h⟩ := bnd h
    refine w_callVi (q := 19) (M' := M_Model_readOne) (n' := 3) (k := 54) (As := [.int v3]) (sh' := SH) (b1 := (0, 0)) d_Model_readCopy_16 rfl mw_Model_readOne (by decide) (by decide) ml_Model_249 (by decide) s_54 (by decide) rfl rfl rfl (leb rfl) (bz _) (fun _ => rfl) (ok_Model_readOne hv) ?_
    obtain ⟨v5, hv, h⟩ := bnd h
    refine w_callSi (q := 22) (M' := M_Model_readAt) (n' := 0) (As := [.int v4.1]) (sh' := SH) (b1 := (0, 0)) d_Model_readCopy_19 rfl mw_Model_readAt (by decide) (by decide) ml_Model_246 rfl rfl (leb rfl) (bz _) (fun _ => rfl) (ok_Model_readAt hv) ?_
    refine w_istore_n (q := 23) (ls' := [some (.ref 54), some (.int v5), none, none, none, none]) d_Model_readCopy_22 rfl (by decide) rfl rfl ?_
    refine w_aload_n (q := 24) d_Model_readCopy_23 rfl rfl ?_
    refine w_aload_n (q := 25) d_Model_readCopy_24 rfl rfl ?_
    refine w_get (q := 28) (ci := 12) (j := 4) d_Model_readCopy_25 rfl (by decide) fl_Model_51 (by decide) (by decide) s_54 rfl rfl ?_
    refine w_bipush (q := 30) (v := 6) d_Model_readCopy_28 rfl (by decide) ?_
    obtain ⟨v6, hv, h⟩ := bnd h
    obtain ⟨hi, hv⟩ := rd_ok hv
    refine w_iald (q := 31) (t := 0) d_Model_readCopy_30 rfl a_58.2 a_58.1 hi rfl ?_
    rw [hv]
    obtain ⟨v7, hv, h⟩ := bnd h
    refine w_callVi (q := 34) (M' := M_Model_oneNow) (n' := 2) (k := 54) (As := [.int v6]) (sh' := SH) (b1 := (0, 0)) d_Model_readCopy_31 rfl mw_Model_oneNow (by decide) (by decide) ml_Model_199 (by decide) s_54 (by decide) rfl rfl rfl (leb rfl) (bz _) (fun _ => rfl) (ok_Model_oneNow hv) ?_
    refine w_istore_n (q := 35) (ls' := [some (.ref 54), some (.int v5), some (.int v7.1), none, none, none]) d_Model_readCopy_34 rfl (by decide) rfl rfl ?_
    refine w_iconst (q := 36) (v := 0) d_Model_readCopy_35 rfl (by decide) ?_
    refine w_istore_n (q := 37) (ls' := [some (.ref 54), some (.int v5), some (.int v7.1), some (.int 0), none, none]) d_Model_readCopy_36 rfl (by decide) rfl rfl ?_
    obtain ⟨x19, hx, h⟩ := bnd h
    refine w_ls (ls' := [some (.ref 54), some (.int v5), some (.int v7.1), some (.int 0), none, none]) (And.intro rfl (And.intro rfl (And.intro rfl (And.intro rfl trivial)))) ?_
    show PL_Model_readCopy_37 γ tt g v5 v7.1 _ _ (0, v7.2)
    refine lp_ok (kl_Model_readCopy_37) F _ x19 hx ?_
    unfold QL_Model_readCopy_37
    refine w_ls (ls' := [some (.ref 54), some (.int v5), some (.int v7.1), none, none, none]) (And.intro rfl (And.intro rfl (And.intro rfl trivial))) ?_
    exact ok_Model_readCopy_j105 h
def PL_Model_takeHalf_2 (γ : GG) (sh : List Sh) (tt : Bool) (q0 : Nat) (q0n : Nat) (g : Mem) (b : Nat × Nat) (Φ : PO) (s : Int32 × Mem) : Prop := WA γ M_Model_takeHalf 0 2 [some (.ref q0), some (.int s.1)] [] sh s.2 tt b Φ
def QL_Model_takeHalf_2 (γ : GG) (sh : List Sh) (tt : Bool) (q0 : Nat) (q0n : Nat) (g : Mem) (b : Nat × Nat) (Φ : PO) (x : (Mem)) : Prop := WA γ M_Model_takeHalf 0 27 [none, none] [] sh x tt b Φ
def st_Model_takeHalf_2 (F : Nat) (q0 : Nat) (q0n : Nat) (g : Mem) (s : Int32 × Mem) : Option ((Int32 × Mem) ⊕ ((Mem))) := (dv (Int32.ofNat q0n) 2).bind fun v1 => if v1 ≤ s.1 then some (.inr s.2) else (dv (Int32.ofNat q0n) 2).bind fun v3 => (rd s.2 q0 q0n (v3 + s.1)).bind fun v4 => (wr s.2 q0 q0n s.1 v4).bind fun g5 => some (.inl (s.1 + 1, g5))
theorem kl_Model_takeHalf_2 {γ : GG} {sh : List Sh} {tt : Bool} {F : Nat} {q0 : Nat} {q0n : Nat} {g : Mem} {b : Nat × Nat} {Φ : PO} (hq0 : isA sh q0 q0n) : ∀ (s : Int32 × Mem) (r : (Int32 × Mem) ⊕ ((Mem))), st_Model_takeHalf_2 F q0 q0n g s = some r → RQ (PL_Model_takeHalf_2 γ sh tt q0 q0n g b Φ) (QL_Model_takeHalf_2 γ sh tt q0 q0n g b Φ) r → PL_Model_takeHalf_2 γ sh tt q0 q0n g b Φ s := by
  intro s r h hr
  unfold st_Model_takeHalf_2 at h
  unfold PL_Model_takeHalf_2
  refine w_iload_n (q := 3) d_Model_takeHalf_2 rfl rfl ?_
  refine w_aload_n (q := 4) d_Model_takeHalf_3 rfl rfl ?_
  refine w_alen (q := 5) d_Model_takeHalf_4 rfl hq0.2 hq0.1 (Or.inl ⟨rfl, Or.inl rfl⟩) rfl ?_
  refine w_iconst (q := 6) (v := 2) d_Model_takeHalf_5 rfl (by decide) ?_
  obtain ⟨v1, hv, h⟩ := bnd h
  obtain ⟨hz, hv⟩ := dv_ok hv
  refine w_idiv (q := 7) d_Model_takeHalf_6 rfl hz ?_
  rw [hv]
  by_cases c2 : v1 ≤ s.1
  · rw [if_pos c2] at h
    refine w_icmp_ge_t (q := 27) d_Model_takeHalf_7 rfl c2 ?_
    cases h
    exact w_ls (by exact trivial) hr
  · rw [if_neg c2] at h
    refine w_icmp_ge_f (q := 10) d_Model_takeHalf_7 27 rfl rfl c2 ?_
    refine w_aload_n (q := 11) d_Model_takeHalf_10 rfl rfl ?_
    refine w_iload_n (q := 12) d_Model_takeHalf_11 rfl rfl ?_
    refine w_aload_n (q := 13) d_Model_takeHalf_12 rfl rfl ?_
    refine w_aload_n (q := 14) d_Model_takeHalf_13 rfl rfl ?_
    refine w_alen (q := 15) d_Model_takeHalf_14 rfl hq0.2 hq0.1 (Or.inl ⟨rfl, Or.inl rfl⟩) rfl ?_
    refine w_iconst (q := 16) (v := 2) d_Model_takeHalf_15 rfl (by decide) ?_
    obtain ⟨v3, hv, h⟩ := bnd h
    obtain ⟨hz, hv⟩ := dv_ok hv
    refine w_idiv (q := 17) d_Model_takeHalf_16 rfl hz ?_
    rw [hv]
    refine w_iload_n (q := 18) d_Model_takeHalf_17 rfl rfl ?_
    refine w_iadd (q := 19) d_Model_takeHalf_18 rfl ?_
    obtain ⟨v4, hv, h⟩ := bnd h
    obtain ⟨hi, hv⟩ := rd_ok hv
    refine w_iald (q := 20) (t := 0) d_Model_takeHalf_19 rfl hq0.2 hq0.1 hi rfl ?_
    rw [hv]
    obtain ⟨g5, hv, h⟩ := bnd h
    obtain ⟨hi, hv⟩ := wr_ok hv
    refine w_iast (q := 21) d_Model_takeHalf_20 rfl hq0.2 hq0.1 hi hv ?_
    refine w_iinc (q := 24) (ls' := [some (.ref q0), some (.int (s.1 + 1))]) d_Model_takeHalf_21 rfl (by decide) rfl rfl rfl ?_
    refine w_goto (q := 2) d_Model_takeHalf_24 rfl ?_
    cases h
    exact w_ls (by exact (And.intro rfl (And.intro rfl trivial))) hr
def sp_Model_takeHalf (F : Nat) (q0 : Nat) (q0n : Nat) (g : Mem) : Option (Mem) := (lpO (st_Model_takeHalf_2 F q0 q0n g) F (0, g)).bind fun x6 => some x6
theorem ok_Model_takeHalf {γ : GG} {sh : List Sh} {tt : Bool} {F : Nat} {q0 : Nat} {q0n : Nat} {g : Mem} (hq0 : isA sh q0 q0n) {res : Mem} (h : sp_Model_takeHalf F q0 q0n g = some res) : CA γ M_Model_takeHalf 0 [.ref q0] sh g tt (0, 0) (pV sh res tt) := by
  refine CA.of mw_Model_takeHalf.1 1 rfl ?_
  show WA γ M_Model_takeHalf 0 0 [some (.ref q0), none] [] sh g tt (0, 0) (pV sh res tt)
  unfold sp_Model_takeHalf at h
  refine w_iconst (q := 1) (v := 0) d_Model_takeHalf_0 rfl (by decide) ?_
  refine w_istore_n (q := 2) (ls' := [some (.ref q0), some (.int 0)]) d_Model_takeHalf_1 rfl (by decide) rfl rfl ?_
  obtain ⟨x6, hx, h⟩ := bnd h
  refine w_ls (ls' := [some (.ref q0), some (.int 0)]) (And.intro rfl (And.intro rfl trivial)) ?_
  show PL_Model_takeHalf_2 γ sh tt q0 q0n g _ _ (0, g)
  refine lp_ok (kl_Model_takeHalf_2 hq0) F _ x6 hx ?_
  unfold QL_Model_takeHalf_2
  cases h
  exact w_return d_Model_takeHalf_27 rfl ⟨rfl, rfl, rfl, rfl⟩
def sp_Model_of (p0 : Int32) (p1 : Int32) (g : Mem) : Option (Int32) := (rd g 62 432 ((9 * p0) + p1)).bind fun v1 => some v1
theorem ok_Model_of {γ : GG} {tt : Bool} {p0 : Int32} {p1 : Int32} {g : Mem} {res : Int32} (h : sp_Model_of p0 p1 g = some res) : CA γ M_Model_of 0 [.ref 54, .int p0, .int p1] SH g tt (0, 0) (pI SH res g tt) := by
  refine CA.of mw_Model_of.1 0 rfl ?_
  show WA γ M_Model_of 0 0 [some (.ref 54), some (.int p0), some (.int p1)] [] SH g tt (0, 0) (pI SH res g tt)
  unfold sp_Model_of at h
  refine w_aload_n (q := 1) d_Model_of_0 rfl rfl ?_
  refine w_get (q := 4) (ci := 12) (j := 8) d_Model_of_1 rfl (by decide) fl_Model_62 (by decide) (by decide) s_54 rfl rfl ?_
  refine w_bipush (q := 6) (v := 9) d_Model_of_4 rfl (by decide) ?_
  refine w_iload_n (q := 7) d_Model_of_6 rfl rfl ?_
  refine w_imul (q := 8) d_Model_of_7 rfl ?_
  refine w_iload_n (q := 9) d_Model_of_8 rfl rfl ?_
  refine w_iadd (q := 10) d_Model_of_9 rfl ?_
  obtain ⟨v1, hv, h⟩ := bnd h
  obtain ⟨hi, hv⟩ := rd_ok hv
  refine w_iald (q := 11) (t := 0) d_Model_of_10 rfl a_62.2 a_62.1 hi rfl ?_
  rw [hv]
  cases h
  exact w_ireturn d_Model_of_11 rfl rfl ⟨rfl, rfl, rfl, rfl⟩
def sp_Model_isThere (p0 : Int32) (g : Mem) : Option (Int32) := (sp_Model_of p0 8 g).bind fun v1 => if v1 = 0 then some 1 else some 0
theorem ok_Model_isThere {γ : GG} {tt : Bool} {p0 : Int32} {g : Mem} {res : Int32} (h : sp_Model_isThere p0 g = some res) : CA γ M_Model_isThere 1 [.ref 54, .int p0] SH g tt (0, 0) (pI SH res g tt) := by
  refine CA.of mw_Model_isThere.1 0 rfl ?_
  show WA γ M_Model_isThere 1 0 [some (.ref 54), some (.int p0)] [] SH g tt (0, 0) (pI SH res g tt)
  unfold sp_Model_isThere at h
  refine w_aload_n (q := 1) d_Model_isThere_0 rfl rfl ?_
  refine w_iload_n (q := 2) d_Model_isThere_1 rfl rfl ?_
  refine w_bipush (q := 4) (v := 8) d_Model_isThere_2 rfl (by decide) ?_
  obtain ⟨v1, hv, h⟩ := bnd h
  refine w_callVi (q := 7) (M' := M_Model_of) (n' := 0) (k := 54) (As := [.int p0, .int 8]) (sh' := SH) (b1 := (0, 0)) d_Model_isThere_4 rfl mw_Model_of (by decide) (by decide) ml_Model_305 (by decide) s_54 (by decide) rfl rfl rfl (leb rfl) (bz _) (fun _ => rfl) (ok_Model_of hv) ?_
  by_cases c2 : v1 = 0
  · rw [if_pos c2] at h
    refine w_if_ne_f (q := 10) d_Model_isThere_7 14 rfl rfl c2 ?_
    refine w_iconst (q := 11) (v := 1) d_Model_isThere_10 rfl (by decide) ?_
    refine w_goto (q := 15) d_Model_isThere_11 rfl ?_
    cases h
    exact w_ireturn d_Model_isThere_15 rfl rfl ⟨rfl, rfl, rfl, rfl⟩
  · rw [if_neg c2] at h
    refine w_if_ne_t (q := 14) d_Model_isThere_7 rfl c2 ?_
    refine w_iconst (q := 15) (v := 0) d_Model_isThere_14 rfl (by decide) ?_
    cases h
    exact w_ireturn d_Model_isThere_15 rfl rfl ⟨rfl, rfl, rfl, rfl⟩
def sp_Model_yearOf (p0 : Int32) (g : Mem) : Option (Int32) := (sp_Model_isOf (g 54 25) p0 g).bind fun v1 => if v1 = 0 then some (g 54 24) else (rd g 66 6 p0).bind fun v3 => some v3
theorem ok_Model_yearOf {γ : GG} {tt : Bool} {p0 : Int32} {g : Mem} {res : Int32} (h : sp_Model_yearOf p0 g = some res) : CA γ M_Model_yearOf 1 [.ref 54, .int p0] SH g tt (0, 0) (pI SH res g tt) := by
  refine CA.of mw_Model_yearOf.1 0 rfl ?_
  show WA γ M_Model_yearOf 1 0 [some (.ref 54), some (.int p0)] [] SH g tt (0, 0) (pI SH res g tt)
  unfold sp_Model_yearOf at h
  refine w_aload_n (q := 1) d_Model_yearOf_0 rfl rfl ?_
  refine w_get (q := 4) (ci := 12) (j := 25) d_Model_yearOf_1 rfl (by decide) fl_Model_289 (by decide) (by decide) s_54 rfl rfl ?_
  refine w_iload_n (q := 5) d_Model_yearOf_4 rfl rfl ?_
  obtain ⟨v1, hv, h⟩ := bnd h
  refine w_callSi (q := 8) (M' := M_Model_isOf) (n' := 0) (As := [.int (g 54 25), .int p0]) (sh' := SH) (b1 := (0, 0)) d_Model_yearOf_5 rfl mw_Model_isOf (by decide) (by decide) ml_Model_308 rfl rfl (leb rfl) (bz _) (fun _ => rfl) (ok_Model_isOf hv) ?_
  by_cases c2 : v1 = 0
  · rw [if_pos c2] at h
    refine w_if_eq_t (q := 20) d_Model_yearOf_8 rfl c2 ?_
    refine w_aload_n (q := 21) d_Model_yearOf_20 rfl rfl ?_
    refine w_get (q := 24) (ci := 12) (j := 24) d_Model_yearOf_21 rfl (by decide) fl_Model_286 (by decide) (by decide) s_54 rfl rfl ?_
    cases h
    exact w_ireturn d_Model_yearOf_24 rfl rfl ⟨rfl, rfl, rfl, rfl⟩
  · rw [if_neg c2] at h
    refine w_if_eq_f (q := 11) d_Model_yearOf_8 20 rfl rfl c2 ?_
    refine w_aload_n (q := 12) d_Model_yearOf_11 rfl rfl ?_
    refine w_get (q := 15) (ci := 12) (j := 22) d_Model_yearOf_12 rfl (by decide) fl_Model_78 (by decide) (by decide) s_54 rfl rfl ?_
    refine w_iload_n (q := 16) d_Model_yearOf_15 rfl rfl ?_
    obtain ⟨v3, hv, h⟩ := bnd h
    obtain ⟨hi, hv⟩ := rd_ok hv
    refine w_iald (q := 17) (t := 0) d_Model_yearOf_16 rfl a_66.2 a_66.1 hi rfl ?_
    rw [hv]
    refine w_goto (q := 24) d_Model_yearOf_17 rfl ?_
    cases h
    exact w_ireturn d_Model_yearOf_24 rfl rfl ⟨rfl, rfl, rfl, rfl⟩
def sp_Model_old (p0 : Int32) (g : Mem) : Option (Int32) := (sp_Model_of p0 1 g).bind fun v1 => (sp_Model_yearOf v1 g).bind fun v2 => (sp_Model_of p0 2 g).bind fun v3 => some (v2 - v3)
theorem ok_Model_old {γ : GG} {tt : Bool} {p0 : Int32} {g : Mem} {res : Int32} (h : sp_Model_old p0 g = some res) : CA γ M_Model_old 2 [.ref 54, .int p0] SH g tt (0, 0) (pI SH res g tt) := by
  refine CA.of mw_Model_old.1 0 rfl ?_
  show WA γ M_Model_old 2 0 [some (.ref 54), some (.int p0)] [] SH g tt (0, 0) (pI SH res g tt)
  unfold sp_Model_old at h
  refine w_aload_n (q := 1) d_Model_old_0 rfl rfl ?_
  refine w_aload_n (q := 2) d_Model_old_1 rfl rfl ?_
  refine w_iload_n (q := 3) d_Model_old_2 rfl rfl ?_
  refine w_iconst (q := 4) (v := 1) d_Model_old_3 rfl (by decide) ?_
  obtain ⟨v1, hv, h⟩ := bnd h
  refine w_callVi (q := 7) (M' := M_Model_of) (n' := 0) (k := 54) (As := [.int p0, .int 1]) (sh' := SH) (b1 := (0, 0)) d_Model_old_4 rfl mw_Model_of (by decide) (by decide) ml_Model_305 (by decide) s_54 (by decide) rfl rfl rfl (leb rfl) (bz _) (fun _ => rfl) (ok_Model_of hv) ?_
  obtain ⟨v2, hv, h⟩ := bnd h
  refine w_callVi (q := 10) (M' := M_Model_yearOf) (n' := 1) (k := 54) (As := [.int v1]) (sh' := SH) (b1 := (0, 0)) d_Model_old_7 rfl mw_Model_yearOf (by decide) (by decide) ml_Model_312 (by decide) s_54 (by decide) rfl rfl rfl (leb rfl) (bz _) (fun _ => rfl) (ok_Model_yearOf hv) ?_
  refine w_aload_n (q := 11) d_Model_old_10 rfl rfl ?_
  refine w_iload_n (q := 12) d_Model_old_11 rfl rfl ?_
  refine w_iconst (q := 13) (v := 2) d_Model_old_12 rfl (by decide) ?_
  obtain ⟨v3, hv, h⟩ := bnd h
  refine w_callVi (q := 16) (M' := M_Model_of) (n' := 0) (k := 54) (As := [.int p0, .int 2]) (sh' := SH) (b1 := (0, 0)) d_Model_old_13 rfl mw_Model_of (by decide) (by decide) ml_Model_305 (by decide) s_54 (by decide) rfl rfl rfl (leb rfl) (bz _) (fun _ => rfl) (ok_Model_of hv) ?_
  refine w_isub (q := 17) d_Model_old_16 rfl ?_
  cases h
  exact w_ireturn d_Model_old_17 rfl rfl ⟨rfl, rfl, rfl, rfl⟩
def sp_Model_lose (p0 : Int32) (g : Mem) : Option (Mem) := (wr g 62 432 ((9 * p0) + 8) 1).bind fun g1 => some g1
theorem ok_Model_lose {γ : GG} {tt : Bool} {p0 : Int32} {g : Mem} {res : Mem} (h : sp_Model_lose p0 g = some res) : CA γ M_Model_lose 0 [.ref 54, .int p0] SH g tt (0, 0) (pV SH res tt) := by
  refine CA.of mw_Model_lose.1 0 rfl ?_
  show WA γ M_Model_lose 0 0 [some (.ref 54), some (.int p0)] [] SH g tt (0, 0) (pV SH res tt)
  unfold sp_Model_lose at h
  refine w_aload_n (q := 1) d_Model_lose_0 rfl rfl ?_
  refine w_get (q := 4) (ci := 12) (j := 8) d_Model_lose_1 rfl (by decide) fl_Model_62 (by decide) (by decide) s_54 rfl rfl ?_
  refine w_bipush (q := 6) (v := 9) d_Model_lose_4 rfl (by decide) ?_
  refine w_iload_n (q := 7) d_Model_lose_6 rfl rfl ?_
  refine w_imul (q := 8) d_Model_lose_7 rfl ?_
  refine w_bipush (q := 10) (v := 8) d_Model_lose_8 rfl (by decide) ?_
  refine w_iadd (q := 11) d_Model_lose_10 rfl ?_
  refine w_iconst (q := 12) (v := 1) d_Model_lose_11 rfl (by decide) ?_
  obtain ⟨g1, hv, h⟩ := bnd h
  obtain ⟨hi, hv⟩ := wr_ok hv
  refine w_iast (q := 13) d_Model_lose_12 rfl a_62.2 a_62.1 hi hv ?_
  cases h
  exact w_return d_Model_lose_13 rfl ⟨rfl, rfl, rfl, rfl⟩
def PL_Model_loseFar_4 (γ : GG) (tt : Bool) (g : Mem) (b : Nat × Nat) (Φ : PO) (s : Int32 × Int32 × Mem) : Prop := WA γ M_Model_loseFar 3 4 [some (.ref 54), some (.int s.1), some (.int s.2.1)] [] SH s.2.2 tt b Φ
def QL_Model_loseFar_4 (γ : GG) (tt : Bool) (g : Mem) (b : Nat × Nat) (Φ : PO) (x : (Int32 × Mem)) : Prop := WA γ M_Model_loseFar 3 56 [none, some (.int x.1), none] [] SH x.2 tt b Φ
def st_Model_loseFar_4 (F : Nat) (g : Mem) (s : Int32 × Int32 × Mem) : Option ((Int32 × Int32 × Mem) ⊕ ((Int32 × Mem))) := if (s.2.2 54 26) ≤ s.2.1 then some (.inr (s.1, s.2.2)) else (sp_Model_isThere s.2.1 s.2.2).bind fun v2 => if v2 = 0 then some (.inl (s.1, s.2.1 + 1, s.2.2)) else (sp_Model_old s.2.1 s.2.2).bind fun v4 => (sp_Model_of s.2.1 1 s.2.2).bind fun v5 => (rd s.2.2 61 12 v5).bind fun v6 => if v6 < v4 then (sp_Model_lose s.2.1 s.2.2).bind fun v8 => some (.inl (s.1 + 1, s.2.1 + 1, v8)) else some (.inl (s.1, s.2.1 + 1, s.2.2))
theorem kl_Model_loseFar_4 {γ : GG} {tt : Bool} {F : Nat} {g : Mem} {b : Nat × Nat} {Φ : PO} : ∀ (s : Int32 × Int32 × Mem) (r : (Int32 × Int32 × Mem) ⊕ ((Int32 × Mem))), st_Model_loseFar_4 F g s = some r → RQ (PL_Model_loseFar_4 γ tt g b Φ) (QL_Model_loseFar_4 γ tt g b Φ) r → PL_Model_loseFar_4 γ tt g b Φ s := by
  intro s r h hr
  unfold st_Model_loseFar_4 at h
  unfold PL_Model_loseFar_4
  refine w_iload_n (q := 5) d_Model_loseFar_4 rfl rfl ?_
  refine w_aload_n (q := 6) d_Model_loseFar_5 rfl rfl ?_
  refine w_get (q := 9) (ci := 12) (j := 26) d_Model_loseFar_6 rfl (by decide) fl_Model_121 (by decide) (by decide) s_54 rfl rfl ?_
  by_cases c1 : (s.2.2 54 26) ≤ s.2.1
  · rw [if_pos c1] at h
    refine w_icmp_ge_t (q := 56) d_Model_loseFar_9 rfl c1 ?_
    cases h
    exact w_ls (by exact (And.intro rfl trivial)) hr
  · rw [if_neg c1] at h
    refine w_icmp_ge_f (q := 12) d_Model_loseFar_9 56 rfl rfl c1 ?_
    refine w_aload_n (q := 13) d_Model_loseFar_12 rfl rfl ?_
    refine w_iload_n (q := 14) d_Model_loseFar_13 rfl rfl ?_
    obtain ⟨v2, hv, h⟩ := bnd h
    refine w_callVi (q := 17) (M' := M_Model_isThere) (n' := 1) (k := 54) (As := [.int s.2.1]) (sh' := SH) (b1 := (0, 0)) d_Model_loseFar_14 rfl mw_Model_isThere (by decide) (by decide) ml_Model_315 (by decide) s_54 (by decide) rfl rfl rfl (leb rfl) (bz _) (fun _ => rfl) (ok_Model_isThere hv) ?_
    by_cases c3 : v2 = 0
    · rw [if_pos c3] at h
      refine w_if_eq_t (q := 50) d_Model_loseFar_17 rfl c3 ?_
      refine w_iinc (q := 53) (ls' := [some (.ref 54), some (.int s.1), some (.int (s.2.1 + 1))]) d_Model_loseFar_50 rfl (by decide) rfl rfl rfl ?_
      refine w_goto (q := 4) d_Model_loseFar_53 rfl ?_
      cases h
      exact w_ls (by exact (And.intro rfl (And.intro rfl (And.intro rfl trivial)))) hr
    · rw [if_neg c3] at h
      refine w_if_eq_f (q := 20) d_Model_loseFar_17 50 rfl rfl c3 ?_
      refine w_aload_n (q := 21) d_Model_loseFar_20 rfl rfl ?_
      refine w_iload_n (q := 22) d_Model_loseFar_21 rfl rfl ?_
      obtain ⟨v4, hv, h⟩ := bnd h
      refine w_callVi (q := 25) (M' := M_Model_old) (n' := 2) (k := 54) (As := [.int s.2.1]) (sh' := SH) (b1 := (0, 0)) d_Model_loseFar_22 rfl mw_Model_old (by decide) (by decide) ml_Model_318 (by decide) s_54 (by decide) rfl rfl rfl (leb rfl) (bz _) (fun _ => rfl) (ok_Model_old hv) ?_
      refine w_aload_n (q := 26) d_Model_loseFar_25 rfl rfl ?_
      refine w_get (q := 29) (ci := 12) (j := 7) d_Model_loseFar_26 rfl (by decide) fl_Model_59 (by decide) (by decide) s_54 rfl rfl ?_
      refine w_aload_n (q := 30) d_Model_loseFar_29 rfl rfl ?_
      refine w_iload_n (q := 31) d_Model_loseFar_30 rfl rfl ?_
      refine w_iconst (q := 32) (v := 1) d_Model_loseFar_31 rfl (by decide) ?_
      obtain ⟨v5, hv, h⟩ := bnd h
      refine w_callVi (q := 35) (M' := M_Model_of) (n' := 0) (k := 54) (As := [.int s.2.1, .int 1]) (sh' := SH) (b1 := (0, 0)) d_Model_loseFar_32 rfl mw_Model_of (by decide) (by decide) ml_Model_305 (by decide) s_54 (by decide) rfl rfl rfl (leb rfl) (bz _) (fun _ => rfl) (ok_Model_of hv) ?_
      obtain ⟨v6, hv, h⟩ := bnd h
      obtain ⟨hi, hv⟩ := rd_ok hv
      refine w_iald (q := 36) (t := 0) d_Model_loseFar_35 rfl a_61.2 a_61.1 hi rfl ?_
      rw [hv]
      by_cases c7 : v6 < v4
      · rw [if_pos c7] at h
        refine w_icmp_gt_t (q := 42) d_Model_loseFar_36 rfl c7 ?_
        refine w_aload_n (q := 43) d_Model_loseFar_42 rfl rfl ?_
        refine w_iload_n (q := 44) d_Model_loseFar_43 rfl rfl ?_
        obtain ⟨v8, hv, h⟩ := bnd h
        refine w_callVv (q := 47) (M' := M_Model_lose) (n' := 0) (k := 54) (As := [.int s.2.1]) (sh' := SH) (b1 := (0, 0)) d_Model_loseFar_44 rfl mw_Model_lose (by decide) (by decide) ml_Model_320 (by decide) s_54 (by decide) rfl rfl rfl (leb rfl) (bz _) (fun _ => rfl) (ok_Model_lose hv) ?_
        refine w_iinc (q := 50) (ls' := [some (.ref 54), some (.int (s.1 + 1)), some (.int s.2.1)]) d_Model_loseFar_47 rfl (by decide) rfl rfl rfl ?_
        refine w_iinc (q := 53) (ls' := [some (.ref 54), some (.int (s.1 + 1)), some (.int (s.2.1 + 1))]) d_Model_loseFar_50 rfl (by decide) rfl rfl rfl ?_
        refine w_goto (q := 4) d_Model_loseFar_53 rfl ?_
        cases h
        exact w_ls (by exact (And.intro rfl (And.intro rfl (And.intro rfl trivial)))) hr
      · rw [if_neg c7] at h
        refine w_icmp_gt_f (q := 39) d_Model_loseFar_36 42 rfl rfl c7 ?_
        refine w_goto (q := 50) d_Model_loseFar_39 rfl ?_
        refine w_iinc (q := 53) (ls' := [some (.ref 54), some (.int s.1), some (.int (s.2.1 + 1))]) d_Model_loseFar_50 rfl (by decide) rfl rfl rfl ?_
        refine w_goto (q := 4) d_Model_loseFar_53 rfl ?_
        cases h
        exact w_ls (by exact (And.intro rfl (And.intro rfl (And.intro rfl trivial)))) hr
def sp_Model_loseFar (F : Nat) (g : Mem) : Option (Int32 × Mem) := (lpO (st_Model_loseFar_4 F g) F (0, 0, g)).bind fun x9 => some (x9.1, x9.2)
theorem ok_Model_loseFar {γ : GG} {tt : Bool} {F : Nat} {g : Mem} {res : Int32 × Mem} (h : sp_Model_loseFar F g = some res) : CA γ M_Model_loseFar 3 [.ref 54] SH g tt (0, 0) (pI SH res.1 res.2 tt) := by
  refine CA.of mw_Model_loseFar.1 2 rfl ?_
  show WA γ M_Model_loseFar 3 0 [some (.ref 54), none, none] [] SH g tt (0, 0) (pI SH res.1 res.2 tt)
  unfold sp_Model_loseFar at h
  refine w_iconst (q := 1) (v := 0) d_Model_loseFar_0 rfl (by decide) ?_
  refine w_istore_n (q := 2) (ls' := [some (.ref 54), some (.int 0), none]) d_Model_loseFar_1 rfl (by decide) rfl rfl ?_
  refine w_iconst (q := 3) (v := 0) d_Model_loseFar_2 rfl (by decide) ?_
  refine w_istore_n (q := 4) (ls' := [some (.ref 54), some (.int 0), some (.int 0)]) d_Model_loseFar_3 rfl (by decide) rfl rfl ?_
  obtain ⟨x9, hx, h⟩ := bnd h
  refine w_ls (ls' := [some (.ref 54), some (.int 0), some (.int 0)]) (And.intro rfl (And.intro rfl (And.intro rfl trivial))) ?_
  show PL_Model_loseFar_4 γ tt g _ _ (0, 0, g)
  refine lp_ok (kl_Model_loseFar_4) F _ x9 hx ?_
  unfold QL_Model_loseFar_4
  refine w_iload_n (q := 57) d_Model_loseFar_56 rfl rfl ?_
  cases h
  exact w_ireturn d_Model_loseFar_57 rfl rfl ⟨rfl, rfl, rfl, rfl⟩
def PL_Model_takeOver_64 (γ : GG) (tt : Bool) (g : Mem) (b : Nat × Nat) (Φ : PO) (s : Int32 × Mem) : Prop := WA γ M_Model_takeOver 4 64 [some (.ref 54), some (.int s.1)] [] SH s.2 tt b Φ
def QL_Model_takeOver_64 (γ : GG) (tt : Bool) (g : Mem) (b : Nat × Nat) (Φ : PO) (x : (Mem)) : Prop := WA γ M_Model_takeOver 4 83 [some (.ref 54), none] [] SH x tt b Φ
def st_Model_takeOver_64 (F : Nat) (g : Mem) (s : Int32 × Mem) : Option ((Int32 × Mem) ⊕ ((Mem))) := if 6 ≤ s.1 then some (.inr s.2) else (wr s.2 66 6 s.1 0).bind fun g9 => some (.inl (s.1 + 1, g9))
theorem kl_Model_takeOver_64 {γ : GG} {tt : Bool} {F : Nat} {g : Mem} {b : Nat × Nat} {Φ : PO} : ∀ (s : Int32 × Mem) (r : (Int32 × Mem) ⊕ ((Mem))), st_Model_takeOver_64 F g s = some r → RQ (PL_Model_takeOver_64 γ tt g b Φ) (QL_Model_takeOver_64 γ tt g b Φ) r → PL_Model_takeOver_64 γ tt g b Φ s := by
  intro s r h hr
  unfold st_Model_takeOver_64 at h
  unfold PL_Model_takeOver_64
  refine w_iload_n (q := 65) d_Model_takeOver_64 rfl rfl ?_
  refine w_bipush (q := 67) (v := 6) d_Model_takeOver_65 rfl (by decide) ?_
  by_cases c8 : 6 ≤ s.1
  · rw [if_pos c8] at h
    refine w_icmp_ge_t (q := 83) d_Model_takeOver_67 rfl c8 ?_
    cases h
    exact w_ls (by exact (And.intro rfl trivial)) hr
  · rw [if_neg c8] at h
    refine w_icmp_ge_f (q := 70) d_Model_takeOver_67 83 rfl rfl c8 ?_
    refine w_aload_n (q := 71) d_Model_takeOver_70 rfl rfl ?_
    refine w_get (q := 74) (ci := 12) (j := 22) d_Model_takeOver_71 rfl (by decide) fl_Model_78 (by decide) (by decide) s_54 rfl rfl ?_
    refine w_iload_n (q := 75) d_Model_takeOver_74 rfl rfl ?_
    refine w_iconst (q := 76) (v := 0) d_Model_takeOver_75 rfl (by decide) ?_
    obtain ⟨g9, hv, h⟩ := bnd h
    obtain ⟨hi, hv⟩ := wr_ok hv
    refine w_iast (q := 77) d_Model_takeOver_76 rfl a_66.2 a_66.1 hi hv ?_
    refine w_iinc (q := 80) (ls' := [some (.ref 54), some (.int (s.1 + 1))]) d_Model_takeOver_77 rfl (by decide) rfl rfl rfl ?_
    refine w_goto (q := 64) d_Model_takeOver_80 rfl ?_
    cases h
    exact w_ls (by exact (And.intro rfl (And.intro rfl trivial))) hr
def sp_Model_takeOver (F : Nat) (g : Mem) : Option (Mem) := (sp_Model_takeHalf F 58 12 g).bind fun v1 => (sp_Model_takeHalf F 59 12 v1).bind fun v2 => (sp_Model_takeHalf F 60 12 v2).bind fun v3 => (sp_Model_takeHalf F 61 12 v3).bind fun v4 => (sp_Model_takeHalf F 62 432 v4).bind fun v5 => (sp_Model_takeHalf F 63 1400 v5).bind fun v6 => (rd (mset (mset v6 54 24 0) 54 25 0) 58 12 4).bind fun v7 => (lpO (st_Model_takeOver_64 F g) F (0, (mset (mset (mset v6 54 24 0) 54 25 0) 54 26 v7))).bind fun x10 => (sp_Model_loseFar F x10).bind fun v11 => some (mset (mset (mset v11.2 54 27 0) 54 28 0) 54 35 0)
theorem ok_Model_takeOver {γ : GG} {tt : Bool} {F : Nat} {g : Mem} {res : Mem} (h : sp_Model_takeOver F g = some res) : CA γ M_Model_takeOver 4 [.ref 54] SH g tt (0, 0) (pV SH res tt) := by
  refine CA.of mw_Model_takeOver.1 1 rfl ?_
  show WA γ M_Model_takeOver 4 0 [some (.ref 54), none] [] SH g tt (0, 0) (pV SH res tt)
  unfold sp_Model_takeOver at h
  refine w_aload_n (q := 1) d_Model_takeOver_0 rfl rfl ?_
  refine w_get (q := 4) (ci := 12) (j := 4) d_Model_takeOver_1 rfl (by decide) fl_Model_51 (by decide) (by decide) s_54 rfl rfl ?_
  obtain ⟨v1, hv, h⟩ := bnd h
  refine w_callSv (q := 7) (M' := M_Model_takeHalf) (n' := 0) (As := [.ref 58]) (sh' := SH) (b1 := (0, 0)) d_Model_takeOver_4 rfl mw_Model_takeHalf (by decide) (by decide) ml_Model_282 rfl rfl (leb rfl) (bz _) (fun _ => rfl) (ok_Model_takeHalf a_58 hv) ?_
  refine w_aload_n (q := 8) d_Model_takeOver_7 rfl rfl ?_
  refine w_get (q := 11) (ci := 12) (j := 5) d_Model_takeOver_8 rfl (by decide) fl_Model_55 (by decide) (by decide) s_54 rfl rfl ?_
  obtain ⟨v2, hv, h⟩ := bnd h
  refine w_callSv (q := 14) (M' := M_Model_takeHalf) (n' := 0) (As := [.ref 59]) (sh' := SH) (b1 := (0, 0)) d_Model_takeOver_11 rfl mw_Model_takeHalf (by decide) (by decide) ml_Model_282 rfl rfl (leb rfl) (bz _) (fun _ => rfl) (ok_Model_takeHalf a_59 hv) ?_
  refine w_aload_n (q := 15) d_Model_takeOver_14 rfl rfl ?_
  refine w_get (q := 18) (ci := 12) (j := 6) d_Model_takeOver_15 rfl (by decide) fl_Model_57 (by decide) (by decide) s_54 rfl rfl ?_
  obtain ⟨v3, hv, h⟩ := bnd h
  refine w_callSv (q := 21) (M' := M_Model_takeHalf) (n' := 0) (As := [.ref 60]) (sh' := SH) (b1 := (0, 0)) d_Model_takeOver_18 rfl mw_Model_takeHalf (by decide) (by decide) ml_Model_282 rfl rfl (leb rfl) (bz _) (fun _ => rfl) (ok_Model_takeHalf a_60 hv) ?_
  refine w_aload_n (q := 22) d_Model_takeOver_21 rfl rfl ?_
  refine w_get (q := 25) (ci := 12) (j := 7) d_Model_takeOver_22 rfl (by decide) fl_Model_59 (by decide) (by decide) s_54 rfl rfl ?_
  obtain ⟨v4, hv, h⟩ := bnd h
  refine w_callSv (q := 28) (M' := M_Model_takeHalf) (n' := 0) (As := [.ref 61]) (sh' := SH) (b1 := (0, 0)) d_Model_takeOver_25 rfl mw_Model_takeHalf (by decide) (by decide) ml_Model_282 rfl rfl (leb rfl) (bz _) (fun _ => rfl) (ok_Model_takeHalf a_61 hv) ?_
  refine w_aload_n (q := 29) d_Model_takeOver_28 rfl rfl ?_
  refine w_get (q := 32) (ci := 12) (j := 8) d_Model_takeOver_29 rfl (by decide) fl_Model_62 (by decide) (by decide) s_54 rfl rfl ?_
  obtain ⟨v5, hv, h⟩ := bnd h
  refine w_callSv (q := 35) (M' := M_Model_takeHalf) (n' := 0) (As := [.ref 62]) (sh' := SH) (b1 := (0, 0)) d_Model_takeOver_32 rfl mw_Model_takeHalf (by decide) (by decide) ml_Model_282 rfl rfl (leb rfl) (bz _) (fun _ => rfl) (ok_Model_takeHalf a_62 hv) ?_
  refine w_aload_n (q := 36) d_Model_takeOver_35 rfl rfl ?_
  refine w_get (q := 39) (ci := 12) (j := 9) d_Model_takeOver_36 rfl (by decide) fl_Model_65 (by decide) (by decide) s_54 rfl rfl ?_
  obtain ⟨v6, hv, h⟩ := bnd h
  refine w_callSv (q := 42) (M' := M_Model_takeHalf) (n' := 0) (As := [.ref 63]) (sh' := SH) (b1 := (0, 0)) d_Model_takeOver_39 rfl mw_Model_takeHalf (by decide) (by decide) ml_Model_282 rfl rfl (leb rfl) (bz _) (fun _ => rfl) (ok_Model_takeHalf a_63 hv) ?_
  refine w_aload_n (q := 43) d_Model_takeOver_42 rfl rfl ?_
  refine w_iconst (q := 44) (v := 0) d_Model_takeOver_43 rfl (by decide) ?_
  refine w_put (q := 47) (ci := 12) (j := 24) d_Model_takeOver_44 rfl (by decide) fl_Model_286 (by decide) (by decide) s_54 rfl rfl rfl rfl rfl rfl ?_
  refine w_aload_n (q := 48) d_Model_takeOver_47 rfl rfl ?_
  refine w_iconst (q := 49) (v := 0) d_Model_takeOver_48 rfl (by decide) ?_
  refine w_put (q := 52) (ci := 12) (j := 25) d_Model_takeOver_49 rfl (by decide) fl_Model_289 (by decide) (by decide) s_54 rfl rfl rfl rfl rfl rfl ?_
  refine w_aload_n (q := 53) d_Model_takeOver_52 rfl rfl ?_
  refine w_aload_n (q := 54) d_Model_takeOver_53 rfl rfl ?_
  refine w_get (q := 57) (ci := 12) (j := 4) d_Model_takeOver_54 rfl (by decide) fl_Model_51 (by decide) (by decide) s_54 rfl rfl ?_
  refine w_iconst (q := 58) (v := 4) d_Model_takeOver_57 rfl (by decide) ?_
  obtain ⟨v7, hv, h⟩ := bnd h
  obtain ⟨hi, hv⟩ := rd_ok hv
  refine w_iald (q := 59) (t := 0) d_Model_takeOver_58 rfl a_58.2 a_58.1 hi rfl ?_
  rw [hv]
  refine w_put (q := 62) (ci := 12) (j := 26) d_Model_takeOver_59 rfl (by decide) fl_Model_121 (by decide) (by decide) s_54 rfl rfl rfl rfl rfl rfl ?_
  refine w_iconst (q := 63) (v := 0) d_Model_takeOver_62 rfl (by decide) ?_
  refine w_istore_n (q := 64) (ls' := [some (.ref 54), some (.int 0)]) d_Model_takeOver_63 rfl (by decide) rfl rfl ?_
  obtain ⟨x10, hx, h⟩ := bnd h
  refine w_ls (ls' := [some (.ref 54), some (.int 0)]) (And.intro rfl (And.intro rfl trivial)) ?_
  show PL_Model_takeOver_64 γ tt g _ _ (0, (mset (mset (mset v6 54 24 0) 54 25 0) 54 26 v7))
  refine lp_ok (kl_Model_takeOver_64) F _ x10 hx ?_
  unfold QL_Model_takeOver_64
  refine w_aload_n (q := 84) d_Model_takeOver_83 rfl rfl ?_
  obtain ⟨v11, hv, h⟩ := bnd h
  refine w_callVi (q := 87) (M' := M_Model_loseFar) (n' := 3) (k := 54) (As := []) (sh' := SH) (b1 := (0, 0)) d_Model_takeOver_84 rfl mw_Model_loseFar (by decide) (by decide) ml_Model_292 (by decide) s_54 (by decide) rfl rfl rfl (leb rfl) (bz _) (fun _ => rfl) (ok_Model_loseFar hv) ?_
  refine w_pop (q := 88) d_Model_takeOver_87 rfl rfl ?_
  refine w_aload_n (q := 89) d_Model_takeOver_88 rfl rfl ?_
  refine w_iconst (q := 90) (v := 0) d_Model_takeOver_89 rfl (by decide) ?_
  refine w_put (q := 93) (ci := 12) (j := 27) d_Model_takeOver_90 rfl (by decide) fl_Model_295 (by decide) (by decide) s_54 rfl rfl rfl rfl rfl rfl ?_
  refine w_aload_n (q := 94) d_Model_takeOver_93 rfl rfl ?_
  refine w_iconst (q := 95) (v := 0) d_Model_takeOver_94 rfl (by decide) ?_
  refine w_put (q := 98) (ci := 12) (j := 28) d_Model_takeOver_95 rfl (by decide) fl_Model_298 (by decide) (by decide) s_54 rfl rfl rfl rfl rfl rfl ?_
  refine w_aload_n (q := 99) d_Model_takeOver_98 rfl rfl ?_
  refine w_iconst (q := 100) (v := 0) d_Model_takeOver_99 rfl (by decide) ?_
  refine w_put (q := 103) (ci := 12) (j := 35) d_Model_takeOver_100 rfl (by decide) fl_Model_301 (by decide) (by decide) s_54 rfl rfl rfl rfl rfl rfl ?_
  cases h
  exact w_return d_Model_takeOver_103 rfl ⟨rfl, rfl, rfl, rfl⟩
def PL_Model_archive_50 (γ : GG) (tt : Bool) (p0 : Int32) (g : Mem) (b : Nat × Nat) (Φ : PO) (s : Int32 × Mem) : Prop := WA γ M_Model_archive 121 50 [some (.ref 54), none, some (.int s.1)] [] SH s.2 tt b Φ
def QL_Model_archive_50 (γ : GG) (tt : Bool) (p0 : Int32) (g : Mem) (b : Nat × Nat) (Φ : PO) (x : (Mem)) : Prop := WA γ M_Model_archive 121 101 [some (.ref 54), none, none] [] SH x tt b Φ
def st_Model_archive_50 (F : Nat) (p0 : Int32) (g : Mem) (s : Int32 × Mem) : Option ((Int32 × Mem) ⊕ ((Mem))) := if 6 ≤ s.1 then some (.inr s.2) else if s.1 = 1 then (wr s.2 58 12 (6 + s.1) 40).bind fun g6 => some (.inl (s.1 + 1, g6)) else if s.1 = 2 then (wr s.2 58 12 (6 + s.1) 60).bind fun g8 => some (.inl (s.1 + 1, g8)) else if s.1 = 3 then (wr s.2 58 12 (6 + s.1) 3).bind fun g10 => some (.inl (s.1 + 1, g10)) else (wr s.2 58 12 (6 + s.1) 0).bind fun g11 => some (.inl (s.1 + 1, g11))
theorem kl_Model_archive_50 {γ : GG} {tt : Bool} {F : Nat} {p0 : Int32} {g : Mem} {b : Nat × Nat} {Φ : PO} : ∀ (s : Int32 × Mem) (r : (Int32 × Mem) ⊕ ((Mem))), st_Model_archive_50 F p0 g s = some r → RQ (PL_Model_archive_50 γ tt p0 g b Φ) (QL_Model_archive_50 γ tt p0 g b Φ) r → PL_Model_archive_50 γ tt p0 g b Φ s := by
  intro s r h hr
  unfold st_Model_archive_50 at h
  unfold PL_Model_archive_50
  refine w_iload_n (q := 51) d_Model_archive_50 rfl rfl ?_
  refine w_bipush (q := 53) (v := 6) d_Model_archive_51 rfl (by decide) ?_
  by_cases c4 : 6 ≤ s.1
  · rw [if_pos c4] at h
    refine w_icmp_ge_t (q := 101) d_Model_archive_53 rfl c4 ?_
    cases h
    exact w_ls (by exact (And.intro rfl trivial)) hr
  · rw [if_neg c4] at h
    refine w_icmp_ge_f (q := 56) d_Model_archive_53 101 rfl rfl c4 ?_
    refine w_aload_n (q := 57) d_Model_archive_56 rfl rfl ?_
    refine w_get (q := 60) (ci := 12) (j := 4) d_Model_archive_57 rfl (by decide) fl_Model_51 (by decide) (by decide) s_54 rfl rfl ?_
    refine w_bipush (q := 62) (v := 6) d_Model_archive_60 rfl (by decide) ?_
    refine w_iload_n (q := 63) d_Model_archive_62 rfl rfl ?_
    refine w_iadd (q := 64) d_Model_archive_63 rfl ?_
    refine w_iload_n (q := 65) d_Model_archive_64 rfl rfl ?_
    refine w_iconst (q := 66) (v := 1) d_Model_archive_65 rfl (by decide) ?_
    by_cases c5 : s.1 = 1
    · rw [if_pos c5] at h
      refine w_icmp_ne_f (q := 69) d_Model_archive_66 74 rfl rfl c5 ?_
      refine w_bipush (q := 71) (v := 40) d_Model_archive_69 rfl (by decide) ?_
      refine w_goto (q := 94) d_Model_archive_71 rfl ?_
      obtain ⟨g6, hv, h⟩ := bnd h
      obtain ⟨hi, hv⟩ := wr_ok hv
      refine w_iast (q := 95) d_Model_archive_94 rfl a_58.2 a_58.1 hi hv ?_
      refine w_iinc (q := 98) (ls' := [some (.ref 54), none, some (.int (s.1 + 1))]) d_Model_archive_95 rfl (by decide) rfl rfl rfl ?_
      refine w_goto (q := 50) d_Model_archive_98 rfl ?_
      cases h
      exact w_ls (by exact (And.intro rfl (And.intro rfl trivial))) hr
    · rw [if_neg c5] at h
      refine w_icmp_ne_t (q := 74) d_Model_archive_66 rfl c5 ?_
      refine w_iload_n (q := 75) d_Model_archive_74 rfl rfl ?_
      refine w_iconst (q := 76) (v := 2) d_Model_archive_75 rfl (by decide) ?_
      by_cases c7 : s.1 = 2
      · rw [if_pos c7] at h
        refine w_icmp_ne_f (q := 79) d_Model_archive_76 84 rfl rfl c7 ?_
        refine w_bipush (q := 81) (v := 60) d_Model_archive_79 rfl (by decide) ?_
        refine w_goto (q := 94) d_Model_archive_81 rfl ?_
        obtain ⟨g8, hv, h⟩ := bnd h
        obtain ⟨hi, hv⟩ := wr_ok hv
        refine w_iast (q := 95) d_Model_archive_94 rfl a_58.2 a_58.1 hi hv ?_
        refine w_iinc (q := 98) (ls' := [some (.ref 54), none, some (.int (s.1 + 1))]) d_Model_archive_95 rfl (by decide) rfl rfl rfl ?_
        refine w_goto (q := 50) d_Model_archive_98 rfl ?_
        cases h
        exact w_ls (by exact (And.intro rfl (And.intro rfl trivial))) hr
      · rw [if_neg c7] at h
        refine w_icmp_ne_t (q := 84) d_Model_archive_76 rfl c7 ?_
        refine w_iload_n (q := 85) d_Model_archive_84 rfl rfl ?_
        refine w_iconst (q := 86) (v := 3) d_Model_archive_85 rfl (by decide) ?_
        by_cases c9 : s.1 = 3
        · rw [if_pos c9] at h
          refine w_icmp_ne_f (q := 89) d_Model_archive_86 93 rfl rfl c9 ?_
          refine w_iconst (q := 90) (v := 3) d_Model_archive_89 rfl (by decide) ?_
          refine w_goto (q := 94) d_Model_archive_90 rfl ?_
          obtain ⟨g10, hv, h⟩ := bnd h
          obtain ⟨hi, hv⟩ := wr_ok hv
          refine w_iast (q := 95) d_Model_archive_94 rfl a_58.2 a_58.1 hi hv ?_
          refine w_iinc (q := 98) (ls' := [some (.ref 54), none, some (.int (s.1 + 1))]) d_Model_archive_95 rfl (by decide) rfl rfl rfl ?_
          refine w_goto (q := 50) d_Model_archive_98 rfl ?_
          cases h
          exact w_ls (by exact (And.intro rfl (And.intro rfl trivial))) hr
        · rw [if_neg c9] at h
          refine w_icmp_ne_t (q := 93) d_Model_archive_86 rfl c9 ?_
          refine w_iconst (q := 94) (v := 0) d_Model_archive_93 rfl (by decide) ?_
          obtain ⟨g11, hv, h⟩ := bnd h
          obtain ⟨hi, hv⟩ := wr_ok hv
          refine w_iast (q := 95) d_Model_archive_94 rfl a_58.2 a_58.1 hi hv ?_
          refine w_iinc (q := 98) (ls' := [some (.ref 54), none, some (.int (s.1 + 1))]) d_Model_archive_95 rfl (by decide) rfl rfl rfl ?_
          refine w_goto (q := 50) d_Model_archive_98 rfl ?_
          cases h
          exact w_ls (by exact (And.intro rfl (And.intro rfl trivial))) hr
def PL_Model_archive_107 (γ : GG) (tt : Bool) (p0 : Int32) (g : Mem) (b : Nat × Nat) (Φ : PO) (s : Int32 × Mem) : Prop := WA γ M_Model_archive 121 107 [some (.ref 54), none, some (.int s.1)] [] SH s.2 tt b Φ
def QL_Model_archive_107 (γ : GG) (tt : Bool) (p0 : Int32) (g : Mem) (b : Nat × Nat) (Φ : PO) (x : (Mem)) : Prop := WA γ M_Model_archive 121 130 [some (.ref 54), none, none] [] SH x tt b Φ
def st_Model_archive_107 (F : Nat) (p0 : Int32) (g : Mem) (s : Int32 × Mem) : Option ((Int32 × Mem) ⊕ ((Mem))) := if (s.2 54 19) = 0 then if (s.2 54 15) = 0 then some (.inr s.2) else (sp_Model_readLine F s.1 s.2).bind fun v16 => some (.inl (v16.1, v16.2)) else some (.inr s.2)
theorem kl_Model_archive_107 {γ : GG} {tt : Bool} {F : Nat} {p0 : Int32} {g : Mem} {b : Nat × Nat} {Φ : PO} : ∀ (s : Int32 × Mem) (r : (Int32 × Mem) ⊕ ((Mem))), st_Model_archive_107 F p0 g s = some r → RQ (PL_Model_archive_107 γ tt p0 g b Φ) (QL_Model_archive_107 γ tt p0 g b Φ) r → PL_Model_archive_107 γ tt p0 g b Φ s := by
  intro s r h hr
  unfold st_Model_archive_107 at h
  unfold PL_Model_archive_107
  refine w_aload_n (q := 108) d_Model_archive_107 rfl rfl ?_
  refine w_get (q := 111) (ci := 12) (j := 19) d_Model_archive_108 rfl (by decide) fl_Model_168 (by decide) (by decide) s_54 rfl rfl ?_
  by_cases c14 : (s.2 54 19) = 0
  · rw [if_pos c14] at h
    refine w_if_ne_f (q := 114) d_Model_archive_111 130 rfl rfl c14 ?_
    refine w_aload_n (q := 115) d_Model_archive_114 rfl rfl ?_
    refine w_get (q := 118) (ci := 12) (j := 15) d_Model_archive_115 rfl (by decide) fl_Model_142 (by decide) (by decide) s_54 rfl rfl ?_
    by_cases c15 : (s.2 54 15) = 0
    · rw [if_pos c15] at h
      refine w_if_eq_t (q := 130) d_Model_archive_118 rfl c15 ?_
      cases h
      exact w_ls (by exact (And.intro rfl trivial)) hr
    · rw [if_neg c15] at h
      refine w_if_eq_f (q := 121) d_Model_archive_118 130 rfl rfl c15 ?_
      refine w_aload_n (q := 122) d_Model_archive_121 rfl rfl ?_
      refine w_iload_n (q := 123) d_Model_archive_122 rfl rfl ?_
      obtain ⟨v16, hv, h⟩ := bnd h
      refine w_callVi (q := 126) (M' := M_Model_readLine) (n' := 120) (k := 54) (As := [.int s.1]) (sh' := SH) (b1 := (0, 0)) d_Model_archive_123 rfl mw_Model_readLine (by decide) (by decide) ml_Model_276 (by decide) s_54 (by decide) rfl rfl rfl (leb rfl) (bz _) (fun _ => rfl) (ok_Model_readLine hv) ?_
      refine w_istore_n (q := 127) (ls' := [some (.ref 54), none, some (.int v16.1)]) d_Model_archive_126 rfl (by decide) rfl rfl ?_
      refine w_goto (q := 107) d_Model_archive_127 rfl ?_
      cases h
      exact w_ls (by exact (And.intro rfl (And.intro rfl trivial))) hr
  · rw [if_neg c14] at h
    refine w_if_ne_t (q := 130) d_Model_archive_111 rfl c14 ?_
    cases h
    exact w_ls (by exact (And.intro rfl trivial)) hr
def sp_Model_archive_j130 (F : Nat) (p0 : Int32) (g : Mem) (m0 : Mem) : Option (Int32 × Mem) := if (m0 54 19) = 0 then (sp_Model_takeOver F m0).bind fun v19 => some (0, v19) else (rd (mset m0 54 21 (m0 54 20)) 64 3 0).bind fun v20 => (wr (mset m0 54 21 (m0 54 20)) 64 3 0 (v20 + 1)).bind fun g21 => some (g21 54 19, g21)
theorem ok_Model_archive_j130 {γ : GG} {tt : Bool} {F : Nat} {p0 : Int32} {g : Mem} {m0 : Mem} {res : Int32 × Mem} (h : sp_Model_archive_j130 F p0 g m0  = some res) : WA γ M_Model_archive 121 130 [some (.ref 54), none, none] [] SH m0 tt (0, 0) (pI SH res.1 res.2 tt) := by
  unfold sp_Model_archive_j130 at h
  refine w_aload_n (q := 131) d_Model_archive_130 rfl rfl ?_
  refine w_get (q := 134) (ci := 12) (j := 19) d_Model_archive_131 rfl (by decide) fl_Model_168 (by decide) (by decide) s_54 rfl rfl ?_
  by_cases c18 : (m0 54 19) = 0
  · rw [if_pos c18] at h
    refine w_if_eq_t (q := 160) d_Model_archive_134 rfl c18 ?_
    refine w_aload_n (q := 161) d_Model_archive_160 rfl rfl ?_
    obtain ⟨v19, hv, h⟩ := bnd h
    refine w_callVv (q := 164) (M' := M_Model_takeOver) (n' := 4) (k := 54) (As := []) (sh' := SH) (b1 := (0, 0)) d_Model_archive_161 rfl mw_Model_takeOver (by decide) (by decide) ml_Model_279 (by decide) s_54 (by decide) rfl rfl rfl (leb rfl) (bz _) (fun _ => rfl) (ok_Model_takeOver hv) ?_
    refine w_iconst (q := 165) (v := 0) d_Model_archive_164 rfl (by decide) ?_
    cases h
    exact w_ireturn d_Model_archive_165 rfl rfl ⟨rfl, rfl, rfl, rfl⟩
  · rw [if_neg c18] at h
    refine w_if_eq_f (q := 137) d_Model_archive_134 160 rfl rfl c18 ?_
    refine w_aload_n (q := 138) d_Model_archive_137 rfl rfl ?_
    refine w_aload_n (q := 139) d_Model_archive_138 rfl rfl ?_
    refine w_get (q := 142) (ci := 12) (j := 20) d_Model_archive_139 rfl (by decide) fl_Model_171 (by decide) (by decide) s_54 rfl rfl ?_
    refine w_put (q := 145) (ci := 12) (j := 21) d_Model_archive_142 rfl (by decide) fl_Model_74 (by decide) (by decide) s_54 rfl rfl rfl rfl rfl rfl ?_
    refine w_aload_n (q := 146) d_Model_archive_145 rfl rfl ?_
    refine w_get (q := 149) (ci := 12) (j := 10) d_Model_archive_146 rfl (by decide) fl_Model_68 (by decide) (by decide) s_54 rfl rfl ?_
    refine w_iconst (q := 150) (v := 0) d_Model_archive_149 rfl (by decide) ?_
    refine w_dup2 (q := 151) d_Model_archive_150 rfl rfl rfl ?_
    obtain ⟨v20, hv, h⟩ := bnd h
    obtain ⟨hi, hv⟩ := rd_ok hv
    refine w_iald (q := 152) (t := 0) d_Model_archive_151 rfl a_64.2 a_64.1 hi rfl ?_
    rw [hv]
    refine w_iconst (q := 153) (v := 1) d_Model_archive_152 rfl (by decide) ?_
    refine w_iadd (q := 154) d_Model_archive_153 rfl ?_
    obtain ⟨g21, hv, h⟩ := bnd h
    obtain ⟨hi, hv⟩ := wr_ok hv
    refine w_iast (q := 155) d_Model_archive_154 rfl a_64.2 a_64.1 hi hv ?_
    refine w_aload_n (q := 156) d_Model_archive_155 rfl rfl ?_
    refine w_get (q := 159) (ci := 12) (j := 19) d_Model_archive_156 rfl (by decide) fl_Model_168 (by decide) (by decide) s_54 rfl rfl ?_
    cases h
    exact w_ireturn d_Model_archive_159 rfl rfl ⟨rfl, rfl, rfl, rfl⟩
def sp_Model_archive (F : Nat) (p0 : Int32) (g : Mem) : Option (Int32 × Mem) := if p0 < 0 then (sp_Model_fail 1 (mset g 54 3 0)).bind fun v2 => some (v2.1, v2.2) else if p0 ≤ ((mset g 54 3 0) 54 12) then (lpO (st_Model_archive_50 F p0 g) F (0, (mset (mset (mset (mset (mset (mset g 54 3 0) 54 12 0) 54 14 p0) 54 13 0) 54 19 0) 54 21 (-1)))).bind fun x12 => (sp_Model_stepOn F x12).bind fun v13 => (lpO (st_Model_archive_107 F p0 g) F (0, v13)).bind fun x17 => sp_Model_archive_j130 F p0 g x17 else (sp_Model_fail 1 (mset g 54 3 0)).bind fun v22 => some (v22.1, v22.2)
theorem ok_Model_archive {γ : GG} {tt : Bool} {F : Nat} {p0 : Int32} {g : Mem} {res : Int32 × Mem} (h : sp_Model_archive F p0 g = some res) : CA γ M_Model_archive 121 [.ref 54, .int p0] SH g tt (0, 0) (pI SH res.1 res.2 tt) := by
  refine CA.of mw_Model_archive.1 1 rfl ?_
  show WA γ M_Model_archive 121 0 [some (.ref 54), some (.int p0), none] [] SH g tt (0, 0) (pI SH res.1 res.2 tt)
  unfold sp_Model_archive at h
  refine w_aload_n (q := 1) d_Model_archive_0 rfl rfl ?_
  refine w_iconst (q := 2) (v := 0) d_Model_archive_1 rfl (by decide) ?_
  refine w_put (q := 5) (ci := 12) (j := 3) d_Model_archive_2 rfl (by decide) fl_Model_114 (by decide) (by decide) s_54 rfl rfl rfl rfl rfl rfl ?_
  refine w_iload_n (q := 6) d_Model_archive_5 rfl rfl ?_
  by_cases c1 : p0 < 0
  · rw [if_pos c1] at h
    refine w_if_lt_t (q := 17) d_Model_archive_6 rfl c1 ?_
    refine w_aload_n (q := 18) d_Model_archive_17 rfl rfl ?_
    refine w_iconst (q := 19) (v := 1) d_Model_archive_18 rfl (by decide) ?_
    obtain ⟨v2, hv, h⟩ := bnd h
    refine w_callVi (q := 22) (M' := M_Model_fail) (n' := 0) (k := 54) (As := [.int 1]) (sh' := SH) (b1 := (0, 0)) d_Model_archive_19 rfl mw_Model_fail (by decide) (by decide) ml_Model_273 (by decide) s_54 (by decide) rfl rfl rfl (leb rfl) (bz _) (fun _ => rfl) (ok_Model_fail hv) ?_
    cases h
    exact w_ireturn d_Model_archive_22 rfl rfl ⟨rfl, rfl, rfl, rfl⟩
  · rw [if_neg c1] at h
    refine w_if_lt_f (q := 9) d_Model_archive_6 17 rfl rfl c1 ?_
    refine w_iload_n (q := 10) d_Model_archive_9 rfl rfl ?_
    refine w_aload_n (q := 11) d_Model_archive_10 rfl rfl ?_
    refine w_get (q := 14) (ci := 12) (j := 12) d_Model_archive_11 rfl (by decide) fl_Model_126 (by decide) (by decide) s_54 rfl rfl ?_
    by_cases c3 : p0 ≤ ((mset g 54 3 0) 54 12)
    · rw [if_pos c3] at h
      refine w_icmp_le_t (q := 23) d_Model_archive_14 rfl c3 ?_
      refine w_aload_n (q := 24) d_Model_archive_23 rfl rfl ?_
      refine w_iconst (q := 25) (v := 0) d_Model_archive_24 rfl (by decide) ?_
      refine w_put (q := 28) (ci := 12) (j := 12) d_Model_archive_25 rfl (by decide) fl_Model_126 (by decide) (by decide) s_54 rfl rfl rfl rfl rfl rfl ?_
      refine w_aload_n (q := 29) d_Model_archive_28 rfl rfl ?_
      refine w_iload_n (q := 30) d_Model_archive_29 rfl rfl ?_
      refine w_put (q := 33) (ci := 12) (j := 14) d_Model_archive_30 rfl (by decide) fl_Model_129 (by decide) (by decide) s_54 rfl rfl rfl rfl rfl rfl ?_
      refine w_aload_n (q := 34) d_Model_archive_33 rfl rfl ?_
      refine w_iconst (q := 35) (v := 0) d_Model_archive_34 rfl (by decide) ?_
      refine w_put (q := 38) (ci := 12) (j := 13) d_Model_archive_35 rfl (by decide) fl_Model_132 (by decide) (by decide) s_54 rfl rfl rfl rfl rfl rfl ?_
      refine w_aload_n (q := 39) d_Model_archive_38 rfl rfl ?_
      refine w_iconst (q := 40) (v := 0) d_Model_archive_39 rfl (by decide) ?_
      refine w_put (q := 43) (ci := 12) (j := 19) d_Model_archive_40 rfl (by decide) fl_Model_168 (by decide) (by decide) s_54 rfl rfl rfl rfl rfl rfl ?_
      refine w_aload_n (q := 44) d_Model_archive_43 rfl rfl ?_
      refine w_iconst (q := 45) (v := (-1)) d_Model_archive_44 rfl (by decide) ?_
      refine w_put (q := 48) (ci := 12) (j := 21) d_Model_archive_45 rfl (by decide) fl_Model_74 (by decide) (by decide) s_54 rfl rfl rfl rfl rfl rfl ?_
      refine w_iconst (q := 49) (v := 0) d_Model_archive_48 rfl (by decide) ?_
      refine w_istore_n (q := 50) (ls' := [some (.ref 54), some (.int p0), some (.int 0)]) d_Model_archive_49 rfl (by decide) rfl rfl ?_
      obtain ⟨x12, hx, h⟩ := bnd h
      refine w_ls (ls' := [some (.ref 54), none, some (.int 0)]) (And.intro rfl (And.intro rfl trivial)) ?_
      show PL_Model_archive_50 γ tt p0 g _ _ (0, (mset (mset (mset (mset (mset (mset g 54 3 0) 54 12 0) 54 14 p0) 54 13 0) 54 19 0) 54 21 (-1)))
      refine lp_ok (kl_Model_archive_50) F _ x12 hx ?_
      unfold QL_Model_archive_50
      refine w_aload_n (q := 102) d_Model_archive_101 rfl rfl ?_
      obtain ⟨v13, hv, h⟩ := bnd h
      refine w_callVv (q := 105) (M' := M_Model_stepOn) (n' := 1) (k := 54) (As := []) (sh' := SH) (b1 := (0, 0)) d_Model_archive_102 rfl mw_Model_stepOn (by decide) (by decide) ml_Model_193 (by decide) s_54 (by decide) rfl rfl rfl (leb rfl) (bz _) (fun _ => rfl) (ok_Model_stepOn hv) ?_
      refine w_iconst (q := 106) (v := 0) d_Model_archive_105 rfl (by decide) ?_
      refine w_istore_n (q := 107) (ls' := [some (.ref 54), none, some (.int 0)]) d_Model_archive_106 rfl (by decide) rfl rfl ?_
      obtain ⟨x17, hx, h⟩ := bnd h
      refine w_ls (ls' := [some (.ref 54), none, some (.int 0)]) (And.intro rfl (And.intro rfl trivial)) ?_
      show PL_Model_archive_107 γ tt p0 g _ _ (0, v13)
      refine lp_ok (kl_Model_archive_107) F _ x17 hx ?_
      unfold QL_Model_archive_107
      refine w_ls (ls' := [some (.ref 54), none, none]) (And.intro rfl trivial) ?_
      exact ok_Model_archive_j130 h
    · rw [if_neg c3] at h
      refine w_icmp_le_f (q := 17) d_Model_archive_14 23 rfl rfl c3 ?_
      refine w_aload_n (q := 18) d_Model_archive_17 rfl rfl ?_
      refine w_iconst (q := 19) (v := 1) d_Model_archive_18 rfl (by decide) ?_
      obtain ⟨v22, hv, h⟩ := bnd h
      refine w_callVi (q := 22) (M' := M_Model_fail) (n' := 0) (k := 54) (As := [.int 1]) (sh' := SH) (b1 := (0, 0)) d_Model_archive_19 rfl mw_Model_fail (by decide) (by decide) ml_Model_273 (by decide) s_54 (by decide) rfl rfl rfl (leb rfl) (bz _) (fun _ => rfl) (ok_Model_fail hv) ?_
      cases h
      exact w_ireturn d_Model_archive_22 rfl rfl ⟨rfl, rfl, rfl, rfl⟩
def sp_Model_fault (g : Mem) : Option (Int32 × Mem) := some ((mset g 54 3 0) 54 21, (mset g 54 3 0))
theorem ok_Model_fault {γ : GG} {tt : Bool} {g : Mem} {res : Int32 × Mem} (h : sp_Model_fault g = some res) : CA γ M_Model_fault 0 [.ref 54] SH g tt (0, 0) (pI SH res.1 res.2 tt) := by
  refine CA.of mw_Model_fault.1 0 rfl ?_
  show WA γ M_Model_fault 0 0 [some (.ref 54)] [] SH g tt (0, 0) (pI SH res.1 res.2 tt)
  unfold sp_Model_fault at h
  refine w_aload_n (q := 1) d_Model_fault_0 rfl rfl ?_
  refine w_iconst (q := 2) (v := 0) d_Model_fault_1 rfl (by decide) ?_
  refine w_put (q := 5) (ci := 12) (j := 3) d_Model_fault_2 rfl (by decide) fl_Model_114 (by decide) (by decide) s_54 rfl rfl rfl rfl rfl rfl ?_
  refine w_aload_n (q := 6) d_Model_fault_5 rfl rfl ?_
  refine w_get (q := 9) (ci := 12) (j := 21) d_Model_fault_6 rfl (by decide) fl_Model_74 (by decide) (by decide) s_54 rfl rfl ?_
  cases h
  exact w_ireturn d_Model_fault_9 rfl rfl ⟨rfl, rfl, rfl, rfl⟩
def PL_Model_pack_27 (γ : GG) (tt : Bool) (q0 : Nat) (q0n : Nat) (p1 : Int32) (g : Mem) (k2 : Int32) (b : Nat × Nat) (Φ : PO) (s : Int32 × Mem) : Prop := WA γ M_Model_pack 0 27 [some (.ref 54), some (.ref q0), some (.int k2), some (.int s.1), none] [] SH s.2 tt b Φ
def QL_Model_pack_27 (γ : GG) (tt : Bool) (q0 : Nat) (q0n : Nat) (p1 : Int32) (g : Mem) (k2 : Int32) (b : Nat × Nat) (Φ : PO) (x : (Mem)) : Prop := WA γ M_Model_pack 0 68 [some (.ref 54), some (.ref q0), some (.int k2), none, none] [] SH x tt b Φ
def st_Model_pack_27 (F : Nat) (q0 : Nat) (q0n : Nat) (p1 : Int32) (g : Mem) (k2 : Int32) (s : Int32 × Mem) : Option ((Int32 × Mem) ⊕ ((Mem))) := if 6 ≤ s.1 then some (.inr s.2) else (rd s.2 61 12 s.1).bind fun v5 => (wr s.2 q0 q0n ((k2 + 3) + s.1) v5).bind fun g6 => (rd g6 66 6 s.1).bind fun v7 => (wr g6 q0 q0n (((k2 + 3) + 6) + s.1) v7).bind fun g8 => some (.inl (s.1 + 1, g8))
theorem kl_Model_pack_27 {γ : GG} {tt : Bool} {F : Nat} {q0 : Nat} {q0n : Nat} {p1 : Int32} {g : Mem} {k2 : Int32} {b : Nat × Nat} {Φ : PO} (hq0 : isA SH q0 q0n) : ∀ (s : Int32 × Mem) (r : (Int32 × Mem) ⊕ ((Mem))), st_Model_pack_27 F q0 q0n p1 g k2 s = some r → RQ (PL_Model_pack_27 γ tt q0 q0n p1 g k2 b Φ) (QL_Model_pack_27 γ tt q0 q0n p1 g k2 b Φ) r → PL_Model_pack_27 γ tt q0 q0n p1 g k2 b Φ s := by
  intro s r h hr
  unfold st_Model_pack_27 at h
  unfold PL_Model_pack_27
  refine w_iload_n (q := 28) d_Model_pack_27 rfl rfl ?_
  refine w_bipush (q := 30) (v := 6) d_Model_pack_28 rfl (by decide) ?_
  by_cases c4 : 6 ≤ s.1
  · rw [if_pos c4] at h
    refine w_icmp_ge_t (q := 68) d_Model_pack_30 rfl c4 ?_
    cases h
    exact w_ls (by exact (And.intro rfl (And.intro rfl (And.intro rfl trivial)))) hr
  · rw [if_neg c4] at h
    refine w_icmp_ge_f (q := 33) d_Model_pack_30 68 rfl rfl c4 ?_
    refine w_aload_n (q := 34) d_Model_pack_33 rfl rfl ?_
    refine w_iload_n (q := 35) d_Model_pack_34 rfl rfl ?_
    refine w_iconst (q := 36) (v := 3) d_Model_pack_35 rfl (by decide) ?_
    refine w_iadd (q := 37) d_Model_pack_36 rfl ?_
    refine w_iload_n (q := 38) d_Model_pack_37 rfl rfl ?_
    refine w_iadd (q := 39) d_Model_pack_38 rfl ?_
    refine w_aload_n (q := 40) d_Model_pack_39 rfl rfl ?_
    refine w_get (q := 43) (ci := 12) (j := 7) d_Model_pack_40 rfl (by decide) fl_Model_59 (by decide) (by decide) s_54 rfl rfl ?_
    refine w_iload_n (q := 44) d_Model_pack_43 rfl rfl ?_
    obtain ⟨v5, hv, h⟩ := bnd h
    obtain ⟨hi, hv⟩ := rd_ok hv
    refine w_iald (q := 45) (t := 0) d_Model_pack_44 rfl a_61.2 a_61.1 hi rfl ?_
    rw [hv]
    obtain ⟨g6, hv, h⟩ := bnd h
    obtain ⟨hi, hv⟩ := wr_ok hv
    refine w_iast (q := 46) d_Model_pack_45 rfl hq0.2 hq0.1 hi hv ?_
    refine w_aload_n (q := 47) d_Model_pack_46 rfl rfl ?_
    refine w_iload_n (q := 48) d_Model_pack_47 rfl rfl ?_
    refine w_iconst (q := 49) (v := 3) d_Model_pack_48 rfl (by decide) ?_
    refine w_iadd (q := 50) d_Model_pack_49 rfl ?_
    refine w_bipush (q := 52) (v := 6) d_Model_pack_50 rfl (by decide) ?_
    refine w_iadd (q := 53) d_Model_pack_52 rfl ?_
    refine w_iload_n (q := 54) d_Model_pack_53 rfl rfl ?_
    refine w_iadd (q := 55) d_Model_pack_54 rfl ?_
    refine w_aload_n (q := 56) d_Model_pack_55 rfl rfl ?_
    refine w_get (q := 59) (ci := 12) (j := 22) d_Model_pack_56 rfl (by decide) fl_Model_78 (by decide) (by decide) s_54 rfl rfl ?_
    refine w_iload_n (q := 60) d_Model_pack_59 rfl rfl ?_
    obtain ⟨v7, hv, h⟩ := bnd h
    obtain ⟨hi, hv⟩ := rd_ok hv
    refine w_iald (q := 61) (t := 0) d_Model_pack_60 rfl a_66.2 a_66.1 hi rfl ?_
    rw [hv]
    obtain ⟨g8, hv, h⟩ := bnd h
    obtain ⟨hi, hv⟩ := wr_ok hv
    refine w_iast (q := 62) d_Model_pack_61 rfl hq0.2 hq0.1 hi hv ?_
    refine w_iinc (q := 65) (ls' := [some (.ref 54), some (.ref q0), some (.int k2), some (.int (s.1 + 1)), none]) d_Model_pack_62 rfl (by decide) rfl rfl rfl ?_
    refine w_goto (q := 27) d_Model_pack_65 rfl ?_
    cases h
    exact w_ls (by exact (And.intro rfl (And.intro rfl (And.intro rfl (And.intro rfl trivial))))) hr
def PL_Model_pack_78 (γ : GG) (tt : Bool) (q0 : Nat) (q0n : Nat) (p1 : Int32) (g : Mem) (k3 : Int32) (b : Nat × Nat) (Φ : PO) (s : Int32 × Mem) : Prop := WA γ M_Model_pack 0 78 [some (.ref 54), some (.ref q0), none, some (.int k3), some (.int s.1)] [] SH s.2 tt b Φ
def QL_Model_pack_78 (γ : GG) (tt : Bool) (q0 : Nat) (q0n : Nat) (p1 : Int32) (g : Mem) (k3 : Int32) (b : Nat × Nat) (Φ : PO) (x : (Mem)) : Prop := WA γ M_Model_pack 0 105 [none, none, none, none, none] [] SH x tt b Φ
def st_Model_pack_78 (F : Nat) (q0 : Nat) (q0n : Nat) (p1 : Int32) (g : Mem) (k3 : Int32) (s : Int32 × Mem) : Option ((Int32 × Mem) ⊕ ((Mem))) := if 216 ≤ s.1 then some (.inr s.2) else (rd s.2 62 432 s.1).bind fun v11 => (wr s.2 q0 q0n (k3 + s.1) v11).bind fun g12 => some (.inl (s.1 + 1, g12))
theorem kl_Model_pack_78 {γ : GG} {tt : Bool} {F : Nat} {q0 : Nat} {q0n : Nat} {p1 : Int32} {g : Mem} {k3 : Int32} {b : Nat × Nat} {Φ : PO} (hq0 : isA SH q0 q0n) : ∀ (s : Int32 × Mem) (r : (Int32 × Mem) ⊕ ((Mem))), st_Model_pack_78 F q0 q0n p1 g k3 s = some r → RQ (PL_Model_pack_78 γ tt q0 q0n p1 g k3 b Φ) (QL_Model_pack_78 γ tt q0 q0n p1 g k3 b Φ) r → PL_Model_pack_78 γ tt q0 q0n p1 g k3 b Φ s := by
  intro s r h hr
  unfold st_Model_pack_78 at h
  unfold PL_Model_pack_78
  refine w_iload (q := 80) d_Model_pack_78 rfl rfl ?_
  refine w_sipush (q := 83) (v := 216) d_Model_pack_80 rfl (by decide) ?_
  by_cases c10 : 216 ≤ s.1
  · rw [if_pos c10] at h
    refine w_icmp_ge_t (q := 105) d_Model_pack_83 rfl c10 ?_
    cases h
    exact w_ls (by exact trivial) hr
  · rw [if_neg c10] at h
    refine w_icmp_ge_f (q := 86) d_Model_pack_83 105 rfl rfl c10 ?_
    refine w_aload_n (q := 87) d_Model_pack_86 rfl rfl ?_
    refine w_iload_n (q := 88) d_Model_pack_87 rfl rfl ?_
    refine w_iload (q := 90) d_Model_pack_88 rfl rfl ?_
    refine w_iadd (q := 91) d_Model_pack_90 rfl ?_
    refine w_aload_n (q := 92) d_Model_pack_91 rfl rfl ?_
    refine w_get (q := 95) (ci := 12) (j := 8) d_Model_pack_92 rfl (by decide) fl_Model_62 (by decide) (by decide) s_54 rfl rfl ?_
    refine w_iload (q := 97) d_Model_pack_95 rfl rfl ?_
    obtain ⟨v11, hv, h⟩ := bnd h
    obtain ⟨hi, hv⟩ := rd_ok hv
    refine w_iald (q := 98) (t := 0) d_Model_pack_97 rfl a_62.2 a_62.1 hi rfl ?_
    rw [hv]
    obtain ⟨g12, hv, h⟩ := bnd h
    obtain ⟨hi, hv⟩ := wr_ok hv
    refine w_iast (q := 99) d_Model_pack_98 rfl hq0.2 hq0.1 hi hv ?_
    refine w_iinc (q := 102) (ls' := [some (.ref 54), some (.ref q0), none, some (.int k3), some (.int (s.1 + 1))]) d_Model_pack_99 rfl (by decide) rfl rfl rfl ?_
    refine w_goto (q := 78) d_Model_pack_102 rfl ?_
    cases h
    exact w_ls (by exact (And.intro rfl (And.intro rfl (And.intro rfl (And.intro rfl trivial))))) hr
def sp_Model_pack (F : Nat) (q0 : Nat) (q0n : Nat) (p1 : Int32) (g : Mem) : Option (Mem) := (wr g q0 q0n p1 (g 54 24)).bind fun g1 => (wr g1 q0 q0n (p1 + 1) (g1 54 25)).bind fun g2 => (wr g2 q0 q0n (p1 + 2) (g2 54 26)).bind fun g3 => (lpO (st_Model_pack_27 F q0 q0n p1 g p1) F (0, g3)).bind fun x9 => (lpO (st_Model_pack_78 F q0 q0n p1 g ((p1 + 3) + 12)) F (0, x9)).bind fun x13 => some x13
theorem ok_Model_pack {γ : GG} {tt : Bool} {F : Nat} {q0 : Nat} {q0n : Nat} {p1 : Int32} {g : Mem} (hq0 : isA SH q0 q0n) {res : Mem} (h : sp_Model_pack F q0 q0n p1 g = some res) : CA γ M_Model_pack 0 [.ref 54, .ref q0, .int p1] SH g tt (0, 0) (pV SH res tt) := by
  refine CA.of mw_Model_pack.1 2 rfl ?_
  show WA γ M_Model_pack 0 0 [some (.ref 54), some (.ref q0), some (.int p1), none, none] [] SH g tt (0, 0) (pV SH res tt)
  unfold sp_Model_pack at h
  refine w_aload_n (q := 1) d_Model_pack_0 rfl rfl ?_
  refine w_iload_n (q := 2) d_Model_pack_1 rfl rfl ?_
  refine w_aload_n (q := 3) d_Model_pack_2 rfl rfl ?_
  refine w_get (q := 6) (ci := 12) (j := 24) d_Model_pack_3 rfl (by decide) fl_Model_286 (by decide) (by decide) s_54 rfl rfl ?_
  obtain ⟨g1, hv, h⟩ := bnd h
  obtain ⟨hi, hv⟩ := wr_ok hv
  refine w_iast (q := 7) d_Model_pack_6 rfl hq0.2 hq0.1 hi hv ?_
  refine w_aload_n (q := 8) d_Model_pack_7 rfl rfl ?_
  refine w_iload_n (q := 9) d_Model_pack_8 rfl rfl ?_
  refine w_iconst (q := 10) (v := 1) d_Model_pack_9 rfl (by decide) ?_
  refine w_iadd (q := 11) d_Model_pack_10 rfl ?_
  refine w_aload_n (q := 12) d_Model_pack_11 rfl rfl ?_
  refine w_get (q := 15) (ci := 12) (j := 25) d_Model_pack_12 rfl (by decide) fl_Model_289 (by decide) (by decide) s_54 rfl rfl ?_
  obtain ⟨g2, hv, h⟩ := bnd h
  obtain ⟨hi, hv⟩ := wr_ok hv
  refine w_iast (q := 16) d_Model_pack_15 rfl hq0.2 hq0.1 hi hv ?_
  refine w_aload_n (q := 17) d_Model_pack_16 rfl rfl ?_
  refine w_iload_n (q := 18) d_Model_pack_17 rfl rfl ?_
  refine w_iconst (q := 19) (v := 2) d_Model_pack_18 rfl (by decide) ?_
  refine w_iadd (q := 20) d_Model_pack_19 rfl ?_
  refine w_aload_n (q := 21) d_Model_pack_20 rfl rfl ?_
  refine w_get (q := 24) (ci := 12) (j := 26) d_Model_pack_21 rfl (by decide) fl_Model_121 (by decide) (by decide) s_54 rfl rfl ?_
  obtain ⟨g3, hv, h⟩ := bnd h
  obtain ⟨hi, hv⟩ := wr_ok hv
  refine w_iast (q := 25) d_Model_pack_24 rfl hq0.2 hq0.1 hi hv ?_
  refine w_iconst (q := 26) (v := 0) d_Model_pack_25 rfl (by decide) ?_
  refine w_istore_n (q := 27) (ls' := [some (.ref 54), some (.ref q0), some (.int p1), some (.int 0), none]) d_Model_pack_26 rfl (by decide) rfl rfl ?_
  obtain ⟨x9, hx, h⟩ := bnd h
  refine w_ls (ls' := [some (.ref 54), some (.ref q0), some (.int p1), some (.int 0), none]) (And.intro rfl (And.intro rfl (And.intro rfl (And.intro rfl trivial)))) ?_
  show PL_Model_pack_27 γ tt q0 q0n p1 g p1 _ _ (0, g3)
  refine lp_ok (kl_Model_pack_27 hq0) F _ x9 hx ?_
  unfold QL_Model_pack_27
  refine w_iload_n (q := 69) d_Model_pack_68 rfl rfl ?_
  refine w_iconst (q := 70) (v := 3) d_Model_pack_69 rfl (by decide) ?_
  refine w_iadd (q := 71) d_Model_pack_70 rfl ?_
  refine w_bipush (q := 73) (v := 12) d_Model_pack_71 rfl (by decide) ?_
  refine w_iadd (q := 74) d_Model_pack_73 rfl ?_
  refine w_istore_n (q := 75) (ls' := [some (.ref 54), some (.ref q0), some (.int p1), some (.int ((p1 + 3) + 12)), none]) d_Model_pack_74 rfl (by decide) rfl rfl ?_
  refine w_iconst (q := 76) (v := 0) d_Model_pack_75 rfl (by decide) ?_
  refine w_istore (q := 78) (ls' := [some (.ref 54), some (.ref q0), some (.int p1), some (.int ((p1 + 3) + 12)), some (.int 0)]) d_Model_pack_76 rfl (by decide) rfl rfl ?_
  obtain ⟨x13, hx, h⟩ := bnd h
  refine w_ls (ls' := [some (.ref 54), some (.ref q0), none, some (.int ((p1 + 3) + 12)), some (.int 0)]) (And.intro rfl (And.intro rfl (And.intro rfl (And.intro rfl trivial)))) ?_
  show PL_Model_pack_78 γ tt q0 q0n p1 g ((p1 + 3) + 12) _ _ (0, x9)
  refine lp_ok (kl_Model_pack_78 hq0) F _ x13 hx ?_
  unfold QL_Model_pack_78
  cases h
  exact w_return d_Model_pack_105 rfl ⟨rfl, rfl, rfl, rfl⟩
def PL_Model_unpack_27 (γ : GG) (tt : Bool) (q0 : Nat) (q0n : Nat) (p1 : Int32) (g : Mem) (k2 : Int32) (b : Nat × Nat) (Φ : PO) (s : Int32 × Mem) : Prop := WA γ M_Model_unpack 0 27 [some (.ref 54), some (.ref q0), some (.int k2), some (.int s.1), none] [] SH s.2 tt b Φ
def QL_Model_unpack_27 (γ : GG) (tt : Bool) (q0 : Nat) (q0n : Nat) (p1 : Int32) (g : Mem) (k2 : Int32) (b : Nat × Nat) (Φ : PO) (x : (Mem)) : Prop := WA γ M_Model_unpack 0 68 [some (.ref 54), some (.ref q0), some (.int k2), none, none] [] SH x tt b Φ
def st_Model_unpack_27 (F : Nat) (q0 : Nat) (q0n : Nat) (p1 : Int32) (g : Mem) (k2 : Int32) (s : Int32 × Mem) : Option ((Int32 × Mem) ⊕ ((Mem))) := if 6 ≤ s.1 then some (.inr s.2) else (rd s.2 q0 q0n ((k2 + 3) + s.1)).bind fun v5 => (wr s.2 61 12 s.1 v5).bind fun g6 => (rd g6 q0 q0n (((k2 + 3) + 6) + s.1)).bind fun v7 => (wr g6 66 6 s.1 v7).bind fun g8 => some (.inl (s.1 + 1, g8))
theorem kl_Model_unpack_27 {γ : GG} {tt : Bool} {F : Nat} {q0 : Nat} {q0n : Nat} {p1 : Int32} {g : Mem} {k2 : Int32} {b : Nat × Nat} {Φ : PO} (hq0 : isA SH q0 q0n) : ∀ (s : Int32 × Mem) (r : (Int32 × Mem) ⊕ ((Mem))), st_Model_unpack_27 F q0 q0n p1 g k2 s = some r → RQ (PL_Model_unpack_27 γ tt q0 q0n p1 g k2 b Φ) (QL_Model_unpack_27 γ tt q0 q0n p1 g k2 b Φ) r → PL_Model_unpack_27 γ tt q0 q0n p1 g k2 b Φ s := by
  intro s r h hr
  unfold st_Model_unpack_27 at h
  unfold PL_Model_unpack_27
  refine w_iload_n (q := 28) d_Model_unpack_27 rfl rfl ?_
  refine w_bipush (q := 30) (v := 6) d_Model_unpack_28 rfl (by decide) ?_
  by_cases c4 : 6 ≤ s.1
  · rw [if_pos c4] at h
    refine w_icmp_ge_t (q := 68) d_Model_unpack_30 rfl c4 ?_
    cases h
    exact w_ls (by exact (And.intro rfl (And.intro rfl (And.intro rfl trivial)))) hr
  · rw [if_neg c4] at h
    refine w_icmp_ge_f (q := 33) d_Model_unpack_30 68 rfl rfl c4 ?_
    refine w_aload_n (q := 34) d_Model_unpack_33 rfl rfl ?_
    refine w_get (q := 37) (ci := 12) (j := 7) d_Model_unpack_34 rfl (by decide) fl_Model_59 (by decide) (by decide) s_54 rfl rfl ?_
    refine w_iload_n (q := 38) d_Model_unpack_37 rfl rfl ?_
    refine w_aload_n (q := 39) d_Model_unpack_38 rfl rfl ?_
    refine w_iload_n (q := 40) d_Model_unpack_39 rfl rfl ?_
    refine w_iconst (q := 41) (v := 3) d_Model_unpack_40 rfl (by decide) ?_
    refine w_iadd (q := 42) d_Model_unpack_41 rfl ?_
    refine w_iload_n (q := 43) d_Model_unpack_42 rfl rfl ?_
    refine w_iadd (q := 44) d_Model_unpack_43 rfl ?_
    obtain ⟨v5, hv, h⟩ := bnd h
    obtain ⟨hi, hv⟩ := rd_ok hv
    refine w_iald (q := 45) (t := 0) d_Model_unpack_44 rfl hq0.2 hq0.1 hi rfl ?_
    rw [hv]
    obtain ⟨g6, hv, h⟩ := bnd h
    obtain ⟨hi, hv⟩ := wr_ok hv
    refine w_iast (q := 46) d_Model_unpack_45 rfl a_61.2 a_61.1 hi hv ?_
    refine w_aload_n (q := 47) d_Model_unpack_46 rfl rfl ?_
    refine w_get (q := 50) (ci := 12) (j := 22) d_Model_unpack_47 rfl (by decide) fl_Model_78 (by decide) (by decide) s_54 rfl rfl ?_
    refine w_iload_n (q := 51) d_Model_unpack_50 rfl rfl ?_
    refine w_aload_n (q := 52) d_Model_unpack_51 rfl rfl ?_
    refine w_iload_n (q := 53) d_Model_unpack_52 rfl rfl ?_
    refine w_iconst (q := 54) (v := 3) d_Model_unpack_53 rfl (by decide) ?_
    refine w_iadd (q := 55) d_Model_unpack_54 rfl ?_
    refine w_bipush (q := 57) (v := 6) d_Model_unpack_55 rfl (by decide) ?_
    refine w_iadd (q := 58) d_Model_unpack_57 rfl ?_
    refine w_iload_n (q := 59) d_Model_unpack_58 rfl rfl ?_
    refine w_iadd (q := 60) d_Model_unpack_59 rfl ?_
    obtain ⟨v7, hv, h⟩ := bnd h
    obtain ⟨hi, hv⟩ := rd_ok hv
    refine w_iald (q := 61) (t := 0) d_Model_unpack_60 rfl hq0.2 hq0.1 hi rfl ?_
    rw [hv]
    obtain ⟨g8, hv, h⟩ := bnd h
    obtain ⟨hi, hv⟩ := wr_ok hv
    refine w_iast (q := 62) d_Model_unpack_61 rfl a_66.2 a_66.1 hi hv ?_
    refine w_iinc (q := 65) (ls' := [some (.ref 54), some (.ref q0), some (.int k2), some (.int (s.1 + 1)), none]) d_Model_unpack_62 rfl (by decide) rfl rfl rfl ?_
    refine w_goto (q := 27) d_Model_unpack_65 rfl ?_
    cases h
    exact w_ls (by exact (And.intro rfl (And.intro rfl (And.intro rfl (And.intro rfl trivial))))) hr
def PL_Model_unpack_78 (γ : GG) (tt : Bool) (q0 : Nat) (q0n : Nat) (p1 : Int32) (g : Mem) (k3 : Int32) (b : Nat × Nat) (Φ : PO) (s : Int32 × Mem) : Prop := WA γ M_Model_unpack 0 78 [some (.ref 54), some (.ref q0), none, some (.int k3), some (.int s.1)] [] SH s.2 tt b Φ
def QL_Model_unpack_78 (γ : GG) (tt : Bool) (q0 : Nat) (q0n : Nat) (p1 : Int32) (g : Mem) (k3 : Int32) (b : Nat × Nat) (Φ : PO) (x : (Mem)) : Prop := WA γ M_Model_unpack 0 105 [none, none, none, none, none] [] SH x tt b Φ
def st_Model_unpack_78 (F : Nat) (q0 : Nat) (q0n : Nat) (p1 : Int32) (g : Mem) (k3 : Int32) (s : Int32 × Mem) : Option ((Int32 × Mem) ⊕ ((Mem))) := if 216 ≤ s.1 then some (.inr s.2) else (rd s.2 q0 q0n (k3 + s.1)).bind fun v11 => (wr s.2 62 432 s.1 v11).bind fun g12 => some (.inl (s.1 + 1, g12))
theorem kl_Model_unpack_78 {γ : GG} {tt : Bool} {F : Nat} {q0 : Nat} {q0n : Nat} {p1 : Int32} {g : Mem} {k3 : Int32} {b : Nat × Nat} {Φ : PO} (hq0 : isA SH q0 q0n) : ∀ (s : Int32 × Mem) (r : (Int32 × Mem) ⊕ ((Mem))), st_Model_unpack_78 F q0 q0n p1 g k3 s = some r → RQ (PL_Model_unpack_78 γ tt q0 q0n p1 g k3 b Φ) (QL_Model_unpack_78 γ tt q0 q0n p1 g k3 b Φ) r → PL_Model_unpack_78 γ tt q0 q0n p1 g k3 b Φ s := by
  intro s r h hr
  unfold st_Model_unpack_78 at h
  unfold PL_Model_unpack_78
  refine w_iload (q := 80) d_Model_unpack_78 rfl rfl ?_
  refine w_sipush (q := 83) (v := 216) d_Model_unpack_80 rfl (by decide) ?_
  by_cases c10 : 216 ≤ s.1
  · rw [if_pos c10] at h
    refine w_icmp_ge_t (q := 105) d_Model_unpack_83 rfl c10 ?_
    cases h
    exact w_ls (by exact trivial) hr
  · rw [if_neg c10] at h
    refine w_icmp_ge_f (q := 86) d_Model_unpack_83 105 rfl rfl c10 ?_
    refine w_aload_n (q := 87) d_Model_unpack_86 rfl rfl ?_
    refine w_get (q := 90) (ci := 12) (j := 8) d_Model_unpack_87 rfl (by decide) fl_Model_62 (by decide) (by decide) s_54 rfl rfl ?_
    refine w_iload (q := 92) d_Model_unpack_90 rfl rfl ?_
    refine w_aload_n (q := 93) d_Model_unpack_92 rfl rfl ?_
    refine w_iload_n (q := 94) d_Model_unpack_93 rfl rfl ?_
    refine w_iload (q := 96) d_Model_unpack_94 rfl rfl ?_
    refine w_iadd (q := 97) d_Model_unpack_96 rfl ?_
    obtain ⟨v11, hv, h⟩ := bnd h
    obtain ⟨hi, hv⟩ := rd_ok hv
    refine w_iald (q := 98) (t := 0) d_Model_unpack_97 rfl hq0.2 hq0.1 hi rfl ?_
    rw [hv]
    obtain ⟨g12, hv, h⟩ := bnd h
    obtain ⟨hi, hv⟩ := wr_ok hv
    refine w_iast (q := 99) d_Model_unpack_98 rfl a_62.2 a_62.1 hi hv ?_
    refine w_iinc (q := 102) (ls' := [some (.ref 54), some (.ref q0), none, some (.int k3), some (.int (s.1 + 1))]) d_Model_unpack_99 rfl (by decide) rfl rfl rfl ?_
    refine w_goto (q := 78) d_Model_unpack_102 rfl ?_
    cases h
    exact w_ls (by exact (And.intro rfl (And.intro rfl (And.intro rfl (And.intro rfl trivial))))) hr
def sp_Model_unpack (F : Nat) (q0 : Nat) (q0n : Nat) (p1 : Int32) (g : Mem) : Option (Mem) := (rd g q0 q0n p1).bind fun v1 => (rd (mset g 54 24 v1) q0 q0n (p1 + 1)).bind fun v2 => (rd (mset (mset g 54 24 v1) 54 25 v2) q0 q0n (p1 + 2)).bind fun v3 => (lpO (st_Model_unpack_27 F q0 q0n p1 g p1) F (0, (mset (mset (mset g 54 24 v1) 54 25 v2) 54 26 v3))).bind fun x9 => (lpO (st_Model_unpack_78 F q0 q0n p1 g ((p1 + 3) + 12)) F (0, x9)).bind fun x13 => some x13
theorem ok_Model_unpack {γ : GG} {tt : Bool} {F : Nat} {q0 : Nat} {q0n : Nat} {p1 : Int32} {g : Mem} (hq0 : isA SH q0 q0n) {res : Mem} (h : sp_Model_unpack F q0 q0n p1 g = some res) : CA γ M_Model_unpack 0 [.ref 54, .ref q0, .int p1] SH g tt (0, 0) (pV SH res tt) := by
  refine CA.of mw_Model_unpack.1 2 rfl ?_
  show WA γ M_Model_unpack 0 0 [some (.ref 54), some (.ref q0), some (.int p1), none, none] [] SH g tt (0, 0) (pV SH res tt)
  unfold sp_Model_unpack at h
  refine w_aload_n (q := 1) d_Model_unpack_0 rfl rfl ?_
  refine w_aload_n (q := 2) d_Model_unpack_1 rfl rfl ?_
  refine w_iload_n (q := 3) d_Model_unpack_2 rfl rfl ?_
  obtain ⟨v1, hv, h⟩ := bnd h
  obtain ⟨hi, hv⟩ := rd_ok hv
  refine w_iald (q := 4) (t := 0) d_Model_unpack_3 rfl hq0.2 hq0.1 hi rfl ?_
  rw [hv]
  refine w_put (q := 7) (ci := 12) (j := 24) d_Model_unpack_4 rfl (by decide) fl_Model_286 (by decide) (by decide) s_54 rfl rfl rfl rfl rfl rfl ?_
  refine w_aload_n (q := 8) d_Model_unpack_7 rfl rfl ?_
  refine w_aload_n (q := 9) d_Model_unpack_8 rfl rfl ?_
  refine w_iload_n (q := 10) d_Model_unpack_9 rfl rfl ?_
  refine w_iconst (q := 11) (v := 1) d_Model_unpack_10 rfl (by decide) ?_
  refine w_iadd (q := 12) d_Model_unpack_11 rfl ?_
  obtain ⟨v2, hv, h⟩ := bnd h
  obtain ⟨hi, hv⟩ := rd_ok hv
  refine w_iald (q := 13) (t := 0) d_Model_unpack_12 rfl hq0.2 hq0.1 hi rfl ?_
  rw [hv]
  refine w_put (q := 16) (ci := 12) (j := 25) d_Model_unpack_13 rfl (by decide) fl_Model_289 (by decide) (by decide) s_54 rfl rfl rfl rfl rfl rfl ?_
  refine w_aload_n (q := 17) d_Model_unpack_16 rfl rfl ?_
  refine w_aload_n (q := 18) d_Model_unpack_17 rfl rfl ?_
  refine w_iload_n (q := 19) d_Model_unpack_18 rfl rfl ?_
  refine w_iconst (q := 20) (v := 2) d_Model_unpack_19 rfl (by decide) ?_
  refine w_iadd (q := 21) d_Model_unpack_20 rfl ?_
  obtain ⟨v3, hv, h⟩ := bnd h
  obtain ⟨hi, hv⟩ := rd_ok hv
  refine w_iald (q := 22) (t := 0) d_Model_unpack_21 rfl hq0.2 hq0.1 hi rfl ?_
  rw [hv]
  refine w_put (q := 25) (ci := 12) (j := 26) d_Model_unpack_22 rfl (by decide) fl_Model_121 (by decide) (by decide) s_54 rfl rfl rfl rfl rfl rfl ?_
  refine w_iconst (q := 26) (v := 0) d_Model_unpack_25 rfl (by decide) ?_
  refine w_istore_n (q := 27) (ls' := [some (.ref 54), some (.ref q0), some (.int p1), some (.int 0), none]) d_Model_unpack_26 rfl (by decide) rfl rfl ?_
  obtain ⟨x9, hx, h⟩ := bnd h
  refine w_ls (ls' := [some (.ref 54), some (.ref q0), some (.int p1), some (.int 0), none]) (And.intro rfl (And.intro rfl (And.intro rfl (And.intro rfl trivial)))) ?_
  show PL_Model_unpack_27 γ tt q0 q0n p1 g p1 _ _ (0, (mset (mset (mset g 54 24 v1) 54 25 v2) 54 26 v3))
  refine lp_ok (kl_Model_unpack_27 hq0) F _ x9 hx ?_
  unfold QL_Model_unpack_27
  refine w_iload_n (q := 69) d_Model_unpack_68 rfl rfl ?_
  refine w_iconst (q := 70) (v := 3) d_Model_unpack_69 rfl (by decide) ?_
  refine w_iadd (q := 71) d_Model_unpack_70 rfl ?_
  refine w_bipush (q := 73) (v := 12) d_Model_unpack_71 rfl (by decide) ?_
  refine w_iadd (q := 74) d_Model_unpack_73 rfl ?_
  refine w_istore_n (q := 75) (ls' := [some (.ref 54), some (.ref q0), some (.int p1), some (.int ((p1 + 3) + 12)), none]) d_Model_unpack_74 rfl (by decide) rfl rfl ?_
  refine w_iconst (q := 76) (v := 0) d_Model_unpack_75 rfl (by decide) ?_
  refine w_istore (q := 78) (ls' := [some (.ref 54), some (.ref q0), some (.int p1), some (.int ((p1 + 3) + 12)), some (.int 0)]) d_Model_unpack_76 rfl (by decide) rfl rfl ?_
  obtain ⟨x13, hx, h⟩ := bnd h
  refine w_ls (ls' := [some (.ref 54), some (.ref q0), none, some (.int ((p1 + 3) + 12)), some (.int 0)]) (And.intro rfl (And.intro rfl (And.intro rfl (And.intro rfl trivial)))) ?_
  show PL_Model_unpack_78 γ tt q0 q0n p1 g ((p1 + 3) + 12) _ _ (0, x9)
  refine lp_ok (kl_Model_unpack_78 hq0) F _ x13 hx ?_
  unfold QL_Model_unpack_78
  cases h
  exact w_return d_Model_unpack_105 rfl ⟨rfl, rfl, rfl, rfl⟩
def PL_Model_yearGoes_12 (γ : GG) (tt : Bool) (g : Mem) (b : Nat × Nat) (Φ : PO) (s : Int32 × Mem) : Prop := WA γ M_Model_yearGoes 4 12 [some (.ref 54), some (.int s.1)] [] SH s.2 tt b Φ
def QL_Model_yearGoes_12 (γ : GG) (tt : Bool) (g : Mem) (b : Nat × Nat) (Φ : PO) (x : (Mem)) : Prop := WA γ M_Model_yearGoes 4 71 [some (.ref 54), none] [] SH x tt b Φ
def st_Model_yearGoes_12 (F : Nat) (g : Mem) (s : Int32 × Mem) : Option ((Int32 × Mem) ⊕ ((Mem))) := (rd s.2 58 12 0).bind fun v1 => if v1 ≤ s.1 then some (.inr s.2) else (sp_Model_isOf (s.2 54 25) s.1 s.2).bind fun v3 => if v3 = 0 then (rd s.2 61 12 s.1).bind fun v5 => (rd s.2 59 12 s.1).bind fun v6 => (rd s.2 58 12 1).bind fun v7 => (sp_Model_mayHave v6 v7 s.2).bind fun v8 => (sp_JMath_min (v5 + 1) v8 s.2).bind fun v9 => (wr s.2 61 12 s.1 v9).bind fun g10 => some (.inl (s.1 + 1, g10)) else some (.inl (s.1 + 1, s.2))
theorem kl_Model_yearGoes_12 {γ : GG} {tt : Bool} {F : Nat} {g : Mem} {b : Nat × Nat} {Φ : PO} : ∀ (s : Int32 × Mem) (r : (Int32 × Mem) ⊕ ((Mem))), st_Model_yearGoes_12 F g s = some r → RQ (PL_Model_yearGoes_12 γ tt g b Φ) (QL_Model_yearGoes_12 γ tt g b Φ) r → PL_Model_yearGoes_12 γ tt g b Φ s := by
  intro s r h hr
  unfold st_Model_yearGoes_12 at h
  unfold PL_Model_yearGoes_12
  refine w_iload_n (q := 13) d_Model_yearGoes_12 rfl rfl ?_
  refine w_aload_n (q := 14) d_Model_yearGoes_13 rfl rfl ?_
  refine w_get (q := 17) (ci := 12) (j := 4) d_Model_yearGoes_14 rfl (by decide) fl_Model_51 (by decide) (by decide) s_54 rfl rfl ?_
  refine w_iconst (q := 18) (v := 0) d_Model_yearGoes_17 rfl (by decide) ?_
  obtain ⟨v1, hv, h⟩ := bnd h
  obtain ⟨hi, hv⟩ := rd_ok hv
  refine w_iald (q := 19) (t := 0) d_Model_yearGoes_18 rfl a_58.2 a_58.1 hi rfl ?_
  rw [hv]
  by_cases c2 : v1 ≤ s.1
  · rw [if_pos c2] at h
    refine w_icmp_ge_t (q := 71) d_Model_yearGoes_19 rfl c2 ?_
    cases h
    exact w_ls (by exact (And.intro rfl trivial)) hr
  · rw [if_neg c2] at h
    refine w_icmp_ge_f (q := 22) d_Model_yearGoes_19 71 rfl rfl c2 ?_
    refine w_aload_n (q := 23) d_Model_yearGoes_22 rfl rfl ?_
    refine w_get (q := 26) (ci := 12) (j := 25) d_Model_yearGoes_23 rfl (by decide) fl_Model_289 (by decide) (by decide) s_54 rfl rfl ?_
    refine w_iload_n (q := 27) d_Model_yearGoes_26 rfl rfl ?_
    obtain ⟨v3, hv, h⟩ := bnd h
    refine w_callSi (q := 30) (M' := M_Model_isOf) (n' := 0) (As := [.int (s.2 54 25), .int s.1]) (sh' := SH) (b1 := (0, 0)) d_Model_yearGoes_27 rfl mw_Model_isOf (by decide) (by decide) ml_Model_308 rfl rfl (leb rfl) (bz _) (fun _ => rfl) (ok_Model_isOf hv) ?_
    by_cases c4 : v3 = 0
    · rw [if_pos c4] at h
      refine w_if_ne_f (q := 33) d_Model_yearGoes_30 65 rfl rfl c4 ?_
      refine w_aload_n (q := 34) d_Model_yearGoes_33 rfl rfl ?_
      refine w_get (q := 37) (ci := 12) (j := 7) d_Model_yearGoes_34 rfl (by decide) fl_Model_59 (by decide) (by decide) s_54 rfl rfl ?_
      refine w_iload_n (q := 38) d_Model_yearGoes_37 rfl rfl ?_
      refine w_aload_n (q := 39) d_Model_yearGoes_38 rfl rfl ?_
      refine w_get (q := 42) (ci := 12) (j := 7) d_Model_yearGoes_39 rfl (by decide) fl_Model_59 (by decide) (by decide) s_54 rfl rfl ?_
      refine w_iload_n (q := 43) d_Model_yearGoes_42 rfl rfl ?_
      obtain ⟨v5, hv, h⟩ := bnd h
      obtain ⟨hi, hv⟩ := rd_ok hv
      refine w_iald (q := 44) (t := 0) d_Model_yearGoes_43 rfl a_61.2 a_61.1 hi rfl ?_
      rw [hv]
      refine w_iconst (q := 45) (v := 1) d_Model_yearGoes_44 rfl (by decide) ?_
      refine w_iadd (q := 46) d_Model_yearGoes_45 rfl ?_
      refine w_aload_n (q := 47) d_Model_yearGoes_46 rfl rfl ?_
      refine w_get (q := 50) (ci := 12) (j := 5) d_Model_yearGoes_47 rfl (by decide) fl_Model_55 (by decide) (by decide) s_54 rfl rfl ?_
      refine w_iload_n (q := 51) d_Model_yearGoes_50 rfl rfl ?_
      obtain ⟨v6, hv, h⟩ := bnd h
      obtain ⟨hi, hv⟩ := rd_ok hv
      refine w_iald (q := 52) (t := 0) d_Model_yearGoes_51 rfl a_59.2 a_59.1 hi rfl ?_
      rw [hv]
      refine w_aload_n (q := 53) d_Model_yearGoes_52 rfl rfl ?_
      refine w_get (q := 56) (ci := 12) (j := 4) d_Model_yearGoes_53 rfl (by decide) fl_Model_51 (by decide) (by decide) s_54 rfl rfl ?_
      refine w_iconst (q := 57) (v := 1) d_Model_yearGoes_56 rfl (by decide) ?_
      obtain ⟨v7, hv, h⟩ := bnd h
      obtain ⟨hi, hv⟩ := rd_ok hv
      refine w_iald (q := 58) (t := 0) d_Model_yearGoes_57 rfl a_58.2 a_58.1 hi rfl ?_
      rw [hv]
      obtain ⟨v8, hv, h⟩ := bnd h
      refine w_callSi (q := 61) (M' := M_Model_mayHave) (n' := 1) (As := [.int v6, .int v7]) (sh' := SH) (b1 := (0, 0)) d_Model_yearGoes_58 rfl mw_Model_mayHave (by decide) (by decide) ml_Model_239 rfl rfl (leb rfl) (bz _) (fun _ => rfl) (ok_Model_mayHave hv) ?_
      obtain ⟨v9, hv, h⟩ := bnd h
      refine w_callSi (q := 64) (M' := M_JMath_min) (n' := 0) (As := [.int (v5 + 1), .int v8]) (sh' := SH) (b1 := (0, 0)) d_Model_yearGoes_61 rfl mw_JMath_min (by decide) (by decide) ml_Model_156 rfl rfl (leb rfl) (bz _) (fun _ => rfl) (ok_JMath_min hv) ?_
      obtain ⟨g10, hv, h⟩ := bnd h
      obtain ⟨hi, hv⟩ := wr_ok hv
      refine w_iast (q := 65) d_Model_yearGoes_64 rfl a_61.2 a_61.1 hi hv ?_
      refine w_iinc (q := 68) (ls' := [some (.ref 54), some (.int (s.1 + 1))]) d_Model_yearGoes_65 rfl (by decide) rfl rfl rfl ?_
      refine w_goto (q := 12) d_Model_yearGoes_68 rfl ?_
      cases h
      exact w_ls (by exact (And.intro rfl (And.intro rfl trivial))) hr
    · rw [if_neg c4] at h
      refine w_if_ne_t (q := 65) d_Model_yearGoes_30 rfl c4 ?_
      refine w_iinc (q := 68) (ls' := [some (.ref 54), some (.int (s.1 + 1))]) d_Model_yearGoes_65 rfl (by decide) rfl rfl rfl ?_
      refine w_goto (q := 12) d_Model_yearGoes_68 rfl ?_
      cases h
      exact w_ls (by exact (And.intro rfl (And.intro rfl trivial))) hr
def sp_Model_yearGoes (F : Nat) (g : Mem) : Option (Mem) := (lpO (st_Model_yearGoes_12 F g) F (0, (mset g 54 24 ((g 54 24) + 1)))).bind fun x11 => (sp_Model_loseFar F x11).bind fun v12 => some v12.2
theorem ok_Model_yearGoes {γ : GG} {tt : Bool} {F : Nat} {g : Mem} {res : Mem} (h : sp_Model_yearGoes F g = some res) : CA γ M_Model_yearGoes 4 [.ref 54] SH g tt (0, 0) (pV SH res tt) := by
  refine CA.of mw_Model_yearGoes.1 1 rfl ?_
  show WA γ M_Model_yearGoes 4 0 [some (.ref 54), none] [] SH g tt (0, 0) (pV SH res tt)
  unfold sp_Model_yearGoes at h
  refine w_aload_n (q := 1) d_Model_yearGoes_0 rfl rfl ?_
  refine w_dup (q := 2) d_Model_yearGoes_1 rfl rfl ?_
  refine w_get (q := 5) (ci := 12) (j := 24) d_Model_yearGoes_2 rfl (by decide) fl_Model_286 (by decide) (by decide) s_54 rfl rfl ?_
  refine w_iconst (q := 6) (v := 1) d_Model_yearGoes_5 rfl (by decide) ?_
  refine w_iadd (q := 7) d_Model_yearGoes_6 rfl ?_
  refine w_put (q := 10) (ci := 12) (j := 24) d_Model_yearGoes_7 rfl (by decide) fl_Model_286 (by decide) (by decide) s_54 rfl rfl rfl rfl rfl rfl ?_
  refine w_iconst (q := 11) (v := 0) d_Model_yearGoes_10 rfl (by decide) ?_
  refine w_istore_n (q := 12) (ls' := [some (.ref 54), some (.int 0)]) d_Model_yearGoes_11 rfl (by decide) rfl rfl ?_
  obtain ⟨x11, hx, h⟩ := bnd h
  refine w_ls (ls' := [some (.ref 54), some (.int 0)]) (And.intro rfl (And.intro rfl trivial)) ?_
  show PL_Model_yearGoes_12 γ tt g _ _ (0, (mset g 54 24 ((g 54 24) + 1)))
  refine lp_ok (kl_Model_yearGoes_12) F _ x11 hx ?_
  unfold QL_Model_yearGoes_12
  refine w_aload_n (q := 72) d_Model_yearGoes_71 rfl rfl ?_
  obtain ⟨v12, hv, h⟩ := bnd h
  refine w_callVi (q := 75) (M' := M_Model_loseFar) (n' := 3) (k := 54) (As := []) (sh' := SH) (b1 := (0, 0)) d_Model_yearGoes_72 rfl mw_Model_loseFar (by decide) (by decide) ml_Model_292 (by decide) s_54 (by decide) rfl rfl rfl (leb rfl) (bz _) (fun _ => rfl) (ok_Model_loseFar hv) ?_
  refine w_pop (q := 76) d_Model_yearGoes_75 rfl rfl ?_
  cases h
  exact w_return d_Model_yearGoes_76 rfl ⟨rfl, rfl, rfl, rfl⟩
def PL_Model_mothsEat_6 (γ : GG) (tt : Bool) (p0 : Int32) (p1 : Int32) (p2 : Int32) (g : Mem) (k1 : Int32) (k2 : Int32) (k3 : Int32) (b : Nat × Nat) (Φ : PO) (s : Int32 × Int32 × Mem) : Prop := WA γ M_Model_mothsEat 3 6 [some (.ref 54), some (.int k1), some (.int k2), some (.int k3), some (.int s.1), some (.int s.2.1)] [] SH s.2.2 tt b Φ
def QL_Model_mothsEat_6 (γ : GG) (tt : Bool) (p0 : Int32) (p1 : Int32) (p2 : Int32) (g : Mem) (k1 : Int32) (k2 : Int32) (k3 : Int32) (b : Nat × Nat) (Φ : PO) (x : (Int32 × Mem)) : Prop := WA γ M_Model_mothsEat 3 95 [none, none, none, none, some (.int x.1), none] [] SH x.2 tt b Φ
def st_Model_mothsEat_6 (F : Nat) (p0 : Int32) (p1 : Int32) (p2 : Int32) (g : Mem) (k1 : Int32) (k2 : Int32) (k3 : Int32) (s : Int32 × Int32 × Mem) : Option ((Int32 × Int32 × Mem) ⊕ ((Int32 × Mem))) := if (s.2.2 54 26) ≤ s.2.1 then some (.inr (s.1, s.2.2)) else (sp_Model_isThere s.2.1 s.2.2).bind fun v2 => if v2 = 0 then some (.inl (s.1, s.2.1 + 1, s.2.2)) else (sp_Model_of s.2.1 1 s.2.2).bind fun v4 => if v4 = k1 then (rd s.2.2 59 12 k1).bind fun v6 => if v6 = 3 then some (.inl (s.1, s.2.1 + 1, s.2.2)) else (sp_Model_of s.2.1 6 s.2.2).bind fun v8 => if v8 = 1 then some (.inl (s.1, s.2.1 + 1, s.2.2)) else (sp_Model_old s.2.1 s.2.2).bind fun v10 => if v10 < k2 then some (.inl (s.1, s.2.1 + 1, s.2.2)) else (sp_Model_old s.2.1 s.2.2).bind fun v12 => if v12 ≤ k3 then (sp_Model_lose s.2.1 s.2.2).bind fun v14 => some (.inl (s.1 + 1, s.2.1 + 1, v14)) else some (.inl (s.1, s.2.1 + 1, s.2.2)) else some (.inl (s.1, s.2.1 + 1, s.2.2))
theorem kl_Model_mothsEat_6 {γ : GG} {tt : Bool} {F : Nat} {p0 : Int32} {p1 : Int32} {p2 : Int32} {g : Mem} {k1 : Int32} {k2 : Int32} {k3 : Int32} {b : Nat × Nat} {Φ : PO} : ∀ (s : Int32 × Int32 × Mem) (r : (Int32 × Int32 × Mem) ⊕ ((Int32 × Mem))), st_Model_mothsEat_6 F p0 p1 p2 g k1 k2 k3 s = some r → RQ (PL_Model_mothsEat_6 γ tt p0 p1 p2 g k1 k2 k3 b Φ) (QL_Model_mothsEat_6 γ tt p0 p1 p2 g k1 k2 k3 b Φ) r → PL_Model_mothsEat_6 γ tt p0 p1 p2 g k1 k2 k3 b Φ s := by
  intro s r h hr
  unfold st_Model_mothsEat_6 at h
  unfold PL_Model_mothsEat_6
  refine w_iload (q := 8) d_Model_mothsEat_6 rfl rfl ?_
  refine w_aload_n (q := 9) d_Model_mothsEat_8 rfl rfl ?_
  refine w_get (q := 12) (ci := 12) (j := 26) d_Model_mothsEat_9 rfl (by decide) fl_Model_121 (by decide) (by decide) s_54 rfl rfl ?_
  by_cases c1 : (s.2.2 54 26) ≤ s.2.1
  · rw [if_pos c1] at h
    refine w_icmp_ge_t (q := 95) d_Model_mothsEat_12 rfl c1 ?_
    cases h
    exact w_ls (by exact (And.intro rfl trivial)) hr
  · rw [if_neg c1] at h
    refine w_icmp_ge_f (q := 15) d_Model_mothsEat_12 95 rfl rfl c1 ?_
    refine w_aload_n (q := 16) d_Model_mothsEat_15 rfl rfl ?_
    refine w_iload (q := 18) d_Model_mothsEat_16 rfl rfl ?_
    obtain ⟨v2, hv, h⟩ := bnd h
    refine w_callVi (q := 21) (M' := M_Model_isThere) (n' := 1) (k := 54) (As := [.int s.2.1]) (sh' := SH) (b1 := (0, 0)) d_Model_mothsEat_18 rfl mw_Model_isThere (by decide) (by decide) ml_Model_315 (by decide) s_54 (by decide) rfl rfl rfl (leb rfl) (bz _) (fun _ => rfl) (ok_Model_isThere hv) ?_
    by_cases c3 : v2 = 0
    · rw [if_pos c3] at h
      refine w_if_eq_t (q := 89) d_Model_mothsEat_21 rfl c3 ?_
      refine w_iinc (q := 92) (ls' := [some (.ref 54), some (.int k1), some (.int k2), some (.int k3), some (.int s.1), some (.int (s.2.1 + 1))]) d_Model_mothsEat_89 rfl (by decide) rfl rfl rfl ?_
      refine w_goto (q := 6) d_Model_mothsEat_92 rfl ?_
      cases h
      exact w_ls (by exact (And.intro rfl (And.intro rfl (And.intro rfl (And.intro rfl (And.intro rfl (And.intro rfl trivial))))))) hr
    · rw [if_neg c3] at h
      refine w_if_eq_f (q := 24) d_Model_mothsEat_21 89 rfl rfl c3 ?_
      refine w_aload_n (q := 25) d_Model_mothsEat_24 rfl rfl ?_
      refine w_iload (q := 27) d_Model_mothsEat_25 rfl rfl ?_
      refine w_iconst (q := 28) (v := 1) d_Model_mothsEat_27 rfl (by decide) ?_
      obtain ⟨v4, hv, h⟩ := bnd h
      refine w_callVi (q := 31) (M' := M_Model_of) (n' := 0) (k := 54) (As := [.int s.2.1, .int 1]) (sh' := SH) (b1 := (0, 0)) d_Model_mothsEat_28 rfl mw_Model_of (by decide) (by decide) ml_Model_305 (by decide) s_54 (by decide) rfl rfl rfl (leb rfl) (bz _) (fun _ => rfl) (ok_Model_of hv) ?_
      refine w_iload_n (q := 32) d_Model_mothsEat_31 rfl rfl ?_
      by_cases c5 : v4 = k1
      · rw [if_pos c5] at h
        refine w_icmp_ne_f (q := 35) d_Model_mothsEat_32 89 rfl rfl c5 ?_
        refine w_aload_n (q := 36) d_Model_mothsEat_35 rfl rfl ?_
        refine w_get (q := 39) (ci := 12) (j := 5) d_Model_mothsEat_36 rfl (by decide) fl_Model_55 (by decide) (by decide) s_54 rfl rfl ?_
        refine w_iload_n (q := 40) d_Model_mothsEat_39 rfl rfl ?_
        obtain ⟨v6, hv, h⟩ := bnd h
        obtain ⟨hi, hv⟩ := rd_ok hv
        refine w_iald (q := 41) (t := 0) d_Model_mothsEat_40 rfl a_59.2 a_59.1 hi rfl ?_
        rw [hv]
        refine w_iconst (q := 42) (v := 3) d_Model_mothsEat_41 rfl (by decide) ?_
        by_cases c7 : v6 = 3
        · rw [if_pos c7] at h
          refine w_icmp_eq_t (q := 89) d_Model_mothsEat_42 rfl c7 ?_
          refine w_iinc (q := 92) (ls' := [some (.ref 54), some (.int k1), some (.int k2), some (.int k3), some (.int s.1), some (.int (s.2.1 + 1))]) d_Model_mothsEat_89 rfl (by decide) rfl rfl rfl ?_
          refine w_goto (q := 6) d_Model_mothsEat_92 rfl ?_
          cases h
          exact w_ls (by exact (And.intro rfl (And.intro rfl (And.intro rfl (And.intro rfl (And.intro rfl (And.intro rfl trivial))))))) hr
        · rw [if_neg c7] at h
          refine w_icmp_eq_f (q := 45) d_Model_mothsEat_42 89 rfl rfl c7 ?_
          refine w_aload_n (q := 46) d_Model_mothsEat_45 rfl rfl ?_
          refine w_iload (q := 48) d_Model_mothsEat_46 rfl rfl ?_
          refine w_bipush (q := 50) (v := 6) d_Model_mothsEat_48 rfl (by decide) ?_
          obtain ⟨v8, hv, h⟩ := bnd h
          refine w_callVi (q := 53) (M' := M_Model_of) (n' := 0) (k := 54) (As := [.int s.2.1, .int 6]) (sh' := SH) (b1 := (0, 0)) d_Model_mothsEat_50 rfl mw_Model_of (by decide) (by decide) ml_Model_305 (by decide) s_54 (by decide) rfl rfl rfl (leb rfl) (bz _) (fun _ => rfl) (ok_Model_of hv) ?_
          refine w_iconst (q := 54) (v := 1) d_Model_mothsEat_53 rfl (by decide) ?_
          by_cases c9 : v8 = 1
          · rw [if_pos c9] at h
            refine w_icmp_eq_t (q := 89) d_Model_mothsEat_54 rfl c9 ?_
            refine w_iinc (q := 92) (ls' := [some (.ref 54), some (.int k1), some (.int k2), some (.int k3), some (.int s.1), some (.int (s.2.1 + 1))]) d_Model_mothsEat_89 rfl (by decide) rfl rfl rfl ?_
            refine w_goto (q := 6) d_Model_mothsEat_92 rfl ?_
            cases h
            exact w_ls (by exact (And.intro rfl (And.intro rfl (And.intro rfl (And.intro rfl (And.intro rfl (And.intro rfl trivial))))))) hr
          · rw [if_neg c9] at h
            refine w_icmp_eq_f (q := 57) d_Model_mothsEat_54 89 rfl rfl c9 ?_
            refine w_aload_n (q := 58) d_Model_mothsEat_57 rfl rfl ?_
            refine w_iload (q := 60) d_Model_mothsEat_58 rfl rfl ?_
            obtain ⟨v10, hv, h⟩ := bnd h
            refine w_callVi (q := 63) (M' := M_Model_old) (n' := 2) (k := 54) (As := [.int s.2.1]) (sh' := SH) (b1 := (0, 0)) d_Model_mothsEat_60 rfl mw_Model_old (by decide) (by decide) ml_Model_318 (by decide) s_54 (by decide) rfl rfl rfl (leb rfl) (bz _) (fun _ => rfl) (ok_Model_old hv) ?_
            refine w_iload_n (q := 64) d_Model_mothsEat_63 rfl rfl ?_
            by_cases c11 : v10 < k2
            · rw [if_pos c11] at h
              refine w_icmp_lt_t (q := 89) d_Model_mothsEat_64 rfl c11 ?_
              refine w_iinc (q := 92) (ls' := [some (.ref 54), some (.int k1), some (.int k2), some (.int k3), some (.int s.1), some (.int (s.2.1 + 1))]) d_Model_mothsEat_89 rfl (by decide) rfl rfl rfl ?_
              refine w_goto (q := 6) d_Model_mothsEat_92 rfl ?_
              cases h
              exact w_ls (by exact (And.intro rfl (And.intro rfl (And.intro rfl (And.intro rfl (And.intro rfl (And.intro rfl trivial))))))) hr
            · rw [if_neg c11] at h
              refine w_icmp_lt_f (q := 67) d_Model_mothsEat_64 89 rfl rfl c11 ?_
              refine w_aload_n (q := 68) d_Model_mothsEat_67 rfl rfl ?_
              refine w_iload (q := 70) d_Model_mothsEat_68 rfl rfl ?_
              obtain ⟨v12, hv, h⟩ := bnd h
              refine w_callVi (q := 73) (M' := M_Model_old) (n' := 2) (k := 54) (As := [.int s.2.1]) (sh' := SH) (b1 := (0, 0)) d_Model_mothsEat_70 rfl mw_Model_old (by decide) (by decide) ml_Model_318 (by decide) s_54 (by decide) rfl rfl rfl (leb rfl) (bz _) (fun _ => rfl) (ok_Model_old hv) ?_
              refine w_iload_n (q := 74) d_Model_mothsEat_73 rfl rfl ?_
              by_cases c13 : v12 ≤ k3
              · rw [if_pos c13] at h
                refine w_icmp_le_t (q := 80) d_Model_mothsEat_74 rfl c13 ?_
                refine w_aload_n (q := 81) d_Model_mothsEat_80 rfl rfl ?_
                refine w_iload (q := 83) d_Model_mothsEat_81 rfl rfl ?_
                obtain ⟨v14, hv, h⟩ := bnd h
                refine w_callVv (q := 86) (M' := M_Model_lose) (n' := 0) (k := 54) (As := [.int s.2.1]) (sh' := SH) (b1 := (0, 0)) d_Model_mothsEat_83 rfl mw_Model_lose (by decide) (by decide) ml_Model_320 (by decide) s_54 (by decide) rfl rfl rfl (leb rfl) (bz _) (fun _ => rfl) (ok_Model_lose hv) ?_
                refine w_iinc (q := 89) (ls' := [some (.ref 54), some (.int k1), some (.int k2), some (.int k3), some (.int (s.1 + 1)), some (.int s.2.1)]) d_Model_mothsEat_86 rfl (by decide) rfl rfl rfl ?_
                refine w_iinc (q := 92) (ls' := [some (.ref 54), some (.int k1), some (.int k2), some (.int k3), some (.int (s.1 + 1)), some (.int (s.2.1 + 1))]) d_Model_mothsEat_89 rfl (by decide) rfl rfl rfl ?_
                refine w_goto (q := 6) d_Model_mothsEat_92 rfl ?_
                cases h
                exact w_ls (by exact (And.intro rfl (And.intro rfl (And.intro rfl (And.intro rfl (And.intro rfl (And.intro rfl trivial))))))) hr
              · rw [if_neg c13] at h
                refine w_icmp_le_f (q := 77) d_Model_mothsEat_74 80 rfl rfl c13 ?_
                refine w_goto (q := 89) d_Model_mothsEat_77 rfl ?_
                refine w_iinc (q := 92) (ls' := [some (.ref 54), some (.int k1), some (.int k2), some (.int k3), some (.int s.1), some (.int (s.2.1 + 1))]) d_Model_mothsEat_89 rfl (by decide) rfl rfl rfl ?_
                refine w_goto (q := 6) d_Model_mothsEat_92 rfl ?_
                cases h
                exact w_ls (by exact (And.intro rfl (And.intro rfl (And.intro rfl (And.intro rfl (And.intro rfl (And.intro rfl trivial))))))) hr
      · rw [if_neg c5] at h
        refine w_icmp_ne_t (q := 89) d_Model_mothsEat_32 rfl c5 ?_
        refine w_iinc (q := 92) (ls' := [some (.ref 54), some (.int k1), some (.int k2), some (.int k3), some (.int s.1), some (.int (s.2.1 + 1))]) d_Model_mothsEat_89 rfl (by decide) rfl rfl rfl ?_
        refine w_goto (q := 6) d_Model_mothsEat_92 rfl ?_
        cases h
        exact w_ls (by exact (And.intro rfl (And.intro rfl (And.intro rfl (And.intro rfl (And.intro rfl (And.intro rfl trivial))))))) hr
def sp_Model_mothsEat (F : Nat) (p0 : Int32) (p1 : Int32) (p2 : Int32) (g : Mem) : Option (Int32 × Mem) := (lpO (st_Model_mothsEat_6 F p0 p1 p2 g p0 p1 p2) F (0, 0, g)).bind fun x15 => some (x15.1, x15.2)
theorem ok_Model_mothsEat {γ : GG} {tt : Bool} {F : Nat} {p0 : Int32} {p1 : Int32} {p2 : Int32} {g : Mem} {res : Int32 × Mem} (h : sp_Model_mothsEat F p0 p1 p2 g = some res) : CA γ M_Model_mothsEat 3 [.ref 54, .int p0, .int p1, .int p2] SH g tt (0, 0) (pI SH res.1 res.2 tt) := by
  refine CA.of mw_Model_mothsEat.1 2 rfl ?_
  show WA γ M_Model_mothsEat 3 0 [some (.ref 54), some (.int p0), some (.int p1), some (.int p2), none, none] [] SH g tt (0, 0) (pI SH res.1 res.2 tt)
  unfold sp_Model_mothsEat at h
  refine w_iconst (q := 1) (v := 0) d_Model_mothsEat_0 rfl (by decide) ?_
  refine w_istore (q := 3) (ls' := [some (.ref 54), some (.int p0), some (.int p1), some (.int p2), some (.int 0), none]) d_Model_mothsEat_1 rfl (by decide) rfl rfl ?_
  refine w_iconst (q := 4) (v := 0) d_Model_mothsEat_3 rfl (by decide) ?_
  refine w_istore (q := 6) (ls' := [some (.ref 54), some (.int p0), some (.int p1), some (.int p2), some (.int 0), some (.int 0)]) d_Model_mothsEat_4 rfl (by decide) rfl rfl ?_
  obtain ⟨x15, hx, h⟩ := bnd h
  refine w_ls (ls' := [some (.ref 54), some (.int p0), some (.int p1), some (.int p2), some (.int 0), some (.int 0)]) (And.intro rfl (And.intro rfl (And.intro rfl (And.intro rfl (And.intro rfl (And.intro rfl trivial)))))) ?_
  show PL_Model_mothsEat_6 γ tt p0 p1 p2 g p0 p1 p2 _ _ (0, 0, g)
  refine lp_ok (kl_Model_mothsEat_6) F _ x15 hx ?_
  unfold QL_Model_mothsEat_6
  refine w_iload (q := 97) d_Model_mothsEat_95 rfl rfl ?_
  cases h
  exact w_ireturn d_Model_mothsEat_97 rfl rfl ⟨rfl, rfl, rfl, rfl⟩
def PL_Model_holdersOf_4 (γ : GG) (tt : Bool) (p0 : Int32) (g : Mem) (k1 : Int32) (b : Nat × Nat) (Φ : PO) (s : Int32 × Int32) : Prop := WA γ M_Model_holdersOf 2 4 [some (.ref 54), some (.int k1), some (.int s.1), some (.int s.2)] [] SH g tt b Φ
def QL_Model_holdersOf_4 (γ : GG) (tt : Bool) (p0 : Int32) (g : Mem) (k1 : Int32) (b : Nat × Nat) (Φ : PO) (x : (Int32)) : Prop := WA γ M_Model_holdersOf 2 48 [none, none, some (.int x), none] [] SH g tt b Φ
def st_Model_holdersOf_4 (F : Nat) (p0 : Int32) (g : Mem) (k1 : Int32) (s : Int32 × Int32) : Option ((Int32 × Int32) ⊕ ((Int32))) := if (g 54 26) ≤ s.2 then some (.inr s.1) else (sp_Model_isThere s.2 g).bind fun v2 => if v2 = 0 then some (.inl (s.1, s.2 + 1)) else (sp_Model_of s.2 7 g).bind fun v4 => if v4 = k1 then (sp_Model_of s.2 1 g).bind fun v6 => some (.inl (s.1 ||| (1 <<< (v6 &&& 31)), s.2 + 1)) else some (.inl (s.1, s.2 + 1))
theorem kl_Model_holdersOf_4 {γ : GG} {tt : Bool} {F : Nat} {p0 : Int32} {g : Mem} {k1 : Int32} {b : Nat × Nat} {Φ : PO} : ∀ (s : Int32 × Int32) (r : (Int32 × Int32) ⊕ ((Int32))), st_Model_holdersOf_4 F p0 g k1 s = some r → RQ (PL_Model_holdersOf_4 γ tt p0 g k1 b Φ) (QL_Model_holdersOf_4 γ tt p0 g k1 b Φ) r → PL_Model_holdersOf_4 γ tt p0 g k1 b Φ s := by
  intro s r h hr
  unfold st_Model_holdersOf_4 at h
  unfold PL_Model_holdersOf_4
  refine w_iload_n (q := 5) d_Model_holdersOf_4 rfl rfl ?_
  refine w_aload_n (q := 6) d_Model_holdersOf_5 rfl rfl ?_
  refine w_get (q := 9) (ci := 12) (j := 26) d_Model_holdersOf_6 rfl (by decide) fl_Model_121 (by decide) (by decide) s_54 rfl rfl ?_
  by_cases c1 : (g 54 26) ≤ s.2
  · rw [if_pos c1] at h
    refine w_icmp_ge_t (q := 48) d_Model_holdersOf_9 rfl c1 ?_
    cases h
    exact w_ls (by exact (And.intro rfl trivial)) hr
  · rw [if_neg c1] at h
    refine w_icmp_ge_f (q := 12) d_Model_holdersOf_9 48 rfl rfl c1 ?_
    refine w_aload_n (q := 13) d_Model_holdersOf_12 rfl rfl ?_
    refine w_iload_n (q := 14) d_Model_holdersOf_13 rfl rfl ?_
    obtain ⟨v2, hv, h⟩ := bnd h
    refine w_callVi (q := 17) (M' := M_Model_isThere) (n' := 1) (k := 54) (As := [.int s.2]) (sh' := SH) (b1 := (0, 0)) d_Model_holdersOf_14 rfl mw_Model_isThere (by decide) (by decide) ml_Model_315 (by decide) s_54 (by decide) rfl rfl rfl (leb rfl) (bz _) (fun _ => rfl) (ok_Model_isThere hv) ?_
    by_cases c3 : v2 = 0
    · rw [if_pos c3] at h
      refine w_if_eq_t (q := 42) d_Model_holdersOf_17 rfl c3 ?_
      refine w_iinc (q := 45) (ls' := [some (.ref 54), some (.int k1), some (.int s.1), some (.int (s.2 + 1))]) d_Model_holdersOf_42 rfl (by decide) rfl rfl rfl ?_
      refine w_goto (q := 4) d_Model_holdersOf_45 rfl ?_
      cases h
      exact w_ls (by exact (And.intro rfl (And.intro rfl (And.intro rfl (And.intro rfl trivial))))) hr
    · rw [if_neg c3] at h
      refine w_if_eq_f (q := 20) d_Model_holdersOf_17 42 rfl rfl c3 ?_
      refine w_aload_n (q := 21) d_Model_holdersOf_20 rfl rfl ?_
      refine w_iload_n (q := 22) d_Model_holdersOf_21 rfl rfl ?_
      refine w_bipush (q := 24) (v := 7) d_Model_holdersOf_22 rfl (by decide) ?_
      obtain ⟨v4, hv, h⟩ := bnd h
      refine w_callVi (q := 27) (M' := M_Model_of) (n' := 0) (k := 54) (As := [.int s.2, .int 7]) (sh' := SH) (b1 := (0, 0)) d_Model_holdersOf_24 rfl mw_Model_of (by decide) (by decide) ml_Model_305 (by decide) s_54 (by decide) rfl rfl rfl (leb rfl) (bz _) (fun _ => rfl) (ok_Model_of hv) ?_
      refine w_iload_n (q := 28) d_Model_holdersOf_27 rfl rfl ?_
      by_cases c5 : v4 = k1
      · rw [if_pos c5] at h
        refine w_icmp_ne_f (q := 31) d_Model_holdersOf_28 42 rfl rfl c5 ?_
        refine w_iload_n (q := 32) d_Model_holdersOf_31 rfl rfl ?_
        refine w_iconst (q := 33) (v := 1) d_Model_holdersOf_32 rfl (by decide) ?_
        refine w_aload_n (q := 34) d_Model_holdersOf_33 rfl rfl ?_
        refine w_iload_n (q := 35) d_Model_holdersOf_34 rfl rfl ?_
        refine w_iconst (q := 36) (v := 1) d_Model_holdersOf_35 rfl (by decide) ?_
        obtain ⟨v6, hv, h⟩ := bnd h
        refine w_callVi (q := 39) (M' := M_Model_of) (n' := 0) (k := 54) (As := [.int s.2, .int 1]) (sh' := SH) (b1 := (0, 0)) d_Model_holdersOf_36 rfl mw_Model_of (by decide) (by decide) ml_Model_305 (by decide) s_54 (by decide) rfl rfl rfl (leb rfl) (bz _) (fun _ => rfl) (ok_Model_of hv) ?_
        refine w_ishl (q := 40) d_Model_holdersOf_39 rfl ?_
        refine w_ior (q := 41) d_Model_holdersOf_40 rfl ?_
        refine w_istore_n (q := 42) (ls' := [some (.ref 54), some (.int k1), some (.int (s.1 ||| (1 <<< (v6 &&& 31)))), some (.int s.2)]) d_Model_holdersOf_41 rfl (by decide) rfl rfl ?_
        refine w_iinc (q := 45) (ls' := [some (.ref 54), some (.int k1), some (.int (s.1 ||| (1 <<< (v6 &&& 31)))), some (.int (s.2 + 1))]) d_Model_holdersOf_42 rfl (by decide) rfl rfl rfl ?_
        refine w_goto (q := 4) d_Model_holdersOf_45 rfl ?_
        cases h
        exact w_ls (by exact (And.intro rfl (And.intro rfl (And.intro rfl (And.intro rfl trivial))))) hr
      · rw [if_neg c5] at h
        refine w_icmp_ne_t (q := 42) d_Model_holdersOf_28 rfl c5 ?_
        refine w_iinc (q := 45) (ls' := [some (.ref 54), some (.int k1), some (.int s.1), some (.int (s.2 + 1))]) d_Model_holdersOf_42 rfl (by decide) rfl rfl rfl ?_
        refine w_goto (q := 4) d_Model_holdersOf_45 rfl ?_
        cases h
        exact w_ls (by exact (And.intro rfl (And.intro rfl (And.intro rfl (And.intro rfl trivial))))) hr
def sp_Model_holdersOf (F : Nat) (p0 : Int32) (g : Mem) : Option (Int32) := (lpO (st_Model_holdersOf_4 F p0 g p0) F (0, 0)).bind fun x7 => some x7
theorem ok_Model_holdersOf {γ : GG} {tt : Bool} {F : Nat} {p0 : Int32} {g : Mem} {res : Int32} (h : sp_Model_holdersOf F p0 g = some res) : CA γ M_Model_holdersOf 2 [.ref 54, .int p0] SH g tt (0, 0) (pI SH res g tt) := by
  refine CA.of mw_Model_holdersOf.1 2 rfl ?_
  show WA γ M_Model_holdersOf 2 0 [some (.ref 54), some (.int p0), none, none] [] SH g tt (0, 0) (pI SH res g tt)
  unfold sp_Model_holdersOf at h
  refine w_iconst (q := 1) (v := 0) d_Model_holdersOf_0 rfl (by decide) ?_
  refine w_istore_n (q := 2) (ls' := [some (.ref 54), some (.int p0), some (.int 0), none]) d_Model_holdersOf_1 rfl (by decide) rfl rfl ?_
  refine w_iconst (q := 3) (v := 0) d_Model_holdersOf_2 rfl (by decide) ?_
  refine w_istore_n (q := 4) (ls' := [some (.ref 54), some (.int p0), some (.int 0), some (.int 0)]) d_Model_holdersOf_3 rfl (by decide) rfl rfl ?_
  obtain ⟨x7, hx, h⟩ := bnd h
  refine w_ls (ls' := [some (.ref 54), some (.int p0), some (.int 0), some (.int 0)]) (And.intro rfl (And.intro rfl (And.intro rfl (And.intro rfl trivial)))) ?_
  show PL_Model_holdersOf_4 γ tt p0 g p0 _ _ (0, 0)
  refine lp_ok (kl_Model_holdersOf_4) F _ x7 hx ?_
  unfold QL_Model_holdersOf_4
  refine w_iload_n (q := 49) d_Model_holdersOf_48 rfl rfl ?_
  cases h
  exact w_ireturn d_Model_holdersOf_49 rfl rfl ⟨rfl, rfl, rfl, rfl⟩
def PL_Model_records_4 (γ : GG) (tt : Bool) (g : Mem) (b : Nat × Nat) (Φ : PO) (s : Int32 × Int32) : Prop := WA γ M_Model_records 2 4 [some (.ref 54), some (.int s.1), some (.int s.2)] [] SH g tt b Φ
def QL_Model_records_4 (γ : GG) (tt : Bool) (g : Mem) (b : Nat × Nat) (Φ : PO) (x : (Int32)) : Prop := WA γ M_Model_records 2 38 [none, some (.int x), none] [] SH g tt b Φ
def st_Model_records_4 (F : Nat) (g : Mem) (s : Int32 × Int32) : Option ((Int32 × Int32) ⊕ ((Int32))) := if (g 54 26) ≤ s.2 then some (.inr s.1) else (sp_Model_isThere s.2 g).bind fun v2 => if v2 = 0 then some (.inl (s.1, s.2 + 1)) else (sp_Model_of s.2 7 g).bind fun v4 => some (.inl (s.1 ||| (1 <<< (v4 &&& 31)), s.2 + 1))
theorem kl_Model_records_4 {γ : GG} {tt : Bool} {F : Nat} {g : Mem} {b : Nat × Nat} {Φ : PO} : ∀ (s : Int32 × Int32) (r : (Int32 × Int32) ⊕ ((Int32))), st_Model_records_4 F g s = some r → RQ (PL_Model_records_4 γ tt g b Φ) (QL_Model_records_4 γ tt g b Φ) r → PL_Model_records_4 γ tt g b Φ s := by
  intro s r h hr
  unfold st_Model_records_4 at h
  unfold PL_Model_records_4
  refine w_iload_n (q := 5) d_Model_records_4 rfl rfl ?_
  refine w_aload_n (q := 6) d_Model_records_5 rfl rfl ?_
  refine w_get (q := 9) (ci := 12) (j := 26) d_Model_records_6 rfl (by decide) fl_Model_121 (by decide) (by decide) s_54 rfl rfl ?_
  by_cases c1 : (g 54 26) ≤ s.2
  · rw [if_pos c1] at h
    refine w_icmp_ge_t (q := 38) d_Model_records_9 rfl c1 ?_
    cases h
    exact w_ls (by exact (And.intro rfl trivial)) hr
  · rw [if_neg c1] at h
    refine w_icmp_ge_f (q := 12) d_Model_records_9 38 rfl rfl c1 ?_
    refine w_aload_n (q := 13) d_Model_records_12 rfl rfl ?_
    refine w_iload_n (q := 14) d_Model_records_13 rfl rfl ?_
    obtain ⟨v2, hv, h⟩ := bnd h
    refine w_callVi (q := 17) (M' := M_Model_isThere) (n' := 1) (k := 54) (As := [.int s.2]) (sh' := SH) (b1 := (0, 0)) d_Model_records_14 rfl mw_Model_isThere (by decide) (by decide) ml_Model_315 (by decide) s_54 (by decide) rfl rfl rfl (leb rfl) (bz _) (fun _ => rfl) (ok_Model_isThere hv) ?_
    by_cases c3 : v2 = 0
    · rw [if_pos c3] at h
      refine w_if_eq_t (q := 32) d_Model_records_17 rfl c3 ?_
      refine w_iinc (q := 35) (ls' := [some (.ref 54), some (.int s.1), some (.int (s.2 + 1))]) d_Model_records_32 rfl (by decide) rfl rfl rfl ?_
      refine w_goto (q := 4) d_Model_records_35 rfl ?_
      cases h
      exact w_ls (by exact (And.intro rfl (And.intro rfl (And.intro rfl trivial)))) hr
    · rw [if_neg c3] at h
      refine w_if_eq_f (q := 20) d_Model_records_17 32 rfl rfl c3 ?_
      refine w_iload_n (q := 21) d_Model_records_20 rfl rfl ?_
      refine w_iconst (q := 22) (v := 1) d_Model_records_21 rfl (by decide) ?_
      refine w_aload_n (q := 23) d_Model_records_22 rfl rfl ?_
      refine w_iload_n (q := 24) d_Model_records_23 rfl rfl ?_
      refine w_bipush (q := 26) (v := 7) d_Model_records_24 rfl (by decide) ?_
      obtain ⟨v4, hv, h⟩ := bnd h
      refine w_callVi (q := 29) (M' := M_Model_of) (n' := 0) (k := 54) (As := [.int s.2, .int 7]) (sh' := SH) (b1 := (0, 0)) d_Model_records_26 rfl mw_Model_of (by decide) (by decide) ml_Model_305 (by decide) s_54 (by decide) rfl rfl rfl (leb rfl) (bz _) (fun _ => rfl) (ok_Model_of hv) ?_
      refine w_ishl (q := 30) d_Model_records_29 rfl ?_
      refine w_ior (q := 31) d_Model_records_30 rfl ?_
      refine w_istore_n (q := 32) (ls' := [some (.ref 54), some (.int (s.1 ||| (1 <<< (v4 &&& 31)))), some (.int s.2)]) d_Model_records_31 rfl (by decide) rfl rfl ?_
      refine w_iinc (q := 35) (ls' := [some (.ref 54), some (.int (s.1 ||| (1 <<< (v4 &&& 31)))), some (.int (s.2 + 1))]) d_Model_records_32 rfl (by decide) rfl rfl rfl ?_
      refine w_goto (q := 4) d_Model_records_35 rfl ?_
      cases h
      exact w_ls (by exact (And.intro rfl (And.intro rfl (And.intro rfl trivial)))) hr
def sp_Model_records (F : Nat) (g : Mem) : Option (Int32) := (lpO (st_Model_records_4 F g) F (0, 0)).bind fun x5 => some x5
theorem ok_Model_records {γ : GG} {tt : Bool} {F : Nat} {g : Mem} {res : Int32} (h : sp_Model_records F g = some res) : CA γ M_Model_records 2 [.ref 54] SH g tt (0, 0) (pI SH res g tt) := by
  refine CA.of mw_Model_records.1 2 rfl ?_
  show WA γ M_Model_records 2 0 [some (.ref 54), none, none] [] SH g tt (0, 0) (pI SH res g tt)
  unfold sp_Model_records at h
  refine w_iconst (q := 1) (v := 0) d_Model_records_0 rfl (by decide) ?_
  refine w_istore_n (q := 2) (ls' := [some (.ref 54), some (.int 0), none]) d_Model_records_1 rfl (by decide) rfl rfl ?_
  refine w_iconst (q := 3) (v := 0) d_Model_records_2 rfl (by decide) ?_
  refine w_istore_n (q := 4) (ls' := [some (.ref 54), some (.int 0), some (.int 0)]) d_Model_records_3 rfl (by decide) rfl rfl ?_
  obtain ⟨x5, hx, h⟩ := bnd h
  refine w_ls (ls' := [some (.ref 54), some (.int 0), some (.int 0)]) (And.intro rfl (And.intro rfl (And.intro rfl trivial))) ?_
  show PL_Model_records_4 γ tt g _ _ (0, 0)
  refine lp_ok (kl_Model_records_4) F _ x5 hx ?_
  unfold QL_Model_records_4
  refine w_iload_n (q := 39) d_Model_records_38 rfl rfl ?_
  cases h
  exact w_ireturn d_Model_records_39 rfl rfl ⟨rfl, rfl, rfl, rfl⟩
def PL_Model_bitsOf_4 (γ : GG) (sh : List Sh) (tt : Bool) (p0 : Int32) (g : Mem) (b : Nat × Nat) (Φ : PO) (s : Int32 × Int32) : Prop := WA γ M_Model_bitsOf 0 4 [none, some (.int s.1), some (.int s.2)] [] sh g tt b Φ
def QL_Model_bitsOf_4 (γ : GG) (sh : List Sh) (tt : Bool) (p0 : Int32) (g : Mem) (b : Nat × Nat) (Φ : PO) (x : (Int32)) : Prop := WA γ M_Model_bitsOf 0 20 [none, some (.int x), none] [] sh g tt b Φ
def st_Model_bitsOf_4 (F : Nat) (p0 : Int32) (g : Mem) (s : Int32 × Int32) : Option ((Int32 × Int32) ⊕ ((Int32))) := if s.2 = 0 then some (.inr s.1) else some (.inl (s.1 + 1, s.2 &&& (s.2 - 1)))
theorem kl_Model_bitsOf_4 {γ : GG} {sh : List Sh} {tt : Bool} {F : Nat} {p0 : Int32} {g : Mem} {b : Nat × Nat} {Φ : PO} : ∀ (s : Int32 × Int32) (r : (Int32 × Int32) ⊕ ((Int32))), st_Model_bitsOf_4 F p0 g s = some r → RQ (PL_Model_bitsOf_4 γ sh tt p0 g b Φ) (QL_Model_bitsOf_4 γ sh tt p0 g b Φ) r → PL_Model_bitsOf_4 γ sh tt p0 g b Φ s := by
  intro s r h hr
  unfold st_Model_bitsOf_4 at h
  unfold PL_Model_bitsOf_4
  refine w_iload_n (q := 5) d_Model_bitsOf_4 rfl rfl ?_
  by_cases c1 : s.2 = 0
  · rw [if_pos c1] at h
    refine w_if_eq_t (q := 20) d_Model_bitsOf_5 rfl c1 ?_
    cases h
    exact w_ls (by exact (And.intro rfl trivial)) hr
  · rw [if_neg c1] at h
    refine w_if_eq_f (q := 8) d_Model_bitsOf_5 20 rfl rfl c1 ?_
    refine w_iinc (q := 11) (ls' := [none, some (.int (s.1 + 1)), some (.int s.2)]) d_Model_bitsOf_8 rfl (by decide) rfl rfl rfl ?_
    refine w_iload_n (q := 12) d_Model_bitsOf_11 rfl rfl ?_
    refine w_iload_n (q := 13) d_Model_bitsOf_12 rfl rfl ?_
    refine w_iconst (q := 14) (v := 1) d_Model_bitsOf_13 rfl (by decide) ?_
    refine w_isub (q := 15) d_Model_bitsOf_14 rfl ?_
    refine w_iand (q := 16) d_Model_bitsOf_15 rfl ?_
    refine w_istore_n (q := 17) (ls' := [none, some (.int (s.1 + 1)), some (.int (s.2 &&& (s.2 - 1)))]) d_Model_bitsOf_16 rfl (by decide) rfl rfl ?_
    refine w_goto (q := 4) d_Model_bitsOf_17 rfl ?_
    cases h
    exact w_ls (by exact (And.intro rfl (And.intro rfl trivial))) hr
def sp_Model_bitsOf (F : Nat) (p0 : Int32) (g : Mem) : Option (Int32) := (lpO (st_Model_bitsOf_4 F p0 g) F (0, p0)).bind fun x2 => some x2
theorem ok_Model_bitsOf {γ : GG} {sh : List Sh} {tt : Bool} {F : Nat} {p0 : Int32} {g : Mem} {res : Int32} (h : sp_Model_bitsOf F p0 g = some res) : CA γ M_Model_bitsOf 0 [.int p0] sh g tt (0, 0) (pI sh res g tt) := by
  refine CA.of mw_Model_bitsOf.1 2 rfl ?_
  show WA γ M_Model_bitsOf 0 0 [some (.int p0), none, none] [] sh g tt (0, 0) (pI sh res g tt)
  unfold sp_Model_bitsOf at h
  refine w_iconst (q := 1) (v := 0) d_Model_bitsOf_0 rfl (by decide) ?_
  refine w_istore_n (q := 2) (ls' := [some (.int p0), some (.int 0), none]) d_Model_bitsOf_1 rfl (by decide) rfl rfl ?_
  refine w_iload_n (q := 3) d_Model_bitsOf_2 rfl rfl ?_
  refine w_istore_n (q := 4) (ls' := [some (.int p0), some (.int 0), some (.int p0)]) d_Model_bitsOf_3 rfl (by decide) rfl rfl ?_
  obtain ⟨x2, hx, h⟩ := bnd h
  refine w_ls (ls' := [none, some (.int 0), some (.int p0)]) (And.intro rfl (And.intro rfl trivial)) ?_
  show PL_Model_bitsOf_4 γ sh tt p0 g _ _ (0, p0)
  refine lp_ok (kl_Model_bitsOf_4) F _ x2 hx ?_
  unfold QL_Model_bitsOf_4
  refine w_iload_n (q := 21) d_Model_bitsOf_20 rfl rfl ?_
  cases h
  exact w_ireturn d_Model_bitsOf_21 rfl rfl ⟨rfl, rfl, rfl, rfl⟩
def sp_Model_ageOf (p0 : Int32) (g : Mem) : Option (Int32) := (rd g 60 12 p0).bind fun v1 => (sp_Model_yearOf p0 g).bind fun v2 => some (v1 + v2)
theorem ok_Model_ageOf {γ : GG} {tt : Bool} {p0 : Int32} {g : Mem} {res : Int32} (h : sp_Model_ageOf p0 g = some res) : CA γ M_Model_ageOf 2 [.ref 54, .int p0] SH g tt (0, 0) (pI SH res g tt) := by
  refine CA.of mw_Model_ageOf.1 0 rfl ?_
  show WA γ M_Model_ageOf 2 0 [some (.ref 54), some (.int p0)] [] SH g tt (0, 0) (pI SH res g tt)
  unfold sp_Model_ageOf at h
  refine w_aload_n (q := 1) d_Model_ageOf_0 rfl rfl ?_
  refine w_get (q := 4) (ci := 12) (j := 6) d_Model_ageOf_1 rfl (by decide) fl_Model_57 (by decide) (by decide) s_54 rfl rfl ?_
  refine w_iload_n (q := 5) d_Model_ageOf_4 rfl rfl ?_
  obtain ⟨v1, hv, h⟩ := bnd h
  obtain ⟨hi, hv⟩ := rd_ok hv
  refine w_iald (q := 6) (t := 0) d_Model_ageOf_5 rfl a_60.2 a_60.1 hi rfl ?_
  rw [hv]
  refine w_aload_n (q := 7) d_Model_ageOf_6 rfl rfl ?_
  refine w_iload_n (q := 8) d_Model_ageOf_7 rfl rfl ?_
  obtain ⟨v2, hv, h⟩ := bnd h
  refine w_callVi (q := 11) (M' := M_Model_yearOf) (n' := 1) (k := 54) (As := [.int p0]) (sh' := SH) (b1 := (0, 0)) d_Model_ageOf_8 rfl mw_Model_yearOf (by decide) (by decide) ml_Model_312 (by decide) s_54 (by decide) rfl rfl rfl (leb rfl) (bz _) (fun _ => rfl) (ok_Model_yearOf hv) ?_
  refine w_iadd (q := 12) d_Model_ageOf_11 rfl ?_
  cases h
  exact w_ireturn d_Model_ageOf_12 rfl rfl ⟨rfl, rfl, rfl, rfl⟩
def sp_Model_isGrey (p0 : Int32) (g : Mem) : Option (Int32) := (sp_Model_ageOf p0 g).bind fun v1 => (rd g 58 12 2).bind fun v2 => if v1 < v2 then some 0 else some 1
theorem ok_Model_isGrey {γ : GG} {tt : Bool} {p0 : Int32} {g : Mem} {res : Int32} (h : sp_Model_isGrey p0 g = some res) : CA γ M_Model_isGrey 3 [.ref 54, .int p0] SH g tt (0, 0) (pI SH res g tt) := by
  refine CA.of mw_Model_isGrey.1 0 rfl ?_
  show WA γ M_Model_isGrey 3 0 [some (.ref 54), some (.int p0)] [] SH g tt (0, 0) (pI SH res g tt)
  unfold sp_Model_isGrey at h
  refine w_aload_n (q := 1) d_Model_isGrey_0 rfl rfl ?_
  refine w_iload_n (q := 2) d_Model_isGrey_1 rfl rfl ?_
  obtain ⟨v1, hv, h⟩ := bnd h
  refine w_callVi (q := 5) (M' := M_Model_ageOf) (n' := 2) (k := 54) (As := [.int p0]) (sh' := SH) (b1 := (0, 0)) d_Model_isGrey_2 rfl mw_Model_ageOf (by decide) (by decide) ml_Model_323 (by decide) s_54 (by decide) rfl rfl rfl (leb rfl) (bz _) (fun _ => rfl) (ok_Model_ageOf hv) ?_
  refine w_aload_n (q := 6) d_Model_isGrey_5 rfl rfl ?_
  refine w_get (q := 9) (ci := 12) (j := 4) d_Model_isGrey_6 rfl (by decide) fl_Model_51 (by decide) (by decide) s_54 rfl rfl ?_
  refine w_iconst (q := 10) (v := 2) d_Model_isGrey_9 rfl (by decide) ?_
  obtain ⟨v2, hv, h⟩ := bnd h
  obtain ⟨hi, hv⟩ := rd_ok hv
  refine w_iald (q := 11) (t := 0) d_Model_isGrey_10 rfl a_58.2 a_58.1 hi rfl ?_
  rw [hv]
  by_cases c3 : v1 < v2
  · rw [if_pos c3] at h
    refine w_icmp_lt_t (q := 18) d_Model_isGrey_11 rfl c3 ?_
    refine w_iconst (q := 19) (v := 0) d_Model_isGrey_18 rfl (by decide) ?_
    cases h
    exact w_ireturn d_Model_isGrey_19 rfl rfl ⟨rfl, rfl, rfl, rfl⟩
  · rw [if_neg c3] at h
    refine w_icmp_lt_f (q := 14) d_Model_isGrey_11 18 rfl rfl c3 ?_
    refine w_iconst (q := 15) (v := 1) d_Model_isGrey_14 rfl (by decide) ?_
    refine w_goto (q := 19) d_Model_isGrey_15 rfl ?_
    cases h
    exact w_ireturn d_Model_isGrey_19 rfl rfl ⟨rfl, rfl, rfl, rfl⟩
def PL_Model_thereMany_4 (γ : GG) (tt : Bool) (g : Mem) (b : Nat × Nat) (Φ : PO) (s : Int32 × Int32) : Prop := WA γ M_Model_thereMany 2 4 [some (.ref 54), some (.int s.1), some (.int s.2)] [] SH g tt b Φ
def QL_Model_thereMany_4 (γ : GG) (tt : Bool) (g : Mem) (b : Nat × Nat) (Φ : PO) (x : (Int32)) : Prop := WA γ M_Model_thereMany 2 34 [none, some (.int x), none] [] SH g tt b Φ
def st_Model_thereMany_4 (F : Nat) (g : Mem) (s : Int32 × Int32) : Option ((Int32 × Int32) ⊕ ((Int32))) := if (g 54 26) ≤ s.2 then some (.inr s.1) else (sp_Model_isThere s.2 g).bind fun v2 => if v2 = 0 then some (.inl (s.1 + 0, s.2 + 1)) else some (.inl (s.1 + 1, s.2 + 1))
theorem kl_Model_thereMany_4 {γ : GG} {tt : Bool} {F : Nat} {g : Mem} {b : Nat × Nat} {Φ : PO} : ∀ (s : Int32 × Int32) (r : (Int32 × Int32) ⊕ ((Int32))), st_Model_thereMany_4 F g s = some r → RQ (PL_Model_thereMany_4 γ tt g b Φ) (QL_Model_thereMany_4 γ tt g b Φ) r → PL_Model_thereMany_4 γ tt g b Φ s := by
  intro s r h hr
  unfold st_Model_thereMany_4 at h
  unfold PL_Model_thereMany_4
  refine w_iload_n (q := 5) d_Model_thereMany_4 rfl rfl ?_
  refine w_aload_n (q := 6) d_Model_thereMany_5 rfl rfl ?_
  refine w_get (q := 9) (ci := 12) (j := 26) d_Model_thereMany_6 rfl (by decide) fl_Model_121 (by decide) (by decide) s_54 rfl rfl ?_
  by_cases c1 : (g 54 26) ≤ s.2
  · rw [if_pos c1] at h
    refine w_icmp_ge_t (q := 34) d_Model_thereMany_9 rfl c1 ?_
    cases h
    exact w_ls (by exact (And.intro rfl trivial)) hr
  · rw [if_neg c1] at h
    refine w_icmp_ge_f (q := 12) d_Model_thereMany_9 34 rfl rfl c1 ?_
    refine w_iload_n (q := 13) d_Model_thereMany_12 rfl rfl ?_
    refine w_aload_n (q := 14) d_Model_thereMany_13 rfl rfl ?_
    refine w_iload_n (q := 15) d_Model_thereMany_14 rfl rfl ?_
    obtain ⟨v2, hv, h⟩ := bnd h
    refine w_callVi (q := 18) (M' := M_Model_isThere) (n' := 1) (k := 54) (As := [.int s.2]) (sh' := SH) (b1 := (0, 0)) d_Model_thereMany_15 rfl mw_Model_isThere (by decide) (by decide) ml_Model_315 (by decide) s_54 (by decide) rfl rfl rfl (leb rfl) (bz _) (fun _ => rfl) (ok_Model_isThere hv) ?_
    by_cases c3 : v2 = 0
    · rw [if_pos c3] at h
      refine w_if_eq_t (q := 25) d_Model_thereMany_18 rfl c3 ?_
      refine w_iconst (q := 26) (v := 0) d_Model_thereMany_25 rfl (by decide) ?_
      refine w_iadd (q := 27) d_Model_thereMany_26 rfl ?_
      refine w_istore_n (q := 28) (ls' := [some (.ref 54), some (.int (s.1 + 0)), some (.int s.2)]) d_Model_thereMany_27 rfl (by decide) rfl rfl ?_
      refine w_iinc (q := 31) (ls' := [some (.ref 54), some (.int (s.1 + 0)), some (.int (s.2 + 1))]) d_Model_thereMany_28 rfl (by decide) rfl rfl rfl ?_
      refine w_goto (q := 4) d_Model_thereMany_31 rfl ?_
      cases h
      exact w_ls (by exact (And.intro rfl (And.intro rfl (And.intro rfl trivial)))) hr
    · rw [if_neg c3] at h
      refine w_if_eq_f (q := 21) d_Model_thereMany_18 25 rfl rfl c3 ?_
      refine w_iconst (q := 22) (v := 1) d_Model_thereMany_21 rfl (by decide) ?_
      refine w_goto (q := 26) d_Model_thereMany_22 rfl ?_
      refine w_iadd (q := 27) d_Model_thereMany_26 rfl ?_
      refine w_istore_n (q := 28) (ls' := [some (.ref 54), some (.int (s.1 + 1)), some (.int s.2)]) d_Model_thereMany_27 rfl (by decide) rfl rfl ?_
      refine w_iinc (q := 31) (ls' := [some (.ref 54), some (.int (s.1 + 1)), some (.int (s.2 + 1))]) d_Model_thereMany_28 rfl (by decide) rfl rfl rfl ?_
      refine w_goto (q := 4) d_Model_thereMany_31 rfl ?_
      cases h
      exact w_ls (by exact (And.intro rfl (And.intro rfl (And.intro rfl trivial)))) hr
def sp_Model_thereMany (F : Nat) (g : Mem) : Option (Int32) := (lpO (st_Model_thereMany_4 F g) F (0, 0)).bind fun x4 => some x4
theorem ok_Model_thereMany {γ : GG} {tt : Bool} {F : Nat} {g : Mem} {res : Int32} (h : sp_Model_thereMany F g = some res) : CA γ M_Model_thereMany 2 [.ref 54] SH g tt (0, 0) (pI SH res g tt) := by
  refine CA.of mw_Model_thereMany.1 2 rfl ?_
  show WA γ M_Model_thereMany 2 0 [some (.ref 54), none, none] [] SH g tt (0, 0) (pI SH res g tt)
  unfold sp_Model_thereMany at h
  refine w_iconst (q := 1) (v := 0) d_Model_thereMany_0 rfl (by decide) ?_
  refine w_istore_n (q := 2) (ls' := [some (.ref 54), some (.int 0), none]) d_Model_thereMany_1 rfl (by decide) rfl rfl ?_
  refine w_iconst (q := 3) (v := 0) d_Model_thereMany_2 rfl (by decide) ?_
  refine w_istore_n (q := 4) (ls' := [some (.ref 54), some (.int 0), some (.int 0)]) d_Model_thereMany_3 rfl (by decide) rfl rfl ?_
  obtain ⟨x4, hx, h⟩ := bnd h
  refine w_ls (ls' := [some (.ref 54), some (.int 0), some (.int 0)]) (And.intro rfl (And.intro rfl (And.intro rfl trivial))) ?_
  show PL_Model_thereMany_4 γ tt g _ _ (0, 0)
  refine lp_ok (kl_Model_thereMany_4) F _ x4 hx ?_
  unfold QL_Model_thereMany_4
  refine w_iload_n (q := 35) d_Model_thereMany_34 rfl rfl ?_
  cases h
  exact w_ireturn d_Model_thereMany_35 rfl rfl ⟨rfl, rfl, rfl, rfl⟩
def sp_Model_count (F : Nat) (p0 : Int32) (g : Mem) : Option (Int32 × Mem) := if p0 = 0 then if p0 = 0 then (rd (mset g 54 3 0) 58 12 0).bind fun v3 => some (v3, (mset g 54 3 0)) else (rd (mset g 54 3 0) 58 12 (p0 - 1)).bind fun v4 => some (v4, (mset g 54 3 0)) else if p0 = 1 then some ((mset g 54 3 0) 54 26, (mset g 54 3 0)) else if p0 = 2 then if p0 = 0 then (rd (mset g 54 3 0) 58 12 0).bind fun v8 => some (v8, (mset g 54 3 0)) else (rd (mset g 54 3 0) 58 12 (p0 - 1)).bind fun v9 => some (v9, (mset g 54 3 0)) else if p0 = 3 then if p0 = 0 then (rd (mset g 54 3 0) 58 12 0).bind fun v12 => some (v12, (mset g 54 3 0)) else (rd (mset g 54 3 0) 58 12 (p0 - 1)).bind fun v13 => some (v13, (mset g 54 3 0)) else if p0 = 4 then if p0 = 0 then (rd (mset g 54 3 0) 58 12 0).bind fun v16 => some (v16, (mset g 54 3 0)) else (rd (mset g 54 3 0) 58 12 (p0 - 1)).bind fun v17 => some (v17, (mset g 54 3 0)) else if p0 = 5 then some ((mset g 54 3 0) 54 24, (mset g 54 3 0)) else if p0 = 6 then (sp_Model_thereMany F (mset g 54 3 0)).bind fun v20 => some (v20, (mset g 54 3 0)) else if p0 = 7 then (sp_Model_records F (mset g 54 3 0)).bind fun v22 => (sp_Model_bitsOf F v22 (mset g 54 3 0)).bind fun v23 => some (v23, (mset g 54 3 0)) else if p0 = 8 then some ((mset g 54 3 0) 54 25, (mset g 54 3 0)) else if p0 = 9 then some ((mset g 54 3 0) 54 27, (mset g 54 3 0)) else if p0 = 10 then some ((mset g 54 3 0) 54 28, (mset g 54 3 0)) else if p0 = 11 then some ((mset g 54 3 0) 54 12, (mset g 54 3 0)) else if p0 = 12 then (rd (mset g 54 3 0) 64 3 (p0 - 12)).bind fun v29 => some (v29, (mset g 54 3 0)) else if p0 = 13 then (rd (mset g 54 3 0) 64 3 (p0 - 12)).bind fun v31 => some (v31, (mset g 54 3 0)) else if p0 = 14 then (rd (mset g 54 3 0) 64 3 (p0 - 12)).bind fun v33 => some (v33, (mset g 54 3 0)) else (sp_Model_fail 1 (mset g 54 3 0)).bind fun v34 => some (v34.1, v34.2)
theorem ok_Model_count {γ : GG} {tt : Bool} {F : Nat} {p0 : Int32} {g : Mem} {res : Int32 × Mem} (h : sp_Model_count F p0 g = some res) : CA γ M_Model_count 3 [.ref 54, .int p0] SH g tt (0, 0) (pI SH res.1 res.2 tt) := by
  refine CA.of mw_Model_count.1 0 rfl ?_
  show WA γ M_Model_count 3 0 [some (.ref 54), some (.int p0)] [] SH g tt (0, 0) (pI SH res.1 res.2 tt)
  unfold sp_Model_count at h
  refine w_aload_n (q := 1) d_Model_count_0 rfl rfl ?_
  refine w_iconst (q := 2) (v := 0) d_Model_count_1 rfl (by decide) ?_
  refine w_put (q := 5) (ci := 12) (j := 3) d_Model_count_2 rfl (by decide) fl_Model_114 (by decide) (by decide) s_54 rfl rfl rfl rfl rfl rfl ?_
  refine w_iload_n (q := 6) d_Model_count_5 rfl rfl ?_
  by_cases c1 : p0 = 0
  · rw [if_pos c1] at h
    refine w_tabIn (q := 80) (off := 74) d_Model_count_6 (by rw [c1]; decide) (by rw [c1]; decide) (by rw [c1]; decide +kernel) rfl ?_
    refine w_aload_n (q := 81) d_Model_count_80 rfl rfl ?_
    refine w_get (q := 84) (ci := 12) (j := 4) d_Model_count_81 rfl (by decide) fl_Model_51 (by decide) (by decide) s_54 rfl rfl ?_
    refine w_iload_n (q := 85) d_Model_count_84 rfl rfl ?_
    by_cases c2 : p0 = 0
    · rw [if_pos c2] at h
      refine w_if_ne_f (q := 88) d_Model_count_85 92 rfl rfl c2 ?_
      refine w_iconst (q := 89) (v := 0) d_Model_count_88 rfl (by decide) ?_
      refine w_goto (q := 95) d_Model_count_89 rfl ?_
      obtain ⟨v3, hv, h⟩ := bnd h
      obtain ⟨hi, hv⟩ := rd_ok hv
      refine w_iald (q := 96) (t := 0) d_Model_count_95 rfl a_58.2 a_58.1 hi rfl ?_
      rw [hv]
      cases h
      exact w_ireturn d_Model_count_96 rfl rfl ⟨rfl, rfl, rfl, rfl⟩
    · rw [if_neg c2] at h
      refine w_if_ne_t (q := 92) d_Model_count_85 rfl c2 ?_
      refine w_iload_n (q := 93) d_Model_count_92 rfl rfl ?_
      refine w_iconst (q := 94) (v := 1) d_Model_count_93 rfl (by decide) ?_
      refine w_isub (q := 95) d_Model_count_94 rfl ?_
      obtain ⟨v4, hv, h⟩ := bnd h
      obtain ⟨hi, hv⟩ := rd_ok hv
      refine w_iald (q := 96) (t := 0) d_Model_count_95 rfl a_58.2 a_58.1 hi rfl ?_
      rw [hv]
      cases h
      exact w_ireturn d_Model_count_96 rfl rfl ⟨rfl, rfl, rfl, rfl⟩
  rw [if_neg c1] at h
  by_cases c5 : p0 = 1
  · rw [if_pos c5] at h
    refine w_tabIn (q := 97) (off := 91) d_Model_count_6 (by rw [c5]; decide) (by rw [c5]; decide) (by rw [c5]; decide +kernel) rfl ?_
    refine w_aload_n (q := 98) d_Model_count_97 rfl rfl ?_
    refine w_get (q := 101) (ci := 12) (j := 26) d_Model_count_98 rfl (by decide) fl_Model_121 (by decide) (by decide) s_54 rfl rfl ?_
    cases h
    exact w_ireturn d_Model_count_101 rfl rfl ⟨rfl, rfl, rfl, rfl⟩
  rw [if_neg c5] at h
  by_cases c6 : p0 = 2
  · rw [if_pos c6] at h
    refine w_tabIn (q := 80) (off := 74) d_Model_count_6 (by rw [c6]; decide) (by rw [c6]; decide) (by rw [c6]; decide +kernel) rfl ?_
    refine w_aload_n (q := 81) d_Model_count_80 rfl rfl ?_
    refine w_get (q := 84) (ci := 12) (j := 4) d_Model_count_81 rfl (by decide) fl_Model_51 (by decide) (by decide) s_54 rfl rfl ?_
    refine w_iload_n (q := 85) d_Model_count_84 rfl rfl ?_
    by_cases c7 : p0 = 0
    · rw [if_pos c7] at h
      refine w_if_ne_f (q := 88) d_Model_count_85 92 rfl rfl c7 ?_
      refine w_iconst (q := 89) (v := 0) d_Model_count_88 rfl (by decide) ?_
      refine w_goto (q := 95) d_Model_count_89 rfl ?_
      obtain ⟨v8, hv, h⟩ := bnd h
      obtain ⟨hi, hv⟩ := rd_ok hv
      refine w_iald (q := 96) (t := 0) d_Model_count_95 rfl a_58.2 a_58.1 hi rfl ?_
      rw [hv]
      cases h
      exact w_ireturn d_Model_count_96 rfl rfl ⟨rfl, rfl, rfl, rfl⟩
    · rw [if_neg c7] at h
      refine w_if_ne_t (q := 92) d_Model_count_85 rfl c7 ?_
      refine w_iload_n (q := 93) d_Model_count_92 rfl rfl ?_
      refine w_iconst (q := 94) (v := 1) d_Model_count_93 rfl (by decide) ?_
      refine w_isub (q := 95) d_Model_count_94 rfl ?_
      obtain ⟨v9, hv, h⟩ := bnd h
      obtain ⟨hi, hv⟩ := rd_ok hv
      refine w_iald (q := 96) (t := 0) d_Model_count_95 rfl a_58.2 a_58.1 hi rfl ?_
      rw [hv]
      cases h
      exact w_ireturn d_Model_count_96 rfl rfl ⟨rfl, rfl, rfl, rfl⟩
  rw [if_neg c6] at h
  by_cases c10 : p0 = 3
  · rw [if_pos c10] at h
    refine w_tabIn (q := 80) (off := 74) d_Model_count_6 (by rw [c10]; decide) (by rw [c10]; decide) (by rw [c10]; decide +kernel) rfl ?_
    refine w_aload_n (q := 81) d_Model_count_80 rfl rfl ?_
    refine w_get (q := 84) (ci := 12) (j := 4) d_Model_count_81 rfl (by decide) fl_Model_51 (by decide) (by decide) s_54 rfl rfl ?_
    refine w_iload_n (q := 85) d_Model_count_84 rfl rfl ?_
    by_cases c11 : p0 = 0
    · rw [if_pos c11] at h
      refine w_if_ne_f (q := 88) d_Model_count_85 92 rfl rfl c11 ?_
      refine w_iconst (q := 89) (v := 0) d_Model_count_88 rfl (by decide) ?_
      refine w_goto (q := 95) d_Model_count_89 rfl ?_
      obtain ⟨v12, hv, h⟩ := bnd h
      obtain ⟨hi, hv⟩ := rd_ok hv
      refine w_iald (q := 96) (t := 0) d_Model_count_95 rfl a_58.2 a_58.1 hi rfl ?_
      rw [hv]
      cases h
      exact w_ireturn d_Model_count_96 rfl rfl ⟨rfl, rfl, rfl, rfl⟩
    · rw [if_neg c11] at h
      refine w_if_ne_t (q := 92) d_Model_count_85 rfl c11 ?_
      refine w_iload_n (q := 93) d_Model_count_92 rfl rfl ?_
      refine w_iconst (q := 94) (v := 1) d_Model_count_93 rfl (by decide) ?_
      refine w_isub (q := 95) d_Model_count_94 rfl ?_
      obtain ⟨v13, hv, h⟩ := bnd h
      obtain ⟨hi, hv⟩ := rd_ok hv
      refine w_iald (q := 96) (t := 0) d_Model_count_95 rfl a_58.2 a_58.1 hi rfl ?_
      rw [hv]
      cases h
      exact w_ireturn d_Model_count_96 rfl rfl ⟨rfl, rfl, rfl, rfl⟩
  rw [if_neg c10] at h
  by_cases c14 : p0 = 4
  · rw [if_pos c14] at h
    refine w_tabIn (q := 80) (off := 74) d_Model_count_6 (by rw [c14]; decide) (by rw [c14]; decide) (by rw [c14]; decide +kernel) rfl ?_
    refine w_aload_n (q := 81) d_Model_count_80 rfl rfl ?_
    refine w_get (q := 84) (ci := 12) (j := 4) d_Model_count_81 rfl (by decide) fl_Model_51 (by decide) (by decide) s_54 rfl rfl ?_
    refine w_iload_n (q := 85) d_Model_count_84 rfl rfl ?_
    by_cases c15 : p0 = 0
    · rw [if_pos c15] at h
      refine w_if_ne_f (q := 88) d_Model_count_85 92 rfl rfl c15 ?_
      refine w_iconst (q := 89) (v := 0) d_Model_count_88 rfl (by decide) ?_
      refine w_goto (q := 95) d_Model_count_89 rfl ?_
      obtain ⟨v16, hv, h⟩ := bnd h
      obtain ⟨hi, hv⟩ := rd_ok hv
      refine w_iald (q := 96) (t := 0) d_Model_count_95 rfl a_58.2 a_58.1 hi rfl ?_
      rw [hv]
      cases h
      exact w_ireturn d_Model_count_96 rfl rfl ⟨rfl, rfl, rfl, rfl⟩
    · rw [if_neg c15] at h
      refine w_if_ne_t (q := 92) d_Model_count_85 rfl c15 ?_
      refine w_iload_n (q := 93) d_Model_count_92 rfl rfl ?_
      refine w_iconst (q := 94) (v := 1) d_Model_count_93 rfl (by decide) ?_
      refine w_isub (q := 95) d_Model_count_94 rfl ?_
      obtain ⟨v17, hv, h⟩ := bnd h
      obtain ⟨hi, hv⟩ := rd_ok hv
      refine w_iald (q := 96) (t := 0) d_Model_count_95 rfl a_58.2 a_58.1 hi rfl ?_
      rw [hv]
      cases h
      exact w_ireturn d_Model_count_96 rfl rfl ⟨rfl, rfl, rfl, rfl⟩
  rw [if_neg c14] at h
  by_cases c18 : p0 = 5
  · rw [if_pos c18] at h
    refine w_tabIn (q := 102) (off := 96) d_Model_count_6 (by rw [c18]; decide) (by rw [c18]; decide) (by rw [c18]; decide +kernel) rfl ?_
    refine w_aload_n (q := 103) d_Model_count_102 rfl rfl ?_
    refine w_get (q := 106) (ci := 12) (j := 24) d_Model_count_103 rfl (by decide) fl_Model_286 (by decide) (by decide) s_54 rfl rfl ?_
    cases h
    exact w_ireturn d_Model_count_106 rfl rfl ⟨rfl, rfl, rfl, rfl⟩
  rw [if_neg c18] at h
  by_cases c19 : p0 = 6
  · rw [if_pos c19] at h
    refine w_tabIn (q := 107) (off := 101) d_Model_count_6 (by rw [c19]; decide) (by rw [c19]; decide) (by rw [c19]; decide +kernel) rfl ?_
    refine w_aload_n (q := 108) d_Model_count_107 rfl rfl ?_
    obtain ⟨v20, hv, h⟩ := bnd h
    refine w_callVi (q := 111) (M' := M_Model_thereMany) (n' := 2) (k := 54) (As := []) (sh' := SH) (b1 := (0, 0)) d_Model_count_108 rfl mw_Model_thereMany (by decide) (by decide) ml_Model_326 (by decide) s_54 (by decide) rfl rfl rfl (leb rfl) (bz _) (fun _ => rfl) (ok_Model_thereMany hv) ?_
    cases h
    exact w_ireturn d_Model_count_111 rfl rfl ⟨rfl, rfl, rfl, rfl⟩
  rw [if_neg c19] at h
  by_cases c21 : p0 = 7
  · rw [if_pos c21] at h
    refine w_tabIn (q := 112) (off := 106) d_Model_count_6 (by rw [c21]; decide) (by rw [c21]; decide) (by rw [c21]; decide +kernel) rfl ?_
    refine w_aload_n (q := 113) d_Model_count_112 rfl rfl ?_
    obtain ⟨v22, hv, h⟩ := bnd h
    refine w_callVi (q := 116) (M' := M_Model_records) (n' := 2) (k := 54) (As := []) (sh' := SH) (b1 := (0, 0)) d_Model_count_113 rfl mw_Model_records (by decide) (by decide) ml_Model_329 (by decide) s_54 (by decide) rfl rfl rfl (leb rfl) (bz _) (fun _ => rfl) (ok_Model_records hv) ?_
    obtain ⟨v23, hv, h⟩ := bnd h
    refine w_callSi (q := 119) (M' := M_Model_bitsOf) (n' := 0) (As := [.int v22]) (sh' := SH) (b1 := (0, 0)) d_Model_count_116 rfl mw_Model_bitsOf (by decide) (by decide) ml_Model_332 rfl rfl (leb rfl) (bz _) (fun _ => rfl) (ok_Model_bitsOf hv) ?_
    cases h
    exact w_ireturn d_Model_count_119 rfl rfl ⟨rfl, rfl, rfl, rfl⟩
  rw [if_neg c21] at h
  by_cases c24 : p0 = 8
  · rw [if_pos c24] at h
    refine w_tabIn (q := 120) (off := 114) d_Model_count_6 (by rw [c24]; decide) (by rw [c24]; decide) (by rw [c24]; decide +kernel) rfl ?_
    refine w_aload_n (q := 121) d_Model_count_120 rfl rfl ?_
    refine w_get (q := 124) (ci := 12) (j := 25) d_Model_count_121 rfl (by decide) fl_Model_289 (by decide) (by decide) s_54 rfl rfl ?_
    cases h
    exact w_ireturn d_Model_count_124 rfl rfl ⟨rfl, rfl, rfl, rfl⟩
  rw [if_neg c24] at h
  by_cases c25 : p0 = 9
  · rw [if_pos c25] at h
    refine w_tabIn (q := 125) (off := 119) d_Model_count_6 (by rw [c25]; decide) (by rw [c25]; decide) (by rw [c25]; decide +kernel) rfl ?_
    refine w_aload_n (q := 126) d_Model_count_125 rfl rfl ?_
    refine w_get (q := 129) (ci := 12) (j := 27) d_Model_count_126 rfl (by decide) fl_Model_295 (by decide) (by decide) s_54 rfl rfl ?_
    cases h
    exact w_ireturn d_Model_count_129 rfl rfl ⟨rfl, rfl, rfl, rfl⟩
  rw [if_neg c25] at h
  by_cases c26 : p0 = 10
  · rw [if_pos c26] at h
    refine w_tabIn (q := 130) (off := 124) d_Model_count_6 (by rw [c26]; decide) (by rw [c26]; decide) (by rw [c26]; decide +kernel) rfl ?_
    refine w_aload_n (q := 131) d_Model_count_130 rfl rfl ?_
    refine w_get (q := 134) (ci := 12) (j := 28) d_Model_count_131 rfl (by decide) fl_Model_298 (by decide) (by decide) s_54 rfl rfl ?_
    cases h
    exact w_ireturn d_Model_count_134 rfl rfl ⟨rfl, rfl, rfl, rfl⟩
  rw [if_neg c26] at h
  by_cases c27 : p0 = 11
  · rw [if_pos c27] at h
    refine w_tabIn (q := 135) (off := 129) d_Model_count_6 (by rw [c27]; decide) (by rw [c27]; decide) (by rw [c27]; decide +kernel) rfl ?_
    refine w_aload_n (q := 136) d_Model_count_135 rfl rfl ?_
    refine w_get (q := 139) (ci := 12) (j := 12) d_Model_count_136 rfl (by decide) fl_Model_126 (by decide) (by decide) s_54 rfl rfl ?_
    cases h
    exact w_ireturn d_Model_count_139 rfl rfl ⟨rfl, rfl, rfl, rfl⟩
  rw [if_neg c27] at h
  by_cases c28 : p0 = 12
  · rw [if_pos c28] at h
    refine w_tabIn (q := 140) (off := 134) d_Model_count_6 (by rw [c28]; decide) (by rw [c28]; decide) (by rw [c28]; decide +kernel) rfl ?_
    refine w_aload_n (q := 141) d_Model_count_140 rfl rfl ?_
    refine w_get (q := 144) (ci := 12) (j := 10) d_Model_count_141 rfl (by decide) fl_Model_68 (by decide) (by decide) s_54 rfl rfl ?_
    refine w_iload_n (q := 145) d_Model_count_144 rfl rfl ?_
    refine w_bipush (q := 147) (v := 12) d_Model_count_145 rfl (by decide) ?_
    refine w_isub (q := 148) d_Model_count_147 rfl ?_
    obtain ⟨v29, hv, h⟩ := bnd h
    obtain ⟨hi, hv⟩ := rd_ok hv
    refine w_iald (q := 149) (t := 0) d_Model_count_148 rfl a_64.2 a_64.1 hi rfl ?_
    rw [hv]
    cases h
    exact w_ireturn d_Model_count_149 rfl rfl ⟨rfl, rfl, rfl, rfl⟩
  rw [if_neg c28] at h
  by_cases c30 : p0 = 13
  · rw [if_pos c30] at h
    refine w_tabIn (q := 140) (off := 134) d_Model_count_6 (by rw [c30]; decide) (by rw [c30]; decide) (by rw [c30]; decide +kernel) rfl ?_
    refine w_aload_n (q := 141) d_Model_count_140 rfl rfl ?_
    refine w_get (q := 144) (ci := 12) (j := 10) d_Model_count_141 rfl (by decide) fl_Model_68 (by decide) (by decide) s_54 rfl rfl ?_
    refine w_iload_n (q := 145) d_Model_count_144 rfl rfl ?_
    refine w_bipush (q := 147) (v := 12) d_Model_count_145 rfl (by decide) ?_
    refine w_isub (q := 148) d_Model_count_147 rfl ?_
    obtain ⟨v31, hv, h⟩ := bnd h
    obtain ⟨hi, hv⟩ := rd_ok hv
    refine w_iald (q := 149) (t := 0) d_Model_count_148 rfl a_64.2 a_64.1 hi rfl ?_
    rw [hv]
    cases h
    exact w_ireturn d_Model_count_149 rfl rfl ⟨rfl, rfl, rfl, rfl⟩
  rw [if_neg c30] at h
  by_cases c32 : p0 = 14
  · rw [if_pos c32] at h
    refine w_tabIn (q := 140) (off := 134) d_Model_count_6 (by rw [c32]; decide) (by rw [c32]; decide) (by rw [c32]; decide +kernel) rfl ?_
    refine w_aload_n (q := 141) d_Model_count_140 rfl rfl ?_
    refine w_get (q := 144) (ci := 12) (j := 10) d_Model_count_141 rfl (by decide) fl_Model_68 (by decide) (by decide) s_54 rfl rfl ?_
    refine w_iload_n (q := 145) d_Model_count_144 rfl rfl ?_
    refine w_bipush (q := 147) (v := 12) d_Model_count_145 rfl (by decide) ?_
    refine w_isub (q := 148) d_Model_count_147 rfl ?_
    obtain ⟨v33, hv, h⟩ := bnd h
    obtain ⟨hi, hv⟩ := rd_ok hv
    refine w_iald (q := 149) (t := 0) d_Model_count_148 rfl a_64.2 a_64.1 hi rfl ?_
    rw [hv]
    cases h
    exact w_ireturn d_Model_count_149 rfl rfl ⟨rfl, rfl, rfl, rfl⟩
  rw [if_neg c32] at h
  have hsw : p0.toInt < 0 ∨ 14 < p0.toInt := by
    refine sw_out (fun c h1 h2 e => ?_)
    have h9 : c = 0 ∨ c = 1 ∨ c = 2 ∨ c = 3 ∨ c = 4 ∨ c = 5 ∨ c = 6 ∨ c = 7 ∨ c = 8 ∨ c = 9 ∨ c = 10 ∨ c = 11 ∨ c = 12 ∨ c = 13 ∨ c = 14 := by omega
    rcases h9 with rfl | rfl | rfl | rfl | rfl | rfl | rfl | rfl | rfl | rfl | rfl | rfl | rfl | rfl | rfl
    · exact c1 (Int32.toInt_inj.mp (e.trans (by decide)))
    · exact c5 (Int32.toInt_inj.mp (e.trans (by decide)))
    · exact c6 (Int32.toInt_inj.mp (e.trans (by decide)))
    · exact c10 (Int32.toInt_inj.mp (e.trans (by decide)))
    · exact c14 (Int32.toInt_inj.mp (e.trans (by decide)))
    · exact c18 (Int32.toInt_inj.mp (e.trans (by decide)))
    · exact c19 (Int32.toInt_inj.mp (e.trans (by decide)))
    · exact c21 (Int32.toInt_inj.mp (e.trans (by decide)))
    · exact c24 (Int32.toInt_inj.mp (e.trans (by decide)))
    · exact c25 (Int32.toInt_inj.mp (e.trans (by decide)))
    · exact c26 (Int32.toInt_inj.mp (e.trans (by decide)))
    · exact c27 (Int32.toInt_inj.mp (e.trans (by decide)))
    · exact c28 (Int32.toInt_inj.mp (e.trans (by decide)))
    · exact c30 (Int32.toInt_inj.mp (e.trans (by decide)))
    · exact c32 (Int32.toInt_inj.mp (e.trans (by decide)))
  refine w_tabOut (q := 150) d_Model_count_6 hsw rfl ?_
  refine w_aload_n (q := 151) d_Model_count_150 rfl rfl ?_
  refine w_iconst (q := 152) (v := 1) d_Model_count_151 rfl (by decide) ?_
  obtain ⟨v34, hv, h⟩ := bnd h
  refine w_callVi (q := 155) (M' := M_Model_fail) (n' := 0) (k := 54) (As := [.int 1]) (sh' := SH) (b1 := (0, 0)) d_Model_count_152 rfl mw_Model_fail (by decide) (by decide) ml_Model_273 (by decide) s_54 (by decide) rfl rfl rfl (leb rfl) (bz _) (fun _ => rfl) (ok_Model_fail hv) ?_
  cases h
  exact w_ireturn d_Model_count_155 rfl rfl ⟨rfl, rfl, rfl, rfl⟩
def PL_Model_monk_115 (γ : GG) (tt : Bool) (p0 : Int32) (p1 : Int32) (g : Mem) (k1 : Int32) (m0 : Mem) (b : Nat × Nat) (Φ : PO) (s : Int32 × Int32) : Prop := WA γ M_Model_monk 4 115 [some (.ref 54), some (.int k1), none, some (.int s.1), some (.int s.2)] [] SH m0 tt b Φ
def QL_Model_monk_115 (γ : GG) (tt : Bool) (p0 : Int32) (p1 : Int32) (g : Mem) (k1 : Int32) (m0 : Mem) (b : Nat × Nat) (Φ : PO) (x : (Int32)) : Prop := WA γ M_Model_monk 4 158 [none, none, none, some (.int x), none] [] SH m0 tt b Φ
def st_Model_monk_115 (F : Nat) (p0 : Int32) (p1 : Int32) (g : Mem) (k1 : Int32) (m0 : Mem) (s : Int32 × Int32) : Option ((Int32 × Int32) ⊕ ((Int32))) := if (m0 54 26) ≤ s.2 then some (.inr s.1) else (sp_Model_isThere s.2 m0).bind fun v19 => if v19 = 0 then some (.inl (s.1 + 0, s.2 + 1)) else (sp_Model_of s.2 1 m0).bind fun v21 => if v21 = k1 then some (.inl (s.1 + 1, s.2 + 1)) else some (.inl (s.1 + 0, s.2 + 1))
theorem kl_Model_monk_115 {γ : GG} {tt : Bool} {F : Nat} {p0 : Int32} {p1 : Int32} {g : Mem} {k1 : Int32} {m0 : Mem} {b : Nat × Nat} {Φ : PO} : ∀ (s : Int32 × Int32) (r : (Int32 × Int32) ⊕ ((Int32))), st_Model_monk_115 F p0 p1 g k1 m0 s = some r → RQ (PL_Model_monk_115 γ tt p0 p1 g k1 m0 b Φ) (QL_Model_monk_115 γ tt p0 p1 g k1 m0 b Φ) r → PL_Model_monk_115 γ tt p0 p1 g k1 m0 b Φ s := by
  intro s r h hr
  unfold st_Model_monk_115 at h
  unfold PL_Model_monk_115
  refine w_iload (q := 117) d_Model_monk_115 rfl rfl ?_
  refine w_aload_n (q := 118) d_Model_monk_117 rfl rfl ?_
  refine w_get (q := 121) (ci := 12) (j := 26) d_Model_monk_118 rfl (by decide) fl_Model_121 (by decide) (by decide) s_54 rfl rfl ?_
  by_cases c18 : (m0 54 26) ≤ s.2
  · rw [if_pos c18] at h
    refine w_icmp_ge_t (q := 158) d_Model_monk_121 rfl c18 ?_
    cases h
    exact w_ls (by exact (And.intro rfl trivial)) hr
  · rw [if_neg c18] at h
    refine w_icmp_ge_f (q := 124) d_Model_monk_121 158 rfl rfl c18 ?_
    refine w_iload_n (q := 125) d_Model_monk_124 rfl rfl ?_
    refine w_aload_n (q := 126) d_Model_monk_125 rfl rfl ?_
    refine w_iload (q := 128) d_Model_monk_126 rfl rfl ?_
    obtain ⟨v19, hv, h⟩ := bnd h
    refine w_callVi (q := 131) (M' := M_Model_isThere) (n' := 1) (k := 54) (As := [.int s.2]) (sh' := SH) (b1 := (0, 0)) d_Model_monk_128 rfl mw_Model_isThere (by decide) (by decide) ml_Model_315 (by decide) s_54 (by decide) rfl rfl rfl (leb rfl) (bz _) (fun _ => rfl) (ok_Model_isThere hv) ?_
    by_cases c20 : v19 = 0
    · rw [if_pos c20] at h
      refine w_if_eq_t (q := 149) d_Model_monk_131 rfl c20 ?_
      refine w_iconst (q := 150) (v := 0) d_Model_monk_149 rfl (by decide) ?_
      refine w_iadd (q := 151) d_Model_monk_150 rfl ?_
      refine w_istore_n (q := 152) (ls' := [some (.ref 54), some (.int k1), none, some (.int (s.1 + 0)), some (.int s.2)]) d_Model_monk_151 rfl (by decide) rfl rfl ?_
      refine w_iinc (q := 155) (ls' := [some (.ref 54), some (.int k1), none, some (.int (s.1 + 0)), some (.int (s.2 + 1))]) d_Model_monk_152 rfl (by decide) rfl rfl rfl ?_
      refine w_goto (q := 115) d_Model_monk_155 rfl ?_
      cases h
      exact w_ls (by exact (And.intro rfl (And.intro rfl (And.intro rfl (And.intro rfl trivial))))) hr
    · rw [if_neg c20] at h
      refine w_if_eq_f (q := 134) d_Model_monk_131 149 rfl rfl c20 ?_
      refine w_aload_n (q := 135) d_Model_monk_134 rfl rfl ?_
      refine w_iload (q := 137) d_Model_monk_135 rfl rfl ?_
      refine w_iconst (q := 138) (v := 1) d_Model_monk_137 rfl (by decide) ?_
      obtain ⟨v21, hv, h⟩ := bnd h
      refine w_callVi (q := 141) (M' := M_Model_of) (n' := 0) (k := 54) (As := [.int s.2, .int 1]) (sh' := SH) (b1 := (0, 0)) d_Model_monk_138 rfl mw_Model_of (by decide) (by decide) ml_Model_305 (by decide) s_54 (by decide) rfl rfl rfl (leb rfl) (bz _) (fun _ => rfl) (ok_Model_of hv) ?_
      refine w_iload_n (q := 142) d_Model_monk_141 rfl rfl ?_
      by_cases c22 : v21 = k1
      · rw [if_pos c22] at h
        refine w_icmp_ne_f (q := 145) d_Model_monk_142 149 rfl rfl c22 ?_
        refine w_iconst (q := 146) (v := 1) d_Model_monk_145 rfl (by decide) ?_
        refine w_goto (q := 150) d_Model_monk_146 rfl ?_
        refine w_iadd (q := 151) d_Model_monk_150 rfl ?_
        refine w_istore_n (q := 152) (ls' := [some (.ref 54), some (.int k1), none, some (.int (s.1 + 1)), some (.int s.2)]) d_Model_monk_151 rfl (by decide) rfl rfl ?_
        refine w_iinc (q := 155) (ls' := [some (.ref 54), some (.int k1), none, some (.int (s.1 + 1)), some (.int (s.2 + 1))]) d_Model_monk_152 rfl (by decide) rfl rfl rfl ?_
        refine w_goto (q := 115) d_Model_monk_155 rfl ?_
        cases h
        exact w_ls (by exact (And.intro rfl (And.intro rfl (And.intro rfl (And.intro rfl trivial))))) hr
      · rw [if_neg c22] at h
        refine w_icmp_ne_t (q := 149) d_Model_monk_142 rfl c22 ?_
        refine w_iconst (q := 150) (v := 0) d_Model_monk_149 rfl (by decide) ?_
        refine w_iadd (q := 151) d_Model_monk_150 rfl ?_
        refine w_istore_n (q := 152) (ls' := [some (.ref 54), some (.int k1), none, some (.int (s.1 + 0)), some (.int s.2)]) d_Model_monk_151 rfl (by decide) rfl rfl ?_
        refine w_iinc (q := 155) (ls' := [some (.ref 54), some (.int k1), none, some (.int (s.1 + 0)), some (.int (s.2 + 1))]) d_Model_monk_152 rfl (by decide) rfl rfl rfl ?_
        refine w_goto (q := 115) d_Model_monk_155 rfl ?_
        cases h
        exact w_ls (by exact (And.intro rfl (And.intro rfl (And.intro rfl (And.intro rfl trivial))))) hr
def sp_Model_monk (F : Nat) (p0 : Int32) (p1 : Int32) (g : Mem) : Option (Int32 × Mem) := (sp_Model_isMonk p0 (mset g 54 3 0)).bind fun v1 => if v1 = 0 then (sp_Model_fail 1 (mset g 54 3 0)).bind fun v3 => some (v3.1, v3.2) else if p1 = 0 then (rd (mset g 54 3 0) 59 12 p0).bind fun v5 => some (v5, (mset g 54 3 0)) else if p1 = 1 then (sp_Model_ageOf p0 (mset g 54 3 0)).bind fun v7 => some (v7, (mset g 54 3 0)) else if p1 = 2 then (rd (mset g 54 3 0) 61 12 p0).bind fun v9 => some (v9, (mset g 54 3 0)) else if p1 = 3 then (rd (mset g 54 3 0) 59 12 p0).bind fun v11 => (rd (mset g 54 3 0) 58 12 1).bind fun v12 => (sp_Model_mayHave v11 v12 (mset g 54 3 0)).bind fun v13 => some (v13, (mset g 54 3 0)) else if p1 = 4 then (sp_Model_isGrey p0 (mset g 54 3 0)).bind fun v15 => if v15 = 0 then some (0, (mset g 54 3 0)) else some (1, (mset g 54 3 0)) else if p1 = 5 then (lpO (st_Model_monk_115 F p0 p1 g p0 (mset g 54 3 0)) F (0, 0)).bind fun x23 => some (x23, (mset g 54 3 0)) else (sp_Model_fail 1 (mset g 54 3 0)).bind fun v24 => some (v24.1, v24.2)
theorem ok_Model_monk {γ : GG} {tt : Bool} {F : Nat} {p0 : Int32} {p1 : Int32} {g : Mem} {res : Int32 × Mem} (h : sp_Model_monk F p0 p1 g = some res) : CA γ M_Model_monk 4 [.ref 54, .int p0, .int p1] SH g tt (0, 0) (pI SH res.1 res.2 tt) := by
  refine CA.of mw_Model_monk.1 2 rfl ?_
  show WA γ M_Model_monk 4 0 [some (.ref 54), some (.int p0), some (.int p1), none, none] [] SH g tt (0, 0) (pI SH res.1 res.2 tt)
  unfold sp_Model_monk at h
  refine w_aload_n (q := 1) d_Model_monk_0 rfl rfl ?_
  refine w_iconst (q := 2) (v := 0) d_Model_monk_1 rfl (by decide) ?_
  refine w_put (q := 5) (ci := 12) (j := 3) d_Model_monk_2 rfl (by decide) fl_Model_114 (by decide) (by decide) s_54 rfl rfl rfl rfl rfl rfl ?_
  refine w_aload_n (q := 6) d_Model_monk_5 rfl rfl ?_
  refine w_iload_n (q := 7) d_Model_monk_6 rfl rfl ?_
  obtain ⟨v1, hv, h⟩ := bnd h
  refine w_callVi (q := 10) (M' := M_Model_isMonk) (n' := 1) (k := 54) (As := [.int p0]) (sh' := SH) (b1 := (0, 0)) d_Model_monk_7 rfl mw_Model_isMonk (by decide) (by decide) ml_Model_335 (by decide) s_54 (by decide) rfl rfl rfl (leb rfl) (bz _) (fun _ => rfl) (ok_Model_isMonk hv) ?_
  by_cases c2 : v1 = 0
  · rw [if_pos c2] at h
    refine w_if_ne_f (q := 13) d_Model_monk_10 19 rfl rfl c2 ?_
    refine w_aload_n (q := 14) d_Model_monk_13 rfl rfl ?_
    refine w_iconst (q := 15) (v := 1) d_Model_monk_14 rfl (by decide) ?_
    obtain ⟨v3, hv, h⟩ := bnd h
    refine w_callVi (q := 18) (M' := M_Model_fail) (n' := 0) (k := 54) (As := [.int 1]) (sh' := SH) (b1 := (0, 0)) d_Model_monk_15 rfl mw_Model_fail (by decide) (by decide) ml_Model_273 (by decide) s_54 (by decide) rfl rfl rfl (leb rfl) (bz _) (fun _ => rfl) (ok_Model_fail hv) ?_
    cases h
    exact w_ireturn d_Model_monk_18 rfl rfl ⟨rfl, rfl, rfl, rfl⟩
  · rw [if_neg c2] at h
    refine w_if_ne_t (q := 19) d_Model_monk_10 rfl c2 ?_
    refine w_iload_n (q := 20) d_Model_monk_19 rfl rfl ?_
    by_cases c4 : p1 = 0
    · rw [if_pos c4] at h
      refine w_tabIn (q := 60) (off := 40) d_Model_monk_20 (by rw [c4]; decide) (by rw [c4]; decide) (by rw [c4]; decide +kernel) rfl ?_
      refine w_aload_n (q := 61) d_Model_monk_60 rfl rfl ?_
      refine w_get (q := 64) (ci := 12) (j := 5) d_Model_monk_61 rfl (by decide) fl_Model_55 (by decide) (by decide) s_54 rfl rfl ?_
      refine w_iload_n (q := 65) d_Model_monk_64 rfl rfl ?_
      obtain ⟨v5, hv, h⟩ := bnd h
      obtain ⟨hi, hv⟩ := rd_ok hv
      refine w_iald (q := 66) (t := 0) d_Model_monk_65 rfl a_59.2 a_59.1 hi rfl ?_
      rw [hv]
      cases h
      exact w_ireturn d_Model_monk_66 rfl rfl ⟨rfl, rfl, rfl, rfl⟩
    rw [if_neg c4] at h
    by_cases c6 : p1 = 1
    · rw [if_pos c6] at h
      refine w_tabIn (q := 67) (off := 47) d_Model_monk_20 (by rw [c6]; decide) (by rw [c6]; decide) (by rw [c6]; decide +kernel) rfl ?_
      refine w_aload_n (q := 68) d_Model_monk_67 rfl rfl ?_
      refine w_iload_n (q := 69) d_Model_monk_68 rfl rfl ?_
      obtain ⟨v7, hv, h⟩ := bnd h
      refine w_callVi (q := 72) (M' := M_Model_ageOf) (n' := 2) (k := 54) (As := [.int p0]) (sh' := SH) (b1 := (0, 0)) d_Model_monk_69 rfl mw_Model_ageOf (by decide) (by decide) ml_Model_323 (by decide) s_54 (by decide) rfl rfl rfl (leb rfl) (bz _) (fun _ => rfl) (ok_Model_ageOf hv) ?_
      cases h
      exact w_ireturn d_Model_monk_72 rfl rfl ⟨rfl, rfl, rfl, rfl⟩
    rw [if_neg c6] at h
    by_cases c8 : p1 = 2
    · rw [if_pos c8] at h
      refine w_tabIn (q := 73) (off := 53) d_Model_monk_20 (by rw [c8]; decide) (by rw [c8]; decide) (by rw [c8]; decide +kernel) rfl ?_
      refine w_aload_n (q := 74) d_Model_monk_73 rfl rfl ?_
      refine w_get (q := 77) (ci := 12) (j := 7) d_Model_monk_74 rfl (by decide) fl_Model_59 (by decide) (by decide) s_54 rfl rfl ?_
      refine w_iload_n (q := 78) d_Model_monk_77 rfl rfl ?_
      obtain ⟨v9, hv, h⟩ := bnd h
      obtain ⟨hi, hv⟩ := rd_ok hv
      refine w_iald (q := 79) (t := 0) d_Model_monk_78 rfl a_61.2 a_61.1 hi rfl ?_
      rw [hv]
      cases h
      exact w_ireturn d_Model_monk_79 rfl rfl ⟨rfl, rfl, rfl, rfl⟩
    rw [if_neg c8] at h
    by_cases c10 : p1 = 3
    · rw [if_pos c10] at h
      refine w_tabIn (q := 80) (off := 60) d_Model_monk_20 (by rw [c10]; decide) (by rw [c10]; decide) (by rw [c10]; decide +kernel) rfl ?_
      refine w_aload_n (q := 81) d_Model_monk_80 rfl rfl ?_
      refine w_get (q := 84) (ci := 12) (j := 5) d_Model_monk_81 rfl (by decide) fl_Model_55 (by decide) (by decide) s_54 rfl rfl ?_
      refine w_iload_n (q := 85) d_Model_monk_84 rfl rfl ?_
      obtain ⟨v11, hv, h⟩ := bnd h
      obtain ⟨hi, hv⟩ := rd_ok hv
      refine w_iald (q := 86) (t := 0) d_Model_monk_85 rfl a_59.2 a_59.1 hi rfl ?_
      rw [hv]
      refine w_aload_n (q := 87) d_Model_monk_86 rfl rfl ?_
      refine w_get (q := 90) (ci := 12) (j := 4) d_Model_monk_87 rfl (by decide) fl_Model_51 (by decide) (by decide) s_54 rfl rfl ?_
      refine w_iconst (q := 91) (v := 1) d_Model_monk_90 rfl (by decide) ?_
      obtain ⟨v12, hv, h⟩ := bnd h
      obtain ⟨hi, hv⟩ := rd_ok hv
      refine w_iald (q := 92) (t := 0) d_Model_monk_91 rfl a_58.2 a_58.1 hi rfl ?_
      rw [hv]
      obtain ⟨v13, hv, h⟩ := bnd h
      refine w_callSi (q := 95) (M' := M_Model_mayHave) (n' := 1) (As := [.int v11, .int v12]) (sh' := SH) (b1 := (0, 0)) d_Model_monk_92 rfl mw_Model_mayHave (by decide) (by decide) ml_Model_239 rfl rfl (leb rfl) (bz _) (fun _ => rfl) (ok_Model_mayHave hv) ?_
      cases h
      exact w_ireturn d_Model_monk_95 rfl rfl ⟨rfl, rfl, rfl, rfl⟩
    rw [if_neg c10] at h
    by_cases c14 : p1 = 4
    · rw [if_pos c14] at h
      refine w_tabIn (q := 96) (off := 76) d_Model_monk_20 (by rw [c14]; decide) (by rw [c14]; decide) (by rw [c14]; decide +kernel) rfl ?_
      refine w_aload_n (q := 97) d_Model_monk_96 rfl rfl ?_
      refine w_iload_n (q := 98) d_Model_monk_97 rfl rfl ?_
      obtain ⟨v15, hv, h⟩ := bnd h
      refine w_callVi (q := 101) (M' := M_Model_isGrey) (n' := 3) (k := 54) (As := [.int p0]) (sh' := SH) (b1 := (0, 0)) d_Model_monk_98 rfl mw_Model_isGrey (by decide) (by decide) ml_Model_338 (by decide) s_54 (by decide) rfl rfl rfl (leb rfl) (bz _) (fun _ => rfl) (ok_Model_isGrey hv) ?_
      by_cases c16 : v15 = 0
      · rw [if_pos c16] at h
        refine w_if_eq_t (q := 108) d_Model_monk_101 rfl c16 ?_
        refine w_iconst (q := 109) (v := 0) d_Model_monk_108 rfl (by decide) ?_
        cases h
        exact w_ireturn d_Model_monk_109 rfl rfl ⟨rfl, rfl, rfl, rfl⟩
      · rw [if_neg c16] at h
        refine w_if_eq_f (q := 104) d_Model_monk_101 108 rfl rfl c16 ?_
        refine w_iconst (q := 105) (v := 1) d_Model_monk_104 rfl (by decide) ?_
        refine w_goto (q := 109) d_Model_monk_105 rfl ?_
        cases h
        exact w_ireturn d_Model_monk_109 rfl rfl ⟨rfl, rfl, rfl, rfl⟩
    rw [if_neg c14] at h
    by_cases c17 : p1 = 5
    · rw [if_pos c17] at h
      refine w_tabIn (q := 110) (off := 90) d_Model_monk_20 (by rw [c17]; decide) (by rw [c17]; decide) (by rw [c17]; decide +kernel) rfl ?_
      refine w_iconst (q := 111) (v := 0) d_Model_monk_110 rfl (by decide) ?_
      refine w_istore_n (q := 112) (ls' := [some (.ref 54), some (.int p0), some (.int p1), some (.int 0), none]) d_Model_monk_111 rfl (by decide) rfl rfl ?_
      refine w_iconst (q := 113) (v := 0) d_Model_monk_112 rfl (by decide) ?_
      refine w_istore (q := 115) (ls' := [some (.ref 54), some (.int p0), some (.int p1), some (.int 0), some (.int 0)]) d_Model_monk_113 rfl (by decide) rfl rfl ?_
      obtain ⟨x23, hx, h⟩ := bnd h
      refine w_ls (ls' := [some (.ref 54), some (.int p0), none, some (.int 0), some (.int 0)]) (And.intro rfl (And.intro rfl (And.intro rfl (And.intro rfl trivial)))) ?_
      show PL_Model_monk_115 γ tt p0 p1 g p0 (mset g 54 3 0) _ _ (0, 0)
      refine lp_ok (kl_Model_monk_115) F _ x23 hx ?_
      unfold QL_Model_monk_115
      refine w_iload_n (q := 159) d_Model_monk_158 rfl rfl ?_
      cases h
      exact w_ireturn d_Model_monk_159 rfl rfl ⟨rfl, rfl, rfl, rfl⟩
    rw [if_neg c17] at h
    have hsw : p1.toInt < 0 ∨ 5 < p1.toInt := by
      refine sw_out (fun c h1 h2 e => ?_)
      have h9 : c = 0 ∨ c = 1 ∨ c = 2 ∨ c = 3 ∨ c = 4 ∨ c = 5 := by omega
      rcases h9 with rfl | rfl | rfl | rfl | rfl | rfl
      · exact c4 (Int32.toInt_inj.mp (e.trans (by decide)))
      · exact c6 (Int32.toInt_inj.mp (e.trans (by decide)))
      · exact c8 (Int32.toInt_inj.mp (e.trans (by decide)))
      · exact c10 (Int32.toInt_inj.mp (e.trans (by decide)))
      · exact c14 (Int32.toInt_inj.mp (e.trans (by decide)))
      · exact c17 (Int32.toInt_inj.mp (e.trans (by decide)))
    refine w_tabOut (q := 160) d_Model_monk_20 hsw rfl ?_
    refine w_aload_n (q := 161) d_Model_monk_160 rfl rfl ?_
    refine w_iconst (q := 162) (v := 1) d_Model_monk_161 rfl (by decide) ?_
    obtain ⟨v24, hv, h⟩ := bnd h
    refine w_callVi (q := 165) (M' := M_Model_fail) (n' := 0) (k := 54) (As := [.int 1]) (sh' := SH) (b1 := (0, 0)) d_Model_monk_162 rfl mw_Model_fail (by decide) (by decide) ml_Model_273 (by decide) s_54 (by decide) rfl rfl rfl (leb rfl) (bz _) (fun _ => rfl) (ok_Model_fail hv) ?_
    cases h
    exact w_ireturn d_Model_monk_165 rfl rfl ⟨rfl, rfl, rfl, rfl⟩
def sp_Model_entry (p0 : Int32) (p1 : Int32) (g : Mem) : Option (Int32 × Mem) := (sp_Model_isEntry p0 (mset g 54 3 0)).bind fun v1 => if v1 = 0 then (sp_Model_fail 1 (mset g 54 3 0)).bind fun v3 => some (v3.1, v3.2) else (sp_Model_isIn p1.toInt64 0 9 (mset g 54 3 0)).bind fun v4 => if v4 = 0 then (sp_Model_fail 1 (mset g 54 3 0)).bind fun v6 => some (v6.1, v6.2) else if 8 ≤ p1 then if p1 = 9 then (sp_Model_old p0 (mset g 54 3 0)).bind fun v9 => some (v9, (mset g 54 3 0)) else (sp_Model_isThere p0 (mset g 54 3 0)).bind fun v10 => if v10 = 0 then some (0, (mset g 54 3 0)) else some (1, (mset g 54 3 0)) else (sp_Model_of p0 p1 (mset g 54 3 0)).bind fun v12 => some (v12, (mset g 54 3 0))
theorem ok_Model_entry {γ : GG} {tt : Bool} {p0 : Int32} {p1 : Int32} {g : Mem} {res : Int32 × Mem} (h : sp_Model_entry p0 p1 g = some res) : CA γ M_Model_entry 3 [.ref 54, .int p0, .int p1] SH g tt (0, 0) (pI SH res.1 res.2 tt) := by
  refine CA.of mw_Model_entry.1 0 rfl ?_
  show WA γ M_Model_entry 3 0 [some (.ref 54), some (.int p0), some (.int p1)] [] SH g tt (0, 0) (pI SH res.1 res.2 tt)
  unfold sp_Model_entry at h
  refine w_aload_n (q := 1) d_Model_entry_0 rfl rfl ?_
  refine w_iconst (q := 2) (v := 0) d_Model_entry_1 rfl (by decide) ?_
  refine w_put (q := 5) (ci := 12) (j := 3) d_Model_entry_2 rfl (by decide) fl_Model_114 (by decide) (by decide) s_54 rfl rfl rfl rfl rfl rfl ?_
  refine w_aload_n (q := 6) d_Model_entry_5 rfl rfl ?_
  refine w_iload_n (q := 7) d_Model_entry_6 rfl rfl ?_
  obtain ⟨v1, hv, h⟩ := bnd h
  refine w_callVi (q := 10) (M' := M_Model_isEntry) (n' := 1) (k := 54) (As := [.int p0]) (sh' := SH) (b1 := (0, 0)) d_Model_entry_7 rfl mw_Model_isEntry (by decide) (by decide) ml_Model_341 (by decide) s_54 (by decide) rfl rfl rfl (leb rfl) (bz _) (fun _ => rfl) (ok_Model_isEntry hv) ?_
  by_cases c2 : v1 = 0
  · rw [if_pos c2] at h
    refine w_if_eq_t (q := 25) d_Model_entry_10 rfl c2 ?_
    refine w_aload_n (q := 26) d_Model_entry_25 rfl rfl ?_
    refine w_iconst (q := 27) (v := 1) d_Model_entry_26 rfl (by decide) ?_
    obtain ⟨v3, hv, h⟩ := bnd h
    refine w_callVi (q := 30) (M' := M_Model_fail) (n' := 0) (k := 54) (As := [.int 1]) (sh' := SH) (b1 := (0, 0)) d_Model_entry_27 rfl mw_Model_fail (by decide) (by decide) ml_Model_273 (by decide) s_54 (by decide) rfl rfl rfl (leb rfl) (bz _) (fun _ => rfl) (ok_Model_fail hv) ?_
    cases h
    exact w_ireturn d_Model_entry_30 rfl rfl ⟨rfl, rfl, rfl, rfl⟩
  · rw [if_neg c2] at h
    refine w_if_eq_f (q := 13) d_Model_entry_10 25 rfl rfl c2 ?_
    refine w_iload_n (q := 14) d_Model_entry_13 rfl rfl ?_
    refine w_i2l (q := 15) d_Model_entry_14 rfl ?_
    refine w_lconst (q := 16) (v := 0) d_Model_entry_15 rfl (by decide) ?_
    refine w_ldc2 (q := 19) d_Model_entry_16 rfl lo_Model_344 ?_
    obtain ⟨v4, hv, h⟩ := bnd h
    refine w_callSi (q := 22) (M' := M_Model_isIn) (n' := 0) (As := [.long (p1.toInt64), .long (0), .long (9)]) (sh' := SH) (b1 := (0, 0)) d_Model_entry_19 rfl mw_Model_isIn (by decide) (by decide) ml_Model_117 rfl rfl (leb rfl) (bz _) (fun _ => rfl) (ok_Model_isIn hv) ?_
    by_cases c5 : v4 = 0
    · rw [if_pos c5] at h
      refine w_if_ne_f (q := 25) d_Model_entry_22 31 rfl rfl c5 ?_
      refine w_aload_n (q := 26) d_Model_entry_25 rfl rfl ?_
      refine w_iconst (q := 27) (v := 1) d_Model_entry_26 rfl (by decide) ?_
      obtain ⟨v6, hv, h⟩ := bnd h
      refine w_callVi (q := 30) (M' := M_Model_fail) (n' := 0) (k := 54) (As := [.int 1]) (sh' := SH) (b1 := (0, 0)) d_Model_entry_27 rfl mw_Model_fail (by decide) (by decide) ml_Model_273 (by decide) s_54 (by decide) rfl rfl rfl (leb rfl) (bz _) (fun _ => rfl) (ok_Model_fail hv) ?_
      cases h
      exact w_ireturn d_Model_entry_30 rfl rfl ⟨rfl, rfl, rfl, rfl⟩
    · rw [if_neg c5] at h
      refine w_if_ne_t (q := 31) d_Model_entry_22 rfl c5 ?_
      refine w_iload_n (q := 32) d_Model_entry_31 rfl rfl ?_
      refine w_bipush (q := 34) (v := 8) d_Model_entry_32 rfl (by decide) ?_
      by_cases c7 : 8 ≤ p1
      · rw [if_pos c7] at h
        refine w_icmp_ge_t (q := 46) d_Model_entry_34 rfl c7 ?_
        refine w_iload_n (q := 47) d_Model_entry_46 rfl rfl ?_
        refine w_bipush (q := 49) (v := 9) d_Model_entry_47 rfl (by decide) ?_
        by_cases c8 : p1 = 9
        · rw [if_pos c8] at h
          refine w_icmp_ne_f (q := 52) d_Model_entry_49 60 rfl rfl c8 ?_
          refine w_aload_n (q := 53) d_Model_entry_52 rfl rfl ?_
          refine w_iload_n (q := 54) d_Model_entry_53 rfl rfl ?_
          obtain ⟨v9, hv, h⟩ := bnd h
          refine w_callVi (q := 57) (M' := M_Model_old) (n' := 2) (k := 54) (As := [.int p0]) (sh' := SH) (b1 := (0, 0)) d_Model_entry_54 rfl mw_Model_old (by decide) (by decide) ml_Model_318 (by decide) s_54 (by decide) rfl rfl rfl (leb rfl) (bz _) (fun _ => rfl) (ok_Model_old hv) ?_
          refine w_goto (q := 73) d_Model_entry_57 rfl ?_
          cases h
          exact w_ireturn d_Model_entry_73 rfl rfl ⟨rfl, rfl, rfl, rfl⟩
        · rw [if_neg c8] at h
          refine w_icmp_ne_t (q := 60) d_Model_entry_49 rfl c8 ?_
          refine w_aload_n (q := 61) d_Model_entry_60 rfl rfl ?_
          refine w_iload_n (q := 62) d_Model_entry_61 rfl rfl ?_
          obtain ⟨v10, hv, h⟩ := bnd h
          refine w_callVi (q := 65) (M' := M_Model_isThere) (n' := 1) (k := 54) (As := [.int p0]) (sh' := SH) (b1 := (0, 0)) d_Model_entry_62 rfl mw_Model_isThere (by decide) (by decide) ml_Model_315 (by decide) s_54 (by decide) rfl rfl rfl (leb rfl) (bz _) (fun _ => rfl) (ok_Model_isThere hv) ?_
          by_cases c11 : v10 = 0
          · rw [if_pos c11] at h
            refine w_if_eq_t (q := 72) d_Model_entry_65 rfl c11 ?_
            refine w_iconst (q := 73) (v := 0) d_Model_entry_72 rfl (by decide) ?_
            cases h
            exact w_ireturn d_Model_entry_73 rfl rfl ⟨rfl, rfl, rfl, rfl⟩
          · rw [if_neg c11] at h
            refine w_if_eq_f (q := 68) d_Model_entry_65 72 rfl rfl c11 ?_
            refine w_iconst (q := 69) (v := 1) d_Model_entry_68 rfl (by decide) ?_
            refine w_goto (q := 73) d_Model_entry_69 rfl ?_
            cases h
            exact w_ireturn d_Model_entry_73 rfl rfl ⟨rfl, rfl, rfl, rfl⟩
      · rw [if_neg c7] at h
        refine w_icmp_ge_f (q := 37) d_Model_entry_34 46 rfl rfl c7 ?_
        refine w_aload_n (q := 38) d_Model_entry_37 rfl rfl ?_
        refine w_iload_n (q := 39) d_Model_entry_38 rfl rfl ?_
        refine w_iload_n (q := 40) d_Model_entry_39 rfl rfl ?_
        obtain ⟨v12, hv, h⟩ := bnd h
        refine w_callVi (q := 43) (M' := M_Model_of) (n' := 0) (k := 54) (As := [.int p0, .int p1]) (sh' := SH) (b1 := (0, 0)) d_Model_entry_40 rfl mw_Model_of (by decide) (by decide) ml_Model_305 (by decide) s_54 (by decide) rfl rfl rfl (leb rfl) (bz _) (fun _ => rfl) (ok_Model_of hv) ?_
        refine w_goto (q := 73) d_Model_entry_43 rfl ?_
        cases h
        exact w_ireturn d_Model_entry_73 rfl rfl ⟨rfl, rfl, rfl, rfl⟩
def sp_Model_holders (F : Nat) (p0 : Int32) (g : Mem) : Option (Int32 × Mem) := (sp_Model_isEntry p0 (mset g 54 3 0)).bind fun v1 => if v1 = 0 then (sp_Model_fail 1 (mset g 54 3 0)).bind fun v3 => some (v3.1, v3.2) else (sp_Model_of p0 7 (mset g 54 3 0)).bind fun v4 => (sp_Model_holdersOf F v4 (mset g 54 3 0)).bind fun v5 => some (v5, (mset g 54 3 0))
theorem ok_Model_holders {γ : GG} {tt : Bool} {F : Nat} {p0 : Int32} {g : Mem} {res : Int32 × Mem} (h : sp_Model_holders F p0 g = some res) : CA γ M_Model_holders 3 [.ref 54, .int p0] SH g tt (0, 0) (pI SH res.1 res.2 tt) := by
  refine CA.of mw_Model_holders.1 0 rfl ?_
  show WA γ M_Model_holders 3 0 [some (.ref 54), some (.int p0)] [] SH g tt (0, 0) (pI SH res.1 res.2 tt)
  unfold sp_Model_holders at h
  refine w_aload_n (q := 1) d_Model_holders_0 rfl rfl ?_
  refine w_iconst (q := 2) (v := 0) d_Model_holders_1 rfl (by decide) ?_
  refine w_put (q := 5) (ci := 12) (j := 3) d_Model_holders_2 rfl (by decide) fl_Model_114 (by decide) (by decide) s_54 rfl rfl rfl rfl rfl rfl ?_
  refine w_aload_n (q := 6) d_Model_holders_5 rfl rfl ?_
  refine w_iload_n (q := 7) d_Model_holders_6 rfl rfl ?_
  obtain ⟨v1, hv, h⟩ := bnd h
  refine w_callVi (q := 10) (M' := M_Model_isEntry) (n' := 1) (k := 54) (As := [.int p0]) (sh' := SH) (b1 := (0, 0)) d_Model_holders_7 rfl mw_Model_isEntry (by decide) (by decide) ml_Model_341 (by decide) s_54 (by decide) rfl rfl rfl (leb rfl) (bz _) (fun _ => rfl) (ok_Model_isEntry hv) ?_
  by_cases c2 : v1 = 0
  · rw [if_pos c2] at h
    refine w_if_eq_t (q := 27) d_Model_holders_10 rfl c2 ?_
    refine w_aload_n (q := 28) d_Model_holders_27 rfl rfl ?_
    refine w_iconst (q := 29) (v := 1) d_Model_holders_28 rfl (by decide) ?_
    obtain ⟨v3, hv, h⟩ := bnd h
    refine w_callVi (q := 32) (M' := M_Model_fail) (n' := 0) (k := 54) (As := [.int 1]) (sh' := SH) (b1 := (0, 0)) d_Model_holders_29 rfl mw_Model_fail (by decide) (by decide) ml_Model_273 (by decide) s_54 (by decide) rfl rfl rfl (leb rfl) (bz _) (fun _ => rfl) (ok_Model_fail hv) ?_
    cases h
    exact w_ireturn d_Model_holders_32 rfl rfl ⟨rfl, rfl, rfl, rfl⟩
  · rw [if_neg c2] at h
    refine w_if_eq_f (q := 13) d_Model_holders_10 27 rfl rfl c2 ?_
    refine w_aload_n (q := 14) d_Model_holders_13 rfl rfl ?_
    refine w_aload_n (q := 15) d_Model_holders_14 rfl rfl ?_
    refine w_iload_n (q := 16) d_Model_holders_15 rfl rfl ?_
    refine w_bipush (q := 18) (v := 7) d_Model_holders_16 rfl (by decide) ?_
    obtain ⟨v4, hv, h⟩ := bnd h
    refine w_callVi (q := 21) (M' := M_Model_of) (n' := 0) (k := 54) (As := [.int p0, .int 7]) (sh' := SH) (b1 := (0, 0)) d_Model_holders_18 rfl mw_Model_of (by decide) (by decide) ml_Model_305 (by decide) s_54 (by decide) rfl rfl rfl (leb rfl) (bz _) (fun _ => rfl) (ok_Model_of hv) ?_
    obtain ⟨v5, hv, h⟩ := bnd h
    refine w_callVi (q := 24) (M' := M_Model_holdersOf) (n' := 2) (k := 54) (As := [.int v4]) (sh' := SH) (b1 := (0, 0)) d_Model_holders_21 rfl mw_Model_holdersOf (by decide) (by decide) ml_Model_346 (by decide) s_54 (by decide) rfl rfl rfl (leb rfl) (bz _) (fun _ => rfl) (ok_Model_holdersOf hv) ?_
    refine w_goto (q := 32) d_Model_holders_24 rfl ?_
    cases h
    exact w_ireturn d_Model_holders_32 rfl rfl ⟨rfl, rfl, rfl, rfl⟩
def sp_Model_reckon (p0 : Int32) (p1 : Int32) (p2 : Int32) (g : Mem) : Option (Int32) := if p0 = (-26) then if p1 = 0 then some 0 else if p2 = 0 then some 0 else some 1 else if p0 = (-25) then if p1 = p2 then some 1 else some 0 else if p0 = (-24) then if p2 ≤ p1 then some 0 else some 1 else if p0 = (-23) then if p2 = 0 then some 0 else (dv p1 p2).bind fun v10 => some v10 else if p0 = (-22) then some (p1 * p2) else if p0 = (-21) then some (p1 - p2) else if p0 = (-20) then some (p1 + p2) else if p1 = 0 then if p2 = 0 then some 0 else some 1 else some 1
theorem ok_Model_reckon {γ : GG} {sh : List Sh} {tt : Bool} {p0 : Int32} {p1 : Int32} {p2 : Int32} {g : Mem} {res : Int32} (h : sp_Model_reckon p0 p1 p2 g = some res) : CA γ M_Model_reckon 0 [.int p0, .int p1, .int p2] sh g tt (0, 0) (pI sh res g tt) := by
  refine CA.of mw_Model_reckon.1 0 rfl ?_
  show WA γ M_Model_reckon 0 0 [some (.int p0), some (.int p1), some (.int p2)] [] sh g tt (0, 0) (pI sh res g tt)
  unfold sp_Model_reckon at h
  refine w_iload_n (q := 1) d_Model_reckon_0 rfl rfl ?_
  by_cases c1 : p0 = (-26)
  · rw [if_pos c1] at h
    refine w_tabIn (q := 90) (off := 89) d_Model_reckon_1 (by rw [c1]; decide) (by rw [c1]; decide) (by rw [c1]; decide +kernel) rfl ?_
    refine w_iload_n (q := 91) d_Model_reckon_90 rfl rfl ?_
    by_cases c2 : p1 = 0
    · rw [if_pos c2] at h
      refine w_if_eq_t (q := 102) d_Model_reckon_91 rfl c2 ?_
      refine w_iconst (q := 103) (v := 0) d_Model_reckon_102 rfl (by decide) ?_
      cases h
      exact w_ireturn d_Model_reckon_103 rfl rfl ⟨rfl, rfl, rfl, rfl⟩
    · rw [if_neg c2] at h
      refine w_if_eq_f (q := 94) d_Model_reckon_91 102 rfl rfl c2 ?_
      refine w_iload_n (q := 95) d_Model_reckon_94 rfl rfl ?_
      by_cases c3 : p2 = 0
      · rw [if_pos c3] at h
        refine w_if_eq_t (q := 102) d_Model_reckon_95 rfl c3 ?_
        refine w_iconst (q := 103) (v := 0) d_Model_reckon_102 rfl (by decide) ?_
        cases h
        exact w_ireturn d_Model_reckon_103 rfl rfl ⟨rfl, rfl, rfl, rfl⟩
      · rw [if_neg c3] at h
        refine w_if_eq_f (q := 98) d_Model_reckon_95 102 rfl rfl c3 ?_
        refine w_iconst (q := 99) (v := 1) d_Model_reckon_98 rfl (by decide) ?_
        refine w_goto (q := 103) d_Model_reckon_99 rfl ?_
        cases h
        exact w_ireturn d_Model_reckon_103 rfl rfl ⟨rfl, rfl, rfl, rfl⟩
  rw [if_neg c1] at h
  by_cases c4 : p0 = (-25)
  · rw [if_pos c4] at h
    refine w_tabIn (q := 79) (off := 78) d_Model_reckon_1 (by rw [c4]; decide) (by rw [c4]; decide) (by rw [c4]; decide +kernel) rfl ?_
    refine w_iload_n (q := 80) d_Model_reckon_79 rfl rfl ?_
    refine w_iload_n (q := 81) d_Model_reckon_80 rfl rfl ?_
    by_cases c5 : p1 = p2
    · rw [if_pos c5] at h
      refine w_icmp_ne_f (q := 84) d_Model_reckon_81 88 rfl rfl c5 ?_
      refine w_iconst (q := 85) (v := 1) d_Model_reckon_84 rfl (by decide) ?_
      refine w_goto (q := 89) d_Model_reckon_85 rfl ?_
      cases h
      exact w_ireturn d_Model_reckon_89 rfl rfl ⟨rfl, rfl, rfl, rfl⟩
    · rw [if_neg c5] at h
      refine w_icmp_ne_t (q := 88) d_Model_reckon_81 rfl c5 ?_
      refine w_iconst (q := 89) (v := 0) d_Model_reckon_88 rfl (by decide) ?_
      cases h
      exact w_ireturn d_Model_reckon_89 rfl rfl ⟨rfl, rfl, rfl, rfl⟩
  rw [if_neg c4] at h
  by_cases c6 : p0 = (-24)
  · rw [if_pos c6] at h
    refine w_tabIn (q := 68) (off := 67) d_Model_reckon_1 (by rw [c6]; decide) (by rw [c6]; decide) (by rw [c6]; decide +kernel) rfl ?_
    refine w_iload_n (q := 69) d_Model_reckon_68 rfl rfl ?_
    refine w_iload_n (q := 70) d_Model_reckon_69 rfl rfl ?_
    by_cases c7 : p2 ≤ p1
    · rw [if_pos c7] at h
      refine w_icmp_ge_t (q := 77) d_Model_reckon_70 rfl c7 ?_
      refine w_iconst (q := 78) (v := 0) d_Model_reckon_77 rfl (by decide) ?_
      cases h
      exact w_ireturn d_Model_reckon_78 rfl rfl ⟨rfl, rfl, rfl, rfl⟩
    · rw [if_neg c7] at h
      refine w_icmp_ge_f (q := 73) d_Model_reckon_70 77 rfl rfl c7 ?_
      refine w_iconst (q := 74) (v := 1) d_Model_reckon_73 rfl (by decide) ?_
      refine w_goto (q := 78) d_Model_reckon_74 rfl ?_
      cases h
      exact w_ireturn d_Model_reckon_78 rfl rfl ⟨rfl, rfl, rfl, rfl⟩
  rw [if_neg c6] at h
  by_cases c8 : p0 = (-23)
  · rw [if_pos c8] at h
    refine w_tabIn (q := 56) (off := 55) d_Model_reckon_1 (by rw [c8]; decide) (by rw [c8]; decide) (by rw [c8]; decide +kernel) rfl ?_
    refine w_iload_n (q := 57) d_Model_reckon_56 rfl rfl ?_
    by_cases c9 : p2 = 0
    · rw [if_pos c9] at h
      refine w_if_ne_f (q := 60) d_Model_reckon_57 64 rfl rfl c9 ?_
      refine w_iconst (q := 61) (v := 0) d_Model_reckon_60 rfl (by decide) ?_
      refine w_goto (q := 67) d_Model_reckon_61 rfl ?_
      cases h
      exact w_ireturn d_Model_reckon_67 rfl rfl ⟨rfl, rfl, rfl, rfl⟩
    · rw [if_neg c9] at h
      refine w_if_ne_t (q := 64) d_Model_reckon_57 rfl c9 ?_
      refine w_iload_n (q := 65) d_Model_reckon_64 rfl rfl ?_
      refine w_iload_n (q := 66) d_Model_reckon_65 rfl rfl ?_
      obtain ⟨v10, hv, h⟩ := bnd h
      obtain ⟨hz, hv⟩ := dv_ok hv
      refine w_idiv (q := 67) d_Model_reckon_66 rfl hz ?_
      rw [hv]
      cases h
      exact w_ireturn d_Model_reckon_67 rfl rfl ⟨rfl, rfl, rfl, rfl⟩
  rw [if_neg c8] at h
  by_cases c11 : p0 = (-22)
  · rw [if_pos c11] at h
    refine w_tabIn (q := 52) (off := 51) d_Model_reckon_1 (by rw [c11]; decide) (by rw [c11]; decide) (by rw [c11]; decide +kernel) rfl ?_
    refine w_iload_n (q := 53) d_Model_reckon_52 rfl rfl ?_
    refine w_iload_n (q := 54) d_Model_reckon_53 rfl rfl ?_
    refine w_imul (q := 55) d_Model_reckon_54 rfl ?_
    cases h
    exact w_ireturn d_Model_reckon_55 rfl rfl ⟨rfl, rfl, rfl, rfl⟩
  rw [if_neg c11] at h
  by_cases c12 : p0 = (-21)
  · rw [if_pos c12] at h
    refine w_tabIn (q := 48) (off := 47) d_Model_reckon_1 (by rw [c12]; decide) (by rw [c12]; decide) (by rw [c12]; decide +kernel) rfl ?_
    refine w_iload_n (q := 49) d_Model_reckon_48 rfl rfl ?_
    refine w_iload_n (q := 50) d_Model_reckon_49 rfl rfl ?_
    refine w_isub (q := 51) d_Model_reckon_50 rfl ?_
    cases h
    exact w_ireturn d_Model_reckon_51 rfl rfl ⟨rfl, rfl, rfl, rfl⟩
  rw [if_neg c12] at h
  by_cases c13 : p0 = (-20)
  · rw [if_pos c13] at h
    refine w_tabIn (q := 44) (off := 43) d_Model_reckon_1 (by rw [c13]; decide) (by rw [c13]; decide) (by rw [c13]; decide +kernel) rfl ?_
    refine w_iload_n (q := 45) d_Model_reckon_44 rfl rfl ?_
    refine w_iload_n (q := 46) d_Model_reckon_45 rfl rfl ?_
    refine w_iadd (q := 47) d_Model_reckon_46 rfl ?_
    cases h
    exact w_ireturn d_Model_reckon_47 rfl rfl ⟨rfl, rfl, rfl, rfl⟩
  rw [if_neg c13] at h
  have hsw : p0.toInt < -26 ∨ -20 < p0.toInt := by
    refine sw_out (fun c h1 h2 e => ?_)
    have h9 : c = -26 ∨ c = -25 ∨ c = -24 ∨ c = -23 ∨ c = -22 ∨ c = -21 ∨ c = -20 := by omega
    rcases h9 with rfl | rfl | rfl | rfl | rfl | rfl | rfl
    · exact c1 (Int32.toInt_inj.mp (e.trans (by decide)))
    · exact c4 (Int32.toInt_inj.mp (e.trans (by decide)))
    · exact c6 (Int32.toInt_inj.mp (e.trans (by decide)))
    · exact c8 (Int32.toInt_inj.mp (e.trans (by decide)))
    · exact c11 (Int32.toInt_inj.mp (e.trans (by decide)))
    · exact c12 (Int32.toInt_inj.mp (e.trans (by decide)))
    · exact c13 (Int32.toInt_inj.mp (e.trans (by decide)))
  refine w_tabOut (q := 104) d_Model_reckon_1 hsw rfl ?_
  refine w_iload_n (q := 105) d_Model_reckon_104 rfl rfl ?_
  by_cases c14 : p1 = 0
  · rw [if_pos c14] at h
    refine w_if_ne_f (q := 108) d_Model_reckon_105 112 rfl rfl c14 ?_
    refine w_iload_n (q := 109) d_Model_reckon_108 rfl rfl ?_
    by_cases c15 : p2 = 0
    · rw [if_pos c15] at h
      refine w_if_eq_t (q := 116) d_Model_reckon_109 rfl c15 ?_
      refine w_iconst (q := 117) (v := 0) d_Model_reckon_116 rfl (by decide) ?_
      cases h
      exact w_ireturn d_Model_reckon_117 rfl rfl ⟨rfl, rfl, rfl, rfl⟩
    · rw [if_neg c15] at h
      refine w_if_eq_f (q := 112) d_Model_reckon_109 116 rfl rfl c15 ?_
      refine w_iconst (q := 113) (v := 1) d_Model_reckon_112 rfl (by decide) ?_
      refine w_goto (q := 117) d_Model_reckon_113 rfl ?_
      cases h
      exact w_ireturn d_Model_reckon_117 rfl rfl ⟨rfl, rfl, rfl, rfl⟩
  · rw [if_neg c14] at h
    refine w_if_ne_t (q := 112) d_Model_reckon_105 rfl c14 ?_
    refine w_iconst (q := 113) (v := 1) d_Model_reckon_112 rfl (by decide) ?_
    refine w_goto (q := 117) d_Model_reckon_113 rfl ?_
    cases h
    exact w_ireturn d_Model_reckon_117 rfl rfl ⟨rfl, rfl, rfl, rfl⟩
def PL_Model_valueNow_4 (γ : GG) (tt : Bool) (g : Mem) (b : Nat × Nat) (Φ : PO) (s : Int32 × Int32 × Mem) : Prop := WA γ M_Model_valueNow 1 4 [some (.ref 54), some (.int s.1), some (.int s.2.1), none] [] SH s.2.2 tt b Φ
def QL_Model_valueNow_4 (γ : GG) (tt : Bool) (g : Mem) (b : Nat × Nat) (Φ : PO) (x : (Mem)) : Prop := WA γ M_Model_valueNow 1 123 [some (.ref 54), none, none, none] [] SH x tt b Φ
def st_Model_valueNow_4 (F : Nat) (g : Mem) (s : Int32 × Int32 × Mem) : Option ((Int32 × Int32 × Mem) ⊕ ((Mem))) := (rd s.2.2 58 12 5).bind fun v1 => if v1 ≤ s.2.1 then some (.inr s.2.2) else (rd s.2.2 63 1400 s.2.1).bind fun v3 => if v3 ≤ (-20) then if v3 = (-28) then (rd s.2.2 69 64 (s.1 - 1)).bind fun v6 => if v6 = 0 then (wr s.2.2 69 64 (s.1 - 1) 1).bind fun g8 => some (.inl (s.1, s.2.1 + 1, g8)) else (wr s.2.2 69 64 (s.1 - 1) 0).bind fun g9 => some (.inl (s.1, s.2.1 + 1, g9)) else (rd s.2.2 69 64 ((s.1 + (-1)) - 1)).bind fun v10 => (rd s.2.2 69 64 (s.1 + (-1))).bind fun v11 => (sp_Model_reckon v3 v10 v11 s.2.2).bind fun v12 => (wr s.2.2 69 64 ((s.1 + (-1)) - 1) v12).bind fun g13 => some (.inl (s.1 + (-1), s.2.1 + 1, g13)) else if v3 < 0 then (rd s.2.2 68 7 ((-1) - v3)).bind fun v15 => (wr s.2.2 69 64 s.1 v15).bind fun g16 => some (.inl (s.1 + 1, s.2.1 + 1, g16)) else (wr s.2.2 69 64 s.1 v3).bind fun g17 => some (.inl (s.1 + 1, s.2.1 + 1, g17))
theorem kl_Model_valueNow_4 {γ : GG} {tt : Bool} {F : Nat} {g : Mem} {b : Nat × Nat} {Φ : PO} : ∀ (s : Int32 × Int32 × Mem) (r : (Int32 × Int32 × Mem) ⊕ ((Mem))), st_Model_valueNow_4 F g s = some r → RQ (PL_Model_valueNow_4 γ tt g b Φ) (QL_Model_valueNow_4 γ tt g b Φ) r → PL_Model_valueNow_4 γ tt g b Φ s := by
  intro s r h hr
  unfold st_Model_valueNow_4 at h
  unfold PL_Model_valueNow_4
  refine w_iload_n (q := 5) d_Model_valueNow_4 rfl rfl ?_
  refine w_aload_n (q := 6) d_Model_valueNow_5 rfl rfl ?_
  refine w_get (q := 9) (ci := 12) (j := 4) d_Model_valueNow_6 rfl (by decide) fl_Model_51 (by decide) (by decide) s_54 rfl rfl ?_
  refine w_iconst (q := 10) (v := 5) d_Model_valueNow_9 rfl (by decide) ?_
  obtain ⟨v1, hv, h⟩ := bnd h
  obtain ⟨hi, hv⟩ := rd_ok hv
  refine w_iald (q := 11) (t := 0) d_Model_valueNow_10 rfl a_58.2 a_58.1 hi rfl ?_
  rw [hv]
  by_cases c2 : v1 ≤ s.2.1
  · rw [if_pos c2] at h
    refine w_icmp_ge_t (q := 123) d_Model_valueNow_11 rfl c2 ?_
    cases h
    exact w_ls (by exact (And.intro rfl trivial)) hr
  · rw [if_neg c2] at h
    refine w_icmp_ge_f (q := 14) d_Model_valueNow_11 123 rfl rfl c2 ?_
    refine w_aload_n (q := 15) d_Model_valueNow_14 rfl rfl ?_
    refine w_get (q := 18) (ci := 12) (j := 9) d_Model_valueNow_15 rfl (by decide) fl_Model_65 (by decide) (by decide) s_54 rfl rfl ?_
    refine w_iload_n (q := 19) d_Model_valueNow_18 rfl rfl ?_
    obtain ⟨v3, hv, h⟩ := bnd h
    obtain ⟨hi, hv⟩ := rd_ok hv
    refine w_iald (q := 20) (t := 0) d_Model_valueNow_19 rfl a_63.2 a_63.1 hi rfl ?_
    rw [hv]
    refine w_istore_n (q := 21) (ls' := [some (.ref 54), some (.int s.1), some (.int s.2.1), some (.int v3)]) d_Model_valueNow_20 rfl (by decide) rfl rfl ?_
    refine w_iload_n (q := 22) d_Model_valueNow_21 rfl rfl ?_
    refine w_bipush (q := 24) (v := (-20)) d_Model_valueNow_22 rfl (by decide) ?_
    by_cases c4 : v3 ≤ (-20)
    · rw [if_pos c4] at h
      refine w_icmp_le_t (q := 55) d_Model_valueNow_24 rfl c4 ?_
      refine w_iload_n (q := 56) d_Model_valueNow_55 rfl rfl ?_
      refine w_bipush (q := 58) (v := (-28)) d_Model_valueNow_56 rfl (by decide) ?_
      by_cases c5 : v3 = (-28)
      · rw [if_pos c5] at h
        refine w_icmp_ne_f (q := 61) d_Model_valueNow_58 88 rfl rfl c5 ?_
        refine w_aload_n (q := 62) d_Model_valueNow_61 rfl rfl ?_
        refine w_get (q := 65) (ci := 12) (j := 30) d_Model_valueNow_62 rfl (by decide) fl_Model_87 (by decide) (by decide) s_54 rfl rfl ?_
        refine w_iload_n (q := 66) d_Model_valueNow_65 rfl rfl ?_
        refine w_iconst (q := 67) (v := 1) d_Model_valueNow_66 rfl (by decide) ?_
        refine w_isub (q := 68) d_Model_valueNow_67 rfl ?_
        refine w_aload_n (q := 69) d_Model_valueNow_68 rfl rfl ?_
        refine w_get (q := 72) (ci := 12) (j := 30) d_Model_valueNow_69 rfl (by decide) fl_Model_87 (by decide) (by decide) s_54 rfl rfl ?_
        refine w_iload_n (q := 73) d_Model_valueNow_72 rfl rfl ?_
        refine w_iconst (q := 74) (v := 1) d_Model_valueNow_73 rfl (by decide) ?_
        refine w_isub (q := 75) d_Model_valueNow_74 rfl ?_
        obtain ⟨v6, hv, h⟩ := bnd h
        obtain ⟨hi, hv⟩ := rd_ok hv
        refine w_iald (q := 76) (t := 0) d_Model_valueNow_75 rfl a_69.2 a_69.1 hi rfl ?_
        rw [hv]
        by_cases c7 : v6 = 0
        · rw [if_pos c7] at h
          refine w_if_eq_t (q := 83) d_Model_valueNow_76 rfl c7 ?_
          refine w_iconst (q := 84) (v := 1) d_Model_valueNow_83 rfl (by decide) ?_
          obtain ⟨g8, hv, h⟩ := bnd h
          obtain ⟨hi, hv⟩ := wr_ok hv
          refine w_iast (q := 85) d_Model_valueNow_84 rfl a_69.2 a_69.1 hi hv ?_
          refine w_goto (q := 117) d_Model_valueNow_85 rfl ?_
          refine w_iinc (q := 120) (ls' := [some (.ref 54), some (.int s.1), some (.int (s.2.1 + 1)), some (.int v3)]) d_Model_valueNow_117 rfl (by decide) rfl rfl rfl ?_
          refine w_goto (q := 4) d_Model_valueNow_120 rfl ?_
          cases h
          exact w_ls (by exact (And.intro rfl (And.intro rfl (And.intro rfl trivial)))) hr
        · rw [if_neg c7] at h
          refine w_if_eq_f (q := 79) d_Model_valueNow_76 83 rfl rfl c7 ?_
          refine w_iconst (q := 80) (v := 0) d_Model_valueNow_79 rfl (by decide) ?_
          refine w_goto (q := 84) d_Model_valueNow_80 rfl ?_
          obtain ⟨g9, hv, h⟩ := bnd h
          obtain ⟨hi, hv⟩ := wr_ok hv
          refine w_iast (q := 85) d_Model_valueNow_84 rfl a_69.2 a_69.1 hi hv ?_
          refine w_goto (q := 117) d_Model_valueNow_85 rfl ?_
          refine w_iinc (q := 120) (ls' := [some (.ref 54), some (.int s.1), some (.int (s.2.1 + 1)), some (.int v3)]) d_Model_valueNow_117 rfl (by decide) rfl rfl rfl ?_
          refine w_goto (q := 4) d_Model_valueNow_120 rfl ?_
          cases h
          exact w_ls (by exact (And.intro rfl (And.intro rfl (And.intro rfl trivial)))) hr
      · rw [if_neg c5] at h
        refine w_icmp_ne_t (q := 88) d_Model_valueNow_58 rfl c5 ?_
        refine w_iinc (q := 91) (ls' := [some (.ref 54), some (.int (s.1 + (-1))), some (.int s.2.1), some (.int v3)]) d_Model_valueNow_88 rfl (by decide) rfl rfl rfl ?_
        refine w_aload_n (q := 92) d_Model_valueNow_91 rfl rfl ?_
        refine w_get (q := 95) (ci := 12) (j := 30) d_Model_valueNow_92 rfl (by decide) fl_Model_87 (by decide) (by decide) s_54 rfl rfl ?_
        refine w_iload_n (q := 96) d_Model_valueNow_95 rfl rfl ?_
        refine w_iconst (q := 97) (v := 1) d_Model_valueNow_96 rfl (by decide) ?_
        refine w_isub (q := 98) d_Model_valueNow_97 rfl ?_
        refine w_iload_n (q := 99) d_Model_valueNow_98 rfl rfl ?_
        refine w_aload_n (q := 100) d_Model_valueNow_99 rfl rfl ?_
        refine w_get (q := 103) (ci := 12) (j := 30) d_Model_valueNow_100 rfl (by decide) fl_Model_87 (by decide) (by decide) s_54 rfl rfl ?_
        refine w_iload_n (q := 104) d_Model_valueNow_103 rfl rfl ?_
        refine w_iconst (q := 105) (v := 1) d_Model_valueNow_104 rfl (by decide) ?_
        refine w_isub (q := 106) d_Model_valueNow_105 rfl ?_
        obtain ⟨v10, hv, h⟩ := bnd h
        obtain ⟨hi, hv⟩ := rd_ok hv
        refine w_iald (q := 107) (t := 0) d_Model_valueNow_106 rfl a_69.2 a_69.1 hi rfl ?_
        rw [hv]
        refine w_aload_n (q := 108) d_Model_valueNow_107 rfl rfl ?_
        refine w_get (q := 111) (ci := 12) (j := 30) d_Model_valueNow_108 rfl (by decide) fl_Model_87 (by decide) (by decide) s_54 rfl rfl ?_
        refine w_iload_n (q := 112) d_Model_valueNow_111 rfl rfl ?_
        obtain ⟨v11, hv, h⟩ := bnd h
        obtain ⟨hi, hv⟩ := rd_ok hv
        refine w_iald (q := 113) (t := 0) d_Model_valueNow_112 rfl a_69.2 a_69.1 hi rfl ?_
        rw [hv]
        obtain ⟨v12, hv, h⟩ := bnd h
        refine w_callSi (q := 116) (M' := M_Model_reckon) (n' := 0) (As := [.int v3, .int v10, .int v11]) (sh' := SH) (b1 := (0, 0)) d_Model_valueNow_113 rfl mw_Model_reckon (by decide) (by decide) ml_Model_349 rfl rfl (leb rfl) (bz _) (fun _ => rfl) (ok_Model_reckon hv) ?_
        obtain ⟨g13, hv, h⟩ := bnd h
        obtain ⟨hi, hv⟩ := wr_ok hv
        refine w_iast (q := 117) d_Model_valueNow_116 rfl a_69.2 a_69.1 hi hv ?_
        refine w_iinc (q := 120) (ls' := [some (.ref 54), some (.int (s.1 + (-1))), some (.int (s.2.1 + 1)), some (.int v3)]) d_Model_valueNow_117 rfl (by decide) rfl rfl rfl ?_
        refine w_goto (q := 4) d_Model_valueNow_120 rfl ?_
        cases h
        exact w_ls (by exact (And.intro rfl (And.intro rfl (And.intro rfl trivial)))) hr
    · rw [if_neg c4] at h
      refine w_icmp_le_f (q := 27) d_Model_valueNow_24 55 rfl rfl c4 ?_
      refine w_aload_n (q := 28) d_Model_valueNow_27 rfl rfl ?_
      refine w_get (q := 31) (ci := 12) (j := 30) d_Model_valueNow_28 rfl (by decide) fl_Model_87 (by decide) (by decide) s_54 rfl rfl ?_
      refine w_iload_n (q := 32) d_Model_valueNow_31 rfl rfl ?_
      refine w_iload_n (q := 33) d_Model_valueNow_32 rfl rfl ?_
      by_cases c14 : v3 < 0
      · rw [if_pos c14] at h
        refine w_if_lt_t (q := 40) d_Model_valueNow_33 rfl c14 ?_
        refine w_aload_n (q := 41) d_Model_valueNow_40 rfl rfl ?_
        refine w_get (q := 44) (ci := 12) (j := 29) d_Model_valueNow_41 rfl (by decide) fl_Model_84 (by decide) (by decide) s_54 rfl rfl ?_
        refine w_iconst (q := 45) (v := (-1)) d_Model_valueNow_44 rfl (by decide) ?_
        refine w_iload_n (q := 46) d_Model_valueNow_45 rfl rfl ?_
        refine w_isub (q := 47) d_Model_valueNow_46 rfl ?_
        obtain ⟨v15, hv, h⟩ := bnd h
        obtain ⟨hi, hv⟩ := rd_ok hv
        refine w_iald (q := 48) (t := 0) d_Model_valueNow_47 rfl a_68.2 a_68.1 hi rfl ?_
        rw [hv]
        obtain ⟨g16, hv, h⟩ := bnd h
        obtain ⟨hi, hv⟩ := wr_ok hv
        refine w_iast (q := 49) d_Model_valueNow_48 rfl a_69.2 a_69.1 hi hv ?_
        refine w_iinc (q := 52) (ls' := [some (.ref 54), some (.int (s.1 + 1)), some (.int s.2.1), some (.int v3)]) d_Model_valueNow_49 rfl (by decide) rfl rfl rfl ?_
        refine w_goto (q := 117) d_Model_valueNow_52 rfl ?_
        refine w_iinc (q := 120) (ls' := [some (.ref 54), some (.int (s.1 + 1)), some (.int (s.2.1 + 1)), some (.int v3)]) d_Model_valueNow_117 rfl (by decide) rfl rfl rfl ?_
        refine w_goto (q := 4) d_Model_valueNow_120 rfl ?_
        cases h
        exact w_ls (by exact (And.intro rfl (And.intro rfl (And.intro rfl trivial)))) hr
      · rw [if_neg c14] at h
        refine w_if_lt_f (q := 36) d_Model_valueNow_33 40 rfl rfl c14 ?_
        refine w_iload_n (q := 37) d_Model_valueNow_36 rfl rfl ?_
        refine w_goto (q := 48) d_Model_valueNow_37 rfl ?_
        obtain ⟨g17, hv, h⟩ := bnd h
        obtain ⟨hi, hv⟩ := wr_ok hv
        refine w_iast (q := 49) d_Model_valueNow_48 rfl a_69.2 a_69.1 hi hv ?_
        refine w_iinc (q := 52) (ls' := [some (.ref 54), some (.int (s.1 + 1)), some (.int s.2.1), some (.int v3)]) d_Model_valueNow_49 rfl (by decide) rfl rfl rfl ?_
        refine w_goto (q := 117) d_Model_valueNow_52 rfl ?_
        refine w_iinc (q := 120) (ls' := [some (.ref 54), some (.int (s.1 + 1)), some (.int (s.2.1 + 1)), some (.int v3)]) d_Model_valueNow_117 rfl (by decide) rfl rfl rfl ?_
        refine w_goto (q := 4) d_Model_valueNow_120 rfl ?_
        cases h
        exact w_ls (by exact (And.intro rfl (And.intro rfl (And.intro rfl trivial)))) hr
def sp_Model_valueNow (F : Nat) (g : Mem) : Option (Int32 × Mem) := (lpO (st_Model_valueNow_4 F g) F (0, 0, g)).bind fun x18 => (rd x18 69 64 0).bind fun v19 => some (v19, x18)
theorem ok_Model_valueNow {γ : GG} {tt : Bool} {F : Nat} {g : Mem} {res : Int32 × Mem} (h : sp_Model_valueNow F g = some res) : CA γ M_Model_valueNow 1 [.ref 54] SH g tt (0, 0) (pI SH res.1 res.2 tt) := by
  refine CA.of mw_Model_valueNow.1 3 rfl ?_
  show WA γ M_Model_valueNow 1 0 [some (.ref 54), none, none, none] [] SH g tt (0, 0) (pI SH res.1 res.2 tt)
  unfold sp_Model_valueNow at h
  refine w_iconst (q := 1) (v := 0) d_Model_valueNow_0 rfl (by decide) ?_
  refine w_istore_n (q := 2) (ls' := [some (.ref 54), some (.int 0), none, none]) d_Model_valueNow_1 rfl (by decide) rfl rfl ?_
  refine w_iconst (q := 3) (v := 0) d_Model_valueNow_2 rfl (by decide) ?_
  refine w_istore_n (q := 4) (ls' := [some (.ref 54), some (.int 0), some (.int 0), none]) d_Model_valueNow_3 rfl (by decide) rfl rfl ?_
  obtain ⟨x18, hx, h⟩ := bnd h
  refine w_ls (ls' := [some (.ref 54), some (.int 0), some (.int 0), none]) (And.intro rfl (And.intro rfl (And.intro rfl trivial))) ?_
  show PL_Model_valueNow_4 γ tt g _ _ (0, 0, g)
  refine lp_ok (kl_Model_valueNow_4) F _ x18 hx ?_
  unfold QL_Model_valueNow_4
  refine w_aload_n (q := 124) d_Model_valueNow_123 rfl rfl ?_
  refine w_get (q := 127) (ci := 12) (j := 30) d_Model_valueNow_124 rfl (by decide) fl_Model_87 (by decide) (by decide) s_54 rfl rfl ?_
  refine w_iconst (q := 128) (v := 0) d_Model_valueNow_127 rfl (by decide) ?_
  obtain ⟨v19, hv, h⟩ := bnd h
  obtain ⟨hi, hv⟩ := rd_ok hv
  refine w_iald (q := 129) (t := 0) d_Model_valueNow_128 rfl a_69.2 a_69.1 hi rfl ?_
  rw [hv]
  cases h
  exact w_ireturn d_Model_valueNow_129 rfl rfl ⟨rfl, rfl, rfl, rfl⟩
def sp_Model_may_j52 (F : Nat) (p0 : Int32) (p1 : Int32) (g : Mem) (m0 : Mem) (x1 : Int32) (x2 : Int32) (x3 : Int32) : Option (Int32 × Mem) := (sp_Model_isThere x2 m0).bind fun v12 => if v12 = 0 then some (0, m0) else if x3 = x1 then some (1, m0) else some (0, m0)
theorem ok_Model_may_j52 {γ : GG} {tt : Bool} {F : Nat} {p0 : Int32} {p1 : Int32} {g : Mem} {m0 : Mem} {x1 : Int32} {x2 : Int32} {x3 : Int32} {res : Int32 × Mem} (h : sp_Model_may_j52 F p0 p1 g m0 x1 x2 x3 = some res) : WA γ M_Model_may 4 52 [some (.ref 54), some (.int x1), some (.int x2), some (.int x3)] [] SH m0 tt (0, 0) (pI SH res.1 res.2 tt) := by
  unfold sp_Model_may_j52 at h
  refine w_aload_n (q := 53) d_Model_may_52 rfl rfl ?_
  refine w_iload_n (q := 54) d_Model_may_53 rfl rfl ?_
  obtain ⟨v12, hv, h⟩ := bnd h
  refine w_callVi (q := 57) (M' := M_Model_isThere) (n' := 1) (k := 54) (As := [.int x2]) (sh' := SH) (b1 := (0, 0)) d_Model_may_54 rfl mw_Model_isThere (by decide) (by decide) ml_Model_315 (by decide) s_54 (by decide) rfl rfl rfl (leb rfl) (bz _) (fun _ => rfl) (ok_Model_isThere hv) ?_
  by_cases c13 : v12 = 0
  · rw [if_pos c13] at h
    refine w_if_eq_t (q := 69) d_Model_may_57 rfl c13 ?_
    refine w_iconst (q := 70) (v := 0) d_Model_may_69 rfl (by decide) ?_
    cases h
    exact w_ireturn d_Model_may_70 rfl rfl ⟨rfl, rfl, rfl, rfl⟩
  · rw [if_neg c13] at h
    refine w_if_eq_f (q := 60) d_Model_may_57 69 rfl rfl c13 ?_
    refine w_iload_n (q := 61) d_Model_may_60 rfl rfl ?_
    refine w_iload_n (q := 62) d_Model_may_61 rfl rfl ?_
    by_cases c14 : x3 = x1
    · rw [if_pos c14] at h
      refine w_icmp_ne_f (q := 65) d_Model_may_62 69 rfl rfl c14 ?_
      refine w_iconst (q := 66) (v := 1) d_Model_may_65 rfl (by decide) ?_
      refine w_goto (q := 70) d_Model_may_66 rfl ?_
      cases h
      exact w_ireturn d_Model_may_70 rfl rfl ⟨rfl, rfl, rfl, rfl⟩
    · rw [if_neg c14] at h
      refine w_icmp_ne_t (q := 69) d_Model_may_62 rfl c14 ?_
      refine w_iconst (q := 70) (v := 0) d_Model_may_69 rfl (by decide) ?_
      cases h
      exact w_ireturn d_Model_may_70 rfl rfl ⟨rfl, rfl, rfl, rfl⟩
def sp_Model_may_j180 (F : Nat) (p0 : Int32) (p1 : Int32) (g : Mem) (m0 : Mem) (x1 : Int32) (y0 : Int32) (y1 : Int32) : Option (Int32 × Mem) := (wr m0 68 7 y1 y0).bind fun g34 => (sp_Model_ageOf x1 g34).bind fun v35 => (wr g34 68 7 6 v35).bind fun g36 => (sp_Model_valueNow F g36).bind fun v37 => if v37.1 = 0 then some (0, v37.2) else some (1, v37.2)
theorem ok_Model_may_j180 {γ : GG} {tt : Bool} {F : Nat} {p0 : Int32} {p1 : Int32} {g : Mem} {m0 : Mem} {x1 : Int32} {y0 : Int32} {y1 : Int32} {res : Int32 × Mem} (h : sp_Model_may_j180 F p0 p1 g m0 x1 y0 y1 = some res) : WA γ M_Model_may 4 180 [some (.ref 54), some (.int x1), none, none] [.int y0, .int y1, .ref 68] SH m0 tt (0, 0) (pI SH res.1 res.2 tt) := by
  unfold sp_Model_may_j180 at h
  obtain ⟨g34, hv, h⟩ := bnd h
  obtain ⟨hi, hv⟩ := wr_ok hv
  refine w_iast (q := 181) d_Model_may_180 rfl a_68.2 a_68.1 hi hv ?_
  refine w_aload_n (q := 182) d_Model_may_181 rfl rfl ?_
  refine w_get (q := 185) (ci := 12) (j := 29) d_Model_may_182 rfl (by decide) fl_Model_84 (by decide) (by decide) s_54 rfl rfl ?_
  refine w_bipush (q := 187) (v := 6) d_Model_may_185 rfl (by decide) ?_
  refine w_aload_n (q := 188) d_Model_may_187 rfl rfl ?_
  refine w_iload_n (q := 189) d_Model_may_188 rfl rfl ?_
  obtain ⟨v35, hv, h⟩ := bnd h
  refine w_callVi (q := 192) (M' := M_Model_ageOf) (n' := 2) (k := 54) (As := [.int x1]) (sh' := SH) (b1 := (0, 0)) d_Model_may_189 rfl mw_Model_ageOf (by decide) (by decide) ml_Model_323 (by decide) s_54 (by decide) rfl rfl rfl (leb rfl) (bz _) (fun _ => rfl) (ok_Model_ageOf hv) ?_
  obtain ⟨g36, hv, h⟩ := bnd h
  obtain ⟨hi, hv⟩ := wr_ok hv
  refine w_iast (q := 193) d_Model_may_192 rfl a_68.2 a_68.1 hi hv ?_
  refine w_aload_n (q := 194) d_Model_may_193 rfl rfl ?_
  obtain ⟨v37, hv, h⟩ := bnd h
  refine w_callVi (q := 197) (M' := M_Model_valueNow) (n' := 1) (k := 54) (As := []) (sh' := SH) (b1 := (0, 0)) d_Model_may_194 rfl mw_Model_valueNow (by decide) (by decide) ml_Model_356 (by decide) s_54 (by decide) rfl rfl rfl (leb rfl) (bz _) (fun _ => rfl) (ok_Model_valueNow hv) ?_
  by_cases c38 : v37.1 = 0
  · rw [if_pos c38] at h
    refine w_if_eq_t (q := 204) d_Model_may_197 rfl c38 ?_
    refine w_iconst (q := 205) (v := 0) d_Model_may_204 rfl (by decide) ?_
    cases h
    exact w_ireturn d_Model_may_205 rfl rfl ⟨rfl, rfl, rfl, rfl⟩
  · rw [if_neg c38] at h
    refine w_if_eq_f (q := 200) d_Model_may_197 204 rfl rfl c38 ?_
    refine w_iconst (q := 201) (v := 1) d_Model_may_200 rfl (by decide) ?_
    refine w_goto (q := 205) d_Model_may_201 rfl ?_
    cases h
    exact w_ireturn d_Model_may_205 rfl rfl ⟨rfl, rfl, rfl, rfl⟩
def sp_Model_may_j164 (F : Nat) (p0 : Int32) (p1 : Int32) (g : Mem) (m0 : Mem) (x1 : Int32) (x3 : Int32) (y0 : Int32) (y1 : Int32) : Option (Int32 × Mem) := (wr m0 68 7 y1 y0).bind fun g32 => if x3 = x1 then sp_Model_may_j180 F p0 p1 g g32 x1 1 5 else sp_Model_may_j180 F p0 p1 g g32 x1 0 5
theorem ok_Model_may_j164 {γ : GG} {tt : Bool} {F : Nat} {p0 : Int32} {p1 : Int32} {g : Mem} {m0 : Mem} {x1 : Int32} {x3 : Int32} {y0 : Int32} {y1 : Int32} {res : Int32 × Mem} (h : sp_Model_may_j164 F p0 p1 g m0 x1 x3 y0 y1 = some res) : WA γ M_Model_may 4 164 [some (.ref 54), some (.int x1), none, some (.int x3)] [.int y0, .int y1, .ref 68] SH m0 tt (0, 0) (pI SH res.1 res.2 tt) := by
  unfold sp_Model_may_j164 at h
  obtain ⟨g32, hv, h⟩ := bnd h
  obtain ⟨hi, hv⟩ := wr_ok hv
  refine w_iast (q := 165) d_Model_may_164 rfl a_68.2 a_68.1 hi hv ?_
  refine w_aload_n (q := 166) d_Model_may_165 rfl rfl ?_
  refine w_get (q := 169) (ci := 12) (j := 29) d_Model_may_166 rfl (by decide) fl_Model_84 (by decide) (by decide) s_54 rfl rfl ?_
  refine w_iconst (q := 170) (v := 5) d_Model_may_169 rfl (by decide) ?_
  refine w_iload_n (q := 171) d_Model_may_170 rfl rfl ?_
  refine w_iload_n (q := 172) d_Model_may_171 rfl rfl ?_
  by_cases c33 : x3 = x1
  · rw [if_pos c33] at h
    refine w_icmp_ne_f (q := 175) d_Model_may_172 179 rfl rfl c33 ?_
    refine w_iconst (q := 176) (v := 1) d_Model_may_175 rfl (by decide) ?_
    refine w_goto (q := 180) d_Model_may_176 rfl ?_
    refine w_ls (ls' := [some (.ref 54), some (.int x1), none, none]) (And.intro rfl (And.intro rfl trivial)) ?_
    exact ok_Model_may_j180 h
  · rw [if_neg c33] at h
    refine w_icmp_ne_t (q := 179) d_Model_may_172 rfl c33 ?_
    refine w_iconst (q := 180) (v := 0) d_Model_may_179 rfl (by decide) ?_
    refine w_ls (ls' := [some (.ref 54), some (.int x1), none, none]) (And.intro rfl (And.intro rfl trivial)) ?_
    exact ok_Model_may_j180 h
def sp_Model_may (F : Nat) (p0 : Int32) (p1 : Int32) (g : Mem) : Option (Int32 × Mem) := (sp_Model_isMonk p0 (mset g 54 3 0)).bind fun v1 => if v1 = 0 then (sp_Model_failing 1 (mset g 54 3 0)).bind fun v3 => (bl v3.1).bind fun v4 => some (v4, v3.2) else (sp_Model_isEntry p1 (mset g 54 3 0)).bind fun v5 => if v5 = 0 then (sp_Model_failing 1 (mset g 54 3 0)).bind fun v7 => (bl v7.1).bind fun v8 => some (v8, v7.2) else (sp_Model_of p1 1 (mset g 54 3 0)).bind fun v9 => (sp_Model_isThere p1 (mset g 54 3 0)).bind fun v10 => if v10 = 0 then sp_Model_may_j52 F p0 p1 g (mset g 54 3 0) p0 p1 v9 else (rd (mset g 54 3 0) 59 12 v9).bind fun v15 => if v15 = 3 then sp_Model_may_j52 F p0 p1 g (mset g 54 3 0) p0 p1 v9 else (rd (mset g 54 3 0) 58 12 5).bind fun v17 => if v17 = 0 then if v9 = p0 then some (1, (mset g 54 3 0)) else (sp_Model_isGrey v9 (mset g 54 3 0)).bind fun v20 => if v20 = 0 then some (1, (mset g 54 3 0)) else some (0, (mset g 54 3 0)) else (sp_Model_of p1 0 (mset g 54 3 0)).bind fun v22 => (wr (mset g 54 3 0) 68 7 0 v22).bind fun g23 => (sp_Model_of p1 5 g23).bind fun v24 => (wr g23 68 7 1 v24).bind fun g25 => (sp_Model_of p1 3 g25).bind fun v26 => (wr g25 68 7 2 v26).bind fun g27 => (sp_Model_old p1 g27).bind fun v28 => (wr g27 68 7 3 v28).bind fun g29 => (sp_Model_isGrey v9 g29).bind fun v30 => if v30 = 0 then sp_Model_may_j164 F p0 p1 g g29 p0 v9 0 4 else sp_Model_may_j164 F p0 p1 g g29 p0 v9 1 4
theorem ok_Model_may {γ : GG} {tt : Bool} {F : Nat} {p0 : Int32} {p1 : Int32} {g : Mem} {res : Int32 × Mem} (h : sp_Model_may F p0 p1 g = some res) : CA γ M_Model_may 4 [.ref 54, .int p0, .int p1] SH g tt (0, 0) (pI SH res.1 res.2 tt) := by
  refine CA.of mw_Model_may.1 1 rfl ?_
  show WA γ M_Model_may 4 0 [some (.ref 54), some (.int p0), some (.int p1), none] [] SH g tt (0, 0) (pI SH res.1 res.2 tt)
  unfold sp_Model_may at h
  refine w_aload_n (q := 1) d_Model_may_0 rfl rfl ?_
  refine w_iconst (q := 2) (v := 0) d_Model_may_1 rfl (by decide) ?_
  refine w_put (q := 5) (ci := 12) (j := 3) d_Model_may_2 rfl (by decide) fl_Model_114 (by decide) (by decide) s_54 rfl rfl rfl rfl rfl rfl ?_
  refine w_aload_n (q := 6) d_Model_may_5 rfl rfl ?_
  refine w_iload_n (q := 7) d_Model_may_6 rfl rfl ?_
  obtain ⟨v1, hv, h⟩ := bnd h
  refine w_callVi (q := 10) (M' := M_Model_isMonk) (n' := 1) (k := 54) (As := [.int p0]) (sh' := SH) (b1 := (0, 0)) d_Model_may_7 rfl mw_Model_isMonk (by decide) (by decide) ml_Model_335 (by decide) s_54 (by decide) rfl rfl rfl (leb rfl) (bz _) (fun _ => rfl) (ok_Model_isMonk hv) ?_
  by_cases c2 : v1 = 0
  · rw [if_pos c2] at h
    refine w_if_eq_t (q := 21) d_Model_may_10 rfl c2 ?_
    refine w_aload_n (q := 22) d_Model_may_21 rfl rfl ?_
    refine w_iconst (q := 23) (v := 1) d_Model_may_22 rfl (by decide) ?_
    obtain ⟨v3, hv, h⟩ := bnd h
    refine w_callVi (q := 26) (M' := M_Model_failing) (n' := 0) (k := 54) (As := [.int 1]) (sh' := SH) (b1 := (0, 0)) d_Model_may_23 rfl mw_Model_failing (by decide) (by decide) ml_Model_353 (by decide) s_54 (by decide) rfl rfl rfl (leb rfl) (bz _) (fun _ => rfl) (ok_Model_failing hv) ?_
    obtain ⟨v4, hv, h⟩ := bnd h
    obtain ⟨hv, hn⟩ := bl_ok hv
    rw [hv] at h
    cases h
    exact w_ireturn d_Model_may_26 rfl hn ⟨rfl, rfl, rfl, rfl⟩
  · rw [if_neg c2] at h
    refine w_if_eq_f (q := 13) d_Model_may_10 21 rfl rfl c2 ?_
    refine w_aload_n (q := 14) d_Model_may_13 rfl rfl ?_
    refine w_iload_n (q := 15) d_Model_may_14 rfl rfl ?_
    obtain ⟨v5, hv, h⟩ := bnd h
    refine w_callVi (q := 18) (M' := M_Model_isEntry) (n' := 1) (k := 54) (As := [.int p1]) (sh' := SH) (b1 := (0, 0)) d_Model_may_15 rfl mw_Model_isEntry (by decide) (by decide) ml_Model_341 (by decide) s_54 (by decide) rfl rfl rfl (leb rfl) (bz _) (fun _ => rfl) (ok_Model_isEntry hv) ?_
    by_cases c6 : v5 = 0
    · rw [if_pos c6] at h
      refine w_if_ne_f (q := 21) d_Model_may_18 27 rfl rfl c6 ?_
      refine w_aload_n (q := 22) d_Model_may_21 rfl rfl ?_
      refine w_iconst (q := 23) (v := 1) d_Model_may_22 rfl (by decide) ?_
      obtain ⟨v7, hv, h⟩ := bnd h
      refine w_callVi (q := 26) (M' := M_Model_failing) (n' := 0) (k := 54) (As := [.int 1]) (sh' := SH) (b1 := (0, 0)) d_Model_may_23 rfl mw_Model_failing (by decide) (by decide) ml_Model_353 (by decide) s_54 (by decide) rfl rfl rfl (leb rfl) (bz _) (fun _ => rfl) (ok_Model_failing hv) ?_
      obtain ⟨v8, hv, h⟩ := bnd h
      obtain ⟨hv, hn⟩ := bl_ok hv
      rw [hv] at h
      cases h
      exact w_ireturn d_Model_may_26 rfl hn ⟨rfl, rfl, rfl, rfl⟩
    · rw [if_neg c6] at h
      refine w_if_ne_t (q := 27) d_Model_may_18 rfl c6 ?_
      refine w_aload_n (q := 28) d_Model_may_27 rfl rfl ?_
      refine w_iload_n (q := 29) d_Model_may_28 rfl rfl ?_
      refine w_iconst (q := 30) (v := 1) d_Model_may_29 rfl (by decide) ?_
      obtain ⟨v9, hv, h⟩ := bnd h
      refine w_callVi (q := 33) (M' := M_Model_of) (n' := 0) (k := 54) (As := [.int p1, .int 1]) (sh' := SH) (b1 := (0, 0)) d_Model_may_30 rfl mw_Model_of (by decide) (by decide) ml_Model_305 (by decide) s_54 (by decide) rfl rfl rfl (leb rfl) (bz _) (fun _ => rfl) (ok_Model_of hv) ?_
      refine w_istore_n (q := 34) (ls' := [some (.ref 54), some (.int p0), some (.int p1), some (.int v9)]) d_Model_may_33 rfl (by decide) rfl rfl ?_
      refine w_aload_n (q := 35) d_Model_may_34 rfl rfl ?_
      refine w_iload_n (q := 36) d_Model_may_35 rfl rfl ?_
      obtain ⟨v10, hv, h⟩ := bnd h
      refine w_callVi (q := 39) (M' := M_Model_isThere) (n' := 1) (k := 54) (As := [.int p1]) (sh' := SH) (b1 := (0, 0)) d_Model_may_36 rfl mw_Model_isThere (by decide) (by decide) ml_Model_315 (by decide) s_54 (by decide) rfl rfl rfl (leb rfl) (bz _) (fun _ => rfl) (ok_Model_isThere hv) ?_
      by_cases c11 : v10 = 0
      · rw [if_pos c11] at h
        refine w_if_eq_t (q := 52) d_Model_may_39 rfl c11 ?_
        refine w_ls (ls' := [some (.ref 54), some (.int p0), some (.int p1), some (.int v9)]) (And.intro rfl (And.intro rfl (And.intro rfl (And.intro rfl trivial)))) ?_
        exact ok_Model_may_j52 h
      · rw [if_neg c11] at h
        refine w_if_eq_f (q := 42) d_Model_may_39 52 rfl rfl c11 ?_
        refine w_aload_n (q := 43) d_Model_may_42 rfl rfl ?_
        refine w_get (q := 46) (ci := 12) (j := 5) d_Model_may_43 rfl (by decide) fl_Model_55 (by decide) (by decide) s_54 rfl rfl ?_
        refine w_iload_n (q := 47) d_Model_may_46 rfl rfl ?_
        obtain ⟨v15, hv, h⟩ := bnd h
        obtain ⟨hi, hv⟩ := rd_ok hv
        refine w_iald (q := 48) (t := 0) d_Model_may_47 rfl a_59.2 a_59.1 hi rfl ?_
        rw [hv]
        refine w_iconst (q := 49) (v := 3) d_Model_may_48 rfl (by decide) ?_
        by_cases c16 : v15 = 3
        · rw [if_pos c16] at h
          refine w_icmp_ne_f (q := 52) d_Model_may_49 71 rfl rfl c16 ?_
          refine w_ls (ls' := [some (.ref 54), some (.int p0), some (.int p1), some (.int v9)]) (And.intro rfl (And.intro rfl (And.intro rfl (And.intro rfl trivial)))) ?_
          exact ok_Model_may_j52 h
        · rw [if_neg c16] at h
          refine w_icmp_ne_t (q := 71) d_Model_may_49 rfl c16 ?_
          refine w_aload_n (q := 72) d_Model_may_71 rfl rfl ?_
          refine w_get (q := 75) (ci := 12) (j := 4) d_Model_may_72 rfl (by decide) fl_Model_51 (by decide) (by decide) s_54 rfl rfl ?_
          refine w_iconst (q := 76) (v := 5) d_Model_may_75 rfl (by decide) ?_
          obtain ⟨v17, hv, h⟩ := bnd h
          obtain ⟨hi, hv⟩ := rd_ok hv
          refine w_iald (q := 77) (t := 0) d_Model_may_76 rfl a_58.2 a_58.1 hi rfl ?_
          rw [hv]
          by_cases c18 : v17 = 0
          · rw [if_pos c18] at h
            refine w_if_ne_f (q := 80) d_Model_may_77 99 rfl rfl c18 ?_
            refine w_iload_n (q := 81) d_Model_may_80 rfl rfl ?_
            refine w_iload_n (q := 82) d_Model_may_81 rfl rfl ?_
            by_cases c19 : v9 = p0
            · rw [if_pos c19] at h
              refine w_icmp_eq_t (q := 93) d_Model_may_82 rfl c19 ?_
              refine w_iconst (q := 94) (v := 1) d_Model_may_93 rfl (by decide) ?_
              refine w_goto (q := 98) d_Model_may_94 rfl ?_
              cases h
              exact w_ireturn d_Model_may_98 rfl rfl ⟨rfl, rfl, rfl, rfl⟩
            · rw [if_neg c19] at h
              refine w_icmp_eq_f (q := 85) d_Model_may_82 93 rfl rfl c19 ?_
              refine w_aload_n (q := 86) d_Model_may_85 rfl rfl ?_
              refine w_iload_n (q := 87) d_Model_may_86 rfl rfl ?_
              obtain ⟨v20, hv, h⟩ := bnd h
              refine w_callVi (q := 90) (M' := M_Model_isGrey) (n' := 3) (k := 54) (As := [.int v9]) (sh' := SH) (b1 := (0, 0)) d_Model_may_87 rfl mw_Model_isGrey (by decide) (by decide) ml_Model_338 (by decide) s_54 (by decide) rfl rfl rfl (leb rfl) (bz _) (fun _ => rfl) (ok_Model_isGrey hv) ?_
              by_cases c21 : v20 = 0
              · rw [if_pos c21] at h
                refine w_if_ne_f (q := 93) d_Model_may_90 97 rfl rfl c21 ?_
                refine w_iconst (q := 94) (v := 1) d_Model_may_93 rfl (by decide) ?_
                refine w_goto (q := 98) d_Model_may_94 rfl ?_
                cases h
                exact w_ireturn d_Model_may_98 rfl rfl ⟨rfl, rfl, rfl, rfl⟩
              · rw [if_neg c21] at h
                refine w_if_ne_t (q := 97) d_Model_may_90 rfl c21 ?_
                refine w_iconst (q := 98) (v := 0) d_Model_may_97 rfl (by decide) ?_
                cases h
                exact w_ireturn d_Model_may_98 rfl rfl ⟨rfl, rfl, rfl, rfl⟩
          · rw [if_neg c18] at h
            refine w_if_ne_t (q := 99) d_Model_may_77 rfl c18 ?_
            refine w_aload_n (q := 100) d_Model_may_99 rfl rfl ?_
            refine w_get (q := 103) (ci := 12) (j := 29) d_Model_may_100 rfl (by decide) fl_Model_84 (by decide) (by decide) s_54 rfl rfl ?_
            refine w_iconst (q := 104) (v := 0) d_Model_may_103 rfl (by decide) ?_
            refine w_aload_n (q := 105) d_Model_may_104 rfl rfl ?_
            refine w_iload_n (q := 106) d_Model_may_105 rfl rfl ?_
            refine w_iconst (q := 107) (v := 0) d_Model_may_106 rfl (by decide) ?_
            obtain ⟨v22, hv, h⟩ := bnd h
            refine w_callVi (q := 110) (M' := M_Model_of) (n' := 0) (k := 54) (As := [.int p1, .int 0]) (sh' := SH) (b1 := (0, 0)) d_Model_may_107 rfl mw_Model_of (by decide) (by decide) ml_Model_305 (by decide) s_54 (by decide) rfl rfl rfl (leb rfl) (bz _) (fun _ => rfl) (ok_Model_of hv) ?_
            obtain ⟨g23, hv, h⟩ := bnd h
            obtain ⟨hi, hv⟩ := wr_ok hv
            refine w_iast (q := 111) d_Model_may_110 rfl a_68.2 a_68.1 hi hv ?_
            refine w_aload_n (q := 112) d_Model_may_111 rfl rfl ?_
            refine w_get (q := 115) (ci := 12) (j := 29) d_Model_may_112 rfl (by decide) fl_Model_84 (by decide) (by decide) s_54 rfl rfl ?_
            refine w_iconst (q := 116) (v := 1) d_Model_may_115 rfl (by decide) ?_
            refine w_aload_n (q := 117) d_Model_may_116 rfl rfl ?_
            refine w_iload_n (q := 118) d_Model_may_117 rfl rfl ?_
            refine w_iconst (q := 119) (v := 5) d_Model_may_118 rfl (by decide) ?_
            obtain ⟨v24, hv, h⟩ := bnd h
            refine w_callVi (q := 122) (M' := M_Model_of) (n' := 0) (k := 54) (As := [.int p1, .int 5]) (sh' := SH) (b1 := (0, 0)) d_Model_may_119 rfl mw_Model_of (by decide) (by decide) ml_Model_305 (by decide) s_54 (by decide) rfl rfl rfl (leb rfl) (bz _) (fun _ => rfl) (ok_Model_of hv) ?_
            obtain ⟨g25, hv, h⟩ := bnd h
            obtain ⟨hi, hv⟩ := wr_ok hv
            refine w_iast (q := 123) d_Model_may_122 rfl a_68.2 a_68.1 hi hv ?_
            refine w_aload_n (q := 124) d_Model_may_123 rfl rfl ?_
            refine w_get (q := 127) (ci := 12) (j := 29) d_Model_may_124 rfl (by decide) fl_Model_84 (by decide) (by decide) s_54 rfl rfl ?_
            refine w_iconst (q := 128) (v := 2) d_Model_may_127 rfl (by decide) ?_
            refine w_aload_n (q := 129) d_Model_may_128 rfl rfl ?_
            refine w_iload_n (q := 130) d_Model_may_129 rfl rfl ?_
            refine w_iconst (q := 131) (v := 3) d_Model_may_130 rfl (by decide) ?_
            obtain ⟨v26, hv, h⟩ := bnd h
            refine w_callVi (q := 134) (M' := M_Model_of) (n' := 0) (k := 54) (As := [.int p1, .int 3]) (sh' := SH) (b1 := (0, 0)) d_Model_may_131 rfl mw_Model_of (by decide) (by decide) ml_Model_305 (by decide) s_54 (by decide) rfl rfl rfl (leb rfl) (bz _) (fun _ => rfl) (ok_Model_of hv) ?_
            obtain ⟨g27, hv, h⟩ := bnd h
            obtain ⟨hi, hv⟩ := wr_ok hv
            refine w_iast (q := 135) d_Model_may_134 rfl a_68.2 a_68.1 hi hv ?_
            refine w_aload_n (q := 136) d_Model_may_135 rfl rfl ?_
            refine w_get (q := 139) (ci := 12) (j := 29) d_Model_may_136 rfl (by decide) fl_Model_84 (by decide) (by decide) s_54 rfl rfl ?_
            refine w_iconst (q := 140) (v := 3) d_Model_may_139 rfl (by decide) ?_
            refine w_aload_n (q := 141) d_Model_may_140 rfl rfl ?_
            refine w_iload_n (q := 142) d_Model_may_141 rfl rfl ?_
            obtain ⟨v28, hv, h⟩ := bnd h
            refine w_callVi (q := 145) (M' := M_Model_old) (n' := 2) (k := 54) (As := [.int p1]) (sh' := SH) (b1 := (0, 0)) d_Model_may_142 rfl mw_Model_old (by decide) (by decide) ml_Model_318 (by decide) s_54 (by decide) rfl rfl rfl (leb rfl) (bz _) (fun _ => rfl) (ok_Model_old hv) ?_
            obtain ⟨g29, hv, h⟩ := bnd h
            obtain ⟨hi, hv⟩ := wr_ok hv
            refine w_iast (q := 146) d_Model_may_145 rfl a_68.2 a_68.1 hi hv ?_
            refine w_aload_n (q := 147) d_Model_may_146 rfl rfl ?_
            refine w_get (q := 150) (ci := 12) (j := 29) d_Model_may_147 rfl (by decide) fl_Model_84 (by decide) (by decide) s_54 rfl rfl ?_
            refine w_iconst (q := 151) (v := 4) d_Model_may_150 rfl (by decide) ?_
            refine w_aload_n (q := 152) d_Model_may_151 rfl rfl ?_
            refine w_iload_n (q := 153) d_Model_may_152 rfl rfl ?_
            obtain ⟨v30, hv, h⟩ := bnd h
            refine w_callVi (q := 156) (M' := M_Model_isGrey) (n' := 3) (k := 54) (As := [.int v9]) (sh' := SH) (b1 := (0, 0)) d_Model_may_153 rfl mw_Model_isGrey (by decide) (by decide) ml_Model_338 (by decide) s_54 (by decide) rfl rfl rfl (leb rfl) (bz _) (fun _ => rfl) (ok_Model_isGrey hv) ?_
            by_cases c31 : v30 = 0
            · rw [if_pos c31] at h
              refine w_if_eq_t (q := 163) d_Model_may_156 rfl c31 ?_
              refine w_iconst (q := 164) (v := 0) d_Model_may_163 rfl (by decide) ?_
              refine w_ls (ls' := [some (.ref 54), some (.int p0), none, some (.int v9)]) (And.intro rfl (And.intro rfl (And.intro rfl trivial))) ?_
              exact ok_Model_may_j164 h
            · rw [if_neg c31] at h
              refine w_if_eq_f (q := 159) d_Model_may_156 163 rfl rfl c31 ?_
              refine w_iconst (q := 160) (v := 1) d_Model_may_159 rfl (by decide) ?_
              refine w_goto (q := 164) d_Model_may_160 rfl ?_
              refine w_ls (ls' := [some (.ref 54), some (.int p0), none, some (.int v9)]) (And.intro rfl (And.intro rfl (And.intro rfl trivial))) ?_
              exact ok_Model_may_j164 h
def sp_Model_refuse (p0 : Int32) (g : Mem) : Option (Int32 × Mem) := (rd g 64 3 p0).bind fun v1 => (wr g 64 3 p0 (v1 + 1)).bind fun g2 => some ((-1), g2)
theorem ok_Model_refuse {γ : GG} {tt : Bool} {p0 : Int32} {g : Mem} {res : Int32 × Mem} (h : sp_Model_refuse p0 g = some res) : CA γ M_Model_refuse 0 [.ref 54, .int p0] SH g tt (0, 0) (pI SH res.1 res.2 tt) := by
  refine CA.of mw_Model_refuse.1 0 rfl ?_
  show WA γ M_Model_refuse 0 0 [some (.ref 54), some (.int p0)] [] SH g tt (0, 0) (pI SH res.1 res.2 tt)
  unfold sp_Model_refuse at h
  refine w_aload_n (q := 1) d_Model_refuse_0 rfl rfl ?_
  refine w_get (q := 4) (ci := 12) (j := 10) d_Model_refuse_1 rfl (by decide) fl_Model_68 (by decide) (by decide) s_54 rfl rfl ?_
  refine w_iload_n (q := 5) d_Model_refuse_4 rfl rfl ?_
  refine w_dup2 (q := 6) d_Model_refuse_5 rfl rfl rfl ?_
  obtain ⟨v1, hv, h⟩ := bnd h
  obtain ⟨hi, hv⟩ := rd_ok hv
  refine w_iald (q := 7) (t := 0) d_Model_refuse_6 rfl a_64.2 a_64.1 hi rfl ?_
  rw [hv]
  refine w_iconst (q := 8) (v := 1) d_Model_refuse_7 rfl (by decide) ?_
  refine w_iadd (q := 9) d_Model_refuse_8 rfl ?_
  obtain ⟨g2, hv, h⟩ := bnd h
  obtain ⟨hi, hv⟩ := wr_ok hv
  refine w_iast (q := 10) d_Model_refuse_9 rfl a_64.2 a_64.1 hi hv ?_
  refine w_iconst (q := 11) (v := (-1)) d_Model_refuse_10 rfl (by decide) ?_
  cases h
  exact w_ireturn d_Model_refuse_11 rfl rfl ⟨rfl, rfl, rfl, rfl⟩
def PL_Model_keep_13 (γ : GG) (tt : Bool) (g : Mem) (b : Nat × Nat) (Φ : PO) (s : Int32 × Mem) : Prop := WA γ M_Model_keep 1 13 [some (.ref 54), some (.int s.1)] [] SH s.2 tt b Φ
def QL_Model_keep_13 (γ : GG) (tt : Bool) (g : Mem) (b : Nat × Nat) (Φ : PO) (x : (Mem)) : Prop := WA γ M_Model_keep 1 44 [some (.ref 54), none] [] SH x tt b Φ
def st_Model_keep_13 (F : Nat) (g : Mem) (s : Int32 × Mem) : Option ((Int32 × Mem) ⊕ ((Mem))) := if (Int32.ofNat 9240) ≤ s.1 then some (.inr s.2) else (rd s.2 67 9240 s.1).bind fun v3 => (wr s.2 67 9240 (s.1 - 231) v3).bind fun g4 => some (.inl (s.1 + 1, g4))
theorem kl_Model_keep_13 {γ : GG} {tt : Bool} {F : Nat} {g : Mem} {b : Nat × Nat} {Φ : PO} : ∀ (s : Int32 × Mem) (r : (Int32 × Mem) ⊕ ((Mem))), st_Model_keep_13 F g s = some r → RQ (PL_Model_keep_13 γ tt g b Φ) (QL_Model_keep_13 γ tt g b Φ) r → PL_Model_keep_13 γ tt g b Φ s := by
  intro s r h hr
  unfold st_Model_keep_13 at h
  unfold PL_Model_keep_13
  refine w_iload_n (q := 14) d_Model_keep_13 rfl rfl ?_
  refine w_aload_n (q := 15) d_Model_keep_14 rfl rfl ?_
  refine w_get (q := 18) (ci := 12) (j := 23) d_Model_keep_15 rfl (by decide) fl_Model_81 (by decide) (by decide) s_54 rfl rfl ?_
  refine w_alen (q := 19) d_Model_keep_18 rfl a_67.2 a_67.1 (Or.inl ⟨rfl, Or.inl rfl⟩) rfl ?_
  by_cases c2 : (Int32.ofNat 9240) ≤ s.1
  · rw [if_pos c2] at h
    refine w_icmp_ge_t (q := 44) d_Model_keep_19 rfl c2 ?_
    cases h
    exact w_ls (by exact (And.intro rfl trivial)) hr
  · rw [if_neg c2] at h
    refine w_icmp_ge_f (q := 22) d_Model_keep_19 44 rfl rfl c2 ?_
    refine w_aload_n (q := 23) d_Model_keep_22 rfl rfl ?_
    refine w_get (q := 26) (ci := 12) (j := 23) d_Model_keep_23 rfl (by decide) fl_Model_81 (by decide) (by decide) s_54 rfl rfl ?_
    refine w_iload_n (q := 27) d_Model_keep_26 rfl rfl ?_
    refine w_sipush (q := 30) (v := 231) d_Model_keep_27 rfl (by decide) ?_
    refine w_isub (q := 31) d_Model_keep_30 rfl ?_
    refine w_aload_n (q := 32) d_Model_keep_31 rfl rfl ?_
    refine w_get (q := 35) (ci := 12) (j := 23) d_Model_keep_32 rfl (by decide) fl_Model_81 (by decide) (by decide) s_54 rfl rfl ?_
    refine w_iload_n (q := 36) d_Model_keep_35 rfl rfl ?_
    obtain ⟨v3, hv, h⟩ := bnd h
    obtain ⟨hi, hv⟩ := rd_ok hv
    refine w_iald (q := 37) (t := 0) d_Model_keep_36 rfl a_67.2 a_67.1 hi rfl ?_
    rw [hv]
    obtain ⟨g4, hv, h⟩ := bnd h
    obtain ⟨hi, hv⟩ := wr_ok hv
    refine w_iast (q := 38) d_Model_keep_37 rfl a_67.2 a_67.1 hi hv ?_
    refine w_iinc (q := 41) (ls' := [some (.ref 54), some (.int (s.1 + 1))]) d_Model_keep_38 rfl (by decide) rfl rfl rfl ?_
    refine w_goto (q := 13) d_Model_keep_41 rfl ?_
    cases h
    exact w_ls (by exact (And.intro rfl (And.intro rfl trivial))) hr
def sp_Model_keep_j54 (F : Nat) (g : Mem) (m0 : Mem) : Option (Mem) := (sp_Model_pack F 67 9240 (231 * (m0 54 27)) m0).bind fun v6 => some (mset v6 54 27 ((v6 54 27) + 1))
theorem ok_Model_keep_j54 {γ : GG} {tt : Bool} {F : Nat} {g : Mem} {m0 : Mem} {res : Mem} (h : sp_Model_keep_j54 F g m0  = some res) : WA γ M_Model_keep 1 54 [some (.ref 54), none] [] SH m0 tt (0, 0) (pV SH res tt) := by
  unfold sp_Model_keep_j54 at h
  refine w_aload_n (q := 55) d_Model_keep_54 rfl rfl ?_
  refine w_aload_n (q := 56) d_Model_keep_55 rfl rfl ?_
  refine w_get (q := 59) (ci := 12) (j := 23) d_Model_keep_56 rfl (by decide) fl_Model_81 (by decide) (by decide) s_54 rfl rfl ?_
  refine w_sipush (q := 62) (v := 231) d_Model_keep_59 rfl (by decide) ?_
  refine w_aload_n (q := 63) d_Model_keep_62 rfl rfl ?_
  refine w_get (q := 66) (ci := 12) (j := 27) d_Model_keep_63 rfl (by decide) fl_Model_295 (by decide) (by decide) s_54 rfl rfl ?_
  refine w_imul (q := 67) d_Model_keep_66 rfl ?_
  obtain ⟨v6, hv, h⟩ := bnd h
  refine w_callVv (q := 70) (M' := M_Model_pack) (n' := 0) (k := 54) (As := [.ref 67, .int (231 * (m0 54 27))]) (sh' := SH) (b1 := (0, 0)) d_Model_keep_67 rfl mw_Model_pack (by decide) (by decide) ml_Model_359 (by decide) s_54 (by decide) rfl rfl rfl (leb rfl) (bz _) (fun _ => rfl) (ok_Model_pack a_67 hv) ?_
  refine w_aload_n (q := 71) d_Model_keep_70 rfl rfl ?_
  refine w_dup (q := 72) d_Model_keep_71 rfl rfl ?_
  refine w_get (q := 75) (ci := 12) (j := 27) d_Model_keep_72 rfl (by decide) fl_Model_295 (by decide) (by decide) s_54 rfl rfl ?_
  refine w_iconst (q := 76) (v := 1) d_Model_keep_75 rfl (by decide) ?_
  refine w_iadd (q := 77) d_Model_keep_76 rfl ?_
  refine w_put (q := 80) (ci := 12) (j := 27) d_Model_keep_77 rfl (by decide) fl_Model_295 (by decide) (by decide) s_54 rfl rfl rfl rfl rfl rfl ?_
  cases h
  exact w_return d_Model_keep_80 rfl ⟨rfl, rfl, rfl, rfl⟩
def sp_Model_keep (F : Nat) (g : Mem) : Option (Mem) := if (g 54 27) = 40 then (lpO (st_Model_keep_13 F g) F (231, g)).bind fun x5 => sp_Model_keep_j54 F g (mset x5 54 27 ((x5 54 27) - 1)) else sp_Model_keep_j54 F g g
theorem ok_Model_keep {γ : GG} {tt : Bool} {F : Nat} {g : Mem} {res : Mem} (h : sp_Model_keep F g = some res) : CA γ M_Model_keep 1 [.ref 54] SH g tt (0, 0) (pV SH res tt) := by
  refine CA.of mw_Model_keep.1 1 rfl ?_
  show WA γ M_Model_keep 1 0 [some (.ref 54), none] [] SH g tt (0, 0) (pV SH res tt)
  unfold sp_Model_keep at h
  refine w_aload_n (q := 1) d_Model_keep_0 rfl rfl ?_
  refine w_get (q := 4) (ci := 12) (j := 27) d_Model_keep_1 rfl (by decide) fl_Model_295 (by decide) (by decide) s_54 rfl rfl ?_
  refine w_bipush (q := 6) (v := 40) d_Model_keep_4 rfl (by decide) ?_
  by_cases c1 : (g 54 27) = 40
  · rw [if_pos c1] at h
    refine w_icmp_ne_f (q := 9) d_Model_keep_6 54 rfl rfl c1 ?_
    refine w_sipush (q := 12) (v := 231) d_Model_keep_9 rfl (by decide) ?_
    refine w_istore_n (q := 13) (ls' := [some (.ref 54), some (.int 231)]) d_Model_keep_12 rfl (by decide) rfl rfl ?_
    obtain ⟨x5, hx, h⟩ := bnd h
    refine w_ls (ls' := [some (.ref 54), some (.int 231)]) (And.intro rfl (And.intro rfl trivial)) ?_
    show PL_Model_keep_13 γ tt g _ _ (231, g)
    refine lp_ok (kl_Model_keep_13) F _ x5 hx ?_
    unfold QL_Model_keep_13
    refine w_aload_n (q := 45) d_Model_keep_44 rfl rfl ?_
    refine w_dup (q := 46) d_Model_keep_45 rfl rfl ?_
    refine w_get (q := 49) (ci := 12) (j := 27) d_Model_keep_46 rfl (by decide) fl_Model_295 (by decide) (by decide) s_54 rfl rfl ?_
    refine w_iconst (q := 50) (v := 1) d_Model_keep_49 rfl (by decide) ?_
    refine w_isub (q := 51) d_Model_keep_50 rfl ?_
    refine w_put (q := 54) (ci := 12) (j := 27) d_Model_keep_51 rfl (by decide) fl_Model_295 (by decide) (by decide) s_54 rfl rfl rfl rfl rfl rfl ?_
    refine w_ls (ls' := [some (.ref 54), none]) (And.intro rfl trivial) ?_
    exact ok_Model_keep_j54 h
  · rw [if_neg c1] at h
    refine w_icmp_ne_t (q := 54) d_Model_keep_6 rfl c1 ?_
    refine w_ls (ls' := [some (.ref 54), none]) (And.intro rfl trivial) ?_
    exact ok_Model_keep_j54 h
def PL_Model_years_41 (γ : GG) (tt : Bool) (p0 : Int32) (g : Mem) (k1 : Int32) (b : Nat × Nat) (Φ : PO) (s : Int32 × Mem) : Prop := WA γ M_Model_years 5 41 [some (.ref 54), some (.int k1), some (.int s.1)] [] SH s.2 tt b Φ
def QL_Model_years_41 (γ : GG) (tt : Bool) (p0 : Int32) (g : Mem) (k1 : Int32) (b : Nat × Nat) (Φ : PO) (x : (Mem)) : Prop := WA γ M_Model_years 5 56 [some (.ref 54), none, none] [] SH x tt b Φ
def st_Model_years_41 (F : Nat) (p0 : Int32) (g : Mem) (k1 : Int32) (s : Int32 × Mem) : Option ((Int32 × Mem) ⊕ ((Mem))) := if k1 ≤ s.1 then some (.inr s.2) else (sp_Model_yearGoes F s.2).bind fun v7 => some (.inl (s.1 + 1, v7))
theorem kl_Model_years_41 {γ : GG} {tt : Bool} {F : Nat} {p0 : Int32} {g : Mem} {k1 : Int32} {b : Nat × Nat} {Φ : PO} : ∀ (s : Int32 × Mem) (r : (Int32 × Mem) ⊕ ((Mem))), st_Model_years_41 F p0 g k1 s = some r → RQ (PL_Model_years_41 γ tt p0 g k1 b Φ) (QL_Model_years_41 γ tt p0 g k1 b Φ) r → PL_Model_years_41 γ tt p0 g k1 b Φ s := by
  intro s r h hr
  unfold st_Model_years_41 at h
  unfold PL_Model_years_41
  refine w_iload_n (q := 42) d_Model_years_41 rfl rfl ?_
  refine w_iload_n (q := 43) d_Model_years_42 rfl rfl ?_
  by_cases c6 : k1 ≤ s.1
  · rw [if_pos c6] at h
    refine w_icmp_ge_t (q := 56) d_Model_years_43 rfl c6 ?_
    cases h
    exact w_ls (by exact (And.intro rfl trivial)) hr
  · rw [if_neg c6] at h
    refine w_icmp_ge_f (q := 46) d_Model_years_43 56 rfl rfl c6 ?_
    refine w_aload_n (q := 47) d_Model_years_46 rfl rfl ?_
    obtain ⟨v7, hv, h⟩ := bnd h
    refine w_callVv (q := 50) (M' := M_Model_yearGoes) (n' := 4) (k := 54) (As := []) (sh' := SH) (b1 := (0, 0)) d_Model_years_47 rfl mw_Model_yearGoes (by decide) (by decide) ml_Model_371 (by decide) s_54 (by decide) rfl rfl rfl (leb rfl) (bz _) (fun _ => rfl) (ok_Model_yearGoes hv) ?_
    refine w_iinc (q := 53) (ls' := [some (.ref 54), some (.int k1), some (.int (s.1 + 1))]) d_Model_years_50 rfl (by decide) rfl rfl rfl ?_
    refine w_goto (q := 41) d_Model_years_53 rfl ?_
    cases h
    exact w_ls (by exact (And.intro rfl (And.intro rfl (And.intro rfl trivial)))) hr
def sp_Model_years (F : Nat) (p0 : Int32) (g : Mem) : Option (Int32 × Mem) := (sp_Model_isIn p0.toInt64 1 30 (mset g 54 3 0)).bind fun v1 => if v1 = 0 then (sp_Model_refuse 1 (mset g 54 3 0)).bind fun v3 => some (v3.1, v3.2) else if (((mset g 54 3 0) 54 24) + p0) ≤ 999 then (sp_Model_keep F (mset g 54 3 0)).bind fun v5 => (lpO (st_Model_years_41 F p0 g p0) F (0, v5)).bind fun x8 => some (x8 54 24, x8) else (sp_Model_refuse 1 (mset g 54 3 0)).bind fun v9 => some (v9.1, v9.2)
theorem ok_Model_years {γ : GG} {tt : Bool} {F : Nat} {p0 : Int32} {g : Mem} {res : Int32 × Mem} (h : sp_Model_years F p0 g = some res) : CA γ M_Model_years 5 [.ref 54, .int p0] SH g tt (0, 0) (pI SH res.1 res.2 tt) := by
  refine CA.of mw_Model_years.1 1 rfl ?_
  show WA γ M_Model_years 5 0 [some (.ref 54), some (.int p0), none] [] SH g tt (0, 0) (pI SH res.1 res.2 tt)
  unfold sp_Model_years at h
  refine w_aload_n (q := 1) d_Model_years_0 rfl rfl ?_
  refine w_iconst (q := 2) (v := 0) d_Model_years_1 rfl (by decide) ?_
  refine w_put (q := 5) (ci := 12) (j := 3) d_Model_years_2 rfl (by decide) fl_Model_114 (by decide) (by decide) s_54 rfl rfl rfl rfl rfl rfl ?_
  refine w_iload_n (q := 6) d_Model_years_5 rfl rfl ?_
  refine w_i2l (q := 7) d_Model_years_6 rfl ?_
  refine w_lconst (q := 8) (v := 1) d_Model_years_7 rfl (by decide) ?_
  refine w_ldc2 (q := 11) d_Model_years_8 rfl lo_Model_363 ?_
  obtain ⟨v1, hv, h⟩ := bnd h
  refine w_callSi (q := 14) (M' := M_Model_isIn) (n' := 0) (As := [.long (p0.toInt64), .long (1), .long (30)]) (sh' := SH) (b1 := (0, 0)) d_Model_years_11 rfl mw_Model_isIn (by decide) (by decide) ml_Model_117 rfl rfl (leb rfl) (bz _) (fun _ => rfl) (ok_Model_isIn hv) ?_
  by_cases c2 : v1 = 0
  · rw [if_pos c2] at h
    refine w_if_eq_t (q := 29) d_Model_years_14 rfl c2 ?_
    refine w_aload_n (q := 30) d_Model_years_29 rfl rfl ?_
    refine w_iconst (q := 31) (v := 1) d_Model_years_30 rfl (by decide) ?_
    obtain ⟨v3, hv, h⟩ := bnd h
    refine w_callVi (q := 34) (M' := M_Model_refuse) (n' := 0) (k := 54) (As := [.int 1]) (sh' := SH) (b1 := (0, 0)) d_Model_years_31 rfl mw_Model_refuse (by decide) (by decide) ml_Model_365 (by decide) s_54 (by decide) rfl rfl rfl (leb rfl) (bz _) (fun _ => rfl) (ok_Model_refuse hv) ?_
    cases h
    exact w_ireturn d_Model_years_34 rfl rfl ⟨rfl, rfl, rfl, rfl⟩
  · rw [if_neg c2] at h
    refine w_if_eq_f (q := 17) d_Model_years_14 29 rfl rfl c2 ?_
    refine w_aload_n (q := 18) d_Model_years_17 rfl rfl ?_
    refine w_get (q := 21) (ci := 12) (j := 24) d_Model_years_18 rfl (by decide) fl_Model_286 (by decide) (by decide) s_54 rfl rfl ?_
    refine w_iload_n (q := 22) d_Model_years_21 rfl rfl ?_
    refine w_iadd (q := 23) d_Model_years_22 rfl ?_
    refine w_sipush (q := 26) (v := 999) d_Model_years_23 rfl (by decide) ?_
    by_cases c4 : (((mset g 54 3 0) 54 24) + p0) ≤ 999
    · rw [if_pos c4] at h
      refine w_icmp_le_t (q := 35) d_Model_years_26 rfl c4 ?_
      refine w_aload_n (q := 36) d_Model_years_35 rfl rfl ?_
      obtain ⟨v5, hv, h⟩ := bnd h
      refine w_callVv (q := 39) (M' := M_Model_keep) (n' := 1) (k := 54) (As := []) (sh' := SH) (b1 := (0, 0)) d_Model_years_36 rfl mw_Model_keep (by decide) (by decide) ml_Model_368 (by decide) s_54 (by decide) rfl rfl rfl (leb rfl) (bz _) (fun _ => rfl) (ok_Model_keep hv) ?_
      refine w_iconst (q := 40) (v := 0) d_Model_years_39 rfl (by decide) ?_
      refine w_istore_n (q := 41) (ls' := [some (.ref 54), some (.int p0), some (.int 0)]) d_Model_years_40 rfl (by decide) rfl rfl ?_
      obtain ⟨x8, hx, h⟩ := bnd h
      refine w_ls (ls' := [some (.ref 54), some (.int p0), some (.int 0)]) (And.intro rfl (And.intro rfl (And.intro rfl trivial))) ?_
      show PL_Model_years_41 γ tt p0 g p0 _ _ (0, v5)
      refine lp_ok (kl_Model_years_41) F _ x8 hx ?_
      unfold QL_Model_years_41
      refine w_aload_n (q := 57) d_Model_years_56 rfl rfl ?_
      refine w_get (q := 60) (ci := 12) (j := 24) d_Model_years_57 rfl (by decide) fl_Model_286 (by decide) (by decide) s_54 rfl rfl ?_
      cases h
      exact w_ireturn d_Model_years_60 rfl rfl ⟨rfl, rfl, rfl, rfl⟩
    · rw [if_neg c4] at h
      refine w_icmp_le_f (q := 29) d_Model_years_26 35 rfl rfl c4 ?_
      refine w_aload_n (q := 30) d_Model_years_29 rfl rfl ?_
      refine w_iconst (q := 31) (v := 1) d_Model_years_30 rfl (by decide) ?_
      obtain ⟨v9, hv, h⟩ := bnd h
      refine w_callVi (q := 34) (M' := M_Model_refuse) (n' := 0) (k := 54) (As := [.int 1]) (sh' := SH) (b1 := (0, 0)) d_Model_years_31 rfl mw_Model_refuse (by decide) (by decide) ml_Model_365 (by decide) s_54 (by decide) rfl rfl rfl (leb rfl) (bz _) (fun _ => rfl) (ok_Model_refuse hv) ?_
      cases h
      exact w_ireturn d_Model_years_34 rfl rfl ⟨rfl, rfl, rfl, rfl⟩
def sp_Model_putEntry (p0 : Int32) (p1 : Int32) (p2 : Int32) (p3 : Int32) (p4 : Int32) (p5 : Int32) (g : Mem) : Option (Int32 × Mem) := (wr g 62 432 ((9 * (g 54 26)) + 0) p0).bind fun g1 => (wr g1 62 432 ((9 * (g 54 26)) + 1) p1).bind fun g2 => (wr g2 62 432 ((9 * (g 54 26)) + 2) (g2 54 24)).bind fun g3 => (wr g3 62 432 ((9 * (g 54 26)) + 3) p2).bind fun g4 => (wr g4 62 432 ((9 * (g 54 26)) + 4) p3).bind fun g5 => (wr g5 62 432 ((9 * (g 54 26)) + 5) p4).bind fun g6 => (wr g6 62 432 ((9 * (g 54 26)) + 6) 0).bind fun g7 => (wr g7 62 432 ((9 * (g 54 26)) + 7) p5).bind fun g8 => (wr g8 62 432 ((9 * (g 54 26)) + 8) 0).bind fun g9 => some (((mset g9 54 26 ((g9 54 26) + 1)) 54 26) - 1, (mset g9 54 26 ((g9 54 26) + 1)))
theorem ok_Model_putEntry {γ : GG} {tt : Bool} {p0 : Int32} {p1 : Int32} {p2 : Int32} {p3 : Int32} {p4 : Int32} {p5 : Int32} {g : Mem} {res : Int32 × Mem} (h : sp_Model_putEntry p0 p1 p2 p3 p4 p5 g = some res) : CA γ M_Model_putEntry 0 [.ref 54, .int p0, .int p1, .int p2, .int p3, .int p4, .int p5] SH g tt (0, 0) (pI SH res.1 res.2 tt) := by
  refine CA.of mw_Model_putEntry.1 1 rfl ?_
  show WA γ M_Model_putEntry 0 0 [some (.ref 54), some (.int p0), some (.int p1), some (.int p2), some (.int p3), some (.int p4), some (.int p5), none] [] SH g tt (0, 0) (pI SH res.1 res.2 tt)
  unfold sp_Model_putEntry at h
  refine w_bipush (q := 2) (v := 9) d_Model_putEntry_0 rfl (by decide) ?_
  refine w_aload_n (q := 3) d_Model_putEntry_2 rfl rfl ?_
  refine w_get (q := 6) (ci := 12) (j := 26) d_Model_putEntry_3 rfl (by decide) fl_Model_121 (by decide) (by decide) s_54 rfl rfl ?_
  refine w_imul (q := 7) d_Model_putEntry_6 rfl ?_
  refine w_istore (q := 9) (ls' := [some (.ref 54), some (.int p0), some (.int p1), some (.int p2), some (.int p3), some (.int p4), some (.int p5), some (.int (9 * (g 54 26)))]) d_Model_putEntry_7 rfl (by decide) rfl rfl ?_
  refine w_aload_n (q := 10) d_Model_putEntry_9 rfl rfl ?_
  refine w_get (q := 13) (ci := 12) (j := 8) d_Model_putEntry_10 rfl (by decide) fl_Model_62 (by decide) (by decide) s_54 rfl rfl ?_
  refine w_iload (q := 15) d_Model_putEntry_13 rfl rfl ?_
  refine w_iconst (q := 16) (v := 0) d_Model_putEntry_15 rfl (by decide) ?_
  refine w_iadd (q := 17) d_Model_putEntry_16 rfl ?_
  refine w_iload_n (q := 18) d_Model_putEntry_17 rfl rfl ?_
  obtain ⟨g1, hv, h⟩ := bnd h
  obtain ⟨hi, hv⟩ := wr_ok hv
  refine w_iast (q := 19) d_Model_putEntry_18 rfl a_62.2 a_62.1 hi hv ?_
  refine w_aload_n (q := 20) d_Model_putEntry_19 rfl rfl ?_
  refine w_get (q := 23) (ci := 12) (j := 8) d_Model_putEntry_20 rfl (by decide) fl_Model_62 (by decide) (by decide) s_54 rfl rfl ?_
  refine w_iload (q := 25) d_Model_putEntry_23 rfl rfl ?_
  refine w_iconst (q := 26) (v := 1) d_Model_putEntry_25 rfl (by decide) ?_
  refine w_iadd (q := 27) d_Model_putEntry_26 rfl ?_
  refine w_iload_n (q := 28) d_Model_putEntry_27 rfl rfl ?_
  obtain ⟨g2, hv, h⟩ := bnd h
  obtain ⟨hi, hv⟩ := wr_ok hv
  refine w_iast (q := 29) d_Model_putEntry_28 rfl a_62.2 a_62.1 hi hv ?_
  refine w_aload_n (q := 30) d_Model_putEntry_29 rfl rfl ?_
  refine w_get (q := 33) (ci := 12) (j := 8) d_Model_putEntry_30 rfl (by decide) fl_Model_62 (by decide) (by decide) s_54 rfl rfl ?_
  refine w_iload (q := 35) d_Model_putEntry_33 rfl rfl ?_
  refine w_iconst (q := 36) (v := 2) d_Model_putEntry_35 rfl (by decide) ?_
  refine w_iadd (q := 37) d_Model_putEntry_36 rfl ?_
  refine w_aload_n (q := 38) d_Model_putEntry_37 rfl rfl ?_
  refine w_get (q := 41) (ci := 12) (j := 24) d_Model_putEntry_38 rfl (by decide) fl_Model_286 (by decide) (by decide) s_54 rfl rfl ?_
  obtain ⟨g3, hv, h⟩ := bnd h
  obtain ⟨hi, hv⟩ := wr_ok hv
  refine w_iast (q := 42) d_Model_putEntry_41 rfl a_62.2 a_62.1 hi hv ?_
  refine w_aload_n (q := 43) d_Model_putEntry_42 rfl rfl ?_
  refine w_get (q := 46) (ci := 12) (j := 8) d_Model_putEntry_43 rfl (by decide) fl_Model_62 (by decide) (by decide) s_54 rfl rfl ?_
  refine w_iload (q := 48) d_Model_putEntry_46 rfl rfl ?_
  refine w_iconst (q := 49) (v := 3) d_Model_putEntry_48 rfl (by decide) ?_
  refine w_iadd (q := 50) d_Model_putEntry_49 rfl ?_
  refine w_iload_n (q := 51) d_Model_putEntry_50 rfl rfl ?_
  obtain ⟨g4, hv, h⟩ := bnd h
  obtain ⟨hi, hv⟩ := wr_ok hv
  refine w_iast (q := 52) d_Model_putEntry_51 rfl a_62.2 a_62.1 hi hv ?_
  refine w_aload_n (q := 53) d_Model_putEntry_52 rfl rfl ?_
  refine w_get (q := 56) (ci := 12) (j := 8) d_Model_putEntry_53 rfl (by decide) fl_Model_62 (by decide) (by decide) s_54 rfl rfl ?_
  refine w_iload (q := 58) d_Model_putEntry_56 rfl rfl ?_
  refine w_iconst (q := 59) (v := 4) d_Model_putEntry_58 rfl (by decide) ?_
  refine w_iadd (q := 60) d_Model_putEntry_59 rfl ?_
  refine w_iload (q := 62) d_Model_putEntry_60 rfl rfl ?_
  obtain ⟨g5, hv, h⟩ := bnd h
  obtain ⟨hi, hv⟩ := wr_ok hv
  refine w_iast (q := 63) d_Model_putEntry_62 rfl a_62.2 a_62.1 hi hv ?_
  refine w_aload_n (q := 64) d_Model_putEntry_63 rfl rfl ?_
  refine w_get (q := 67) (ci := 12) (j := 8) d_Model_putEntry_64 rfl (by decide) fl_Model_62 (by decide) (by decide) s_54 rfl rfl ?_
  refine w_iload (q := 69) d_Model_putEntry_67 rfl rfl ?_
  refine w_iconst (q := 70) (v := 5) d_Model_putEntry_69 rfl (by decide) ?_
  refine w_iadd (q := 71) d_Model_putEntry_70 rfl ?_
  refine w_iload (q := 73) d_Model_putEntry_71 rfl rfl ?_
  obtain ⟨g6, hv, h⟩ := bnd h
  obtain ⟨hi, hv⟩ := wr_ok hv
  refine w_iast (q := 74) d_Model_putEntry_73 rfl a_62.2 a_62.1 hi hv ?_
  refine w_aload_n (q := 75) d_Model_putEntry_74 rfl rfl ?_
  refine w_get (q := 78) (ci := 12) (j := 8) d_Model_putEntry_75 rfl (by decide) fl_Model_62 (by decide) (by decide) s_54 rfl rfl ?_
  refine w_iload (q := 80) d_Model_putEntry_78 rfl rfl ?_
  refine w_bipush (q := 82) (v := 6) d_Model_putEntry_80 rfl (by decide) ?_
  refine w_iadd (q := 83) d_Model_putEntry_82 rfl ?_
  refine w_iconst (q := 84) (v := 0) d_Model_putEntry_83 rfl (by decide) ?_
  obtain ⟨g7, hv, h⟩ := bnd h
  obtain ⟨hi, hv⟩ := wr_ok hv
  refine w_iast (q := 85) d_Model_putEntry_84 rfl a_62.2 a_62.1 hi hv ?_
  refine w_aload_n (q := 86) d_Model_putEntry_85 rfl rfl ?_
  refine w_get (q := 89) (ci := 12) (j := 8) d_Model_putEntry_86 rfl (by decide) fl_Model_62 (by decide) (by decide) s_54 rfl rfl ?_
  refine w_iload (q := 91) d_Model_putEntry_89 rfl rfl ?_
  refine w_bipush (q := 93) (v := 7) d_Model_putEntry_91 rfl (by decide) ?_
  refine w_iadd (q := 94) d_Model_putEntry_93 rfl ?_
  refine w_iload (q := 96) d_Model_putEntry_94 rfl rfl ?_
  obtain ⟨g8, hv, h⟩ := bnd h
  obtain ⟨hi, hv⟩ := wr_ok hv
  refine w_iast (q := 97) d_Model_putEntry_96 rfl a_62.2 a_62.1 hi hv ?_
  refine w_aload_n (q := 98) d_Model_putEntry_97 rfl rfl ?_
  refine w_get (q := 101) (ci := 12) (j := 8) d_Model_putEntry_98 rfl (by decide) fl_Model_62 (by decide) (by decide) s_54 rfl rfl ?_
  refine w_iload (q := 103) d_Model_putEntry_101 rfl rfl ?_
  refine w_bipush (q := 105) (v := 8) d_Model_putEntry_103 rfl (by decide) ?_
  refine w_iadd (q := 106) d_Model_putEntry_105 rfl ?_
  refine w_iconst (q := 107) (v := 0) d_Model_putEntry_106 rfl (by decide) ?_
  obtain ⟨g9, hv, h⟩ := bnd h
  obtain ⟨hi, hv⟩ := wr_ok hv
  refine w_iast (q := 108) d_Model_putEntry_107 rfl a_62.2 a_62.1 hi hv ?_
  refine w_aload_n (q := 109) d_Model_putEntry_108 rfl rfl ?_
  refine w_dup (q := 110) d_Model_putEntry_109 rfl rfl ?_
  refine w_get (q := 113) (ci := 12) (j := 26) d_Model_putEntry_110 rfl (by decide) fl_Model_121 (by decide) (by decide) s_54 rfl rfl ?_
  refine w_iconst (q := 114) (v := 1) d_Model_putEntry_113 rfl (by decide) ?_
  refine w_iadd (q := 115) d_Model_putEntry_114 rfl ?_
  refine w_put (q := 118) (ci := 12) (j := 26) d_Model_putEntry_115 rfl (by decide) fl_Model_121 (by decide) (by decide) s_54 rfl rfl rfl rfl rfl rfl ?_
  refine w_aload_n (q := 119) d_Model_putEntry_118 rfl rfl ?_
  refine w_get (q := 122) (ci := 12) (j := 26) d_Model_putEntry_119 rfl (by decide) fl_Model_121 (by decide) (by decide) s_54 rfl rfl ?_
  refine w_iconst (q := 123) (v := 1) d_Model_putEntry_122 rfl (by decide) ?_
  refine w_isub (q := 124) d_Model_putEntry_123 rfl ?_
  cases h
  exact w_ireturn d_Model_putEntry_124 rfl rfl ⟨rfl, rfl, rfl, rfl⟩
def sp_Model_braid (F : Nat) (p0 : Int32) (p1 : Int32) (p2 : Int32) (p3 : Int32) (g : Mem) : Option (Int32 × Mem) := (sp_Model_isMonk p0 (mset g 54 3 0)).bind fun v1 => if v1 = 0 then (sp_Model_fail 1 (mset g 54 3 0)).bind fun v3 => some (v3.1, v3.2) else if ((mset g 54 3 0) 54 26) = 24 then (sp_Model_refuse 1 (mset g 54 3 0)).bind fun v5 => some (v5.1, v5.2) else (sp_Model_isOf ((mset g 54 3 0) 54 25) p0 (mset g 54 3 0)).bind fun v6 => if v6 = 0 then (sp_Model_isIn p1.toInt64 0 3 (mset g 54 3 0)).bind fun v8 => if v8 = 0 then (sp_Model_refuse 1 (mset g 54 3 0)).bind fun v10 => some (v10.1, v10.2) else (sp_Model_isAbout p2 (mset g 54 3 0)).bind fun v11 => if v11 = 0 then (sp_Model_refuse 1 (mset g 54 3 0)).bind fun v13 => some (v13.1, v13.2) else (sp_Model_isIn p3.toInt64 0 999 (mset g 54 3 0)).bind fun v14 => if v14 = 0 then (sp_Model_refuse 1 (mset g 54 3 0)).bind fun v16 => some (v16.1, v16.2) else (sp_Model_keep F (mset g 54 3 0)).bind fun v17 => (sp_Model_putEntry p1 p0 p2 p3 0 (v17 54 26) v17).bind fun v18 => some (v18.1, v18.2) else (sp_Model_refuse 1 (mset g 54 3 0)).bind fun v19 => some (v19.1, v19.2)
theorem ok_Model_braid {γ : GG} {tt : Bool} {F : Nat} {p0 : Int32} {p1 : Int32} {p2 : Int32} {p3 : Int32} {g : Mem} {res : Int32 × Mem} (h : sp_Model_braid F p0 p1 p2 p3 g = some res) : CA γ M_Model_braid 2 [.ref 54, .int p0, .int p1, .int p2, .int p3] SH g tt (0, 0) (pI SH res.1 res.2 tt) := by
  refine CA.of mw_Model_braid.1 0 rfl ?_
  show WA γ M_Model_braid 2 0 [some (.ref 54), some (.int p0), some (.int p1), some (.int p2), some (.int p3)] [] SH g tt (0, 0) (pI SH res.1 res.2 tt)
  unfold sp_Model_braid at h
  refine w_aload_n (q := 1) d_Model_braid_0 rfl rfl ?_
  refine w_iconst (q := 2) (v := 0) d_Model_braid_1 rfl (by decide) ?_
  refine w_put (q := 5) (ci := 12) (j := 3) d_Model_braid_2 rfl (by decide) fl_Model_114 (by decide) (by decide) s_54 rfl rfl rfl rfl rfl rfl ?_
  refine w_aload_n (q := 6) d_Model_braid_5 rfl rfl ?_
  refine w_iload_n (q := 7) d_Model_braid_6 rfl rfl ?_
  obtain ⟨v1, hv, h⟩ := bnd h
  refine w_callVi (q := 10) (M' := M_Model_isMonk) (n' := 1) (k := 54) (As := [.int p0]) (sh' := SH) (b1 := (0, 0)) d_Model_braid_7 rfl mw_Model_isMonk (by decide) (by decide) ml_Model_335 (by decide) s_54 (by decide) rfl rfl rfl (leb rfl) (bz _) (fun _ => rfl) (ok_Model_isMonk hv) ?_
  by_cases c2 : v1 = 0
  · rw [if_pos c2] at h
    refine w_if_ne_f (q := 13) d_Model_braid_10 19 rfl rfl c2 ?_
    refine w_aload_n (q := 14) d_Model_braid_13 rfl rfl ?_
    refine w_iconst (q := 15) (v := 1) d_Model_braid_14 rfl (by decide) ?_
    obtain ⟨v3, hv, h⟩ := bnd h
    refine w_callVi (q := 18) (M' := M_Model_fail) (n' := 0) (k := 54) (As := [.int 1]) (sh' := SH) (b1 := (0, 0)) d_Model_braid_15 rfl mw_Model_fail (by decide) (by decide) ml_Model_273 (by decide) s_54 (by decide) rfl rfl rfl (leb rfl) (bz _) (fun _ => rfl) (ok_Model_fail hv) ?_
    cases h
    exact w_ireturn d_Model_braid_18 rfl rfl ⟨rfl, rfl, rfl, rfl⟩
  · rw [if_neg c2] at h
    refine w_if_ne_t (q := 19) d_Model_braid_10 rfl c2 ?_
    refine w_aload_n (q := 20) d_Model_braid_19 rfl rfl ?_
    refine w_get (q := 23) (ci := 12) (j := 26) d_Model_braid_20 rfl (by decide) fl_Model_121 (by decide) (by decide) s_54 rfl rfl ?_
    refine w_bipush (q := 25) (v := 24) d_Model_braid_23 rfl (by decide) ?_
    by_cases c4 : ((mset g 54 3 0) 54 26) = 24
    · rw [if_pos c4] at h
      refine w_icmp_eq_t (q := 71) d_Model_braid_25 rfl c4 ?_
      refine w_aload_n (q := 72) d_Model_braid_71 rfl rfl ?_
      refine w_iconst (q := 73) (v := 1) d_Model_braid_72 rfl (by decide) ?_
      obtain ⟨v5, hv, h⟩ := bnd h
      refine w_callVi (q := 76) (M' := M_Model_refuse) (n' := 0) (k := 54) (As := [.int 1]) (sh' := SH) (b1 := (0, 0)) d_Model_braid_73 rfl mw_Model_refuse (by decide) (by decide) ml_Model_365 (by decide) s_54 (by decide) rfl rfl rfl (leb rfl) (bz _) (fun _ => rfl) (ok_Model_refuse hv) ?_
      cases h
      exact w_ireturn d_Model_braid_76 rfl rfl ⟨rfl, rfl, rfl, rfl⟩
    · rw [if_neg c4] at h
      refine w_icmp_eq_f (q := 28) d_Model_braid_25 71 rfl rfl c4 ?_
      refine w_aload_n (q := 29) d_Model_braid_28 rfl rfl ?_
      refine w_get (q := 32) (ci := 12) (j := 25) d_Model_braid_29 rfl (by decide) fl_Model_289 (by decide) (by decide) s_54 rfl rfl ?_
      refine w_iload_n (q := 33) d_Model_braid_32 rfl rfl ?_
      obtain ⟨v6, hv, h⟩ := bnd h
      refine w_callSi (q := 36) (M' := M_Model_isOf) (n' := 0) (As := [.int ((mset g 54 3 0) 54 25), .int p0]) (sh' := SH) (b1 := (0, 0)) d_Model_braid_33 rfl mw_Model_isOf (by decide) (by decide) ml_Model_308 rfl rfl (leb rfl) (bz _) (fun _ => rfl) (ok_Model_isOf hv) ?_
      by_cases c7 : v6 = 0
      · rw [if_pos c7] at h
        refine w_if_ne_f (q := 39) d_Model_braid_36 71 rfl rfl c7 ?_
        refine w_iload_n (q := 40) d_Model_braid_39 rfl rfl ?_
        refine w_i2l (q := 41) d_Model_braid_40 rfl ?_
        refine w_lconst (q := 42) (v := 0) d_Model_braid_41 rfl (by decide) ?_
        refine w_ldc2 (q := 45) d_Model_braid_42 rfl lo_Model_374 ?_
        obtain ⟨v8, hv, h⟩ := bnd h
        refine w_callSi (q := 48) (M' := M_Model_isIn) (n' := 0) (As := [.long (p1.toInt64), .long (0), .long (3)]) (sh' := SH) (b1 := (0, 0)) d_Model_braid_45 rfl mw_Model_isIn (by decide) (by decide) ml_Model_117 rfl rfl (leb rfl) (bz _) (fun _ => rfl) (ok_Model_isIn hv) ?_
        by_cases c9 : v8 = 0
        · rw [if_pos c9] at h
          refine w_if_eq_t (q := 71) d_Model_braid_48 rfl c9 ?_
          refine w_aload_n (q := 72) d_Model_braid_71 rfl rfl ?_
          refine w_iconst (q := 73) (v := 1) d_Model_braid_72 rfl (by decide) ?_
          obtain ⟨v10, hv, h⟩ := bnd h
          refine w_callVi (q := 76) (M' := M_Model_refuse) (n' := 0) (k := 54) (As := [.int 1]) (sh' := SH) (b1 := (0, 0)) d_Model_braid_73 rfl mw_Model_refuse (by decide) (by decide) ml_Model_365 (by decide) s_54 (by decide) rfl rfl rfl (leb rfl) (bz _) (fun _ => rfl) (ok_Model_refuse hv) ?_
          cases h
          exact w_ireturn d_Model_braid_76 rfl rfl ⟨rfl, rfl, rfl, rfl⟩
        · rw [if_neg c9] at h
          refine w_if_eq_f (q := 51) d_Model_braid_48 71 rfl rfl c9 ?_
          refine w_iload_n (q := 52) d_Model_braid_51 rfl rfl ?_
          obtain ⟨v11, hv, h⟩ := bnd h
          refine w_callSi (q := 55) (M' := M_Model_isAbout) (n' := 1) (As := [.int p2]) (sh' := SH) (b1 := (0, 0)) d_Model_braid_52 rfl mw_Model_isAbout (by decide) (by decide) ml_Model_376 rfl rfl (leb rfl) (bz _) (fun _ => rfl) (ok_Model_isAbout hv) ?_
          by_cases c12 : v11 = 0
          · rw [if_pos c12] at h
            refine w_if_eq_t (q := 71) d_Model_braid_55 rfl c12 ?_
            refine w_aload_n (q := 72) d_Model_braid_71 rfl rfl ?_
            refine w_iconst (q := 73) (v := 1) d_Model_braid_72 rfl (by decide) ?_
            obtain ⟨v13, hv, h⟩ := bnd h
            refine w_callVi (q := 76) (M' := M_Model_refuse) (n' := 0) (k := 54) (As := [.int 1]) (sh' := SH) (b1 := (0, 0)) d_Model_braid_73 rfl mw_Model_refuse (by decide) (by decide) ml_Model_365 (by decide) s_54 (by decide) rfl rfl rfl (leb rfl) (bz _) (fun _ => rfl) (ok_Model_refuse hv) ?_
            cases h
            exact w_ireturn d_Model_braid_76 rfl rfl ⟨rfl, rfl, rfl, rfl⟩
          · rw [if_neg c12] at h
            refine w_if_eq_f (q := 58) d_Model_braid_55 71 rfl rfl c12 ?_
            refine w_iload (q := 60) d_Model_braid_58 rfl rfl ?_
            refine w_i2l (q := 61) d_Model_braid_60 rfl ?_
            refine w_lconst (q := 62) (v := 0) d_Model_braid_61 rfl (by decide) ?_
            refine w_ldc2 (q := 65) d_Model_braid_62 rfl lo_Model_379 ?_
            obtain ⟨v14, hv, h⟩ := bnd h
            refine w_callSi (q := 68) (M' := M_Model_isIn) (n' := 0) (As := [.long (p3.toInt64), .long (0), .long (999)]) (sh' := SH) (b1 := (0, 0)) d_Model_braid_65 rfl mw_Model_isIn (by decide) (by decide) ml_Model_117 rfl rfl (leb rfl) (bz _) (fun _ => rfl) (ok_Model_isIn hv) ?_
            by_cases c15 : v14 = 0
            · rw [if_pos c15] at h
              refine w_if_ne_f (q := 71) d_Model_braid_68 77 rfl rfl c15 ?_
              refine w_aload_n (q := 72) d_Model_braid_71 rfl rfl ?_
              refine w_iconst (q := 73) (v := 1) d_Model_braid_72 rfl (by decide) ?_
              obtain ⟨v16, hv, h⟩ := bnd h
              refine w_callVi (q := 76) (M' := M_Model_refuse) (n' := 0) (k := 54) (As := [.int 1]) (sh' := SH) (b1 := (0, 0)) d_Model_braid_73 rfl mw_Model_refuse (by decide) (by decide) ml_Model_365 (by decide) s_54 (by decide) rfl rfl rfl (leb rfl) (bz _) (fun _ => rfl) (ok_Model_refuse hv) ?_
              cases h
              exact w_ireturn d_Model_braid_76 rfl rfl ⟨rfl, rfl, rfl, rfl⟩
            · rw [if_neg c15] at h
              refine w_if_ne_t (q := 77) d_Model_braid_68 rfl c15 ?_
              refine w_aload_n (q := 78) d_Model_braid_77 rfl rfl ?_
              obtain ⟨v17, hv, h⟩ := bnd h
              refine w_callVv (q := 81) (M' := M_Model_keep) (n' := 1) (k := 54) (As := []) (sh' := SH) (b1 := (0, 0)) d_Model_braid_78 rfl mw_Model_keep (by decide) (by decide) ml_Model_368 (by decide) s_54 (by decide) rfl rfl rfl (leb rfl) (bz _) (fun _ => rfl) (ok_Model_keep hv) ?_
              refine w_aload_n (q := 82) d_Model_braid_81 rfl rfl ?_
              refine w_iload_n (q := 83) d_Model_braid_82 rfl rfl ?_
              refine w_iload_n (q := 84) d_Model_braid_83 rfl rfl ?_
              refine w_iload_n (q := 85) d_Model_braid_84 rfl rfl ?_
              refine w_iload (q := 87) d_Model_braid_85 rfl rfl ?_
              refine w_iconst (q := 88) (v := 0) d_Model_braid_87 rfl (by decide) ?_
              refine w_aload_n (q := 89) d_Model_braid_88 rfl rfl ?_
              refine w_get (q := 92) (ci := 12) (j := 26) d_Model_braid_89 rfl (by decide) fl_Model_121 (by decide) (by decide) s_54 rfl rfl ?_
              obtain ⟨v18, hv, h⟩ := bnd h
              refine w_callVi (q := 95) (M' := M_Model_putEntry) (n' := 0) (k := 54) (As := [.int p1, .int p0, .int p2, .int p3, .int 0, .int (v17 54 26)]) (sh' := SH) (b1 := (0, 0)) d_Model_braid_92 rfl mw_Model_putEntry (by decide) (by decide) ml_Model_381 (by decide) s_54 (by decide) rfl rfl rfl (leb rfl) (bz _) (fun _ => rfl) (ok_Model_putEntry hv) ?_
              cases h
              exact w_ireturn d_Model_braid_95 rfl rfl ⟨rfl, rfl, rfl, rfl⟩
      · rw [if_neg c7] at h
        refine w_if_ne_t (q := 71) d_Model_braid_36 rfl c7 ?_
        refine w_aload_n (q := 72) d_Model_braid_71 rfl rfl ?_
        refine w_iconst (q := 73) (v := 1) d_Model_braid_72 rfl (by decide) ?_
        obtain ⟨v19, hv, h⟩ := bnd h
        refine w_callVi (q := 76) (M' := M_Model_refuse) (n' := 0) (k := 54) (As := [.int 1]) (sh' := SH) (b1 := (0, 0)) d_Model_braid_73 rfl mw_Model_refuse (by decide) (by decide) ml_Model_365 (by decide) s_54 (by decide) rfl rfl rfl (leb rfl) (bz _) (fun _ => rfl) (ok_Model_refuse hv) ?_
        cases h
        exact w_ireturn d_Model_braid_76 rfl rfl ⟨rfl, rfl, rfl, rfl⟩
def sp_Model_copy (F : Nat) (p0 : Int32) (p1 : Int32) (g : Mem) : Option (Int32 × Mem) := (sp_Model_isEntry p0 (mset g 54 3 0)).bind fun v1 => if v1 = 0 then (sp_Model_fail 1 (mset g 54 3 0)).bind fun v3 => some (v3.1, v3.2) else (sp_Model_isMonk p1 (mset g 54 3 0)).bind fun v4 => if v4 = 0 then (sp_Model_fail 1 (mset g 54 3 0)).bind fun v6 => some (v6.1, v6.2) else if ((mset g 54 3 0) 54 26) = 24 then (sp_Model_refuse 1 (mset g 54 3 0)).bind fun v8 => some (v8.1, v8.2) else (sp_Model_isThere p0 (mset g 54 3 0)).bind fun v9 => if v9 = 0 then (sp_Model_refuse 1 (mset g 54 3 0)).bind fun v11 => some (v11.1, v11.2) else (sp_Model_isOf ((mset g 54 3 0) 54 25) p1 (mset g 54 3 0)).bind fun v12 => if v12 = 0 then (sp_Model_of p0 7 (mset g 54 3 0)).bind fun v14 => (sp_Model_holdersOf F v14 (mset g 54 3 0)).bind fun v15 => (sp_Model_isOf v15 p1 (mset g 54 3 0)).bind fun v16 => if v16 = 0 then (sp_Model_keep F (mset g 54 3 0)).bind fun v18 => (sp_Model_of p0 0 v18).bind fun v19 => (sp_Model_of p0 3 v18).bind fun v20 => (sp_Model_of p0 4 v18).bind fun v21 => (sp_Model_of p0 5 v18).bind fun v22 => (sp_Model_of p0 7 v18).bind fun v23 => (sp_Model_putEntry v19 p1 v20 v21 v22 v23 v18).bind fun v24 => some (v24.1, v24.2) else (sp_Model_refuse 1 (mset g 54 3 0)).bind fun v25 => some (v25.1, v25.2) else (sp_Model_refuse 1 (mset g 54 3 0)).bind fun v26 => some (v26.1, v26.2)
theorem ok_Model_copy {γ : GG} {tt : Bool} {F : Nat} {p0 : Int32} {p1 : Int32} {g : Mem} {res : Int32 × Mem} (h : sp_Model_copy F p0 p1 g = some res) : CA γ M_Model_copy 3 [.ref 54, .int p0, .int p1] SH g tt (0, 0) (pI SH res.1 res.2 tt) := by
  refine CA.of mw_Model_copy.1 0 rfl ?_
  show WA γ M_Model_copy 3 0 [some (.ref 54), some (.int p0), some (.int p1)] [] SH g tt (0, 0) (pI SH res.1 res.2 tt)
  unfold sp_Model_copy at h
  refine w_aload_n (q := 1) d_Model_copy_0 rfl rfl ?_
  refine w_iconst (q := 2) (v := 0) d_Model_copy_1 rfl (by decide) ?_
  refine w_put (q := 5) (ci := 12) (j := 3) d_Model_copy_2 rfl (by decide) fl_Model_114 (by decide) (by decide) s_54 rfl rfl rfl rfl rfl rfl ?_
  refine w_aload_n (q := 6) d_Model_copy_5 rfl rfl ?_
  refine w_iload_n (q := 7) d_Model_copy_6 rfl rfl ?_
  obtain ⟨v1, hv, h⟩ := bnd h
  refine w_callVi (q := 10) (M' := M_Model_isEntry) (n' := 1) (k := 54) (As := [.int p0]) (sh' := SH) (b1 := (0, 0)) d_Model_copy_7 rfl mw_Model_isEntry (by decide) (by decide) ml_Model_341 (by decide) s_54 (by decide) rfl rfl rfl (leb rfl) (bz _) (fun _ => rfl) (ok_Model_isEntry hv) ?_
  by_cases c2 : v1 = 0
  · rw [if_pos c2] at h
    refine w_if_eq_t (q := 21) d_Model_copy_10 rfl c2 ?_
    refine w_aload_n (q := 22) d_Model_copy_21 rfl rfl ?_
    refine w_iconst (q := 23) (v := 1) d_Model_copy_22 rfl (by decide) ?_
    obtain ⟨v3, hv, h⟩ := bnd h
    refine w_callVi (q := 26) (M' := M_Model_fail) (n' := 0) (k := 54) (As := [.int 1]) (sh' := SH) (b1 := (0, 0)) d_Model_copy_23 rfl mw_Model_fail (by decide) (by decide) ml_Model_273 (by decide) s_54 (by decide) rfl rfl rfl (leb rfl) (bz _) (fun _ => rfl) (ok_Model_fail hv) ?_
    cases h
    exact w_ireturn d_Model_copy_26 rfl rfl ⟨rfl, rfl, rfl, rfl⟩
  · rw [if_neg c2] at h
    refine w_if_eq_f (q := 13) d_Model_copy_10 21 rfl rfl c2 ?_
    refine w_aload_n (q := 14) d_Model_copy_13 rfl rfl ?_
    refine w_iload_n (q := 15) d_Model_copy_14 rfl rfl ?_
    obtain ⟨v4, hv, h⟩ := bnd h
    refine w_callVi (q := 18) (M' := M_Model_isMonk) (n' := 1) (k := 54) (As := [.int p1]) (sh' := SH) (b1 := (0, 0)) d_Model_copy_15 rfl mw_Model_isMonk (by decide) (by decide) ml_Model_335 (by decide) s_54 (by decide) rfl rfl rfl (leb rfl) (bz _) (fun _ => rfl) (ok_Model_isMonk hv) ?_
    by_cases c5 : v4 = 0
    · rw [if_pos c5] at h
      refine w_if_ne_f (q := 21) d_Model_copy_18 27 rfl rfl c5 ?_
      refine w_aload_n (q := 22) d_Model_copy_21 rfl rfl ?_
      refine w_iconst (q := 23) (v := 1) d_Model_copy_22 rfl (by decide) ?_
      obtain ⟨v6, hv, h⟩ := bnd h
      refine w_callVi (q := 26) (M' := M_Model_fail) (n' := 0) (k := 54) (As := [.int 1]) (sh' := SH) (b1 := (0, 0)) d_Model_copy_23 rfl mw_Model_fail (by decide) (by decide) ml_Model_273 (by decide) s_54 (by decide) rfl rfl rfl (leb rfl) (bz _) (fun _ => rfl) (ok_Model_fail hv) ?_
      cases h
      exact w_ireturn d_Model_copy_26 rfl rfl ⟨rfl, rfl, rfl, rfl⟩
    · rw [if_neg c5] at h
      refine w_if_ne_t (q := 27) d_Model_copy_18 rfl c5 ?_
      refine w_aload_n (q := 28) d_Model_copy_27 rfl rfl ?_
      refine w_get (q := 31) (ci := 12) (j := 26) d_Model_copy_28 rfl (by decide) fl_Model_121 (by decide) (by decide) s_54 rfl rfl ?_
      refine w_bipush (q := 33) (v := 24) d_Model_copy_31 rfl (by decide) ?_
      by_cases c7 : ((mset g 54 3 0) 54 26) = 24
      · rw [if_pos c7] at h
        refine w_icmp_eq_t (q := 73) d_Model_copy_33 rfl c7 ?_
        refine w_aload_n (q := 74) d_Model_copy_73 rfl rfl ?_
        refine w_iconst (q := 75) (v := 1) d_Model_copy_74 rfl (by decide) ?_
        obtain ⟨v8, hv, h⟩ := bnd h
        refine w_callVi (q := 78) (M' := M_Model_refuse) (n' := 0) (k := 54) (As := [.int 1]) (sh' := SH) (b1 := (0, 0)) d_Model_copy_75 rfl mw_Model_refuse (by decide) (by decide) ml_Model_365 (by decide) s_54 (by decide) rfl rfl rfl (leb rfl) (bz _) (fun _ => rfl) (ok_Model_refuse hv) ?_
        cases h
        exact w_ireturn d_Model_copy_78 rfl rfl ⟨rfl, rfl, rfl, rfl⟩
      · rw [if_neg c7] at h
        refine w_icmp_eq_f (q := 36) d_Model_copy_33 73 rfl rfl c7 ?_
        refine w_aload_n (q := 37) d_Model_copy_36 rfl rfl ?_
        refine w_iload_n (q := 38) d_Model_copy_37 rfl rfl ?_
        obtain ⟨v9, hv, h⟩ := bnd h
        refine w_callVi (q := 41) (M' := M_Model_isThere) (n' := 1) (k := 54) (As := [.int p0]) (sh' := SH) (b1 := (0, 0)) d_Model_copy_38 rfl mw_Model_isThere (by decide) (by decide) ml_Model_315 (by decide) s_54 (by decide) rfl rfl rfl (leb rfl) (bz _) (fun _ => rfl) (ok_Model_isThere hv) ?_
        by_cases c10 : v9 = 0
        · rw [if_pos c10] at h
          refine w_if_eq_t (q := 73) d_Model_copy_41 rfl c10 ?_
          refine w_aload_n (q := 74) d_Model_copy_73 rfl rfl ?_
          refine w_iconst (q := 75) (v := 1) d_Model_copy_74 rfl (by decide) ?_
          obtain ⟨v11, hv, h⟩ := bnd h
          refine w_callVi (q := 78) (M' := M_Model_refuse) (n' := 0) (k := 54) (As := [.int 1]) (sh' := SH) (b1 := (0, 0)) d_Model_copy_75 rfl mw_Model_refuse (by decide) (by decide) ml_Model_365 (by decide) s_54 (by decide) rfl rfl rfl (leb rfl) (bz _) (fun _ => rfl) (ok_Model_refuse hv) ?_
          cases h
          exact w_ireturn d_Model_copy_78 rfl rfl ⟨rfl, rfl, rfl, rfl⟩
        · rw [if_neg c10] at h
          refine w_if_eq_f (q := 44) d_Model_copy_41 73 rfl rfl c10 ?_
          refine w_aload_n (q := 45) d_Model_copy_44 rfl rfl ?_
          refine w_get (q := 48) (ci := 12) (j := 25) d_Model_copy_45 rfl (by decide) fl_Model_289 (by decide) (by decide) s_54 rfl rfl ?_
          refine w_iload_n (q := 49) d_Model_copy_48 rfl rfl ?_
          obtain ⟨v12, hv, h⟩ := bnd h
          refine w_callSi (q := 52) (M' := M_Model_isOf) (n' := 0) (As := [.int ((mset g 54 3 0) 54 25), .int p1]) (sh' := SH) (b1 := (0, 0)) d_Model_copy_49 rfl mw_Model_isOf (by decide) (by decide) ml_Model_308 rfl rfl (leb rfl) (bz _) (fun _ => rfl) (ok_Model_isOf hv) ?_
          by_cases c13 : v12 = 0
          · rw [if_pos c13] at h
            refine w_if_ne_f (q := 55) d_Model_copy_52 73 rfl rfl c13 ?_
            refine w_aload_n (q := 56) d_Model_copy_55 rfl rfl ?_
            refine w_aload_n (q := 57) d_Model_copy_56 rfl rfl ?_
            refine w_iload_n (q := 58) d_Model_copy_57 rfl rfl ?_
            refine w_bipush (q := 60) (v := 7) d_Model_copy_58 rfl (by decide) ?_
            obtain ⟨v14, hv, h⟩ := bnd h
            refine w_callVi (q := 63) (M' := M_Model_of) (n' := 0) (k := 54) (As := [.int p0, .int 7]) (sh' := SH) (b1 := (0, 0)) d_Model_copy_60 rfl mw_Model_of (by decide) (by decide) ml_Model_305 (by decide) s_54 (by decide) rfl rfl rfl (leb rfl) (bz _) (fun _ => rfl) (ok_Model_of hv) ?_
            obtain ⟨v15, hv, h⟩ := bnd h
            refine w_callVi (q := 66) (M' := M_Model_holdersOf) (n' := 2) (k := 54) (As := [.int v14]) (sh' := SH) (b1 := (0, 0)) d_Model_copy_63 rfl mw_Model_holdersOf (by decide) (by decide) ml_Model_346 (by decide) s_54 (by decide) rfl rfl rfl (leb rfl) (bz _) (fun _ => rfl) (ok_Model_holdersOf hv) ?_
            refine w_iload_n (q := 67) d_Model_copy_66 rfl rfl ?_
            obtain ⟨v16, hv, h⟩ := bnd h
            refine w_callSi (q := 70) (M' := M_Model_isOf) (n' := 0) (As := [.int v15, .int p1]) (sh' := SH) (b1 := (0, 0)) d_Model_copy_67 rfl mw_Model_isOf (by decide) (by decide) ml_Model_308 rfl rfl (leb rfl) (bz _) (fun _ => rfl) (ok_Model_isOf hv) ?_
            by_cases c17 : v16 = 0
            · rw [if_pos c17] at h
              refine w_if_eq_t (q := 79) d_Model_copy_70 rfl c17 ?_
              refine w_aload_n (q := 80) d_Model_copy_79 rfl rfl ?_
              obtain ⟨v18, hv, h⟩ := bnd h
              refine w_callVv (q := 83) (M' := M_Model_keep) (n' := 1) (k := 54) (As := []) (sh' := SH) (b1 := (0, 0)) d_Model_copy_80 rfl mw_Model_keep (by decide) (by decide) ml_Model_368 (by decide) s_54 (by decide) rfl rfl rfl (leb rfl) (bz _) (fun _ => rfl) (ok_Model_keep hv) ?_
              refine w_aload_n (q := 84) d_Model_copy_83 rfl rfl ?_
              refine w_aload_n (q := 85) d_Model_copy_84 rfl rfl ?_
              refine w_iload_n (q := 86) d_Model_copy_85 rfl rfl ?_
              refine w_iconst (q := 87) (v := 0) d_Model_copy_86 rfl (by decide) ?_
              obtain ⟨v19, hv, h⟩ := bnd h
              refine w_callVi (q := 90) (M' := M_Model_of) (n' := 0) (k := 54) (As := [.int p0, .int 0]) (sh' := SH) (b1 := (0, 0)) d_Model_copy_87 rfl mw_Model_of (by decide) (by decide) ml_Model_305 (by decide) s_54 (by decide) rfl rfl rfl (leb rfl) (bz _) (fun _ => rfl) (ok_Model_of hv) ?_
              refine w_iload_n (q := 91) d_Model_copy_90 rfl rfl ?_
              refine w_aload_n (q := 92) d_Model_copy_91 rfl rfl ?_
              refine w_iload_n (q := 93) d_Model_copy_92 rfl rfl ?_
              refine w_iconst (q := 94) (v := 3) d_Model_copy_93 rfl (by decide) ?_
              obtain ⟨v20, hv, h⟩ := bnd h
              refine w_callVi (q := 97) (M' := M_Model_of) (n' := 0) (k := 54) (As := [.int p0, .int 3]) (sh' := SH) (b1 := (0, 0)) d_Model_copy_94 rfl mw_Model_of (by decide) (by decide) ml_Model_305 (by decide) s_54 (by decide) rfl rfl rfl (leb rfl) (bz _) (fun _ => rfl) (ok_Model_of hv) ?_
              refine w_aload_n (q := 98) d_Model_copy_97 rfl rfl ?_
              refine w_iload_n (q := 99) d_Model_copy_98 rfl rfl ?_
              refine w_iconst (q := 100) (v := 4) d_Model_copy_99 rfl (by decide) ?_
              obtain ⟨v21, hv, h⟩ := bnd h
              refine w_callVi (q := 103) (M' := M_Model_of) (n' := 0) (k := 54) (As := [.int p0, .int 4]) (sh' := SH) (b1 := (0, 0)) d_Model_copy_100 rfl mw_Model_of (by decide) (by decide) ml_Model_305 (by decide) s_54 (by decide) rfl rfl rfl (leb rfl) (bz _) (fun _ => rfl) (ok_Model_of hv) ?_
              refine w_aload_n (q := 104) d_Model_copy_103 rfl rfl ?_
              refine w_iload_n (q := 105) d_Model_copy_104 rfl rfl ?_
              refine w_iconst (q := 106) (v := 5) d_Model_copy_105 rfl (by decide) ?_
              obtain ⟨v22, hv, h⟩ := bnd h
              refine w_callVi (q := 109) (M' := M_Model_of) (n' := 0) (k := 54) (As := [.int p0, .int 5]) (sh' := SH) (b1 := (0, 0)) d_Model_copy_106 rfl mw_Model_of (by decide) (by decide) ml_Model_305 (by decide) s_54 (by decide) rfl rfl rfl (leb rfl) (bz _) (fun _ => rfl) (ok_Model_of hv) ?_
              refine w_aload_n (q := 110) d_Model_copy_109 rfl rfl ?_
              refine w_iload_n (q := 111) d_Model_copy_110 rfl rfl ?_
              refine w_bipush (q := 113) (v := 7) d_Model_copy_111 rfl (by decide) ?_
              obtain ⟨v23, hv, h⟩ := bnd h
              refine w_callVi (q := 116) (M' := M_Model_of) (n' := 0) (k := 54) (As := [.int p0, .int 7]) (sh' := SH) (b1 := (0, 0)) d_Model_copy_113 rfl mw_Model_of (by decide) (by decide) ml_Model_305 (by decide) s_54 (by decide) rfl rfl rfl (leb rfl) (bz _) (fun _ => rfl) (ok_Model_of hv) ?_
              obtain ⟨v24, hv, h⟩ := bnd h
              refine w_callVi (q := 119) (M' := M_Model_putEntry) (n' := 0) (k := 54) (As := [.int v19, .int p1, .int v20, .int v21, .int v22, .int v23]) (sh' := SH) (b1 := (0, 0)) d_Model_copy_116 rfl mw_Model_putEntry (by decide) (by decide) ml_Model_381 (by decide) s_54 (by decide) rfl rfl rfl (leb rfl) (bz _) (fun _ => rfl) (ok_Model_putEntry hv) ?_
              cases h
              exact w_ireturn d_Model_copy_119 rfl rfl ⟨rfl, rfl, rfl, rfl⟩
            · rw [if_neg c17] at h
              refine w_if_eq_f (q := 73) d_Model_copy_70 79 rfl rfl c17 ?_
              refine w_aload_n (q := 74) d_Model_copy_73 rfl rfl ?_
              refine w_iconst (q := 75) (v := 1) d_Model_copy_74 rfl (by decide) ?_
              obtain ⟨v25, hv, h⟩ := bnd h
              refine w_callVi (q := 78) (M' := M_Model_refuse) (n' := 0) (k := 54) (As := [.int 1]) (sh' := SH) (b1 := (0, 0)) d_Model_copy_75 rfl mw_Model_refuse (by decide) (by decide) ml_Model_365 (by decide) s_54 (by decide) rfl rfl rfl (leb rfl) (bz _) (fun _ => rfl) (ok_Model_refuse hv) ?_
              cases h
              exact w_ireturn d_Model_copy_78 rfl rfl ⟨rfl, rfl, rfl, rfl⟩
          · rw [if_neg c13] at h
            refine w_if_ne_t (q := 73) d_Model_copy_52 rfl c13 ?_
            refine w_aload_n (q := 74) d_Model_copy_73 rfl rfl ?_
            refine w_iconst (q := 75) (v := 1) d_Model_copy_74 rfl (by decide) ?_
            obtain ⟨v26, hv, h⟩ := bnd h
            refine w_callVi (q := 78) (M' := M_Model_refuse) (n' := 0) (k := 54) (As := [.int 1]) (sh' := SH) (b1 := (0, 0)) d_Model_copy_75 rfl mw_Model_refuse (by decide) (by decide) ml_Model_365 (by decide) s_54 (by decide) rfl rfl rfl (leb rfl) (bz _) (fun _ => rfl) (ok_Model_refuse hv) ?_
            cases h
            exact w_ireturn d_Model_copy_78 rfl rfl ⟨rfl, rfl, rfl, rfl⟩
def sp_Model_isLoose_j50 (p0 : Int32) (g : Mem) (m0 : Mem) : Option (Int32 × Mem) := (rd m0 64 3 1).bind fun v7 => (wr m0 64 3 1 (v7 + 1)).bind fun g8 => some (0, g8)
theorem ok_Model_isLoose_j50 {γ : GG} {tt : Bool} {p0 : Int32} {g : Mem} {m0 : Mem} {res : Int32 × Mem} (h : sp_Model_isLoose_j50 p0 g m0  = some res) : WA γ M_Model_isLoose 2 50 [some (.ref 54), none] [] SH m0 tt (0, 0) (pI SH res.1 res.2 tt) := by
  unfold sp_Model_isLoose_j50 at h
  refine w_aload_n (q := 51) d_Model_isLoose_50 rfl rfl ?_
  refine w_get (q := 54) (ci := 12) (j := 10) d_Model_isLoose_51 rfl (by decide) fl_Model_68 (by decide) (by decide) s_54 rfl rfl ?_
  refine w_iconst (q := 55) (v := 1) d_Model_isLoose_54 rfl (by decide) ?_
  refine w_dup2 (q := 56) d_Model_isLoose_55 rfl rfl rfl ?_
  obtain ⟨v7, hv, h⟩ := bnd h
  obtain ⟨hi, hv⟩ := rd_ok hv
  refine w_iald (q := 57) (t := 0) d_Model_isLoose_56 rfl a_64.2 a_64.1 hi rfl ?_
  rw [hv]
  refine w_iconst (q := 58) (v := 1) d_Model_isLoose_57 rfl (by decide) ?_
  refine w_iadd (q := 59) d_Model_isLoose_58 rfl ?_
  obtain ⟨g8, hv, h⟩ := bnd h
  obtain ⟨hi, hv⟩ := wr_ok hv
  refine w_iast (q := 60) d_Model_isLoose_59 rfl a_64.2 a_64.1 hi hv ?_
  refine w_iconst (q := 61) (v := 0) d_Model_isLoose_60 rfl (by decide) ?_
  cases h
  exact w_ireturn d_Model_isLoose_61 rfl rfl ⟨rfl, rfl, rfl, rfl⟩
def sp_Model_isLoose (p0 : Int32) (g : Mem) : Option (Int32 × Mem) := (sp_Model_isEntry p0 g).bind fun v1 => if v1 = 0 then (sp_Model_failing 1 g).bind fun v3 => (bl v3.1).bind fun v4 => some (v4, v3.2) else (sp_Model_isThere p0 g).bind fun v5 => if v5 = 0 then sp_Model_isLoose_j50 p0 g g else (sp_Model_of p0 6 g).bind fun v9 => if v9 = 0 then (sp_Model_of p0 1 g).bind fun v11 => (sp_Model_isOf (g 54 25) v11 g).bind fun v12 => if v12 = 0 then some (1, g) else sp_Model_isLoose_j50 p0 g g else sp_Model_isLoose_j50 p0 g g
theorem ok_Model_isLoose {γ : GG} {tt : Bool} {p0 : Int32} {g : Mem} {res : Int32 × Mem} (h : sp_Model_isLoose p0 g = some res) : CA γ M_Model_isLoose 2 [.ref 54, .int p0] SH g tt (0, 0) (pI SH res.1 res.2 tt) := by
  refine CA.of mw_Model_isLoose.1 0 rfl ?_
  show WA γ M_Model_isLoose 2 0 [some (.ref 54), some (.int p0)] [] SH g tt (0, 0) (pI SH res.1 res.2 tt)
  unfold sp_Model_isLoose at h
  refine w_aload_n (q := 1) d_Model_isLoose_0 rfl rfl ?_
  refine w_iload_n (q := 2) d_Model_isLoose_1 rfl rfl ?_
  obtain ⟨v1, hv, h⟩ := bnd h
  refine w_callVi (q := 5) (M' := M_Model_isEntry) (n' := 1) (k := 54) (As := [.int p0]) (sh' := SH) (b1 := (0, 0)) d_Model_isLoose_2 rfl mw_Model_isEntry (by decide) (by decide) ml_Model_341 (by decide) s_54 (by decide) rfl rfl rfl (leb rfl) (bz _) (fun _ => rfl) (ok_Model_isEntry hv) ?_
  by_cases c2 : v1 = 0
  · rw [if_pos c2] at h
    refine w_if_ne_f (q := 8) d_Model_isLoose_5 14 rfl rfl c2 ?_
    refine w_aload_n (q := 9) d_Model_isLoose_8 rfl rfl ?_
    refine w_iconst (q := 10) (v := 1) d_Model_isLoose_9 rfl (by decide) ?_
    obtain ⟨v3, hv, h⟩ := bnd h
    refine w_callVi (q := 13) (M' := M_Model_failing) (n' := 0) (k := 54) (As := [.int 1]) (sh' := SH) (b1 := (0, 0)) d_Model_isLoose_10 rfl mw_Model_failing (by decide) (by decide) ml_Model_353 (by decide) s_54 (by decide) rfl rfl rfl (leb rfl) (bz _) (fun _ => rfl) (ok_Model_failing hv) ?_
    obtain ⟨v4, hv, h⟩ := bnd h
    obtain ⟨hv, hn⟩ := bl_ok hv
    rw [hv] at h
    cases h
    exact w_ireturn d_Model_isLoose_13 rfl hn ⟨rfl, rfl, rfl, rfl⟩
  · rw [if_neg c2] at h
    refine w_if_ne_t (q := 14) d_Model_isLoose_5 rfl c2 ?_
    refine w_aload_n (q := 15) d_Model_isLoose_14 rfl rfl ?_
    refine w_iload_n (q := 16) d_Model_isLoose_15 rfl rfl ?_
    obtain ⟨v5, hv, h⟩ := bnd h
    refine w_callVi (q := 19) (M' := M_Model_isThere) (n' := 1) (k := 54) (As := [.int p0]) (sh' := SH) (b1 := (0, 0)) d_Model_isLoose_16 rfl mw_Model_isThere (by decide) (by decide) ml_Model_315 (by decide) s_54 (by decide) rfl rfl rfl (leb rfl) (bz _) (fun _ => rfl) (ok_Model_isThere hv) ?_
    by_cases c6 : v5 = 0
    · rw [if_pos c6] at h
      refine w_if_eq_t (q := 50) d_Model_isLoose_19 rfl c6 ?_
      refine w_ls (ls' := [some (.ref 54), none]) (And.intro rfl trivial) ?_
      exact ok_Model_isLoose_j50 h
    · rw [if_neg c6] at h
      refine w_if_eq_f (q := 22) d_Model_isLoose_19 50 rfl rfl c6 ?_
      refine w_aload_n (q := 23) d_Model_isLoose_22 rfl rfl ?_
      refine w_iload_n (q := 24) d_Model_isLoose_23 rfl rfl ?_
      refine w_bipush (q := 26) (v := 6) d_Model_isLoose_24 rfl (by decide) ?_
      obtain ⟨v9, hv, h⟩ := bnd h
      refine w_callVi (q := 29) (M' := M_Model_of) (n' := 0) (k := 54) (As := [.int p0, .int 6]) (sh' := SH) (b1 := (0, 0)) d_Model_isLoose_26 rfl mw_Model_of (by decide) (by decide) ml_Model_305 (by decide) s_54 (by decide) rfl rfl rfl (leb rfl) (bz _) (fun _ => rfl) (ok_Model_of hv) ?_
      by_cases c10 : v9 = 0
      · rw [if_pos c10] at h
        refine w_if_ne_f (q := 32) d_Model_isLoose_29 50 rfl rfl c10 ?_
        refine w_aload_n (q := 33) d_Model_isLoose_32 rfl rfl ?_
        refine w_get (q := 36) (ci := 12) (j := 25) d_Model_isLoose_33 rfl (by decide) fl_Model_289 (by decide) (by decide) s_54 rfl rfl ?_
        refine w_aload_n (q := 37) d_Model_isLoose_36 rfl rfl ?_
        refine w_iload_n (q := 38) d_Model_isLoose_37 rfl rfl ?_
        refine w_iconst (q := 39) (v := 1) d_Model_isLoose_38 rfl (by decide) ?_
        obtain ⟨v11, hv, h⟩ := bnd h
        refine w_callVi (q := 42) (M' := M_Model_of) (n' := 0) (k := 54) (As := [.int p0, .int 1]) (sh' := SH) (b1 := (0, 0)) d_Model_isLoose_39 rfl mw_Model_of (by decide) (by decide) ml_Model_305 (by decide) s_54 (by decide) rfl rfl rfl (leb rfl) (bz _) (fun _ => rfl) (ok_Model_of hv) ?_
        obtain ⟨v12, hv, h⟩ := bnd h
        refine w_callSi (q := 45) (M' := M_Model_isOf) (n' := 0) (As := [.int (g 54 25), .int v11]) (sh' := SH) (b1 := (0, 0)) d_Model_isLoose_42 rfl mw_Model_isOf (by decide) (by decide) ml_Model_308 rfl rfl (leb rfl) (bz _) (fun _ => rfl) (ok_Model_isOf hv) ?_
        by_cases c13 : v12 = 0
        · rw [if_pos c13] at h
          refine w_if_ne_f (q := 48) d_Model_isLoose_45 50 rfl rfl c13 ?_
          refine w_iconst (q := 49) (v := 1) d_Model_isLoose_48 rfl (by decide) ?_
          cases h
          exact w_ireturn d_Model_isLoose_49 rfl rfl ⟨rfl, rfl, rfl, rfl⟩
        · rw [if_neg c13] at h
          refine w_if_ne_t (q := 50) d_Model_isLoose_45 rfl c13 ?_
          refine w_ls (ls' := [some (.ref 54), none]) (And.intro rfl trivial) ?_
          exact ok_Model_isLoose_j50 h
      · rw [if_neg c10] at h
        refine w_if_ne_t (q := 50) d_Model_isLoose_29 rfl c10 ?_
        refine w_ls (ls' := [some (.ref 54), none]) (And.intro rfl trivial) ?_
        exact ok_Model_isLoose_j50 h
def sp_Model_knot (F : Nat) (p0 : Int32) (g : Mem) : Option (Int32 × Mem) := (sp_Model_isLoose p0 (mset g 54 3 0)).bind fun v1 => if v1.1 = 0 then some (0, v1.2) else (sp_Model_keep F v1.2).bind fun v3 => (wr v3 62 432 ((9 * p0) + 6) 1).bind fun g4 => some (1, g4)
theorem ok_Model_knot {γ : GG} {tt : Bool} {F : Nat} {p0 : Int32} {g : Mem} {res : Int32 × Mem} (h : sp_Model_knot F p0 g = some res) : CA γ M_Model_knot 3 [.ref 54, .int p0] SH g tt (0, 0) (pI SH res.1 res.2 tt) := by
  refine CA.of mw_Model_knot.1 0 rfl ?_
  show WA γ M_Model_knot 3 0 [some (.ref 54), some (.int p0)] [] SH g tt (0, 0) (pI SH res.1 res.2 tt)
  unfold sp_Model_knot at h
  refine w_aload_n (q := 1) d_Model_knot_0 rfl rfl ?_
  refine w_iconst (q := 2) (v := 0) d_Model_knot_1 rfl (by decide) ?_
  refine w_put (q := 5) (ci := 12) (j := 3) d_Model_knot_2 rfl (by decide) fl_Model_114 (by decide) (by decide) s_54 rfl rfl rfl rfl rfl rfl ?_
  refine w_aload_n (q := 6) d_Model_knot_5 rfl rfl ?_
  refine w_iload_n (q := 7) d_Model_knot_6 rfl rfl ?_
  obtain ⟨v1, hv, h⟩ := bnd h
  refine w_callVi (q := 10) (M' := M_Model_isLoose) (n' := 2) (k := 54) (As := [.int p0]) (sh' := SH) (b1 := (0, 0)) d_Model_knot_7 rfl mw_Model_isLoose (by decide) (by decide) ml_Model_385 (by decide) s_54 (by decide) rfl rfl rfl (leb rfl) (bz _) (fun _ => rfl) (ok_Model_isLoose hv) ?_
  by_cases c2 : v1.1 = 0
  · rw [if_pos c2] at h
    refine w_if_ne_f (q := 13) d_Model_knot_10 15 rfl rfl c2 ?_
    refine w_iconst (q := 14) (v := 0) d_Model_knot_13 rfl (by decide) ?_
    cases h
    exact w_ireturn d_Model_knot_14 rfl rfl ⟨rfl, rfl, rfl, rfl⟩
  · rw [if_neg c2] at h
    refine w_if_ne_t (q := 15) d_Model_knot_10 rfl c2 ?_
    refine w_aload_n (q := 16) d_Model_knot_15 rfl rfl ?_
    obtain ⟨v3, hv, h⟩ := bnd h
    refine w_callVv (q := 19) (M' := M_Model_keep) (n' := 1) (k := 54) (As := []) (sh' := SH) (b1 := (0, 0)) d_Model_knot_16 rfl mw_Model_keep (by decide) (by decide) ml_Model_368 (by decide) s_54 (by decide) rfl rfl rfl (leb rfl) (bz _) (fun _ => rfl) (ok_Model_keep hv) ?_
    refine w_aload_n (q := 20) d_Model_knot_19 rfl rfl ?_
    refine w_get (q := 23) (ci := 12) (j := 8) d_Model_knot_20 rfl (by decide) fl_Model_62 (by decide) (by decide) s_54 rfl rfl ?_
    refine w_bipush (q := 25) (v := 9) d_Model_knot_23 rfl (by decide) ?_
    refine w_iload_n (q := 26) d_Model_knot_25 rfl rfl ?_
    refine w_imul (q := 27) d_Model_knot_26 rfl ?_
    refine w_bipush (q := 29) (v := 6) d_Model_knot_27 rfl (by decide) ?_
    refine w_iadd (q := 30) d_Model_knot_29 rfl ?_
    refine w_iconst (q := 31) (v := 1) d_Model_knot_30 rfl (by decide) ?_
    obtain ⟨g4, hv, h⟩ := bnd h
    obtain ⟨hi, hv⟩ := wr_ok hv
    refine w_iast (q := 32) d_Model_knot_31 rfl a_62.2 a_62.1 hi hv ?_
    refine w_iconst (q := 33) (v := 1) d_Model_knot_32 rfl (by decide) ?_
    cases h
    exact w_ireturn d_Model_knot_33 rfl rfl ⟨rfl, rfl, rfl, rfl⟩
def sp_Model_comb (F : Nat) (p0 : Int32) (g : Mem) : Option (Int32 × Mem) := (sp_Model_isLoose p0 (mset g 54 3 0)).bind fun v1 => if v1.1 = 0 then some (0, v1.2) else (sp_Model_keep F v1.2).bind fun v3 => (sp_Model_lose p0 v3).bind fun v4 => some (1, v4)
theorem ok_Model_comb {γ : GG} {tt : Bool} {F : Nat} {p0 : Int32} {g : Mem} {res : Int32 × Mem} (h : sp_Model_comb F p0 g = some res) : CA γ M_Model_comb 3 [.ref 54, .int p0] SH g tt (0, 0) (pI SH res.1 res.2 tt) := by
  refine CA.of mw_Model_comb.1 0 rfl ?_
  show WA γ M_Model_comb 3 0 [some (.ref 54), some (.int p0)] [] SH g tt (0, 0) (pI SH res.1 res.2 tt)
  unfold sp_Model_comb at h
  refine w_aload_n (q := 1) d_Model_comb_0 rfl rfl ?_
  refine w_iconst (q := 2) (v := 0) d_Model_comb_1 rfl (by decide) ?_
  refine w_put (q := 5) (ci := 12) (j := 3) d_Model_comb_2 rfl (by decide) fl_Model_114 (by decide) (by decide) s_54 rfl rfl rfl rfl rfl rfl ?_
  refine w_aload_n (q := 6) d_Model_comb_5 rfl rfl ?_
  refine w_iload_n (q := 7) d_Model_comb_6 rfl rfl ?_
  obtain ⟨v1, hv, h⟩ := bnd h
  refine w_callVi (q := 10) (M' := M_Model_isLoose) (n' := 2) (k := 54) (As := [.int p0]) (sh' := SH) (b1 := (0, 0)) d_Model_comb_7 rfl mw_Model_isLoose (by decide) (by decide) ml_Model_385 (by decide) s_54 (by decide) rfl rfl rfl (leb rfl) (bz _) (fun _ => rfl) (ok_Model_isLoose hv) ?_
  by_cases c2 : v1.1 = 0
  · rw [if_pos c2] at h
    refine w_if_ne_f (q := 13) d_Model_comb_10 15 rfl rfl c2 ?_
    refine w_iconst (q := 14) (v := 0) d_Model_comb_13 rfl (by decide) ?_
    cases h
    exact w_ireturn d_Model_comb_14 rfl rfl ⟨rfl, rfl, rfl, rfl⟩
  · rw [if_neg c2] at h
    refine w_if_ne_t (q := 15) d_Model_comb_10 rfl c2 ?_
    refine w_aload_n (q := 16) d_Model_comb_15 rfl rfl ?_
    obtain ⟨v3, hv, h⟩ := bnd h
    refine w_callVv (q := 19) (M' := M_Model_keep) (n' := 1) (k := 54) (As := []) (sh' := SH) (b1 := (0, 0)) d_Model_comb_16 rfl mw_Model_keep (by decide) (by decide) ml_Model_368 (by decide) s_54 (by decide) rfl rfl rfl (leb rfl) (bz _) (fun _ => rfl) (ok_Model_keep hv) ?_
    refine w_aload_n (q := 20) d_Model_comb_19 rfl rfl ?_
    refine w_iload_n (q := 21) d_Model_comb_20 rfl rfl ?_
    obtain ⟨v4, hv, h⟩ := bnd h
    refine w_callVv (q := 24) (M' := M_Model_lose) (n' := 0) (k := 54) (As := [.int p0]) (sh' := SH) (b1 := (0, 0)) d_Model_comb_21 rfl mw_Model_lose (by decide) (by decide) ml_Model_320 (by decide) s_54 (by decide) rfl rfl rfl (leb rfl) (bz _) (fun _ => rfl) (ok_Model_lose hv) ?_
    refine w_iconst (q := 25) (v := 1) d_Model_comb_24 rfl (by decide) ?_
    cases h
    exact w_ireturn d_Model_comb_25 rfl rfl ⟨rfl, rfl, rfl, rfl⟩
def sp_Model_shave (F : Nat) (p0 : Int32) (p1 : Int32) (g : Mem) : Option (Int32 × Mem) := (sp_Model_isMonk p0 (mset g 54 3 0)).bind fun v1 => if v1 = 0 then (sp_Model_fail 1 (mset g 54 3 0)).bind fun v3 => some (v3.1, v3.2) else if p1 < 0 then (sp_Model_refuse 1 (mset g 54 3 0)).bind fun v5 => some (v5.1, v5.2) else (rd (mset g 54 3 0) 61 12 p0).bind fun v6 => if p1 < v6 then (sp_Model_keep F (mset g 54 3 0)).bind fun v8 => (wr v8 61 12 p0 p1).bind fun g9 => (sp_Model_loseFar F g9).bind fun v10 => some (v10.1, v10.2) else (sp_Model_refuse 1 (mset g 54 3 0)).bind fun v11 => some (v11.1, v11.2)
theorem ok_Model_shave {γ : GG} {tt : Bool} {F : Nat} {p0 : Int32} {p1 : Int32} {g : Mem} {res : Int32 × Mem} (h : sp_Model_shave F p0 p1 g = some res) : CA γ M_Model_shave 4 [.ref 54, .int p0, .int p1] SH g tt (0, 0) (pI SH res.1 res.2 tt) := by
  refine CA.of mw_Model_shave.1 0 rfl ?_
  show WA γ M_Model_shave 4 0 [some (.ref 54), some (.int p0), some (.int p1)] [] SH g tt (0, 0) (pI SH res.1 res.2 tt)
  unfold sp_Model_shave at h
  refine w_aload_n (q := 1) d_Model_shave_0 rfl rfl ?_
  refine w_iconst (q := 2) (v := 0) d_Model_shave_1 rfl (by decide) ?_
  refine w_put (q := 5) (ci := 12) (j := 3) d_Model_shave_2 rfl (by decide) fl_Model_114 (by decide) (by decide) s_54 rfl rfl rfl rfl rfl rfl ?_
  refine w_aload_n (q := 6) d_Model_shave_5 rfl rfl ?_
  refine w_iload_n (q := 7) d_Model_shave_6 rfl rfl ?_
  obtain ⟨v1, hv, h⟩ := bnd h
  refine w_callVi (q := 10) (M' := M_Model_isMonk) (n' := 1) (k := 54) (As := [.int p0]) (sh' := SH) (b1 := (0, 0)) d_Model_shave_7 rfl mw_Model_isMonk (by decide) (by decide) ml_Model_335 (by decide) s_54 (by decide) rfl rfl rfl (leb rfl) (bz _) (fun _ => rfl) (ok_Model_isMonk hv) ?_
  by_cases c2 : v1 = 0
  · rw [if_pos c2] at h
    refine w_if_ne_f (q := 13) d_Model_shave_10 19 rfl rfl c2 ?_
    refine w_aload_n (q := 14) d_Model_shave_13 rfl rfl ?_
    refine w_iconst (q := 15) (v := 1) d_Model_shave_14 rfl (by decide) ?_
    obtain ⟨v3, hv, h⟩ := bnd h
    refine w_callVi (q := 18) (M' := M_Model_fail) (n' := 0) (k := 54) (As := [.int 1]) (sh' := SH) (b1 := (0, 0)) d_Model_shave_15 rfl mw_Model_fail (by decide) (by decide) ml_Model_273 (by decide) s_54 (by decide) rfl rfl rfl (leb rfl) (bz _) (fun _ => rfl) (ok_Model_fail hv) ?_
    cases h
    exact w_ireturn d_Model_shave_18 rfl rfl ⟨rfl, rfl, rfl, rfl⟩
  · rw [if_neg c2] at h
    refine w_if_ne_t (q := 19) d_Model_shave_10 rfl c2 ?_
    refine w_iload_n (q := 20) d_Model_shave_19 rfl rfl ?_
    by_cases c4 : p1 < 0
    · rw [if_pos c4] at h
      refine w_if_lt_t (q := 33) d_Model_shave_20 rfl c4 ?_
      refine w_aload_n (q := 34) d_Model_shave_33 rfl rfl ?_
      refine w_iconst (q := 35) (v := 1) d_Model_shave_34 rfl (by decide) ?_
      obtain ⟨v5, hv, h⟩ := bnd h
      refine w_callVi (q := 38) (M' := M_Model_refuse) (n' := 0) (k := 54) (As := [.int 1]) (sh' := SH) (b1 := (0, 0)) d_Model_shave_35 rfl mw_Model_refuse (by decide) (by decide) ml_Model_365 (by decide) s_54 (by decide) rfl rfl rfl (leb rfl) (bz _) (fun _ => rfl) (ok_Model_refuse hv) ?_
      cases h
      exact w_ireturn d_Model_shave_38 rfl rfl ⟨rfl, rfl, rfl, rfl⟩
    · rw [if_neg c4] at h
      refine w_if_lt_f (q := 23) d_Model_shave_20 33 rfl rfl c4 ?_
      refine w_iload_n (q := 24) d_Model_shave_23 rfl rfl ?_
      refine w_aload_n (q := 25) d_Model_shave_24 rfl rfl ?_
      refine w_get (q := 28) (ci := 12) (j := 7) d_Model_shave_25 rfl (by decide) fl_Model_59 (by decide) (by decide) s_54 rfl rfl ?_
      refine w_iload_n (q := 29) d_Model_shave_28 rfl rfl ?_
      obtain ⟨v6, hv, h⟩ := bnd h
      obtain ⟨hi, hv⟩ := rd_ok hv
      refine w_iald (q := 30) (t := 0) d_Model_shave_29 rfl a_61.2 a_61.1 hi rfl ?_
      rw [hv]
      by_cases c7 : p1 < v6
      · rw [if_pos c7] at h
        refine w_icmp_lt_t (q := 39) d_Model_shave_30 rfl c7 ?_
        refine w_aload_n (q := 40) d_Model_shave_39 rfl rfl ?_
        obtain ⟨v8, hv, h⟩ := bnd h
        refine w_callVv (q := 43) (M' := M_Model_keep) (n' := 1) (k := 54) (As := []) (sh' := SH) (b1 := (0, 0)) d_Model_shave_40 rfl mw_Model_keep (by decide) (by decide) ml_Model_368 (by decide) s_54 (by decide) rfl rfl rfl (leb rfl) (bz _) (fun _ => rfl) (ok_Model_keep hv) ?_
        refine w_aload_n (q := 44) d_Model_shave_43 rfl rfl ?_
        refine w_get (q := 47) (ci := 12) (j := 7) d_Model_shave_44 rfl (by decide) fl_Model_59 (by decide) (by decide) s_54 rfl rfl ?_
        refine w_iload_n (q := 48) d_Model_shave_47 rfl rfl ?_
        refine w_iload_n (q := 49) d_Model_shave_48 rfl rfl ?_
        obtain ⟨g9, hv, h⟩ := bnd h
        obtain ⟨hi, hv⟩ := wr_ok hv
        refine w_iast (q := 50) d_Model_shave_49 rfl a_61.2 a_61.1 hi hv ?_
        refine w_aload_n (q := 51) d_Model_shave_50 rfl rfl ?_
        obtain ⟨v10, hv, h⟩ := bnd h
        refine w_callVi (q := 54) (M' := M_Model_loseFar) (n' := 3) (k := 54) (As := []) (sh' := SH) (b1 := (0, 0)) d_Model_shave_51 rfl mw_Model_loseFar (by decide) (by decide) ml_Model_292 (by decide) s_54 (by decide) rfl rfl rfl (leb rfl) (bz _) (fun _ => rfl) (ok_Model_loseFar hv) ?_
        cases h
        exact w_ireturn d_Model_shave_54 rfl rfl ⟨rfl, rfl, rfl, rfl⟩
      · rw [if_neg c7] at h
        refine w_icmp_lt_f (q := 33) d_Model_shave_30 39 rfl rfl c7 ?_
        refine w_aload_n (q := 34) d_Model_shave_33 rfl rfl ?_
        refine w_iconst (q := 35) (v := 1) d_Model_shave_34 rfl (by decide) ?_
        obtain ⟨v11, hv, h⟩ := bnd h
        refine w_callVi (q := 38) (M' := M_Model_refuse) (n' := 0) (k := 54) (As := [.int 1]) (sh' := SH) (b1 := (0, 0)) d_Model_shave_35 rfl mw_Model_refuse (by decide) (by decide) ml_Model_365 (by decide) s_54 (by decide) rfl rfl rfl (leb rfl) (bz _) (fun _ => rfl) (ok_Model_refuse hv) ?_
        cases h
        exact w_ireturn d_Model_shave_38 rfl rfl ⟨rfl, rfl, rfl, rfl⟩
def sp_Model_moths (F : Nat) (p0 : Int32) (p1 : Int32) (p2 : Int32) (g : Mem) : Option (Int32 × Mem) := (sp_Model_isMonk p0 (mset g 54 3 0)).bind fun v1 => if v1 = 0 then (sp_Model_fail 1 (mset g 54 3 0)).bind fun v3 => some (v3.1, v3.2) else (sp_Model_isIn p1.toInt64 0 60 (mset g 54 3 0)).bind fun v4 => if v4 = 0 then (sp_Model_refuse 1 (mset g 54 3 0)).bind fun v6 => some (v6.1, v6.2) else (sp_Model_isIn p2.toInt64 p1.toInt64 60 (mset g 54 3 0)).bind fun v7 => if v7 = 0 then (sp_Model_refuse 1 (mset g 54 3 0)).bind fun v9 => some (v9.1, v9.2) else (sp_Model_keep F (mset g 54 3 0)).bind fun v10 => (sp_Model_mothsEat F p0 p1 p2 v10).bind fun v11 => some (v11.1, v11.2)
theorem ok_Model_moths {γ : GG} {tt : Bool} {F : Nat} {p0 : Int32} {p1 : Int32} {p2 : Int32} {g : Mem} {res : Int32 × Mem} (h : sp_Model_moths F p0 p1 p2 g = some res) : CA γ M_Model_moths 4 [.ref 54, .int p0, .int p1, .int p2] SH g tt (0, 0) (pI SH res.1 res.2 tt) := by
  refine CA.of mw_Model_moths.1 0 rfl ?_
  show WA γ M_Model_moths 4 0 [some (.ref 54), some (.int p0), some (.int p1), some (.int p2)] [] SH g tt (0, 0) (pI SH res.1 res.2 tt)
  unfold sp_Model_moths at h
  refine w_aload_n (q := 1) d_Model_moths_0 rfl rfl ?_
  refine w_iconst (q := 2) (v := 0) d_Model_moths_1 rfl (by decide) ?_
  refine w_put (q := 5) (ci := 12) (j := 3) d_Model_moths_2 rfl (by decide) fl_Model_114 (by decide) (by decide) s_54 rfl rfl rfl rfl rfl rfl ?_
  refine w_aload_n (q := 6) d_Model_moths_5 rfl rfl ?_
  refine w_iload_n (q := 7) d_Model_moths_6 rfl rfl ?_
  obtain ⟨v1, hv, h⟩ := bnd h
  refine w_callVi (q := 10) (M' := M_Model_isMonk) (n' := 1) (k := 54) (As := [.int p0]) (sh' := SH) (b1 := (0, 0)) d_Model_moths_7 rfl mw_Model_isMonk (by decide) (by decide) ml_Model_335 (by decide) s_54 (by decide) rfl rfl rfl (leb rfl) (bz _) (fun _ => rfl) (ok_Model_isMonk hv) ?_
  by_cases c2 : v1 = 0
  · rw [if_pos c2] at h
    refine w_if_ne_f (q := 13) d_Model_moths_10 19 rfl rfl c2 ?_
    refine w_aload_n (q := 14) d_Model_moths_13 rfl rfl ?_
    refine w_iconst (q := 15) (v := 1) d_Model_moths_14 rfl (by decide) ?_
    obtain ⟨v3, hv, h⟩ := bnd h
    refine w_callVi (q := 18) (M' := M_Model_fail) (n' := 0) (k := 54) (As := [.int 1]) (sh' := SH) (b1 := (0, 0)) d_Model_moths_15 rfl mw_Model_fail (by decide) (by decide) ml_Model_273 (by decide) s_54 (by decide) rfl rfl rfl (leb rfl) (bz _) (fun _ => rfl) (ok_Model_fail hv) ?_
    cases h
    exact w_ireturn d_Model_moths_18 rfl rfl ⟨rfl, rfl, rfl, rfl⟩
  · rw [if_neg c2] at h
    refine w_if_ne_t (q := 19) d_Model_moths_10 rfl c2 ?_
    refine w_iload_n (q := 20) d_Model_moths_19 rfl rfl ?_
    refine w_i2l (q := 21) d_Model_moths_20 rfl ?_
    refine w_lconst (q := 22) (v := 0) d_Model_moths_21 rfl (by decide) ?_
    refine w_ldc2 (q := 25) d_Model_moths_22 rfl lo_Model_388 ?_
    obtain ⟨v4, hv, h⟩ := bnd h
    refine w_callSi (q := 28) (M' := M_Model_isIn) (n' := 0) (As := [.long (p1.toInt64), .long (0), .long (60)]) (sh' := SH) (b1 := (0, 0)) d_Model_moths_25 rfl mw_Model_isIn (by decide) (by decide) ml_Model_117 rfl rfl (leb rfl) (bz _) (fun _ => rfl) (ok_Model_isIn hv) ?_
    by_cases c5 : v4 = 0
    · rw [if_pos c5] at h
      refine w_if_eq_t (q := 44) d_Model_moths_28 rfl c5 ?_
      refine w_aload_n (q := 45) d_Model_moths_44 rfl rfl ?_
      refine w_iconst (q := 46) (v := 1) d_Model_moths_45 rfl (by decide) ?_
      obtain ⟨v6, hv, h⟩ := bnd h
      refine w_callVi (q := 49) (M' := M_Model_refuse) (n' := 0) (k := 54) (As := [.int 1]) (sh' := SH) (b1 := (0, 0)) d_Model_moths_46 rfl mw_Model_refuse (by decide) (by decide) ml_Model_365 (by decide) s_54 (by decide) rfl rfl rfl (leb rfl) (bz _) (fun _ => rfl) (ok_Model_refuse hv) ?_
      cases h
      exact w_ireturn d_Model_moths_49 rfl rfl ⟨rfl, rfl, rfl, rfl⟩
    · rw [if_neg c5] at h
      refine w_if_eq_f (q := 31) d_Model_moths_28 44 rfl rfl c5 ?_
      refine w_iload_n (q := 32) d_Model_moths_31 rfl rfl ?_
      refine w_i2l (q := 33) d_Model_moths_32 rfl ?_
      refine w_iload_n (q := 34) d_Model_moths_33 rfl rfl ?_
      refine w_i2l (q := 35) d_Model_moths_34 rfl ?_
      refine w_ldc2 (q := 38) d_Model_moths_35 rfl lo_Model_388 ?_
      obtain ⟨v7, hv, h⟩ := bnd h
      refine w_callSi (q := 41) (M' := M_Model_isIn) (n' := 0) (As := [.long (p2.toInt64), .long (p1.toInt64), .long (60)]) (sh' := SH) (b1 := (0, 0)) d_Model_moths_38 rfl mw_Model_isIn (by decide) (by decide) ml_Model_117 rfl rfl (leb rfl) (bz _) (fun _ => rfl) (ok_Model_isIn hv) ?_
      by_cases c8 : v7 = 0
      · rw [if_pos c8] at h
        refine w_if_ne_f (q := 44) d_Model_moths_41 50 rfl rfl c8 ?_
        refine w_aload_n (q := 45) d_Model_moths_44 rfl rfl ?_
        refine w_iconst (q := 46) (v := 1) d_Model_moths_45 rfl (by decide) ?_
        obtain ⟨v9, hv, h⟩ := bnd h
        refine w_callVi (q := 49) (M' := M_Model_refuse) (n' := 0) (k := 54) (As := [.int 1]) (sh' := SH) (b1 := (0, 0)) d_Model_moths_46 rfl mw_Model_refuse (by decide) (by decide) ml_Model_365 (by decide) s_54 (by decide) rfl rfl rfl (leb rfl) (bz _) (fun _ => rfl) (ok_Model_refuse hv) ?_
        cases h
        exact w_ireturn d_Model_moths_49 rfl rfl ⟨rfl, rfl, rfl, rfl⟩
      · rw [if_neg c8] at h
        refine w_if_ne_t (q := 50) d_Model_moths_41 rfl c8 ?_
        refine w_aload_n (q := 51) d_Model_moths_50 rfl rfl ?_
        obtain ⟨v10, hv, h⟩ := bnd h
        refine w_callVv (q := 54) (M' := M_Model_keep) (n' := 1) (k := 54) (As := []) (sh' := SH) (b1 := (0, 0)) d_Model_moths_51 rfl mw_Model_keep (by decide) (by decide) ml_Model_368 (by decide) s_54 (by decide) rfl rfl rfl (leb rfl) (bz _) (fun _ => rfl) (ok_Model_keep hv) ?_
        refine w_aload_n (q := 55) d_Model_moths_54 rfl rfl ?_
        refine w_iload_n (q := 56) d_Model_moths_55 rfl rfl ?_
        refine w_iload_n (q := 57) d_Model_moths_56 rfl rfl ?_
        refine w_iload_n (q := 58) d_Model_moths_57 rfl rfl ?_
        obtain ⟨v11, hv, h⟩ := bnd h
        refine w_callVi (q := 61) (M' := M_Model_mothsEat) (n' := 3) (k := 54) (As := [.int p0, .int p1, .int p2]) (sh' := SH) (b1 := (0, 0)) d_Model_moths_58 rfl mw_Model_mothsEat (by decide) (by decide) ml_Model_390 (by decide) s_54 (by decide) rfl rfl rfl (leb rfl) (bz _) (fun _ => rfl) (ok_Model_mothsEat hv) ?_
        cases h
        exact w_ireturn d_Model_moths_61 rfl rfl ⟨rfl, rfl, rfl, rfl⟩
def sp_Model_die (F : Nat) (p0 : Int32) (g : Mem) : Option (Int32 × Mem) := (sp_Model_isMonk p0 (mset g 54 3 0)).bind fun v1 => if v1 = 0 then (sp_Model_failing 1 (mset g 54 3 0)).bind fun v3 => (bl v3.1).bind fun v4 => some (v4, v3.2) else (sp_Model_isOf ((mset g 54 3 0) 54 25) p0 (mset g 54 3 0)).bind fun v5 => if v5 = 0 then (sp_Model_keep F (mset g 54 3 0)).bind fun v7 => (wr (mset v7 54 25 ((v7 54 25) ||| (1 <<< (p0 &&& 31)))) 66 6 p0 ((mset v7 54 25 ((v7 54 25) ||| (1 <<< (p0 &&& 31)))) 54 24)).bind fun g8 => some (1, g8) else (rd (mset g 54 3 0) 64 3 1).bind fun v9 => (wr (mset g 54 3 0) 64 3 1 (v9 + 1)).bind fun g10 => some (0, g10)
theorem ok_Model_die {γ : GG} {tt : Bool} {F : Nat} {p0 : Int32} {g : Mem} {res : Int32 × Mem} (h : sp_Model_die F p0 g = some res) : CA γ M_Model_die 2 [.ref 54, .int p0] SH g tt (0, 0) (pI SH res.1 res.2 tt) := by
  refine CA.of mw_Model_die.1 0 rfl ?_
  show WA γ M_Model_die 2 0 [some (.ref 54), some (.int p0)] [] SH g tt (0, 0) (pI SH res.1 res.2 tt)
  unfold sp_Model_die at h
  refine w_aload_n (q := 1) d_Model_die_0 rfl rfl ?_
  refine w_iconst (q := 2) (v := 0) d_Model_die_1 rfl (by decide) ?_
  refine w_put (q := 5) (ci := 12) (j := 3) d_Model_die_2 rfl (by decide) fl_Model_114 (by decide) (by decide) s_54 rfl rfl rfl rfl rfl rfl ?_
  refine w_aload_n (q := 6) d_Model_die_5 rfl rfl ?_
  refine w_iload_n (q := 7) d_Model_die_6 rfl rfl ?_
  obtain ⟨v1, hv, h⟩ := bnd h
  refine w_callVi (q := 10) (M' := M_Model_isMonk) (n' := 1) (k := 54) (As := [.int p0]) (sh' := SH) (b1 := (0, 0)) d_Model_die_7 rfl mw_Model_isMonk (by decide) (by decide) ml_Model_335 (by decide) s_54 (by decide) rfl rfl rfl (leb rfl) (bz _) (fun _ => rfl) (ok_Model_isMonk hv) ?_
  by_cases c2 : v1 = 0
  · rw [if_pos c2] at h
    refine w_if_ne_f (q := 13) d_Model_die_10 19 rfl rfl c2 ?_
    refine w_aload_n (q := 14) d_Model_die_13 rfl rfl ?_
    refine w_iconst (q := 15) (v := 1) d_Model_die_14 rfl (by decide) ?_
    obtain ⟨v3, hv, h⟩ := bnd h
    refine w_callVi (q := 18) (M' := M_Model_failing) (n' := 0) (k := 54) (As := [.int 1]) (sh' := SH) (b1 := (0, 0)) d_Model_die_15 rfl mw_Model_failing (by decide) (by decide) ml_Model_353 (by decide) s_54 (by decide) rfl rfl rfl (leb rfl) (bz _) (fun _ => rfl) (ok_Model_failing hv) ?_
    obtain ⟨v4, hv, h⟩ := bnd h
    obtain ⟨hv, hn⟩ := bl_ok hv
    rw [hv] at h
    cases h
    exact w_ireturn d_Model_die_18 rfl hn ⟨rfl, rfl, rfl, rfl⟩
  · rw [if_neg c2] at h
    refine w_if_ne_t (q := 19) d_Model_die_10 rfl c2 ?_
    refine w_aload_n (q := 20) d_Model_die_19 rfl rfl ?_
    refine w_get (q := 23) (ci := 12) (j := 25) d_Model_die_20 rfl (by decide) fl_Model_289 (by decide) (by decide) s_54 rfl rfl ?_
    refine w_iload_n (q := 24) d_Model_die_23 rfl rfl ?_
    obtain ⟨v5, hv, h⟩ := bnd h
    refine w_callSi (q := 27) (M' := M_Model_isOf) (n' := 0) (As := [.int ((mset g 54 3 0) 54 25), .int p0]) (sh' := SH) (b1 := (0, 0)) d_Model_die_24 rfl mw_Model_isOf (by decide) (by decide) ml_Model_308 rfl rfl (leb rfl) (bz _) (fun _ => rfl) (ok_Model_isOf hv) ?_
    by_cases c6 : v5 = 0
    · rw [if_pos c6] at h
      refine w_if_eq_t (q := 42) d_Model_die_27 rfl c6 ?_
      refine w_aload_n (q := 43) d_Model_die_42 rfl rfl ?_
      obtain ⟨v7, hv, h⟩ := bnd h
      refine w_callVv (q := 46) (M' := M_Model_keep) (n' := 1) (k := 54) (As := []) (sh' := SH) (b1 := (0, 0)) d_Model_die_43 rfl mw_Model_keep (by decide) (by decide) ml_Model_368 (by decide) s_54 (by decide) rfl rfl rfl (leb rfl) (bz _) (fun _ => rfl) (ok_Model_keep hv) ?_
      refine w_aload_n (q := 47) d_Model_die_46 rfl rfl ?_
      refine w_dup (q := 48) d_Model_die_47 rfl rfl ?_
      refine w_get (q := 51) (ci := 12) (j := 25) d_Model_die_48 rfl (by decide) fl_Model_289 (by decide) (by decide) s_54 rfl rfl ?_
      refine w_iconst (q := 52) (v := 1) d_Model_die_51 rfl (by decide) ?_
      refine w_iload_n (q := 53) d_Model_die_52 rfl rfl ?_
      refine w_ishl (q := 54) d_Model_die_53 rfl ?_
      refine w_ior (q := 55) d_Model_die_54 rfl ?_
      refine w_put (q := 58) (ci := 12) (j := 25) d_Model_die_55 rfl (by decide) fl_Model_289 (by decide) (by decide) s_54 rfl rfl rfl rfl rfl rfl ?_
      refine w_aload_n (q := 59) d_Model_die_58 rfl rfl ?_
      refine w_get (q := 62) (ci := 12) (j := 22) d_Model_die_59 rfl (by decide) fl_Model_78 (by decide) (by decide) s_54 rfl rfl ?_
      refine w_iload_n (q := 63) d_Model_die_62 rfl rfl ?_
      refine w_aload_n (q := 64) d_Model_die_63 rfl rfl ?_
      refine w_get (q := 67) (ci := 12) (j := 24) d_Model_die_64 rfl (by decide) fl_Model_286 (by decide) (by decide) s_54 rfl rfl ?_
      obtain ⟨g8, hv, h⟩ := bnd h
      obtain ⟨hi, hv⟩ := wr_ok hv
      refine w_iast (q := 68) d_Model_die_67 rfl a_66.2 a_66.1 hi hv ?_
      refine w_iconst (q := 69) (v := 1) d_Model_die_68 rfl (by decide) ?_
      cases h
      exact w_ireturn d_Model_die_69 rfl rfl ⟨rfl, rfl, rfl, rfl⟩
    · rw [if_neg c6] at h
      refine w_if_eq_f (q := 30) d_Model_die_27 42 rfl rfl c6 ?_
      refine w_aload_n (q := 31) d_Model_die_30 rfl rfl ?_
      refine w_get (q := 34) (ci := 12) (j := 10) d_Model_die_31 rfl (by decide) fl_Model_68 (by decide) (by decide) s_54 rfl rfl ?_
      refine w_iconst (q := 35) (v := 1) d_Model_die_34 rfl (by decide) ?_
      refine w_dup2 (q := 36) d_Model_die_35 rfl rfl rfl ?_
      obtain ⟨v9, hv, h⟩ := bnd h
      obtain ⟨hi, hv⟩ := rd_ok hv
      refine w_iald (q := 37) (t := 0) d_Model_die_36 rfl a_64.2 a_64.1 hi rfl ?_
      rw [hv]
      refine w_iconst (q := 38) (v := 1) d_Model_die_37 rfl (by decide) ?_
      refine w_iadd (q := 39) d_Model_die_38 rfl ?_
      obtain ⟨g10, hv, h⟩ := bnd h
      obtain ⟨hi, hv⟩ := wr_ok hv
      refine w_iast (q := 40) d_Model_die_39 rfl a_64.2 a_64.1 hi hv ?_
      refine w_iconst (q := 41) (v := 0) d_Model_die_40 rfl (by decide) ?_
      cases h
      exact w_ireturn d_Model_die_41 rfl rfl ⟨rfl, rfl, rfl, rfl⟩
def sp_Model_undo (F : Nat) (g : Mem) : Option (Int32 × Mem) := if ((mset g 54 3 0) 54 27) = 0 then some ((-1), (mset g 54 3 0)) else (sp_Model_unpack F 67 9240 (231 * ((mset (mset g 54 3 0) 54 27 (((mset g 54 3 0) 54 27) - 1)) 54 27)) (mset (mset g 54 3 0) 54 27 (((mset g 54 3 0) 54 27) - 1))).bind fun v2 => some (v2 54 27, v2)
theorem ok_Model_undo {γ : GG} {tt : Bool} {F : Nat} {g : Mem} {res : Int32 × Mem} (h : sp_Model_undo F g = some res) : CA γ M_Model_undo 1 [.ref 54] SH g tt (0, 0) (pI SH res.1 res.2 tt) := by
  refine CA.of mw_Model_undo.1 0 rfl ?_
  show WA γ M_Model_undo 1 0 [some (.ref 54)] [] SH g tt (0, 0) (pI SH res.1 res.2 tt)
  unfold sp_Model_undo at h
  refine w_aload_n (q := 1) d_Model_undo_0 rfl rfl ?_
  refine w_iconst (q := 2) (v := 0) d_Model_undo_1 rfl (by decide) ?_
  refine w_put (q := 5) (ci := 12) (j := 3) d_Model_undo_2 rfl (by decide) fl_Model_114 (by decide) (by decide) s_54 rfl rfl rfl rfl rfl rfl ?_
  refine w_aload_n (q := 6) d_Model_undo_5 rfl rfl ?_
  refine w_get (q := 9) (ci := 12) (j := 27) d_Model_undo_6 rfl (by decide) fl_Model_295 (by decide) (by decide) s_54 rfl rfl ?_
  by_cases c1 : ((mset g 54 3 0) 54 27) = 0
  · rw [if_pos c1] at h
    refine w_if_ne_f (q := 12) d_Model_undo_9 14 rfl rfl c1 ?_
    refine w_iconst (q := 13) (v := (-1)) d_Model_undo_12 rfl (by decide) ?_
    cases h
    exact w_ireturn d_Model_undo_13 rfl rfl ⟨rfl, rfl, rfl, rfl⟩
  · rw [if_neg c1] at h
    refine w_if_ne_t (q := 14) d_Model_undo_9 rfl c1 ?_
    refine w_aload_n (q := 15) d_Model_undo_14 rfl rfl ?_
    refine w_dup (q := 16) d_Model_undo_15 rfl rfl ?_
    refine w_get (q := 19) (ci := 12) (j := 27) d_Model_undo_16 rfl (by decide) fl_Model_295 (by decide) (by decide) s_54 rfl rfl ?_
    refine w_iconst (q := 20) (v := 1) d_Model_undo_19 rfl (by decide) ?_
    refine w_isub (q := 21) d_Model_undo_20 rfl ?_
    refine w_put (q := 24) (ci := 12) (j := 27) d_Model_undo_21 rfl (by decide) fl_Model_295 (by decide) (by decide) s_54 rfl rfl rfl rfl rfl rfl ?_
    refine w_aload_n (q := 25) d_Model_undo_24 rfl rfl ?_
    refine w_aload_n (q := 26) d_Model_undo_25 rfl rfl ?_
    refine w_get (q := 29) (ci := 12) (j := 23) d_Model_undo_26 rfl (by decide) fl_Model_81 (by decide) (by decide) s_54 rfl rfl ?_
    refine w_sipush (q := 32) (v := 231) d_Model_undo_29 rfl (by decide) ?_
    refine w_aload_n (q := 33) d_Model_undo_32 rfl rfl ?_
    refine w_get (q := 36) (ci := 12) (j := 27) d_Model_undo_33 rfl (by decide) fl_Model_295 (by decide) (by decide) s_54 rfl rfl ?_
    refine w_imul (q := 37) d_Model_undo_36 rfl ?_
    obtain ⟨v2, hv, h⟩ := bnd h
    refine w_callVv (q := 40) (M' := M_Model_unpack) (n' := 0) (k := 54) (As := [.ref 67, .int (231 * ((mset (mset g 54 3 0) 54 27 (((mset g 54 3 0) 54 27) - 1)) 54 27))]) (sh' := SH) (b1 := (0, 0)) d_Model_undo_37 rfl mw_Model_unpack (by decide) (by decide) ml_Model_393 (by decide) s_54 (by decide) rfl rfl rfl (leb rfl) (bz _) (fun _ => rfl) (ok_Model_unpack a_67 hv) ?_
    refine w_aload_n (q := 41) d_Model_undo_40 rfl rfl ?_
    refine w_get (q := 44) (ci := 12) (j := 27) d_Model_undo_41 rfl (by decide) fl_Model_295 (by decide) (by decide) s_54 rfl rfl ?_
    cases h
    exact w_ireturn d_Model_undo_44 rfl rfl ⟨rfl, rfl, rfl, rfl⟩
def sp_Model_isOfKind (p0 : Int32) (p1 : Int32) (p2 : Int32) (g : Mem) : Option (Int32) := (sp_Model_isThere p0 g).bind fun v1 => if v1 = 0 then some 0 else (sp_Model_of p0 0 g).bind fun v3 => if v3 = p1 then (sp_Model_of p0 3 g).bind fun v5 => if v5 = p2 then some 1 else some 0 else some 0
theorem ok_Model_isOfKind {γ : GG} {tt : Bool} {p0 : Int32} {p1 : Int32} {p2 : Int32} {g : Mem} {res : Int32} (h : sp_Model_isOfKind p0 p1 p2 g = some res) : CA γ M_Model_isOfKind 2 [.ref 54, .int p0, .int p1, .int p2] SH g tt (0, 0) (pI SH res g tt) := by
  refine CA.of mw_Model_isOfKind.1 0 rfl ?_
  show WA γ M_Model_isOfKind 2 0 [some (.ref 54), some (.int p0), some (.int p1), some (.int p2)] [] SH g tt (0, 0) (pI SH res g tt)
  unfold sp_Model_isOfKind at h
  refine w_aload_n (q := 1) d_Model_isOfKind_0 rfl rfl ?_
  refine w_iload_n (q := 2) d_Model_isOfKind_1 rfl rfl ?_
  obtain ⟨v1, hv, h⟩ := bnd h
  refine w_callVi (q := 5) (M' := M_Model_isThere) (n' := 1) (k := 54) (As := [.int p0]) (sh' := SH) (b1 := (0, 0)) d_Model_isOfKind_2 rfl mw_Model_isThere (by decide) (by decide) ml_Model_315 (by decide) s_54 (by decide) rfl rfl rfl (leb rfl) (bz _) (fun _ => rfl) (ok_Model_isThere hv) ?_
  by_cases c2 : v1 = 0
  · rw [if_pos c2] at h
    refine w_if_eq_t (q := 32) d_Model_isOfKind_5 rfl c2 ?_
    refine w_iconst (q := 33) (v := 0) d_Model_isOfKind_32 rfl (by decide) ?_
    cases h
    exact w_ireturn d_Model_isOfKind_33 rfl rfl ⟨rfl, rfl, rfl, rfl⟩
  · rw [if_neg c2] at h
    refine w_if_eq_f (q := 8) d_Model_isOfKind_5 32 rfl rfl c2 ?_
    refine w_aload_n (q := 9) d_Model_isOfKind_8 rfl rfl ?_
    refine w_iload_n (q := 10) d_Model_isOfKind_9 rfl rfl ?_
    refine w_iconst (q := 11) (v := 0) d_Model_isOfKind_10 rfl (by decide) ?_
    obtain ⟨v3, hv, h⟩ := bnd h
    refine w_callVi (q := 14) (M' := M_Model_of) (n' := 0) (k := 54) (As := [.int p0, .int 0]) (sh' := SH) (b1 := (0, 0)) d_Model_isOfKind_11 rfl mw_Model_of (by decide) (by decide) ml_Model_305 (by decide) s_54 (by decide) rfl rfl rfl (leb rfl) (bz _) (fun _ => rfl) (ok_Model_of hv) ?_
    refine w_iload_n (q := 15) d_Model_isOfKind_14 rfl rfl ?_
    by_cases c4 : v3 = p1
    · rw [if_pos c4] at h
      refine w_icmp_ne_f (q := 18) d_Model_isOfKind_15 32 rfl rfl c4 ?_
      refine w_aload_n (q := 19) d_Model_isOfKind_18 rfl rfl ?_
      refine w_iload_n (q := 20) d_Model_isOfKind_19 rfl rfl ?_
      refine w_iconst (q := 21) (v := 3) d_Model_isOfKind_20 rfl (by decide) ?_
      obtain ⟨v5, hv, h⟩ := bnd h
      refine w_callVi (q := 24) (M' := M_Model_of) (n' := 0) (k := 54) (As := [.int p0, .int 3]) (sh' := SH) (b1 := (0, 0)) d_Model_isOfKind_21 rfl mw_Model_of (by decide) (by decide) ml_Model_305 (by decide) s_54 (by decide) rfl rfl rfl (leb rfl) (bz _) (fun _ => rfl) (ok_Model_of hv) ?_
      refine w_iload_n (q := 25) d_Model_isOfKind_24 rfl rfl ?_
      by_cases c6 : v5 = p2
      · rw [if_pos c6] at h
        refine w_icmp_ne_f (q := 28) d_Model_isOfKind_25 32 rfl rfl c6 ?_
        refine w_iconst (q := 29) (v := 1) d_Model_isOfKind_28 rfl (by decide) ?_
        refine w_goto (q := 33) d_Model_isOfKind_29 rfl ?_
        cases h
        exact w_ireturn d_Model_isOfKind_33 rfl rfl ⟨rfl, rfl, rfl, rfl⟩
      · rw [if_neg c6] at h
        refine w_icmp_ne_t (q := 32) d_Model_isOfKind_25 rfl c6 ?_
        refine w_iconst (q := 33) (v := 0) d_Model_isOfKind_32 rfl (by decide) ?_
        cases h
        exact w_ireturn d_Model_isOfKind_33 rfl rfl ⟨rfl, rfl, rfl, rfl⟩
    · rw [if_neg c4] at h
      refine w_icmp_ne_t (q := 32) d_Model_isOfKind_15 rfl c4 ?_
      refine w_iconst (q := 33) (v := 0) d_Model_isOfKind_32 rfl (by decide) ?_
      cases h
      exact w_ireturn d_Model_isOfKind_33 rfl rfl ⟨rfl, rfl, rfl, rfl⟩
def PL_Model_law_25 (γ : GG) (tt : Bool) (p0 : Int32) (g : Mem) (k1 : Int32) (m0 : Mem) (b : Nat × Nat) (Φ : PO) (s : Int32 × Int32 × Int32) : Prop := WA γ M_Model_law 3 25 [some (.ref 54), some (.int k1), some (.int s.1), some (.int s.2.1), some (.int s.2.2), none] [] SH m0 tt b Φ
def QL_Model_law_25 (γ : GG) (tt : Bool) (p0 : Int32) (g : Mem) (k1 : Int32) (m0 : Mem) (b : Nat × Nat) (Φ : PO) (x : (Int32 × Int32)) : Prop := WA γ M_Model_law 3 137 [some (.ref 54), none, some (.int x.1), some (.int x.2), none, none] [] SH m0 tt b Φ
def sp_Model_law_j95_25 (F : Nat) (p0 : Int32) (k1 : Int32) (m0 : Mem) (g : Mem) (m0 : Mem) (x2 : Int32) (x3 : Int32) (x4 : Int32) (y0 : Int32) : Option ((Int32 × Int32 × Int32) ⊕ ((Int32 × Int32))) := if y0 = 0 then some (.inl (x4, 0, x4 + 1)) else if x3 = 0 then (sp_Model_of x4 4 m0).bind fun v11 => (sp_Model_of x2 4 m0).bind fun v12 => if v11 = v12 then some (.inl (x4, 0, x4 + 1)) else some (.inl (x4, 1, x4 + 1)) else some (.inl (x4, 1, x4 + 1))
theorem ok_Model_law_j95_25 {γ : GG} {tt : Bool} {F : Nat} {p0 : Int32} {k1 : Int32} {m0 : Mem} {g : Mem} {m0 : Mem} {x2 : Int32} {x3 : Int32} {x4 : Int32} {y0 : Int32} {b : Nat × Nat} {Φ : PO} {r : (Int32 × Int32 × Int32) ⊕ ((Int32 × Int32))} (h : sp_Model_law_j95_25 F p0 k1 m0 g m0 x2 x3 x4 y0 = some r) (hr : RQ (PL_Model_law_25 γ tt p0 g k1 m0 b Φ) (QL_Model_law_25 γ tt p0 g k1 m0 b Φ) r) : WA γ M_Model_law 3 95 [some (.ref 54), some (.int k1), some (.int x2), some (.int x3), some (.int x4), none] [.int y0] SH m0 tt b Φ := by
  unfold sp_Model_law_j95_25 at h
  refine w_istore (q := 97) (ls' := [some (.ref 54), some (.int k1), some (.int x2), some (.int x3), some (.int x4), some (.int y0)]) d_Model_law_95 rfl (by decide) rfl rfl ?_
  refine w_iload (q := 99) d_Model_law_97 rfl rfl ?_
  by_cases c9 : y0 = 0
  · rw [if_pos c9] at h
    refine w_if_eq_t (q := 126) d_Model_law_99 rfl c9 ?_
    refine w_iconst (q := 127) (v := 0) d_Model_law_126 rfl (by decide) ?_
    refine w_istore_n (q := 128) (ls' := [some (.ref 54), some (.int k1), some (.int x2), some (.int 0), some (.int x4), some (.int y0)]) d_Model_law_127 rfl (by decide) rfl rfl ?_
    refine w_iload (q := 130) d_Model_law_128 rfl rfl ?_
    refine w_istore_n (q := 131) (ls' := [some (.ref 54), some (.int k1), some (.int x4), some (.int 0), some (.int x4), some (.int y0)]) d_Model_law_130 rfl (by decide) rfl rfl ?_
    refine w_iinc (q := 134) (ls' := [some (.ref 54), some (.int k1), some (.int x4), some (.int 0), some (.int (x4 + 1)), some (.int y0)]) d_Model_law_131 rfl (by decide) rfl rfl rfl ?_
    refine w_goto (q := 25) d_Model_law_134 rfl ?_
    cases h
    exact w_ls (by exact (And.intro rfl (And.intro rfl (And.intro rfl (And.intro rfl (And.intro rfl trivial)))))) hr
  · rw [if_neg c9] at h
    refine w_if_eq_f (q := 102) d_Model_law_99 126 rfl rfl c9 ?_
    refine w_iload_n (q := 103) d_Model_law_102 rfl rfl ?_
    by_cases c10 : x3 = 0
    · rw [if_pos c10] at h
      refine w_if_ne_f (q := 106) d_Model_law_103 122 rfl rfl c10 ?_
      refine w_aload_n (q := 107) d_Model_law_106 rfl rfl ?_
      refine w_iload (q := 109) d_Model_law_107 rfl rfl ?_
      refine w_iconst (q := 110) (v := 4) d_Model_law_109 rfl (by decide) ?_
      obtain ⟨v11, hv, h⟩ := bnd h
      refine w_callVi (q := 113) (M' := M_Model_of) (n' := 0) (k := 54) (As := [.int x4, .int 4]) (sh' := SH) (b1 := (0, 0)) d_Model_law_110 rfl mw_Model_of (by decide) (by decide) ml_Model_305 (by decide) s_54 (by decide) rfl rfl rfl (leb rfl) (bz _) (fun _ => rfl) (ok_Model_of hv) ?_
      refine w_aload_n (q := 114) d_Model_law_113 rfl rfl ?_
      refine w_iload_n (q := 115) d_Model_law_114 rfl rfl ?_
      refine w_iconst (q := 116) (v := 4) d_Model_law_115 rfl (by decide) ?_
      obtain ⟨v12, hv, h⟩ := bnd h
      refine w_callVi (q := 119) (M' := M_Model_of) (n' := 0) (k := 54) (As := [.int x2, .int 4]) (sh' := SH) (b1 := (0, 0)) d_Model_law_116 rfl mw_Model_of (by decide) (by decide) ml_Model_305 (by decide) s_54 (by decide) rfl rfl rfl (leb rfl) (bz _) (fun _ => rfl) (ok_Model_of hv) ?_
      by_cases c13 : v11 = v12
      · rw [if_pos c13] at h
        refine w_icmp_eq_t (q := 126) d_Model_law_119 rfl c13 ?_
        refine w_iconst (q := 127) (v := 0) d_Model_law_126 rfl (by decide) ?_
        refine w_istore_n (q := 128) (ls' := [some (.ref 54), some (.int k1), some (.int x2), some (.int 0), some (.int x4), some (.int y0)]) d_Model_law_127 rfl (by decide) rfl rfl ?_
        refine w_iload (q := 130) d_Model_law_128 rfl rfl ?_
        refine w_istore_n (q := 131) (ls' := [some (.ref 54), some (.int k1), some (.int x4), some (.int 0), some (.int x4), some (.int y0)]) d_Model_law_130 rfl (by decide) rfl rfl ?_
        refine w_iinc (q := 134) (ls' := [some (.ref 54), some (.int k1), some (.int x4), some (.int 0), some (.int (x4 + 1)), some (.int y0)]) d_Model_law_131 rfl (by decide) rfl rfl rfl ?_
        refine w_goto (q := 25) d_Model_law_134 rfl ?_
        cases h
        exact w_ls (by exact (And.intro rfl (And.intro rfl (And.intro rfl (And.intro rfl (And.intro rfl trivial)))))) hr
      · rw [if_neg c13] at h
        refine w_icmp_eq_f (q := 122) d_Model_law_119 126 rfl rfl c13 ?_
        refine w_iconst (q := 123) (v := 1) d_Model_law_122 rfl (by decide) ?_
        refine w_goto (q := 127) d_Model_law_123 rfl ?_
        refine w_istore_n (q := 128) (ls' := [some (.ref 54), some (.int k1), some (.int x2), some (.int 1), some (.int x4), some (.int y0)]) d_Model_law_127 rfl (by decide) rfl rfl ?_
        refine w_iload (q := 130) d_Model_law_128 rfl rfl ?_
        refine w_istore_n (q := 131) (ls' := [some (.ref 54), some (.int k1), some (.int x4), some (.int 1), some (.int x4), some (.int y0)]) d_Model_law_130 rfl (by decide) rfl rfl ?_
        refine w_iinc (q := 134) (ls' := [some (.ref 54), some (.int k1), some (.int x4), some (.int 1), some (.int (x4 + 1)), some (.int y0)]) d_Model_law_131 rfl (by decide) rfl rfl rfl ?_
        refine w_goto (q := 25) d_Model_law_134 rfl ?_
        cases h
        exact w_ls (by exact (And.intro rfl (And.intro rfl (And.intro rfl (And.intro rfl (And.intro rfl trivial)))))) hr
    · rw [if_neg c10] at h
      refine w_if_ne_t (q := 122) d_Model_law_103 rfl c10 ?_
      refine w_iconst (q := 123) (v := 1) d_Model_law_122 rfl (by decide) ?_
      refine w_goto (q := 127) d_Model_law_123 rfl ?_
      refine w_istore_n (q := 128) (ls' := [some (.ref 54), some (.int k1), some (.int x2), some (.int 1), some (.int x4), some (.int y0)]) d_Model_law_127 rfl (by decide) rfl rfl ?_
      refine w_iload (q := 130) d_Model_law_128 rfl rfl ?_
      refine w_istore_n (q := 131) (ls' := [some (.ref 54), some (.int k1), some (.int x4), some (.int 1), some (.int x4), some (.int y0)]) d_Model_law_130 rfl (by decide) rfl rfl ?_
      refine w_iinc (q := 134) (ls' := [some (.ref 54), some (.int k1), some (.int x4), some (.int 1), some (.int (x4 + 1)), some (.int y0)]) d_Model_law_131 rfl (by decide) rfl rfl rfl ?_
      refine w_goto (q := 25) d_Model_law_134 rfl ?_
      cases h
      exact w_ls (by exact (And.intro rfl (And.intro rfl (And.intro rfl (And.intro rfl (And.intro rfl trivial)))))) hr
def sp_Model_law_j94_25 (F : Nat) (p0 : Int32) (k1 : Int32) (m0 : Mem) (g : Mem) (m0 : Mem) (x2 : Int32) (x3 : Int32) (x4 : Int32) : Option ((Int32 × Int32 × Int32) ⊕ ((Int32 × Int32))) := sp_Model_law_j95_25 F p0 k1 m0 g m0 x2 x3 x4 0
theorem ok_Model_law_j94_25 {γ : GG} {tt : Bool} {F : Nat} {p0 : Int32} {k1 : Int32} {m0 : Mem} {g : Mem} {m0 : Mem} {x2 : Int32} {x3 : Int32} {x4 : Int32} {b : Nat × Nat} {Φ : PO} {r : (Int32 × Int32 × Int32) ⊕ ((Int32 × Int32))} (h : sp_Model_law_j94_25 F p0 k1 m0 g m0 x2 x3 x4 = some r) (hr : RQ (PL_Model_law_25 γ tt p0 g k1 m0 b Φ) (QL_Model_law_25 γ tt p0 g k1 m0 b Φ) r) : WA γ M_Model_law 3 94 [some (.ref 54), some (.int k1), some (.int x2), some (.int x3), some (.int x4), none] [] SH m0 tt b Φ := by
  unfold sp_Model_law_j94_25 at h
  refine w_iconst (q := 95) (v := 0) d_Model_law_94 rfl (by decide) ?_
  refine w_ls (ls' := [some (.ref 54), some (.int k1), some (.int x2), some (.int x3), some (.int x4), none]) (And.intro rfl (And.intro rfl (And.intro rfl (And.intro rfl (And.intro rfl trivial))))) ?_
  exact ok_Model_law_j95_25 h hr
def sp_Model_law_j69_25 (F : Nat) (p0 : Int32) (k1 : Int32) (m0 : Mem) (g : Mem) (m0 : Mem) (x2 : Int32) (x3 : Int32) (x4 : Int32) : Option ((Int32 × Int32 × Int32) ⊕ ((Int32 × Int32))) := if x2 = (-1) then sp_Model_law_j94_25 F p0 k1 m0 g m0 x2 x3 x4 else (sp_Model_of x4 2 m0).bind fun v14 => (sp_Model_of x2 2 m0).bind fun v15 => if v14 = v15 then sp_Model_law_j95_25 F p0 k1 m0 g m0 x2 x3 x4 1 else sp_Model_law_j94_25 F p0 k1 m0 g m0 x2 x3 x4
theorem ok_Model_law_j69_25 {γ : GG} {tt : Bool} {F : Nat} {p0 : Int32} {k1 : Int32} {m0 : Mem} {g : Mem} {m0 : Mem} {x2 : Int32} {x3 : Int32} {x4 : Int32} {b : Nat × Nat} {Φ : PO} {r : (Int32 × Int32 × Int32) ⊕ ((Int32 × Int32))} (h : sp_Model_law_j69_25 F p0 k1 m0 g m0 x2 x3 x4 = some r) (hr : RQ (PL_Model_law_25 γ tt p0 g k1 m0 b Φ) (QL_Model_law_25 γ tt p0 g k1 m0 b Φ) r) : WA γ M_Model_law 3 69 [some (.ref 54), some (.int k1), some (.int x2), some (.int x3), some (.int x4), none] [] SH m0 tt b Φ := by
  unfold sp_Model_law_j69_25 at h
  refine w_iload_n (q := 70) d_Model_law_69 rfl rfl ?_
  refine w_iconst (q := 71) (v := (-1)) d_Model_law_70 rfl (by decide) ?_
  by_cases c8 : x2 = (-1)
  · rw [if_pos c8] at h
    refine w_icmp_eq_t (q := 94) d_Model_law_71 rfl c8 ?_
    refine w_ls (ls' := [some (.ref 54), some (.int k1), some (.int x2), some (.int x3), some (.int x4), none]) (And.intro rfl (And.intro rfl (And.intro rfl (And.intro rfl (And.intro rfl trivial))))) ?_
    exact ok_Model_law_j94_25 h hr
  · rw [if_neg c8] at h
    refine w_icmp_eq_f (q := 74) d_Model_law_71 94 rfl rfl c8 ?_
    refine w_aload_n (q := 75) d_Model_law_74 rfl rfl ?_
    refine w_iload (q := 77) d_Model_law_75 rfl rfl ?_
    refine w_iconst (q := 78) (v := 2) d_Model_law_77 rfl (by decide) ?_
    obtain ⟨v14, hv, h⟩ := bnd h
    refine w_callVi (q := 81) (M' := M_Model_of) (n' := 0) (k := 54) (As := [.int x4, .int 2]) (sh' := SH) (b1 := (0, 0)) d_Model_law_78 rfl mw_Model_of (by decide) (by decide) ml_Model_305 (by decide) s_54 (by decide) rfl rfl rfl (leb rfl) (bz _) (fun _ => rfl) (ok_Model_of hv) ?_
    refine w_aload_n (q := 82) d_Model_law_81 rfl rfl ?_
    refine w_iload_n (q := 83) d_Model_law_82 rfl rfl ?_
    refine w_iconst (q := 84) (v := 2) d_Model_law_83 rfl (by decide) ?_
    obtain ⟨v15, hv, h⟩ := bnd h
    refine w_callVi (q := 87) (M' := M_Model_of) (n' := 0) (k := 54) (As := [.int x2, .int 2]) (sh' := SH) (b1 := (0, 0)) d_Model_law_84 rfl mw_Model_of (by decide) (by decide) ml_Model_305 (by decide) s_54 (by decide) rfl rfl rfl (leb rfl) (bz _) (fun _ => rfl) (ok_Model_of hv) ?_
    by_cases c16 : v14 = v15
    · rw [if_pos c16] at h
      refine w_icmp_ne_f (q := 90) d_Model_law_87 94 rfl rfl c16 ?_
      refine w_iconst (q := 91) (v := 1) d_Model_law_90 rfl (by decide) ?_
      refine w_goto (q := 95) d_Model_law_91 rfl ?_
      refine w_ls (ls' := [some (.ref 54), some (.int k1), some (.int x2), some (.int x3), some (.int x4), none]) (And.intro rfl (And.intro rfl (And.intro rfl (And.intro rfl (And.intro rfl trivial))))) ?_
      exact ok_Model_law_j95_25 h hr
    · rw [if_neg c16] at h
      refine w_icmp_ne_t (q := 94) d_Model_law_87 rfl c16 ?_
      refine w_ls (ls' := [some (.ref 54), some (.int k1), some (.int x2), some (.int x3), some (.int x4), none]) (And.intro rfl (And.intro rfl (And.intro rfl (And.intro rfl (And.intro rfl trivial))))) ?_
      exact ok_Model_law_j94_25 h hr
def st_Model_law_25 (F : Nat) (p0 : Int32) (g : Mem) (k1 : Int32) (m0 : Mem) (s : Int32 × Int32 × Int32) : Option ((Int32 × Int32 × Int32) ⊕ ((Int32 × Int32))) := if (m0 54 26) ≤ s.2.2 then some (.inr (s.1, s.2.1)) else (sp_Model_isOfKind s.2.2 0 k1 m0).bind fun v5 => if v5 = 0 then some (.inl (s.1, s.2.1, s.2.2 + 1)) else if s.1 = (-1) then sp_Model_law_j69_25 F p0 k1 m0 g m0 s.1 s.2.1 s.2.2 else (sp_Model_of s.2.2 2 m0).bind fun v17 => (sp_Model_of s.1 2 m0).bind fun v18 => if v18 ≤ v17 then sp_Model_law_j69_25 F p0 k1 m0 g m0 s.1 s.2.1 s.2.2 else some (.inl (s.1, s.2.1, s.2.2 + 1))
theorem kl_Model_law_25 {γ : GG} {tt : Bool} {F : Nat} {p0 : Int32} {g : Mem} {k1 : Int32} {m0 : Mem} {b : Nat × Nat} {Φ : PO} : ∀ (s : Int32 × Int32 × Int32) (r : (Int32 × Int32 × Int32) ⊕ ((Int32 × Int32))), st_Model_law_25 F p0 g k1 m0 s = some r → RQ (PL_Model_law_25 γ tt p0 g k1 m0 b Φ) (QL_Model_law_25 γ tt p0 g k1 m0 b Φ) r → PL_Model_law_25 γ tt p0 g k1 m0 b Φ s := by
  intro s r h hr
  unfold st_Model_law_25 at h
  unfold PL_Model_law_25
  refine w_iload (q := 27) d_Model_law_25 rfl rfl ?_
  refine w_aload_n (q := 28) d_Model_law_27 rfl rfl ?_
  refine w_get (q := 31) (ci := 12) (j := 26) d_Model_law_28 rfl (by decide) fl_Model_121 (by decide) (by decide) s_54 rfl rfl ?_
  by_cases c4 : (m0 54 26) ≤ s.2.2
  · rw [if_pos c4] at h
    refine w_icmp_ge_t (q := 137) d_Model_law_31 rfl c4 ?_
    cases h
    exact w_ls (by exact (And.intro rfl (And.intro rfl (And.intro rfl trivial)))) hr
  · rw [if_neg c4] at h
    refine w_icmp_ge_f (q := 34) d_Model_law_31 137 rfl rfl c4 ?_
    refine w_aload_n (q := 35) d_Model_law_34 rfl rfl ?_
    refine w_iload (q := 37) d_Model_law_35 rfl rfl ?_
    refine w_iconst (q := 38) (v := 0) d_Model_law_37 rfl (by decide) ?_
    refine w_iload_n (q := 39) d_Model_law_38 rfl rfl ?_
    obtain ⟨v5, hv, h⟩ := bnd h
    refine w_callVi (q := 42) (M' := M_Model_isOfKind) (n' := 2) (k := 54) (As := [.int s.2.2, .int 0, .int k1]) (sh' := SH) (b1 := (0, 0)) d_Model_law_39 rfl mw_Model_isOfKind (by decide) (by decide) ml_Model_396 (by decide) s_54 (by decide) rfl rfl rfl (leb rfl) (bz _) (fun _ => rfl) (ok_Model_isOfKind hv) ?_
    by_cases c6 : v5 = 0
    · rw [if_pos c6] at h
      refine w_if_eq_t (q := 131) d_Model_law_42 rfl c6 ?_
      refine w_iinc (q := 134) (ls' := [some (.ref 54), some (.int k1), some (.int s.1), some (.int s.2.1), some (.int (s.2.2 + 1)), none]) d_Model_law_131 rfl (by decide) rfl rfl rfl ?_
      refine w_goto (q := 25) d_Model_law_134 rfl ?_
      cases h
      exact w_ls (by exact (And.intro rfl (And.intro rfl (And.intro rfl (And.intro rfl (And.intro rfl trivial)))))) hr
    · rw [if_neg c6] at h
      refine w_if_eq_f (q := 45) d_Model_law_42 131 rfl rfl c6 ?_
      refine w_iload_n (q := 46) d_Model_law_45 rfl rfl ?_
      refine w_iconst (q := 47) (v := (-1)) d_Model_law_46 rfl (by decide) ?_
      by_cases c7 : s.1 = (-1)
      · rw [if_pos c7] at h
        refine w_icmp_eq_t (q := 69) d_Model_law_47 rfl c7 ?_
        refine w_ls (ls' := [some (.ref 54), some (.int k1), some (.int s.1), some (.int s.2.1), some (.int s.2.2), none]) (And.intro rfl (And.intro rfl (And.intro rfl (And.intro rfl (And.intro rfl trivial))))) ?_
        exact ok_Model_law_j69_25 h hr
      · rw [if_neg c7] at h
        refine w_icmp_eq_f (q := 50) d_Model_law_47 69 rfl rfl c7 ?_
        refine w_aload_n (q := 51) d_Model_law_50 rfl rfl ?_
        refine w_iload (q := 53) d_Model_law_51 rfl rfl ?_
        refine w_iconst (q := 54) (v := 2) d_Model_law_53 rfl (by decide) ?_
        obtain ⟨v17, hv, h⟩ := bnd h
        refine w_callVi (q := 57) (M' := M_Model_of) (n' := 0) (k := 54) (As := [.int s.2.2, .int 2]) (sh' := SH) (b1 := (0, 0)) d_Model_law_54 rfl mw_Model_of (by decide) (by decide) ml_Model_305 (by decide) s_54 (by decide) rfl rfl rfl (leb rfl) (bz _) (fun _ => rfl) (ok_Model_of hv) ?_
        refine w_aload_n (q := 58) d_Model_law_57 rfl rfl ?_
        refine w_iload_n (q := 59) d_Model_law_58 rfl rfl ?_
        refine w_iconst (q := 60) (v := 2) d_Model_law_59 rfl (by decide) ?_
        obtain ⟨v18, hv, h⟩ := bnd h
        refine w_callVi (q := 63) (M' := M_Model_of) (n' := 0) (k := 54) (As := [.int s.1, .int 2]) (sh' := SH) (b1 := (0, 0)) d_Model_law_60 rfl mw_Model_of (by decide) (by decide) ml_Model_305 (by decide) s_54 (by decide) rfl rfl rfl (leb rfl) (bz _) (fun _ => rfl) (ok_Model_of hv) ?_
        by_cases c19 : v18 ≤ v17
        · rw [if_pos c19] at h
          refine w_icmp_ge_t (q := 69) d_Model_law_63 rfl c19 ?_
          refine w_ls (ls' := [some (.ref 54), some (.int k1), some (.int s.1), some (.int s.2.1), some (.int s.2.2), none]) (And.intro rfl (And.intro rfl (And.intro rfl (And.intro rfl (And.intro rfl trivial))))) ?_
          exact ok_Model_law_j69_25 h hr
        · rw [if_neg c19] at h
          refine w_icmp_ge_f (q := 66) d_Model_law_63 69 rfl rfl c19 ?_
          refine w_goto (q := 131) d_Model_law_66 rfl ?_
          refine w_iinc (q := 134) (ls' := [some (.ref 54), some (.int k1), some (.int s.1), some (.int s.2.1), some (.int (s.2.2 + 1)), none]) d_Model_law_131 rfl (by decide) rfl rfl rfl ?_
          refine w_goto (q := 25) d_Model_law_134 rfl ?_
          cases h
          exact w_ls (by exact (And.intro rfl (And.intro rfl (And.intro rfl (And.intro rfl (And.intro rfl trivial)))))) hr
def sp_Model_law (F : Nat) (p0 : Int32) (g : Mem) : Option (Int32 × Mem) := (sp_Model_isAbout p0 (mset g 54 3 0)).bind fun v1 => if v1 = 0 then (sp_Model_fail 1 (mset g 54 3 0)).bind fun v3 => some (v3.1, v3.2) else (lpO (st_Model_law_25 F p0 g p0 (mset g 54 3 0)) F ((-1), 0, 0)).bind fun x20 => if x20.1 = (-1) then some ((-1), (mset g 54 3 0)) else if x20.2 = 0 then (sp_Model_of x20.1 4 (mset g 54 3 0)).bind fun v23 => some (v23, (mset g 54 3 0)) else some ((-2), (mset g 54 3 0))
theorem ok_Model_law {γ : GG} {tt : Bool} {F : Nat} {p0 : Int32} {g : Mem} {res : Int32 × Mem} (h : sp_Model_law F p0 g = some res) : CA γ M_Model_law 3 [.ref 54, .int p0] SH g tt (0, 0) (pI SH res.1 res.2 tt) := by
  refine CA.of mw_Model_law.1 4 rfl ?_
  show WA γ M_Model_law 3 0 [some (.ref 54), some (.int p0), none, none, none, none] [] SH g tt (0, 0) (pI SH res.1 res.2 tt)
  unfold sp_Model_law at h
  refine w_aload_n (q := 1) d_Model_law_0 rfl rfl ?_
  refine w_iconst (q := 2) (v := 0) d_Model_law_1 rfl (by decide) ?_
  refine w_put (q := 5) (ci := 12) (j := 3) d_Model_law_2 rfl (by decide) fl_Model_114 (by decide) (by decide) s_54 rfl rfl rfl rfl rfl rfl ?_
  refine w_iload_n (q := 6) d_Model_law_5 rfl rfl ?_
  obtain ⟨v1, hv, h⟩ := bnd h
  refine w_callSi (q := 9) (M' := M_Model_isAbout) (n' := 1) (As := [.int p0]) (sh' := SH) (b1 := (0, 0)) d_Model_law_6 rfl mw_Model_isAbout (by decide) (by decide) ml_Model_376 rfl rfl (leb rfl) (bz _) (fun _ => rfl) (ok_Model_isAbout hv) ?_
  by_cases c2 : v1 = 0
  · rw [if_pos c2] at h
    refine w_if_ne_f (q := 12) d_Model_law_9 18 rfl rfl c2 ?_
    refine w_aload_n (q := 13) d_Model_law_12 rfl rfl ?_
    refine w_iconst (q := 14) (v := 1) d_Model_law_13 rfl (by decide) ?_
    obtain ⟨v3, hv, h⟩ := bnd h
    refine w_callVi (q := 17) (M' := M_Model_fail) (n' := 0) (k := 54) (As := [.int 1]) (sh' := SH) (b1 := (0, 0)) d_Model_law_14 rfl mw_Model_fail (by decide) (by decide) ml_Model_273 (by decide) s_54 (by decide) rfl rfl rfl (leb rfl) (bz _) (fun _ => rfl) (ok_Model_fail hv) ?_
    cases h
    exact w_ireturn d_Model_law_17 rfl rfl ⟨rfl, rfl, rfl, rfl⟩
  · rw [if_neg c2] at h
    refine w_if_ne_t (q := 18) d_Model_law_9 rfl c2 ?_
    refine w_iconst (q := 19) (v := (-1)) d_Model_law_18 rfl (by decide) ?_
    refine w_istore_n (q := 20) (ls' := [some (.ref 54), some (.int p0), some (.int ((-1))), none, none, none]) d_Model_law_19 rfl (by decide) rfl rfl ?_
    refine w_iconst (q := 21) (v := 0) d_Model_law_20 rfl (by decide) ?_
    refine w_istore_n (q := 22) (ls' := [some (.ref 54), some (.int p0), some (.int ((-1))), some (.int 0), none, none]) d_Model_law_21 rfl (by decide) rfl rfl ?_
    refine w_iconst (q := 23) (v := 0) d_Model_law_22 rfl (by decide) ?_
    refine w_istore (q := 25) (ls' := [some (.ref 54), some (.int p0), some (.int ((-1))), some (.int 0), some (.int 0), none]) d_Model_law_23 rfl (by decide) rfl rfl ?_
    obtain ⟨x20, hx, h⟩ := bnd h
    refine w_ls (ls' := [some (.ref 54), some (.int p0), some (.int ((-1))), some (.int 0), some (.int 0), none]) (And.intro rfl (And.intro rfl (And.intro rfl (And.intro rfl (And.intro rfl trivial))))) ?_
    show PL_Model_law_25 γ tt p0 g p0 (mset g 54 3 0) _ _ ((-1), 0, 0)
    refine lp_ok (kl_Model_law_25) F _ x20 hx ?_
    unfold QL_Model_law_25
    refine w_iload_n (q := 138) d_Model_law_137 rfl rfl ?_
    refine w_iconst (q := 139) (v := (-1)) d_Model_law_138 rfl (by decide) ?_
    by_cases c21 : x20.1 = (-1)
    · rw [if_pos c21] at h
      refine w_icmp_ne_f (q := 142) d_Model_law_139 146 rfl rfl c21 ?_
      refine w_iconst (q := 143) (v := (-1)) d_Model_law_142 rfl (by decide) ?_
      refine w_goto (q := 161) d_Model_law_143 rfl ?_
      cases h
      exact w_ireturn d_Model_law_161 rfl rfl ⟨rfl, rfl, rfl, rfl⟩
    · rw [if_neg c21] at h
      refine w_icmp_ne_t (q := 146) d_Model_law_139 rfl c21 ?_
      refine w_iload_n (q := 147) d_Model_law_146 rfl rfl ?_
      by_cases c22 : x20.2 = 0
      · rw [if_pos c22] at h
        refine w_if_eq_t (q := 155) d_Model_law_147 rfl c22 ?_
        refine w_aload_n (q := 156) d_Model_law_155 rfl rfl ?_
        refine w_iload_n (q := 157) d_Model_law_156 rfl rfl ?_
        refine w_iconst (q := 158) (v := 4) d_Model_law_157 rfl (by decide) ?_
        obtain ⟨v23, hv, h⟩ := bnd h
        refine w_callVi (q := 161) (M' := M_Model_of) (n' := 0) (k := 54) (As := [.int x20.1, .int 4]) (sh' := SH) (b1 := (0, 0)) d_Model_law_158 rfl mw_Model_of (by decide) (by decide) ml_Model_305 (by decide) s_54 (by decide) rfl rfl rfl (leb rfl) (bz _) (fun _ => rfl) (ok_Model_of hv) ?_
        cases h
        exact w_ireturn d_Model_law_161 rfl rfl ⟨rfl, rfl, rfl, rfl⟩
      · rw [if_neg c22] at h
        refine w_if_eq_f (q := 150) d_Model_law_147 155 rfl rfl c22 ?_
        refine w_bipush (q := 152) (v := (-2)) d_Model_law_150 rfl (by decide) ?_
        refine w_goto (q := 161) d_Model_law_152 rfl ?_
        cases h
        exact w_ireturn d_Model_law_161 rfl rfl ⟨rfl, rfl, rfl, rfl⟩
def PL_Model_areRivals_2 (γ : GG) (tt : Bool) (p0 : Int32) (p1 : Int32) (g : Mem) (k1 : Int32) (k2 : Int32) (b : Nat × Nat) (Φ : PO) (s : Int32) : Prop := WA γ M_Model_areRivals 3 2 [some (.ref 54), some (.int k1), some (.int k2), some (.int s), none] [] SH g tt b Φ
def QL_Model_areRivals_2 (γ : GG) (tt : Bool) (p0 : Int32) (p1 : Int32) (g : Mem) (k1 : Int32) (k2 : Int32) (b : Nat × Nat) (Φ : PO) (x : (Unit) ⊕ (Unit)) : Prop := match x with
  | .inl x => WA γ M_Model_areRivals 3 109 [none, none, none, none, none] [] SH g tt b Φ
  | .inr x => WA γ M_Model_areRivals 3 123 [none, none, none, none, none] [] SH g tt b Φ
def PL_Model_areRivals_41 (γ : GG) (tt : Bool) (p0 : Int32) (p1 : Int32) (g : Mem) (k1 : Int32) (k2 : Int32) (k3 : Int32) (b : Nat × Nat) (Φ : PO) (s : Int32) : Prop := WA γ M_Model_areRivals 3 41 [some (.ref 54), some (.int k1), some (.int k2), some (.int k3), some (.int s)] [] SH g tt b Φ
def QL_Model_areRivals_41 (γ : GG) (tt : Bool) (p0 : Int32) (p1 : Int32) (g : Mem) (k1 : Int32) (k2 : Int32) (k3 : Int32) (b : Nat × Nat) (Φ : PO) (x : (Unit) ⊕ (Unit)) : Prop := match x with
  | .inl x => WA γ M_Model_areRivals 3 109 [none, none, none, none, none] [] SH g tt b Φ
  | .inr x => WA γ M_Model_areRivals 3 117 [some (.ref 54), some (.int k1), some (.int k2), some (.int k3), none] [] SH g tt b Φ
def st_Model_areRivals_41 (F : Nat) (p0 : Int32) (p1 : Int32) (g : Mem) (k1 : Int32) (k2 : Int32) (k3 : Int32) (s : Int32) : Option ((Int32) ⊕ ((Unit) ⊕ (Unit))) := if (g 54 26) ≤ s then some (.inr (.inr ())) else (sp_Model_of k3 3 g).bind fun v8 => (sp_Model_isOfKind s 0 v8 g).bind fun v9 => if v9 = 0 then some (.inl (s + 1)) else (sp_Model_of s 1 g).bind fun v11 => if v11 = k2 then (sp_Model_of s 2 g).bind fun v13 => (sp_Model_of k3 2 g).bind fun v14 => if v13 = v14 then (sp_Model_of s 4 g).bind fun v16 => (sp_Model_of k3 4 g).bind fun v17 => if v16 = v17 then some (.inl (s + 1)) else some (.inr (.inl ())) else some (.inl (s + 1)) else some (.inl (s + 1))
theorem kl_Model_areRivals_41 {γ : GG} {tt : Bool} {F : Nat} {p0 : Int32} {p1 : Int32} {g : Mem} {k1 : Int32} {k2 : Int32} {k3 : Int32} {b : Nat × Nat} {Φ : PO} : ∀ (s : Int32) (r : (Int32) ⊕ ((Unit) ⊕ (Unit))), st_Model_areRivals_41 F p0 p1 g k1 k2 k3 s = some r → RQ (PL_Model_areRivals_41 γ tt p0 p1 g k1 k2 k3 b Φ) (QL_Model_areRivals_41 γ tt p0 p1 g k1 k2 k3 b Φ) r → PL_Model_areRivals_41 γ tt p0 p1 g k1 k2 k3 b Φ s := by
  intro s r h hr
  unfold st_Model_areRivals_41 at h
  unfold PL_Model_areRivals_41
  refine w_iload (q := 43) d_Model_areRivals_41 rfl rfl ?_
  refine w_aload_n (q := 44) d_Model_areRivals_43 rfl rfl ?_
  refine w_get (q := 47) (ci := 12) (j := 26) d_Model_areRivals_44 rfl (by decide) fl_Model_121 (by decide) (by decide) s_54 rfl rfl ?_
  by_cases c7 : (g 54 26) ≤ s
  · rw [if_pos c7] at h
    refine w_icmp_ge_t (q := 117) d_Model_areRivals_47 rfl c7 ?_
    cases h
    exact w_ls (by exact (And.intro rfl (And.intro rfl (And.intro rfl (And.intro rfl trivial))))) hr
  · rw [if_neg c7] at h
    refine w_icmp_ge_f (q := 50) d_Model_areRivals_47 117 rfl rfl c7 ?_
    refine w_aload_n (q := 51) d_Model_areRivals_50 rfl rfl ?_
    refine w_iload (q := 53) d_Model_areRivals_51 rfl rfl ?_
    refine w_iconst (q := 54) (v := 0) d_Model_areRivals_53 rfl (by decide) ?_
    refine w_aload_n (q := 55) d_Model_areRivals_54 rfl rfl ?_
    refine w_iload_n (q := 56) d_Model_areRivals_55 rfl rfl ?_
    refine w_iconst (q := 57) (v := 3) d_Model_areRivals_56 rfl (by decide) ?_
    obtain ⟨v8, hv, h⟩ := bnd h
    refine w_callVi (q := 60) (M' := M_Model_of) (n' := 0) (k := 54) (As := [.int k3, .int 3]) (sh' := SH) (b1 := (0, 0)) d_Model_areRivals_57 rfl mw_Model_of (by decide) (by decide) ml_Model_305 (by decide) s_54 (by decide) rfl rfl rfl (leb rfl) (bz _) (fun _ => rfl) (ok_Model_of hv) ?_
    obtain ⟨v9, hv, h⟩ := bnd h
    refine w_callVi (q := 63) (M' := M_Model_isOfKind) (n' := 2) (k := 54) (As := [.int s, .int 0, .int v8]) (sh' := SH) (b1 := (0, 0)) d_Model_areRivals_60 rfl mw_Model_isOfKind (by decide) (by decide) ml_Model_396 (by decide) s_54 (by decide) rfl rfl rfl (leb rfl) (bz _) (fun _ => rfl) (ok_Model_isOfKind hv) ?_
    by_cases c10 : v9 = 0
    · rw [if_pos c10] at h
      refine w_if_eq_t (q := 111) d_Model_areRivals_63 rfl c10 ?_
      refine w_iinc (q := 114) (ls' := [some (.ref 54), some (.int k1), some (.int k2), some (.int k3), some (.int (s + 1))]) d_Model_areRivals_111 rfl (by decide) rfl rfl rfl ?_
      refine w_goto (q := 41) d_Model_areRivals_114 rfl ?_
      cases h
      exact w_ls (by exact (And.intro rfl (And.intro rfl (And.intro rfl (And.intro rfl (And.intro rfl trivial)))))) hr
    · rw [if_neg c10] at h
      refine w_if_eq_f (q := 66) d_Model_areRivals_63 111 rfl rfl c10 ?_
      refine w_aload_n (q := 67) d_Model_areRivals_66 rfl rfl ?_
      refine w_iload (q := 69) d_Model_areRivals_67 rfl rfl ?_
      refine w_iconst (q := 70) (v := 1) d_Model_areRivals_69 rfl (by decide) ?_
      obtain ⟨v11, hv, h⟩ := bnd h
      refine w_callVi (q := 73) (M' := M_Model_of) (n' := 0) (k := 54) (As := [.int s, .int 1]) (sh' := SH) (b1 := (0, 0)) d_Model_areRivals_70 rfl mw_Model_of (by decide) (by decide) ml_Model_305 (by decide) s_54 (by decide) rfl rfl rfl (leb rfl) (bz _) (fun _ => rfl) (ok_Model_of hv) ?_
      refine w_iload_n (q := 74) d_Model_areRivals_73 rfl rfl ?_
      by_cases c12 : v11 = k2
      · rw [if_pos c12] at h
        refine w_icmp_ne_f (q := 77) d_Model_areRivals_74 111 rfl rfl c12 ?_
        refine w_aload_n (q := 78) d_Model_areRivals_77 rfl rfl ?_
        refine w_iload (q := 80) d_Model_areRivals_78 rfl rfl ?_
        refine w_iconst (q := 81) (v := 2) d_Model_areRivals_80 rfl (by decide) ?_
        obtain ⟨v13, hv, h⟩ := bnd h
        refine w_callVi (q := 84) (M' := M_Model_of) (n' := 0) (k := 54) (As := [.int s, .int 2]) (sh' := SH) (b1 := (0, 0)) d_Model_areRivals_81 rfl mw_Model_of (by decide) (by decide) ml_Model_305 (by decide) s_54 (by decide) rfl rfl rfl (leb rfl) (bz _) (fun _ => rfl) (ok_Model_of hv) ?_
        refine w_aload_n (q := 85) d_Model_areRivals_84 rfl rfl ?_
        refine w_iload_n (q := 86) d_Model_areRivals_85 rfl rfl ?_
        refine w_iconst (q := 87) (v := 2) d_Model_areRivals_86 rfl (by decide) ?_
        obtain ⟨v14, hv, h⟩ := bnd h
        refine w_callVi (q := 90) (M' := M_Model_of) (n' := 0) (k := 54) (As := [.int k3, .int 2]) (sh' := SH) (b1 := (0, 0)) d_Model_areRivals_87 rfl mw_Model_of (by decide) (by decide) ml_Model_305 (by decide) s_54 (by decide) rfl rfl rfl (leb rfl) (bz _) (fun _ => rfl) (ok_Model_of hv) ?_
        by_cases c15 : v13 = v14
        · rw [if_pos c15] at h
          refine w_icmp_ne_f (q := 93) d_Model_areRivals_90 111 rfl rfl c15 ?_
          refine w_aload_n (q := 94) d_Model_areRivals_93 rfl rfl ?_
          refine w_iload (q := 96) d_Model_areRivals_94 rfl rfl ?_
          refine w_iconst (q := 97) (v := 4) d_Model_areRivals_96 rfl (by decide) ?_
          obtain ⟨v16, hv, h⟩ := bnd h
          refine w_callVi (q := 100) (M' := M_Model_of) (n' := 0) (k := 54) (As := [.int s, .int 4]) (sh' := SH) (b1 := (0, 0)) d_Model_areRivals_97 rfl mw_Model_of (by decide) (by decide) ml_Model_305 (by decide) s_54 (by decide) rfl rfl rfl (leb rfl) (bz _) (fun _ => rfl) (ok_Model_of hv) ?_
          refine w_aload_n (q := 101) d_Model_areRivals_100 rfl rfl ?_
          refine w_iload_n (q := 102) d_Model_areRivals_101 rfl rfl ?_
          refine w_iconst (q := 103) (v := 4) d_Model_areRivals_102 rfl (by decide) ?_
          obtain ⟨v17, hv, h⟩ := bnd h
          refine w_callVi (q := 106) (M' := M_Model_of) (n' := 0) (k := 54) (As := [.int k3, .int 4]) (sh' := SH) (b1 := (0, 0)) d_Model_areRivals_103 rfl mw_Model_of (by decide) (by decide) ml_Model_305 (by decide) s_54 (by decide) rfl rfl rfl (leb rfl) (bz _) (fun _ => rfl) (ok_Model_of hv) ?_
          by_cases c18 : v16 = v17
          · rw [if_pos c18] at h
            refine w_icmp_eq_t (q := 111) d_Model_areRivals_106 rfl c18 ?_
            refine w_iinc (q := 114) (ls' := [some (.ref 54), some (.int k1), some (.int k2), some (.int k3), some (.int (s + 1))]) d_Model_areRivals_111 rfl (by decide) rfl rfl rfl ?_
            refine w_goto (q := 41) d_Model_areRivals_114 rfl ?_
            cases h
            exact w_ls (by exact (And.intro rfl (And.intro rfl (And.intro rfl (And.intro rfl (And.intro rfl trivial)))))) hr
          · rw [if_neg c18] at h
            refine w_icmp_eq_f (q := 109) d_Model_areRivals_106 111 rfl rfl c18 ?_
            cases h
            exact w_ls (by exact trivial) hr
        · rw [if_neg c15] at h
          refine w_icmp_ne_t (q := 111) d_Model_areRivals_90 rfl c15 ?_
          refine w_iinc (q := 114) (ls' := [some (.ref 54), some (.int k1), some (.int k2), some (.int k3), some (.int (s + 1))]) d_Model_areRivals_111 rfl (by decide) rfl rfl rfl ?_
          refine w_goto (q := 41) d_Model_areRivals_114 rfl ?_
          cases h
          exact w_ls (by exact (And.intro rfl (And.intro rfl (And.intro rfl (And.intro rfl (And.intro rfl trivial)))))) hr
      · rw [if_neg c12] at h
        refine w_icmp_ne_t (q := 111) d_Model_areRivals_74 rfl c12 ?_
        refine w_iinc (q := 114) (ls' := [some (.ref 54), some (.int k1), some (.int k2), some (.int k3), some (.int (s + 1))]) d_Model_areRivals_111 rfl (by decide) rfl rfl rfl ?_
        refine w_goto (q := 41) d_Model_areRivals_114 rfl ?_
        cases h
        exact w_ls (by exact (And.intro rfl (And.intro rfl (And.intro rfl (And.intro rfl (And.intro rfl trivial)))))) hr
def st_Model_areRivals_2 (F : Nat) (p0 : Int32) (p1 : Int32) (g : Mem) (k1 : Int32) (k2 : Int32) (s : Int32) : Option ((Int32) ⊕ ((Unit) ⊕ (Unit))) := if (g 54 26) ≤ s then some (.inr (.inr ())) else (sp_Model_of s 3 g).bind fun v2 => (sp_Model_isOfKind s 0 v2 g).bind fun v3 => if v3 = 0 then some (.inl (s + 1)) else (sp_Model_of s 1 g).bind fun v5 => if v5 = k1 then (lpO (st_Model_areRivals_41 F p0 p1 g k1 k2 s) F 0).bind fun x19 => match x19 with | .inl x20 => some (.inr (.inl ())) | .inr x21 => some (.inl (s + 1)) else some (.inl (s + 1))
theorem kl_Model_areRivals_2 {γ : GG} {tt : Bool} {F : Nat} {p0 : Int32} {p1 : Int32} {g : Mem} {k1 : Int32} {k2 : Int32} {b : Nat × Nat} {Φ : PO} : ∀ (s : Int32) (r : (Int32) ⊕ ((Unit) ⊕ (Unit))), st_Model_areRivals_2 F p0 p1 g k1 k2 s = some r → RQ (PL_Model_areRivals_2 γ tt p0 p1 g k1 k2 b Φ) (QL_Model_areRivals_2 γ tt p0 p1 g k1 k2 b Φ) r → PL_Model_areRivals_2 γ tt p0 p1 g k1 k2 b Φ s := by
  intro s r h hr
  unfold st_Model_areRivals_2 at h
  unfold PL_Model_areRivals_2
  refine w_iload_n (q := 3) d_Model_areRivals_2 rfl rfl ?_
  refine w_aload_n (q := 4) d_Model_areRivals_3 rfl rfl ?_
  refine w_get (q := 7) (ci := 12) (j := 26) d_Model_areRivals_4 rfl (by decide) fl_Model_121 (by decide) (by decide) s_54 rfl rfl ?_
  by_cases c1 : (g 54 26) ≤ s
  · rw [if_pos c1] at h
    refine w_icmp_ge_t (q := 123) d_Model_areRivals_7 rfl c1 ?_
    cases h
    exact w_ls (by exact trivial) hr
  · rw [if_neg c1] at h
    refine w_icmp_ge_f (q := 10) d_Model_areRivals_7 123 rfl rfl c1 ?_
    refine w_aload_n (q := 11) d_Model_areRivals_10 rfl rfl ?_
    refine w_iload_n (q := 12) d_Model_areRivals_11 rfl rfl ?_
    refine w_iconst (q := 13) (v := 0) d_Model_areRivals_12 rfl (by decide) ?_
    refine w_aload_n (q := 14) d_Model_areRivals_13 rfl rfl ?_
    refine w_iload_n (q := 15) d_Model_areRivals_14 rfl rfl ?_
    refine w_iconst (q := 16) (v := 3) d_Model_areRivals_15 rfl (by decide) ?_
    obtain ⟨v2, hv, h⟩ := bnd h
    refine w_callVi (q := 19) (M' := M_Model_of) (n' := 0) (k := 54) (As := [.int s, .int 3]) (sh' := SH) (b1 := (0, 0)) d_Model_areRivals_16 rfl mw_Model_of (by decide) (by decide) ml_Model_305 (by decide) s_54 (by decide) rfl rfl rfl (leb rfl) (bz _) (fun _ => rfl) (ok_Model_of hv) ?_
    obtain ⟨v3, hv, h⟩ := bnd h
    refine w_callVi (q := 22) (M' := M_Model_isOfKind) (n' := 2) (k := 54) (As := [.int s, .int 0, .int v2]) (sh' := SH) (b1 := (0, 0)) d_Model_areRivals_19 rfl mw_Model_isOfKind (by decide) (by decide) ml_Model_396 (by decide) s_54 (by decide) rfl rfl rfl (leb rfl) (bz _) (fun _ => rfl) (ok_Model_isOfKind hv) ?_
    by_cases c4 : v3 = 0
    · rw [if_pos c4] at h
      refine w_if_eq_t (q := 117) d_Model_areRivals_22 rfl c4 ?_
      refine w_iinc (q := 120) (ls' := [some (.ref 54), some (.int k1), some (.int k2), some (.int (s + 1)), none]) d_Model_areRivals_117 rfl (by decide) rfl rfl rfl ?_
      refine w_goto (q := 2) d_Model_areRivals_120 rfl ?_
      cases h
      exact w_ls (by exact (And.intro rfl (And.intro rfl (And.intro rfl (And.intro rfl trivial))))) hr
    · rw [if_neg c4] at h
      refine w_if_eq_f (q := 25) d_Model_areRivals_22 117 rfl rfl c4 ?_
      refine w_aload_n (q := 26) d_Model_areRivals_25 rfl rfl ?_
      refine w_iload_n (q := 27) d_Model_areRivals_26 rfl rfl ?_
      refine w_iconst (q := 28) (v := 1) d_Model_areRivals_27 rfl (by decide) ?_
      obtain ⟨v5, hv, h⟩ := bnd h
      refine w_callVi (q := 31) (M' := M_Model_of) (n' := 0) (k := 54) (As := [.int s, .int 1]) (sh' := SH) (b1 := (0, 0)) d_Model_areRivals_28 rfl mw_Model_of (by decide) (by decide) ml_Model_305 (by decide) s_54 (by decide) rfl rfl rfl (leb rfl) (bz _) (fun _ => rfl) (ok_Model_of hv) ?_
      refine w_iload_n (q := 32) d_Model_areRivals_31 rfl rfl ?_
      by_cases c6 : v5 = k1
      · rw [if_pos c6] at h
        refine w_icmp_eq_t (q := 38) d_Model_areRivals_32 rfl c6 ?_
        refine w_iconst (q := 39) (v := 0) d_Model_areRivals_38 rfl (by decide) ?_
        refine w_istore (q := 41) (ls' := [some (.ref 54), some (.int k1), some (.int k2), some (.int s), some (.int 0)]) d_Model_areRivals_39 rfl (by decide) rfl rfl ?_
        obtain ⟨x19, hx, h⟩ := bnd h
        refine w_ls (ls' := [some (.ref 54), some (.int k1), some (.int k2), some (.int s), some (.int 0)]) (And.intro rfl (And.intro rfl (And.intro rfl (And.intro rfl (And.intro rfl trivial))))) ?_
        show PL_Model_areRivals_41 γ tt p0 p1 g k1 k2 s _ _ 0
        refine lp_ok (kl_Model_areRivals_41) F _ x19 hx ?_
        unfold QL_Model_areRivals_41
        rcases x19 with x20 | x21
        · dsimp only at h ⊢
          cases h
          exact w_ls (by exact trivial) hr
        · dsimp only at h ⊢
          refine w_iinc (q := 120) (ls' := [some (.ref 54), some (.int k1), some (.int k2), some (.int (s + 1)), none]) d_Model_areRivals_117 rfl (by decide) rfl rfl rfl ?_
          refine w_goto (q := 2) d_Model_areRivals_120 rfl ?_
          cases h
          exact w_ls (by exact (And.intro rfl (And.intro rfl (And.intro rfl (And.intro rfl trivial))))) hr
      · rw [if_neg c6] at h
        refine w_icmp_eq_f (q := 35) d_Model_areRivals_32 38 rfl rfl c6 ?_
        refine w_goto (q := 117) d_Model_areRivals_35 rfl ?_
        refine w_iinc (q := 120) (ls' := [some (.ref 54), some (.int k1), some (.int k2), some (.int (s + 1)), none]) d_Model_areRivals_117 rfl (by decide) rfl rfl rfl ?_
        refine w_goto (q := 2) d_Model_areRivals_120 rfl ?_
        cases h
        exact w_ls (by exact (And.intro rfl (And.intro rfl (And.intro rfl (And.intro rfl trivial))))) hr
def sp_Model_areRivals (F : Nat) (p0 : Int32) (p1 : Int32) (g : Mem) : Option (Int32) := (lpO (st_Model_areRivals_2 F p0 p1 g p0 p1) F 0).bind fun x22 => match x22 with | .inl x23 => some 1 | .inr x24 => some 0
theorem ok_Model_areRivals {γ : GG} {tt : Bool} {F : Nat} {p0 : Int32} {p1 : Int32} {g : Mem} {res : Int32} (h : sp_Model_areRivals F p0 p1 g = some res) : CA γ M_Model_areRivals 3 [.ref 54, .int p0, .int p1] SH g tt (0, 0) (pI SH res g tt) := by
  refine CA.of mw_Model_areRivals.1 2 rfl ?_
  show WA γ M_Model_areRivals 3 0 [some (.ref 54), some (.int p0), some (.int p1), none, none] [] SH g tt (0, 0) (pI SH res g tt)
  unfold sp_Model_areRivals at h
  refine w_iconst (q := 1) (v := 0) d_Model_areRivals_0 rfl (by decide) ?_
  refine w_istore_n (q := 2) (ls' := [some (.ref 54), some (.int p0), some (.int p1), some (.int 0), none]) d_Model_areRivals_1 rfl (by decide) rfl rfl ?_
  obtain ⟨x22, hx, h⟩ := bnd h
  refine w_ls (ls' := [some (.ref 54), some (.int p0), some (.int p1), some (.int 0), none]) (And.intro rfl (And.intro rfl (And.intro rfl (And.intro rfl trivial)))) ?_
  show PL_Model_areRivals_2 γ tt p0 p1 g p0 p1 _ _ 0
  refine lp_ok (kl_Model_areRivals_2) F _ x22 hx ?_
  unfold QL_Model_areRivals_2
  rcases x22 with x23 | x24
  · dsimp only at h ⊢
    refine w_iconst (q := 110) (v := 1) d_Model_areRivals_109 rfl (by decide) ?_
    cases h
    exact w_ireturn d_Model_areRivals_110 rfl rfl ⟨rfl, rfl, rfl, rfl⟩
  · dsimp only at h ⊢
    refine w_iconst (q := 124) (v := 0) d_Model_areRivals_123 rfl (by decide) ?_
    cases h
    exact w_ireturn d_Model_areRivals_124 rfl rfl ⟨rfl, rfl, rfl, rfl⟩
def PL_Model_rivals_9 (γ : GG) (tt : Bool) (g : Mem) (m0 : Mem) (b : Nat × Nat) (Φ : PO) (s : Int32 × Int32) : Prop := WA γ M_Model_rivals 4 9 [some (.ref 54), some (.int s.1), some (.int s.2), none] [] SH m0 tt b Φ
def QL_Model_rivals_9 (γ : GG) (tt : Bool) (g : Mem) (m0 : Mem) (b : Nat × Nat) (Φ : PO) (x : (Int32)) : Prop := WA γ M_Model_rivals 4 62 [none, some (.int x), none, none] [] SH m0 tt b Φ
def PL_Model_rivals_23 (γ : GG) (tt : Bool) (g : Mem) (k2 : Int32) (m0 : Mem) (b : Nat × Nat) (Φ : PO) (s : Int32 × Int32) : Prop := WA γ M_Model_rivals 4 23 [some (.ref 54), some (.int s.1), some (.int k2), some (.int s.2)] [] SH m0 tt b Φ
def QL_Model_rivals_23 (γ : GG) (tt : Bool) (g : Mem) (k2 : Int32) (m0 : Mem) (b : Nat × Nat) (Φ : PO) (x : (Int32)) : Prop := WA γ M_Model_rivals 4 56 [some (.ref 54), some (.int x), some (.int k2), none] [] SH m0 tt b Φ
def st_Model_rivals_23 (F : Nat) (g : Mem) (k2 : Int32) (m0 : Mem) (s : Int32 × Int32) : Option ((Int32 × Int32) ⊕ ((Int32))) := (rd m0 58 12 0).bind fun v3 => if v3 ≤ s.2 then some (.inr s.1) else (sp_Model_areRivals F k2 s.2 m0).bind fun v5 => if v5 = 0 then some (.inl (s.1 + 0, s.2 + 1)) else some (.inl (s.1 + 1, s.2 + 1))
theorem kl_Model_rivals_23 {γ : GG} {tt : Bool} {F : Nat} {g : Mem} {k2 : Int32} {m0 : Mem} {b : Nat × Nat} {Φ : PO} : ∀ (s : Int32 × Int32) (r : (Int32 × Int32) ⊕ ((Int32))), st_Model_rivals_23 F g k2 m0 s = some r → RQ (PL_Model_rivals_23 γ tt g k2 m0 b Φ) (QL_Model_rivals_23 γ tt g k2 m0 b Φ) r → PL_Model_rivals_23 γ tt g k2 m0 b Φ s := by
  intro s r h hr
  unfold st_Model_rivals_23 at h
  unfold PL_Model_rivals_23
  refine w_iload_n (q := 24) d_Model_rivals_23 rfl rfl ?_
  refine w_aload_n (q := 25) d_Model_rivals_24 rfl rfl ?_
  refine w_get (q := 28) (ci := 12) (j := 4) d_Model_rivals_25 rfl (by decide) fl_Model_51 (by decide) (by decide) s_54 rfl rfl ?_
  refine w_iconst (q := 29) (v := 0) d_Model_rivals_28 rfl (by decide) ?_
  obtain ⟨v3, hv, h⟩ := bnd h
  obtain ⟨hi, hv⟩ := rd_ok hv
  refine w_iald (q := 30) (t := 0) d_Model_rivals_29 rfl a_58.2 a_58.1 hi rfl ?_
  rw [hv]
  by_cases c4 : v3 ≤ s.2
  · rw [if_pos c4] at h
    refine w_icmp_ge_t (q := 56) d_Model_rivals_30 rfl c4 ?_
    cases h
    exact w_ls (by exact (And.intro rfl (And.intro rfl (And.intro rfl trivial)))) hr
  · rw [if_neg c4] at h
    refine w_icmp_ge_f (q := 33) d_Model_rivals_30 56 rfl rfl c4 ?_
    refine w_iload_n (q := 34) d_Model_rivals_33 rfl rfl ?_
    refine w_aload_n (q := 35) d_Model_rivals_34 rfl rfl ?_
    refine w_iload_n (q := 36) d_Model_rivals_35 rfl rfl ?_
    refine w_iload_n (q := 37) d_Model_rivals_36 rfl rfl ?_
    obtain ⟨v5, hv, h⟩ := bnd h
    refine w_callVi (q := 40) (M' := M_Model_areRivals) (n' := 3) (k := 54) (As := [.int k2, .int s.2]) (sh' := SH) (b1 := (0, 0)) d_Model_rivals_37 rfl mw_Model_areRivals (by decide) (by decide) ml_Model_400 (by decide) s_54 (by decide) rfl rfl rfl (leb rfl) (bz _) (fun _ => rfl) (ok_Model_areRivals hv) ?_
    by_cases c6 : v5 = 0
    · rw [if_pos c6] at h
      refine w_if_eq_t (q := 47) d_Model_rivals_40 rfl c6 ?_
      refine w_iconst (q := 48) (v := 0) d_Model_rivals_47 rfl (by decide) ?_
      refine w_iadd (q := 49) d_Model_rivals_48 rfl ?_
      refine w_istore_n (q := 50) (ls' := [some (.ref 54), some (.int (s.1 + 0)), some (.int k2), some (.int s.2)]) d_Model_rivals_49 rfl (by decide) rfl rfl ?_
      refine w_iinc (q := 53) (ls' := [some (.ref 54), some (.int (s.1 + 0)), some (.int k2), some (.int (s.2 + 1))]) d_Model_rivals_50 rfl (by decide) rfl rfl rfl ?_
      refine w_goto (q := 23) d_Model_rivals_53 rfl ?_
      cases h
      exact w_ls (by exact (And.intro rfl (And.intro rfl (And.intro rfl (And.intro rfl trivial))))) hr
    · rw [if_neg c6] at h
      refine w_if_eq_f (q := 43) d_Model_rivals_40 47 rfl rfl c6 ?_
      refine w_iconst (q := 44) (v := 1) d_Model_rivals_43 rfl (by decide) ?_
      refine w_goto (q := 48) d_Model_rivals_44 rfl ?_
      refine w_iadd (q := 49) d_Model_rivals_48 rfl ?_
      refine w_istore_n (q := 50) (ls' := [some (.ref 54), some (.int (s.1 + 1)), some (.int k2), some (.int s.2)]) d_Model_rivals_49 rfl (by decide) rfl rfl ?_
      refine w_iinc (q := 53) (ls' := [some (.ref 54), some (.int (s.1 + 1)), some (.int k2), some (.int (s.2 + 1))]) d_Model_rivals_50 rfl (by decide) rfl rfl rfl ?_
      refine w_goto (q := 23) d_Model_rivals_53 rfl ?_
      cases h
      exact w_ls (by exact (And.intro rfl (And.intro rfl (And.intro rfl (And.intro rfl trivial))))) hr
def st_Model_rivals_9 (F : Nat) (g : Mem) (m0 : Mem) (s : Int32 × Int32) : Option ((Int32 × Int32) ⊕ ((Int32))) := (rd m0 58 12 0).bind fun v1 => if v1 ≤ s.2 then some (.inr s.1) else (lpO (st_Model_rivals_23 F g s.2 m0) F (s.1, s.2 + 1)).bind fun x7 => some (.inl (x7, s.2 + 1))
theorem kl_Model_rivals_9 {γ : GG} {tt : Bool} {F : Nat} {g : Mem} {m0 : Mem} {b : Nat × Nat} {Φ : PO} : ∀ (s : Int32 × Int32) (r : (Int32 × Int32) ⊕ ((Int32))), st_Model_rivals_9 F g m0 s = some r → RQ (PL_Model_rivals_9 γ tt g m0 b Φ) (QL_Model_rivals_9 γ tt g m0 b Φ) r → PL_Model_rivals_9 γ tt g m0 b Φ s := by
  intro s r h hr
  unfold st_Model_rivals_9 at h
  unfold PL_Model_rivals_9
  refine w_iload_n (q := 10) d_Model_rivals_9 rfl rfl ?_
  refine w_aload_n (q := 11) d_Model_rivals_10 rfl rfl ?_
  refine w_get (q := 14) (ci := 12) (j := 4) d_Model_rivals_11 rfl (by decide) fl_Model_51 (by decide) (by decide) s_54 rfl rfl ?_
  refine w_iconst (q := 15) (v := 0) d_Model_rivals_14 rfl (by decide) ?_
  obtain ⟨v1, hv, h⟩ := bnd h
  obtain ⟨hi, hv⟩ := rd_ok hv
  refine w_iald (q := 16) (t := 0) d_Model_rivals_15 rfl a_58.2 a_58.1 hi rfl ?_
  rw [hv]
  by_cases c2 : v1 ≤ s.2
  · rw [if_pos c2] at h
    refine w_icmp_ge_t (q := 62) d_Model_rivals_16 rfl c2 ?_
    cases h
    exact w_ls (by exact (And.intro rfl trivial)) hr
  · rw [if_neg c2] at h
    refine w_icmp_ge_f (q := 19) d_Model_rivals_16 62 rfl rfl c2 ?_
    refine w_iload_n (q := 20) d_Model_rivals_19 rfl rfl ?_
    refine w_iconst (q := 21) (v := 1) d_Model_rivals_20 rfl (by decide) ?_
    refine w_iadd (q := 22) d_Model_rivals_21 rfl ?_
    refine w_istore_n (q := 23) (ls' := [some (.ref 54), some (.int s.1), some (.int s.2), some (.int (s.2 + 1))]) d_Model_rivals_22 rfl (by decide) rfl rfl ?_
    obtain ⟨x7, hx, h⟩ := bnd h
    refine w_ls (ls' := [some (.ref 54), some (.int s.1), some (.int s.2), some (.int (s.2 + 1))]) (And.intro rfl (And.intro rfl (And.intro rfl (And.intro rfl trivial)))) ?_
    show PL_Model_rivals_23 γ tt g s.2 m0 _ _ (s.1, s.2 + 1)
    refine lp_ok (kl_Model_rivals_23) F _ x7 hx ?_
    unfold QL_Model_rivals_23
    refine w_iinc (q := 59) (ls' := [some (.ref 54), some (.int x7), some (.int (s.2 + 1)), none]) d_Model_rivals_56 rfl (by decide) rfl rfl rfl ?_
    refine w_goto (q := 9) d_Model_rivals_59 rfl ?_
    cases h
    exact w_ls (by exact (And.intro rfl (And.intro rfl (And.intro rfl trivial)))) hr
def sp_Model_rivals (F : Nat) (g : Mem) : Option (Int32 × Mem) := (lpO (st_Model_rivals_9 F g (mset g 54 3 0)) F (0, 0)).bind fun x8 => some (x8, (mset g 54 3 0))
theorem ok_Model_rivals {γ : GG} {tt : Bool} {F : Nat} {g : Mem} {res : Int32 × Mem} (h : sp_Model_rivals F g = some res) : CA γ M_Model_rivals 4 [.ref 54] SH g tt (0, 0) (pI SH res.1 res.2 tt) := by
  refine CA.of mw_Model_rivals.1 3 rfl ?_
  show WA γ M_Model_rivals 4 0 [some (.ref 54), none, none, none] [] SH g tt (0, 0) (pI SH res.1 res.2 tt)
  unfold sp_Model_rivals at h
  refine w_aload_n (q := 1) d_Model_rivals_0 rfl rfl ?_
  refine w_iconst (q := 2) (v := 0) d_Model_rivals_1 rfl (by decide) ?_
  refine w_put (q := 5) (ci := 12) (j := 3) d_Model_rivals_2 rfl (by decide) fl_Model_114 (by decide) (by decide) s_54 rfl rfl rfl rfl rfl rfl ?_
  refine w_iconst (q := 6) (v := 0) d_Model_rivals_5 rfl (by decide) ?_
  refine w_istore_n (q := 7) (ls' := [some (.ref 54), some (.int 0), none, none]) d_Model_rivals_6 rfl (by decide) rfl rfl ?_
  refine w_iconst (q := 8) (v := 0) d_Model_rivals_7 rfl (by decide) ?_
  refine w_istore_n (q := 9) (ls' := [some (.ref 54), some (.int 0), some (.int 0), none]) d_Model_rivals_8 rfl (by decide) rfl rfl ?_
  obtain ⟨x8, hx, h⟩ := bnd h
  refine w_ls (ls' := [some (.ref 54), some (.int 0), some (.int 0), none]) (And.intro rfl (And.intro rfl (And.intro rfl trivial))) ?_
  show PL_Model_rivals_9 γ tt g (mset g 54 3 0) _ _ (0, 0)
  refine lp_ok (kl_Model_rivals_9) F _ x8 hx ?_
  unfold QL_Model_rivals_9
  refine w_iload_n (q := 63) d_Model_rivals_62 rfl rfl ?_
  cases h
  exact w_ireturn d_Model_rivals_63 rfl rfl ⟨rfl, rfl, rfl, rfl⟩
def PL_Model_owedNow_7 (γ : GG) (tt : Bool) (p0 : Int32) (g : Mem) (k1 : Int32) (b : Nat × Nat) (Φ : PO) (s : Int32 × Int32 × Int32) : Prop := WA γ M_Model_owedNow 2 7 [some (.ref 54), some (.int k1), some (.int s.1), some (.int s.2.1), some (.int s.2.2)] [] SH g tt b Φ
def QL_Model_owedNow_7 (γ : GG) (tt : Bool) (p0 : Int32) (g : Mem) (k1 : Int32) (b : Nat × Nat) (Φ : PO) (x : (Int32)) : Prop := WA γ M_Model_owedNow 2 125 [none, none, none, some (.int x), none] [] SH g tt b Φ
def sp_Model_owedNow_j59_7 (F : Nat) (p0 : Int32) (k1 : Int32) (g : Mem) (x2 : Int32) (x3 : Int32) (x4 : Int32) : Option ((Int32 × Int32 × Int32) ⊕ ((Int32))) := (sp_Model_of x4 7 g).bind fun v8 => (sp_Model_of x4 0 g).bind fun v9 => if v9 = 1 then (sp_Model_of x4 4 g).bind fun v11 => some (.inl (x2 ||| (1 <<< (v8 &&& 31)), x3 + v11, x4 + 1)) else (sp_Model_of x4 0 g).bind fun v12 => if v12 = 2 then (sp_Model_of x4 4 g).bind fun v14 => some (.inl (x2 ||| (1 <<< (v8 &&& 31)), x3 + (-v14), x4 + 1)) else some (.inl (x2 ||| (1 <<< (v8 &&& 31)), x3 + 0, x4 + 1))
theorem ok_Model_owedNow_j59_7 {γ : GG} {tt : Bool} {F : Nat} {p0 : Int32} {k1 : Int32} {g : Mem} {x2 : Int32} {x3 : Int32} {x4 : Int32} {b : Nat × Nat} {Φ : PO} {r : (Int32 × Int32 × Int32) ⊕ ((Int32))} (h : sp_Model_owedNow_j59_7 F p0 k1 g x2 x3 x4 = some r) (hr : RQ (PL_Model_owedNow_7 γ tt p0 g k1 b Φ) (QL_Model_owedNow_7 γ tt p0 g k1 b Φ) r) : WA γ M_Model_owedNow 2 59 [some (.ref 54), some (.int k1), some (.int x2), some (.int x3), some (.int x4)] [] SH g tt b Φ := by
  unfold sp_Model_owedNow_j59_7 at h
  refine w_iload_n (q := 60) d_Model_owedNow_59 rfl rfl ?_
  refine w_iconst (q := 61) (v := 1) d_Model_owedNow_60 rfl (by decide) ?_
  refine w_aload_n (q := 62) d_Model_owedNow_61 rfl rfl ?_
  refine w_iload (q := 64) d_Model_owedNow_62 rfl rfl ?_
  refine w_bipush (q := 66) (v := 7) d_Model_owedNow_64 rfl (by decide) ?_
  obtain ⟨v8, hv, h⟩ := bnd h
  refine w_callVi (q := 69) (M' := M_Model_of) (n' := 0) (k := 54) (As := [.int x4, .int 7]) (sh' := SH) (b1 := (0, 0)) d_Model_owedNow_66 rfl mw_Model_of (by decide) (by decide) ml_Model_305 (by decide) s_54 (by decide) rfl rfl rfl (leb rfl) (bz _) (fun _ => rfl) (ok_Model_of hv) ?_
  refine w_ishl (q := 70) d_Model_owedNow_69 rfl ?_
  refine w_ior (q := 71) d_Model_owedNow_70 rfl ?_
  refine w_istore_n (q := 72) (ls' := [some (.ref 54), some (.int k1), some (.int (x2 ||| (1 <<< (v8 &&& 31)))), some (.int x3), some (.int x4)]) d_Model_owedNow_71 rfl (by decide) rfl rfl ?_
  refine w_iload_n (q := 73) d_Model_owedNow_72 rfl rfl ?_
  refine w_aload_n (q := 74) d_Model_owedNow_73 rfl rfl ?_
  refine w_iload (q := 76) d_Model_owedNow_74 rfl rfl ?_
  refine w_iconst (q := 77) (v := 0) d_Model_owedNow_76 rfl (by decide) ?_
  obtain ⟨v9, hv, h⟩ := bnd h
  refine w_callVi (q := 80) (M' := M_Model_of) (n' := 0) (k := 54) (As := [.int x4, .int 0]) (sh' := SH) (b1 := (0, 0)) d_Model_owedNow_77 rfl mw_Model_of (by decide) (by decide) ml_Model_305 (by decide) s_54 (by decide) rfl rfl rfl (leb rfl) (bz _) (fun _ => rfl) (ok_Model_of hv) ?_
  refine w_iconst (q := 81) (v := 1) d_Model_owedNow_80 rfl (by decide) ?_
  by_cases c10 : v9 = 1
  · rw [if_pos c10] at h
    refine w_icmp_ne_f (q := 84) d_Model_owedNow_81 94 rfl rfl c10 ?_
    refine w_aload_n (q := 85) d_Model_owedNow_84 rfl rfl ?_
    refine w_iload (q := 87) d_Model_owedNow_85 rfl rfl ?_
    refine w_iconst (q := 88) (v := 4) d_Model_owedNow_87 rfl (by decide) ?_
    obtain ⟨v11, hv, h⟩ := bnd h
    refine w_callVi (q := 91) (M' := M_Model_of) (n' := 0) (k := 54) (As := [.int x4, .int 4]) (sh' := SH) (b1 := (0, 0)) d_Model_owedNow_88 rfl mw_Model_of (by decide) (by decide) ml_Model_305 (by decide) s_54 (by decide) rfl rfl rfl (leb rfl) (bz _) (fun _ => rfl) (ok_Model_of hv) ?_
    refine w_goto (q := 117) d_Model_owedNow_91 rfl ?_
    refine w_iadd (q := 118) d_Model_owedNow_117 rfl ?_
    refine w_istore_n (q := 119) (ls' := [some (.ref 54), some (.int k1), some (.int (x2 ||| (1 <<< (v8 &&& 31)))), some (.int (x3 + v11)), some (.int x4)]) d_Model_owedNow_118 rfl (by decide) rfl rfl ?_
    refine w_iinc (q := 122) (ls' := [some (.ref 54), some (.int k1), some (.int (x2 ||| (1 <<< (v8 &&& 31)))), some (.int (x3 + v11)), some (.int (x4 + 1))]) d_Model_owedNow_119 rfl (by decide) rfl rfl rfl ?_
    refine w_goto (q := 7) d_Model_owedNow_122 rfl ?_
    cases h
    exact w_ls (by exact (And.intro rfl (And.intro rfl (And.intro rfl (And.intro rfl (And.intro rfl trivial)))))) hr
  · rw [if_neg c10] at h
    refine w_icmp_ne_t (q := 94) d_Model_owedNow_81 rfl c10 ?_
    refine w_aload_n (q := 95) d_Model_owedNow_94 rfl rfl ?_
    refine w_iload (q := 97) d_Model_owedNow_95 rfl rfl ?_
    refine w_iconst (q := 98) (v := 0) d_Model_owedNow_97 rfl (by decide) ?_
    obtain ⟨v12, hv, h⟩ := bnd h
    refine w_callVi (q := 101) (M' := M_Model_of) (n' := 0) (k := 54) (As := [.int x4, .int 0]) (sh' := SH) (b1 := (0, 0)) d_Model_owedNow_98 rfl mw_Model_of (by decide) (by decide) ml_Model_305 (by decide) s_54 (by decide) rfl rfl rfl (leb rfl) (bz _) (fun _ => rfl) (ok_Model_of hv) ?_
    refine w_iconst (q := 102) (v := 2) d_Model_owedNow_101 rfl (by decide) ?_
    by_cases c13 : v12 = 2
    · rw [if_pos c13] at h
      refine w_icmp_ne_f (q := 105) d_Model_owedNow_102 116 rfl rfl c13 ?_
      refine w_aload_n (q := 106) d_Model_owedNow_105 rfl rfl ?_
      refine w_iload (q := 108) d_Model_owedNow_106 rfl rfl ?_
      refine w_iconst (q := 109) (v := 4) d_Model_owedNow_108 rfl (by decide) ?_
      obtain ⟨v14, hv, h⟩ := bnd h
      refine w_callVi (q := 112) (M' := M_Model_of) (n' := 0) (k := 54) (As := [.int x4, .int 4]) (sh' := SH) (b1 := (0, 0)) d_Model_owedNow_109 rfl mw_Model_of (by decide) (by decide) ml_Model_305 (by decide) s_54 (by decide) rfl rfl rfl (leb rfl) (bz _) (fun _ => rfl) (ok_Model_of hv) ?_
      refine w_ineg (q := 113) d_Model_owedNow_112 rfl ?_
      refine w_goto (q := 117) d_Model_owedNow_113 rfl ?_
      refine w_iadd (q := 118) d_Model_owedNow_117 rfl ?_
      refine w_istore_n (q := 119) (ls' := [some (.ref 54), some (.int k1), some (.int (x2 ||| (1 <<< (v8 &&& 31)))), some (.int (x3 + (-v14))), some (.int x4)]) d_Model_owedNow_118 rfl (by decide) rfl rfl ?_
      refine w_iinc (q := 122) (ls' := [some (.ref 54), some (.int k1), some (.int (x2 ||| (1 <<< (v8 &&& 31)))), some (.int (x3 + (-v14))), some (.int (x4 + 1))]) d_Model_owedNow_119 rfl (by decide) rfl rfl rfl ?_
      refine w_goto (q := 7) d_Model_owedNow_122 rfl ?_
      cases h
      exact w_ls (by exact (And.intro rfl (And.intro rfl (And.intro rfl (And.intro rfl (And.intro rfl trivial)))))) hr
    · rw [if_neg c13] at h
      refine w_icmp_ne_t (q := 116) d_Model_owedNow_102 rfl c13 ?_
      refine w_iconst (q := 117) (v := 0) d_Model_owedNow_116 rfl (by decide) ?_
      refine w_iadd (q := 118) d_Model_owedNow_117 rfl ?_
      refine w_istore_n (q := 119) (ls' := [some (.ref 54), some (.int k1), some (.int (x2 ||| (1 <<< (v8 &&& 31)))), some (.int (x3 + 0)), some (.int x4)]) d_Model_owedNow_118 rfl (by decide) rfl rfl ?_
      refine w_iinc (q := 122) (ls' := [some (.ref 54), some (.int k1), some (.int (x2 ||| (1 <<< (v8 &&& 31)))), some (.int (x3 + 0)), some (.int (x4 + 1))]) d_Model_owedNow_119 rfl (by decide) rfl rfl rfl ?_
      refine w_goto (q := 7) d_Model_owedNow_122 rfl ?_
      cases h
      exact w_ls (by exact (And.intro rfl (And.intro rfl (And.intro rfl (And.intro rfl (And.intro rfl trivial)))))) hr
def st_Model_owedNow_7 (F : Nat) (p0 : Int32) (g : Mem) (k1 : Int32) (s : Int32 × Int32 × Int32) : Option ((Int32 × Int32 × Int32) ⊕ ((Int32))) := if (g 54 26) ≤ s.2.2 then some (.inr s.2.1) else (sp_Model_isThere s.2.2 g).bind fun v2 => if v2 = 0 then some (.inl (s.1, s.2.1, s.2.2 + 1)) else (sp_Model_of s.2.2 7 g).bind fun v4 => (sp_Model_isOf s.1 v4 g).bind fun v5 => if v5 = 0 then if k1 = (-1) then sp_Model_owedNow_j59_7 F p0 k1 g s.1 s.2.1 s.2.2 else (sp_Model_of s.2.2 3 g).bind fun v15 => if v15 = k1 then sp_Model_owedNow_j59_7 F p0 k1 g s.1 s.2.1 s.2.2 else some (.inl (s.1, s.2.1, s.2.2 + 1)) else some (.inl (s.1, s.2.1, s.2.2 + 1))
theorem kl_Model_owedNow_7 {γ : GG} {tt : Bool} {F : Nat} {p0 : Int32} {g : Mem} {k1 : Int32} {b : Nat × Nat} {Φ : PO} : ∀ (s : Int32 × Int32 × Int32) (r : (Int32 × Int32 × Int32) ⊕ ((Int32))), st_Model_owedNow_7 F p0 g k1 s = some r → RQ (PL_Model_owedNow_7 γ tt p0 g k1 b Φ) (QL_Model_owedNow_7 γ tt p0 g k1 b Φ) r → PL_Model_owedNow_7 γ tt p0 g k1 b Φ s := by
  intro s r h hr
  unfold st_Model_owedNow_7 at h
  unfold PL_Model_owedNow_7
  refine w_iload (q := 9) d_Model_owedNow_7 rfl rfl ?_
  refine w_aload_n (q := 10) d_Model_owedNow_9 rfl rfl ?_
  refine w_get (q := 13) (ci := 12) (j := 26) d_Model_owedNow_10 rfl (by decide) fl_Model_121 (by decide) (by decide) s_54 rfl rfl ?_
  by_cases c1 : (g 54 26) ≤ s.2.2
  · rw [if_pos c1] at h
    refine w_icmp_ge_t (q := 125) d_Model_owedNow_13 rfl c1 ?_
    cases h
    exact w_ls (by exact (And.intro rfl trivial)) hr
  · rw [if_neg c1] at h
    refine w_icmp_ge_f (q := 16) d_Model_owedNow_13 125 rfl rfl c1 ?_
    refine w_aload_n (q := 17) d_Model_owedNow_16 rfl rfl ?_
    refine w_iload (q := 19) d_Model_owedNow_17 rfl rfl ?_
    obtain ⟨v2, hv, h⟩ := bnd h
    refine w_callVi (q := 22) (M' := M_Model_isThere) (n' := 1) (k := 54) (As := [.int s.2.2]) (sh' := SH) (b1 := (0, 0)) d_Model_owedNow_19 rfl mw_Model_isThere (by decide) (by decide) ml_Model_315 (by decide) s_54 (by decide) rfl rfl rfl (leb rfl) (bz _) (fun _ => rfl) (ok_Model_isThere hv) ?_
    by_cases c3 : v2 = 0
    · rw [if_pos c3] at h
      refine w_if_eq_t (q := 119) d_Model_owedNow_22 rfl c3 ?_
      refine w_iinc (q := 122) (ls' := [some (.ref 54), some (.int k1), some (.int s.1), some (.int s.2.1), some (.int (s.2.2 + 1))]) d_Model_owedNow_119 rfl (by decide) rfl rfl rfl ?_
      refine w_goto (q := 7) d_Model_owedNow_122 rfl ?_
      cases h
      exact w_ls (by exact (And.intro rfl (And.intro rfl (And.intro rfl (And.intro rfl (And.intro rfl trivial)))))) hr
    · rw [if_neg c3] at h
      refine w_if_eq_f (q := 25) d_Model_owedNow_22 119 rfl rfl c3 ?_
      refine w_iload_n (q := 26) d_Model_owedNow_25 rfl rfl ?_
      refine w_aload_n (q := 27) d_Model_owedNow_26 rfl rfl ?_
      refine w_iload (q := 29) d_Model_owedNow_27 rfl rfl ?_
      refine w_bipush (q := 31) (v := 7) d_Model_owedNow_29 rfl (by decide) ?_
      obtain ⟨v4, hv, h⟩ := bnd h
      refine w_callVi (q := 34) (M' := M_Model_of) (n' := 0) (k := 54) (As := [.int s.2.2, .int 7]) (sh' := SH) (b1 := (0, 0)) d_Model_owedNow_31 rfl mw_Model_of (by decide) (by decide) ml_Model_305 (by decide) s_54 (by decide) rfl rfl rfl (leb rfl) (bz _) (fun _ => rfl) (ok_Model_of hv) ?_
      obtain ⟨v5, hv, h⟩ := bnd h
      refine w_callSi (q := 37) (M' := M_Model_isOf) (n' := 0) (As := [.int s.1, .int v4]) (sh' := SH) (b1 := (0, 0)) d_Model_owedNow_34 rfl mw_Model_isOf (by decide) (by decide) ml_Model_308 rfl rfl (leb rfl) (bz _) (fun _ => rfl) (ok_Model_isOf hv) ?_
      by_cases c6 : v5 = 0
      · rw [if_pos c6] at h
        refine w_if_ne_f (q := 40) d_Model_owedNow_37 119 rfl rfl c6 ?_
        refine w_iload_n (q := 41) d_Model_owedNow_40 rfl rfl ?_
        refine w_iconst (q := 42) (v := (-1)) d_Model_owedNow_41 rfl (by decide) ?_
        by_cases c7 : k1 = (-1)
        · rw [if_pos c7] at h
          refine w_icmp_eq_t (q := 59) d_Model_owedNow_42 rfl c7 ?_
          refine w_ls (ls' := [some (.ref 54), some (.int k1), some (.int s.1), some (.int s.2.1), some (.int s.2.2)]) (And.intro rfl (And.intro rfl (And.intro rfl (And.intro rfl (And.intro rfl trivial))))) ?_
          exact ok_Model_owedNow_j59_7 h hr
        · rw [if_neg c7] at h
          refine w_icmp_eq_f (q := 45) d_Model_owedNow_42 59 rfl rfl c7 ?_
          refine w_aload_n (q := 46) d_Model_owedNow_45 rfl rfl ?_
          refine w_iload (q := 48) d_Model_owedNow_46 rfl rfl ?_
          refine w_iconst (q := 49) (v := 3) d_Model_owedNow_48 rfl (by decide) ?_
          obtain ⟨v15, hv, h⟩ := bnd h
          refine w_callVi (q := 52) (M' := M_Model_of) (n' := 0) (k := 54) (As := [.int s.2.2, .int 3]) (sh' := SH) (b1 := (0, 0)) d_Model_owedNow_49 rfl mw_Model_of (by decide) (by decide) ml_Model_305 (by decide) s_54 (by decide) rfl rfl rfl (leb rfl) (bz _) (fun _ => rfl) (ok_Model_of hv) ?_
          refine w_iload_n (q := 53) d_Model_owedNow_52 rfl rfl ?_
          by_cases c16 : v15 = k1
          · rw [if_pos c16] at h
            refine w_icmp_eq_t (q := 59) d_Model_owedNow_53 rfl c16 ?_
            refine w_ls (ls' := [some (.ref 54), some (.int k1), some (.int s.1), some (.int s.2.1), some (.int s.2.2)]) (And.intro rfl (And.intro rfl (And.intro rfl (And.intro rfl (And.intro rfl trivial))))) ?_
            exact ok_Model_owedNow_j59_7 h hr
          · rw [if_neg c16] at h
            refine w_icmp_eq_f (q := 56) d_Model_owedNow_53 59 rfl rfl c16 ?_
            refine w_goto (q := 119) d_Model_owedNow_56 rfl ?_
            refine w_iinc (q := 122) (ls' := [some (.ref 54), some (.int k1), some (.int s.1), some (.int s.2.1), some (.int (s.2.2 + 1))]) d_Model_owedNow_119 rfl (by decide) rfl rfl rfl ?_
            refine w_goto (q := 7) d_Model_owedNow_122 rfl ?_
            cases h
            exact w_ls (by exact (And.intro rfl (And.intro rfl (And.intro rfl (And.intro rfl (And.intro rfl trivial)))))) hr
      · rw [if_neg c6] at h
        refine w_if_ne_t (q := 119) d_Model_owedNow_37 rfl c6 ?_
        refine w_iinc (q := 122) (ls' := [some (.ref 54), some (.int k1), some (.int s.1), some (.int s.2.1), some (.int (s.2.2 + 1))]) d_Model_owedNow_119 rfl (by decide) rfl rfl rfl ?_
        refine w_goto (q := 7) d_Model_owedNow_122 rfl ?_
        cases h
        exact w_ls (by exact (And.intro rfl (And.intro rfl (And.intro rfl (And.intro rfl (And.intro rfl trivial)))))) hr
def sp_Model_owedNow (F : Nat) (p0 : Int32) (g : Mem) : Option (Int32) := (lpO (st_Model_owedNow_7 F p0 g p0) F (0, 0, 0)).bind fun x17 => some x17
theorem ok_Model_owedNow {γ : GG} {tt : Bool} {F : Nat} {p0 : Int32} {g : Mem} {res : Int32} (h : sp_Model_owedNow F p0 g = some res) : CA γ M_Model_owedNow 2 [.ref 54, .int p0] SH g tt (0, 0) (pI SH res g tt) := by
  refine CA.of mw_Model_owedNow.1 3 rfl ?_
  show WA γ M_Model_owedNow 2 0 [some (.ref 54), some (.int p0), none, none, none] [] SH g tt (0, 0) (pI SH res g tt)
  unfold sp_Model_owedNow at h
  refine w_iconst (q := 1) (v := 0) d_Model_owedNow_0 rfl (by decide) ?_
  refine w_istore_n (q := 2) (ls' := [some (.ref 54), some (.int p0), some (.int 0), none, none]) d_Model_owedNow_1 rfl (by decide) rfl rfl ?_
  refine w_iconst (q := 3) (v := 0) d_Model_owedNow_2 rfl (by decide) ?_
  refine w_istore_n (q := 4) (ls' := [some (.ref 54), some (.int p0), some (.int 0), some (.int 0), none]) d_Model_owedNow_3 rfl (by decide) rfl rfl ?_
  refine w_iconst (q := 5) (v := 0) d_Model_owedNow_4 rfl (by decide) ?_
  refine w_istore (q := 7) (ls' := [some (.ref 54), some (.int p0), some (.int 0), some (.int 0), some (.int 0)]) d_Model_owedNow_5 rfl (by decide) rfl rfl ?_
  obtain ⟨x17, hx, h⟩ := bnd h
  refine w_ls (ls' := [some (.ref 54), some (.int p0), some (.int 0), some (.int 0), some (.int 0)]) (And.intro rfl (And.intro rfl (And.intro rfl (And.intro rfl (And.intro rfl trivial))))) ?_
  show PL_Model_owedNow_7 γ tt p0 g p0 _ _ (0, 0, 0)
  refine lp_ok (kl_Model_owedNow_7) F _ x17 hx ?_
  unfold QL_Model_owedNow_7
  refine w_iload_n (q := 126) d_Model_owedNow_125 rfl rfl ?_
  cases h
  exact w_ireturn d_Model_owedNow_126 rfl rfl ⟨rfl, rfl, rfl, rfl⟩
def sp_Model_owed (F : Nat) (p0 : Int32) (g : Mem) : Option (Int32 × Mem) := (sp_Model_isAbout p0 (mset g 54 3 0)).bind fun v1 => if v1 = 0 then (sp_Model_fail 1 (mset g 54 3 0)).bind fun v3 => some (v3.1, v3.2) else (sp_Model_owedNow F p0 (mset g 54 3 0)).bind fun v4 => some (v4, (mset g 54 3 0))
theorem ok_Model_owed {γ : GG} {tt : Bool} {F : Nat} {p0 : Int32} {g : Mem} {res : Int32 × Mem} (h : sp_Model_owed F p0 g = some res) : CA γ M_Model_owed 3 [.ref 54, .int p0] SH g tt (0, 0) (pI SH res.1 res.2 tt) := by
  refine CA.of mw_Model_owed.1 0 rfl ?_
  show WA γ M_Model_owed 3 0 [some (.ref 54), some (.int p0)] [] SH g tt (0, 0) (pI SH res.1 res.2 tt)
  unfold sp_Model_owed at h
  refine w_aload_n (q := 1) d_Model_owed_0 rfl rfl ?_
  refine w_iconst (q := 2) (v := 0) d_Model_owed_1 rfl (by decide) ?_
  refine w_put (q := 5) (ci := 12) (j := 3) d_Model_owed_2 rfl (by decide) fl_Model_114 (by decide) (by decide) s_54 rfl rfl rfl rfl rfl rfl ?_
  refine w_iload_n (q := 6) d_Model_owed_5 rfl rfl ?_
  obtain ⟨v1, hv, h⟩ := bnd h
  refine w_callSi (q := 9) (M' := M_Model_isAbout) (n' := 1) (As := [.int p0]) (sh' := SH) (b1 := (0, 0)) d_Model_owed_6 rfl mw_Model_isAbout (by decide) (by decide) ml_Model_376 rfl rfl (leb rfl) (bz _) (fun _ => rfl) (ok_Model_isAbout hv) ?_
  by_cases c2 : v1 = 0
  · rw [if_pos c2] at h
    refine w_if_eq_t (q := 20) d_Model_owed_9 rfl c2 ?_
    refine w_aload_n (q := 21) d_Model_owed_20 rfl rfl ?_
    refine w_iconst (q := 22) (v := 1) d_Model_owed_21 rfl (by decide) ?_
    obtain ⟨v3, hv, h⟩ := bnd h
    refine w_callVi (q := 25) (M' := M_Model_fail) (n' := 0) (k := 54) (As := [.int 1]) (sh' := SH) (b1 := (0, 0)) d_Model_owed_22 rfl mw_Model_fail (by decide) (by decide) ml_Model_273 (by decide) s_54 (by decide) rfl rfl rfl (leb rfl) (bz _) (fun _ => rfl) (ok_Model_fail hv) ?_
    cases h
    exact w_ireturn d_Model_owed_25 rfl rfl ⟨rfl, rfl, rfl, rfl⟩
  · rw [if_neg c2] at h
    refine w_if_eq_f (q := 12) d_Model_owed_9 20 rfl rfl c2 ?_
    refine w_aload_n (q := 13) d_Model_owed_12 rfl rfl ?_
    refine w_iload_n (q := 14) d_Model_owed_13 rfl rfl ?_
    obtain ⟨v4, hv, h⟩ := bnd h
    refine w_callVi (q := 17) (M' := M_Model_owedNow) (n' := 2) (k := 54) (As := [.int p0]) (sh' := SH) (b1 := (0, 0)) d_Model_owed_14 rfl mw_Model_owedNow (by decide) (by decide) ml_Model_403 (by decide) s_54 (by decide) rfl rfl rfl (leb rfl) (bz _) (fun _ => rfl) (ok_Model_owedNow hv) ?_
    refine w_goto (q := 25) d_Model_owed_17 rfl ?_
    cases h
    exact w_ireturn d_Model_owed_25 rfl rfl ⟨rfl, rfl, rfl, rfl⟩
def PL_Model_cover_14 (γ : GG) (tt : Bool) (g : Mem) (k2 : Int32) (m0 : Mem) (b : Nat × Nat) (Φ : PO) (s : Int32 × Int32) : Prop := WA γ M_Model_cover 3 14 [some (.ref 54), some (.int s.1), some (.int k2), some (.int s.2), none, none] [] SH m0 tt b Φ
def QL_Model_cover_14 (γ : GG) (tt : Bool) (g : Mem) (k2 : Int32) (m0 : Mem) (b : Nat × Nat) (Φ : PO) (x : (Int32)) : Prop := WA γ M_Model_cover 3 112 [none, some (.int x), none, none, none, none] [] SH m0 tt b Φ
def PL_Model_cover_52 (γ : GG) (tt : Bool) (g : Mem) (k1 : Int32) (k2 : Int32) (k3 : Int32) (m0 : Mem) (b : Nat × Nat) (Φ : PO) (s : Int32 × Int32) : Prop := WA γ M_Model_cover 3 52 [some (.ref 54), some (.int k1), some (.int k2), some (.int k3), some (.int s.1), some (.int s.2)] [] SH m0 tt b Φ
def QL_Model_cover_52 (γ : GG) (tt : Bool) (g : Mem) (k1 : Int32) (k2 : Int32) (k3 : Int32) (m0 : Mem) (b : Nat × Nat) (Φ : PO) (x : (Int32)) : Prop := WA γ M_Model_cover 3 99 [some (.ref 54), some (.int k1), some (.int k2), some (.int k3), some (.int x), none] [] SH m0 tt b Φ
def st_Model_cover_52 (F : Nat) (g : Mem) (k1 : Int32) (k2 : Int32) (k3 : Int32) (m0 : Mem) (s : Int32 × Int32) : Option ((Int32 × Int32) ⊕ ((Int32))) := if (m0 54 26) ≤ s.2 then some (.inr s.1) else if s.1 = 0 then some (.inr s.1) else (sp_Model_isOf k2 s.2 m0).bind fun v7 => if v7 = 0 then some (.inl (1, s.2 + 1)) else (sp_Model_holdersOf F s.2 m0).bind fun v9 => if (v9 &&& k3) = 0 then some (.inl (0, s.2 + 1)) else some (.inl (1, s.2 + 1))
theorem kl_Model_cover_52 {γ : GG} {tt : Bool} {F : Nat} {g : Mem} {k1 : Int32} {k2 : Int32} {k3 : Int32} {m0 : Mem} {b : Nat × Nat} {Φ : PO} : ∀ (s : Int32 × Int32) (r : (Int32 × Int32) ⊕ ((Int32))), st_Model_cover_52 F g k1 k2 k3 m0 s = some r → RQ (PL_Model_cover_52 γ tt g k1 k2 k3 m0 b Φ) (QL_Model_cover_52 γ tt g k1 k2 k3 m0 b Φ) r → PL_Model_cover_52 γ tt g k1 k2 k3 m0 b Φ s := by
  intro s r h hr
  unfold st_Model_cover_52 at h
  unfold PL_Model_cover_52
  refine w_iload (q := 54) d_Model_cover_52 rfl rfl ?_
  refine w_aload_n (q := 55) d_Model_cover_54 rfl rfl ?_
  refine w_get (q := 58) (ci := 12) (j := 26) d_Model_cover_55 rfl (by decide) fl_Model_121 (by decide) (by decide) s_54 rfl rfl ?_
  by_cases c5 : (m0 54 26) ≤ s.2
  · rw [if_pos c5] at h
    refine w_icmp_ge_t (q := 99) d_Model_cover_58 rfl c5 ?_
    cases h
    exact w_ls (by exact (And.intro rfl (And.intro rfl (And.intro rfl (And.intro rfl (And.intro rfl trivial)))))) hr
  · rw [if_neg c5] at h
    refine w_icmp_ge_f (q := 61) d_Model_cover_58 99 rfl rfl c5 ?_
    refine w_iload (q := 63) d_Model_cover_61 rfl rfl ?_
    by_cases c6 : s.1 = 0
    · rw [if_pos c6] at h
      refine w_if_eq_t (q := 99) d_Model_cover_63 rfl c6 ?_
      cases h
      exact w_ls (by exact (And.intro rfl (And.intro rfl (And.intro rfl (And.intro rfl (And.intro rfl trivial)))))) hr
    · rw [if_neg c6] at h
      refine w_if_eq_f (q := 66) d_Model_cover_63 99 rfl rfl c6 ?_
      refine w_iload_n (q := 67) d_Model_cover_66 rfl rfl ?_
      refine w_iload (q := 69) d_Model_cover_67 rfl rfl ?_
      obtain ⟨v7, hv, h⟩ := bnd h
      refine w_callSi (q := 72) (M' := M_Model_isOf) (n' := 0) (As := [.int k2, .int s.2]) (sh' := SH) (b1 := (0, 0)) d_Model_cover_69 rfl mw_Model_isOf (by decide) (by decide) ml_Model_308 rfl rfl (leb rfl) (bz _) (fun _ => rfl) (ok_Model_isOf hv) ?_
      by_cases c8 : v7 = 0
      · rw [if_pos c8] at h
        refine w_if_eq_t (q := 86) d_Model_cover_72 rfl c8 ?_
        refine w_iconst (q := 87) (v := 1) d_Model_cover_86 rfl (by decide) ?_
        refine w_goto (q := 91) d_Model_cover_87 rfl ?_
        refine w_istore (q := 93) (ls' := [some (.ref 54), some (.int k1), some (.int k2), some (.int k3), some (.int 1), some (.int s.2)]) d_Model_cover_91 rfl (by decide) rfl rfl ?_
        refine w_iinc (q := 96) (ls' := [some (.ref 54), some (.int k1), some (.int k2), some (.int k3), some (.int 1), some (.int (s.2 + 1))]) d_Model_cover_93 rfl (by decide) rfl rfl rfl ?_
        refine w_goto (q := 52) d_Model_cover_96 rfl ?_
        cases h
        exact w_ls (by exact (And.intro rfl (And.intro rfl (And.intro rfl (And.intro rfl (And.intro rfl (And.intro rfl trivial))))))) hr
      · rw [if_neg c8] at h
        refine w_if_eq_f (q := 75) d_Model_cover_72 86 rfl rfl c8 ?_
        refine w_aload_n (q := 76) d_Model_cover_75 rfl rfl ?_
        refine w_iload (q := 78) d_Model_cover_76 rfl rfl ?_
        obtain ⟨v9, hv, h⟩ := bnd h
        refine w_callVi (q := 81) (M' := M_Model_holdersOf) (n' := 2) (k := 54) (As := [.int s.2]) (sh' := SH) (b1 := (0, 0)) d_Model_cover_78 rfl mw_Model_holdersOf (by decide) (by decide) ml_Model_346 (by decide) s_54 (by decide) rfl rfl rfl (leb rfl) (bz _) (fun _ => rfl) (ok_Model_holdersOf hv) ?_
        refine w_iload_n (q := 82) d_Model_cover_81 rfl rfl ?_
        refine w_iand (q := 83) d_Model_cover_82 rfl ?_
        by_cases c10 : (v9 &&& k3) = 0
        · rw [if_pos c10] at h
          refine w_if_eq_t (q := 90) d_Model_cover_83 rfl c10 ?_
          refine w_iconst (q := 91) (v := 0) d_Model_cover_90 rfl (by decide) ?_
          refine w_istore (q := 93) (ls' := [some (.ref 54), some (.int k1), some (.int k2), some (.int k3), some (.int 0), some (.int s.2)]) d_Model_cover_91 rfl (by decide) rfl rfl ?_
          refine w_iinc (q := 96) (ls' := [some (.ref 54), some (.int k1), some (.int k2), some (.int k3), some (.int 0), some (.int (s.2 + 1))]) d_Model_cover_93 rfl (by decide) rfl rfl rfl ?_
          refine w_goto (q := 52) d_Model_cover_96 rfl ?_
          cases h
          exact w_ls (by exact (And.intro rfl (And.intro rfl (And.intro rfl (And.intro rfl (And.intro rfl (And.intro rfl trivial))))))) hr
        · rw [if_neg c10] at h
          refine w_if_eq_f (q := 86) d_Model_cover_83 90 rfl rfl c10 ?_
          refine w_iconst (q := 87) (v := 1) d_Model_cover_86 rfl (by decide) ?_
          refine w_goto (q := 91) d_Model_cover_87 rfl ?_
          refine w_istore (q := 93) (ls' := [some (.ref 54), some (.int k1), some (.int k2), some (.int k3), some (.int 1), some (.int s.2)]) d_Model_cover_91 rfl (by decide) rfl rfl ?_
          refine w_iinc (q := 96) (ls' := [some (.ref 54), some (.int k1), some (.int k2), some (.int k3), some (.int 1), some (.int (s.2 + 1))]) d_Model_cover_93 rfl (by decide) rfl rfl rfl ?_
          refine w_goto (q := 52) d_Model_cover_96 rfl ?_
          cases h
          exact w_ls (by exact (And.intro rfl (And.intro rfl (And.intro rfl (And.intro rfl (And.intro rfl (And.intro rfl trivial))))))) hr
def sp_Model_cover_j99_14 (F : Nat) (k2 : Int32) (m0 : Mem) (g : Mem) (m0 : Mem) (x1 : Int32) (x3 : Int32) (x4 : Int32) : Option ((Int32 × Int32) ⊕ ((Int32))) := if x4 = 0 then some (.inl (x1, x3 + 1)) else some (.inl (x3, x3 + 1))
theorem ok_Model_cover_j99_14 {γ : GG} {tt : Bool} {F : Nat} {k2 : Int32} {m0 : Mem} {g : Mem} {m0 : Mem} {x1 : Int32} {x3 : Int32} {x4 : Int32} {b : Nat × Nat} {Φ : PO} {r : (Int32 × Int32) ⊕ ((Int32))} (h : sp_Model_cover_j99_14 F k2 m0 g m0 x1 x3 x4 = some r) (hr : RQ (PL_Model_cover_14 γ tt g k2 m0 b Φ) (QL_Model_cover_14 γ tt g k2 m0 b Φ) r) : WA γ M_Model_cover 3 99 [some (.ref 54), some (.int x1), some (.int k2), some (.int x3), some (.int x4), none] [] SH m0 tt b Φ := by
  unfold sp_Model_cover_j99_14 at h
  refine w_iload (q := 101) d_Model_cover_99 rfl rfl ?_
  by_cases c12 : x4 = 0
  · rw [if_pos c12] at h
    refine w_if_eq_t (q := 106) d_Model_cover_101 rfl c12 ?_
    refine w_iinc (q := 109) (ls' := [some (.ref 54), some (.int x1), some (.int k2), some (.int (x3 + 1)), some (.int x4), none]) d_Model_cover_106 rfl (by decide) rfl rfl rfl ?_
    refine w_goto (q := 14) d_Model_cover_109 rfl ?_
    cases h
    exact w_ls (by exact (And.intro rfl (And.intro rfl (And.intro rfl (And.intro rfl trivial))))) hr
  · rw [if_neg c12] at h
    refine w_if_eq_f (q := 104) d_Model_cover_101 106 rfl rfl c12 ?_
    refine w_iload_n (q := 105) d_Model_cover_104 rfl rfl ?_
    refine w_istore_n (q := 106) (ls' := [some (.ref 54), some (.int x3), some (.int k2), some (.int x3), some (.int x4), none]) d_Model_cover_105 rfl (by decide) rfl rfl ?_
    refine w_iinc (q := 109) (ls' := [some (.ref 54), some (.int x3), some (.int k2), some (.int (x3 + 1)), some (.int x4), none]) d_Model_cover_106 rfl (by decide) rfl rfl rfl ?_
    refine w_goto (q := 14) d_Model_cover_109 rfl ?_
    cases h
    exact w_ls (by exact (And.intro rfl (And.intro rfl (And.intro rfl (And.intro rfl trivial))))) hr
def sp_Model_cover_j47_14 (F : Nat) (k2 : Int32) (m0 : Mem) (g : Mem) (m0 : Mem) (x1 : Int32) (x3 : Int32) (y0 : Int32) : Option ((Int32 × Int32) ⊕ ((Int32))) := (lpO (st_Model_cover_52 F g x1 k2 x3 m0) F (y0, 0)).bind fun x11 => sp_Model_cover_j99_14 F k2 m0 g m0 x1 x3 x11
theorem ok_Model_cover_j47_14 {γ : GG} {tt : Bool} {F : Nat} {k2 : Int32} {m0 : Mem} {g : Mem} {m0 : Mem} {x1 : Int32} {x3 : Int32} {y0 : Int32} {b : Nat × Nat} {Φ : PO} {r : (Int32 × Int32) ⊕ ((Int32))} (h : sp_Model_cover_j47_14 F k2 m0 g m0 x1 x3 y0 = some r) (hr : RQ (PL_Model_cover_14 γ tt g k2 m0 b Φ) (QL_Model_cover_14 γ tt g k2 m0 b Φ) r) : WA γ M_Model_cover 3 47 [some (.ref 54), some (.int x1), some (.int k2), some (.int x3), none, none] [.int y0] SH m0 tt b Φ := by
  unfold sp_Model_cover_j47_14 at h
  refine w_istore (q := 49) (ls' := [some (.ref 54), some (.int x1), some (.int k2), some (.int x3), some (.int y0), none]) d_Model_cover_47 rfl (by decide) rfl rfl ?_
  refine w_iconst (q := 50) (v := 0) d_Model_cover_49 rfl (by decide) ?_
  refine w_istore (q := 52) (ls' := [some (.ref 54), some (.int x1), some (.int k2), some (.int x3), some (.int y0), some (.int 0)]) d_Model_cover_50 rfl (by decide) rfl rfl ?_
  obtain ⟨x11, hx, h⟩ := bnd h
  refine w_ls (ls' := [some (.ref 54), some (.int x1), some (.int k2), some (.int x3), some (.int y0), some (.int 0)]) (And.intro rfl (And.intro rfl (And.intro rfl (And.intro rfl (And.intro rfl (And.intro rfl trivial)))))) ?_
  show PL_Model_cover_52 γ tt g x1 k2 x3 m0 _ _ (y0, 0)
  refine lp_ok (kl_Model_cover_52) F _ x11 hx ?_
  unfold QL_Model_cover_52
  refine w_ls (ls' := [some (.ref 54), some (.int x1), some (.int k2), some (.int x3), some (.int x11), none]) (And.intro rfl (And.intro rfl (And.intro rfl (And.intro rfl (And.intro rfl trivial))))) ?_
  exact ok_Model_cover_j99_14 h hr
def sp_Model_cover_j42_14 (F : Nat) (k2 : Int32) (m0 : Mem) (g : Mem) (m0 : Mem) (x1 : Int32) (x3 : Int32) : Option ((Int32 × Int32) ⊕ ((Int32))) := sp_Model_cover_j47_14 F k2 m0 g m0 x1 x3 1
theorem ok_Model_cover_j42_14 {γ : GG} {tt : Bool} {F : Nat} {k2 : Int32} {m0 : Mem} {g : Mem} {m0 : Mem} {x1 : Int32} {x3 : Int32} {b : Nat × Nat} {Φ : PO} {r : (Int32 × Int32) ⊕ ((Int32))} (h : sp_Model_cover_j42_14 F k2 m0 g m0 x1 x3 = some r) (hr : RQ (PL_Model_cover_14 γ tt g k2 m0 b Φ) (QL_Model_cover_14 γ tt g k2 m0 b Φ) r) : WA γ M_Model_cover 3 42 [some (.ref 54), some (.int x1), some (.int k2), some (.int x3), none, none] [] SH m0 tt b Φ := by
  unfold sp_Model_cover_j42_14 at h
  refine w_iconst (q := 43) (v := 1) d_Model_cover_42 rfl (by decide) ?_
  refine w_goto (q := 47) d_Model_cover_43 rfl ?_
  refine w_ls (ls' := [some (.ref 54), some (.int x1), some (.int k2), some (.int x3), none, none]) (And.intro rfl (And.intro rfl (And.intro rfl (And.intro rfl trivial)))) ?_
  exact ok_Model_cover_j47_14 h hr
def st_Model_cover_14 (F : Nat) (g : Mem) (k2 : Int32) (m0 : Mem) (s : Int32 × Int32) : Option ((Int32 × Int32) ⊕ ((Int32))) := (rd m0 58 12 0).bind fun v2 => if (1 <<< (v2 &&& 31)) ≤ s.2 then some (.inr s.1) else if s.1 = (-1) then sp_Model_cover_j42_14 F k2 m0 g m0 s.1 s.2 else (sp_Model_bitsOf F s.2 m0).bind fun v13 => (sp_Model_bitsOf F s.1 m0).bind fun v14 => if v14 ≤ v13 then sp_Model_cover_j47_14 F k2 m0 g m0 s.1 s.2 0 else sp_Model_cover_j42_14 F k2 m0 g m0 s.1 s.2
theorem kl_Model_cover_14 {γ : GG} {tt : Bool} {F : Nat} {g : Mem} {k2 : Int32} {m0 : Mem} {b : Nat × Nat} {Φ : PO} : ∀ (s : Int32 × Int32) (r : (Int32 × Int32) ⊕ ((Int32))), st_Model_cover_14 F g k2 m0 s = some r → RQ (PL_Model_cover_14 γ tt g k2 m0 b Φ) (QL_Model_cover_14 γ tt g k2 m0 b Φ) r → PL_Model_cover_14 γ tt g k2 m0 b Φ s := by
  intro s r h hr
  unfold st_Model_cover_14 at h
  unfold PL_Model_cover_14
  refine w_iload_n (q := 15) d_Model_cover_14 rfl rfl ?_
  refine w_iconst (q := 16) (v := 1) d_Model_cover_15 rfl (by decide) ?_
  refine w_aload_n (q := 17) d_Model_cover_16 rfl rfl ?_
  refine w_get (q := 20) (ci := 12) (j := 4) d_Model_cover_17 rfl (by decide) fl_Model_51 (by decide) (by decide) s_54 rfl rfl ?_
  refine w_iconst (q := 21) (v := 0) d_Model_cover_20 rfl (by decide) ?_
  obtain ⟨v2, hv, h⟩ := bnd h
  obtain ⟨hi, hv⟩ := rd_ok hv
  refine w_iald (q := 22) (t := 0) d_Model_cover_21 rfl a_58.2 a_58.1 hi rfl ?_
  rw [hv]
  refine w_ishl (q := 23) d_Model_cover_22 rfl ?_
  by_cases c3 : (1 <<< (v2 &&& 31)) ≤ s.2
  · rw [if_pos c3] at h
    refine w_icmp_ge_t (q := 112) d_Model_cover_23 rfl c3 ?_
    cases h
    exact w_ls (by exact (And.intro rfl trivial)) hr
  · rw [if_neg c3] at h
    refine w_icmp_ge_f (q := 26) d_Model_cover_23 112 rfl rfl c3 ?_
    refine w_iload_n (q := 27) d_Model_cover_26 rfl rfl ?_
    refine w_iconst (q := 28) (v := (-1)) d_Model_cover_27 rfl (by decide) ?_
    by_cases c4 : s.1 = (-1)
    · rw [if_pos c4] at h
      refine w_icmp_eq_t (q := 42) d_Model_cover_28 rfl c4 ?_
      refine w_ls (ls' := [some (.ref 54), some (.int s.1), some (.int k2), some (.int s.2), none, none]) (And.intro rfl (And.intro rfl (And.intro rfl (And.intro rfl trivial)))) ?_
      exact ok_Model_cover_j42_14 h hr
    · rw [if_neg c4] at h
      refine w_icmp_eq_f (q := 31) d_Model_cover_28 42 rfl rfl c4 ?_
      refine w_iload_n (q := 32) d_Model_cover_31 rfl rfl ?_
      obtain ⟨v13, hv, h⟩ := bnd h
      refine w_callSi (q := 35) (M' := M_Model_bitsOf) (n' := 0) (As := [.int s.2]) (sh' := SH) (b1 := (0, 0)) d_Model_cover_32 rfl mw_Model_bitsOf (by decide) (by decide) ml_Model_332 rfl rfl (leb rfl) (bz _) (fun _ => rfl) (ok_Model_bitsOf hv) ?_
      refine w_iload_n (q := 36) d_Model_cover_35 rfl rfl ?_
      obtain ⟨v14, hv, h⟩ := bnd h
      refine w_callSi (q := 39) (M' := M_Model_bitsOf) (n' := 0) (As := [.int s.1]) (sh' := SH) (b1 := (0, 0)) d_Model_cover_36 rfl mw_Model_bitsOf (by decide) (by decide) ml_Model_332 rfl rfl (leb rfl) (bz _) (fun _ => rfl) (ok_Model_bitsOf hv) ?_
      by_cases c15 : v14 ≤ v13
      · rw [if_pos c15] at h
        refine w_icmp_ge_t (q := 46) d_Model_cover_39 rfl c15 ?_
        refine w_iconst (q := 47) (v := 0) d_Model_cover_46 rfl (by decide) ?_
        refine w_ls (ls' := [some (.ref 54), some (.int s.1), some (.int k2), some (.int s.2), none, none]) (And.intro rfl (And.intro rfl (And.intro rfl (And.intro rfl trivial)))) ?_
        exact ok_Model_cover_j47_14 h hr
      · rw [if_neg c15] at h
        refine w_icmp_ge_f (q := 42) d_Model_cover_39 46 rfl rfl c15 ?_
        refine w_ls (ls' := [some (.ref 54), some (.int s.1), some (.int k2), some (.int s.2), none, none]) (And.intro rfl (And.intro rfl (And.intro rfl (And.intro rfl trivial)))) ?_
        exact ok_Model_cover_j42_14 h hr
def sp_Model_cover (F : Nat) (g : Mem) : Option (Int32 × Mem) := (sp_Model_records F (mset g 54 3 0)).bind fun v1 => (lpO (st_Model_cover_14 F g v1 (mset g 54 3 0)) F ((-1), 0)).bind fun x16 => some (x16, (mset g 54 3 0))
theorem ok_Model_cover {γ : GG} {tt : Bool} {F : Nat} {g : Mem} {res : Int32 × Mem} (h : sp_Model_cover F g = some res) : CA γ M_Model_cover 3 [.ref 54] SH g tt (0, 0) (pI SH res.1 res.2 tt) := by
  refine CA.of mw_Model_cover.1 5 rfl ?_
  show WA γ M_Model_cover 3 0 [some (.ref 54), none, none, none, none, none] [] SH g tt (0, 0) (pI SH res.1 res.2 tt)
  unfold sp_Model_cover at h
  refine w_aload_n (q := 1) d_Model_cover_0 rfl rfl ?_
  refine w_iconst (q := 2) (v := 0) d_Model_cover_1 rfl (by decide) ?_
  refine w_put (q := 5) (ci := 12) (j := 3) d_Model_cover_2 rfl (by decide) fl_Model_114 (by decide) (by decide) s_54 rfl rfl rfl rfl rfl rfl ?_
  refine w_iconst (q := 6) (v := (-1)) d_Model_cover_5 rfl (by decide) ?_
  refine w_istore_n (q := 7) (ls' := [some (.ref 54), some (.int ((-1))), none, none, none, none]) d_Model_cover_6 rfl (by decide) rfl rfl ?_
  refine w_aload_n (q := 8) d_Model_cover_7 rfl rfl ?_
  obtain ⟨v1, hv, h⟩ := bnd h
  refine w_callVi (q := 11) (M' := M_Model_records) (n' := 2) (k := 54) (As := []) (sh' := SH) (b1 := (0, 0)) d_Model_cover_8 rfl mw_Model_records (by decide) (by decide) ml_Model_329 (by decide) s_54 (by decide) rfl rfl rfl (leb rfl) (bz _) (fun _ => rfl) (ok_Model_records hv) ?_
  refine w_istore_n (q := 12) (ls' := [some (.ref 54), some (.int ((-1))), some (.int v1), none, none, none]) d_Model_cover_11 rfl (by decide) rfl rfl ?_
  refine w_iconst (q := 13) (v := 0) d_Model_cover_12 rfl (by decide) ?_
  refine w_istore_n (q := 14) (ls' := [some (.ref 54), some (.int ((-1))), some (.int v1), some (.int 0), none, none]) d_Model_cover_13 rfl (by decide) rfl rfl ?_
  obtain ⟨x16, hx, h⟩ := bnd h
  refine w_ls (ls' := [some (.ref 54), some (.int ((-1))), some (.int v1), some (.int 0), none, none]) (And.intro rfl (And.intro rfl (And.intro rfl (And.intro rfl trivial)))) ?_
  show PL_Model_cover_14 γ tt g v1 (mset g 54 3 0) _ _ ((-1), 0)
  refine lp_ok (kl_Model_cover_14) F _ x16 hx ?_
  unfold QL_Model_cover_14
  refine w_iload_n (q := 113) d_Model_cover_112 rfl rfl ?_
  cases h
  exact w_ireturn d_Model_cover_113 rfl rfl ⟨rfl, rfl, rfl, rfl⟩
def PL_Model_alone_9 (γ : GG) (tt : Bool) (g : Mem) (m0 : Mem) (b : Nat × Nat) (Φ : PO) (s : Int32 × Int32) : Prop := WA γ M_Model_alone 3 9 [some (.ref 54), some (.int s.1), some (.int s.2)] [] SH m0 tt b Φ
def QL_Model_alone_9 (γ : GG) (tt : Bool) (g : Mem) (m0 : Mem) (b : Nat × Nat) (Φ : PO) (x : (Int32)) : Prop := WA γ M_Model_alone 3 43 [none, some (.int x), none] [] SH m0 tt b Φ
def st_Model_alone_9 (F : Nat) (g : Mem) (m0 : Mem) (s : Int32 × Int32) : Option ((Int32 × Int32) ⊕ ((Int32))) := if (m0 54 26) ≤ s.2 then some (.inr s.1) else (sp_Model_holdersOf F s.2 m0).bind fun v2 => (sp_Model_bitsOf F v2 m0).bind fun v3 => if v3 = 1 then some (.inl (s.1 + 1, s.2 + 1)) else some (.inl (s.1 + 0, s.2 + 1))
theorem kl_Model_alone_9 {γ : GG} {tt : Bool} {F : Nat} {g : Mem} {m0 : Mem} {b : Nat × Nat} {Φ : PO} : ∀ (s : Int32 × Int32) (r : (Int32 × Int32) ⊕ ((Int32))), st_Model_alone_9 F g m0 s = some r → RQ (PL_Model_alone_9 γ tt g m0 b Φ) (QL_Model_alone_9 γ tt g m0 b Φ) r → PL_Model_alone_9 γ tt g m0 b Φ s := by
  intro s r h hr
  unfold st_Model_alone_9 at h
  unfold PL_Model_alone_9
  refine w_iload_n (q := 10) d_Model_alone_9 rfl rfl ?_
  refine w_aload_n (q := 11) d_Model_alone_10 rfl rfl ?_
  refine w_get (q := 14) (ci := 12) (j := 26) d_Model_alone_11 rfl (by decide) fl_Model_121 (by decide) (by decide) s_54 rfl rfl ?_
  by_cases c1 : (m0 54 26) ≤ s.2
  · rw [if_pos c1] at h
    refine w_icmp_ge_t (q := 43) d_Model_alone_14 rfl c1 ?_
    cases h
    exact w_ls (by exact (And.intro rfl trivial)) hr
  · rw [if_neg c1] at h
    refine w_icmp_ge_f (q := 17) d_Model_alone_14 43 rfl rfl c1 ?_
    refine w_iload_n (q := 18) d_Model_alone_17 rfl rfl ?_
    refine w_aload_n (q := 19) d_Model_alone_18 rfl rfl ?_
    refine w_iload_n (q := 20) d_Model_alone_19 rfl rfl ?_
    obtain ⟨v2, hv, h⟩ := bnd h
    refine w_callVi (q := 23) (M' := M_Model_holdersOf) (n' := 2) (k := 54) (As := [.int s.2]) (sh' := SH) (b1 := (0, 0)) d_Model_alone_20 rfl mw_Model_holdersOf (by decide) (by decide) ml_Model_346 (by decide) s_54 (by decide) rfl rfl rfl (leb rfl) (bz _) (fun _ => rfl) (ok_Model_holdersOf hv) ?_
    obtain ⟨v3, hv, h⟩ := bnd h
    refine w_callSi (q := 26) (M' := M_Model_bitsOf) (n' := 0) (As := [.int v2]) (sh' := SH) (b1 := (0, 0)) d_Model_alone_23 rfl mw_Model_bitsOf (by decide) (by decide) ml_Model_332 rfl rfl (leb rfl) (bz _) (fun _ => rfl) (ok_Model_bitsOf hv) ?_
    refine w_iconst (q := 27) (v := 1) d_Model_alone_26 rfl (by decide) ?_
    by_cases c4 : v3 = 1
    · rw [if_pos c4] at h
      refine w_icmp_ne_f (q := 30) d_Model_alone_27 34 rfl rfl c4 ?_
      refine w_iconst (q := 31) (v := 1) d_Model_alone_30 rfl (by decide) ?_
      refine w_goto (q := 35) d_Model_alone_31 rfl ?_
      refine w_iadd (q := 36) d_Model_alone_35 rfl ?_
      refine w_istore_n (q := 37) (ls' := [some (.ref 54), some (.int (s.1 + 1)), some (.int s.2)]) d_Model_alone_36 rfl (by decide) rfl rfl ?_
      refine w_iinc (q := 40) (ls' := [some (.ref 54), some (.int (s.1 + 1)), some (.int (s.2 + 1))]) d_Model_alone_37 rfl (by decide) rfl rfl rfl ?_
      refine w_goto (q := 9) d_Model_alone_40 rfl ?_
      cases h
      exact w_ls (by exact (And.intro rfl (And.intro rfl (And.intro rfl trivial)))) hr
    · rw [if_neg c4] at h
      refine w_icmp_ne_t (q := 34) d_Model_alone_27 rfl c4 ?_
      refine w_iconst (q := 35) (v := 0) d_Model_alone_34 rfl (by decide) ?_
      refine w_iadd (q := 36) d_Model_alone_35 rfl ?_
      refine w_istore_n (q := 37) (ls' := [some (.ref 54), some (.int (s.1 + 0)), some (.int s.2)]) d_Model_alone_36 rfl (by decide) rfl rfl ?_
      refine w_iinc (q := 40) (ls' := [some (.ref 54), some (.int (s.1 + 0)), some (.int (s.2 + 1))]) d_Model_alone_37 rfl (by decide) rfl rfl rfl ?_
      refine w_goto (q := 9) d_Model_alone_40 rfl ?_
      cases h
      exact w_ls (by exact (And.intro rfl (And.intro rfl (And.intro rfl trivial)))) hr
def sp_Model_alone (F : Nat) (g : Mem) : Option (Int32 × Mem) := (lpO (st_Model_alone_9 F g (mset g 54 3 0)) F (0, 0)).bind fun x5 => some (x5, (mset g 54 3 0))
theorem ok_Model_alone {γ : GG} {tt : Bool} {F : Nat} {g : Mem} {res : Int32 × Mem} (h : sp_Model_alone F g = some res) : CA γ M_Model_alone 3 [.ref 54] SH g tt (0, 0) (pI SH res.1 res.2 tt) := by
  refine CA.of mw_Model_alone.1 2 rfl ?_
  show WA γ M_Model_alone 3 0 [some (.ref 54), none, none] [] SH g tt (0, 0) (pI SH res.1 res.2 tt)
  unfold sp_Model_alone at h
  refine w_aload_n (q := 1) d_Model_alone_0 rfl rfl ?_
  refine w_iconst (q := 2) (v := 0) d_Model_alone_1 rfl (by decide) ?_
  refine w_put (q := 5) (ci := 12) (j := 3) d_Model_alone_2 rfl (by decide) fl_Model_114 (by decide) (by decide) s_54 rfl rfl rfl rfl rfl rfl ?_
  refine w_iconst (q := 6) (v := 0) d_Model_alone_5 rfl (by decide) ?_
  refine w_istore_n (q := 7) (ls' := [some (.ref 54), some (.int 0), none]) d_Model_alone_6 rfl (by decide) rfl rfl ?_
  refine w_iconst (q := 8) (v := 0) d_Model_alone_7 rfl (by decide) ?_
  refine w_istore_n (q := 9) (ls' := [some (.ref 54), some (.int 0), some (.int 0)]) d_Model_alone_8 rfl (by decide) rfl rfl ?_
  obtain ⟨x5, hx, h⟩ := bnd h
  refine w_ls (ls' := [some (.ref 54), some (.int 0), some (.int 0)]) (And.intro rfl (And.intro rfl (And.intro rfl trivial))) ?_
  show PL_Model_alone_9 γ tt g (mset g 54 3 0) _ _ (0, 0)
  refine lp_ok (kl_Model_alone_9) F _ x5 hx ?_
  unfold QL_Model_alone_9
  refine w_iload_n (q := 44) d_Model_alone_43 rfl rfl ?_
  cases h
  exact w_ireturn d_Model_alone_44 rfl rfl ⟨rfl, rfl, rfl, rfl⟩
def sp_Model_shaveNow (F : Nat) (p0 : Int32) (p1 : Int32) (g : Mem) : Option (Mem) := (rd g 61 12 p0).bind fun v1 => if p1 < v1 then (wr g 61 12 p0 p1).bind fun g3 => (sp_Model_loseFar F g3).bind fun v4 => some v4.2 else some g
theorem ok_Model_shaveNow {γ : GG} {tt : Bool} {F : Nat} {p0 : Int32} {p1 : Int32} {g : Mem} {res : Mem} (h : sp_Model_shaveNow F p0 p1 g = some res) : CA γ M_Model_shaveNow 4 [.ref 54, .int p0, .int p1] SH g tt (0, 0) (pV SH res tt) := by
  refine CA.of mw_Model_shaveNow.1 0 rfl ?_
  show WA γ M_Model_shaveNow 4 0 [some (.ref 54), some (.int p0), some (.int p1)] [] SH g tt (0, 0) (pV SH res tt)
  unfold sp_Model_shaveNow at h
  refine w_iload_n (q := 1) d_Model_shaveNow_0 rfl rfl ?_
  refine w_aload_n (q := 2) d_Model_shaveNow_1 rfl rfl ?_
  refine w_get (q := 5) (ci := 12) (j := 7) d_Model_shaveNow_2 rfl (by decide) fl_Model_59 (by decide) (by decide) s_54 rfl rfl ?_
  refine w_iload_n (q := 6) d_Model_shaveNow_5 rfl rfl ?_
  obtain ⟨v1, hv, h⟩ := bnd h
  obtain ⟨hi, hv⟩ := rd_ok hv
  refine w_iald (q := 7) (t := 0) d_Model_shaveNow_6 rfl a_61.2 a_61.1 hi rfl ?_
  rw [hv]
  by_cases c2 : p1 < v1
  · rw [if_pos c2] at h
    refine w_icmp_lt_t (q := 11) d_Model_shaveNow_7 rfl c2 ?_
    refine w_aload_n (q := 12) d_Model_shaveNow_11 rfl rfl ?_
    refine w_get (q := 15) (ci := 12) (j := 7) d_Model_shaveNow_12 rfl (by decide) fl_Model_59 (by decide) (by decide) s_54 rfl rfl ?_
    refine w_iload_n (q := 16) d_Model_shaveNow_15 rfl rfl ?_
    refine w_iload_n (q := 17) d_Model_shaveNow_16 rfl rfl ?_
    obtain ⟨g3, hv, h⟩ := bnd h
    obtain ⟨hi, hv⟩ := wr_ok hv
    refine w_iast (q := 18) d_Model_shaveNow_17 rfl a_61.2 a_61.1 hi hv ?_
    refine w_aload_n (q := 19) d_Model_shaveNow_18 rfl rfl ?_
    obtain ⟨v4, hv, h⟩ := bnd h
    refine w_callVi (q := 22) (M' := M_Model_loseFar) (n' := 3) (k := 54) (As := []) (sh' := SH) (b1 := (0, 0)) d_Model_shaveNow_19 rfl mw_Model_loseFar (by decide) (by decide) ml_Model_292 (by decide) s_54 (by decide) rfl rfl rfl (leb rfl) (bz _) (fun _ => rfl) (ok_Model_loseFar hv) ?_
    refine w_pop (q := 23) d_Model_shaveNow_22 rfl rfl ?_
    cases h
    exact w_return d_Model_shaveNow_23 rfl ⟨rfl, rfl, rfl, rfl⟩
  · rw [if_neg c2] at h
    refine w_icmp_lt_f (q := 10) d_Model_shaveNow_7 11 rfl rfl c2 ?_
    cases h
    exact w_return d_Model_shaveNow_10 rfl ⟨rfl, rfl, rfl, rfl⟩
def PL_Model_lostByRazors_16 (γ : GG) (tt : Bool) (p0 : Int32) (g : Mem) (k1 : Int32) (k2 : Int32) (b : Nat × Nat) (Φ : PO) (s : Int32 × Mem) : Prop := WA γ M_Model_lostByRazors 5 16 [some (.ref 54), some (.int k1), some (.int k2), some (.int s.1)] [] SH s.2 tt b Φ
def QL_Model_lostByRazors_16 (γ : GG) (tt : Bool) (p0 : Int32) (g : Mem) (k1 : Int32) (k2 : Int32) (b : Nat × Nat) (Φ : PO) (x : (Mem)) : Prop := WA γ M_Model_lostByRazors 5 46 [some (.ref 54), none, some (.int k2), none] [] SH x tt b Φ
def st_Model_lostByRazors_16 (F : Nat) (p0 : Int32) (g : Mem) (k1 : Int32) (k2 : Int32) (s : Int32 × Mem) : Option ((Int32 × Mem) ⊕ ((Mem))) := (rd s.2 58 12 0).bind fun v3 => if v3 ≤ s.1 then some (.inr s.2) else (sp_Model_isOf k1 s.1 s.2).bind fun v5 => if v5 = 0 then some (.inl (s.1 + 1, s.2)) else (sp_Model_shaveNow F s.1 0 s.2).bind fun v7 => some (.inl (s.1 + 1, v7))
theorem kl_Model_lostByRazors_16 {γ : GG} {tt : Bool} {F : Nat} {p0 : Int32} {g : Mem} {k1 : Int32} {k2 : Int32} {b : Nat × Nat} {Φ : PO} : ∀ (s : Int32 × Mem) (r : (Int32 × Mem) ⊕ ((Mem))), st_Model_lostByRazors_16 F p0 g k1 k2 s = some r → RQ (PL_Model_lostByRazors_16 γ tt p0 g k1 k2 b Φ) (QL_Model_lostByRazors_16 γ tt p0 g k1 k2 b Φ) r → PL_Model_lostByRazors_16 γ tt p0 g k1 k2 b Φ s := by
  intro s r h hr
  unfold st_Model_lostByRazors_16 at h
  unfold PL_Model_lostByRazors_16
  refine w_iload_n (q := 17) d_Model_lostByRazors_16 rfl rfl ?_
  refine w_aload_n (q := 18) d_Model_lostByRazors_17 rfl rfl ?_
  refine w_get (q := 21) (ci := 12) (j := 4) d_Model_lostByRazors_18 rfl (by decide) fl_Model_51 (by decide) (by decide) s_54 rfl rfl ?_
  refine w_iconst (q := 22) (v := 0) d_Model_lostByRazors_21 rfl (by decide) ?_
  obtain ⟨v3, hv, h⟩ := bnd h
  obtain ⟨hi, hv⟩ := rd_ok hv
  refine w_iald (q := 23) (t := 0) d_Model_lostByRazors_22 rfl a_58.2 a_58.1 hi rfl ?_
  rw [hv]
  by_cases c4 : v3 ≤ s.1
  · rw [if_pos c4] at h
    refine w_icmp_ge_t (q := 46) d_Model_lostByRazors_23 rfl c4 ?_
    cases h
    exact w_ls (by exact (And.intro rfl (And.intro rfl trivial))) hr
  · rw [if_neg c4] at h
    refine w_icmp_ge_f (q := 26) d_Model_lostByRazors_23 46 rfl rfl c4 ?_
    refine w_iload_n (q := 27) d_Model_lostByRazors_26 rfl rfl ?_
    refine w_iload_n (q := 28) d_Model_lostByRazors_27 rfl rfl ?_
    obtain ⟨v5, hv, h⟩ := bnd h
    refine w_callSi (q := 31) (M' := M_Model_isOf) (n' := 0) (As := [.int k1, .int s.1]) (sh' := SH) (b1 := (0, 0)) d_Model_lostByRazors_28 rfl mw_Model_isOf (by decide) (by decide) ml_Model_308 rfl rfl (leb rfl) (bz _) (fun _ => rfl) (ok_Model_isOf hv) ?_
    by_cases c6 : v5 = 0
    · rw [if_pos c6] at h
      refine w_if_eq_t (q := 40) d_Model_lostByRazors_31 rfl c6 ?_
      refine w_iinc (q := 43) (ls' := [some (.ref 54), some (.int k1), some (.int k2), some (.int (s.1 + 1))]) d_Model_lostByRazors_40 rfl (by decide) rfl rfl rfl ?_
      refine w_goto (q := 16) d_Model_lostByRazors_43 rfl ?_
      cases h
      exact w_ls (by exact (And.intro rfl (And.intro rfl (And.intro rfl (And.intro rfl trivial))))) hr
    · rw [if_neg c6] at h
      refine w_if_eq_f (q := 34) d_Model_lostByRazors_31 40 rfl rfl c6 ?_
      refine w_aload_n (q := 35) d_Model_lostByRazors_34 rfl rfl ?_
      refine w_iload_n (q := 36) d_Model_lostByRazors_35 rfl rfl ?_
      refine w_iconst (q := 37) (v := 0) d_Model_lostByRazors_36 rfl (by decide) ?_
      obtain ⟨v7, hv, h⟩ := bnd h
      refine w_callVv (q := 40) (M' := M_Model_shaveNow) (n' := 4) (k := 54) (As := [.int s.1, .int 0]) (sh' := SH) (b1 := (0, 0)) d_Model_lostByRazors_37 rfl mw_Model_shaveNow (by decide) (by decide) ml_Model_406 (by decide) s_54 (by decide) rfl rfl rfl (leb rfl) (bz _) (fun _ => rfl) (ok_Model_shaveNow hv) ?_
      refine w_iinc (q := 43) (ls' := [some (.ref 54), some (.int k1), some (.int k2), some (.int (s.1 + 1))]) d_Model_lostByRazors_40 rfl (by decide) rfl rfl rfl ?_
      refine w_goto (q := 16) d_Model_lostByRazors_43 rfl ?_
      cases h
      exact w_ls (by exact (And.intro rfl (And.intro rfl (And.intro rfl (And.intro rfl trivial))))) hr
def sp_Model_lostByRazors (F : Nat) (p0 : Int32) (g : Mem) : Option (Int32 × Mem) := (sp_Model_records F g).bind fun v1 => (sp_Model_pack F 70 231 0 g).bind fun v2 => (lpO (st_Model_lostByRazors_16 F p0 g p0 v1) F (0, v2)).bind fun x8 => (sp_Model_records F x8).bind fun v9 => (sp_Model_unpack F 70 231 0 x8).bind fun v10 => some (v1 &&& (v9 ^^^ (-1)), v10)
theorem ok_Model_lostByRazors {γ : GG} {tt : Bool} {F : Nat} {p0 : Int32} {g : Mem} {res : Int32 × Mem} (h : sp_Model_lostByRazors F p0 g = some res) : CA γ M_Model_lostByRazors 5 [.ref 54, .int p0] SH g tt (0, 0) (pI SH res.1 res.2 tt) := by
  refine CA.of mw_Model_lostByRazors.1 2 rfl ?_
  show WA γ M_Model_lostByRazors 5 0 [some (.ref 54), some (.int p0), none, none] [] SH g tt (0, 0) (pI SH res.1 res.2 tt)
  unfold sp_Model_lostByRazors at h
  refine w_aload_n (q := 1) d_Model_lostByRazors_0 rfl rfl ?_
  obtain ⟨v1, hv, h⟩ := bnd h
  refine w_callVi (q := 4) (M' := M_Model_records) (n' := 2) (k := 54) (As := []) (sh' := SH) (b1 := (0, 0)) d_Model_lostByRazors_1 rfl mw_Model_records (by decide) (by decide) ml_Model_329 (by decide) s_54 (by decide) rfl rfl rfl (leb rfl) (bz _) (fun _ => rfl) (ok_Model_records hv) ?_
  refine w_istore_n (q := 5) (ls' := [some (.ref 54), some (.int p0), some (.int v1), none]) d_Model_lostByRazors_4 rfl (by decide) rfl rfl ?_
  refine w_aload_n (q := 6) d_Model_lostByRazors_5 rfl rfl ?_
  refine w_aload_n (q := 7) d_Model_lostByRazors_6 rfl rfl ?_
  refine w_get (q := 10) (ci := 12) (j := 31) d_Model_lostByRazors_7 rfl (by decide) fl_Model_90 (by decide) (by decide) s_54 rfl rfl ?_
  refine w_iconst (q := 11) (v := 0) d_Model_lostByRazors_10 rfl (by decide) ?_
  obtain ⟨v2, hv, h⟩ := bnd h
  refine w_callVv (q := 14) (M' := M_Model_pack) (n' := 0) (k := 54) (As := [.ref 70, .int 0]) (sh' := SH) (b1 := (0, 0)) d_Model_lostByRazors_11 rfl mw_Model_pack (by decide) (by decide) ml_Model_359 (by decide) s_54 (by decide) rfl rfl rfl (leb rfl) (bz _) (fun _ => rfl) (ok_Model_pack a_70 hv) ?_
  refine w_iconst (q := 15) (v := 0) d_Model_lostByRazors_14 rfl (by decide) ?_
  refine w_istore_n (q := 16) (ls' := [some (.ref 54), some (.int p0), some (.int v1), some (.int 0)]) d_Model_lostByRazors_15 rfl (by decide) rfl rfl ?_
  obtain ⟨x8, hx, h⟩ := bnd h
  refine w_ls (ls' := [some (.ref 54), some (.int p0), some (.int v1), some (.int 0)]) (And.intro rfl (And.intro rfl (And.intro rfl (And.intro rfl trivial)))) ?_
  show PL_Model_lostByRazors_16 γ tt p0 g p0 v1 _ _ (0, v2)
  refine lp_ok (kl_Model_lostByRazors_16) F _ x8 hx ?_
  unfold QL_Model_lostByRazors_16
  refine w_aload_n (q := 47) d_Model_lostByRazors_46 rfl rfl ?_
  obtain ⟨v9, hv, h⟩ := bnd h
  refine w_callVi (q := 50) (M' := M_Model_records) (n' := 2) (k := 54) (As := []) (sh' := SH) (b1 := (0, 0)) d_Model_lostByRazors_47 rfl mw_Model_records (by decide) (by decide) ml_Model_329 (by decide) s_54 (by decide) rfl rfl rfl (leb rfl) (bz _) (fun _ => rfl) (ok_Model_records hv) ?_
  refine w_istore_n (q := 51) (ls' := [some (.ref 54), none, some (.int v1), some (.int v9)]) d_Model_lostByRazors_50 rfl (by decide) rfl rfl ?_
  refine w_aload_n (q := 52) d_Model_lostByRazors_51 rfl rfl ?_
  refine w_aload_n (q := 53) d_Model_lostByRazors_52 rfl rfl ?_
  refine w_get (q := 56) (ci := 12) (j := 31) d_Model_lostByRazors_53 rfl (by decide) fl_Model_90 (by decide) (by decide) s_54 rfl rfl ?_
  refine w_iconst (q := 57) (v := 0) d_Model_lostByRazors_56 rfl (by decide) ?_
  obtain ⟨v10, hv, h⟩ := bnd h
  refine w_callVv (q := 60) (M' := M_Model_unpack) (n' := 0) (k := 54) (As := [.ref 70, .int 0]) (sh' := SH) (b1 := (0, 0)) d_Model_lostByRazors_57 rfl mw_Model_unpack (by decide) (by decide) ml_Model_393 (by decide) s_54 (by decide) rfl rfl rfl (leb rfl) (bz _) (fun _ => rfl) (ok_Model_unpack a_70 hv) ?_
  refine w_iload_n (q := 61) d_Model_lostByRazors_60 rfl rfl ?_
  refine w_iload_n (q := 62) d_Model_lostByRazors_61 rfl rfl ?_
  refine w_iconst (q := 63) (v := (-1)) d_Model_lostByRazors_62 rfl (by decide) ?_
  refine w_ixor (q := 64) d_Model_lostByRazors_63 rfl ?_
  refine w_iand (q := 65) d_Model_lostByRazors_64 rfl ?_
  cases h
  exact w_ireturn d_Model_lostByRazors_65 rfl rfl ⟨rfl, rfl, rfl, rfl⟩
def PL_Model_noPlaits_4 (γ : GG) (tt : Bool) (g : Mem) (b : Nat × Nat) (Φ : PO) (s : Int32 × Int32) : Prop := WA γ M_Model_noPlaits 0 4 [some (.ref 54), some (.int s.1), some (.int s.2)] [] SH g tt b Φ
def QL_Model_noPlaits_4 (γ : GG) (tt : Bool) (g : Mem) (b : Nat × Nat) (Φ : PO) (x : (Int32)) : Prop := WA γ M_Model_noPlaits 0 40 [none, some (.int x), none] [] SH g tt b Φ
def st_Model_noPlaits_4 (F : Nat) (g : Mem) (s : Int32 × Int32) : Option ((Int32 × Int32) ⊕ ((Int32))) := (rd g 58 12 0).bind fun v1 => if v1 ≤ s.2 then some (.inr s.1) else (rd g 59 12 s.2).bind fun v3 => if v3 = 3 then some (.inl (s.1 ||| 0, s.2 + 1)) else some (.inl (s.1 ||| (1 <<< (s.2 &&& 31)), s.2 + 1))
theorem kl_Model_noPlaits_4 {γ : GG} {tt : Bool} {F : Nat} {g : Mem} {b : Nat × Nat} {Φ : PO} : ∀ (s : Int32 × Int32) (r : (Int32 × Int32) ⊕ ((Int32))), st_Model_noPlaits_4 F g s = some r → RQ (PL_Model_noPlaits_4 γ tt g b Φ) (QL_Model_noPlaits_4 γ tt g b Φ) r → PL_Model_noPlaits_4 γ tt g b Φ s := by
  intro s r h hr
  unfold st_Model_noPlaits_4 at h
  unfold PL_Model_noPlaits_4
  refine w_iload_n (q := 5) d_Model_noPlaits_4 rfl rfl ?_
  refine w_aload_n (q := 6) d_Model_noPlaits_5 rfl rfl ?_
  refine w_get (q := 9) (ci := 12) (j := 4) d_Model_noPlaits_6 rfl (by decide) fl_Model_51 (by decide) (by decide) s_54 rfl rfl ?_
  refine w_iconst (q := 10) (v := 0) d_Model_noPlaits_9 rfl (by decide) ?_
  obtain ⟨v1, hv, h⟩ := bnd h
  obtain ⟨hi, hv⟩ := rd_ok hv
  refine w_iald (q := 11) (t := 0) d_Model_noPlaits_10 rfl a_58.2 a_58.1 hi rfl ?_
  rw [hv]
  by_cases c2 : v1 ≤ s.2
  · rw [if_pos c2] at h
    refine w_icmp_ge_t (q := 40) d_Model_noPlaits_11 rfl c2 ?_
    cases h
    exact w_ls (by exact (And.intro rfl trivial)) hr
  · rw [if_neg c2] at h
    refine w_icmp_ge_f (q := 14) d_Model_noPlaits_11 40 rfl rfl c2 ?_
    refine w_iload_n (q := 15) d_Model_noPlaits_14 rfl rfl ?_
    refine w_aload_n (q := 16) d_Model_noPlaits_15 rfl rfl ?_
    refine w_get (q := 19) (ci := 12) (j := 5) d_Model_noPlaits_16 rfl (by decide) fl_Model_55 (by decide) (by decide) s_54 rfl rfl ?_
    refine w_iload_n (q := 20) d_Model_noPlaits_19 rfl rfl ?_
    obtain ⟨v3, hv, h⟩ := bnd h
    obtain ⟨hi, hv⟩ := rd_ok hv
    refine w_iald (q := 21) (t := 0) d_Model_noPlaits_20 rfl a_59.2 a_59.1 hi rfl ?_
    rw [hv]
    refine w_iconst (q := 22) (v := 3) d_Model_noPlaits_21 rfl (by decide) ?_
    by_cases c4 : v3 = 3
    · rw [if_pos c4] at h
      refine w_icmp_ne_f (q := 25) d_Model_noPlaits_22 29 rfl rfl c4 ?_
      refine w_iconst (q := 26) (v := 0) d_Model_noPlaits_25 rfl (by decide) ?_
      refine w_goto (q := 32) d_Model_noPlaits_26 rfl ?_
      refine w_ior (q := 33) d_Model_noPlaits_32 rfl ?_
      refine w_istore_n (q := 34) (ls' := [some (.ref 54), some (.int (s.1 ||| 0)), some (.int s.2)]) d_Model_noPlaits_33 rfl (by decide) rfl rfl ?_
      refine w_iinc (q := 37) (ls' := [some (.ref 54), some (.int (s.1 ||| 0)), some (.int (s.2 + 1))]) d_Model_noPlaits_34 rfl (by decide) rfl rfl rfl ?_
      refine w_goto (q := 4) d_Model_noPlaits_37 rfl ?_
      cases h
      exact w_ls (by exact (And.intro rfl (And.intro rfl (And.intro rfl trivial)))) hr
    · rw [if_neg c4] at h
      refine w_icmp_ne_t (q := 29) d_Model_noPlaits_22 rfl c4 ?_
      refine w_iconst (q := 30) (v := 1) d_Model_noPlaits_29 rfl (by decide) ?_
      refine w_iload_n (q := 31) d_Model_noPlaits_30 rfl rfl ?_
      refine w_ishl (q := 32) d_Model_noPlaits_31 rfl ?_
      refine w_ior (q := 33) d_Model_noPlaits_32 rfl ?_
      refine w_istore_n (q := 34) (ls' := [some (.ref 54), some (.int (s.1 ||| (1 <<< (s.2 &&& 31)))), some (.int s.2)]) d_Model_noPlaits_33 rfl (by decide) rfl rfl ?_
      refine w_iinc (q := 37) (ls' := [some (.ref 54), some (.int (s.1 ||| (1 <<< (s.2 &&& 31)))), some (.int (s.2 + 1))]) d_Model_noPlaits_34 rfl (by decide) rfl rfl rfl ?_
      refine w_goto (q := 4) d_Model_noPlaits_37 rfl ?_
      cases h
      exact w_ls (by exact (And.intro rfl (And.intro rfl (And.intro rfl trivial)))) hr
def sp_Model_noPlaits (F : Nat) (g : Mem) : Option (Int32) := (lpO (st_Model_noPlaits_4 F g) F (0, 0)).bind fun x5 => some x5
theorem ok_Model_noPlaits {γ : GG} {tt : Bool} {F : Nat} {g : Mem} {res : Int32} (h : sp_Model_noPlaits F g = some res) : CA γ M_Model_noPlaits 0 [.ref 54] SH g tt (0, 0) (pI SH res g tt) := by
  refine CA.of mw_Model_noPlaits.1 2 rfl ?_
  show WA γ M_Model_noPlaits 0 0 [some (.ref 54), none, none] [] SH g tt (0, 0) (pI SH res g tt)
  unfold sp_Model_noPlaits at h
  refine w_iconst (q := 1) (v := 0) d_Model_noPlaits_0 rfl (by decide) ?_
  refine w_istore_n (q := 2) (ls' := [some (.ref 54), some (.int 0), none]) d_Model_noPlaits_1 rfl (by decide) rfl rfl ?_
  refine w_iconst (q := 3) (v := 0) d_Model_noPlaits_2 rfl (by decide) ?_
  refine w_istore_n (q := 4) (ls' := [some (.ref 54), some (.int 0), some (.int 0)]) d_Model_noPlaits_3 rfl (by decide) rfl rfl ?_
  obtain ⟨x5, hx, h⟩ := bnd h
  refine w_ls (ls' := [some (.ref 54), some (.int 0), some (.int 0)]) (And.intro rfl (And.intro rfl (And.intro rfl trivial))) ?_
  show PL_Model_noPlaits_4 γ tt g _ _ (0, 0)
  refine lp_ok (kl_Model_noPlaits_4) F _ x5 hx ?_
  unfold QL_Model_noPlaits_4
  refine w_iload_n (q := 41) d_Model_noPlaits_40 rfl rfl ?_
  cases h
  exact w_ireturn d_Model_noPlaits_41 rfl rfl ⟨rfl, rfl, rfl, rfl⟩
def PL_Model_barbers_43 (γ : GG) (tt : Bool) (p0 : Int32) (g : Mem) (k2 : Int32) (k3 : Int32) (b : Nat × Nat) (Φ : PO) (s : Int32 × Int32 × Mem) : Prop := WA γ M_Model_barbers 6 43 [some (.ref 54), none, some (.int k2), some (.int k3), some (.int s.1), some (.int s.2.1)] [] SH s.2.2 tt b Φ
def QL_Model_barbers_43 (γ : GG) (tt : Bool) (p0 : Int32) (g : Mem) (k2 : Int32) (k3 : Int32) (b : Nat × Nat) (Φ : PO) (x : (Int32 × Mem)) : Prop := WA γ M_Model_barbers 6 114 [none, none, none, none, some (.int x.1), none] [] SH x.2 tt b Φ
def st_Model_barbers_43 (F : Nat) (p0 : Int32) (g : Mem) (k2 : Int32) (k3 : Int32) (s : Int32 × Int32 × Mem) : Option ((Int32 × Int32 × Mem) ⊕ ((Int32 × Mem))) := (rd s.2.2 58 12 0).bind fun v7 => if (1 <<< (v7 &&& 31)) ≤ s.2.1 then some (.inr (s.1, s.2.2)) else if (s.2.1 &&& (k2 ^^^ (-1))) = 0 then (sp_Model_bitsOf F s.2.1 s.2.2).bind fun v10 => if v10 = k3 then if s.1 = (-1) then some (.inl (s.2.1, s.2.1 + 1, s.2.2)) else (sp_Model_lostByRazors F s.2.1 s.2.2).bind fun v13 => (sp_Model_bitsOf F v13.1 v13.2).bind fun v14 => (sp_Model_lostByRazors F s.1 v13.2).bind fun v15 => (sp_Model_bitsOf F v15.1 v15.2).bind fun v16 => if v14 ≤ v16 then some (.inl (s.1, s.2.1 + 1, v15.2)) else some (.inl (s.2.1, s.2.1 + 1, v15.2)) else some (.inl (s.1, s.2.1 + 1, s.2.2)) else some (.inl (s.1, s.2.1 + 1, s.2.2))
theorem kl_Model_barbers_43 {γ : GG} {tt : Bool} {F : Nat} {p0 : Int32} {g : Mem} {k2 : Int32} {k3 : Int32} {b : Nat × Nat} {Φ : PO} : ∀ (s : Int32 × Int32 × Mem) (r : (Int32 × Int32 × Mem) ⊕ ((Int32 × Mem))), st_Model_barbers_43 F p0 g k2 k3 s = some r → RQ (PL_Model_barbers_43 γ tt p0 g k2 k3 b Φ) (QL_Model_barbers_43 γ tt p0 g k2 k3 b Φ) r → PL_Model_barbers_43 γ tt p0 g k2 k3 b Φ s := by
  intro s r h hr
  unfold st_Model_barbers_43 at h
  unfold PL_Model_barbers_43
  refine w_iload (q := 45) d_Model_barbers_43 rfl rfl ?_
  refine w_iconst (q := 46) (v := 1) d_Model_barbers_45 rfl (by decide) ?_
  refine w_aload_n (q := 47) d_Model_barbers_46 rfl rfl ?_
  refine w_get (q := 50) (ci := 12) (j := 4) d_Model_barbers_47 rfl (by decide) fl_Model_51 (by decide) (by decide) s_54 rfl rfl ?_
  refine w_iconst (q := 51) (v := 0) d_Model_barbers_50 rfl (by decide) ?_
  obtain ⟨v7, hv, h⟩ := bnd h
  obtain ⟨hi, hv⟩ := rd_ok hv
  refine w_iald (q := 52) (t := 0) d_Model_barbers_51 rfl a_58.2 a_58.1 hi rfl ?_
  rw [hv]
  refine w_ishl (q := 53) d_Model_barbers_52 rfl ?_
  by_cases c8 : (1 <<< (v7 &&& 31)) ≤ s.2.1
  · rw [if_pos c8] at h
    refine w_icmp_ge_t (q := 114) d_Model_barbers_53 rfl c8 ?_
    cases h
    exact w_ls (by exact (And.intro rfl trivial)) hr
  · rw [if_neg c8] at h
    refine w_icmp_ge_f (q := 56) d_Model_barbers_53 114 rfl rfl c8 ?_
    refine w_iload (q := 58) d_Model_barbers_56 rfl rfl ?_
    refine w_iload_n (q := 59) d_Model_barbers_58 rfl rfl ?_
    refine w_iconst (q := 60) (v := (-1)) d_Model_barbers_59 rfl (by decide) ?_
    refine w_ixor (q := 61) d_Model_barbers_60 rfl ?_
    refine w_iand (q := 62) d_Model_barbers_61 rfl ?_
    by_cases c9 : (s.2.1 &&& (k2 ^^^ (-1))) = 0
    · rw [if_pos c9] at h
      refine w_if_ne_f (q := 65) d_Model_barbers_62 108 rfl rfl c9 ?_
      refine w_iload (q := 67) d_Model_barbers_65 rfl rfl ?_
      obtain ⟨v10, hv, h⟩ := bnd h
      refine w_callSi (q := 70) (M' := M_Model_bitsOf) (n' := 0) (As := [.int s.2.1]) (sh' := SH) (b1 := (0, 0)) d_Model_barbers_67 rfl mw_Model_bitsOf (by decide) (by decide) ml_Model_332 rfl rfl (leb rfl) (bz _) (fun _ => rfl) (ok_Model_bitsOf hv) ?_
      refine w_iload_n (q := 71) d_Model_barbers_70 rfl rfl ?_
      by_cases c11 : v10 = k3
      · rw [if_pos c11] at h
        refine w_icmp_eq_t (q := 77) d_Model_barbers_71 rfl c11 ?_
        refine w_iload (q := 79) d_Model_barbers_77 rfl rfl ?_
        refine w_iconst (q := 80) (v := (-1)) d_Model_barbers_79 rfl (by decide) ?_
        by_cases c12 : s.1 = (-1)
        · rw [if_pos c12] at h
          refine w_icmp_eq_t (q := 104) d_Model_barbers_80 rfl c12 ?_
          refine w_iload (q := 106) d_Model_barbers_104 rfl rfl ?_
          refine w_istore (q := 108) (ls' := [some (.ref 54), none, some (.int k2), some (.int k3), some (.int s.2.1), some (.int s.2.1)]) d_Model_barbers_106 rfl (by decide) rfl rfl ?_
          refine w_iinc (q := 111) (ls' := [some (.ref 54), none, some (.int k2), some (.int k3), some (.int s.2.1), some (.int (s.2.1 + 1))]) d_Model_barbers_108 rfl (by decide) rfl rfl rfl ?_
          refine w_goto (q := 43) d_Model_barbers_111 rfl ?_
          cases h
          exact w_ls (by exact (And.intro rfl (And.intro rfl (And.intro rfl (And.intro rfl (And.intro rfl trivial)))))) hr
        · rw [if_neg c12] at h
          refine w_icmp_eq_f (q := 83) d_Model_barbers_80 104 rfl rfl c12 ?_
          refine w_aload_n (q := 84) d_Model_barbers_83 rfl rfl ?_
          refine w_iload (q := 86) d_Model_barbers_84 rfl rfl ?_
          obtain ⟨v13, hv, h⟩ := bnd h
          refine w_callVi (q := 89) (M' := M_Model_lostByRazors) (n' := 5) (k := 54) (As := [.int s.2.1]) (sh' := SH) (b1 := (0, 0)) d_Model_barbers_86 rfl mw_Model_lostByRazors (by decide) (by decide) ml_Model_415 (by decide) s_54 (by decide) rfl rfl rfl (leb rfl) (bz _) (fun _ => rfl) (ok_Model_lostByRazors hv) ?_
          obtain ⟨v14, hv, h⟩ := bnd h
          refine w_callSi (q := 92) (M' := M_Model_bitsOf) (n' := 0) (As := [.int v13.1]) (sh' := SH) (b1 := (0, 0)) d_Model_barbers_89 rfl mw_Model_bitsOf (by decide) (by decide) ml_Model_332 rfl rfl (leb rfl) (bz _) (fun _ => rfl) (ok_Model_bitsOf hv) ?_
          refine w_aload_n (q := 93) d_Model_barbers_92 rfl rfl ?_
          refine w_iload (q := 95) d_Model_barbers_93 rfl rfl ?_
          obtain ⟨v15, hv, h⟩ := bnd h
          refine w_callVi (q := 98) (M' := M_Model_lostByRazors) (n' := 5) (k := 54) (As := [.int s.1]) (sh' := SH) (b1 := (0, 0)) d_Model_barbers_95 rfl mw_Model_lostByRazors (by decide) (by decide) ml_Model_415 (by decide) s_54 (by decide) rfl rfl rfl (leb rfl) (bz _) (fun _ => rfl) (ok_Model_lostByRazors hv) ?_
          obtain ⟨v16, hv, h⟩ := bnd h
          refine w_callSi (q := 101) (M' := M_Model_bitsOf) (n' := 0) (As := [.int v15.1]) (sh' := SH) (b1 := (0, 0)) d_Model_barbers_98 rfl mw_Model_bitsOf (by decide) (by decide) ml_Model_332 rfl rfl (leb rfl) (bz _) (fun _ => rfl) (ok_Model_bitsOf hv) ?_
          by_cases c17 : v14 ≤ v16
          · rw [if_pos c17] at h
            refine w_icmp_le_t (q := 108) d_Model_barbers_101 rfl c17 ?_
            refine w_iinc (q := 111) (ls' := [some (.ref 54), none, some (.int k2), some (.int k3), some (.int s.1), some (.int (s.2.1 + 1))]) d_Model_barbers_108 rfl (by decide) rfl rfl rfl ?_
            refine w_goto (q := 43) d_Model_barbers_111 rfl ?_
            cases h
            exact w_ls (by exact (And.intro rfl (And.intro rfl (And.intro rfl (And.intro rfl (And.intro rfl trivial)))))) hr
          · rw [if_neg c17] at h
            refine w_icmp_le_f (q := 104) d_Model_barbers_101 108 rfl rfl c17 ?_
            refine w_iload (q := 106) d_Model_barbers_104 rfl rfl ?_
            refine w_istore (q := 108) (ls' := [some (.ref 54), none, some (.int k2), some (.int k3), some (.int s.2.1), some (.int s.2.1)]) d_Model_barbers_106 rfl (by decide) rfl rfl ?_
            refine w_iinc (q := 111) (ls' := [some (.ref 54), none, some (.int k2), some (.int k3), some (.int s.2.1), some (.int (s.2.1 + 1))]) d_Model_barbers_108 rfl (by decide) rfl rfl rfl ?_
            refine w_goto (q := 43) d_Model_barbers_111 rfl ?_
            cases h
            exact w_ls (by exact (And.intro rfl (And.intro rfl (And.intro rfl (And.intro rfl (And.intro rfl trivial)))))) hr
      · rw [if_neg c11] at h
        refine w_icmp_eq_f (q := 74) d_Model_barbers_71 77 rfl rfl c11 ?_
        refine w_goto (q := 108) d_Model_barbers_74 rfl ?_
        refine w_iinc (q := 111) (ls' := [some (.ref 54), none, some (.int k2), some (.int k3), some (.int s.1), some (.int (s.2.1 + 1))]) d_Model_barbers_108 rfl (by decide) rfl rfl rfl ?_
        refine w_goto (q := 43) d_Model_barbers_111 rfl ?_
        cases h
        exact w_ls (by exact (And.intro rfl (And.intro rfl (And.intro rfl (And.intro rfl (And.intro rfl trivial)))))) hr
    · rw [if_neg c9] at h
      refine w_if_ne_t (q := 108) d_Model_barbers_62 rfl c9 ?_
      refine w_iinc (q := 111) (ls' := [some (.ref 54), none, some (.int k2), some (.int k3), some (.int s.1), some (.int (s.2.1 + 1))]) d_Model_barbers_108 rfl (by decide) rfl rfl rfl ?_
      refine w_goto (q := 43) d_Model_barbers_111 rfl ?_
      cases h
      exact w_ls (by exact (And.intro rfl (And.intro rfl (And.intro rfl (And.intro rfl (And.intro rfl trivial)))))) hr
def sp_Model_barbers (F : Nat) (p0 : Int32) (g : Mem) : Option (Int32 × Mem) := (sp_Model_isIn p0.toInt64 0 6 (mset g 54 3 0)).bind fun v1 => if v1 = 0 then (sp_Model_fail 1 (mset g 54 3 0)).bind fun v3 => some (v3.1, v3.2) else (sp_Model_noPlaits F (mset g 54 3 0)).bind fun v4 => (sp_Model_bitsOf F v4 (mset g 54 3 0)).bind fun v5 => (sp_JMath_min p0 v5 (mset g 54 3 0)).bind fun v6 => (lpO (st_Model_barbers_43 F p0 g v4 v6) F ((-1), 0, (mset g 54 3 0))).bind fun x18 => some (x18.1, x18.2)
theorem ok_Model_barbers {γ : GG} {tt : Bool} {F : Nat} {p0 : Int32} {g : Mem} {res : Int32 × Mem} (h : sp_Model_barbers F p0 g = some res) : CA γ M_Model_barbers 6 [.ref 54, .int p0] SH g tt (0, 0) (pI SH res.1 res.2 tt) := by
  refine CA.of mw_Model_barbers.1 4 rfl ?_
  show WA γ M_Model_barbers 6 0 [some (.ref 54), some (.int p0), none, none, none, none] [] SH g tt (0, 0) (pI SH res.1 res.2 tt)
  unfold sp_Model_barbers at h
  refine w_aload_n (q := 1) d_Model_barbers_0 rfl rfl ?_
  refine w_iconst (q := 2) (v := 0) d_Model_barbers_1 rfl (by decide) ?_
  refine w_put (q := 5) (ci := 12) (j := 3) d_Model_barbers_2 rfl (by decide) fl_Model_114 (by decide) (by decide) s_54 rfl rfl rfl rfl rfl rfl ?_
  refine w_iload_n (q := 6) d_Model_barbers_5 rfl rfl ?_
  refine w_i2l (q := 7) d_Model_barbers_6 rfl ?_
  refine w_lconst (q := 8) (v := 0) d_Model_barbers_7 rfl (by decide) ?_
  refine w_ldc2 (q := 11) d_Model_barbers_8 rfl lo_Model_410 ?_
  obtain ⟨v1, hv, h⟩ := bnd h
  refine w_callSi (q := 14) (M' := M_Model_isIn) (n' := 0) (As := [.long (p0.toInt64), .long (0), .long (6)]) (sh' := SH) (b1 := (0, 0)) d_Model_barbers_11 rfl mw_Model_isIn (by decide) (by decide) ml_Model_117 rfl rfl (leb rfl) (bz _) (fun _ => rfl) (ok_Model_isIn hv) ?_
  by_cases c2 : v1 = 0
  · rw [if_pos c2] at h
    refine w_if_ne_f (q := 17) d_Model_barbers_14 23 rfl rfl c2 ?_
    refine w_aload_n (q := 18) d_Model_barbers_17 rfl rfl ?_
    refine w_iconst (q := 19) (v := 1) d_Model_barbers_18 rfl (by decide) ?_
    obtain ⟨v3, hv, h⟩ := bnd h
    refine w_callVi (q := 22) (M' := M_Model_fail) (n' := 0) (k := 54) (As := [.int 1]) (sh' := SH) (b1 := (0, 0)) d_Model_barbers_19 rfl mw_Model_fail (by decide) (by decide) ml_Model_273 (by decide) s_54 (by decide) rfl rfl rfl (leb rfl) (bz _) (fun _ => rfl) (ok_Model_fail hv) ?_
    cases h
    exact w_ireturn d_Model_barbers_22 rfl rfl ⟨rfl, rfl, rfl, rfl⟩
  · rw [if_neg c2] at h
    refine w_if_ne_t (q := 23) d_Model_barbers_14 rfl c2 ?_
    refine w_aload_n (q := 24) d_Model_barbers_23 rfl rfl ?_
    obtain ⟨v4, hv, h⟩ := bnd h
    refine w_callVi (q := 27) (M' := M_Model_noPlaits) (n' := 0) (k := 54) (As := []) (sh' := SH) (b1 := (0, 0)) d_Model_barbers_24 rfl mw_Model_noPlaits (by decide) (by decide) ml_Model_412 (by decide) s_54 (by decide) rfl rfl rfl (leb rfl) (bz _) (fun _ => rfl) (ok_Model_noPlaits hv) ?_
    refine w_istore_n (q := 28) (ls' := [some (.ref 54), some (.int p0), some (.int v4), none, none, none]) d_Model_barbers_27 rfl (by decide) rfl rfl ?_
    refine w_iload_n (q := 29) d_Model_barbers_28 rfl rfl ?_
    refine w_iload_n (q := 30) d_Model_barbers_29 rfl rfl ?_
    obtain ⟨v5, hv, h⟩ := bnd h
    refine w_callSi (q := 33) (M' := M_Model_bitsOf) (n' := 0) (As := [.int v4]) (sh' := SH) (b1 := (0, 0)) d_Model_barbers_30 rfl mw_Model_bitsOf (by decide) (by decide) ml_Model_332 rfl rfl (leb rfl) (bz _) (fun _ => rfl) (ok_Model_bitsOf hv) ?_
    obtain ⟨v6, hv, h⟩ := bnd h
    refine w_callSi (q := 36) (M' := M_JMath_min) (n' := 0) (As := [.int p0, .int v5]) (sh' := SH) (b1 := (0, 0)) d_Model_barbers_33 rfl mw_JMath_min (by decide) (by decide) ml_Model_156 rfl rfl (leb rfl) (bz _) (fun _ => rfl) (ok_JMath_min hv) ?_
    refine w_istore_n (q := 37) (ls' := [some (.ref 54), some (.int p0), some (.int v4), some (.int v6), none, none]) d_Model_barbers_36 rfl (by decide) rfl rfl ?_
    refine w_iconst (q := 38) (v := (-1)) d_Model_barbers_37 rfl (by decide) ?_
    refine w_istore (q := 40) (ls' := [some (.ref 54), some (.int p0), some (.int v4), some (.int v6), some (.int ((-1))), none]) d_Model_barbers_38 rfl (by decide) rfl rfl ?_
    refine w_iconst (q := 41) (v := 0) d_Model_barbers_40 rfl (by decide) ?_
    refine w_istore (q := 43) (ls' := [some (.ref 54), some (.int p0), some (.int v4), some (.int v6), some (.int ((-1))), some (.int 0)]) d_Model_barbers_41 rfl (by decide) rfl rfl ?_
    obtain ⟨x18, hx, h⟩ := bnd h
    refine w_ls (ls' := [some (.ref 54), none, some (.int v4), some (.int v6), some (.int ((-1))), some (.int 0)]) (And.intro rfl (And.intro rfl (And.intro rfl (And.intro rfl (And.intro rfl trivial))))) ?_
    show PL_Model_barbers_43 γ tt p0 g v4 v6 _ _ ((-1), 0, (mset g 54 3 0))
    refine lp_ok (kl_Model_barbers_43) F _ x18 hx ?_
    unfold QL_Model_barbers_43
    refine w_iload (q := 116) d_Model_barbers_114 rfl rfl ?_
    cases h
    exact w_ireturn d_Model_barbers_116 rfl rfl ⟨rfl, rfl, rfl, rfl⟩
def PL_Model_shortest_50 (γ : GG) (tt : Bool) (p0 : Int32) (g : Mem) (k1 : Int32) (k2 : Int32) (b : Nat × Nat) (Φ : PO) (s : Int32 × Int32 × Mem) : Prop := WA γ M_Model_shortest 5 50 [some (.ref 54), some (.int k1), some (.int k2), some (.int s.1), some (.int s.2.1)] [] SH s.2.2 tt b Φ
def QL_Model_shortest_50 (γ : GG) (tt : Bool) (p0 : Int32) (g : Mem) (k1 : Int32) (k2 : Int32) (b : Nat × Nat) (Φ : PO) (x : (Int32 × Mem)) : Prop := WA γ M_Model_shortest 5 79 [some (.ref 54), none, none, some (.int x.1), none] [] SH x.2 tt b Φ
def st_Model_shortest_50 (F : Nat) (p0 : Int32) (g : Mem) (k1 : Int32) (k2 : Int32) (s : Int32 × Int32 × Mem) : Option ((Int32 × Int32 × Mem) ⊕ ((Int32 × Mem))) := if s.2.1 < 0 then some (.inr (s.1, s.2.2)) else (sp_Model_shaveNow F k1 s.2.1 s.2.2).bind fun v9 => (sp_Model_records F v9).bind fun v10 => if v10 = k2 then some (.inl (s.2.1, s.2.1 + (-1), v9)) else some (.inl (s.1, s.2.1 + (-1), v9))
theorem kl_Model_shortest_50 {γ : GG} {tt : Bool} {F : Nat} {p0 : Int32} {g : Mem} {k1 : Int32} {k2 : Int32} {b : Nat × Nat} {Φ : PO} : ∀ (s : Int32 × Int32 × Mem) (r : (Int32 × Int32 × Mem) ⊕ ((Int32 × Mem))), st_Model_shortest_50 F p0 g k1 k2 s = some r → RQ (PL_Model_shortest_50 γ tt p0 g k1 k2 b Φ) (QL_Model_shortest_50 γ tt p0 g k1 k2 b Φ) r → PL_Model_shortest_50 γ tt p0 g k1 k2 b Φ s := by
  intro s r h hr
  unfold st_Model_shortest_50 at h
  unfold PL_Model_shortest_50
  refine w_iload (q := 52) d_Model_shortest_50 rfl rfl ?_
  by_cases c8 : s.2.1 < 0
  · rw [if_pos c8] at h
    refine w_if_lt_t (q := 79) d_Model_shortest_52 rfl c8 ?_
    cases h
    exact w_ls (by exact (And.intro rfl (And.intro rfl trivial))) hr
  · rw [if_neg c8] at h
    refine w_if_lt_f (q := 55) d_Model_shortest_52 79 rfl rfl c8 ?_
    refine w_aload_n (q := 56) d_Model_shortest_55 rfl rfl ?_
    refine w_iload_n (q := 57) d_Model_shortest_56 rfl rfl ?_
    refine w_iload (q := 59) d_Model_shortest_57 rfl rfl ?_
    obtain ⟨v9, hv, h⟩ := bnd h
    refine w_callVv (q := 62) (M' := M_Model_shaveNow) (n' := 4) (k := 54) (As := [.int k1, .int s.2.1]) (sh' := SH) (b1 := (0, 0)) d_Model_shortest_59 rfl mw_Model_shaveNow (by decide) (by decide) ml_Model_406 (by decide) s_54 (by decide) rfl rfl rfl (leb rfl) (bz _) (fun _ => rfl) (ok_Model_shaveNow hv) ?_
    refine w_aload_n (q := 63) d_Model_shortest_62 rfl rfl ?_
    obtain ⟨v10, hv, h⟩ := bnd h
    refine w_callVi (q := 66) (M' := M_Model_records) (n' := 2) (k := 54) (As := []) (sh' := SH) (b1 := (0, 0)) d_Model_shortest_63 rfl mw_Model_records (by decide) (by decide) ml_Model_329 (by decide) s_54 (by decide) rfl rfl rfl (leb rfl) (bz _) (fun _ => rfl) (ok_Model_records hv) ?_
    refine w_iload_n (q := 67) d_Model_shortest_66 rfl rfl ?_
    by_cases c11 : v10 = k2
    · rw [if_pos c11] at h
      refine w_icmp_ne_f (q := 70) d_Model_shortest_67 73 rfl rfl c11 ?_
      refine w_iload (q := 72) d_Model_shortest_70 rfl rfl ?_
      refine w_istore_n (q := 73) (ls' := [some (.ref 54), some (.int k1), some (.int k2), some (.int s.2.1), some (.int s.2.1)]) d_Model_shortest_72 rfl (by decide) rfl rfl ?_
      refine w_iinc (q := 76) (ls' := [some (.ref 54), some (.int k1), some (.int k2), some (.int s.2.1), some (.int (s.2.1 + (-1)))]) d_Model_shortest_73 rfl (by decide) rfl rfl rfl ?_
      refine w_goto (q := 50) d_Model_shortest_76 rfl ?_
      cases h
      exact w_ls (by exact (And.intro rfl (And.intro rfl (And.intro rfl (And.intro rfl (And.intro rfl trivial)))))) hr
    · rw [if_neg c11] at h
      refine w_icmp_ne_t (q := 73) d_Model_shortest_67 rfl c11 ?_
      refine w_iinc (q := 76) (ls' := [some (.ref 54), some (.int k1), some (.int k2), some (.int s.1), some (.int (s.2.1 + (-1)))]) d_Model_shortest_73 rfl (by decide) rfl rfl rfl ?_
      refine w_goto (q := 50) d_Model_shortest_76 rfl ?_
      cases h
      exact w_ls (by exact (And.intro rfl (And.intro rfl (And.intro rfl (And.intro rfl (And.intro rfl trivial)))))) hr
def sp_Model_shortest (F : Nat) (p0 : Int32) (g : Mem) : Option (Int32 × Mem) := (sp_Model_isMonk p0 (mset g 54 3 0)).bind fun v1 => if v1 = 0 then (sp_Model_fail 1 (mset g 54 3 0)).bind fun v3 => some (v3.1, v3.2) else (sp_Model_records F (mset g 54 3 0)).bind fun v4 => (sp_Model_pack F 70 231 0 (mset g 54 3 0)).bind fun v5 => (rd v5 61 12 p0).bind fun v6 => (rd v5 61 12 p0).bind fun v7 => (lpO (st_Model_shortest_50 F p0 g p0 v4) F (v6, v7 - 1, v5)).bind fun x12 => (sp_Model_unpack F 70 231 0 x12.2).bind fun v13 => some (x12.1, v13)
theorem ok_Model_shortest {γ : GG} {tt : Bool} {F : Nat} {p0 : Int32} {g : Mem} {res : Int32 × Mem} (h : sp_Model_shortest F p0 g = some res) : CA γ M_Model_shortest 5 [.ref 54, .int p0] SH g tt (0, 0) (pI SH res.1 res.2 tt) := by
  refine CA.of mw_Model_shortest.1 3 rfl ?_
  show WA γ M_Model_shortest 5 0 [some (.ref 54), some (.int p0), none, none, none] [] SH g tt (0, 0) (pI SH res.1 res.2 tt)
  unfold sp_Model_shortest at h
  refine w_aload_n (q := 1) d_Model_shortest_0 rfl rfl ?_
  refine w_iconst (q := 2) (v := 0) d_Model_shortest_1 rfl (by decide) ?_
  refine w_put (q := 5) (ci := 12) (j := 3) d_Model_shortest_2 rfl (by decide) fl_Model_114 (by decide) (by decide) s_54 rfl rfl rfl rfl rfl rfl ?_
  refine w_aload_n (q := 6) d_Model_shortest_5 rfl rfl ?_
  refine w_iload_n (q := 7) d_Model_shortest_6 rfl rfl ?_
  obtain ⟨v1, hv, h⟩ := bnd h
  refine w_callVi (q := 10) (M' := M_Model_isMonk) (n' := 1) (k := 54) (As := [.int p0]) (sh' := SH) (b1 := (0, 0)) d_Model_shortest_7 rfl mw_Model_isMonk (by decide) (by decide) ml_Model_335 (by decide) s_54 (by decide) rfl rfl rfl (leb rfl) (bz _) (fun _ => rfl) (ok_Model_isMonk hv) ?_
  by_cases c2 : v1 = 0
  · rw [if_pos c2] at h
    refine w_if_ne_f (q := 13) d_Model_shortest_10 19 rfl rfl c2 ?_
    refine w_aload_n (q := 14) d_Model_shortest_13 rfl rfl ?_
    refine w_iconst (q := 15) (v := 1) d_Model_shortest_14 rfl (by decide) ?_
    obtain ⟨v3, hv, h⟩ := bnd h
    refine w_callVi (q := 18) (M' := M_Model_fail) (n' := 0) (k := 54) (As := [.int 1]) (sh' := SH) (b1 := (0, 0)) d_Model_shortest_15 rfl mw_Model_fail (by decide) (by decide) ml_Model_273 (by decide) s_54 (by decide) rfl rfl rfl (leb rfl) (bz _) (fun _ => rfl) (ok_Model_fail hv) ?_
    cases h
    exact w_ireturn d_Model_shortest_18 rfl rfl ⟨rfl, rfl, rfl, rfl⟩
  · rw [if_neg c2] at h
    refine w_if_ne_t (q := 19) d_Model_shortest_10 rfl c2 ?_
    refine w_aload_n (q := 20) d_Model_shortest_19 rfl rfl ?_
    obtain ⟨v4, hv, h⟩ := bnd h
    refine w_callVi (q := 23) (M' := M_Model_records) (n' := 2) (k := 54) (As := []) (sh' := SH) (b1 := (0, 0)) d_Model_shortest_20 rfl mw_Model_records (by decide) (by decide) ml_Model_329 (by decide) s_54 (by decide) rfl rfl rfl (leb rfl) (bz _) (fun _ => rfl) (ok_Model_records hv) ?_
    refine w_istore_n (q := 24) (ls' := [some (.ref 54), some (.int p0), some (.int v4), none, none]) d_Model_shortest_23 rfl (by decide) rfl rfl ?_
    refine w_aload_n (q := 25) d_Model_shortest_24 rfl rfl ?_
    refine w_aload_n (q := 26) d_Model_shortest_25 rfl rfl ?_
    refine w_get (q := 29) (ci := 12) (j := 31) d_Model_shortest_26 rfl (by decide) fl_Model_90 (by decide) (by decide) s_54 rfl rfl ?_
    refine w_iconst (q := 30) (v := 0) d_Model_shortest_29 rfl (by decide) ?_
    obtain ⟨v5, hv, h⟩ := bnd h
    refine w_callVv (q := 33) (M' := M_Model_pack) (n' := 0) (k := 54) (As := [.ref 70, .int 0]) (sh' := SH) (b1 := (0, 0)) d_Model_shortest_30 rfl mw_Model_pack (by decide) (by decide) ml_Model_359 (by decide) s_54 (by decide) rfl rfl rfl (leb rfl) (bz _) (fun _ => rfl) (ok_Model_pack a_70 hv) ?_
    refine w_aload_n (q := 34) d_Model_shortest_33 rfl rfl ?_
    refine w_get (q := 37) (ci := 12) (j := 7) d_Model_shortest_34 rfl (by decide) fl_Model_59 (by decide) (by decide) s_54 rfl rfl ?_
    refine w_iload_n (q := 38) d_Model_shortest_37 rfl rfl ?_
    obtain ⟨v6, hv, h⟩ := bnd h
    obtain ⟨hi, hv⟩ := rd_ok hv
    refine w_iald (q := 39) (t := 0) d_Model_shortest_38 rfl a_61.2 a_61.1 hi rfl ?_
    rw [hv]
    refine w_istore_n (q := 40) (ls' := [some (.ref 54), some (.int p0), some (.int v4), some (.int v6), none]) d_Model_shortest_39 rfl (by decide) rfl rfl ?_
    refine w_aload_n (q := 41) d_Model_shortest_40 rfl rfl ?_
    refine w_get (q := 44) (ci := 12) (j := 7) d_Model_shortest_41 rfl (by decide) fl_Model_59 (by decide) (by decide) s_54 rfl rfl ?_
    refine w_iload_n (q := 45) d_Model_shortest_44 rfl rfl ?_
    obtain ⟨v7, hv, h⟩ := bnd h
    obtain ⟨hi, hv⟩ := rd_ok hv
    refine w_iald (q := 46) (t := 0) d_Model_shortest_45 rfl a_61.2 a_61.1 hi rfl ?_
    rw [hv]
    refine w_iconst (q := 47) (v := 1) d_Model_shortest_46 rfl (by decide) ?_
    refine w_isub (q := 48) d_Model_shortest_47 rfl ?_
    refine w_istore (q := 50) (ls' := [some (.ref 54), some (.int p0), some (.int v4), some (.int v6), some (.int (v7 - 1))]) d_Model_shortest_48 rfl (by decide) rfl rfl ?_
    obtain ⟨x12, hx, h⟩ := bnd h
    refine w_ls (ls' := [some (.ref 54), some (.int p0), some (.int v4), some (.int v6), some (.int (v7 - 1))]) (And.intro rfl (And.intro rfl (And.intro rfl (And.intro rfl (And.intro rfl trivial))))) ?_
    show PL_Model_shortest_50 γ tt p0 g p0 v4 _ _ (v6, v7 - 1, v5)
    refine lp_ok (kl_Model_shortest_50) F _ x12 hx ?_
    unfold QL_Model_shortest_50
    refine w_aload_n (q := 80) d_Model_shortest_79 rfl rfl ?_
    refine w_aload_n (q := 81) d_Model_shortest_80 rfl rfl ?_
    refine w_get (q := 84) (ci := 12) (j := 31) d_Model_shortest_81 rfl (by decide) fl_Model_90 (by decide) (by decide) s_54 rfl rfl ?_
    refine w_iconst (q := 85) (v := 0) d_Model_shortest_84 rfl (by decide) ?_
    obtain ⟨v13, hv, h⟩ := bnd h
    refine w_callVv (q := 88) (M' := M_Model_unpack) (n' := 0) (k := 54) (As := [.ref 70, .int 0]) (sh' := SH) (b1 := (0, 0)) d_Model_shortest_85 rfl mw_Model_unpack (by decide) (by decide) ml_Model_393 (by decide) s_54 (by decide) rfl rfl rfl (leb rfl) (bz _) (fun _ => rfl) (ok_Model_unpack a_70 hv) ?_
    refine w_iload_n (q := 89) d_Model_shortest_88 rfl rfl ?_
    cases h
    exact w_ireturn d_Model_shortest_89 rfl rfl ⟨rfl, rfl, rfl, rfl⟩
def PL_Model_forgiven_49 (γ : GG) (tt : Bool) (p0 : Int32) (p1 : Int32) (p2 : Int32) (g : Mem) (m0 : Mem) (b : Nat × Nat) (Φ : PO) (s : Int32 × Int32 × Int32) : Prop := WA γ M_Model_forgiven 4 49 [some (.ref 54), none, none, none, none, some (.int s.1), some (.int s.2.1), some (.int s.2.2)] [] SH m0 tt b Φ
def QL_Model_forgiven_49 (γ : GG) (tt : Bool) (p0 : Int32) (p1 : Int32) (p2 : Int32) (g : Mem) (m0 : Mem) (b : Nat × Nat) (Φ : PO) (x : (Int32)) : Prop := WA γ M_Model_forgiven 4 132 [none, none, none, none, none, none, some (.int x), none] [] SH m0 tt b Φ
def st_Model_forgiven_49 (F : Nat) (p0 : Int32) (p1 : Int32) (p2 : Int32) (g : Mem) (m0 : Mem) (s : Int32 × Int32 × Int32) : Option ((Int32 × Int32 × Int32) ⊕ ((Int32))) := if (m0 54 26) ≤ s.2.2 then some (.inr s.2.1) else (sp_Model_isThere s.2.2 m0).bind fun v7 => if v7 = 0 then some (.inl (s.1, s.2.1, s.2.2 + 1)) else (sp_Model_of s.2.2 0 m0).bind fun v9 => if v9 = 1 then (sp_Model_of s.2.2 7 m0).bind fun v11 => (sp_Model_isOf s.1 v11 m0).bind fun v12 => if v12 = 0 then some (.inl (s.1, s.2.1, s.2.2 + 1)) else (sp_Model_of s.2.2 4 m0).bind fun v14 => (sp_Model_of s.2.2 7 m0).bind fun v15 => some (.inl (s.1 &&& ((1 <<< (v15 &&& 31)) ^^^ (-1)), s.2.1 + v14, s.2.2 + 1)) else some (.inl (s.1, s.2.1, s.2.2 + 1))
theorem kl_Model_forgiven_49 {γ : GG} {tt : Bool} {F : Nat} {p0 : Int32} {p1 : Int32} {p2 : Int32} {g : Mem} {m0 : Mem} {b : Nat × Nat} {Φ : PO} : ∀ (s : Int32 × Int32 × Int32) (r : (Int32 × Int32 × Int32) ⊕ ((Int32))), st_Model_forgiven_49 F p0 p1 p2 g m0 s = some r → RQ (PL_Model_forgiven_49 γ tt p0 p1 p2 g m0 b Φ) (QL_Model_forgiven_49 γ tt p0 p1 p2 g m0 b Φ) r → PL_Model_forgiven_49 γ tt p0 p1 p2 g m0 b Φ s := by
  intro s r h hr
  unfold st_Model_forgiven_49 at h
  unfold PL_Model_forgiven_49
  refine w_iload (q := 51) d_Model_forgiven_49 rfl rfl ?_
  refine w_aload_n (q := 52) d_Model_forgiven_51 rfl rfl ?_
  refine w_get (q := 55) (ci := 12) (j := 26) d_Model_forgiven_52 rfl (by decide) fl_Model_121 (by decide) (by decide) s_54 rfl rfl ?_
  by_cases c6 : (m0 54 26) ≤ s.2.2
  · rw [if_pos c6] at h
    refine w_icmp_ge_t (q := 132) d_Model_forgiven_55 rfl c6 ?_
    cases h
    exact w_ls (by exact (And.intro rfl trivial)) hr
  · rw [if_neg c6] at h
    refine w_icmp_ge_f (q := 58) d_Model_forgiven_55 132 rfl rfl c6 ?_
    refine w_aload_n (q := 59) d_Model_forgiven_58 rfl rfl ?_
    refine w_iload (q := 61) d_Model_forgiven_59 rfl rfl ?_
    obtain ⟨v7, hv, h⟩ := bnd h
    refine w_callVi (q := 64) (M' := M_Model_isThere) (n' := 1) (k := 54) (As := [.int s.2.2]) (sh' := SH) (b1 := (0, 0)) d_Model_forgiven_61 rfl mw_Model_isThere (by decide) (by decide) ml_Model_315 (by decide) s_54 (by decide) rfl rfl rfl (leb rfl) (bz _) (fun _ => rfl) (ok_Model_isThere hv) ?_
    by_cases c8 : v7 = 0
    · rw [if_pos c8] at h
      refine w_if_eq_t (q := 126) d_Model_forgiven_64 rfl c8 ?_
      refine w_iinc (q := 129) (ls' := [some (.ref 54), none, none, none, none, some (.int s.1), some (.int s.2.1), some (.int (s.2.2 + 1))]) d_Model_forgiven_126 rfl (by decide) rfl rfl rfl ?_
      refine w_goto (q := 49) d_Model_forgiven_129 rfl ?_
      cases h
      exact w_ls (by exact (And.intro rfl (And.intro rfl (And.intro rfl (And.intro rfl trivial))))) hr
    · rw [if_neg c8] at h
      refine w_if_eq_f (q := 67) d_Model_forgiven_64 126 rfl rfl c8 ?_
      refine w_aload_n (q := 68) d_Model_forgiven_67 rfl rfl ?_
      refine w_iload (q := 70) d_Model_forgiven_68 rfl rfl ?_
      refine w_iconst (q := 71) (v := 0) d_Model_forgiven_70 rfl (by decide) ?_
      obtain ⟨v9, hv, h⟩ := bnd h
      refine w_callVi (q := 74) (M' := M_Model_of) (n' := 0) (k := 54) (As := [.int s.2.2, .int 0]) (sh' := SH) (b1 := (0, 0)) d_Model_forgiven_71 rfl mw_Model_of (by decide) (by decide) ml_Model_305 (by decide) s_54 (by decide) rfl rfl rfl (leb rfl) (bz _) (fun _ => rfl) (ok_Model_of hv) ?_
      refine w_iconst (q := 75) (v := 1) d_Model_forgiven_74 rfl (by decide) ?_
      by_cases c10 : v9 = 1
      · rw [if_pos c10] at h
        refine w_icmp_ne_f (q := 78) d_Model_forgiven_75 126 rfl rfl c10 ?_
        refine w_iload (q := 80) d_Model_forgiven_78 rfl rfl ?_
        refine w_aload_n (q := 81) d_Model_forgiven_80 rfl rfl ?_
        refine w_iload (q := 83) d_Model_forgiven_81 rfl rfl ?_
        refine w_bipush (q := 85) (v := 7) d_Model_forgiven_83 rfl (by decide) ?_
        obtain ⟨v11, hv, h⟩ := bnd h
        refine w_callVi (q := 88) (M' := M_Model_of) (n' := 0) (k := 54) (As := [.int s.2.2, .int 7]) (sh' := SH) (b1 := (0, 0)) d_Model_forgiven_85 rfl mw_Model_of (by decide) (by decide) ml_Model_305 (by decide) s_54 (by decide) rfl rfl rfl (leb rfl) (bz _) (fun _ => rfl) (ok_Model_of hv) ?_
        obtain ⟨v12, hv, h⟩ := bnd h
        refine w_callSi (q := 91) (M' := M_Model_isOf) (n' := 0) (As := [.int s.1, .int v11]) (sh' := SH) (b1 := (0, 0)) d_Model_forgiven_88 rfl mw_Model_isOf (by decide) (by decide) ml_Model_308 rfl rfl (leb rfl) (bz _) (fun _ => rfl) (ok_Model_isOf hv) ?_
        by_cases c13 : v12 = 0
        · rw [if_pos c13] at h
          refine w_if_ne_f (q := 94) d_Model_forgiven_91 97 rfl rfl c13 ?_
          refine w_goto (q := 126) d_Model_forgiven_94 rfl ?_
          refine w_iinc (q := 129) (ls' := [some (.ref 54), none, none, none, none, some (.int s.1), some (.int s.2.1), some (.int (s.2.2 + 1))]) d_Model_forgiven_126 rfl (by decide) rfl rfl rfl ?_
          refine w_goto (q := 49) d_Model_forgiven_129 rfl ?_
          cases h
          exact w_ls (by exact (And.intro rfl (And.intro rfl (And.intro rfl (And.intro rfl trivial))))) hr
        · rw [if_neg c13] at h
          refine w_if_ne_t (q := 97) d_Model_forgiven_91 rfl c13 ?_
          refine w_iload (q := 99) d_Model_forgiven_97 rfl rfl ?_
          refine w_aload_n (q := 100) d_Model_forgiven_99 rfl rfl ?_
          refine w_iload (q := 102) d_Model_forgiven_100 rfl rfl ?_
          refine w_iconst (q := 103) (v := 4) d_Model_forgiven_102 rfl (by decide) ?_
          obtain ⟨v14, hv, h⟩ := bnd h
          refine w_callVi (q := 106) (M' := M_Model_of) (n' := 0) (k := 54) (As := [.int s.2.2, .int 4]) (sh' := SH) (b1 := (0, 0)) d_Model_forgiven_103 rfl mw_Model_of (by decide) (by decide) ml_Model_305 (by decide) s_54 (by decide) rfl rfl rfl (leb rfl) (bz _) (fun _ => rfl) (ok_Model_of hv) ?_
          refine w_iadd (q := 107) d_Model_forgiven_106 rfl ?_
          refine w_istore (q := 109) (ls' := [some (.ref 54), none, none, none, none, some (.int s.1), some (.int (s.2.1 + v14)), some (.int s.2.2)]) d_Model_forgiven_107 rfl (by decide) rfl rfl ?_
          refine w_iload (q := 111) d_Model_forgiven_109 rfl rfl ?_
          refine w_iconst (q := 112) (v := 1) d_Model_forgiven_111 rfl (by decide) ?_
          refine w_aload_n (q := 113) d_Model_forgiven_112 rfl rfl ?_
          refine w_iload (q := 115) d_Model_forgiven_113 rfl rfl ?_
          refine w_bipush (q := 117) (v := 7) d_Model_forgiven_115 rfl (by decide) ?_
          obtain ⟨v15, hv, h⟩ := bnd h
          refine w_callVi (q := 120) (M' := M_Model_of) (n' := 0) (k := 54) (As := [.int s.2.2, .int 7]) (sh' := SH) (b1 := (0, 0)) d_Model_forgiven_117 rfl mw_Model_of (by decide) (by decide) ml_Model_305 (by decide) s_54 (by decide) rfl rfl rfl (leb rfl) (bz _) (fun _ => rfl) (ok_Model_of hv) ?_
          refine w_ishl (q := 121) d_Model_forgiven_120 rfl ?_
          refine w_iconst (q := 122) (v := (-1)) d_Model_forgiven_121 rfl (by decide) ?_
          refine w_ixor (q := 123) d_Model_forgiven_122 rfl ?_
          refine w_iand (q := 124) d_Model_forgiven_123 rfl ?_
          refine w_istore (q := 126) (ls' := [some (.ref 54), none, none, none, none, some (.int (s.1 &&& ((1 <<< (v15 &&& 31)) ^^^ (-1)))), some (.int (s.2.1 + v14)), some (.int s.2.2)]) d_Model_forgiven_124 rfl (by decide) rfl rfl ?_
          refine w_iinc (q := 129) (ls' := [some (.ref 54), none, none, none, none, some (.int (s.1 &&& ((1 <<< (v15 &&& 31)) ^^^ (-1)))), some (.int (s.2.1 + v14)), some (.int (s.2.2 + 1))]) d_Model_forgiven_126 rfl (by decide) rfl rfl rfl ?_
          refine w_goto (q := 49) d_Model_forgiven_129 rfl ?_
          cases h
          exact w_ls (by exact (And.intro rfl (And.intro rfl (And.intro rfl (And.intro rfl trivial))))) hr
      · rw [if_neg c10] at h
        refine w_icmp_ne_t (q := 126) d_Model_forgiven_75 rfl c10 ?_
        refine w_iinc (q := 129) (ls' := [some (.ref 54), none, none, none, none, some (.int s.1), some (.int s.2.1), some (.int (s.2.2 + 1))]) d_Model_forgiven_126 rfl (by decide) rfl rfl rfl ?_
        refine w_goto (q := 49) d_Model_forgiven_129 rfl ?_
        cases h
        exact w_ls (by exact (And.intro rfl (And.intro rfl (And.intro rfl (And.intro rfl trivial))))) hr
def sp_Model_forgiven (F : Nat) (p0 : Int32) (p1 : Int32) (p2 : Int32) (g : Mem) : Option (Int32 × Mem) := (sp_Model_records F g).bind fun v1 => (sp_Model_pack F 70 231 0 g).bind fun v2 => (sp_Model_mothsEat F p0 p1 p2 v2).bind fun v3 => (sp_Model_records F v3.2).bind fun v4 => (sp_Model_unpack F 70 231 0 v3.2).bind fun v5 => (lpO (st_Model_forgiven_49 F p0 p1 p2 g v5) F (v1 &&& (v4 ^^^ (-1)), 0, 0)).bind fun x16 => some (x16, v5)
theorem ok_Model_forgiven {γ : GG} {tt : Bool} {F : Nat} {p0 : Int32} {p1 : Int32} {p2 : Int32} {g : Mem} {res : Int32 × Mem} (h : sp_Model_forgiven F p0 p1 p2 g = some res) : CA γ M_Model_forgiven 4 [.ref 54, .int p0, .int p1, .int p2] SH g tt (0, 0) (pI SH res.1 res.2 tt) := by
  refine CA.of mw_Model_forgiven.1 4 rfl ?_
  show WA γ M_Model_forgiven 4 0 [some (.ref 54), some (.int p0), some (.int p1), some (.int p2), none, none, none, none] [] SH g tt (0, 0) (pI SH res.1 res.2 tt)
  unfold sp_Model_forgiven at h
  refine w_aload_n (q := 1) d_Model_forgiven_0 rfl rfl ?_
  obtain ⟨v1, hv, h⟩ := bnd h
  refine w_callVi (q := 4) (M' := M_Model_records) (n' := 2) (k := 54) (As := []) (sh' := SH) (b1 := (0, 0)) d_Model_forgiven_1 rfl mw_Model_records (by decide) (by decide) ml_Model_329 (by decide) s_54 (by decide) rfl rfl rfl (leb rfl) (bz _) (fun _ => rfl) (ok_Model_records hv) ?_
  refine w_istore (q := 6) (ls' := [some (.ref 54), some (.int p0), some (.int p1), some (.int p2), some (.int v1), none, none, none]) d_Model_forgiven_4 rfl (by decide) rfl rfl ?_
  refine w_aload_n (q := 7) d_Model_forgiven_6 rfl rfl ?_
  refine w_aload_n (q := 8) d_Model_forgiven_7 rfl rfl ?_
  refine w_get (q := 11) (ci := 12) (j := 31) d_Model_forgiven_8 rfl (by decide) fl_Model_90 (by decide) (by decide) s_54 rfl rfl ?_
  refine w_iconst (q := 12) (v := 0) d_Model_forgiven_11 rfl (by decide) ?_
  obtain ⟨v2, hv, h⟩ := bnd h
  refine w_callVv (q := 15) (M' := M_Model_pack) (n' := 0) (k := 54) (As := [.ref 70, .int 0]) (sh' := SH) (b1 := (0, 0)) d_Model_forgiven_12 rfl mw_Model_pack (by decide) (by decide) ml_Model_359 (by decide) s_54 (by decide) rfl rfl rfl (leb rfl) (bz _) (fun _ => rfl) (ok_Model_pack a_70 hv) ?_
  refine w_aload_n (q := 16) d_Model_forgiven_15 rfl rfl ?_
  refine w_iload_n (q := 17) d_Model_forgiven_16 rfl rfl ?_
  refine w_iload_n (q := 18) d_Model_forgiven_17 rfl rfl ?_
  refine w_iload_n (q := 19) d_Model_forgiven_18 rfl rfl ?_
  obtain ⟨v3, hv, h⟩ := bnd h
  refine w_callVi (q := 22) (M' := M_Model_mothsEat) (n' := 3) (k := 54) (As := [.int p0, .int p1, .int p2]) (sh' := SH) (b1 := (0, 0)) d_Model_forgiven_19 rfl mw_Model_mothsEat (by decide) (by decide) ml_Model_390 (by decide) s_54 (by decide) rfl rfl rfl (leb rfl) (bz _) (fun _ => rfl) (ok_Model_mothsEat hv) ?_
  refine w_pop (q := 23) d_Model_forgiven_22 rfl rfl ?_
  refine w_iload (q := 25) d_Model_forgiven_23 rfl rfl ?_
  refine w_aload_n (q := 26) d_Model_forgiven_25 rfl rfl ?_
  obtain ⟨v4, hv, h⟩ := bnd h
  refine w_callVi (q := 29) (M' := M_Model_records) (n' := 2) (k := 54) (As := []) (sh' := SH) (b1 := (0, 0)) d_Model_forgiven_26 rfl mw_Model_records (by decide) (by decide) ml_Model_329 (by decide) s_54 (by decide) rfl rfl rfl (leb rfl) (bz _) (fun _ => rfl) (ok_Model_records hv) ?_
  refine w_iconst (q := 30) (v := (-1)) d_Model_forgiven_29 rfl (by decide) ?_
  refine w_ixor (q := 31) d_Model_forgiven_30 rfl ?_
  refine w_iand (q := 32) d_Model_forgiven_31 rfl ?_
  refine w_istore (q := 34) (ls' := [some (.ref 54), some (.int p0), some (.int p1), some (.int p2), some (.int v1), some (.int (v1 &&& (v4 ^^^ (-1)))), none, none]) d_Model_forgiven_32 rfl (by decide) rfl rfl ?_
  refine w_aload_n (q := 35) d_Model_forgiven_34 rfl rfl ?_
  refine w_aload_n (q := 36) d_Model_forgiven_35 rfl rfl ?_
  refine w_get (q := 39) (ci := 12) (j := 31) d_Model_forgiven_36 rfl (by decide) fl_Model_90 (by decide) (by decide) s_54 rfl rfl ?_
  refine w_iconst (q := 40) (v := 0) d_Model_forgiven_39 rfl (by decide) ?_
  obtain ⟨v5, hv, h⟩ := bnd h
  refine w_callVv (q := 43) (M' := M_Model_unpack) (n' := 0) (k := 54) (As := [.ref 70, .int 0]) (sh' := SH) (b1 := (0, 0)) d_Model_forgiven_40 rfl mw_Model_unpack (by decide) (by decide) ml_Model_393 (by decide) s_54 (by decide) rfl rfl rfl (leb rfl) (bz _) (fun _ => rfl) (ok_Model_unpack a_70 hv) ?_
  refine w_iconst (q := 44) (v := 0) d_Model_forgiven_43 rfl (by decide) ?_
  refine w_istore (q := 46) (ls' := [some (.ref 54), some (.int p0), some (.int p1), some (.int p2), some (.int v1), some (.int (v1 &&& (v4 ^^^ (-1)))), some (.int 0), none]) d_Model_forgiven_44 rfl (by decide) rfl rfl ?_
  refine w_iconst (q := 47) (v := 0) d_Model_forgiven_46 rfl (by decide) ?_
  refine w_istore (q := 49) (ls' := [some (.ref 54), some (.int p0), some (.int p1), some (.int p2), some (.int v1), some (.int (v1 &&& (v4 ^^^ (-1)))), some (.int 0), some (.int 0)]) d_Model_forgiven_47 rfl (by decide) rfl rfl ?_
  obtain ⟨x16, hx, h⟩ := bnd h
  refine w_ls (ls' := [some (.ref 54), none, none, none, none, some (.int (v1 &&& (v4 ^^^ (-1)))), some (.int 0), some (.int 0)]) (And.intro rfl (And.intro rfl (And.intro rfl (And.intro rfl trivial)))) ?_
  show PL_Model_forgiven_49 γ tt p0 p1 p2 g v5 _ _ (v1 &&& (v4 ^^^ (-1)), 0, 0)
  refine lp_ok (kl_Model_forgiven_49) F _ x16 hx ?_
  unfold QL_Model_forgiven_49
  refine w_iload (q := 134) d_Model_forgiven_132 rfl rfl ?_
  cases h
  exact w_ireturn d_Model_forgiven_134 rfl rfl ⟨rfl, rfl, rfl, rfl⟩
def PL_Model_amnesty_55 (γ : GG) (tt : Bool) (p0 : Int32) (p1 : Int32) (p2 : Int32) (g : Mem) (k1 : Int32) (k2 : Int32) (k3 : Int32) (b : Nat × Nat) (Φ : PO) (s : Int32 × Int32 × Int32 × Mem) : Prop := WA γ M_Model_amnesty 5 55 [some (.ref 54), some (.int k1), some (.int k2), some (.int k3), some (.int s.1), some (.int s.2.1), some (.int s.2.2.1), none] [] SH s.2.2.2 tt b Φ
def QL_Model_amnesty_55 (γ : GG) (tt : Bool) (p0 : Int32) (p1 : Int32) (p2 : Int32) (g : Mem) (k1 : Int32) (k2 : Int32) (k3 : Int32) (b : Nat × Nat) (Φ : PO) (x : (Int32 × Int32 × Mem)) : Prop := WA γ M_Model_amnesty 5 99 [none, none, none, some (.int k3), some (.int x.1), some (.int x.2.1), none, none] [] SH x.2.2 tt b Φ
def st_Model_amnesty_55 (F : Nat) (p0 : Int32) (p1 : Int32) (p2 : Int32) (g : Mem) (k1 : Int32) (k2 : Int32) (k3 : Int32) (s : Int32 × Int32 × Int32 × Mem) : Option ((Int32 × Int32 × Int32 × Mem) ⊕ ((Int32 × Int32 × Mem))) := if 60 < s.2.2.1 then some (.inr (s.1, s.2.1, s.2.2.2)) else (sp_Model_forgiven F k1 s.2.2.1 (s.2.2.1 + k2) s.2.2.2).bind fun v11 => if s.2.1 < v11.1 then some (.inl (s.2.2.1, v11.1, s.2.2.1 + 1, v11.2)) else some (.inl (s.1, s.2.1, s.2.2.1 + 1, v11.2))
theorem kl_Model_amnesty_55 {γ : GG} {tt : Bool} {F : Nat} {p0 : Int32} {p1 : Int32} {p2 : Int32} {g : Mem} {k1 : Int32} {k2 : Int32} {k3 : Int32} {b : Nat × Nat} {Φ : PO} : ∀ (s : Int32 × Int32 × Int32 × Mem) (r : (Int32 × Int32 × Int32 × Mem) ⊕ ((Int32 × Int32 × Mem))), st_Model_amnesty_55 F p0 p1 p2 g k1 k2 k3 s = some r → RQ (PL_Model_amnesty_55 γ tt p0 p1 p2 g k1 k2 k3 b Φ) (QL_Model_amnesty_55 γ tt p0 p1 p2 g k1 k2 k3 b Φ) r → PL_Model_amnesty_55 γ tt p0 p1 p2 g k1 k2 k3 b Φ s := by
  intro s r h hr
  unfold st_Model_amnesty_55 at h
  unfold PL_Model_amnesty_55
  refine w_iload (q := 57) d_Model_amnesty_55 rfl rfl ?_
  refine w_bipush (q := 59) (v := 60) d_Model_amnesty_57 rfl (by decide) ?_
  by_cases c10 : 60 < s.2.2.1
  · rw [if_pos c10] at h
    refine w_icmp_gt_t (q := 99) d_Model_amnesty_59 rfl c10 ?_
    cases h
    exact w_ls (by exact (And.intro rfl (And.intro rfl (And.intro rfl trivial)))) hr
  · rw [if_neg c10] at h
    refine w_icmp_gt_f (q := 62) d_Model_amnesty_59 99 rfl rfl c10 ?_
    refine w_aload_n (q := 63) d_Model_amnesty_62 rfl rfl ?_
    refine w_iload_n (q := 64) d_Model_amnesty_63 rfl rfl ?_
    refine w_iload (q := 66) d_Model_amnesty_64 rfl rfl ?_
    refine w_iload (q := 68) d_Model_amnesty_66 rfl rfl ?_
    refine w_iload_n (q := 69) d_Model_amnesty_68 rfl rfl ?_
    refine w_iadd (q := 70) d_Model_amnesty_69 rfl ?_
    obtain ⟨v11, hv, h⟩ := bnd h
    refine w_callVi (q := 73) (M' := M_Model_forgiven) (n' := 4) (k := 54) (As := [.int k1, .int s.2.2.1, .int (s.2.2.1 + k2)]) (sh' := SH) (b1 := (0, 0)) d_Model_amnesty_70 rfl mw_Model_forgiven (by decide) (by decide) ml_Model_418 (by decide) s_54 (by decide) rfl rfl rfl (leb rfl) (bz _) (fun _ => rfl) (ok_Model_forgiven hv) ?_
    refine w_istore (q := 75) (ls' := [some (.ref 54), some (.int k1), some (.int k2), some (.int k3), some (.int s.1), some (.int s.2.1), some (.int s.2.2.1), some (.int v11.1)]) d_Model_amnesty_73 rfl (by decide) rfl rfl ?_
    refine w_iload (q := 77) d_Model_amnesty_75 rfl rfl ?_
    refine w_iload (q := 79) d_Model_amnesty_77 rfl rfl ?_
    by_cases c12 : s.2.1 < v11.1
    · rw [if_pos c12] at h
      refine w_icmp_gt_t (q := 85) d_Model_amnesty_79 rfl c12 ?_
      refine w_iload (q := 87) d_Model_amnesty_85 rfl rfl ?_
      refine w_istore (q := 89) (ls' := [some (.ref 54), some (.int k1), some (.int k2), some (.int k3), some (.int s.2.2.1), some (.int s.2.1), some (.int s.2.2.1), some (.int v11.1)]) d_Model_amnesty_87 rfl (by decide) rfl rfl ?_
      refine w_iload (q := 91) d_Model_amnesty_89 rfl rfl ?_
      refine w_istore (q := 93) (ls' := [some (.ref 54), some (.int k1), some (.int k2), some (.int k3), some (.int s.2.2.1), some (.int v11.1), some (.int s.2.2.1), some (.int v11.1)]) d_Model_amnesty_91 rfl (by decide) rfl rfl ?_
      refine w_iinc (q := 96) (ls' := [some (.ref 54), some (.int k1), some (.int k2), some (.int k3), some (.int s.2.2.1), some (.int v11.1), some (.int (s.2.2.1 + 1)), some (.int v11.1)]) d_Model_amnesty_93 rfl (by decide) rfl rfl rfl ?_
      refine w_goto (q := 55) d_Model_amnesty_96 rfl ?_
      cases h
      exact w_ls (by exact (And.intro rfl (And.intro rfl (And.intro rfl (And.intro rfl (And.intro rfl (And.intro rfl (And.intro rfl trivial)))))))) hr
    · rw [if_neg c12] at h
      refine w_icmp_gt_f (q := 82) d_Model_amnesty_79 85 rfl rfl c12 ?_
      refine w_goto (q := 93) d_Model_amnesty_82 rfl ?_
      refine w_iinc (q := 96) (ls' := [some (.ref 54), some (.int k1), some (.int k2), some (.int k3), some (.int s.1), some (.int s.2.1), some (.int (s.2.2.1 + 1)), some (.int v11.1)]) d_Model_amnesty_93 rfl (by decide) rfl rfl rfl ?_
      refine w_goto (q := 55) d_Model_amnesty_96 rfl ?_
      cases h
      exact w_ls (by exact (And.intro rfl (And.intro rfl (And.intro rfl (And.intro rfl (And.intro rfl (And.intro rfl (And.intro rfl trivial)))))))) hr
def sp_Model_amnesty (F : Nat) (p0 : Int32) (p1 : Int32) (p2 : Int32) (g : Mem) : Option (Int32 × Mem) := (sp_Model_isMonk p0 (mset g 54 3 0)).bind fun v1 => if v1 = 0 then (sp_Model_fail 1 (mset g 54 3 0)).bind fun v3 => some (v3.1, v3.2) else if p2 < 0 then (sp_Model_fail 1 (mset g 54 3 0)).bind fun v5 => some (v5.1, v5.2) else if p2 ≤ 1 then (sp_Model_isIn p1.toInt64 0 9 (mset g 54 3 0)).bind fun v7 => if v7 = 0 then (sp_Model_fail 2 (mset g 54 3 0)).bind fun v9 => some (v9.1, v9.2) else (lpO (st_Model_amnesty_55 F p0 p1 p2 g p0 p1 p2) F (0, (-1), 0, (mset g 54 3 0))).bind fun x13 => if p2 = 0 then some (x13.2.1, x13.2.2) else some (x13.1, x13.2.2) else (sp_Model_fail 1 (mset g 54 3 0)).bind fun v15 => some (v15.1, v15.2)
theorem ok_Model_amnesty {γ : GG} {tt : Bool} {F : Nat} {p0 : Int32} {p1 : Int32} {p2 : Int32} {g : Mem} {res : Int32 × Mem} (h : sp_Model_amnesty F p0 p1 p2 g = some res) : CA γ M_Model_amnesty 5 [.ref 54, .int p0, .int p1, .int p2] SH g tt (0, 0) (pI SH res.1 res.2 tt) := by
  refine CA.of mw_Model_amnesty.1 4 rfl ?_
  show WA γ M_Model_amnesty 5 0 [some (.ref 54), some (.int p0), some (.int p1), some (.int p2), none, none, none, none] [] SH g tt (0, 0) (pI SH res.1 res.2 tt)
  unfold sp_Model_amnesty at h
  refine w_aload_n (q := 1) d_Model_amnesty_0 rfl rfl ?_
  refine w_iconst (q := 2) (v := 0) d_Model_amnesty_1 rfl (by decide) ?_
  refine w_put (q := 5) (ci := 12) (j := 3) d_Model_amnesty_2 rfl (by decide) fl_Model_114 (by decide) (by decide) s_54 rfl rfl rfl rfl rfl rfl ?_
  refine w_aload_n (q := 6) d_Model_amnesty_5 rfl rfl ?_
  refine w_iload_n (q := 7) d_Model_amnesty_6 rfl rfl ?_
  obtain ⟨v1, hv, h⟩ := bnd h
  refine w_callVi (q := 10) (M' := M_Model_isMonk) (n' := 1) (k := 54) (As := [.int p0]) (sh' := SH) (b1 := (0, 0)) d_Model_amnesty_7 rfl mw_Model_isMonk (by decide) (by decide) ml_Model_335 (by decide) s_54 (by decide) rfl rfl rfl (leb rfl) (bz _) (fun _ => rfl) (ok_Model_isMonk hv) ?_
  by_cases c2 : v1 = 0
  · rw [if_pos c2] at h
    refine w_if_eq_t (q := 22) d_Model_amnesty_10 rfl c2 ?_
    refine w_aload_n (q := 23) d_Model_amnesty_22 rfl rfl ?_
    refine w_iconst (q := 24) (v := 1) d_Model_amnesty_23 rfl (by decide) ?_
    obtain ⟨v3, hv, h⟩ := bnd h
    refine w_callVi (q := 27) (M' := M_Model_fail) (n' := 0) (k := 54) (As := [.int 1]) (sh' := SH) (b1 := (0, 0)) d_Model_amnesty_24 rfl mw_Model_fail (by decide) (by decide) ml_Model_273 (by decide) s_54 (by decide) rfl rfl rfl (leb rfl) (bz _) (fun _ => rfl) (ok_Model_fail hv) ?_
    cases h
    exact w_ireturn d_Model_amnesty_27 rfl rfl ⟨rfl, rfl, rfl, rfl⟩
  · rw [if_neg c2] at h
    refine w_if_eq_f (q := 13) d_Model_amnesty_10 22 rfl rfl c2 ?_
    refine w_iload_n (q := 14) d_Model_amnesty_13 rfl rfl ?_
    by_cases c4 : p2 < 0
    · rw [if_pos c4] at h
      refine w_if_lt_t (q := 22) d_Model_amnesty_14 rfl c4 ?_
      refine w_aload_n (q := 23) d_Model_amnesty_22 rfl rfl ?_
      refine w_iconst (q := 24) (v := 1) d_Model_amnesty_23 rfl (by decide) ?_
      obtain ⟨v5, hv, h⟩ := bnd h
      refine w_callVi (q := 27) (M' := M_Model_fail) (n' := 0) (k := 54) (As := [.int 1]) (sh' := SH) (b1 := (0, 0)) d_Model_amnesty_24 rfl mw_Model_fail (by decide) (by decide) ml_Model_273 (by decide) s_54 (by decide) rfl rfl rfl (leb rfl) (bz _) (fun _ => rfl) (ok_Model_fail hv) ?_
      cases h
      exact w_ireturn d_Model_amnesty_27 rfl rfl ⟨rfl, rfl, rfl, rfl⟩
    · rw [if_neg c4] at h
      refine w_if_lt_f (q := 17) d_Model_amnesty_14 22 rfl rfl c4 ?_
      refine w_iload_n (q := 18) d_Model_amnesty_17 rfl rfl ?_
      refine w_iconst (q := 19) (v := 1) d_Model_amnesty_18 rfl (by decide) ?_
      by_cases c6 : p2 ≤ 1
      · rw [if_pos c6] at h
        refine w_icmp_le_t (q := 28) d_Model_amnesty_19 rfl c6 ?_
        refine w_iload_n (q := 29) d_Model_amnesty_28 rfl rfl ?_
        refine w_i2l (q := 30) d_Model_amnesty_29 rfl ?_
        refine w_lconst (q := 31) (v := 0) d_Model_amnesty_30 rfl (by decide) ?_
        refine w_ldc2 (q := 34) d_Model_amnesty_31 rfl lo_Model_344 ?_
        obtain ⟨v7, hv, h⟩ := bnd h
        refine w_callSi (q := 37) (M' := M_Model_isIn) (n' := 0) (As := [.long (p1.toInt64), .long (0), .long (9)]) (sh' := SH) (b1 := (0, 0)) d_Model_amnesty_34 rfl mw_Model_isIn (by decide) (by decide) ml_Model_117 rfl rfl (leb rfl) (bz _) (fun _ => rfl) (ok_Model_isIn hv) ?_
        by_cases c8 : v7 = 0
        · rw [if_pos c8] at h
          refine w_if_ne_f (q := 40) d_Model_amnesty_37 46 rfl rfl c8 ?_
          refine w_aload_n (q := 41) d_Model_amnesty_40 rfl rfl ?_
          refine w_iconst (q := 42) (v := 2) d_Model_amnesty_41 rfl (by decide) ?_
          obtain ⟨v9, hv, h⟩ := bnd h
          refine w_callVi (q := 45) (M' := M_Model_fail) (n' := 0) (k := 54) (As := [.int 2]) (sh' := SH) (b1 := (0, 0)) d_Model_amnesty_42 rfl mw_Model_fail (by decide) (by decide) ml_Model_273 (by decide) s_54 (by decide) rfl rfl rfl (leb rfl) (bz _) (fun _ => rfl) (ok_Model_fail hv) ?_
          cases h
          exact w_ireturn d_Model_amnesty_45 rfl rfl ⟨rfl, rfl, rfl, rfl⟩
        · rw [if_neg c8] at h
          refine w_if_ne_t (q := 46) d_Model_amnesty_37 rfl c8 ?_
          refine w_iconst (q := 47) (v := 0) d_Model_amnesty_46 rfl (by decide) ?_
          refine w_istore (q := 49) (ls' := [some (.ref 54), some (.int p0), some (.int p1), some (.int p2), some (.int 0), none, none, none]) d_Model_amnesty_47 rfl (by decide) rfl rfl ?_
          refine w_iconst (q := 50) (v := (-1)) d_Model_amnesty_49 rfl (by decide) ?_
          refine w_istore (q := 52) (ls' := [some (.ref 54), some (.int p0), some (.int p1), some (.int p2), some (.int 0), some (.int ((-1))), none, none]) d_Model_amnesty_50 rfl (by decide) rfl rfl ?_
          refine w_iconst (q := 53) (v := 0) d_Model_amnesty_52 rfl (by decide) ?_
          refine w_istore (q := 55) (ls' := [some (.ref 54), some (.int p0), some (.int p1), some (.int p2), some (.int 0), some (.int ((-1))), some (.int 0), none]) d_Model_amnesty_53 rfl (by decide) rfl rfl ?_
          obtain ⟨x13, hx, h⟩ := bnd h
          refine w_ls (ls' := [some (.ref 54), some (.int p0), some (.int p1), some (.int p2), some (.int 0), some (.int ((-1))), some (.int 0), none]) (And.intro rfl (And.intro rfl (And.intro rfl (And.intro rfl (And.intro rfl (And.intro rfl (And.intro rfl trivial))))))) ?_
          show PL_Model_amnesty_55 γ tt p0 p1 p2 g p0 p1 p2 _ _ (0, (-1), 0, (mset g 54 3 0))
          refine lp_ok (kl_Model_amnesty_55) F _ x13 hx ?_
          unfold QL_Model_amnesty_55
          refine w_iload_n (q := 100) d_Model_amnesty_99 rfl rfl ?_
          by_cases c14 : p2 = 0
          · rw [if_pos c14] at h
            refine w_if_ne_f (q := 103) d_Model_amnesty_100 108 rfl rfl c14 ?_
            refine w_iload (q := 105) d_Model_amnesty_103 rfl rfl ?_
            refine w_goto (q := 110) d_Model_amnesty_105 rfl ?_
            cases h
            exact w_ireturn d_Model_amnesty_110 rfl rfl ⟨rfl, rfl, rfl, rfl⟩
          · rw [if_neg c14] at h
            refine w_if_ne_t (q := 108) d_Model_amnesty_100 rfl c14 ?_
            refine w_iload (q := 110) d_Model_amnesty_108 rfl rfl ?_
            cases h
            exact w_ireturn d_Model_amnesty_110 rfl rfl ⟨rfl, rfl, rfl, rfl⟩
      · rw [if_neg c6] at h
        refine w_icmp_le_f (q := 22) d_Model_amnesty_19 28 rfl rfl c6 ?_
        refine w_aload_n (q := 23) d_Model_amnesty_22 rfl rfl ?_
        refine w_iconst (q := 24) (v := 1) d_Model_amnesty_23 rfl (by decide) ?_
        obtain ⟨v15, hv, h⟩ := bnd h
        refine w_callVi (q := 27) (M' := M_Model_fail) (n' := 0) (k := 54) (As := [.int 1]) (sh' := SH) (b1 := (0, 0)) d_Model_amnesty_24 rfl mw_Model_fail (by decide) (by decide) ml_Model_273 (by decide) s_54 (by decide) rfl rfl rfl (leb rfl) (bz _) (fun _ => rfl) (ok_Model_fail hv) ?_
        cases h
        exact w_ireturn d_Model_amnesty_27 rfl rfl ⟨rfl, rfl, rfl, rfl⟩
def PL_Model_week_38 (γ : GG) (tt : Bool) (p0 : Int32) (p1 : Int32) (g : Mem) (k1 : Int32) (k2 : Int32) (m0 : Mem) (b : Nat × Nat) (Φ : PO) (s : Int32 × Int32) : Prop := WA γ M_Model_week 3 38 [some (.ref 54), some (.int k1), some (.int k2), some (.int s.1), some (.int s.2), none] [] SH m0 tt b Φ
def QL_Model_week_38 (γ : GG) (tt : Bool) (p0 : Int32) (p1 : Int32) (g : Mem) (k1 : Int32) (k2 : Int32) (m0 : Mem) (b : Nat × Nat) (Φ : PO) (x : (Int32)) : Prop := WA γ M_Model_week 3 117 [none, none, none, some (.int x), none, none] [] SH m0 tt b Φ
def st_Model_week_38 (F : Nat) (p0 : Int32) (p1 : Int32) (g : Mem) (k1 : Int32) (k2 : Int32) (m0 : Mem) (s : Int32 × Int32) : Option ((Int32 × Int32) ⊕ ((Int32))) := if (m0 54 26) ≤ s.2 then some (.inr s.1) else (sp_Model_isThere s.2 m0).bind fun v8 => if v8 = 0 then some (.inl (s.1, s.2 + 1)) else (sp_Model_of s.2 1 m0).bind fun v10 => if v10 = k1 then (sp_Model_old s.2 m0).bind fun v12 => (rd m0 58 12 3).bind fun v13 => (dv v12 v13).bind fun v14 => if v14 = k2 then some (.inl (s.1 + 1, s.2 + 1)) else if k2 = (-1) then if v14 < 7 then some (.inl (s.1 + 0, s.2 + 1)) else some (.inl (s.1 + 1, s.2 + 1)) else some (.inl (s.1 + 0, s.2 + 1)) else some (.inl (s.1, s.2 + 1))
theorem kl_Model_week_38 {γ : GG} {tt : Bool} {F : Nat} {p0 : Int32} {p1 : Int32} {g : Mem} {k1 : Int32} {k2 : Int32} {m0 : Mem} {b : Nat × Nat} {Φ : PO} : ∀ (s : Int32 × Int32) (r : (Int32 × Int32) ⊕ ((Int32))), st_Model_week_38 F p0 p1 g k1 k2 m0 s = some r → RQ (PL_Model_week_38 γ tt p0 p1 g k1 k2 m0 b Φ) (QL_Model_week_38 γ tt p0 p1 g k1 k2 m0 b Φ) r → PL_Model_week_38 γ tt p0 p1 g k1 k2 m0 b Φ s := by
  intro s r h hr
  unfold st_Model_week_38 at h
  unfold PL_Model_week_38
  refine w_iload (q := 40) d_Model_week_38 rfl rfl ?_
  refine w_aload_n (q := 41) d_Model_week_40 rfl rfl ?_
  refine w_get (q := 44) (ci := 12) (j := 26) d_Model_week_41 rfl (by decide) fl_Model_121 (by decide) (by decide) s_54 rfl rfl ?_
  by_cases c7 : (m0 54 26) ≤ s.2
  · rw [if_pos c7] at h
    refine w_icmp_ge_t (q := 117) d_Model_week_44 rfl c7 ?_
    cases h
    exact w_ls (by exact (And.intro rfl trivial)) hr
  · rw [if_neg c7] at h
    refine w_icmp_ge_f (q := 47) d_Model_week_44 117 rfl rfl c7 ?_
    refine w_aload_n (q := 48) d_Model_week_47 rfl rfl ?_
    refine w_iload (q := 50) d_Model_week_48 rfl rfl ?_
    obtain ⟨v8, hv, h⟩ := bnd h
    refine w_callVi (q := 53) (M' := M_Model_isThere) (n' := 1) (k := 54) (As := [.int s.2]) (sh' := SH) (b1 := (0, 0)) d_Model_week_50 rfl mw_Model_isThere (by decide) (by decide) ml_Model_315 (by decide) s_54 (by decide) rfl rfl rfl (leb rfl) (bz _) (fun _ => rfl) (ok_Model_isThere hv) ?_
    by_cases c9 : v8 = 0
    · rw [if_pos c9] at h
      refine w_if_eq_t (q := 111) d_Model_week_53 rfl c9 ?_
      refine w_iinc (q := 114) (ls' := [some (.ref 54), some (.int k1), some (.int k2), some (.int s.1), some (.int (s.2 + 1)), none]) d_Model_week_111 rfl (by decide) rfl rfl rfl ?_
      refine w_goto (q := 38) d_Model_week_114 rfl ?_
      cases h
      exact w_ls (by exact (And.intro rfl (And.intro rfl (And.intro rfl (And.intro rfl (And.intro rfl trivial)))))) hr
    · rw [if_neg c9] at h
      refine w_if_eq_f (q := 56) d_Model_week_53 111 rfl rfl c9 ?_
      refine w_aload_n (q := 57) d_Model_week_56 rfl rfl ?_
      refine w_iload (q := 59) d_Model_week_57 rfl rfl ?_
      refine w_iconst (q := 60) (v := 1) d_Model_week_59 rfl (by decide) ?_
      obtain ⟨v10, hv, h⟩ := bnd h
      refine w_callVi (q := 63) (M' := M_Model_of) (n' := 0) (k := 54) (As := [.int s.2, .int 1]) (sh' := SH) (b1 := (0, 0)) d_Model_week_60 rfl mw_Model_of (by decide) (by decide) ml_Model_305 (by decide) s_54 (by decide) rfl rfl rfl (leb rfl) (bz _) (fun _ => rfl) (ok_Model_of hv) ?_
      refine w_iload_n (q := 64) d_Model_week_63 rfl rfl ?_
      by_cases c11 : v10 = k1
      · rw [if_pos c11] at h
        refine w_icmp_eq_t (q := 70) d_Model_week_64 rfl c11 ?_
        refine w_aload_n (q := 71) d_Model_week_70 rfl rfl ?_
        refine w_iload (q := 73) d_Model_week_71 rfl rfl ?_
        obtain ⟨v12, hv, h⟩ := bnd h
        refine w_callVi (q := 76) (M' := M_Model_old) (n' := 2) (k := 54) (As := [.int s.2]) (sh' := SH) (b1 := (0, 0)) d_Model_week_73 rfl mw_Model_old (by decide) (by decide) ml_Model_318 (by decide) s_54 (by decide) rfl rfl rfl (leb rfl) (bz _) (fun _ => rfl) (ok_Model_old hv) ?_
        refine w_aload_n (q := 77) d_Model_week_76 rfl rfl ?_
        refine w_get (q := 80) (ci := 12) (j := 4) d_Model_week_77 rfl (by decide) fl_Model_51 (by decide) (by decide) s_54 rfl rfl ?_
        refine w_iconst (q := 81) (v := 3) d_Model_week_80 rfl (by decide) ?_
        obtain ⟨v13, hv, h⟩ := bnd h
        obtain ⟨hi, hv⟩ := rd_ok hv
        refine w_iald (q := 82) (t := 0) d_Model_week_81 rfl a_58.2 a_58.1 hi rfl ?_
        rw [hv]
        obtain ⟨v14, hv, h⟩ := bnd h
        obtain ⟨hz, hv⟩ := dv_ok hv
        refine w_idiv (q := 83) d_Model_week_82 rfl hz ?_
        rw [hv]
        refine w_istore (q := 85) (ls' := [some (.ref 54), some (.int k1), some (.int k2), some (.int s.1), some (.int s.2), some (.int v14)]) d_Model_week_83 rfl (by decide) rfl rfl ?_
        refine w_iload_n (q := 86) d_Model_week_85 rfl rfl ?_
        refine w_iload (q := 88) d_Model_week_86 rfl rfl ?_
        refine w_iload_n (q := 89) d_Model_week_88 rfl rfl ?_
        by_cases c15 : v14 = k2
        · rw [if_pos c15] at h
          refine w_icmp_eq_t (q := 104) d_Model_week_89 rfl c15 ?_
          refine w_iconst (q := 105) (v := 1) d_Model_week_104 rfl (by decide) ?_
          refine w_goto (q := 109) d_Model_week_105 rfl ?_
          refine w_iadd (q := 110) d_Model_week_109 rfl ?_
          refine w_istore_n (q := 111) (ls' := [some (.ref 54), some (.int k1), some (.int k2), some (.int (s.1 + 1)), some (.int s.2), some (.int v14)]) d_Model_week_110 rfl (by decide) rfl rfl ?_
          refine w_iinc (q := 114) (ls' := [some (.ref 54), some (.int k1), some (.int k2), some (.int (s.1 + 1)), some (.int (s.2 + 1)), some (.int v14)]) d_Model_week_111 rfl (by decide) rfl rfl rfl ?_
          refine w_goto (q := 38) d_Model_week_114 rfl ?_
          cases h
          exact w_ls (by exact (And.intro rfl (And.intro rfl (And.intro rfl (And.intro rfl (And.intro rfl trivial)))))) hr
        · rw [if_neg c15] at h
          refine w_icmp_eq_f (q := 92) d_Model_week_89 104 rfl rfl c15 ?_
          refine w_iload_n (q := 93) d_Model_week_92 rfl rfl ?_
          refine w_iconst (q := 94) (v := (-1)) d_Model_week_93 rfl (by decide) ?_
          by_cases c16 : k2 = (-1)
          · rw [if_pos c16] at h
            refine w_icmp_ne_f (q := 97) d_Model_week_94 108 rfl rfl c16 ?_
            refine w_iload (q := 99) d_Model_week_97 rfl rfl ?_
            refine w_bipush (q := 101) (v := 7) d_Model_week_99 rfl (by decide) ?_
            by_cases c17 : v14 < 7
            · rw [if_pos c17] at h
              refine w_icmp_lt_t (q := 108) d_Model_week_101 rfl c17 ?_
              refine w_iconst (q := 109) (v := 0) d_Model_week_108 rfl (by decide) ?_
              refine w_iadd (q := 110) d_Model_week_109 rfl ?_
              refine w_istore_n (q := 111) (ls' := [some (.ref 54), some (.int k1), some (.int k2), some (.int (s.1 + 0)), some (.int s.2), some (.int v14)]) d_Model_week_110 rfl (by decide) rfl rfl ?_
              refine w_iinc (q := 114) (ls' := [some (.ref 54), some (.int k1), some (.int k2), some (.int (s.1 + 0)), some (.int (s.2 + 1)), some (.int v14)]) d_Model_week_111 rfl (by decide) rfl rfl rfl ?_
              refine w_goto (q := 38) d_Model_week_114 rfl ?_
              cases h
              exact w_ls (by exact (And.intro rfl (And.intro rfl (And.intro rfl (And.intro rfl (And.intro rfl trivial)))))) hr
            · rw [if_neg c17] at h
              refine w_icmp_lt_f (q := 104) d_Model_week_101 108 rfl rfl c17 ?_
              refine w_iconst (q := 105) (v := 1) d_Model_week_104 rfl (by decide) ?_
              refine w_goto (q := 109) d_Model_week_105 rfl ?_
              refine w_iadd (q := 110) d_Model_week_109 rfl ?_
              refine w_istore_n (q := 111) (ls' := [some (.ref 54), some (.int k1), some (.int k2), some (.int (s.1 + 1)), some (.int s.2), some (.int v14)]) d_Model_week_110 rfl (by decide) rfl rfl ?_
              refine w_iinc (q := 114) (ls' := [some (.ref 54), some (.int k1), some (.int k2), some (.int (s.1 + 1)), some (.int (s.2 + 1)), some (.int v14)]) d_Model_week_111 rfl (by decide) rfl rfl rfl ?_
              refine w_goto (q := 38) d_Model_week_114 rfl ?_
              cases h
              exact w_ls (by exact (And.intro rfl (And.intro rfl (And.intro rfl (And.intro rfl (And.intro rfl trivial)))))) hr
          · rw [if_neg c16] at h
            refine w_icmp_ne_t (q := 108) d_Model_week_94 rfl c16 ?_
            refine w_iconst (q := 109) (v := 0) d_Model_week_108 rfl (by decide) ?_
            refine w_iadd (q := 110) d_Model_week_109 rfl ?_
            refine w_istore_n (q := 111) (ls' := [some (.ref 54), some (.int k1), some (.int k2), some (.int (s.1 + 0)), some (.int s.2), some (.int v14)]) d_Model_week_110 rfl (by decide) rfl rfl ?_
            refine w_iinc (q := 114) (ls' := [some (.ref 54), some (.int k1), some (.int k2), some (.int (s.1 + 0)), some (.int (s.2 + 1)), some (.int v14)]) d_Model_week_111 rfl (by decide) rfl rfl rfl ?_
            refine w_goto (q := 38) d_Model_week_114 rfl ?_
            cases h
            exact w_ls (by exact (And.intro rfl (And.intro rfl (And.intro rfl (And.intro rfl (And.intro rfl trivial)))))) hr
      · rw [if_neg c11] at h
        refine w_icmp_eq_f (q := 67) d_Model_week_64 70 rfl rfl c11 ?_
        refine w_goto (q := 111) d_Model_week_67 rfl ?_
        refine w_iinc (q := 114) (ls' := [some (.ref 54), some (.int k1), some (.int k2), some (.int s.1), some (.int (s.2 + 1)), none]) d_Model_week_111 rfl (by decide) rfl rfl rfl ?_
        refine w_goto (q := 38) d_Model_week_114 rfl ?_
        cases h
        exact w_ls (by exact (And.intro rfl (And.intro rfl (And.intro rfl (And.intro rfl (And.intro rfl trivial)))))) hr
def sp_Model_week (F : Nat) (p0 : Int32) (p1 : Int32) (g : Mem) : Option (Int32 × Mem) := (sp_Model_isMonk p0 (mset g 54 3 0)).bind fun v1 => if v1 = 0 then (sp_Model_fail 1 (mset g 54 3 0)).bind fun v3 => some (v3.1, v3.2) else (sp_Model_isIn p1.toInt64 (-1) 6 (mset g 54 3 0)).bind fun v4 => if v4 = 0 then (sp_Model_fail 1 (mset g 54 3 0)).bind fun v6 => some (v6.1, v6.2) else (lpO (st_Model_week_38 F p0 p1 g p0 p1 (mset g 54 3 0)) F (0, 0)).bind fun x18 => some (x18, (mset g 54 3 0))
theorem ok_Model_week {γ : GG} {tt : Bool} {F : Nat} {p0 : Int32} {p1 : Int32} {g : Mem} {res : Int32 × Mem} (h : sp_Model_week F p0 p1 g = some res) : CA γ M_Model_week 3 [.ref 54, .int p0, .int p1] SH g tt (0, 0) (pI SH res.1 res.2 tt) := by
  refine CA.of mw_Model_week.1 3 rfl ?_
  show WA γ M_Model_week 3 0 [some (.ref 54), some (.int p0), some (.int p1), none, none, none] [] SH g tt (0, 0) (pI SH res.1 res.2 tt)
  unfold sp_Model_week at h
  refine w_aload_n (q := 1) d_Model_week_0 rfl rfl ?_
  refine w_iconst (q := 2) (v := 0) d_Model_week_1 rfl (by decide) ?_
  refine w_put (q := 5) (ci := 12) (j := 3) d_Model_week_2 rfl (by decide) fl_Model_114 (by decide) (by decide) s_54 rfl rfl rfl rfl rfl rfl ?_
  refine w_aload_n (q := 6) d_Model_week_5 rfl rfl ?_
  refine w_iload_n (q := 7) d_Model_week_6 rfl rfl ?_
  obtain ⟨v1, hv, h⟩ := bnd h
  refine w_callVi (q := 10) (M' := M_Model_isMonk) (n' := 1) (k := 54) (As := [.int p0]) (sh' := SH) (b1 := (0, 0)) d_Model_week_7 rfl mw_Model_isMonk (by decide) (by decide) ml_Model_335 (by decide) s_54 (by decide) rfl rfl rfl (leb rfl) (bz _) (fun _ => rfl) (ok_Model_isMonk hv) ?_
  by_cases c2 : v1 = 0
  · rw [if_pos c2] at h
    refine w_if_eq_t (q := 27) d_Model_week_10 rfl c2 ?_
    refine w_aload_n (q := 28) d_Model_week_27 rfl rfl ?_
    refine w_iconst (q := 29) (v := 1) d_Model_week_28 rfl (by decide) ?_
    obtain ⟨v3, hv, h⟩ := bnd h
    refine w_callVi (q := 32) (M' := M_Model_fail) (n' := 0) (k := 54) (As := [.int 1]) (sh' := SH) (b1 := (0, 0)) d_Model_week_29 rfl mw_Model_fail (by decide) (by decide) ml_Model_273 (by decide) s_54 (by decide) rfl rfl rfl (leb rfl) (bz _) (fun _ => rfl) (ok_Model_fail hv) ?_
    cases h
    exact w_ireturn d_Model_week_32 rfl rfl ⟨rfl, rfl, rfl, rfl⟩
  · rw [if_neg c2] at h
    refine w_if_eq_f (q := 13) d_Model_week_10 27 rfl rfl c2 ?_
    refine w_iload_n (q := 14) d_Model_week_13 rfl rfl ?_
    refine w_i2l (q := 15) d_Model_week_14 rfl ?_
    refine w_ldc2 (q := 18) d_Model_week_15 rfl lo_Model_421 ?_
    refine w_ldc2 (q := 21) d_Model_week_18 rfl lo_Model_410 ?_
    obtain ⟨v4, hv, h⟩ := bnd h
    refine w_callSi (q := 24) (M' := M_Model_isIn) (n' := 0) (As := [.long (p1.toInt64), .long ((-1)), .long (6)]) (sh' := SH) (b1 := (0, 0)) d_Model_week_21 rfl mw_Model_isIn (by decide) (by decide) ml_Model_117 rfl rfl (leb rfl) (bz _) (fun _ => rfl) (ok_Model_isIn hv) ?_
    by_cases c5 : v4 = 0
    · rw [if_pos c5] at h
      refine w_if_ne_f (q := 27) d_Model_week_24 33 rfl rfl c5 ?_
      refine w_aload_n (q := 28) d_Model_week_27 rfl rfl ?_
      refine w_iconst (q := 29) (v := 1) d_Model_week_28 rfl (by decide) ?_
      obtain ⟨v6, hv, h⟩ := bnd h
      refine w_callVi (q := 32) (M' := M_Model_fail) (n' := 0) (k := 54) (As := [.int 1]) (sh' := SH) (b1 := (0, 0)) d_Model_week_29 rfl mw_Model_fail (by decide) (by decide) ml_Model_273 (by decide) s_54 (by decide) rfl rfl rfl (leb rfl) (bz _) (fun _ => rfl) (ok_Model_fail hv) ?_
      cases h
      exact w_ireturn d_Model_week_32 rfl rfl ⟨rfl, rfl, rfl, rfl⟩
    · rw [if_neg c5] at h
      refine w_if_ne_t (q := 33) d_Model_week_24 rfl c5 ?_
      refine w_iconst (q := 34) (v := 0) d_Model_week_33 rfl (by decide) ?_
      refine w_istore_n (q := 35) (ls' := [some (.ref 54), some (.int p0), some (.int p1), some (.int 0), none, none]) d_Model_week_34 rfl (by decide) rfl rfl ?_
      refine w_iconst (q := 36) (v := 0) d_Model_week_35 rfl (by decide) ?_
      refine w_istore (q := 38) (ls' := [some (.ref 54), some (.int p0), some (.int p1), some (.int 0), some (.int 0), none]) d_Model_week_36 rfl (by decide) rfl rfl ?_
      obtain ⟨x18, hx, h⟩ := bnd h
      refine w_ls (ls' := [some (.ref 54), some (.int p0), some (.int p1), some (.int 0), some (.int 0), none]) (And.intro rfl (And.intro rfl (And.intro rfl (And.intro rfl (And.intro rfl trivial))))) ?_
      show PL_Model_week_38 γ tt p0 p1 g p0 p1 (mset g 54 3 0) _ _ (0, 0)
      refine lp_ok (kl_Model_week_38) F _ x18 hx ?_
      unfold QL_Model_week_38
      refine w_iload_n (q := 118) d_Model_week_117 rfl rfl ?_
      cases h
      exact w_ireturn d_Model_week_118 rfl rfl ⟨rfl, rfl, rfl, rfl⟩
def PL_Model_oldest_35 (γ : GG) (tt : Bool) (p0 : Int32) (p1 : Int32) (g : Mem) (k1 : Int32) (k2 : Int32) (m0 : Mem) (b : Nat × Nat) (Φ : PO) (s : Int32 × Int32) : Prop := WA γ M_Model_oldest 3 35 [some (.ref 54), some (.int k1), some (.int k2), some (.int s.1), some (.int s.2)] [] SH m0 tt b Φ
def QL_Model_oldest_35 (γ : GG) (tt : Bool) (p0 : Int32) (p1 : Int32) (g : Mem) (k1 : Int32) (k2 : Int32) (m0 : Mem) (b : Nat × Nat) (Φ : PO) (x : (Int32)) : Prop := WA γ M_Model_oldest 3 85 [none, none, none, some (.int x), none] [] SH m0 tt b Φ
def st_Model_oldest_35 (F : Nat) (p0 : Int32) (p1 : Int32) (g : Mem) (k1 : Int32) (k2 : Int32) (m0 : Mem) (s : Int32 × Int32) : Option ((Int32 × Int32) ⊕ ((Int32))) := if (m0 54 26) ≤ s.2 then some (.inr s.1) else (sp_Model_isOfKind s.2 k1 k2 m0).bind fun v8 => if v8 = 0 then some (.inl (s.1, s.2 + 1)) else if s.1 = (-1) then some (.inl (s.2, s.2 + 1)) else (sp_Model_of s.2 2 m0).bind fun v11 => (sp_Model_of s.1 2 m0).bind fun v12 => if v12 ≤ v11 then some (.inl (s.1, s.2 + 1)) else some (.inl (s.2, s.2 + 1))
theorem kl_Model_oldest_35 {γ : GG} {tt : Bool} {F : Nat} {p0 : Int32} {p1 : Int32} {g : Mem} {k1 : Int32} {k2 : Int32} {m0 : Mem} {b : Nat × Nat} {Φ : PO} : ∀ (s : Int32 × Int32) (r : (Int32 × Int32) ⊕ ((Int32))), st_Model_oldest_35 F p0 p1 g k1 k2 m0 s = some r → RQ (PL_Model_oldest_35 γ tt p0 p1 g k1 k2 m0 b Φ) (QL_Model_oldest_35 γ tt p0 p1 g k1 k2 m0 b Φ) r → PL_Model_oldest_35 γ tt p0 p1 g k1 k2 m0 b Φ s := by
  intro s r h hr
  unfold st_Model_oldest_35 at h
  unfold PL_Model_oldest_35
  refine w_iload (q := 37) d_Model_oldest_35 rfl rfl ?_
  refine w_aload_n (q := 38) d_Model_oldest_37 rfl rfl ?_
  refine w_get (q := 41) (ci := 12) (j := 26) d_Model_oldest_38 rfl (by decide) fl_Model_121 (by decide) (by decide) s_54 rfl rfl ?_
  by_cases c7 : (m0 54 26) ≤ s.2
  · rw [if_pos c7] at h
    refine w_icmp_ge_t (q := 85) d_Model_oldest_41 rfl c7 ?_
    cases h
    exact w_ls (by exact (And.intro rfl trivial)) hr
  · rw [if_neg c7] at h
    refine w_icmp_ge_f (q := 44) d_Model_oldest_41 85 rfl rfl c7 ?_
    refine w_aload_n (q := 45) d_Model_oldest_44 rfl rfl ?_
    refine w_iload (q := 47) d_Model_oldest_45 rfl rfl ?_
    refine w_iload_n (q := 48) d_Model_oldest_47 rfl rfl ?_
    refine w_iload_n (q := 49) d_Model_oldest_48 rfl rfl ?_
    obtain ⟨v8, hv, h⟩ := bnd h
    refine w_callVi (q := 52) (M' := M_Model_isOfKind) (n' := 2) (k := 54) (As := [.int s.2, .int k1, .int k2]) (sh' := SH) (b1 := (0, 0)) d_Model_oldest_49 rfl mw_Model_isOfKind (by decide) (by decide) ml_Model_396 (by decide) s_54 (by decide) rfl rfl rfl (leb rfl) (bz _) (fun _ => rfl) (ok_Model_isOfKind hv) ?_
    by_cases c9 : v8 = 0
    · rw [if_pos c9] at h
      refine w_if_eq_t (q := 79) d_Model_oldest_52 rfl c9 ?_
      refine w_iinc (q := 82) (ls' := [some (.ref 54), some (.int k1), some (.int k2), some (.int s.1), some (.int (s.2 + 1))]) d_Model_oldest_79 rfl (by decide) rfl rfl rfl ?_
      refine w_goto (q := 35) d_Model_oldest_82 rfl ?_
      cases h
      exact w_ls (by exact (And.intro rfl (And.intro rfl (And.intro rfl (And.intro rfl (And.intro rfl trivial)))))) hr
    · rw [if_neg c9] at h
      refine w_if_eq_f (q := 55) d_Model_oldest_52 79 rfl rfl c9 ?_
      refine w_iload_n (q := 56) d_Model_oldest_55 rfl rfl ?_
      refine w_iconst (q := 57) (v := (-1)) d_Model_oldest_56 rfl (by decide) ?_
      by_cases c10 : s.1 = (-1)
      · rw [if_pos c10] at h
        refine w_icmp_eq_t (q := 76) d_Model_oldest_57 rfl c10 ?_
        refine w_iload (q := 78) d_Model_oldest_76 rfl rfl ?_
        refine w_istore_n (q := 79) (ls' := [some (.ref 54), some (.int k1), some (.int k2), some (.int s.2), some (.int s.2)]) d_Model_oldest_78 rfl (by decide) rfl rfl ?_
        refine w_iinc (q := 82) (ls' := [some (.ref 54), some (.int k1), some (.int k2), some (.int s.2), some (.int (s.2 + 1))]) d_Model_oldest_79 rfl (by decide) rfl rfl rfl ?_
        refine w_goto (q := 35) d_Model_oldest_82 rfl ?_
        cases h
        exact w_ls (by exact (And.intro rfl (And.intro rfl (And.intro rfl (And.intro rfl (And.intro rfl trivial)))))) hr
      · rw [if_neg c10] at h
        refine w_icmp_eq_f (q := 60) d_Model_oldest_57 76 rfl rfl c10 ?_
        refine w_aload_n (q := 61) d_Model_oldest_60 rfl rfl ?_
        refine w_iload (q := 63) d_Model_oldest_61 rfl rfl ?_
        refine w_iconst (q := 64) (v := 2) d_Model_oldest_63 rfl (by decide) ?_
        obtain ⟨v11, hv, h⟩ := bnd h
        refine w_callVi (q := 67) (M' := M_Model_of) (n' := 0) (k := 54) (As := [.int s.2, .int 2]) (sh' := SH) (b1 := (0, 0)) d_Model_oldest_64 rfl mw_Model_of (by decide) (by decide) ml_Model_305 (by decide) s_54 (by decide) rfl rfl rfl (leb rfl) (bz _) (fun _ => rfl) (ok_Model_of hv) ?_
        refine w_aload_n (q := 68) d_Model_oldest_67 rfl rfl ?_
        refine w_iload_n (q := 69) d_Model_oldest_68 rfl rfl ?_
        refine w_iconst (q := 70) (v := 2) d_Model_oldest_69 rfl (by decide) ?_
        obtain ⟨v12, hv, h⟩ := bnd h
        refine w_callVi (q := 73) (M' := M_Model_of) (n' := 0) (k := 54) (As := [.int s.1, .int 2]) (sh' := SH) (b1 := (0, 0)) d_Model_oldest_70 rfl mw_Model_of (by decide) (by decide) ml_Model_305 (by decide) s_54 (by decide) rfl rfl rfl (leb rfl) (bz _) (fun _ => rfl) (ok_Model_of hv) ?_
        by_cases c13 : v12 ≤ v11
        · rw [if_pos c13] at h
          refine w_icmp_ge_t (q := 79) d_Model_oldest_73 rfl c13 ?_
          refine w_iinc (q := 82) (ls' := [some (.ref 54), some (.int k1), some (.int k2), some (.int s.1), some (.int (s.2 + 1))]) d_Model_oldest_79 rfl (by decide) rfl rfl rfl ?_
          refine w_goto (q := 35) d_Model_oldest_82 rfl ?_
          cases h
          exact w_ls (by exact (And.intro rfl (And.intro rfl (And.intro rfl (And.intro rfl (And.intro rfl trivial)))))) hr
        · rw [if_neg c13] at h
          refine w_icmp_ge_f (q := 76) d_Model_oldest_73 79 rfl rfl c13 ?_
          refine w_iload (q := 78) d_Model_oldest_76 rfl rfl ?_
          refine w_istore_n (q := 79) (ls' := [some (.ref 54), some (.int k1), some (.int k2), some (.int s.2), some (.int s.2)]) d_Model_oldest_78 rfl (by decide) rfl rfl ?_
          refine w_iinc (q := 82) (ls' := [some (.ref 54), some (.int k1), some (.int k2), some (.int s.2), some (.int (s.2 + 1))]) d_Model_oldest_79 rfl (by decide) rfl rfl rfl ?_
          refine w_goto (q := 35) d_Model_oldest_82 rfl ?_
          cases h
          exact w_ls (by exact (And.intro rfl (And.intro rfl (And.intro rfl (And.intro rfl (And.intro rfl trivial)))))) hr
def sp_Model_oldest (F : Nat) (p0 : Int32) (p1 : Int32) (g : Mem) : Option (Int32 × Mem) := (sp_Model_isIn p0.toInt64 0 3 (mset g 54 3 0)).bind fun v1 => if v1 = 0 then (sp_Model_fail 1 (mset g 54 3 0)).bind fun v3 => some (v3.1, v3.2) else (sp_Model_isAbout p1 (mset g 54 3 0)).bind fun v4 => if v4 = 0 then (sp_Model_fail 1 (mset g 54 3 0)).bind fun v6 => some (v6.1, v6.2) else (lpO (st_Model_oldest_35 F p0 p1 g p0 p1 (mset g 54 3 0)) F ((-1), 0)).bind fun x14 => some (x14, (mset g 54 3 0))
theorem ok_Model_oldest {γ : GG} {tt : Bool} {F : Nat} {p0 : Int32} {p1 : Int32} {g : Mem} {res : Int32 × Mem} (h : sp_Model_oldest F p0 p1 g = some res) : CA γ M_Model_oldest 3 [.ref 54, .int p0, .int p1] SH g tt (0, 0) (pI SH res.1 res.2 tt) := by
  refine CA.of mw_Model_oldest.1 2 rfl ?_
  show WA γ M_Model_oldest 3 0 [some (.ref 54), some (.int p0), some (.int p1), none, none] [] SH g tt (0, 0) (pI SH res.1 res.2 tt)
  unfold sp_Model_oldest at h
  refine w_aload_n (q := 1) d_Model_oldest_0 rfl rfl ?_
  refine w_iconst (q := 2) (v := 0) d_Model_oldest_1 rfl (by decide) ?_
  refine w_put (q := 5) (ci := 12) (j := 3) d_Model_oldest_2 rfl (by decide) fl_Model_114 (by decide) (by decide) s_54 rfl rfl rfl rfl rfl rfl ?_
  refine w_iload_n (q := 6) d_Model_oldest_5 rfl rfl ?_
  refine w_i2l (q := 7) d_Model_oldest_6 rfl ?_
  refine w_lconst (q := 8) (v := 0) d_Model_oldest_7 rfl (by decide) ?_
  refine w_ldc2 (q := 11) d_Model_oldest_8 rfl lo_Model_374 ?_
  obtain ⟨v1, hv, h⟩ := bnd h
  refine w_callSi (q := 14) (M' := M_Model_isIn) (n' := 0) (As := [.long (p0.toInt64), .long (0), .long (3)]) (sh' := SH) (b1 := (0, 0)) d_Model_oldest_11 rfl mw_Model_isIn (by decide) (by decide) ml_Model_117 rfl rfl (leb rfl) (bz _) (fun _ => rfl) (ok_Model_isIn hv) ?_
  by_cases c2 : v1 = 0
  · rw [if_pos c2] at h
    refine w_if_eq_t (q := 24) d_Model_oldest_14 rfl c2 ?_
    refine w_aload_n (q := 25) d_Model_oldest_24 rfl rfl ?_
    refine w_iconst (q := 26) (v := 1) d_Model_oldest_25 rfl (by decide) ?_
    obtain ⟨v3, hv, h⟩ := bnd h
    refine w_callVi (q := 29) (M' := M_Model_fail) (n' := 0) (k := 54) (As := [.int 1]) (sh' := SH) (b1 := (0, 0)) d_Model_oldest_26 rfl mw_Model_fail (by decide) (by decide) ml_Model_273 (by decide) s_54 (by decide) rfl rfl rfl (leb rfl) (bz _) (fun _ => rfl) (ok_Model_fail hv) ?_
    cases h
    exact w_ireturn d_Model_oldest_29 rfl rfl ⟨rfl, rfl, rfl, rfl⟩
  · rw [if_neg c2] at h
    refine w_if_eq_f (q := 17) d_Model_oldest_14 24 rfl rfl c2 ?_
    refine w_iload_n (q := 18) d_Model_oldest_17 rfl rfl ?_
    obtain ⟨v4, hv, h⟩ := bnd h
    refine w_callSi (q := 21) (M' := M_Model_isAbout) (n' := 1) (As := [.int p1]) (sh' := SH) (b1 := (0, 0)) d_Model_oldest_18 rfl mw_Model_isAbout (by decide) (by decide) ml_Model_376 rfl rfl (leb rfl) (bz _) (fun _ => rfl) (ok_Model_isAbout hv) ?_
    by_cases c5 : v4 = 0
    · rw [if_pos c5] at h
      refine w_if_ne_f (q := 24) d_Model_oldest_21 30 rfl rfl c5 ?_
      refine w_aload_n (q := 25) d_Model_oldest_24 rfl rfl ?_
      refine w_iconst (q := 26) (v := 1) d_Model_oldest_25 rfl (by decide) ?_
      obtain ⟨v6, hv, h⟩ := bnd h
      refine w_callVi (q := 29) (M' := M_Model_fail) (n' := 0) (k := 54) (As := [.int 1]) (sh' := SH) (b1 := (0, 0)) d_Model_oldest_26 rfl mw_Model_fail (by decide) (by decide) ml_Model_273 (by decide) s_54 (by decide) rfl rfl rfl (leb rfl) (bz _) (fun _ => rfl) (ok_Model_fail hv) ?_
      cases h
      exact w_ireturn d_Model_oldest_29 rfl rfl ⟨rfl, rfl, rfl, rfl⟩
    · rw [if_neg c5] at h
      refine w_if_ne_t (q := 30) d_Model_oldest_21 rfl c5 ?_
      refine w_iconst (q := 31) (v := (-1)) d_Model_oldest_30 rfl (by decide) ?_
      refine w_istore_n (q := 32) (ls' := [some (.ref 54), some (.int p0), some (.int p1), some (.int ((-1))), none]) d_Model_oldest_31 rfl (by decide) rfl rfl ?_
      refine w_iconst (q := 33) (v := 0) d_Model_oldest_32 rfl (by decide) ?_
      refine w_istore (q := 35) (ls' := [some (.ref 54), some (.int p0), some (.int p1), some (.int ((-1))), some (.int 0)]) d_Model_oldest_33 rfl (by decide) rfl rfl ?_
      obtain ⟨x14, hx, h⟩ := bnd h
      refine w_ls (ls' := [some (.ref 54), some (.int p0), some (.int p1), some (.int ((-1))), some (.int 0)]) (And.intro rfl (And.intro rfl (And.intro rfl (And.intro rfl (And.intro rfl trivial))))) ?_
      show PL_Model_oldest_35 γ tt p0 p1 g p0 p1 (mset g 54 3 0) _ _ ((-1), 0)
      refine lp_ok (kl_Model_oldest_35) F _ x14 hx ?_
      unfold QL_Model_oldest_35
      refine w_iload_n (q := 86) d_Model_oldest_85 rfl rfl ?_
      cases h
      exact w_ireturn d_Model_oldest_86 rfl rfl ⟨rfl, rfl, rfl, rfl⟩
def PL_Model_believers_5 (γ : GG) (tt : Bool) (p0 : Int32) (p1 : Int32) (g : Mem) (k1 : Int32) (k2 : Int32) (b : Nat × Nat) (Φ : PO) (s : Int32 × Int32) : Prop := WA γ M_Model_believers 3 5 [some (.ref 54), some (.int k1), some (.int k2), some (.int s.1), some (.int s.2)] [] SH g tt b Φ
def QL_Model_believers_5 (γ : GG) (tt : Bool) (p0 : Int32) (p1 : Int32) (g : Mem) (k1 : Int32) (k2 : Int32) (b : Nat × Nat) (Φ : PO) (x : (Int32)) : Prop := WA γ M_Model_believers 3 54 [none, none, none, some (.int x), none] [] SH g tt b Φ
def st_Model_believers_5 (F : Nat) (p0 : Int32) (p1 : Int32) (g : Mem) (k1 : Int32) (k2 : Int32) (s : Int32 × Int32) : Option ((Int32 × Int32) ⊕ ((Int32))) := if (g 54 26) ≤ s.2 then some (.inr s.1) else (sp_Model_isOfKind s.2 0 k1 g).bind fun v2 => if v2 = 0 then some (.inl (s.1, s.2 + 1)) else (sp_Model_of s.2 4 g).bind fun v4 => if v4 = k2 then (sp_Model_of s.2 1 g).bind fun v6 => some (.inl (s.1 ||| (1 <<< (v6 &&& 31)), s.2 + 1)) else some (.inl (s.1, s.2 + 1))
theorem kl_Model_believers_5 {γ : GG} {tt : Bool} {F : Nat} {p0 : Int32} {p1 : Int32} {g : Mem} {k1 : Int32} {k2 : Int32} {b : Nat × Nat} {Φ : PO} : ∀ (s : Int32 × Int32) (r : (Int32 × Int32) ⊕ ((Int32))), st_Model_believers_5 F p0 p1 g k1 k2 s = some r → RQ (PL_Model_believers_5 γ tt p0 p1 g k1 k2 b Φ) (QL_Model_believers_5 γ tt p0 p1 g k1 k2 b Φ) r → PL_Model_believers_5 γ tt p0 p1 g k1 k2 b Φ s := by
  intro s r h hr
  unfold st_Model_believers_5 at h
  unfold PL_Model_believers_5
  refine w_iload (q := 7) d_Model_believers_5 rfl rfl ?_
  refine w_aload_n (q := 8) d_Model_believers_7 rfl rfl ?_
  refine w_get (q := 11) (ci := 12) (j := 26) d_Model_believers_8 rfl (by decide) fl_Model_121 (by decide) (by decide) s_54 rfl rfl ?_
  by_cases c1 : (g 54 26) ≤ s.2
  · rw [if_pos c1] at h
    refine w_icmp_ge_t (q := 54) d_Model_believers_11 rfl c1 ?_
    cases h
    exact w_ls (by exact (And.intro rfl trivial)) hr
  · rw [if_neg c1] at h
    refine w_icmp_ge_f (q := 14) d_Model_believers_11 54 rfl rfl c1 ?_
    refine w_aload_n (q := 15) d_Model_believers_14 rfl rfl ?_
    refine w_iload (q := 17) d_Model_believers_15 rfl rfl ?_
    refine w_iconst (q := 18) (v := 0) d_Model_believers_17 rfl (by decide) ?_
    refine w_iload_n (q := 19) d_Model_believers_18 rfl rfl ?_
    obtain ⟨v2, hv, h⟩ := bnd h
    refine w_callVi (q := 22) (M' := M_Model_isOfKind) (n' := 2) (k := 54) (As := [.int s.2, .int 0, .int k1]) (sh' := SH) (b1 := (0, 0)) d_Model_believers_19 rfl mw_Model_isOfKind (by decide) (by decide) ml_Model_396 (by decide) s_54 (by decide) rfl rfl rfl (leb rfl) (bz _) (fun _ => rfl) (ok_Model_isOfKind hv) ?_
    by_cases c3 : v2 = 0
    · rw [if_pos c3] at h
      refine w_if_eq_t (q := 48) d_Model_believers_22 rfl c3 ?_
      refine w_iinc (q := 51) (ls' := [some (.ref 54), some (.int k1), some (.int k2), some (.int s.1), some (.int (s.2 + 1))]) d_Model_believers_48 rfl (by decide) rfl rfl rfl ?_
      refine w_goto (q := 5) d_Model_believers_51 rfl ?_
      cases h
      exact w_ls (by exact (And.intro rfl (And.intro rfl (And.intro rfl (And.intro rfl (And.intro rfl trivial)))))) hr
    · rw [if_neg c3] at h
      refine w_if_eq_f (q := 25) d_Model_believers_22 48 rfl rfl c3 ?_
      refine w_aload_n (q := 26) d_Model_believers_25 rfl rfl ?_
      refine w_iload (q := 28) d_Model_believers_26 rfl rfl ?_
      refine w_iconst (q := 29) (v := 4) d_Model_believers_28 rfl (by decide) ?_
      obtain ⟨v4, hv, h⟩ := bnd h
      refine w_callVi (q := 32) (M' := M_Model_of) (n' := 0) (k := 54) (As := [.int s.2, .int 4]) (sh' := SH) (b1 := (0, 0)) d_Model_believers_29 rfl mw_Model_of (by decide) (by decide) ml_Model_305 (by decide) s_54 (by decide) rfl rfl rfl (leb rfl) (bz _) (fun _ => rfl) (ok_Model_of hv) ?_
      refine w_iload_n (q := 33) d_Model_believers_32 rfl rfl ?_
      by_cases c5 : v4 = k2
      · rw [if_pos c5] at h
        refine w_icmp_ne_f (q := 36) d_Model_believers_33 48 rfl rfl c5 ?_
        refine w_iload_n (q := 37) d_Model_believers_36 rfl rfl ?_
        refine w_iconst (q := 38) (v := 1) d_Model_believers_37 rfl (by decide) ?_
        refine w_aload_n (q := 39) d_Model_believers_38 rfl rfl ?_
        refine w_iload (q := 41) d_Model_believers_39 rfl rfl ?_
        refine w_iconst (q := 42) (v := 1) d_Model_believers_41 rfl (by decide) ?_
        obtain ⟨v6, hv, h⟩ := bnd h
        refine w_callVi (q := 45) (M' := M_Model_of) (n' := 0) (k := 54) (As := [.int s.2, .int 1]) (sh' := SH) (b1 := (0, 0)) d_Model_believers_42 rfl mw_Model_of (by decide) (by decide) ml_Model_305 (by decide) s_54 (by decide) rfl rfl rfl (leb rfl) (bz _) (fun _ => rfl) (ok_Model_of hv) ?_
        refine w_ishl (q := 46) d_Model_believers_45 rfl ?_
        refine w_ior (q := 47) d_Model_believers_46 rfl ?_
        refine w_istore_n (q := 48) (ls' := [some (.ref 54), some (.int k1), some (.int k2), some (.int (s.1 ||| (1 <<< (v6 &&& 31)))), some (.int s.2)]) d_Model_believers_47 rfl (by decide) rfl rfl ?_
        refine w_iinc (q := 51) (ls' := [some (.ref 54), some (.int k1), some (.int k2), some (.int (s.1 ||| (1 <<< (v6 &&& 31)))), some (.int (s.2 + 1))]) d_Model_believers_48 rfl (by decide) rfl rfl rfl ?_
        refine w_goto (q := 5) d_Model_believers_51 rfl ?_
        cases h
        exact w_ls (by exact (And.intro rfl (And.intro rfl (And.intro rfl (And.intro rfl (And.intro rfl trivial)))))) hr
      · rw [if_neg c5] at h
        refine w_icmp_ne_t (q := 48) d_Model_believers_33 rfl c5 ?_
        refine w_iinc (q := 51) (ls' := [some (.ref 54), some (.int k1), some (.int k2), some (.int s.1), some (.int (s.2 + 1))]) d_Model_believers_48 rfl (by decide) rfl rfl rfl ?_
        refine w_goto (q := 5) d_Model_believers_51 rfl ?_
        cases h
        exact w_ls (by exact (And.intro rfl (And.intro rfl (And.intro rfl (And.intro rfl (And.intro rfl trivial)))))) hr
def sp_Model_believers (F : Nat) (p0 : Int32) (p1 : Int32) (g : Mem) : Option (Int32) := (lpO (st_Model_believers_5 F p0 p1 g p0 p1) F (0, 0)).bind fun x7 => (sp_Model_bitsOf F x7 g).bind fun v8 => some v8
theorem ok_Model_believers {γ : GG} {tt : Bool} {F : Nat} {p0 : Int32} {p1 : Int32} {g : Mem} {res : Int32} (h : sp_Model_believers F p0 p1 g = some res) : CA γ M_Model_believers 3 [.ref 54, .int p0, .int p1] SH g tt (0, 0) (pI SH res g tt) := by
  refine CA.of mw_Model_believers.1 2 rfl ?_
  show WA γ M_Model_believers 3 0 [some (.ref 54), some (.int p0), some (.int p1), none, none] [] SH g tt (0, 0) (pI SH res g tt)
  unfold sp_Model_believers at h
  refine w_iconst (q := 1) (v := 0) d_Model_believers_0 rfl (by decide) ?_
  refine w_istore_n (q := 2) (ls' := [some (.ref 54), some (.int p0), some (.int p1), some (.int 0), none]) d_Model_believers_1 rfl (by decide) rfl rfl ?_
  refine w_iconst (q := 3) (v := 0) d_Model_believers_2 rfl (by decide) ?_
  refine w_istore (q := 5) (ls' := [some (.ref 54), some (.int p0), some (.int p1), some (.int 0), some (.int 0)]) d_Model_believers_3 rfl (by decide) rfl rfl ?_
  obtain ⟨x7, hx, h⟩ := bnd h
  refine w_ls (ls' := [some (.ref 54), some (.int p0), some (.int p1), some (.int 0), some (.int 0)]) (And.intro rfl (And.intro rfl (And.intro rfl (And.intro rfl (And.intro rfl trivial))))) ?_
  show PL_Model_believers_5 γ tt p0 p1 g p0 p1 _ _ (0, 0)
  refine lp_ok (kl_Model_believers_5) F _ x7 hx ?_
  unfold QL_Model_believers_5
  refine w_iload_n (q := 55) d_Model_believers_54 rfl rfl ?_
  obtain ⟨v8, hv, h⟩ := bnd h
  refine w_callSi (q := 58) (M' := M_Model_bitsOf) (n' := 0) (As := [.int x7]) (sh' := SH) (b1 := (0, 0)) d_Model_believers_55 rfl mw_Model_bitsOf (by decide) (by decide) ml_Model_332 rfl rfl (leb rfl) (bz _) (fun _ => rfl) (ok_Model_bitsOf hv) ?_
  cases h
  exact w_ireturn d_Model_believers_58 rfl rfl ⟨rfl, rfl, rfl, rfl⟩
def PL_Model_believed_25 (γ : GG) (tt : Bool) (p0 : Int32) (g : Mem) (k1 : Int32) (m0 : Mem) (b : Nat × Nat) (Φ : PO) (s : Int32 × Int32 × Int32) : Prop := WA γ M_Model_believed 4 25 [some (.ref 54), some (.int k1), some (.int s.1), some (.int s.2.1), some (.int s.2.2), none, none] [] SH m0 tt b Φ
def QL_Model_believed_25 (γ : GG) (tt : Bool) (p0 : Int32) (g : Mem) (k1 : Int32) (m0 : Mem) (b : Nat × Nat) (Φ : PO) (x : (Int32)) : Prop := WA γ M_Model_believed 4 99 [none, none, some (.int x), none, none, none, none] [] SH m0 tt b Φ
def st_Model_believed_25 (F : Nat) (p0 : Int32) (g : Mem) (k1 : Int32) (m0 : Mem) (s : Int32 × Int32 × Int32) : Option ((Int32 × Int32 × Int32) ⊕ ((Int32))) := if (m0 54 26) ≤ s.2.2 then some (.inr s.1) else (sp_Model_isOfKind s.2.2 0 k1 m0).bind fun v5 => if v5 = 0 then some (.inl (s.1, s.2.1, s.2.2 + 1)) else (sp_Model_of s.2.2 4 m0).bind fun v7 => (sp_Model_believers F k1 v7 m0).bind fun v8 => if v8 < s.2.1 then some (.inl (s.1, s.2.1, s.2.2 + 1)) else if v8 = s.2.1 then if v7 < s.1 then some (.inl (v7, v8, s.2.2 + 1)) else some (.inl (s.1, s.2.1, s.2.2 + 1)) else some (.inl (v7, v8, s.2.2 + 1))
theorem kl_Model_believed_25 {γ : GG} {tt : Bool} {F : Nat} {p0 : Int32} {g : Mem} {k1 : Int32} {m0 : Mem} {b : Nat × Nat} {Φ : PO} : ∀ (s : Int32 × Int32 × Int32) (r : (Int32 × Int32 × Int32) ⊕ ((Int32))), st_Model_believed_25 F p0 g k1 m0 s = some r → RQ (PL_Model_believed_25 γ tt p0 g k1 m0 b Φ) (QL_Model_believed_25 γ tt p0 g k1 m0 b Φ) r → PL_Model_believed_25 γ tt p0 g k1 m0 b Φ s := by
  intro s r h hr
  unfold st_Model_believed_25 at h
  unfold PL_Model_believed_25
  refine w_iload (q := 27) d_Model_believed_25 rfl rfl ?_
  refine w_aload_n (q := 28) d_Model_believed_27 rfl rfl ?_
  refine w_get (q := 31) (ci := 12) (j := 26) d_Model_believed_28 rfl (by decide) fl_Model_121 (by decide) (by decide) s_54 rfl rfl ?_
  by_cases c4 : (m0 54 26) ≤ s.2.2
  · rw [if_pos c4] at h
    refine w_icmp_ge_t (q := 99) d_Model_believed_31 rfl c4 ?_
    cases h
    exact w_ls (by exact (And.intro rfl trivial)) hr
  · rw [if_neg c4] at h
    refine w_icmp_ge_f (q := 34) d_Model_believed_31 99 rfl rfl c4 ?_
    refine w_aload_n (q := 35) d_Model_believed_34 rfl rfl ?_
    refine w_iload (q := 37) d_Model_believed_35 rfl rfl ?_
    refine w_iconst (q := 38) (v := 0) d_Model_believed_37 rfl (by decide) ?_
    refine w_iload_n (q := 39) d_Model_believed_38 rfl rfl ?_
    obtain ⟨v5, hv, h⟩ := bnd h
    refine w_callVi (q := 42) (M' := M_Model_isOfKind) (n' := 2) (k := 54) (As := [.int s.2.2, .int 0, .int k1]) (sh' := SH) (b1 := (0, 0)) d_Model_believed_39 rfl mw_Model_isOfKind (by decide) (by decide) ml_Model_396 (by decide) s_54 (by decide) rfl rfl rfl (leb rfl) (bz _) (fun _ => rfl) (ok_Model_isOfKind hv) ?_
    by_cases c6 : v5 = 0
    · rw [if_pos c6] at h
      refine w_if_ne_f (q := 45) d_Model_believed_42 48 rfl rfl c6 ?_
      refine w_goto (q := 93) d_Model_believed_45 rfl ?_
      refine w_iinc (q := 96) (ls' := [some (.ref 54), some (.int k1), some (.int s.1), some (.int s.2.1), some (.int (s.2.2 + 1)), none, none]) d_Model_believed_93 rfl (by decide) rfl rfl rfl ?_
      refine w_goto (q := 25) d_Model_believed_96 rfl ?_
      cases h
      exact w_ls (by exact (And.intro rfl (And.intro rfl (And.intro rfl (And.intro rfl (And.intro rfl trivial)))))) hr
    · rw [if_neg c6] at h
      refine w_if_ne_t (q := 48) d_Model_believed_42 rfl c6 ?_
      refine w_aload_n (q := 49) d_Model_believed_48 rfl rfl ?_
      refine w_iload (q := 51) d_Model_believed_49 rfl rfl ?_
      refine w_iconst (q := 52) (v := 4) d_Model_believed_51 rfl (by decide) ?_
      obtain ⟨v7, hv, h⟩ := bnd h
      refine w_callVi (q := 55) (M' := M_Model_of) (n' := 0) (k := 54) (As := [.int s.2.2, .int 4]) (sh' := SH) (b1 := (0, 0)) d_Model_believed_52 rfl mw_Model_of (by decide) (by decide) ml_Model_305 (by decide) s_54 (by decide) rfl rfl rfl (leb rfl) (bz _) (fun _ => rfl) (ok_Model_of hv) ?_
      refine w_istore (q := 57) (ls' := [some (.ref 54), some (.int k1), some (.int s.1), some (.int s.2.1), some (.int s.2.2), some (.int v7), none]) d_Model_believed_55 rfl (by decide) rfl rfl ?_
      refine w_aload_n (q := 58) d_Model_believed_57 rfl rfl ?_
      refine w_iload_n (q := 59) d_Model_believed_58 rfl rfl ?_
      refine w_iload (q := 61) d_Model_believed_59 rfl rfl ?_
      obtain ⟨v8, hv, h⟩ := bnd h
      refine w_callVi (q := 64) (M' := M_Model_believers) (n' := 3) (k := 54) (As := [.int k1, .int v7]) (sh' := SH) (b1 := (0, 0)) d_Model_believed_61 rfl mw_Model_believers (by decide) (by decide) ml_Model_423 (by decide) s_54 (by decide) rfl rfl rfl (leb rfl) (bz _) (fun _ => rfl) (ok_Model_believers hv) ?_
      refine w_istore (q := 66) (ls' := [some (.ref 54), some (.int k1), some (.int s.1), some (.int s.2.1), some (.int s.2.2), some (.int v7), some (.int v8)]) d_Model_believed_64 rfl (by decide) rfl rfl ?_
      refine w_iload (q := 68) d_Model_believed_66 rfl rfl ?_
      refine w_iload_n (q := 69) d_Model_believed_68 rfl rfl ?_
      by_cases c9 : v8 < s.2.1
      · rw [if_pos c9] at h
        refine w_icmp_lt_t (q := 93) d_Model_believed_69 rfl c9 ?_
        refine w_iinc (q := 96) (ls' := [some (.ref 54), some (.int k1), some (.int s.1), some (.int s.2.1), some (.int (s.2.2 + 1)), some (.int v7), some (.int v8)]) d_Model_believed_93 rfl (by decide) rfl rfl rfl ?_
        refine w_goto (q := 25) d_Model_believed_96 rfl ?_
        cases h
        exact w_ls (by exact (And.intro rfl (And.intro rfl (And.intro rfl (And.intro rfl (And.intro rfl trivial)))))) hr
      · rw [if_neg c9] at h
        refine w_icmp_lt_f (q := 72) d_Model_believed_69 93 rfl rfl c9 ?_
        refine w_iload (q := 74) d_Model_believed_72 rfl rfl ?_
        refine w_iload_n (q := 75) d_Model_believed_74 rfl rfl ?_
        by_cases c10 : v8 = s.2.1
        · rw [if_pos c10] at h
          refine w_icmp_ne_f (q := 78) d_Model_believed_75 87 rfl rfl c10 ?_
          refine w_iload (q := 80) d_Model_believed_78 rfl rfl ?_
          refine w_iload_n (q := 81) d_Model_believed_80 rfl rfl ?_
          by_cases c11 : v7 < s.1
          · rw [if_pos c11] at h
            refine w_icmp_lt_t (q := 87) d_Model_believed_81 rfl c11 ?_
            refine w_iload (q := 89) d_Model_believed_87 rfl rfl ?_
            refine w_istore_n (q := 90) (ls' := [some (.ref 54), some (.int k1), some (.int v7), some (.int s.2.1), some (.int s.2.2), some (.int v7), some (.int v8)]) d_Model_believed_89 rfl (by decide) rfl rfl ?_
            refine w_iload (q := 92) d_Model_believed_90 rfl rfl ?_
            refine w_istore_n (q := 93) (ls' := [some (.ref 54), some (.int k1), some (.int v7), some (.int v8), some (.int s.2.2), some (.int v7), some (.int v8)]) d_Model_believed_92 rfl (by decide) rfl rfl ?_
            refine w_iinc (q := 96) (ls' := [some (.ref 54), some (.int k1), some (.int v7), some (.int v8), some (.int (s.2.2 + 1)), some (.int v7), some (.int v8)]) d_Model_believed_93 rfl (by decide) rfl rfl rfl ?_
            refine w_goto (q := 25) d_Model_believed_96 rfl ?_
            cases h
            exact w_ls (by exact (And.intro rfl (And.intro rfl (And.intro rfl (And.intro rfl (And.intro rfl trivial)))))) hr
          · rw [if_neg c11] at h
            refine w_icmp_lt_f (q := 84) d_Model_believed_81 87 rfl rfl c11 ?_
            refine w_goto (q := 93) d_Model_believed_84 rfl ?_
            refine w_iinc (q := 96) (ls' := [some (.ref 54), some (.int k1), some (.int s.1), some (.int s.2.1), some (.int (s.2.2 + 1)), some (.int v7), some (.int v8)]) d_Model_believed_93 rfl (by decide) rfl rfl rfl ?_
            refine w_goto (q := 25) d_Model_believed_96 rfl ?_
            cases h
            exact w_ls (by exact (And.intro rfl (And.intro rfl (And.intro rfl (And.intro rfl (And.intro rfl trivial)))))) hr
        · rw [if_neg c10] at h
          refine w_icmp_ne_t (q := 87) d_Model_believed_75 rfl c10 ?_
          refine w_iload (q := 89) d_Model_believed_87 rfl rfl ?_
          refine w_istore_n (q := 90) (ls' := [some (.ref 54), some (.int k1), some (.int v7), some (.int s.2.1), some (.int s.2.2), some (.int v7), some (.int v8)]) d_Model_believed_89 rfl (by decide) rfl rfl ?_
          refine w_iload (q := 92) d_Model_believed_90 rfl rfl ?_
          refine w_istore_n (q := 93) (ls' := [some (.ref 54), some (.int k1), some (.int v7), some (.int v8), some (.int s.2.2), some (.int v7), some (.int v8)]) d_Model_believed_92 rfl (by decide) rfl rfl ?_
          refine w_iinc (q := 96) (ls' := [some (.ref 54), some (.int k1), some (.int v7), some (.int v8), some (.int (s.2.2 + 1)), some (.int v7), some (.int v8)]) d_Model_believed_93 rfl (by decide) rfl rfl rfl ?_
          refine w_goto (q := 25) d_Model_believed_96 rfl ?_
          cases h
          exact w_ls (by exact (And.intro rfl (And.intro rfl (And.intro rfl (And.intro rfl (And.intro rfl trivial)))))) hr
def sp_Model_believed (F : Nat) (p0 : Int32) (g : Mem) : Option (Int32 × Mem) := (sp_Model_isAbout p0 (mset g 54 3 0)).bind fun v1 => if v1 = 0 then (sp_Model_fail 1 (mset g 54 3 0)).bind fun v3 => some (v3.1, v3.2) else (lpO (st_Model_believed_25 F p0 g p0 (mset g 54 3 0)) F ((-1), 0, 0)).bind fun x12 => some (x12, (mset g 54 3 0))
theorem ok_Model_believed {γ : GG} {tt : Bool} {F : Nat} {p0 : Int32} {g : Mem} {res : Int32 × Mem} (h : sp_Model_believed F p0 g = some res) : CA γ M_Model_believed 4 [.ref 54, .int p0] SH g tt (0, 0) (pI SH res.1 res.2 tt) := by
  refine CA.of mw_Model_believed.1 5 rfl ?_
  show WA γ M_Model_believed 4 0 [some (.ref 54), some (.int p0), none, none, none, none, none] [] SH g tt (0, 0) (pI SH res.1 res.2 tt)
  unfold sp_Model_believed at h
  refine w_aload_n (q := 1) d_Model_believed_0 rfl rfl ?_
  refine w_iconst (q := 2) (v := 0) d_Model_believed_1 rfl (by decide) ?_
  refine w_put (q := 5) (ci := 12) (j := 3) d_Model_believed_2 rfl (by decide) fl_Model_114 (by decide) (by decide) s_54 rfl rfl rfl rfl rfl rfl ?_
  refine w_iload_n (q := 6) d_Model_believed_5 rfl rfl ?_
  obtain ⟨v1, hv, h⟩ := bnd h
  refine w_callSi (q := 9) (M' := M_Model_isAbout) (n' := 1) (As := [.int p0]) (sh' := SH) (b1 := (0, 0)) d_Model_believed_6 rfl mw_Model_isAbout (by decide) (by decide) ml_Model_376 rfl rfl (leb rfl) (bz _) (fun _ => rfl) (ok_Model_isAbout hv) ?_
  by_cases c2 : v1 = 0
  · rw [if_pos c2] at h
    refine w_if_ne_f (q := 12) d_Model_believed_9 18 rfl rfl c2 ?_
    refine w_aload_n (q := 13) d_Model_believed_12 rfl rfl ?_
    refine w_iconst (q := 14) (v := 1) d_Model_believed_13 rfl (by decide) ?_
    obtain ⟨v3, hv, h⟩ := bnd h
    refine w_callVi (q := 17) (M' := M_Model_fail) (n' := 0) (k := 54) (As := [.int 1]) (sh' := SH) (b1 := (0, 0)) d_Model_believed_14 rfl mw_Model_fail (by decide) (by decide) ml_Model_273 (by decide) s_54 (by decide) rfl rfl rfl (leb rfl) (bz _) (fun _ => rfl) (ok_Model_fail hv) ?_
    cases h
    exact w_ireturn d_Model_believed_17 rfl rfl ⟨rfl, rfl, rfl, rfl⟩
  · rw [if_neg c2] at h
    refine w_if_ne_t (q := 18) d_Model_believed_9 rfl c2 ?_
    refine w_iconst (q := 19) (v := (-1)) d_Model_believed_18 rfl (by decide) ?_
    refine w_istore_n (q := 20) (ls' := [some (.ref 54), some (.int p0), some (.int ((-1))), none, none, none, none]) d_Model_believed_19 rfl (by decide) rfl rfl ?_
    refine w_iconst (q := 21) (v := 0) d_Model_believed_20 rfl (by decide) ?_
    refine w_istore_n (q := 22) (ls' := [some (.ref 54), some (.int p0), some (.int ((-1))), some (.int 0), none, none, none]) d_Model_believed_21 rfl (by decide) rfl rfl ?_
    refine w_iconst (q := 23) (v := 0) d_Model_believed_22 rfl (by decide) ?_
    refine w_istore (q := 25) (ls' := [some (.ref 54), some (.int p0), some (.int ((-1))), some (.int 0), some (.int 0), none, none]) d_Model_believed_23 rfl (by decide) rfl rfl ?_
    obtain ⟨x12, hx, h⟩ := bnd h
    refine w_ls (ls' := [some (.ref 54), some (.int p0), some (.int ((-1))), some (.int 0), some (.int 0), none, none]) (And.intro rfl (And.intro rfl (And.intro rfl (And.intro rfl (And.intro rfl trivial))))) ?_
    show PL_Model_believed_25 γ tt p0 g p0 (mset g 54 3 0) _ _ ((-1), 0, 0)
    refine lp_ok (kl_Model_believed_25) F _ x12 hx ?_
    unfold QL_Model_believed_25
    refine w_iload_n (q := 100) d_Model_believed_99 rfl rfl ?_
    cases h
    exact w_ireturn d_Model_believed_100 rfl rfl ⟨rfl, rfl, rfl, rfl⟩
def sp_Model_until (p0 : Int32) (g : Mem) : Option (Int32 × Mem) := (sp_Model_isEntry p0 (mset g 54 3 0)).bind fun v1 => if v1 = 0 then (sp_Model_fail 1 (mset g 54 3 0)).bind fun v3 => some (v3.1, v3.2) else (sp_Model_of p0 1 (mset g 54 3 0)).bind fun v4 => (sp_Model_isThere p0 (mset g 54 3 0)).bind fun v5 => if v5 = 0 then some ((-1), (mset g 54 3 0)) else (sp_Model_isOf ((mset g 54 3 0) 54 25) v4 (mset g 54 3 0)).bind fun v7 => if v7 = 0 then (rd (mset g 54 3 0) 59 12 v4).bind fun v9 => (rd (mset g 54 3 0) 58 12 1).bind fun v10 => (sp_Model_mayHave v9 v10 (mset g 54 3 0)).bind fun v11 => (sp_Model_old p0 (mset g 54 3 0)).bind fun v12 => some (v11 - v12, (mset g 54 3 0)) else some ((-2), (mset g 54 3 0))
theorem ok_Model_until {γ : GG} {tt : Bool} {p0 : Int32} {g : Mem} {res : Int32 × Mem} (h : sp_Model_until p0 g = some res) : CA γ M_Model_until 3 [.ref 54, .int p0] SH g tt (0, 0) (pI SH res.1 res.2 tt) := by
  refine CA.of mw_Model_until.1 1 rfl ?_
  show WA γ M_Model_until 3 0 [some (.ref 54), some (.int p0), none] [] SH g tt (0, 0) (pI SH res.1 res.2 tt)
  unfold sp_Model_until at h
  refine w_aload_n (q := 1) d_Model_until_0 rfl rfl ?_
  refine w_iconst (q := 2) (v := 0) d_Model_until_1 rfl (by decide) ?_
  refine w_put (q := 5) (ci := 12) (j := 3) d_Model_until_2 rfl (by decide) fl_Model_114 (by decide) (by decide) s_54 rfl rfl rfl rfl rfl rfl ?_
  refine w_aload_n (q := 6) d_Model_until_5 rfl rfl ?_
  refine w_iload_n (q := 7) d_Model_until_6 rfl rfl ?_
  obtain ⟨v1, hv, h⟩ := bnd h
  refine w_callVi (q := 10) (M' := M_Model_isEntry) (n' := 1) (k := 54) (As := [.int p0]) (sh' := SH) (b1 := (0, 0)) d_Model_until_7 rfl mw_Model_isEntry (by decide) (by decide) ml_Model_341 (by decide) s_54 (by decide) rfl rfl rfl (leb rfl) (bz _) (fun _ => rfl) (ok_Model_isEntry hv) ?_
  by_cases c2 : v1 = 0
  · rw [if_pos c2] at h
    refine w_if_ne_f (q := 13) d_Model_until_10 19 rfl rfl c2 ?_
    refine w_aload_n (q := 14) d_Model_until_13 rfl rfl ?_
    refine w_iconst (q := 15) (v := 1) d_Model_until_14 rfl (by decide) ?_
    obtain ⟨v3, hv, h⟩ := bnd h
    refine w_callVi (q := 18) (M' := M_Model_fail) (n' := 0) (k := 54) (As := [.int 1]) (sh' := SH) (b1 := (0, 0)) d_Model_until_15 rfl mw_Model_fail (by decide) (by decide) ml_Model_273 (by decide) s_54 (by decide) rfl rfl rfl (leb rfl) (bz _) (fun _ => rfl) (ok_Model_fail hv) ?_
    cases h
    exact w_ireturn d_Model_until_18 rfl rfl ⟨rfl, rfl, rfl, rfl⟩
  · rw [if_neg c2] at h
    refine w_if_ne_t (q := 19) d_Model_until_10 rfl c2 ?_
    refine w_aload_n (q := 20) d_Model_until_19 rfl rfl ?_
    refine w_iload_n (q := 21) d_Model_until_20 rfl rfl ?_
    refine w_iconst (q := 22) (v := 1) d_Model_until_21 rfl (by decide) ?_
    obtain ⟨v4, hv, h⟩ := bnd h
    refine w_callVi (q := 25) (M' := M_Model_of) (n' := 0) (k := 54) (As := [.int p0, .int 1]) (sh' := SH) (b1 := (0, 0)) d_Model_until_22 rfl mw_Model_of (by decide) (by decide) ml_Model_305 (by decide) s_54 (by decide) rfl rfl rfl (leb rfl) (bz _) (fun _ => rfl) (ok_Model_of hv) ?_
    refine w_istore_n (q := 26) (ls' := [some (.ref 54), some (.int p0), some (.int v4)]) d_Model_until_25 rfl (by decide) rfl rfl ?_
    refine w_aload_n (q := 27) d_Model_until_26 rfl rfl ?_
    refine w_iload_n (q := 28) d_Model_until_27 rfl rfl ?_
    obtain ⟨v5, hv, h⟩ := bnd h
    refine w_callVi (q := 31) (M' := M_Model_isThere) (n' := 1) (k := 54) (As := [.int p0]) (sh' := SH) (b1 := (0, 0)) d_Model_until_28 rfl mw_Model_isThere (by decide) (by decide) ml_Model_315 (by decide) s_54 (by decide) rfl rfl rfl (leb rfl) (bz _) (fun _ => rfl) (ok_Model_isThere hv) ?_
    by_cases c6 : v5 = 0
    · rw [if_pos c6] at h
      refine w_if_ne_f (q := 34) d_Model_until_31 38 rfl rfl c6 ?_
      refine w_iconst (q := 35) (v := (-1)) d_Model_until_34 rfl (by decide) ?_
      refine w_goto (q := 75) d_Model_until_35 rfl ?_
      cases h
      exact w_ireturn d_Model_until_75 rfl rfl ⟨rfl, rfl, rfl, rfl⟩
    · rw [if_neg c6] at h
      refine w_if_ne_t (q := 38) d_Model_until_31 rfl c6 ?_
      refine w_aload_n (q := 39) d_Model_until_38 rfl rfl ?_
      refine w_get (q := 42) (ci := 12) (j := 25) d_Model_until_39 rfl (by decide) fl_Model_289 (by decide) (by decide) s_54 rfl rfl ?_
      refine w_iload_n (q := 43) d_Model_until_42 rfl rfl ?_
      obtain ⟨v7, hv, h⟩ := bnd h
      refine w_callSi (q := 46) (M' := M_Model_isOf) (n' := 0) (As := [.int ((mset g 54 3 0) 54 25), .int v4]) (sh' := SH) (b1 := (0, 0)) d_Model_until_43 rfl mw_Model_isOf (by decide) (by decide) ml_Model_308 rfl rfl (leb rfl) (bz _) (fun _ => rfl) (ok_Model_isOf hv) ?_
      by_cases c8 : v7 = 0
      · rw [if_pos c8] at h
        refine w_if_eq_t (q := 54) d_Model_until_46 rfl c8 ?_
        refine w_aload_n (q := 55) d_Model_until_54 rfl rfl ?_
        refine w_get (q := 58) (ci := 12) (j := 5) d_Model_until_55 rfl (by decide) fl_Model_55 (by decide) (by decide) s_54 rfl rfl ?_
        refine w_iload_n (q := 59) d_Model_until_58 rfl rfl ?_
        obtain ⟨v9, hv, h⟩ := bnd h
        obtain ⟨hi, hv⟩ := rd_ok hv
        refine w_iald (q := 60) (t := 0) d_Model_until_59 rfl a_59.2 a_59.1 hi rfl ?_
        rw [hv]
        refine w_aload_n (q := 61) d_Model_until_60 rfl rfl ?_
        refine w_get (q := 64) (ci := 12) (j := 4) d_Model_until_61 rfl (by decide) fl_Model_51 (by decide) (by decide) s_54 rfl rfl ?_
        refine w_iconst (q := 65) (v := 1) d_Model_until_64 rfl (by decide) ?_
        obtain ⟨v10, hv, h⟩ := bnd h
        obtain ⟨hi, hv⟩ := rd_ok hv
        refine w_iald (q := 66) (t := 0) d_Model_until_65 rfl a_58.2 a_58.1 hi rfl ?_
        rw [hv]
        obtain ⟨v11, hv, h⟩ := bnd h
        refine w_callSi (q := 69) (M' := M_Model_mayHave) (n' := 1) (As := [.int v9, .int v10]) (sh' := SH) (b1 := (0, 0)) d_Model_until_66 rfl mw_Model_mayHave (by decide) (by decide) ml_Model_239 rfl rfl (leb rfl) (bz _) (fun _ => rfl) (ok_Model_mayHave hv) ?_
        refine w_aload_n (q := 70) d_Model_until_69 rfl rfl ?_
        refine w_iload_n (q := 71) d_Model_until_70 rfl rfl ?_
        obtain ⟨v12, hv, h⟩ := bnd h
        refine w_callVi (q := 74) (M' := M_Model_old) (n' := 2) (k := 54) (As := [.int p0]) (sh' := SH) (b1 := (0, 0)) d_Model_until_71 rfl mw_Model_old (by decide) (by decide) ml_Model_318 (by decide) s_54 (by decide) rfl rfl rfl (leb rfl) (bz _) (fun _ => rfl) (ok_Model_old hv) ?_
        refine w_isub (q := 75) d_Model_until_74 rfl ?_
        cases h
        exact w_ireturn d_Model_until_75 rfl rfl ⟨rfl, rfl, rfl, rfl⟩
      · rw [if_neg c8] at h
        refine w_if_eq_f (q := 49) d_Model_until_46 54 rfl rfl c8 ?_
        refine w_bipush (q := 51) (v := (-2)) d_Model_until_49 rfl (by decide) ?_
        refine w_goto (q := 75) d_Model_until_51 rfl ?_
        cases h
        exact w_ireturn d_Model_until_75 rfl rfl ⟨rfl, rfl, rfl, rfl⟩
def PL_Model_doomed_39 (γ : GG) (tt : Bool) (p0 : Int32) (g : Mem) (k1 : Int32) (k2 : Int32) (b : Nat × Nat) (Φ : PO) (s : Int32 × Mem) : Prop := WA γ M_Model_doomed 5 39 [some (.ref 54), some (.int k1), some (.int k2), some (.int s.1)] [] SH s.2 tt b Φ
def QL_Model_doomed_39 (γ : GG) (tt : Bool) (p0 : Int32) (g : Mem) (k1 : Int32) (k2 : Int32) (b : Nat × Nat) (Φ : PO) (x : (Mem)) : Prop := WA γ M_Model_doomed 5 54 [some (.ref 54), none, some (.int k2), none] [] SH x tt b Φ
def st_Model_doomed_39 (F : Nat) (p0 : Int32) (g : Mem) (k1 : Int32) (k2 : Int32) (s : Int32 × Mem) : Option ((Int32 × Mem) ⊕ ((Mem))) := if k1 ≤ s.1 then some (.inr s.2) else (sp_Model_yearGoes F s.2).bind fun v7 => some (.inl (s.1 + 1, v7))
theorem kl_Model_doomed_39 {γ : GG} {tt : Bool} {F : Nat} {p0 : Int32} {g : Mem} {k1 : Int32} {k2 : Int32} {b : Nat × Nat} {Φ : PO} : ∀ (s : Int32 × Mem) (r : (Int32 × Mem) ⊕ ((Mem))), st_Model_doomed_39 F p0 g k1 k2 s = some r → RQ (PL_Model_doomed_39 γ tt p0 g k1 k2 b Φ) (QL_Model_doomed_39 γ tt p0 g k1 k2 b Φ) r → PL_Model_doomed_39 γ tt p0 g k1 k2 b Φ s := by
  intro s r h hr
  unfold st_Model_doomed_39 at h
  unfold PL_Model_doomed_39
  refine w_iload_n (q := 40) d_Model_doomed_39 rfl rfl ?_
  refine w_iload_n (q := 41) d_Model_doomed_40 rfl rfl ?_
  by_cases c6 : k1 ≤ s.1
  · rw [if_pos c6] at h
    refine w_icmp_ge_t (q := 54) d_Model_doomed_41 rfl c6 ?_
    cases h
    exact w_ls (by exact (And.intro rfl (And.intro rfl trivial))) hr
  · rw [if_neg c6] at h
    refine w_icmp_ge_f (q := 44) d_Model_doomed_41 54 rfl rfl c6 ?_
    refine w_aload_n (q := 45) d_Model_doomed_44 rfl rfl ?_
    obtain ⟨v7, hv, h⟩ := bnd h
    refine w_callVv (q := 48) (M' := M_Model_yearGoes) (n' := 4) (k := 54) (As := []) (sh' := SH) (b1 := (0, 0)) d_Model_doomed_45 rfl mw_Model_yearGoes (by decide) (by decide) ml_Model_371 (by decide) s_54 (by decide) rfl rfl rfl (leb rfl) (bz _) (fun _ => rfl) (ok_Model_yearGoes hv) ?_
    refine w_iinc (q := 51) (ls' := [some (.ref 54), some (.int k1), some (.int k2), some (.int (s.1 + 1))]) d_Model_doomed_48 rfl (by decide) rfl rfl rfl ?_
    refine w_goto (q := 39) d_Model_doomed_51 rfl ?_
    cases h
    exact w_ls (by exact (And.intro rfl (And.intro rfl (And.intro rfl (And.intro rfl trivial))))) hr
def sp_Model_doomed (F : Nat) (p0 : Int32) (g : Mem) : Option (Int32 × Mem) := (sp_Model_isIn p0.toInt64 0 60 (mset g 54 3 0)).bind fun v1 => if v1 = 0 then (sp_Model_fail 1 (mset g 54 3 0)).bind fun v3 => some (v3.1, v3.2) else (sp_Model_records F (mset g 54 3 0)).bind fun v4 => (sp_Model_pack F 70 231 0 (mset g 54 3 0)).bind fun v5 => (lpO (st_Model_doomed_39 F p0 g p0 v4) F (0, v5)).bind fun x8 => (sp_Model_records F x8).bind fun v9 => (sp_Model_unpack F 70 231 0 x8).bind fun v10 => (sp_Model_bitsOf F (v4 &&& (v9 ^^^ (-1))) v10).bind fun v11 => some (v11, v10)
theorem ok_Model_doomed {γ : GG} {tt : Bool} {F : Nat} {p0 : Int32} {g : Mem} {res : Int32 × Mem} (h : sp_Model_doomed F p0 g = some res) : CA γ M_Model_doomed 5 [.ref 54, .int p0] SH g tt (0, 0) (pI SH res.1 res.2 tt) := by
  refine CA.of mw_Model_doomed.1 2 rfl ?_
  show WA γ M_Model_doomed 5 0 [some (.ref 54), some (.int p0), none, none] [] SH g tt (0, 0) (pI SH res.1 res.2 tt)
  unfold sp_Model_doomed at h
  refine w_aload_n (q := 1) d_Model_doomed_0 rfl rfl ?_
  refine w_iconst (q := 2) (v := 0) d_Model_doomed_1 rfl (by decide) ?_
  refine w_put (q := 5) (ci := 12) (j := 3) d_Model_doomed_2 rfl (by decide) fl_Model_114 (by decide) (by decide) s_54 rfl rfl rfl rfl rfl rfl ?_
  refine w_iload_n (q := 6) d_Model_doomed_5 rfl rfl ?_
  refine w_i2l (q := 7) d_Model_doomed_6 rfl ?_
  refine w_lconst (q := 8) (v := 0) d_Model_doomed_7 rfl (by decide) ?_
  refine w_ldc2 (q := 11) d_Model_doomed_8 rfl lo_Model_388 ?_
  obtain ⟨v1, hv, h⟩ := bnd h
  refine w_callSi (q := 14) (M' := M_Model_isIn) (n' := 0) (As := [.long (p0.toInt64), .long (0), .long (60)]) (sh' := SH) (b1 := (0, 0)) d_Model_doomed_11 rfl mw_Model_isIn (by decide) (by decide) ml_Model_117 rfl rfl (leb rfl) (bz _) (fun _ => rfl) (ok_Model_isIn hv) ?_
  by_cases c2 : v1 = 0
  · rw [if_pos c2] at h
    refine w_if_ne_f (q := 17) d_Model_doomed_14 23 rfl rfl c2 ?_
    refine w_aload_n (q := 18) d_Model_doomed_17 rfl rfl ?_
    refine w_iconst (q := 19) (v := 1) d_Model_doomed_18 rfl (by decide) ?_
    obtain ⟨v3, hv, h⟩ := bnd h
    refine w_callVi (q := 22) (M' := M_Model_fail) (n' := 0) (k := 54) (As := [.int 1]) (sh' := SH) (b1 := (0, 0)) d_Model_doomed_19 rfl mw_Model_fail (by decide) (by decide) ml_Model_273 (by decide) s_54 (by decide) rfl rfl rfl (leb rfl) (bz _) (fun _ => rfl) (ok_Model_fail hv) ?_
    cases h
    exact w_ireturn d_Model_doomed_22 rfl rfl ⟨rfl, rfl, rfl, rfl⟩
  · rw [if_neg c2] at h
    refine w_if_ne_t (q := 23) d_Model_doomed_14 rfl c2 ?_
    refine w_aload_n (q := 24) d_Model_doomed_23 rfl rfl ?_
    obtain ⟨v4, hv, h⟩ := bnd h
    refine w_callVi (q := 27) (M' := M_Model_records) (n' := 2) (k := 54) (As := []) (sh' := SH) (b1 := (0, 0)) d_Model_doomed_24 rfl mw_Model_records (by decide) (by decide) ml_Model_329 (by decide) s_54 (by decide) rfl rfl rfl (leb rfl) (bz _) (fun _ => rfl) (ok_Model_records hv) ?_
    refine w_istore_n (q := 28) (ls' := [some (.ref 54), some (.int p0), some (.int v4), none]) d_Model_doomed_27 rfl (by decide) rfl rfl ?_
    refine w_aload_n (q := 29) d_Model_doomed_28 rfl rfl ?_
    refine w_aload_n (q := 30) d_Model_doomed_29 rfl rfl ?_
    refine w_get (q := 33) (ci := 12) (j := 31) d_Model_doomed_30 rfl (by decide) fl_Model_90 (by decide) (by decide) s_54 rfl rfl ?_
    refine w_iconst (q := 34) (v := 0) d_Model_doomed_33 rfl (by decide) ?_
    obtain ⟨v5, hv, h⟩ := bnd h
    refine w_callVv (q := 37) (M' := M_Model_pack) (n' := 0) (k := 54) (As := [.ref 70, .int 0]) (sh' := SH) (b1 := (0, 0)) d_Model_doomed_34 rfl mw_Model_pack (by decide) (by decide) ml_Model_359 (by decide) s_54 (by decide) rfl rfl rfl (leb rfl) (bz _) (fun _ => rfl) (ok_Model_pack a_70 hv) ?_
    refine w_iconst (q := 38) (v := 0) d_Model_doomed_37 rfl (by decide) ?_
    refine w_istore_n (q := 39) (ls' := [some (.ref 54), some (.int p0), some (.int v4), some (.int 0)]) d_Model_doomed_38 rfl (by decide) rfl rfl ?_
    obtain ⟨x8, hx, h⟩ := bnd h
    refine w_ls (ls' := [some (.ref 54), some (.int p0), some (.int v4), some (.int 0)]) (And.intro rfl (And.intro rfl (And.intro rfl (And.intro rfl trivial)))) ?_
    show PL_Model_doomed_39 γ tt p0 g p0 v4 _ _ (0, v5)
    refine lp_ok (kl_Model_doomed_39) F _ x8 hx ?_
    unfold QL_Model_doomed_39
    refine w_aload_n (q := 55) d_Model_doomed_54 rfl rfl ?_
    obtain ⟨v9, hv, h⟩ := bnd h
    refine w_callVi (q := 58) (M' := M_Model_records) (n' := 2) (k := 54) (As := []) (sh' := SH) (b1 := (0, 0)) d_Model_doomed_55 rfl mw_Model_records (by decide) (by decide) ml_Model_329 (by decide) s_54 (by decide) rfl rfl rfl (leb rfl) (bz _) (fun _ => rfl) (ok_Model_records hv) ?_
    refine w_istore_n (q := 59) (ls' := [some (.ref 54), none, some (.int v4), some (.int v9)]) d_Model_doomed_58 rfl (by decide) rfl rfl ?_
    refine w_aload_n (q := 60) d_Model_doomed_59 rfl rfl ?_
    refine w_aload_n (q := 61) d_Model_doomed_60 rfl rfl ?_
    refine w_get (q := 64) (ci := 12) (j := 31) d_Model_doomed_61 rfl (by decide) fl_Model_90 (by decide) (by decide) s_54 rfl rfl ?_
    refine w_iconst (q := 65) (v := 0) d_Model_doomed_64 rfl (by decide) ?_
    obtain ⟨v10, hv, h⟩ := bnd h
    refine w_callVv (q := 68) (M' := M_Model_unpack) (n' := 0) (k := 54) (As := [.ref 70, .int 0]) (sh' := SH) (b1 := (0, 0)) d_Model_doomed_65 rfl mw_Model_unpack (by decide) (by decide) ml_Model_393 (by decide) s_54 (by decide) rfl rfl rfl (leb rfl) (bz _) (fun _ => rfl) (ok_Model_unpack a_70 hv) ?_
    refine w_iload_n (q := 69) d_Model_doomed_68 rfl rfl ?_
    refine w_iload_n (q := 70) d_Model_doomed_69 rfl rfl ?_
    refine w_iconst (q := 71) (v := (-1)) d_Model_doomed_70 rfl (by decide) ?_
    refine w_ixor (q := 72) d_Model_doomed_71 rfl ?_
    refine w_iand (q := 73) d_Model_doomed_72 rfl ?_
    obtain ⟨v11, hv, h⟩ := bnd h
    refine w_callSi (q := 76) (M' := M_Model_bitsOf) (n' := 0) (As := [.int (v4 &&& (v9 ^^^ (-1)))]) (sh' := SH) (b1 := (0, 0)) d_Model_doomed_73 rfl mw_Model_bitsOf (by decide) (by decide) ml_Model_332 rfl rfl (leb rfl) (bz _) (fun _ => rfl) (ok_Model_bitsOf hv) ?_
    cases h
    exact w_ireturn d_Model_doomed_76 rfl rfl ⟨rfl, rfl, rfl, rfl⟩
def PL_Model_safest_9 (γ : GG) (tt : Bool) (g : Mem) (m0 : Mem) (b : Nat × Nat) (Φ : PO) (s : Int32 × Int32) : Prop := WA γ M_Model_safest 2 9 [some (.ref 54), some (.int s.1), some (.int s.2)] [] SH m0 tt b Φ
def QL_Model_safest_9 (γ : GG) (tt : Bool) (g : Mem) (m0 : Mem) (b : Nat × Nat) (Φ : PO) (x : (Int32)) : Prop := WA γ M_Model_safest 2 76 [none, some (.int x), none] [] SH m0 tt b Φ
def st_Model_safest_9 (F : Nat) (g : Mem) (m0 : Mem) (s : Int32 × Int32) : Option ((Int32 × Int32) ⊕ ((Int32))) := (rd m0 58 12 0).bind fun v1 => if v1 ≤ s.2 then some (.inr s.1) else (sp_Model_isOf (m0 54 25) s.2 m0).bind fun v3 => if v3 = 0 then if s.1 = (-1) then some (.inl (s.2, s.2 + 1)) else (rd m0 59 12 s.2).bind fun v6 => (rd m0 58 12 1).bind fun v7 => (sp_Model_mayHave v6 v7 m0).bind fun v8 => (rd m0 59 12 s.1).bind fun v9 => (rd m0 58 12 1).bind fun v10 => (sp_Model_mayHave v9 v10 m0).bind fun v11 => if v8 ≤ v11 then some (.inl (s.1, s.2 + 1)) else some (.inl (s.2, s.2 + 1)) else some (.inl (s.1, s.2 + 1))
theorem kl_Model_safest_9 {γ : GG} {tt : Bool} {F : Nat} {g : Mem} {m0 : Mem} {b : Nat × Nat} {Φ : PO} : ∀ (s : Int32 × Int32) (r : (Int32 × Int32) ⊕ ((Int32))), st_Model_safest_9 F g m0 s = some r → RQ (PL_Model_safest_9 γ tt g m0 b Φ) (QL_Model_safest_9 γ tt g m0 b Φ) r → PL_Model_safest_9 γ tt g m0 b Φ s := by
  intro s r h hr
  unfold st_Model_safest_9 at h
  unfold PL_Model_safest_9
  refine w_iload_n (q := 10) d_Model_safest_9 rfl rfl ?_
  refine w_aload_n (q := 11) d_Model_safest_10 rfl rfl ?_
  refine w_get (q := 14) (ci := 12) (j := 4) d_Model_safest_11 rfl (by decide) fl_Model_51 (by decide) (by decide) s_54 rfl rfl ?_
  refine w_iconst (q := 15) (v := 0) d_Model_safest_14 rfl (by decide) ?_
  obtain ⟨v1, hv, h⟩ := bnd h
  obtain ⟨hi, hv⟩ := rd_ok hv
  refine w_iald (q := 16) (t := 0) d_Model_safest_15 rfl a_58.2 a_58.1 hi rfl ?_
  rw [hv]
  by_cases c2 : v1 ≤ s.2
  · rw [if_pos c2] at h
    refine w_icmp_ge_t (q := 76) d_Model_safest_16 rfl c2 ?_
    cases h
    exact w_ls (by exact (And.intro rfl trivial)) hr
  · rw [if_neg c2] at h
    refine w_icmp_ge_f (q := 19) d_Model_safest_16 76 rfl rfl c2 ?_
    refine w_aload_n (q := 20) d_Model_safest_19 rfl rfl ?_
    refine w_get (q := 23) (ci := 12) (j := 25) d_Model_safest_20 rfl (by decide) fl_Model_289 (by decide) (by decide) s_54 rfl rfl ?_
    refine w_iload_n (q := 24) d_Model_safest_23 rfl rfl ?_
    obtain ⟨v3, hv, h⟩ := bnd h
    refine w_callSi (q := 27) (M' := M_Model_isOf) (n' := 0) (As := [.int (m0 54 25), .int s.2]) (sh' := SH) (b1 := (0, 0)) d_Model_safest_24 rfl mw_Model_isOf (by decide) (by decide) ml_Model_308 rfl rfl (leb rfl) (bz _) (fun _ => rfl) (ok_Model_isOf hv) ?_
    by_cases c4 : v3 = 0
    · rw [if_pos c4] at h
      refine w_if_ne_f (q := 30) d_Model_safest_27 70 rfl rfl c4 ?_
      refine w_iload_n (q := 31) d_Model_safest_30 rfl rfl ?_
      refine w_iconst (q := 32) (v := (-1)) d_Model_safest_31 rfl (by decide) ?_
      by_cases c5 : s.1 = (-1)
      · rw [if_pos c5] at h
        refine w_icmp_eq_t (q := 68) d_Model_safest_32 rfl c5 ?_
        refine w_iload_n (q := 69) d_Model_safest_68 rfl rfl ?_
        refine w_istore_n (q := 70) (ls' := [some (.ref 54), some (.int s.2), some (.int s.2)]) d_Model_safest_69 rfl (by decide) rfl rfl ?_
        refine w_iinc (q := 73) (ls' := [some (.ref 54), some (.int s.2), some (.int (s.2 + 1))]) d_Model_safest_70 rfl (by decide) rfl rfl rfl ?_
        refine w_goto (q := 9) d_Model_safest_73 rfl ?_
        cases h
        exact w_ls (by exact (And.intro rfl (And.intro rfl (And.intro rfl trivial)))) hr
      · rw [if_neg c5] at h
        refine w_icmp_eq_f (q := 35) d_Model_safest_32 68 rfl rfl c5 ?_
        refine w_aload_n (q := 36) d_Model_safest_35 rfl rfl ?_
        refine w_get (q := 39) (ci := 12) (j := 5) d_Model_safest_36 rfl (by decide) fl_Model_55 (by decide) (by decide) s_54 rfl rfl ?_
        refine w_iload_n (q := 40) d_Model_safest_39 rfl rfl ?_
        obtain ⟨v6, hv, h⟩ := bnd h
        obtain ⟨hi, hv⟩ := rd_ok hv
        refine w_iald (q := 41) (t := 0) d_Model_safest_40 rfl a_59.2 a_59.1 hi rfl ?_
        rw [hv]
        refine w_aload_n (q := 42) d_Model_safest_41 rfl rfl ?_
        refine w_get (q := 45) (ci := 12) (j := 4) d_Model_safest_42 rfl (by decide) fl_Model_51 (by decide) (by decide) s_54 rfl rfl ?_
        refine w_iconst (q := 46) (v := 1) d_Model_safest_45 rfl (by decide) ?_
        obtain ⟨v7, hv, h⟩ := bnd h
        obtain ⟨hi, hv⟩ := rd_ok hv
        refine w_iald (q := 47) (t := 0) d_Model_safest_46 rfl a_58.2 a_58.1 hi rfl ?_
        rw [hv]
        obtain ⟨v8, hv, h⟩ := bnd h
        refine w_callSi (q := 50) (M' := M_Model_mayHave) (n' := 1) (As := [.int v6, .int v7]) (sh' := SH) (b1 := (0, 0)) d_Model_safest_47 rfl mw_Model_mayHave (by decide) (by decide) ml_Model_239 rfl rfl (leb rfl) (bz _) (fun _ => rfl) (ok_Model_mayHave hv) ?_
        refine w_aload_n (q := 51) d_Model_safest_50 rfl rfl ?_
        refine w_get (q := 54) (ci := 12) (j := 5) d_Model_safest_51 rfl (by decide) fl_Model_55 (by decide) (by decide) s_54 rfl rfl ?_
        refine w_iload_n (q := 55) d_Model_safest_54 rfl rfl ?_
        obtain ⟨v9, hv, h⟩ := bnd h
        obtain ⟨hi, hv⟩ := rd_ok hv
        refine w_iald (q := 56) (t := 0) d_Model_safest_55 rfl a_59.2 a_59.1 hi rfl ?_
        rw [hv]
        refine w_aload_n (q := 57) d_Model_safest_56 rfl rfl ?_
        refine w_get (q := 60) (ci := 12) (j := 4) d_Model_safest_57 rfl (by decide) fl_Model_51 (by decide) (by decide) s_54 rfl rfl ?_
        refine w_iconst (q := 61) (v := 1) d_Model_safest_60 rfl (by decide) ?_
        obtain ⟨v10, hv, h⟩ := bnd h
        obtain ⟨hi, hv⟩ := rd_ok hv
        refine w_iald (q := 62) (t := 0) d_Model_safest_61 rfl a_58.2 a_58.1 hi rfl ?_
        rw [hv]
        obtain ⟨v11, hv, h⟩ := bnd h
        refine w_callSi (q := 65) (M' := M_Model_mayHave) (n' := 1) (As := [.int v9, .int v10]) (sh' := SH) (b1 := (0, 0)) d_Model_safest_62 rfl mw_Model_mayHave (by decide) (by decide) ml_Model_239 rfl rfl (leb rfl) (bz _) (fun _ => rfl) (ok_Model_mayHave hv) ?_
        by_cases c12 : v8 ≤ v11
        · rw [if_pos c12] at h
          refine w_icmp_le_t (q := 70) d_Model_safest_65 rfl c12 ?_
          refine w_iinc (q := 73) (ls' := [some (.ref 54), some (.int s.1), some (.int (s.2 + 1))]) d_Model_safest_70 rfl (by decide) rfl rfl rfl ?_
          refine w_goto (q := 9) d_Model_safest_73 rfl ?_
          cases h
          exact w_ls (by exact (And.intro rfl (And.intro rfl (And.intro rfl trivial)))) hr
        · rw [if_neg c12] at h
          refine w_icmp_le_f (q := 68) d_Model_safest_65 70 rfl rfl c12 ?_
          refine w_iload_n (q := 69) d_Model_safest_68 rfl rfl ?_
          refine w_istore_n (q := 70) (ls' := [some (.ref 54), some (.int s.2), some (.int s.2)]) d_Model_safest_69 rfl (by decide) rfl rfl ?_
          refine w_iinc (q := 73) (ls' := [some (.ref 54), some (.int s.2), some (.int (s.2 + 1))]) d_Model_safest_70 rfl (by decide) rfl rfl rfl ?_
          refine w_goto (q := 9) d_Model_safest_73 rfl ?_
          cases h
          exact w_ls (by exact (And.intro rfl (And.intro rfl (And.intro rfl trivial)))) hr
    · rw [if_neg c4] at h
      refine w_if_ne_t (q := 70) d_Model_safest_27 rfl c4 ?_
      refine w_iinc (q := 73) (ls' := [some (.ref 54), some (.int s.1), some (.int (s.2 + 1))]) d_Model_safest_70 rfl (by decide) rfl rfl rfl ?_
      refine w_goto (q := 9) d_Model_safest_73 rfl ?_
      cases h
      exact w_ls (by exact (And.intro rfl (And.intro rfl (And.intro rfl trivial)))) hr
def sp_Model_safest (F : Nat) (g : Mem) : Option (Int32 × Mem) := (lpO (st_Model_safest_9 F g (mset g 54 3 0)) F ((-1), 0)).bind fun x13 => some (x13, (mset g 54 3 0))
theorem ok_Model_safest {γ : GG} {tt : Bool} {F : Nat} {g : Mem} {res : Int32 × Mem} (h : sp_Model_safest F g = some res) : CA γ M_Model_safest 2 [.ref 54] SH g tt (0, 0) (pI SH res.1 res.2 tt) := by
  refine CA.of mw_Model_safest.1 2 rfl ?_
  show WA γ M_Model_safest 2 0 [some (.ref 54), none, none] [] SH g tt (0, 0) (pI SH res.1 res.2 tt)
  unfold sp_Model_safest at h
  refine w_aload_n (q := 1) d_Model_safest_0 rfl rfl ?_
  refine w_iconst (q := 2) (v := 0) d_Model_safest_1 rfl (by decide) ?_
  refine w_put (q := 5) (ci := 12) (j := 3) d_Model_safest_2 rfl (by decide) fl_Model_114 (by decide) (by decide) s_54 rfl rfl rfl rfl rfl rfl ?_
  refine w_iconst (q := 6) (v := (-1)) d_Model_safest_5 rfl (by decide) ?_
  refine w_istore_n (q := 7) (ls' := [some (.ref 54), some (.int ((-1))), none]) d_Model_safest_6 rfl (by decide) rfl rfl ?_
  refine w_iconst (q := 8) (v := 0) d_Model_safest_7 rfl (by decide) ?_
  refine w_istore_n (q := 9) (ls' := [some (.ref 54), some (.int ((-1))), some (.int 0)]) d_Model_safest_8 rfl (by decide) rfl rfl ?_
  obtain ⟨x13, hx, h⟩ := bnd h
  refine w_ls (ls' := [some (.ref 54), some (.int ((-1))), some (.int 0)]) (And.intro rfl (And.intro rfl (And.intro rfl trivial))) ?_
  show PL_Model_safest_9 γ tt g (mset g 54 3 0) _ _ ((-1), 0)
  refine lp_ok (kl_Model_safest_9) F _ x13 hx ?_
  unfold QL_Model_safest_9
  refine w_iload_n (q := 77) d_Model_safest_76 rfl rfl ?_
  cases h
  exact w_ireturn d_Model_safest_77 rfl rfl ⟨rfl, rfl, rfl, rfl⟩
def PL_Model_recordsOf_4 (γ : GG) (tt : Bool) (p0 : Int32) (g : Mem) (k1 : Int32) (b : Nat × Nat) (Φ : PO) (s : Int32 × Int32) : Prop := WA γ M_Model_recordsOf 2 4 [some (.ref 54), some (.int k1), some (.int s.1), some (.int s.2)] [] SH g tt b Φ
def QL_Model_recordsOf_4 (γ : GG) (tt : Bool) (p0 : Int32) (g : Mem) (k1 : Int32) (b : Nat × Nat) (Φ : PO) (x : (Int32)) : Prop := WA γ M_Model_recordsOf 2 48 [none, none, some (.int x), none] [] SH g tt b Φ
def st_Model_recordsOf_4 (F : Nat) (p0 : Int32) (g : Mem) (k1 : Int32) (s : Int32 × Int32) : Option ((Int32 × Int32) ⊕ ((Int32))) := if (g 54 26) ≤ s.2 then some (.inr s.1) else (sp_Model_isThere s.2 g).bind fun v2 => if v2 = 0 then some (.inl (s.1, s.2 + 1)) else (sp_Model_of s.2 1 g).bind fun v4 => if v4 = k1 then (sp_Model_of s.2 7 g).bind fun v6 => some (.inl (s.1 ||| (1 <<< (v6 &&& 31)), s.2 + 1)) else some (.inl (s.1, s.2 + 1))
theorem kl_Model_recordsOf_4 {γ : GG} {tt : Bool} {F : Nat} {p0 : Int32} {g : Mem} {k1 : Int32} {b : Nat × Nat} {Φ : PO} : ∀ (s : Int32 × Int32) (r : (Int32 × Int32) ⊕ ((Int32))), st_Model_recordsOf_4 F p0 g k1 s = some r → RQ (PL_Model_recordsOf_4 γ tt p0 g k1 b Φ) (QL_Model_recordsOf_4 γ tt p0 g k1 b Φ) r → PL_Model_recordsOf_4 γ tt p0 g k1 b Φ s := by
  intro s r h hr
  unfold st_Model_recordsOf_4 at h
  unfold PL_Model_recordsOf_4
  refine w_iload_n (q := 5) d_Model_recordsOf_4 rfl rfl ?_
  refine w_aload_n (q := 6) d_Model_recordsOf_5 rfl rfl ?_
  refine w_get (q := 9) (ci := 12) (j := 26) d_Model_recordsOf_6 rfl (by decide) fl_Model_121 (by decide) (by decide) s_54 rfl rfl ?_
  by_cases c1 : (g 54 26) ≤ s.2
  · rw [if_pos c1] at h
    refine w_icmp_ge_t (q := 48) d_Model_recordsOf_9 rfl c1 ?_
    cases h
    exact w_ls (by exact (And.intro rfl trivial)) hr
  · rw [if_neg c1] at h
    refine w_icmp_ge_f (q := 12) d_Model_recordsOf_9 48 rfl rfl c1 ?_
    refine w_aload_n (q := 13) d_Model_recordsOf_12 rfl rfl ?_
    refine w_iload_n (q := 14) d_Model_recordsOf_13 rfl rfl ?_
    obtain ⟨v2, hv, h⟩ := bnd h
    refine w_callVi (q := 17) (M' := M_Model_isThere) (n' := 1) (k := 54) (As := [.int s.2]) (sh' := SH) (b1 := (0, 0)) d_Model_recordsOf_14 rfl mw_Model_isThere (by decide) (by decide) ml_Model_315 (by decide) s_54 (by decide) rfl rfl rfl (leb rfl) (bz _) (fun _ => rfl) (ok_Model_isThere hv) ?_
    by_cases c3 : v2 = 0
    · rw [if_pos c3] at h
      refine w_if_eq_t (q := 42) d_Model_recordsOf_17 rfl c3 ?_
      refine w_iinc (q := 45) (ls' := [some (.ref 54), some (.int k1), some (.int s.1), some (.int (s.2 + 1))]) d_Model_recordsOf_42 rfl (by decide) rfl rfl rfl ?_
      refine w_goto (q := 4) d_Model_recordsOf_45 rfl ?_
      cases h
      exact w_ls (by exact (And.intro rfl (And.intro rfl (And.intro rfl (And.intro rfl trivial))))) hr
    · rw [if_neg c3] at h
      refine w_if_eq_f (q := 20) d_Model_recordsOf_17 42 rfl rfl c3 ?_
      refine w_aload_n (q := 21) d_Model_recordsOf_20 rfl rfl ?_
      refine w_iload_n (q := 22) d_Model_recordsOf_21 rfl rfl ?_
      refine w_iconst (q := 23) (v := 1) d_Model_recordsOf_22 rfl (by decide) ?_
      obtain ⟨v4, hv, h⟩ := bnd h
      refine w_callVi (q := 26) (M' := M_Model_of) (n' := 0) (k := 54) (As := [.int s.2, .int 1]) (sh' := SH) (b1 := (0, 0)) d_Model_recordsOf_23 rfl mw_Model_of (by decide) (by decide) ml_Model_305 (by decide) s_54 (by decide) rfl rfl rfl (leb rfl) (bz _) (fun _ => rfl) (ok_Model_of hv) ?_
      refine w_iload_n (q := 27) d_Model_recordsOf_26 rfl rfl ?_
      by_cases c5 : v4 = k1
      · rw [if_pos c5] at h
        refine w_icmp_ne_f (q := 30) d_Model_recordsOf_27 42 rfl rfl c5 ?_
        refine w_iload_n (q := 31) d_Model_recordsOf_30 rfl rfl ?_
        refine w_iconst (q := 32) (v := 1) d_Model_recordsOf_31 rfl (by decide) ?_
        refine w_aload_n (q := 33) d_Model_recordsOf_32 rfl rfl ?_
        refine w_iload_n (q := 34) d_Model_recordsOf_33 rfl rfl ?_
        refine w_bipush (q := 36) (v := 7) d_Model_recordsOf_34 rfl (by decide) ?_
        obtain ⟨v6, hv, h⟩ := bnd h
        refine w_callVi (q := 39) (M' := M_Model_of) (n' := 0) (k := 54) (As := [.int s.2, .int 7]) (sh' := SH) (b1 := (0, 0)) d_Model_recordsOf_36 rfl mw_Model_of (by decide) (by decide) ml_Model_305 (by decide) s_54 (by decide) rfl rfl rfl (leb rfl) (bz _) (fun _ => rfl) (ok_Model_of hv) ?_
        refine w_ishl (q := 40) d_Model_recordsOf_39 rfl ?_
        refine w_ior (q := 41) d_Model_recordsOf_40 rfl ?_
        refine w_istore_n (q := 42) (ls' := [some (.ref 54), some (.int k1), some (.int (s.1 ||| (1 <<< (v6 &&& 31)))), some (.int s.2)]) d_Model_recordsOf_41 rfl (by decide) rfl rfl ?_
        refine w_iinc (q := 45) (ls' := [some (.ref 54), some (.int k1), some (.int (s.1 ||| (1 <<< (v6 &&& 31)))), some (.int (s.2 + 1))]) d_Model_recordsOf_42 rfl (by decide) rfl rfl rfl ?_
        refine w_goto (q := 4) d_Model_recordsOf_45 rfl ?_
        cases h
        exact w_ls (by exact (And.intro rfl (And.intro rfl (And.intro rfl (And.intro rfl trivial))))) hr
      · rw [if_neg c5] at h
        refine w_icmp_ne_t (q := 42) d_Model_recordsOf_27 rfl c5 ?_
        refine w_iinc (q := 45) (ls' := [some (.ref 54), some (.int k1), some (.int s.1), some (.int (s.2 + 1))]) d_Model_recordsOf_42 rfl (by decide) rfl rfl rfl ?_
        refine w_goto (q := 4) d_Model_recordsOf_45 rfl ?_
        cases h
        exact w_ls (by exact (And.intro rfl (And.intro rfl (And.intro rfl (And.intro rfl trivial))))) hr
def sp_Model_recordsOf (F : Nat) (p0 : Int32) (g : Mem) : Option (Int32) := (lpO (st_Model_recordsOf_4 F p0 g p0) F (0, 0)).bind fun x7 => some x7
theorem ok_Model_recordsOf {γ : GG} {tt : Bool} {F : Nat} {p0 : Int32} {g : Mem} {res : Int32} (h : sp_Model_recordsOf F p0 g = some res) : CA γ M_Model_recordsOf 2 [.ref 54, .int p0] SH g tt (0, 0) (pI SH res g tt) := by
  refine CA.of mw_Model_recordsOf.1 2 rfl ?_
  show WA γ M_Model_recordsOf 2 0 [some (.ref 54), some (.int p0), none, none] [] SH g tt (0, 0) (pI SH res g tt)
  unfold sp_Model_recordsOf at h
  refine w_iconst (q := 1) (v := 0) d_Model_recordsOf_0 rfl (by decide) ?_
  refine w_istore_n (q := 2) (ls' := [some (.ref 54), some (.int p0), some (.int 0), none]) d_Model_recordsOf_1 rfl (by decide) rfl rfl ?_
  refine w_iconst (q := 3) (v := 0) d_Model_recordsOf_2 rfl (by decide) ?_
  refine w_istore_n (q := 4) (ls' := [some (.ref 54), some (.int p0), some (.int 0), some (.int 0)]) d_Model_recordsOf_3 rfl (by decide) rfl rfl ?_
  obtain ⟨x7, hx, h⟩ := bnd h
  refine w_ls (ls' := [some (.ref 54), some (.int p0), some (.int 0), some (.int 0)]) (And.intro rfl (And.intro rfl (And.intro rfl (And.intro rfl trivial)))) ?_
  show PL_Model_recordsOf_4 γ tt p0 g p0 _ _ (0, 0)
  refine lp_ok (kl_Model_recordsOf_4) F _ x7 hx ?_
  unfold QL_Model_recordsOf_4
  refine w_iload_n (q := 49) d_Model_recordsOf_48 rfl rfl ?_
  cases h
  exact w_ireturn d_Model_recordsOf_49 rfl rfl ⟨rfl, rfl, rfl, rfl⟩
def PL_Model_heir_30 (γ : GG) (tt : Bool) (p0 : Int32) (g : Mem) (k1 : Int32) (k2 : Int32) (m0 : Mem) (b : Nat × Nat) (Φ : PO) (s : Int32 × Int32) : Prop := WA γ M_Model_heir 3 30 [some (.ref 54), some (.int k1), some (.int k2), some (.int s.1), some (.int s.2)] [] SH m0 tt b Φ
def QL_Model_heir_30 (γ : GG) (tt : Bool) (p0 : Int32) (g : Mem) (k1 : Int32) (k2 : Int32) (m0 : Mem) (b : Nat × Nat) (Φ : PO) (x : (Int32)) : Prop := WA γ M_Model_heir 3 100 [none, none, none, some (.int x), none] [] SH m0 tt b Φ
def st_Model_heir_30 (F : Nat) (p0 : Int32) (g : Mem) (k1 : Int32) (k2 : Int32) (m0 : Mem) (s : Int32 × Int32) : Option ((Int32 × Int32) ⊕ ((Int32))) := (rd m0 58 12 0).bind fun v5 => if v5 ≤ s.2 then some (.inr s.1) else if s.2 = k1 then some (.inl (s.1, s.2 + 1)) else (sp_Model_isOf (m0 54 25) s.2 m0).bind fun v8 => if v8 = 0 then if s.1 = (-1) then some (.inl (s.2, s.2 + 1)) else (sp_Model_recordsOf F s.2 m0).bind fun v11 => (sp_Model_bitsOf F (v11 &&& k2) m0).bind fun v12 => (sp_Model_recordsOf F s.1 m0).bind fun v13 => (sp_Model_bitsOf F (v13 &&& k2) m0).bind fun v14 => if v12 ≤ v14 then some (.inl (s.1, s.2 + 1)) else some (.inl (s.2, s.2 + 1)) else some (.inl (s.1, s.2 + 1))
theorem kl_Model_heir_30 {γ : GG} {tt : Bool} {F : Nat} {p0 : Int32} {g : Mem} {k1 : Int32} {k2 : Int32} {m0 : Mem} {b : Nat × Nat} {Φ : PO} : ∀ (s : Int32 × Int32) (r : (Int32 × Int32) ⊕ ((Int32))), st_Model_heir_30 F p0 g k1 k2 m0 s = some r → RQ (PL_Model_heir_30 γ tt p0 g k1 k2 m0 b Φ) (QL_Model_heir_30 γ tt p0 g k1 k2 m0 b Φ) r → PL_Model_heir_30 γ tt p0 g k1 k2 m0 b Φ s := by
  intro s r h hr
  unfold st_Model_heir_30 at h
  unfold PL_Model_heir_30
  refine w_iload (q := 32) d_Model_heir_30 rfl rfl ?_
  refine w_aload_n (q := 33) d_Model_heir_32 rfl rfl ?_
  refine w_get (q := 36) (ci := 12) (j := 4) d_Model_heir_33 rfl (by decide) fl_Model_51 (by decide) (by decide) s_54 rfl rfl ?_
  refine w_iconst (q := 37) (v := 0) d_Model_heir_36 rfl (by decide) ?_
  obtain ⟨v5, hv, h⟩ := bnd h
  obtain ⟨hi, hv⟩ := rd_ok hv
  refine w_iald (q := 38) (t := 0) d_Model_heir_37 rfl a_58.2 a_58.1 hi rfl ?_
  rw [hv]
  by_cases c6 : v5 ≤ s.2
  · rw [if_pos c6] at h
    refine w_icmp_ge_t (q := 100) d_Model_heir_38 rfl c6 ?_
    cases h
    exact w_ls (by exact (And.intro rfl trivial)) hr
  · rw [if_neg c6] at h
    refine w_icmp_ge_f (q := 41) d_Model_heir_38 100 rfl rfl c6 ?_
    refine w_iload (q := 43) d_Model_heir_41 rfl rfl ?_
    refine w_iload_n (q := 44) d_Model_heir_43 rfl rfl ?_
    by_cases c7 : s.2 = k1
    · rw [if_pos c7] at h
      refine w_icmp_eq_t (q := 94) d_Model_heir_44 rfl c7 ?_
      refine w_iinc (q := 97) (ls' := [some (.ref 54), some (.int k1), some (.int k2), some (.int s.1), some (.int (s.2 + 1))]) d_Model_heir_94 rfl (by decide) rfl rfl rfl ?_
      refine w_goto (q := 30) d_Model_heir_97 rfl ?_
      cases h
      exact w_ls (by exact (And.intro rfl (And.intro rfl (And.intro rfl (And.intro rfl (And.intro rfl trivial)))))) hr
    · rw [if_neg c7] at h
      refine w_icmp_eq_f (q := 47) d_Model_heir_44 94 rfl rfl c7 ?_
      refine w_aload_n (q := 48) d_Model_heir_47 rfl rfl ?_
      refine w_get (q := 51) (ci := 12) (j := 25) d_Model_heir_48 rfl (by decide) fl_Model_289 (by decide) (by decide) s_54 rfl rfl ?_
      refine w_iload (q := 53) d_Model_heir_51 rfl rfl ?_
      obtain ⟨v8, hv, h⟩ := bnd h
      refine w_callSi (q := 56) (M' := M_Model_isOf) (n' := 0) (As := [.int (m0 54 25), .int s.2]) (sh' := SH) (b1 := (0, 0)) d_Model_heir_53 rfl mw_Model_isOf (by decide) (by decide) ml_Model_308 rfl rfl (leb rfl) (bz _) (fun _ => rfl) (ok_Model_isOf hv) ?_
      by_cases c9 : v8 = 0
      · rw [if_pos c9] at h
        refine w_if_eq_t (q := 62) d_Model_heir_56 rfl c9 ?_
        refine w_iload_n (q := 63) d_Model_heir_62 rfl rfl ?_
        refine w_iconst (q := 64) (v := (-1)) d_Model_heir_63 rfl (by decide) ?_
        by_cases c10 : s.1 = (-1)
        · rw [if_pos c10] at h
          refine w_icmp_eq_t (q := 91) d_Model_heir_64 rfl c10 ?_
          refine w_iload (q := 93) d_Model_heir_91 rfl rfl ?_
          refine w_istore_n (q := 94) (ls' := [some (.ref 54), some (.int k1), some (.int k2), some (.int s.2), some (.int s.2)]) d_Model_heir_93 rfl (by decide) rfl rfl ?_
          refine w_iinc (q := 97) (ls' := [some (.ref 54), some (.int k1), some (.int k2), some (.int s.2), some (.int (s.2 + 1))]) d_Model_heir_94 rfl (by decide) rfl rfl rfl ?_
          refine w_goto (q := 30) d_Model_heir_97 rfl ?_
          cases h
          exact w_ls (by exact (And.intro rfl (And.intro rfl (And.intro rfl (And.intro rfl (And.intro rfl trivial)))))) hr
        · rw [if_neg c10] at h
          refine w_icmp_eq_f (q := 67) d_Model_heir_64 91 rfl rfl c10 ?_
          refine w_aload_n (q := 68) d_Model_heir_67 rfl rfl ?_
          refine w_iload (q := 70) d_Model_heir_68 rfl rfl ?_
          obtain ⟨v11, hv, h⟩ := bnd h
          refine w_callVi (q := 73) (M' := M_Model_recordsOf) (n' := 2) (k := 54) (As := [.int s.2]) (sh' := SH) (b1 := (0, 0)) d_Model_heir_70 rfl mw_Model_recordsOf (by decide) (by decide) ml_Model_426 (by decide) s_54 (by decide) rfl rfl rfl (leb rfl) (bz _) (fun _ => rfl) (ok_Model_recordsOf hv) ?_
          refine w_iload_n (q := 74) d_Model_heir_73 rfl rfl ?_
          refine w_iand (q := 75) d_Model_heir_74 rfl ?_
          obtain ⟨v12, hv, h⟩ := bnd h
          refine w_callSi (q := 78) (M' := M_Model_bitsOf) (n' := 0) (As := [.int (v11 &&& k2)]) (sh' := SH) (b1 := (0, 0)) d_Model_heir_75 rfl mw_Model_bitsOf (by decide) (by decide) ml_Model_332 rfl rfl (leb rfl) (bz _) (fun _ => rfl) (ok_Model_bitsOf hv) ?_
          refine w_aload_n (q := 79) d_Model_heir_78 rfl rfl ?_
          refine w_iload_n (q := 80) d_Model_heir_79 rfl rfl ?_
          obtain ⟨v13, hv, h⟩ := bnd h
          refine w_callVi (q := 83) (M' := M_Model_recordsOf) (n' := 2) (k := 54) (As := [.int s.1]) (sh' := SH) (b1 := (0, 0)) d_Model_heir_80 rfl mw_Model_recordsOf (by decide) (by decide) ml_Model_426 (by decide) s_54 (by decide) rfl rfl rfl (leb rfl) (bz _) (fun _ => rfl) (ok_Model_recordsOf hv) ?_
          refine w_iload_n (q := 84) d_Model_heir_83 rfl rfl ?_
          refine w_iand (q := 85) d_Model_heir_84 rfl ?_
          obtain ⟨v14, hv, h⟩ := bnd h
          refine w_callSi (q := 88) (M' := M_Model_bitsOf) (n' := 0) (As := [.int (v13 &&& k2)]) (sh' := SH) (b1 := (0, 0)) d_Model_heir_85 rfl mw_Model_bitsOf (by decide) (by decide) ml_Model_332 rfl rfl (leb rfl) (bz _) (fun _ => rfl) (ok_Model_bitsOf hv) ?_
          by_cases c15 : v12 ≤ v14
          · rw [if_pos c15] at h
            refine w_icmp_le_t (q := 94) d_Model_heir_88 rfl c15 ?_
            refine w_iinc (q := 97) (ls' := [some (.ref 54), some (.int k1), some (.int k2), some (.int s.1), some (.int (s.2 + 1))]) d_Model_heir_94 rfl (by decide) rfl rfl rfl ?_
            refine w_goto (q := 30) d_Model_heir_97 rfl ?_
            cases h
            exact w_ls (by exact (And.intro rfl (And.intro rfl (And.intro rfl (And.intro rfl (And.intro rfl trivial)))))) hr
          · rw [if_neg c15] at h
            refine w_icmp_le_f (q := 91) d_Model_heir_88 94 rfl rfl c15 ?_
            refine w_iload (q := 93) d_Model_heir_91 rfl rfl ?_
            refine w_istore_n (q := 94) (ls' := [some (.ref 54), some (.int k1), some (.int k2), some (.int s.2), some (.int s.2)]) d_Model_heir_93 rfl (by decide) rfl rfl ?_
            refine w_iinc (q := 97) (ls' := [some (.ref 54), some (.int k1), some (.int k2), some (.int s.2), some (.int (s.2 + 1))]) d_Model_heir_94 rfl (by decide) rfl rfl rfl ?_
            refine w_goto (q := 30) d_Model_heir_97 rfl ?_
            cases h
            exact w_ls (by exact (And.intro rfl (And.intro rfl (And.intro rfl (And.intro rfl (And.intro rfl trivial)))))) hr
      · rw [if_neg c9] at h
        refine w_if_eq_f (q := 59) d_Model_heir_56 62 rfl rfl c9 ?_
        refine w_goto (q := 94) d_Model_heir_59 rfl ?_
        refine w_iinc (q := 97) (ls' := [some (.ref 54), some (.int k1), some (.int k2), some (.int s.1), some (.int (s.2 + 1))]) d_Model_heir_94 rfl (by decide) rfl rfl rfl ?_
        refine w_goto (q := 30) d_Model_heir_97 rfl ?_
        cases h
        exact w_ls (by exact (And.intro rfl (And.intro rfl (And.intro rfl (And.intro rfl (And.intro rfl trivial)))))) hr
def sp_Model_heir (F : Nat) (p0 : Int32) (g : Mem) : Option (Int32 × Mem) := (sp_Model_isMonk p0 (mset g 54 3 0)).bind fun v1 => if v1 = 0 then (sp_Model_fail 1 (mset g 54 3 0)).bind fun v3 => some (v3.1, v3.2) else (sp_Model_recordsOf F p0 (mset g 54 3 0)).bind fun v4 => (lpO (st_Model_heir_30 F p0 g p0 v4 (mset g 54 3 0)) F ((-1), 0)).bind fun x16 => some (x16, (mset g 54 3 0))
theorem ok_Model_heir {γ : GG} {tt : Bool} {F : Nat} {p0 : Int32} {g : Mem} {res : Int32 × Mem} (h : sp_Model_heir F p0 g = some res) : CA γ M_Model_heir 3 [.ref 54, .int p0] SH g tt (0, 0) (pI SH res.1 res.2 tt) := by
  refine CA.of mw_Model_heir.1 3 rfl ?_
  show WA γ M_Model_heir 3 0 [some (.ref 54), some (.int p0), none, none, none] [] SH g tt (0, 0) (pI SH res.1 res.2 tt)
  unfold sp_Model_heir at h
  refine w_aload_n (q := 1) d_Model_heir_0 rfl rfl ?_
  refine w_iconst (q := 2) (v := 0) d_Model_heir_1 rfl (by decide) ?_
  refine w_put (q := 5) (ci := 12) (j := 3) d_Model_heir_2 rfl (by decide) fl_Model_114 (by decide) (by decide) s_54 rfl rfl rfl rfl rfl rfl ?_
  refine w_aload_n (q := 6) d_Model_heir_5 rfl rfl ?_
  refine w_iload_n (q := 7) d_Model_heir_6 rfl rfl ?_
  obtain ⟨v1, hv, h⟩ := bnd h
  refine w_callVi (q := 10) (M' := M_Model_isMonk) (n' := 1) (k := 54) (As := [.int p0]) (sh' := SH) (b1 := (0, 0)) d_Model_heir_7 rfl mw_Model_isMonk (by decide) (by decide) ml_Model_335 (by decide) s_54 (by decide) rfl rfl rfl (leb rfl) (bz _) (fun _ => rfl) (ok_Model_isMonk hv) ?_
  by_cases c2 : v1 = 0
  · rw [if_pos c2] at h
    refine w_if_ne_f (q := 13) d_Model_heir_10 19 rfl rfl c2 ?_
    refine w_aload_n (q := 14) d_Model_heir_13 rfl rfl ?_
    refine w_iconst (q := 15) (v := 1) d_Model_heir_14 rfl (by decide) ?_
    obtain ⟨v3, hv, h⟩ := bnd h
    refine w_callVi (q := 18) (M' := M_Model_fail) (n' := 0) (k := 54) (As := [.int 1]) (sh' := SH) (b1 := (0, 0)) d_Model_heir_15 rfl mw_Model_fail (by decide) (by decide) ml_Model_273 (by decide) s_54 (by decide) rfl rfl rfl (leb rfl) (bz _) (fun _ => rfl) (ok_Model_fail hv) ?_
    cases h
    exact w_ireturn d_Model_heir_18 rfl rfl ⟨rfl, rfl, rfl, rfl⟩
  · rw [if_neg c2] at h
    refine w_if_ne_t (q := 19) d_Model_heir_10 rfl c2 ?_
    refine w_aload_n (q := 20) d_Model_heir_19 rfl rfl ?_
    refine w_iload_n (q := 21) d_Model_heir_20 rfl rfl ?_
    obtain ⟨v4, hv, h⟩ := bnd h
    refine w_callVi (q := 24) (M' := M_Model_recordsOf) (n' := 2) (k := 54) (As := [.int p0]) (sh' := SH) (b1 := (0, 0)) d_Model_heir_21 rfl mw_Model_recordsOf (by decide) (by decide) ml_Model_426 (by decide) s_54 (by decide) rfl rfl rfl (leb rfl) (bz _) (fun _ => rfl) (ok_Model_recordsOf hv) ?_
    refine w_istore_n (q := 25) (ls' := [some (.ref 54), some (.int p0), some (.int v4), none, none]) d_Model_heir_24 rfl (by decide) rfl rfl ?_
    refine w_iconst (q := 26) (v := (-1)) d_Model_heir_25 rfl (by decide) ?_
    refine w_istore_n (q := 27) (ls' := [some (.ref 54), some (.int p0), some (.int v4), some (.int ((-1))), none]) d_Model_heir_26 rfl (by decide) rfl rfl ?_
    refine w_iconst (q := 28) (v := 0) d_Model_heir_27 rfl (by decide) ?_
    refine w_istore (q := 30) (ls' := [some (.ref 54), some (.int p0), some (.int v4), some (.int ((-1))), some (.int 0)]) d_Model_heir_28 rfl (by decide) rfl rfl ?_
    obtain ⟨x16, hx, h⟩ := bnd h
    refine w_ls (ls' := [some (.ref 54), some (.int p0), some (.int v4), some (.int ((-1))), some (.int 0)]) (And.intro rfl (And.intro rfl (And.intro rfl (And.intro rfl (And.intro rfl trivial))))) ?_
    show PL_Model_heir_30 γ tt p0 g p0 v4 (mset g 54 3 0) _ _ ((-1), 0)
    refine lp_ok (kl_Model_heir_30) F _ x16 hx ?_
    unfold QL_Model_heir_30
    refine w_iload_n (q := 101) d_Model_heir_100 rfl rfl ?_
    cases h
    exact w_ireturn d_Model_heir_101 rfl rfl ⟨rfl, rfl, rfl, rfl⟩
def PL_Model_lice_23 (γ : GG) (tt : Bool) (p0 : Int32) (g : Mem) (k1 : Int32) (m0 : Mem) (b : Nat × Nat) (Φ : PO) (s : Int32 × Int32) : Prop := WA γ M_Model_lice 3 23 [some (.ref 54), some (.int k1), some (.int s.1), some (.int s.2)] [] SH m0 tt b Φ
def QL_Model_lice_23 (γ : GG) (tt : Bool) (p0 : Int32) (g : Mem) (k1 : Int32) (m0 : Mem) (b : Nat × Nat) (Φ : PO) (x : (Int32)) : Prop := WA γ M_Model_lice 3 76 [none, none, some (.int x), none] [] SH m0 tt b Φ
def st_Model_lice_23 (F : Nat) (p0 : Int32) (g : Mem) (k1 : Int32) (m0 : Mem) (s : Int32 × Int32) : Option ((Int32 × Int32) ⊕ ((Int32))) := if (m0 54 26) ≤ s.2 then some (.inr s.1) else (sp_Model_isThere s.2 m0).bind fun v5 => if v5 = 0 then some (.inl (s.1 + 0, s.2 + 1)) else (sp_Model_of s.2 1 m0).bind fun v7 => if v7 = k1 then (sp_Model_of s.2 4 m0).bind fun v9 => (sp_Model_old s.2 m0).bind fun v10 => some (.inl (s.1 + (v9 * (v10 + 1)), s.2 + 1)) else some (.inl (s.1 + 0, s.2 + 1))
theorem kl_Model_lice_23 {γ : GG} {tt : Bool} {F : Nat} {p0 : Int32} {g : Mem} {k1 : Int32} {m0 : Mem} {b : Nat × Nat} {Φ : PO} : ∀ (s : Int32 × Int32) (r : (Int32 × Int32) ⊕ ((Int32))), st_Model_lice_23 F p0 g k1 m0 s = some r → RQ (PL_Model_lice_23 γ tt p0 g k1 m0 b Φ) (QL_Model_lice_23 γ tt p0 g k1 m0 b Φ) r → PL_Model_lice_23 γ tt p0 g k1 m0 b Φ s := by
  intro s r h hr
  unfold st_Model_lice_23 at h
  unfold PL_Model_lice_23
  refine w_iload_n (q := 24) d_Model_lice_23 rfl rfl ?_
  refine w_aload_n (q := 25) d_Model_lice_24 rfl rfl ?_
  refine w_get (q := 28) (ci := 12) (j := 26) d_Model_lice_25 rfl (by decide) fl_Model_121 (by decide) (by decide) s_54 rfl rfl ?_
  by_cases c4 : (m0 54 26) ≤ s.2
  · rw [if_pos c4] at h
    refine w_icmp_ge_t (q := 76) d_Model_lice_28 rfl c4 ?_
    cases h
    exact w_ls (by exact (And.intro rfl trivial)) hr
  · rw [if_neg c4] at h
    refine w_icmp_ge_f (q := 31) d_Model_lice_28 76 rfl rfl c4 ?_
    refine w_iload_n (q := 32) d_Model_lice_31 rfl rfl ?_
    refine w_aload_n (q := 33) d_Model_lice_32 rfl rfl ?_
    refine w_iload_n (q := 34) d_Model_lice_33 rfl rfl ?_
    obtain ⟨v5, hv, h⟩ := bnd h
    refine w_callVi (q := 37) (M' := M_Model_isThere) (n' := 1) (k := 54) (As := [.int s.2]) (sh' := SH) (b1 := (0, 0)) d_Model_lice_34 rfl mw_Model_isThere (by decide) (by decide) ml_Model_315 (by decide) s_54 (by decide) rfl rfl rfl (leb rfl) (bz _) (fun _ => rfl) (ok_Model_isThere hv) ?_
    by_cases c6 : v5 = 0
    · rw [if_pos c6] at h
      refine w_if_eq_t (q := 67) d_Model_lice_37 rfl c6 ?_
      refine w_iconst (q := 68) (v := 0) d_Model_lice_67 rfl (by decide) ?_
      refine w_iadd (q := 69) d_Model_lice_68 rfl ?_
      refine w_istore_n (q := 70) (ls' := [some (.ref 54), some (.int k1), some (.int (s.1 + 0)), some (.int s.2)]) d_Model_lice_69 rfl (by decide) rfl rfl ?_
      refine w_iinc (q := 73) (ls' := [some (.ref 54), some (.int k1), some (.int (s.1 + 0)), some (.int (s.2 + 1))]) d_Model_lice_70 rfl (by decide) rfl rfl rfl ?_
      refine w_goto (q := 23) d_Model_lice_73 rfl ?_
      cases h
      exact w_ls (by exact (And.intro rfl (And.intro rfl (And.intro rfl (And.intro rfl trivial))))) hr
    · rw [if_neg c6] at h
      refine w_if_eq_f (q := 40) d_Model_lice_37 67 rfl rfl c6 ?_
      refine w_aload_n (q := 41) d_Model_lice_40 rfl rfl ?_
      refine w_iload_n (q := 42) d_Model_lice_41 rfl rfl ?_
      refine w_iconst (q := 43) (v := 1) d_Model_lice_42 rfl (by decide) ?_
      obtain ⟨v7, hv, h⟩ := bnd h
      refine w_callVi (q := 46) (M' := M_Model_of) (n' := 0) (k := 54) (As := [.int s.2, .int 1]) (sh' := SH) (b1 := (0, 0)) d_Model_lice_43 rfl mw_Model_of (by decide) (by decide) ml_Model_305 (by decide) s_54 (by decide) rfl rfl rfl (leb rfl) (bz _) (fun _ => rfl) (ok_Model_of hv) ?_
      refine w_iload_n (q := 47) d_Model_lice_46 rfl rfl ?_
      by_cases c8 : v7 = k1
      · rw [if_pos c8] at h
        refine w_icmp_ne_f (q := 50) d_Model_lice_47 67 rfl rfl c8 ?_
        refine w_aload_n (q := 51) d_Model_lice_50 rfl rfl ?_
        refine w_iload_n (q := 52) d_Model_lice_51 rfl rfl ?_
        refine w_iconst (q := 53) (v := 4) d_Model_lice_52 rfl (by decide) ?_
        obtain ⟨v9, hv, h⟩ := bnd h
        refine w_callVi (q := 56) (M' := M_Model_of) (n' := 0) (k := 54) (As := [.int s.2, .int 4]) (sh' := SH) (b1 := (0, 0)) d_Model_lice_53 rfl mw_Model_of (by decide) (by decide) ml_Model_305 (by decide) s_54 (by decide) rfl rfl rfl (leb rfl) (bz _) (fun _ => rfl) (ok_Model_of hv) ?_
        refine w_aload_n (q := 57) d_Model_lice_56 rfl rfl ?_
        refine w_iload_n (q := 58) d_Model_lice_57 rfl rfl ?_
        obtain ⟨v10, hv, h⟩ := bnd h
        refine w_callVi (q := 61) (M' := M_Model_old) (n' := 2) (k := 54) (As := [.int s.2]) (sh' := SH) (b1 := (0, 0)) d_Model_lice_58 rfl mw_Model_old (by decide) (by decide) ml_Model_318 (by decide) s_54 (by decide) rfl rfl rfl (leb rfl) (bz _) (fun _ => rfl) (ok_Model_old hv) ?_
        refine w_iconst (q := 62) (v := 1) d_Model_lice_61 rfl (by decide) ?_
        refine w_iadd (q := 63) d_Model_lice_62 rfl ?_
        refine w_imul (q := 64) d_Model_lice_63 rfl ?_
        refine w_goto (q := 68) d_Model_lice_64 rfl ?_
        refine w_iadd (q := 69) d_Model_lice_68 rfl ?_
        refine w_istore_n (q := 70) (ls' := [some (.ref 54), some (.int k1), some (.int (s.1 + (v9 * (v10 + 1)))), some (.int s.2)]) d_Model_lice_69 rfl (by decide) rfl rfl ?_
        refine w_iinc (q := 73) (ls' := [some (.ref 54), some (.int k1), some (.int (s.1 + (v9 * (v10 + 1)))), some (.int (s.2 + 1))]) d_Model_lice_70 rfl (by decide) rfl rfl rfl ?_
        refine w_goto (q := 23) d_Model_lice_73 rfl ?_
        cases h
        exact w_ls (by exact (And.intro rfl (And.intro rfl (And.intro rfl (And.intro rfl trivial))))) hr
      · rw [if_neg c8] at h
        refine w_icmp_ne_t (q := 67) d_Model_lice_47 rfl c8 ?_
        refine w_iconst (q := 68) (v := 0) d_Model_lice_67 rfl (by decide) ?_
        refine w_iadd (q := 69) d_Model_lice_68 rfl ?_
        refine w_istore_n (q := 70) (ls' := [some (.ref 54), some (.int k1), some (.int (s.1 + 0)), some (.int s.2)]) d_Model_lice_69 rfl (by decide) rfl rfl ?_
        refine w_iinc (q := 73) (ls' := [some (.ref 54), some (.int k1), some (.int (s.1 + 0)), some (.int (s.2 + 1))]) d_Model_lice_70 rfl (by decide) rfl rfl rfl ?_
        refine w_goto (q := 23) d_Model_lice_73 rfl ?_
        cases h
        exact w_ls (by exact (And.intro rfl (And.intro rfl (And.intro rfl (And.intro rfl trivial))))) hr
def sp_Model_lice (F : Nat) (p0 : Int32) (g : Mem) : Option (Int32 × Mem) := (sp_Model_isMonk p0 (mset g 54 3 0)).bind fun v1 => if v1 = 0 then (sp_Model_fail 1 (mset g 54 3 0)).bind fun v3 => some (v3.1, v3.2) else (lpO (st_Model_lice_23 F p0 g p0 (mset g 54 3 0)) F (0, 0)).bind fun x11 => (rm x11 97).bind fun v12 => some (v12, (mset g 54 3 0))
theorem ok_Model_lice {γ : GG} {tt : Bool} {F : Nat} {p0 : Int32} {g : Mem} {res : Int32 × Mem} (h : sp_Model_lice F p0 g = some res) : CA γ M_Model_lice 3 [.ref 54, .int p0] SH g tt (0, 0) (pI SH res.1 res.2 tt) := by
  refine CA.of mw_Model_lice.1 2 rfl ?_
  show WA γ M_Model_lice 3 0 [some (.ref 54), some (.int p0), none, none] [] SH g tt (0, 0) (pI SH res.1 res.2 tt)
  unfold sp_Model_lice at h
  refine w_aload_n (q := 1) d_Model_lice_0 rfl rfl ?_
  refine w_iconst (q := 2) (v := 0) d_Model_lice_1 rfl (by decide) ?_
  refine w_put (q := 5) (ci := 12) (j := 3) d_Model_lice_2 rfl (by decide) fl_Model_114 (by decide) (by decide) s_54 rfl rfl rfl rfl rfl rfl ?_
  refine w_aload_n (q := 6) d_Model_lice_5 rfl rfl ?_
  refine w_iload_n (q := 7) d_Model_lice_6 rfl rfl ?_
  obtain ⟨v1, hv, h⟩ := bnd h
  refine w_callVi (q := 10) (M' := M_Model_isMonk) (n' := 1) (k := 54) (As := [.int p0]) (sh' := SH) (b1 := (0, 0)) d_Model_lice_7 rfl mw_Model_isMonk (by decide) (by decide) ml_Model_335 (by decide) s_54 (by decide) rfl rfl rfl (leb rfl) (bz _) (fun _ => rfl) (ok_Model_isMonk hv) ?_
  by_cases c2 : v1 = 0
  · rw [if_pos c2] at h
    refine w_if_ne_f (q := 13) d_Model_lice_10 19 rfl rfl c2 ?_
    refine w_aload_n (q := 14) d_Model_lice_13 rfl rfl ?_
    refine w_iconst (q := 15) (v := 1) d_Model_lice_14 rfl (by decide) ?_
    obtain ⟨v3, hv, h⟩ := bnd h
    refine w_callVi (q := 18) (M' := M_Model_fail) (n' := 0) (k := 54) (As := [.int 1]) (sh' := SH) (b1 := (0, 0)) d_Model_lice_15 rfl mw_Model_fail (by decide) (by decide) ml_Model_273 (by decide) s_54 (by decide) rfl rfl rfl (leb rfl) (bz _) (fun _ => rfl) (ok_Model_fail hv) ?_
    cases h
    exact w_ireturn d_Model_lice_18 rfl rfl ⟨rfl, rfl, rfl, rfl⟩
  · rw [if_neg c2] at h
    refine w_if_ne_t (q := 19) d_Model_lice_10 rfl c2 ?_
    refine w_iconst (q := 20) (v := 0) d_Model_lice_19 rfl (by decide) ?_
    refine w_istore_n (q := 21) (ls' := [some (.ref 54), some (.int p0), some (.int 0), none]) d_Model_lice_20 rfl (by decide) rfl rfl ?_
    refine w_iconst (q := 22) (v := 0) d_Model_lice_21 rfl (by decide) ?_
    refine w_istore_n (q := 23) (ls' := [some (.ref 54), some (.int p0), some (.int 0), some (.int 0)]) d_Model_lice_22 rfl (by decide) rfl rfl ?_
    obtain ⟨x11, hx, h⟩ := bnd h
    refine w_ls (ls' := [some (.ref 54), some (.int p0), some (.int 0), some (.int 0)]) (And.intro rfl (And.intro rfl (And.intro rfl (And.intro rfl trivial)))) ?_
    show PL_Model_lice_23 γ tt p0 g p0 (mset g 54 3 0) _ _ (0, 0)
    refine lp_ok (kl_Model_lice_23) F _ x11 hx ?_
    unfold QL_Model_lice_23
    refine w_iload_n (q := 77) d_Model_lice_76 rfl rfl ?_
    refine w_bipush (q := 79) (v := 97) d_Model_lice_77 rfl (by decide) ?_
    obtain ⟨v12, hv, h⟩ := bnd h
    obtain ⟨hz, hv⟩ := rm_ok hv
    refine w_irem (q := 80) d_Model_lice_79 rfl hz ?_
    rw [hv]
    cases h
    exact w_ireturn d_Model_lice_80 rfl rfl ⟨rfl, rfl, rfl, rfl⟩
def sp_Model_see_j61 (p0 : Int32) (p1 : Int32) (g : Mem) (m0 : Mem) (y0 : Int32) (y1 : Int32) : Option (Int32 × Mem) := (wr m0 72 8 y1 y0).bind fun g8 => some ((mset g8 54 28 ((g8 54 28) + 1)) 54 28, (mset g8 54 28 ((g8 54 28) + 1)))
theorem ok_Model_see_j61 {γ : GG} {tt : Bool} {p0 : Int32} {p1 : Int32} {g : Mem} {m0 : Mem} {y0 : Int32} {y1 : Int32} {res : Int32 × Mem} (h : sp_Model_see_j61 p0 p1 g m0 y0 y1 = some res) : WA γ M_Model_see 2 61 [some (.ref 54), none, none] [.int y0, .int y1, .ref 72] SH m0 tt (0, 0) (pI SH res.1 res.2 tt) := by
  unfold sp_Model_see_j61 at h
  obtain ⟨g8, hv, h⟩ := bnd h
  obtain ⟨hi, hv⟩ := wr_ok hv
  refine w_iast (q := 62) d_Model_see_61 rfl a_72.2 a_72.1 hi hv ?_
  refine w_aload_n (q := 63) d_Model_see_62 rfl rfl ?_
  refine w_dup (q := 64) d_Model_see_63 rfl rfl ?_
  refine w_get (q := 67) (ci := 12) (j := 28) d_Model_see_64 rfl (by decide) fl_Model_298 (by decide) (by decide) s_54 rfl rfl ?_
  refine w_iconst (q := 68) (v := 1) d_Model_see_67 rfl (by decide) ?_
  refine w_iadd (q := 69) d_Model_see_68 rfl ?_
  refine w_put (q := 72) (ci := 12) (j := 28) d_Model_see_69 rfl (by decide) fl_Model_298 (by decide) (by decide) s_54 rfl rfl rfl rfl rfl rfl ?_
  refine w_aload_n (q := 73) d_Model_see_72 rfl rfl ?_
  refine w_get (q := 76) (ci := 12) (j := 28) d_Model_see_73 rfl (by decide) fl_Model_298 (by decide) (by decide) s_54 rfl rfl ?_
  cases h
  exact w_ireturn d_Model_see_76 rfl rfl ⟨rfl, rfl, rfl, rfl⟩
def sp_Model_see (p0 : Int32) (p1 : Int32) (g : Mem) : Option (Int32 × Mem) := (sp_Model_isEntry p0 (mset g 54 3 0)).bind fun v1 => if v1 = 0 then (sp_Model_fail 1 (mset g 54 3 0)).bind fun v3 => some (v3.1, v3.2) else if ((mset g 54 3 0) 54 28) = 8 then (sp_Model_refuse 2 (mset g 54 3 0)).bind fun v5 => some (v5.1, v5.2) else (wr (mset g 54 3 0) 71 8 ((mset g 54 3 0) 54 28) p0).bind fun g6 => if p1 = 0 then sp_Model_see_j61 p0 p1 g g6 0 (g6 54 28) else sp_Model_see_j61 p0 p1 g g6 1 (g6 54 28)
theorem ok_Model_see {γ : GG} {tt : Bool} {p0 : Int32} {p1 : Int32} {g : Mem} {res : Int32 × Mem} (h : sp_Model_see p0 p1 g = some res) : CA γ M_Model_see 2 [.ref 54, .int p0, .int p1] SH g tt (0, 0) (pI SH res.1 res.2 tt) := by
  refine CA.of mw_Model_see.1 0 rfl ?_
  show WA γ M_Model_see 2 0 [some (.ref 54), some (.int p0), some (.int p1)] [] SH g tt (0, 0) (pI SH res.1 res.2 tt)
  unfold sp_Model_see at h
  refine w_aload_n (q := 1) d_Model_see_0 rfl rfl ?_
  refine w_iconst (q := 2) (v := 0) d_Model_see_1 rfl (by decide) ?_
  refine w_put (q := 5) (ci := 12) (j := 3) d_Model_see_2 rfl (by decide) fl_Model_114 (by decide) (by decide) s_54 rfl rfl rfl rfl rfl rfl ?_
  refine w_aload_n (q := 6) d_Model_see_5 rfl rfl ?_
  refine w_iload_n (q := 7) d_Model_see_6 rfl rfl ?_
  obtain ⟨v1, hv, h⟩ := bnd h
  refine w_callVi (q := 10) (M' := M_Model_isEntry) (n' := 1) (k := 54) (As := [.int p0]) (sh' := SH) (b1 := (0, 0)) d_Model_see_7 rfl mw_Model_isEntry (by decide) (by decide) ml_Model_341 (by decide) s_54 (by decide) rfl rfl rfl (leb rfl) (bz _) (fun _ => rfl) (ok_Model_isEntry hv) ?_
  by_cases c2 : v1 = 0
  · rw [if_pos c2] at h
    refine w_if_ne_f (q := 13) d_Model_see_10 19 rfl rfl c2 ?_
    refine w_aload_n (q := 14) d_Model_see_13 rfl rfl ?_
    refine w_iconst (q := 15) (v := 1) d_Model_see_14 rfl (by decide) ?_
    obtain ⟨v3, hv, h⟩ := bnd h
    refine w_callVi (q := 18) (M' := M_Model_fail) (n' := 0) (k := 54) (As := [.int 1]) (sh' := SH) (b1 := (0, 0)) d_Model_see_15 rfl mw_Model_fail (by decide) (by decide) ml_Model_273 (by decide) s_54 (by decide) rfl rfl rfl (leb rfl) (bz _) (fun _ => rfl) (ok_Model_fail hv) ?_
    cases h
    exact w_ireturn d_Model_see_18 rfl rfl ⟨rfl, rfl, rfl, rfl⟩
  · rw [if_neg c2] at h
    refine w_if_ne_t (q := 19) d_Model_see_10 rfl c2 ?_
    refine w_aload_n (q := 20) d_Model_see_19 rfl rfl ?_
    refine w_get (q := 23) (ci := 12) (j := 28) d_Model_see_20 rfl (by decide) fl_Model_298 (by decide) (by decide) s_54 rfl rfl ?_
    refine w_bipush (q := 25) (v := 8) d_Model_see_23 rfl (by decide) ?_
    by_cases c4 : ((mset g 54 3 0) 54 28) = 8
    · rw [if_pos c4] at h
      refine w_icmp_ne_f (q := 28) d_Model_see_25 34 rfl rfl c4 ?_
      refine w_aload_n (q := 29) d_Model_see_28 rfl rfl ?_
      refine w_iconst (q := 30) (v := 2) d_Model_see_29 rfl (by decide) ?_
      obtain ⟨v5, hv, h⟩ := bnd h
      refine w_callVi (q := 33) (M' := M_Model_refuse) (n' := 0) (k := 54) (As := [.int 2]) (sh' := SH) (b1 := (0, 0)) d_Model_see_30 rfl mw_Model_refuse (by decide) (by decide) ml_Model_365 (by decide) s_54 (by decide) rfl rfl rfl (leb rfl) (bz _) (fun _ => rfl) (ok_Model_refuse hv) ?_
      cases h
      exact w_ireturn d_Model_see_33 rfl rfl ⟨rfl, rfl, rfl, rfl⟩
    · rw [if_neg c4] at h
      refine w_icmp_ne_t (q := 34) d_Model_see_25 rfl c4 ?_
      refine w_aload_n (q := 35) d_Model_see_34 rfl rfl ?_
      refine w_get (q := 38) (ci := 12) (j := 32) d_Model_see_35 rfl (by decide) fl_Model_93 (by decide) (by decide) s_54 rfl rfl ?_
      refine w_aload_n (q := 39) d_Model_see_38 rfl rfl ?_
      refine w_get (q := 42) (ci := 12) (j := 28) d_Model_see_39 rfl (by decide) fl_Model_298 (by decide) (by decide) s_54 rfl rfl ?_
      refine w_iload_n (q := 43) d_Model_see_42 rfl rfl ?_
      obtain ⟨g6, hv, h⟩ := bnd h
      obtain ⟨hi, hv⟩ := wr_ok hv
      refine w_iast (q := 44) d_Model_see_43 rfl a_71.2 a_71.1 hi hv ?_
      refine w_aload_n (q := 45) d_Model_see_44 rfl rfl ?_
      refine w_get (q := 48) (ci := 12) (j := 33) d_Model_see_45 rfl (by decide) fl_Model_96 (by decide) (by decide) s_54 rfl rfl ?_
      refine w_aload_n (q := 49) d_Model_see_48 rfl rfl ?_
      refine w_get (q := 52) (ci := 12) (j := 28) d_Model_see_49 rfl (by decide) fl_Model_298 (by decide) (by decide) s_54 rfl rfl ?_
      refine w_iload_n (q := 53) d_Model_see_52 rfl rfl ?_
      by_cases c7 : p1 = 0
      · rw [if_pos c7] at h
        refine w_if_eq_t (q := 60) d_Model_see_53 rfl c7 ?_
        refine w_iconst (q := 61) (v := 0) d_Model_see_60 rfl (by decide) ?_
        refine w_ls (ls' := [some (.ref 54), none, none]) (And.intro rfl trivial) ?_
        exact ok_Model_see_j61 h
      · rw [if_neg c7] at h
        refine w_if_eq_f (q := 56) d_Model_see_53 60 rfl rfl c7 ?_
        refine w_iconst (q := 57) (v := 1) d_Model_see_56 rfl (by decide) ?_
        refine w_goto (q := 61) d_Model_see_57 rfl ?_
        refine w_ls (ls' := [some (.ref 54), none, none]) (And.intro rfl trivial) ?_
        exact ok_Model_see_j61 h
def PL_Model_isAsSeen_2 (γ : GG) (tt : Bool) (g : Mem) (b : Nat × Nat) (Φ : PO) (s : Int32) : Prop := WA γ M_Model_isAsSeen 2 2 [some (.ref 54), some (.int s)] [] SH g tt b Φ
def QL_Model_isAsSeen_2 (γ : GG) (tt : Bool) (g : Mem) (b : Nat × Nat) (Φ : PO) (x : (Unit) ⊕ (Unit)) : Prop := match x with
  | .inl x => WA γ M_Model_isAsSeen 2 50 [none, none] [] SH g tt b Φ
  | .inr x => WA γ M_Model_isAsSeen 2 58 [none, none] [] SH g tt b Φ
def sp_Model_isAsSeen_j41_2 (F : Nat) (g : Mem) (x1 : Int32) (y0 : Int32) : Option ((Int32) ⊕ ((Unit) ⊕ (Unit))) := (rd g 72 8 x1).bind fun v5 => if y0 = v5 then some (.inl (x1 + 1)) else some (.inr (.inl ()))
theorem ok_Model_isAsSeen_j41_2 {γ : GG} {tt : Bool} {F : Nat} {g : Mem} {x1 : Int32} {y0 : Int32} {b : Nat × Nat} {Φ : PO} {r : (Int32) ⊕ ((Unit) ⊕ (Unit))} (h : sp_Model_isAsSeen_j41_2 F g x1 y0 = some r) (hr : RQ (PL_Model_isAsSeen_2 γ tt g b Φ) (QL_Model_isAsSeen_2 γ tt g b Φ) r) : WA γ M_Model_isAsSeen 2 41 [some (.ref 54), some (.int x1)] [.int y0] SH g tt b Φ := by
  unfold sp_Model_isAsSeen_j41_2 at h
  refine w_aload_n (q := 42) d_Model_isAsSeen_41 rfl rfl ?_
  refine w_get (q := 45) (ci := 12) (j := 33) d_Model_isAsSeen_42 rfl (by decide) fl_Model_96 (by decide) (by decide) s_54 rfl rfl ?_
  refine w_iload_n (q := 46) d_Model_isAsSeen_45 rfl rfl ?_
  obtain ⟨v5, hv, h⟩ := bnd h
  obtain ⟨hi, hv⟩ := rd_ok hv
  refine w_iald (q := 47) (t := 0) d_Model_isAsSeen_46 rfl a_72.2 a_72.1 hi rfl ?_
  rw [hv]
  by_cases c6 : y0 = v5
  · rw [if_pos c6] at h
    refine w_icmp_eq_t (q := 52) d_Model_isAsSeen_47 rfl c6 ?_
    refine w_iinc (q := 55) (ls' := [some (.ref 54), some (.int (x1 + 1))]) d_Model_isAsSeen_52 rfl (by decide) rfl rfl rfl ?_
    refine w_goto (q := 2) d_Model_isAsSeen_55 rfl ?_
    cases h
    exact w_ls (by exact (And.intro rfl (And.intro rfl trivial))) hr
  · rw [if_neg c6] at h
    refine w_icmp_eq_f (q := 50) d_Model_isAsSeen_47 52 rfl rfl c6 ?_
    cases h
    exact w_ls (by exact trivial) hr
def sp_Model_isAsSeen_j40_2 (F : Nat) (g : Mem) (x1 : Int32) : Option ((Int32) ⊕ ((Unit) ⊕ (Unit))) := sp_Model_isAsSeen_j41_2 F g x1 0
theorem ok_Model_isAsSeen_j40_2 {γ : GG} {tt : Bool} {F : Nat} {g : Mem} {x1 : Int32} {b : Nat × Nat} {Φ : PO} {r : (Int32) ⊕ ((Unit) ⊕ (Unit))} (h : sp_Model_isAsSeen_j40_2 F g x1 = some r) (hr : RQ (PL_Model_isAsSeen_2 γ tt g b Φ) (QL_Model_isAsSeen_2 γ tt g b Φ) r) : WA γ M_Model_isAsSeen 2 40 [some (.ref 54), some (.int x1)] [] SH g tt b Φ := by
  unfold sp_Model_isAsSeen_j40_2 at h
  refine w_iconst (q := 41) (v := 0) d_Model_isAsSeen_40 rfl (by decide) ?_
  refine w_ls (ls' := [some (.ref 54), some (.int x1)]) (And.intro rfl (And.intro rfl trivial)) ?_
  exact ok_Model_isAsSeen_j41_2 h hr
def st_Model_isAsSeen_2 (F : Nat) (g : Mem) (s : Int32) : Option ((Int32) ⊕ ((Unit) ⊕ (Unit))) := if (g 54 28) ≤ s then some (.inr (.inr ())) else (rd g 71 8 s).bind fun v2 => (sp_Model_isEntry v2 g).bind fun v3 => if v3 = 0 then sp_Model_isAsSeen_j40_2 F g s else (rd g 71 8 s).bind fun v7 => (sp_Model_isThere v7 g).bind fun v8 => if v8 = 0 then sp_Model_isAsSeen_j40_2 F g s else sp_Model_isAsSeen_j41_2 F g s 1
theorem kl_Model_isAsSeen_2 {γ : GG} {tt : Bool} {F : Nat} {g : Mem} {b : Nat × Nat} {Φ : PO} : ∀ (s : Int32) (r : (Int32) ⊕ ((Unit) ⊕ (Unit))), st_Model_isAsSeen_2 F g s = some r → RQ (PL_Model_isAsSeen_2 γ tt g b Φ) (QL_Model_isAsSeen_2 γ tt g b Φ) r → PL_Model_isAsSeen_2 γ tt g b Φ s := by
  intro s r h hr
  unfold st_Model_isAsSeen_2 at h
  unfold PL_Model_isAsSeen_2
  refine w_iload_n (q := 3) d_Model_isAsSeen_2 rfl rfl ?_
  refine w_aload_n (q := 4) d_Model_isAsSeen_3 rfl rfl ?_
  refine w_get (q := 7) (ci := 12) (j := 28) d_Model_isAsSeen_4 rfl (by decide) fl_Model_298 (by decide) (by decide) s_54 rfl rfl ?_
  by_cases c1 : (g 54 28) ≤ s
  · rw [if_pos c1] at h
    refine w_icmp_ge_t (q := 58) d_Model_isAsSeen_7 rfl c1 ?_
    cases h
    exact w_ls (by exact trivial) hr
  · rw [if_neg c1] at h
    refine w_icmp_ge_f (q := 10) d_Model_isAsSeen_7 58 rfl rfl c1 ?_
    refine w_aload_n (q := 11) d_Model_isAsSeen_10 rfl rfl ?_
    refine w_aload_n (q := 12) d_Model_isAsSeen_11 rfl rfl ?_
    refine w_get (q := 15) (ci := 12) (j := 32) d_Model_isAsSeen_12 rfl (by decide) fl_Model_93 (by decide) (by decide) s_54 rfl rfl ?_
    refine w_iload_n (q := 16) d_Model_isAsSeen_15 rfl rfl ?_
    obtain ⟨v2, hv, h⟩ := bnd h
    obtain ⟨hi, hv⟩ := rd_ok hv
    refine w_iald (q := 17) (t := 0) d_Model_isAsSeen_16 rfl a_71.2 a_71.1 hi rfl ?_
    rw [hv]
    obtain ⟨v3, hv, h⟩ := bnd h
    refine w_callVi (q := 20) (M' := M_Model_isEntry) (n' := 1) (k := 54) (As := [.int v2]) (sh' := SH) (b1 := (0, 0)) d_Model_isAsSeen_17 rfl mw_Model_isEntry (by decide) (by decide) ml_Model_341 (by decide) s_54 (by decide) rfl rfl rfl (leb rfl) (bz _) (fun _ => rfl) (ok_Model_isEntry hv) ?_
    by_cases c4 : v3 = 0
    · rw [if_pos c4] at h
      refine w_if_eq_t (q := 40) d_Model_isAsSeen_20 rfl c4 ?_
      refine w_ls (ls' := [some (.ref 54), some (.int s)]) (And.intro rfl (And.intro rfl trivial)) ?_
      exact ok_Model_isAsSeen_j40_2 h hr
    · rw [if_neg c4] at h
      refine w_if_eq_f (q := 23) d_Model_isAsSeen_20 40 rfl rfl c4 ?_
      refine w_aload_n (q := 24) d_Model_isAsSeen_23 rfl rfl ?_
      refine w_aload_n (q := 25) d_Model_isAsSeen_24 rfl rfl ?_
      refine w_get (q := 28) (ci := 12) (j := 32) d_Model_isAsSeen_25 rfl (by decide) fl_Model_93 (by decide) (by decide) s_54 rfl rfl ?_
      refine w_iload_n (q := 29) d_Model_isAsSeen_28 rfl rfl ?_
      obtain ⟨v7, hv, h⟩ := bnd h
      obtain ⟨hi, hv⟩ := rd_ok hv
      refine w_iald (q := 30) (t := 0) d_Model_isAsSeen_29 rfl a_71.2 a_71.1 hi rfl ?_
      rw [hv]
      obtain ⟨v8, hv, h⟩ := bnd h
      refine w_callVi (q := 33) (M' := M_Model_isThere) (n' := 1) (k := 54) (As := [.int v7]) (sh' := SH) (b1 := (0, 0)) d_Model_isAsSeen_30 rfl mw_Model_isThere (by decide) (by decide) ml_Model_315 (by decide) s_54 (by decide) rfl rfl rfl (leb rfl) (bz _) (fun _ => rfl) (ok_Model_isThere hv) ?_
      by_cases c9 : v8 = 0
      · rw [if_pos c9] at h
        refine w_if_eq_t (q := 40) d_Model_isAsSeen_33 rfl c9 ?_
        refine w_ls (ls' := [some (.ref 54), some (.int s)]) (And.intro rfl (And.intro rfl trivial)) ?_
        exact ok_Model_isAsSeen_j40_2 h hr
      · rw [if_neg c9] at h
        refine w_if_eq_f (q := 36) d_Model_isAsSeen_33 40 rfl rfl c9 ?_
        refine w_iconst (q := 37) (v := 1) d_Model_isAsSeen_36 rfl (by decide) ?_
        refine w_goto (q := 41) d_Model_isAsSeen_37 rfl ?_
        refine w_ls (ls' := [some (.ref 54), some (.int s)]) (And.intro rfl (And.intro rfl trivial)) ?_
        exact ok_Model_isAsSeen_j41_2 h hr
def sp_Model_isAsSeen (F : Nat) (g : Mem) : Option (Int32) := (lpO (st_Model_isAsSeen_2 F g) F 0).bind fun x10 => match x10 with | .inl x11 => some 0 | .inr x12 => some 1
theorem ok_Model_isAsSeen {γ : GG} {tt : Bool} {F : Nat} {g : Mem} {res : Int32} (h : sp_Model_isAsSeen F g = some res) : CA γ M_Model_isAsSeen 2 [.ref 54] SH g tt (0, 0) (pI SH res g tt) := by
  refine CA.of mw_Model_isAsSeen.1 1 rfl ?_
  show WA γ M_Model_isAsSeen 2 0 [some (.ref 54), none] [] SH g tt (0, 0) (pI SH res g tt)
  unfold sp_Model_isAsSeen at h
  refine w_iconst (q := 1) (v := 0) d_Model_isAsSeen_0 rfl (by decide) ?_
  refine w_istore_n (q := 2) (ls' := [some (.ref 54), some (.int 0)]) d_Model_isAsSeen_1 rfl (by decide) rfl rfl ?_
  obtain ⟨x10, hx, h⟩ := bnd h
  refine w_ls (ls' := [some (.ref 54), some (.int 0)]) (And.intro rfl (And.intro rfl trivial)) ?_
  show PL_Model_isAsSeen_2 γ tt g _ _ 0
  refine lp_ok (kl_Model_isAsSeen_2) F _ x10 hx ?_
  unfold QL_Model_isAsSeen_2
  rcases x10 with x11 | x12
  · dsimp only at h ⊢
    refine w_iconst (q := 51) (v := 0) d_Model_isAsSeen_50 rfl (by decide) ?_
    cases h
    exact w_ireturn d_Model_isAsSeen_51 rfl rfl ⟨rfl, rfl, rfl, rfl⟩
  · dsimp only at h ⊢
    refine w_iconst (q := 59) (v := 1) d_Model_isAsSeen_58 rfl (by decide) ?_
    cases h
    exact w_ireturn d_Model_isAsSeen_59 rfl rfl ⟨rfl, rfl, rfl, rfl⟩
def PL_Model_ate_45 (γ : GG) (tt : Bool) (p0 : Int32) (p1 : Int32) (g : Mem) (k1 : Int32) (k2 : Int32) (b : Nat × Nat) (Φ : PO) (s : Int32 × Int32 × Int32 × Mem) : Prop := WA γ M_Model_ate 4 45 [some (.ref 54), some (.int k1), some (.int k2), some (.int s.1), some (.int s.2.1), some (.int s.2.2.1), none, none] [] SH s.2.2.2 tt b Φ
def QL_Model_ate_45 (γ : GG) (tt : Bool) (p0 : Int32) (p1 : Int32) (g : Mem) (k1 : Int32) (k2 : Int32) (b : Nat × Nat) (Φ : PO) (x : (Int32 × Int32 × Mem)) : Prop := WA γ M_Model_ate 4 132 [none, none, some (.int k2), some (.int x.1), some (.int x.2.1), none, none, none] [] SH x.2.2 tt b Φ
def PL_Model_ate_56 (γ : GG) (tt : Bool) (p0 : Int32) (p1 : Int32) (g : Mem) (k1 : Int32) (k2 : Int32) (k5 : Int32) (b : Nat × Nat) (Φ : PO) (s : Int32 × Int32 × Int32 × Mem) : Prop := WA γ M_Model_ate 4 56 [some (.ref 54), some (.int k1), some (.int k2), some (.int s.1), some (.int s.2.1), some (.int k5), some (.int s.2.2.1), none] [] SH s.2.2.2 tt b Φ
def QL_Model_ate_56 (γ : GG) (tt : Bool) (p0 : Int32) (p1 : Int32) (g : Mem) (k1 : Int32) (k2 : Int32) (k5 : Int32) (b : Nat × Nat) (Φ : PO) (x : (Int32 × Int32 × Mem)) : Prop := WA γ M_Model_ate 4 126 [some (.ref 54), some (.int k1), some (.int k2), some (.int x.1), some (.int x.2.1), some (.int k5), none, none] [] SH x.2.2 tt b Φ
def st_Model_ate_56 (F : Nat) (p0 : Int32) (p1 : Int32) (g : Mem) (k1 : Int32) (k2 : Int32) (k5 : Int32) (s : Int32 × Int32 × Int32 × Mem) : Option ((Int32 × Int32 × Int32 × Mem) ⊕ ((Int32 × Int32 × Mem))) := if 20 < s.2.2.1 then some (.inr (s.1, s.2.1, s.2.2.2)) else (sp_Model_mothsEat F k1 k5 s.2.2.1 s.2.2.2).bind fun v10 => (sp_Model_isAsSeen F v10.2).bind fun v11 => (sp_Model_unpack F 70 231 0 v10.2).bind fun v12 => if v11 = 0 then some (.inl (s.1, s.2.1, s.2.2.1 + 1, v12)) else if s.2.1 = (-1) then some (.inl (s.1 + 1, (100 * k5) + s.2.2.1, s.2.2.1 + 1, v12)) else some (.inl (s.1 + 1, s.2.1, s.2.2.1 + 1, v12))
theorem kl_Model_ate_56 {γ : GG} {tt : Bool} {F : Nat} {p0 : Int32} {p1 : Int32} {g : Mem} {k1 : Int32} {k2 : Int32} {k5 : Int32} {b : Nat × Nat} {Φ : PO} : ∀ (s : Int32 × Int32 × Int32 × Mem) (r : (Int32 × Int32 × Int32 × Mem) ⊕ ((Int32 × Int32 × Mem))), st_Model_ate_56 F p0 p1 g k1 k2 k5 s = some r → RQ (PL_Model_ate_56 γ tt p0 p1 g k1 k2 k5 b Φ) (QL_Model_ate_56 γ tt p0 p1 g k1 k2 k5 b Φ) r → PL_Model_ate_56 γ tt p0 p1 g k1 k2 k5 b Φ s := by
  intro s r h hr
  unfold st_Model_ate_56 at h
  unfold PL_Model_ate_56
  refine w_iload (q := 58) d_Model_ate_56 rfl rfl ?_
  refine w_bipush (q := 60) (v := 20) d_Model_ate_58 rfl (by decide) ?_
  by_cases c9 : 20 < s.2.2.1
  · rw [if_pos c9] at h
    refine w_icmp_gt_t (q := 126) d_Model_ate_60 rfl c9 ?_
    cases h
    exact w_ls (by exact (And.intro rfl (And.intro rfl (And.intro rfl (And.intro rfl (And.intro rfl (And.intro rfl trivial))))))) hr
  · rw [if_neg c9] at h
    refine w_icmp_gt_f (q := 63) d_Model_ate_60 126 rfl rfl c9 ?_
    refine w_aload_n (q := 64) d_Model_ate_63 rfl rfl ?_
    refine w_iload_n (q := 65) d_Model_ate_64 rfl rfl ?_
    refine w_iload (q := 67) d_Model_ate_65 rfl rfl ?_
    refine w_iload (q := 69) d_Model_ate_67 rfl rfl ?_
    obtain ⟨v10, hv, h⟩ := bnd h
    refine w_callVi (q := 72) (M' := M_Model_mothsEat) (n' := 3) (k := 54) (As := [.int k1, .int k5, .int s.2.2.1]) (sh' := SH) (b1 := (0, 0)) d_Model_ate_69 rfl mw_Model_mothsEat (by decide) (by decide) ml_Model_390 (by decide) s_54 (by decide) rfl rfl rfl (leb rfl) (bz _) (fun _ => rfl) (ok_Model_mothsEat hv) ?_
    refine w_pop (q := 73) d_Model_ate_72 rfl rfl ?_
    refine w_aload_n (q := 74) d_Model_ate_73 rfl rfl ?_
    obtain ⟨v11, hv, h⟩ := bnd h
    refine w_callVi (q := 77) (M' := M_Model_isAsSeen) (n' := 2) (k := 54) (As := []) (sh' := SH) (b1 := (0, 0)) d_Model_ate_74 rfl mw_Model_isAsSeen (by decide) (by decide) ml_Model_429 (by decide) s_54 (by decide) rfl rfl rfl (leb rfl) (bz _) (fun _ => rfl) (ok_Model_isAsSeen hv) ?_
    refine w_istore (q := 79) (ls' := [some (.ref 54), some (.int k1), some (.int k2), some (.int s.1), some (.int s.2.1), some (.int k5), some (.int s.2.2.1), some (.int v11)]) d_Model_ate_77 rfl (by decide) rfl rfl ?_
    refine w_aload_n (q := 80) d_Model_ate_79 rfl rfl ?_
    refine w_aload_n (q := 81) d_Model_ate_80 rfl rfl ?_
    refine w_get (q := 84) (ci := 12) (j := 31) d_Model_ate_81 rfl (by decide) fl_Model_90 (by decide) (by decide) s_54 rfl rfl ?_
    refine w_iconst (q := 85) (v := 0) d_Model_ate_84 rfl (by decide) ?_
    obtain ⟨v12, hv, h⟩ := bnd h
    refine w_callVv (q := 88) (M' := M_Model_unpack) (n' := 0) (k := 54) (As := [.ref 70, .int 0]) (sh' := SH) (b1 := (0, 0)) d_Model_ate_85 rfl mw_Model_unpack (by decide) (by decide) ml_Model_393 (by decide) s_54 (by decide) rfl rfl rfl (leb rfl) (bz _) (fun _ => rfl) (ok_Model_unpack a_70 hv) ?_
    refine w_iload (q := 90) d_Model_ate_88 rfl rfl ?_
    by_cases c13 : v11 = 0
    · rw [if_pos c13] at h
      refine w_if_ne_f (q := 93) d_Model_ate_90 96 rfl rfl c13 ?_
      refine w_goto (q := 120) d_Model_ate_93 rfl ?_
      refine w_iinc (q := 123) (ls' := [some (.ref 54), some (.int k1), some (.int k2), some (.int s.1), some (.int s.2.1), some (.int k5), some (.int (s.2.2.1 + 1)), some (.int v11)]) d_Model_ate_120 rfl (by decide) rfl rfl rfl ?_
      refine w_goto (q := 56) d_Model_ate_123 rfl ?_
      cases h
      exact w_ls (by exact (And.intro rfl (And.intro rfl (And.intro rfl (And.intro rfl (And.intro rfl (And.intro rfl (And.intro rfl trivial)))))))) hr
    · rw [if_neg c13] at h
      refine w_if_ne_t (q := 96) d_Model_ate_90 rfl c13 ?_
      refine w_iinc (q := 99) (ls' := [some (.ref 54), some (.int k1), some (.int k2), some (.int (s.1 + 1)), some (.int s.2.1), some (.int k5), some (.int s.2.2.1), some (.int v11)]) d_Model_ate_96 rfl (by decide) rfl rfl rfl ?_
      refine w_iload (q := 101) d_Model_ate_99 rfl rfl ?_
      refine w_iconst (q := 102) (v := (-1)) d_Model_ate_101 rfl (by decide) ?_
      by_cases c14 : s.2.1 = (-1)
      · rw [if_pos c14] at h
        refine w_icmp_ne_f (q := 105) d_Model_ate_102 116 rfl rfl c14 ?_
        refine w_bipush (q := 107) (v := 100) d_Model_ate_105 rfl (by decide) ?_
        refine w_iload (q := 109) d_Model_ate_107 rfl rfl ?_
        refine w_imul (q := 110) d_Model_ate_109 rfl ?_
        refine w_iload (q := 112) d_Model_ate_110 rfl rfl ?_
        refine w_iadd (q := 113) d_Model_ate_112 rfl ?_
        refine w_goto (q := 118) d_Model_ate_113 rfl ?_
        refine w_istore (q := 120) (ls' := [some (.ref 54), some (.int k1), some (.int k2), some (.int (s.1 + 1)), some (.int ((100 * k5) + s.2.2.1)), some (.int k5), some (.int s.2.2.1), some (.int v11)]) d_Model_ate_118 rfl (by decide) rfl rfl ?_
        refine w_iinc (q := 123) (ls' := [some (.ref 54), some (.int k1), some (.int k2), some (.int (s.1 + 1)), some (.int ((100 * k5) + s.2.2.1)), some (.int k5), some (.int (s.2.2.1 + 1)), some (.int v11)]) d_Model_ate_120 rfl (by decide) rfl rfl rfl ?_
        refine w_goto (q := 56) d_Model_ate_123 rfl ?_
        cases h
        exact w_ls (by exact (And.intro rfl (And.intro rfl (And.intro rfl (And.intro rfl (And.intro rfl (And.intro rfl (And.intro rfl trivial)))))))) hr
      · rw [if_neg c14] at h
        refine w_icmp_ne_t (q := 116) d_Model_ate_102 rfl c14 ?_
        refine w_iload (q := 118) d_Model_ate_116 rfl rfl ?_
        refine w_istore (q := 120) (ls' := [some (.ref 54), some (.int k1), some (.int k2), some (.int (s.1 + 1)), some (.int s.2.1), some (.int k5), some (.int s.2.2.1), some (.int v11)]) d_Model_ate_118 rfl (by decide) rfl rfl ?_
        refine w_iinc (q := 123) (ls' := [some (.ref 54), some (.int k1), some (.int k2), some (.int (s.1 + 1)), some (.int s.2.1), some (.int k5), some (.int (s.2.2.1 + 1)), some (.int v11)]) d_Model_ate_120 rfl (by decide) rfl rfl rfl ?_
        refine w_goto (q := 56) d_Model_ate_123 rfl ?_
        cases h
        exact w_ls (by exact (And.intro rfl (And.intro rfl (And.intro rfl (And.intro rfl (And.intro rfl (And.intro rfl (And.intro rfl trivial)))))))) hr
def st_Model_ate_45 (F : Nat) (p0 : Int32) (p1 : Int32) (g : Mem) (k1 : Int32) (k2 : Int32) (s : Int32 × Int32 × Int32 × Mem) : Option ((Int32 × Int32 × Int32 × Mem) ⊕ ((Int32 × Int32 × Mem))) := if 20 < s.2.2.1 then some (.inr (s.1, s.2.1, s.2.2.2)) else (lpO (st_Model_ate_56 F p0 p1 g k1 k2 s.2.2.1) F (s.1, s.2.1, s.2.2.1, s.2.2.2)).bind fun x15 => some (.inl (x15.1, x15.2.1, s.2.2.1 + 1, x15.2.2))
theorem kl_Model_ate_45 {γ : GG} {tt : Bool} {F : Nat} {p0 : Int32} {p1 : Int32} {g : Mem} {k1 : Int32} {k2 : Int32} {b : Nat × Nat} {Φ : PO} : ∀ (s : Int32 × Int32 × Int32 × Mem) (r : (Int32 × Int32 × Int32 × Mem) ⊕ ((Int32 × Int32 × Mem))), st_Model_ate_45 F p0 p1 g k1 k2 s = some r → RQ (PL_Model_ate_45 γ tt p0 p1 g k1 k2 b Φ) (QL_Model_ate_45 γ tt p0 p1 g k1 k2 b Φ) r → PL_Model_ate_45 γ tt p0 p1 g k1 k2 b Φ s := by
  intro s r h hr
  unfold st_Model_ate_45 at h
  unfold PL_Model_ate_45
  refine w_iload (q := 47) d_Model_ate_45 rfl rfl ?_
  refine w_bipush (q := 49) (v := 20) d_Model_ate_47 rfl (by decide) ?_
  by_cases c8 : 20 < s.2.2.1
  · rw [if_pos c8] at h
    refine w_icmp_gt_t (q := 132) d_Model_ate_49 rfl c8 ?_
    cases h
    exact w_ls (by exact (And.intro rfl (And.intro rfl (And.intro rfl trivial)))) hr
  · rw [if_neg c8] at h
    refine w_icmp_gt_f (q := 52) d_Model_ate_49 132 rfl rfl c8 ?_
    refine w_iload (q := 54) d_Model_ate_52 rfl rfl ?_
    refine w_istore (q := 56) (ls' := [some (.ref 54), some (.int k1), some (.int k2), some (.int s.1), some (.int s.2.1), some (.int s.2.2.1), some (.int s.2.2.1), none]) d_Model_ate_54 rfl (by decide) rfl rfl ?_
    obtain ⟨x15, hx, h⟩ := bnd h
    refine w_ls (ls' := [some (.ref 54), some (.int k1), some (.int k2), some (.int s.1), some (.int s.2.1), some (.int s.2.2.1), some (.int s.2.2.1), none]) (And.intro rfl (And.intro rfl (And.intro rfl (And.intro rfl (And.intro rfl (And.intro rfl (And.intro rfl trivial))))))) ?_
    show PL_Model_ate_56 γ tt p0 p1 g k1 k2 s.2.2.1 _ _ (s.1, s.2.1, s.2.2.1, s.2.2.2)
    refine lp_ok (kl_Model_ate_56) F _ x15 hx ?_
    unfold QL_Model_ate_56
    refine w_iinc (q := 129) (ls' := [some (.ref 54), some (.int k1), some (.int k2), some (.int x15.1), some (.int x15.2.1), some (.int (s.2.2.1 + 1)), none, none]) d_Model_ate_126 rfl (by decide) rfl rfl rfl ?_
    refine w_goto (q := 45) d_Model_ate_129 rfl ?_
    cases h
    exact w_ls (by exact (And.intro rfl (And.intro rfl (And.intro rfl (And.intro rfl (And.intro rfl (And.intro rfl trivial))))))) hr
def sp_Model_ate (F : Nat) (p0 : Int32) (p1 : Int32) (g : Mem) : Option (Int32 × Mem) := (sp_Model_isMonk p0 (mset g 54 3 0)).bind fun v1 => if v1 = 0 then (sp_Model_fail 1 (mset g 54 3 0)).bind fun v3 => some (v3.1, v3.2) else if p1 < 0 then (sp_Model_fail 1 (mset g 54 3 0)).bind fun v5 => some (v5.1, v5.2) else if p1 ≤ 1 then (sp_Model_pack F 70 231 0 (mset g 54 3 0)).bind fun v7 => (lpO (st_Model_ate_45 F p0 p1 g p0 p1) F (0, (-1), 0, v7)).bind fun x16 => if p1 = 0 then some (x16.1, x16.2.2) else some (x16.2.1, x16.2.2) else (sp_Model_fail 1 (mset g 54 3 0)).bind fun v18 => some (v18.1, v18.2)
theorem ok_Model_ate {γ : GG} {tt : Bool} {F : Nat} {p0 : Int32} {p1 : Int32} {g : Mem} {res : Int32 × Mem} (h : sp_Model_ate F p0 p1 g = some res) : CA γ M_Model_ate 4 [.ref 54, .int p0, .int p1] SH g tt (0, 0) (pI SH res.1 res.2 tt) := by
  refine CA.of mw_Model_ate.1 5 rfl ?_
  show WA γ M_Model_ate 4 0 [some (.ref 54), some (.int p0), some (.int p1), none, none, none, none, none] [] SH g tt (0, 0) (pI SH res.1 res.2 tt)
  unfold sp_Model_ate at h
  refine w_aload_n (q := 1) d_Model_ate_0 rfl rfl ?_
  refine w_iconst (q := 2) (v := 0) d_Model_ate_1 rfl (by decide) ?_
  refine w_put (q := 5) (ci := 12) (j := 3) d_Model_ate_2 rfl (by decide) fl_Model_114 (by decide) (by decide) s_54 rfl rfl rfl rfl rfl rfl ?_
  refine w_aload_n (q := 6) d_Model_ate_5 rfl rfl ?_
  refine w_iload_n (q := 7) d_Model_ate_6 rfl rfl ?_
  obtain ⟨v1, hv, h⟩ := bnd h
  refine w_callVi (q := 10) (M' := M_Model_isMonk) (n' := 1) (k := 54) (As := [.int p0]) (sh' := SH) (b1 := (0, 0)) d_Model_ate_7 rfl mw_Model_isMonk (by decide) (by decide) ml_Model_335 (by decide) s_54 (by decide) rfl rfl rfl (leb rfl) (bz _) (fun _ => rfl) (ok_Model_isMonk hv) ?_
  by_cases c2 : v1 = 0
  · rw [if_pos c2] at h
    refine w_if_eq_t (q := 22) d_Model_ate_10 rfl c2 ?_
    refine w_aload_n (q := 23) d_Model_ate_22 rfl rfl ?_
    refine w_iconst (q := 24) (v := 1) d_Model_ate_23 rfl (by decide) ?_
    obtain ⟨v3, hv, h⟩ := bnd h
    refine w_callVi (q := 27) (M' := M_Model_fail) (n' := 0) (k := 54) (As := [.int 1]) (sh' := SH) (b1 := (0, 0)) d_Model_ate_24 rfl mw_Model_fail (by decide) (by decide) ml_Model_273 (by decide) s_54 (by decide) rfl rfl rfl (leb rfl) (bz _) (fun _ => rfl) (ok_Model_fail hv) ?_
    cases h
    exact w_ireturn d_Model_ate_27 rfl rfl ⟨rfl, rfl, rfl, rfl⟩
  · rw [if_neg c2] at h
    refine w_if_eq_f (q := 13) d_Model_ate_10 22 rfl rfl c2 ?_
    refine w_iload_n (q := 14) d_Model_ate_13 rfl rfl ?_
    by_cases c4 : p1 < 0
    · rw [if_pos c4] at h
      refine w_if_lt_t (q := 22) d_Model_ate_14 rfl c4 ?_
      refine w_aload_n (q := 23) d_Model_ate_22 rfl rfl ?_
      refine w_iconst (q := 24) (v := 1) d_Model_ate_23 rfl (by decide) ?_
      obtain ⟨v5, hv, h⟩ := bnd h
      refine w_callVi (q := 27) (M' := M_Model_fail) (n' := 0) (k := 54) (As := [.int 1]) (sh' := SH) (b1 := (0, 0)) d_Model_ate_24 rfl mw_Model_fail (by decide) (by decide) ml_Model_273 (by decide) s_54 (by decide) rfl rfl rfl (leb rfl) (bz _) (fun _ => rfl) (ok_Model_fail hv) ?_
      cases h
      exact w_ireturn d_Model_ate_27 rfl rfl ⟨rfl, rfl, rfl, rfl⟩
    · rw [if_neg c4] at h
      refine w_if_lt_f (q := 17) d_Model_ate_14 22 rfl rfl c4 ?_
      refine w_iload_n (q := 18) d_Model_ate_17 rfl rfl ?_
      refine w_iconst (q := 19) (v := 1) d_Model_ate_18 rfl (by decide) ?_
      by_cases c6 : p1 ≤ 1
      · rw [if_pos c6] at h
        refine w_icmp_le_t (q := 28) d_Model_ate_19 rfl c6 ?_
        refine w_iconst (q := 29) (v := 0) d_Model_ate_28 rfl (by decide) ?_
        refine w_istore_n (q := 30) (ls' := [some (.ref 54), some (.int p0), some (.int p1), some (.int 0), none, none, none, none]) d_Model_ate_29 rfl (by decide) rfl rfl ?_
        refine w_iconst (q := 31) (v := (-1)) d_Model_ate_30 rfl (by decide) ?_
        refine w_istore (q := 33) (ls' := [some (.ref 54), some (.int p0), some (.int p1), some (.int 0), some (.int ((-1))), none, none, none]) d_Model_ate_31 rfl (by decide) rfl rfl ?_
        refine w_aload_n (q := 34) d_Model_ate_33 rfl rfl ?_
        refine w_aload_n (q := 35) d_Model_ate_34 rfl rfl ?_
        refine w_get (q := 38) (ci := 12) (j := 31) d_Model_ate_35 rfl (by decide) fl_Model_90 (by decide) (by decide) s_54 rfl rfl ?_
        refine w_iconst (q := 39) (v := 0) d_Model_ate_38 rfl (by decide) ?_
        obtain ⟨v7, hv, h⟩ := bnd h
        refine w_callVv (q := 42) (M' := M_Model_pack) (n' := 0) (k := 54) (As := [.ref 70, .int 0]) (sh' := SH) (b1 := (0, 0)) d_Model_ate_39 rfl mw_Model_pack (by decide) (by decide) ml_Model_359 (by decide) s_54 (by decide) rfl rfl rfl (leb rfl) (bz _) (fun _ => rfl) (ok_Model_pack a_70 hv) ?_
        refine w_iconst (q := 43) (v := 0) d_Model_ate_42 rfl (by decide) ?_
        refine w_istore (q := 45) (ls' := [some (.ref 54), some (.int p0), some (.int p1), some (.int 0), some (.int ((-1))), some (.int 0), none, none]) d_Model_ate_43 rfl (by decide) rfl rfl ?_
        obtain ⟨x16, hx, h⟩ := bnd h
        refine w_ls (ls' := [some (.ref 54), some (.int p0), some (.int p1), some (.int 0), some (.int ((-1))), some (.int 0), none, none]) (And.intro rfl (And.intro rfl (And.intro rfl (And.intro rfl (And.intro rfl (And.intro rfl trivial)))))) ?_
        show PL_Model_ate_45 γ tt p0 p1 g p0 p1 _ _ (0, (-1), 0, v7)
        refine lp_ok (kl_Model_ate_45) F _ x16 hx ?_
        unfold QL_Model_ate_45
        refine w_iload_n (q := 133) d_Model_ate_132 rfl rfl ?_
        by_cases c17 : p1 = 0
        · rw [if_pos c17] at h
          refine w_if_ne_f (q := 136) d_Model_ate_133 140 rfl rfl c17 ?_
          refine w_iload_n (q := 137) d_Model_ate_136 rfl rfl ?_
          refine w_goto (q := 142) d_Model_ate_137 rfl ?_
          cases h
          exact w_ireturn d_Model_ate_142 rfl rfl ⟨rfl, rfl, rfl, rfl⟩
        · rw [if_neg c17] at h
          refine w_if_ne_t (q := 140) d_Model_ate_133 rfl c17 ?_
          refine w_iload (q := 142) d_Model_ate_140 rfl rfl ?_
          cases h
          exact w_ireturn d_Model_ate_142 rfl rfl ⟨rfl, rfl, rfl, rfl⟩
      · rw [if_neg c6] at h
        refine w_icmp_le_f (q := 22) d_Model_ate_19 28 rfl rfl c6 ?_
        refine w_aload_n (q := 23) d_Model_ate_22 rfl rfl ?_
        refine w_iconst (q := 24) (v := 1) d_Model_ate_23 rfl (by decide) ?_
        obtain ⟨v18, hv, h⟩ := bnd h
        refine w_callVi (q := 27) (M' := M_Model_fail) (n' := 0) (k := 54) (As := [.int 1]) (sh' := SH) (b1 := (0, 0)) d_Model_ate_24 rfl mw_Model_fail (by decide) (by decide) ml_Model_273 (by decide) s_54 (by decide) rfl rfl rfl (leb rfl) (bz _) (fun _ => rfl) (ok_Model_fail hv) ?_
        cases h
        exact w_ireturn d_Model_ate_27 rfl rfl ⟨rfl, rfl, rfl, rfl⟩
def sp_Model_forget (g : Mem) : Option (Int32 × Mem) := if ((mset g 54 3 0) 54 28) = 0 then some ((-1), (mset g 54 3 0)) else some ((mset (mset g 54 3 0) 54 28 (((mset g 54 3 0) 54 28) - 1)) 54 28, (mset (mset g 54 3 0) 54 28 (((mset g 54 3 0) 54 28) - 1)))
theorem ok_Model_forget {γ : GG} {tt : Bool} {g : Mem} {res : Int32 × Mem} (h : sp_Model_forget g = some res) : CA γ M_Model_forget 0 [.ref 54] SH g tt (0, 0) (pI SH res.1 res.2 tt) := by
  refine CA.of mw_Model_forget.1 0 rfl ?_
  show WA γ M_Model_forget 0 0 [some (.ref 54)] [] SH g tt (0, 0) (pI SH res.1 res.2 tt)
  unfold sp_Model_forget at h
  refine w_aload_n (q := 1) d_Model_forget_0 rfl rfl ?_
  refine w_iconst (q := 2) (v := 0) d_Model_forget_1 rfl (by decide) ?_
  refine w_put (q := 5) (ci := 12) (j := 3) d_Model_forget_2 rfl (by decide) fl_Model_114 (by decide) (by decide) s_54 rfl rfl rfl rfl rfl rfl ?_
  refine w_aload_n (q := 6) d_Model_forget_5 rfl rfl ?_
  refine w_get (q := 9) (ci := 12) (j := 28) d_Model_forget_6 rfl (by decide) fl_Model_298 (by decide) (by decide) s_54 rfl rfl ?_
  by_cases c1 : ((mset g 54 3 0) 54 28) = 0
  · rw [if_pos c1] at h
    refine w_if_ne_f (q := 12) d_Model_forget_9 14 rfl rfl c1 ?_
    refine w_iconst (q := 13) (v := (-1)) d_Model_forget_12 rfl (by decide) ?_
    cases h
    exact w_ireturn d_Model_forget_13 rfl rfl ⟨rfl, rfl, rfl, rfl⟩
  · rw [if_neg c1] at h
    refine w_if_ne_t (q := 14) d_Model_forget_9 rfl c1 ?_
    refine w_aload_n (q := 15) d_Model_forget_14 rfl rfl ?_
    refine w_dup (q := 16) d_Model_forget_15 rfl rfl ?_
    refine w_get (q := 19) (ci := 12) (j := 28) d_Model_forget_16 rfl (by decide) fl_Model_298 (by decide) (by decide) s_54 rfl rfl ?_
    refine w_iconst (q := 20) (v := 1) d_Model_forget_19 rfl (by decide) ?_
    refine w_isub (q := 21) d_Model_forget_20 rfl ?_
    refine w_put (q := 24) (ci := 12) (j := 28) d_Model_forget_21 rfl (by decide) fl_Model_298 (by decide) (by decide) s_54 rfl rfl rfl rfl rfl rfl ?_
    refine w_aload_n (q := 25) d_Model_forget_24 rfl rfl ?_
    refine w_get (q := 28) (ci := 12) (j := 28) d_Model_forget_25 rfl (by decide) fl_Model_298 (by decide) (by decide) s_54 rfl rfl ?_
    cases h
    exact w_ireturn d_Model_forget_28 rfl rfl ⟨rfl, rfl, rfl, rfl⟩
def PL_Model_gain_19 (γ : GG) (tt : Bool) (p0 : Int32) (p1 : Int32) (p2 : Int32) (g : Mem) (k3 : Int32) (m0 : Mem) (b : Nat × Nat) (Φ : PO) (s : Int32 × Int32 × Int32) : Prop := WA γ M_Model_gain 6 19 [some (.ref 54), none, none, some (.int k3), some (.int s.1), some (.int s.2.1), some (.int s.2.2)] [] SH m0 tt b Φ
def QL_Model_gain_19 (γ : GG) (tt : Bool) (p0 : Int32) (p1 : Int32) (p2 : Int32) (g : Mem) (k3 : Int32) (m0 : Mem) (b : Nat × Nat) (Φ : PO) (x : (Int32)) : Prop := WA γ M_Model_gain 6 106 [none, none, none, none, none, some (.int x), none] [] SH m0 tt b Φ
def st_Model_gain_19 (F : Nat) (p0 : Int32) (p1 : Int32) (p2 : Int32) (g : Mem) (k3 : Int32) (m0 : Mem) (s : Int32 × Int32 × Int32) : Option ((Int32 × Int32 × Int32) ⊕ ((Int32))) := if (m0 54 26) ≤ s.2.2 then some (.inr s.2.1) else (sp_Model_isThere s.2.2 m0).bind fun v3 => if v3 = 0 then some (.inl (s.1, s.2.1, s.2.2 + 1)) else (sp_Model_of s.2.2 7 m0).bind fun v5 => (sp_Model_isOf s.1 v5 m0).bind fun v6 => if v6 = 0 then some (.inl (s.1, s.2.1, s.2.2 + 1)) else (sp_Model_of s.2.2 7 m0).bind fun v8 => (sp_Model_of s.2.2 0 m0).bind fun v9 => if v9 = k3 then (sp_Model_of s.2.2 4 m0).bind fun v11 => some (.inl (s.1 &&& ((1 <<< (v8 &&& 31)) ^^^ (-1)), s.2.1 + v11, s.2.2 + 1)) else some (.inl (s.1 &&& ((1 <<< (v8 &&& 31)) ^^^ (-1)), s.2.1 + 0, s.2.2 + 1))
theorem kl_Model_gain_19 {γ : GG} {tt : Bool} {F : Nat} {p0 : Int32} {p1 : Int32} {p2 : Int32} {g : Mem} {k3 : Int32} {m0 : Mem} {b : Nat × Nat} {Φ : PO} : ∀ (s : Int32 × Int32 × Int32) (r : (Int32 × Int32 × Int32) ⊕ ((Int32))), st_Model_gain_19 F p0 p1 p2 g k3 m0 s = some r → RQ (PL_Model_gain_19 γ tt p0 p1 p2 g k3 m0 b Φ) (QL_Model_gain_19 γ tt p0 p1 p2 g k3 m0 b Φ) r → PL_Model_gain_19 γ tt p0 p1 p2 g k3 m0 b Φ s := by
  intro s r h hr
  unfold st_Model_gain_19 at h
  unfold PL_Model_gain_19
  refine w_iload (q := 21) d_Model_gain_19 rfl rfl ?_
  refine w_aload_n (q := 22) d_Model_gain_21 rfl rfl ?_
  refine w_get (q := 25) (ci := 12) (j := 26) d_Model_gain_22 rfl (by decide) fl_Model_121 (by decide) (by decide) s_54 rfl rfl ?_
  by_cases c2 : (m0 54 26) ≤ s.2.2
  · rw [if_pos c2] at h
    refine w_icmp_ge_t (q := 106) d_Model_gain_25 rfl c2 ?_
    cases h
    exact w_ls (by exact (And.intro rfl trivial)) hr
  · rw [if_neg c2] at h
    refine w_icmp_ge_f (q := 28) d_Model_gain_25 106 rfl rfl c2 ?_
    refine w_aload_n (q := 29) d_Model_gain_28 rfl rfl ?_
    refine w_iload (q := 31) d_Model_gain_29 rfl rfl ?_
    obtain ⟨v3, hv, h⟩ := bnd h
    refine w_callVi (q := 34) (M' := M_Model_isThere) (n' := 1) (k := 54) (As := [.int s.2.2]) (sh' := SH) (b1 := (0, 0)) d_Model_gain_31 rfl mw_Model_isThere (by decide) (by decide) ml_Model_315 (by decide) s_54 (by decide) rfl rfl rfl (leb rfl) (bz _) (fun _ => rfl) (ok_Model_isThere hv) ?_
    by_cases c4 : v3 = 0
    · rw [if_pos c4] at h
      refine w_if_eq_t (q := 100) d_Model_gain_34 rfl c4 ?_
      refine w_iinc (q := 103) (ls' := [some (.ref 54), none, none, some (.int k3), some (.int s.1), some (.int s.2.1), some (.int (s.2.2 + 1))]) d_Model_gain_100 rfl (by decide) rfl rfl rfl ?_
      refine w_goto (q := 19) d_Model_gain_103 rfl ?_
      cases h
      exact w_ls (by exact (And.intro rfl (And.intro rfl (And.intro rfl (And.intro rfl (And.intro rfl trivial)))))) hr
    · rw [if_neg c4] at h
      refine w_if_eq_f (q := 37) d_Model_gain_34 100 rfl rfl c4 ?_
      refine w_iload (q := 39) d_Model_gain_37 rfl rfl ?_
      refine w_aload_n (q := 40) d_Model_gain_39 rfl rfl ?_
      refine w_iload (q := 42) d_Model_gain_40 rfl rfl ?_
      refine w_bipush (q := 44) (v := 7) d_Model_gain_42 rfl (by decide) ?_
      obtain ⟨v5, hv, h⟩ := bnd h
      refine w_callVi (q := 47) (M' := M_Model_of) (n' := 0) (k := 54) (As := [.int s.2.2, .int 7]) (sh' := SH) (b1 := (0, 0)) d_Model_gain_44 rfl mw_Model_of (by decide) (by decide) ml_Model_305 (by decide) s_54 (by decide) rfl rfl rfl (leb rfl) (bz _) (fun _ => rfl) (ok_Model_of hv) ?_
      obtain ⟨v6, hv, h⟩ := bnd h
      refine w_callSi (q := 50) (M' := M_Model_isOf) (n' := 0) (As := [.int s.1, .int v5]) (sh' := SH) (b1 := (0, 0)) d_Model_gain_47 rfl mw_Model_isOf (by decide) (by decide) ml_Model_308 rfl rfl (leb rfl) (bz _) (fun _ => rfl) (ok_Model_isOf hv) ?_
      by_cases c7 : v6 = 0
      · rw [if_pos c7] at h
        refine w_if_ne_f (q := 53) d_Model_gain_50 56 rfl rfl c7 ?_
        refine w_goto (q := 100) d_Model_gain_53 rfl ?_
        refine w_iinc (q := 103) (ls' := [some (.ref 54), none, none, some (.int k3), some (.int s.1), some (.int s.2.1), some (.int (s.2.2 + 1))]) d_Model_gain_100 rfl (by decide) rfl rfl rfl ?_
        refine w_goto (q := 19) d_Model_gain_103 rfl ?_
        cases h
        exact w_ls (by exact (And.intro rfl (And.intro rfl (And.intro rfl (And.intro rfl (And.intro rfl trivial)))))) hr
      · rw [if_neg c7] at h
        refine w_if_ne_t (q := 56) d_Model_gain_50 rfl c7 ?_
        refine w_iload (q := 58) d_Model_gain_56 rfl rfl ?_
        refine w_iconst (q := 59) (v := 1) d_Model_gain_58 rfl (by decide) ?_
        refine w_aload_n (q := 60) d_Model_gain_59 rfl rfl ?_
        refine w_iload (q := 62) d_Model_gain_60 rfl rfl ?_
        refine w_bipush (q := 64) (v := 7) d_Model_gain_62 rfl (by decide) ?_
        obtain ⟨v8, hv, h⟩ := bnd h
        refine w_callVi (q := 67) (M' := M_Model_of) (n' := 0) (k := 54) (As := [.int s.2.2, .int 7]) (sh' := SH) (b1 := (0, 0)) d_Model_gain_64 rfl mw_Model_of (by decide) (by decide) ml_Model_305 (by decide) s_54 (by decide) rfl rfl rfl (leb rfl) (bz _) (fun _ => rfl) (ok_Model_of hv) ?_
        refine w_ishl (q := 68) d_Model_gain_67 rfl ?_
        refine w_iconst (q := 69) (v := (-1)) d_Model_gain_68 rfl (by decide) ?_
        refine w_ixor (q := 70) d_Model_gain_69 rfl ?_
        refine w_iand (q := 71) d_Model_gain_70 rfl ?_
        refine w_istore (q := 73) (ls' := [some (.ref 54), none, none, some (.int k3), some (.int (s.1 &&& ((1 <<< (v8 &&& 31)) ^^^ (-1)))), some (.int s.2.1), some (.int s.2.2)]) d_Model_gain_71 rfl (by decide) rfl rfl ?_
        refine w_iload (q := 75) d_Model_gain_73 rfl rfl ?_
        refine w_aload_n (q := 76) d_Model_gain_75 rfl rfl ?_
        refine w_iload (q := 78) d_Model_gain_76 rfl rfl ?_
        refine w_iconst (q := 79) (v := 0) d_Model_gain_78 rfl (by decide) ?_
        obtain ⟨v9, hv, h⟩ := bnd h
        refine w_callVi (q := 82) (M' := M_Model_of) (n' := 0) (k := 54) (As := [.int s.2.2, .int 0]) (sh' := SH) (b1 := (0, 0)) d_Model_gain_79 rfl mw_Model_of (by decide) (by decide) ml_Model_305 (by decide) s_54 (by decide) rfl rfl rfl (leb rfl) (bz _) (fun _ => rfl) (ok_Model_of hv) ?_
        refine w_iload_n (q := 83) d_Model_gain_82 rfl rfl ?_
        by_cases c10 : v9 = k3
        · rw [if_pos c10] at h
          refine w_icmp_ne_f (q := 86) d_Model_gain_83 96 rfl rfl c10 ?_
          refine w_aload_n (q := 87) d_Model_gain_86 rfl rfl ?_
          refine w_iload (q := 89) d_Model_gain_87 rfl rfl ?_
          refine w_iconst (q := 90) (v := 4) d_Model_gain_89 rfl (by decide) ?_
          obtain ⟨v11, hv, h⟩ := bnd h
          refine w_callVi (q := 93) (M' := M_Model_of) (n' := 0) (k := 54) (As := [.int s.2.2, .int 4]) (sh' := SH) (b1 := (0, 0)) d_Model_gain_90 rfl mw_Model_of (by decide) (by decide) ml_Model_305 (by decide) s_54 (by decide) rfl rfl rfl (leb rfl) (bz _) (fun _ => rfl) (ok_Model_of hv) ?_
          refine w_goto (q := 97) d_Model_gain_93 rfl ?_
          refine w_iadd (q := 98) d_Model_gain_97 rfl ?_
          refine w_istore (q := 100) (ls' := [some (.ref 54), none, none, some (.int k3), some (.int (s.1 &&& ((1 <<< (v8 &&& 31)) ^^^ (-1)))), some (.int (s.2.1 + v11)), some (.int s.2.2)]) d_Model_gain_98 rfl (by decide) rfl rfl ?_
          refine w_iinc (q := 103) (ls' := [some (.ref 54), none, none, some (.int k3), some (.int (s.1 &&& ((1 <<< (v8 &&& 31)) ^^^ (-1)))), some (.int (s.2.1 + v11)), some (.int (s.2.2 + 1))]) d_Model_gain_100 rfl (by decide) rfl rfl rfl ?_
          refine w_goto (q := 19) d_Model_gain_103 rfl ?_
          cases h
          exact w_ls (by exact (And.intro rfl (And.intro rfl (And.intro rfl (And.intro rfl (And.intro rfl trivial)))))) hr
        · rw [if_neg c10] at h
          refine w_icmp_ne_t (q := 96) d_Model_gain_83 rfl c10 ?_
          refine w_iconst (q := 97) (v := 0) d_Model_gain_96 rfl (by decide) ?_
          refine w_iadd (q := 98) d_Model_gain_97 rfl ?_
          refine w_istore (q := 100) (ls' := [some (.ref 54), none, none, some (.int k3), some (.int (s.1 &&& ((1 <<< (v8 &&& 31)) ^^^ (-1)))), some (.int (s.2.1 + 0)), some (.int s.2.2)]) d_Model_gain_98 rfl (by decide) rfl rfl ?_
          refine w_iinc (q := 103) (ls' := [some (.ref 54), none, none, some (.int k3), some (.int (s.1 &&& ((1 <<< (v8 &&& 31)) ^^^ (-1)))), some (.int (s.2.1 + 0)), some (.int (s.2.2 + 1))]) d_Model_gain_100 rfl (by decide) rfl rfl rfl ?_
          refine w_goto (q := 19) d_Model_gain_103 rfl ?_
          cases h
          exact w_ls (by exact (And.intro rfl (And.intro rfl (And.intro rfl (And.intro rfl (And.intro rfl trivial)))))) hr
def sp_Model_gain (F : Nat) (p0 : Int32) (p1 : Int32) (p2 : Int32) (g : Mem) : Option (Int32 × Mem) := (sp_Model_lostByRazors F ((1 <<< (p0 &&& 31)) ||| (1 <<< (p1 &&& 31))) g).bind fun v1 => (lpO (st_Model_gain_19 F p0 p1 p2 g p2 v1.2) F (v1.1, 0, 0)).bind fun x12 => some (x12, v1.2)
theorem ok_Model_gain {γ : GG} {tt : Bool} {F : Nat} {p0 : Int32} {p1 : Int32} {p2 : Int32} {g : Mem} {res : Int32 × Mem} (h : sp_Model_gain F p0 p1 p2 g = some res) : CA γ M_Model_gain 6 [.ref 54, .int p0, .int p1, .int p2] SH g tt (0, 0) (pI SH res.1 res.2 tt) := by
  refine CA.of mw_Model_gain.1 3 rfl ?_
  show WA γ M_Model_gain 6 0 [some (.ref 54), some (.int p0), some (.int p1), some (.int p2), none, none, none] [] SH g tt (0, 0) (pI SH res.1 res.2 tt)
  unfold sp_Model_gain at h
  refine w_aload_n (q := 1) d_Model_gain_0 rfl rfl ?_
  refine w_iconst (q := 2) (v := 1) d_Model_gain_1 rfl (by decide) ?_
  refine w_iload_n (q := 3) d_Model_gain_2 rfl rfl ?_
  refine w_ishl (q := 4) d_Model_gain_3 rfl ?_
  refine w_iconst (q := 5) (v := 1) d_Model_gain_4 rfl (by decide) ?_
  refine w_iload_n (q := 6) d_Model_gain_5 rfl rfl ?_
  refine w_ishl (q := 7) d_Model_gain_6 rfl ?_
  refine w_ior (q := 8) d_Model_gain_7 rfl ?_
  obtain ⟨v1, hv, h⟩ := bnd h
  refine w_callVi (q := 11) (M' := M_Model_lostByRazors) (n' := 5) (k := 54) (As := [.int ((1 <<< (p0 &&& 31)) ||| (1 <<< (p1 &&& 31)))]) (sh' := SH) (b1 := (0, 0)) d_Model_gain_8 rfl mw_Model_lostByRazors (by decide) (by decide) ml_Model_415 (by decide) s_54 (by decide) rfl rfl rfl (leb rfl) (bz _) (fun _ => rfl) (ok_Model_lostByRazors hv) ?_
  refine w_istore (q := 13) (ls' := [some (.ref 54), some (.int p0), some (.int p1), some (.int p2), some (.int v1.1), none, none]) d_Model_gain_11 rfl (by decide) rfl rfl ?_
  refine w_iconst (q := 14) (v := 0) d_Model_gain_13 rfl (by decide) ?_
  refine w_istore (q := 16) (ls' := [some (.ref 54), some (.int p0), some (.int p1), some (.int p2), some (.int v1.1), some (.int 0), none]) d_Model_gain_14 rfl (by decide) rfl rfl ?_
  refine w_iconst (q := 17) (v := 0) d_Model_gain_16 rfl (by decide) ?_
  refine w_istore (q := 19) (ls' := [some (.ref 54), some (.int p0), some (.int p1), some (.int p2), some (.int v1.1), some (.int 0), some (.int 0)]) d_Model_gain_17 rfl (by decide) rfl rfl ?_
  obtain ⟨x12, hx, h⟩ := bnd h
  refine w_ls (ls' := [some (.ref 54), none, none, some (.int p2), some (.int v1.1), some (.int 0), some (.int 0)]) (And.intro rfl (And.intro rfl (And.intro rfl (And.intro rfl (And.intro rfl trivial))))) ?_
  show PL_Model_gain_19 γ tt p0 p1 p2 g p2 v1.2 _ _ (v1.1, 0, 0)
  refine lp_ok (kl_Model_gain_19) F _ x12 hx ?_
  unfold QL_Model_gain_19
  refine w_iload (q := 108) d_Model_gain_106 rfl rfl ?_
  cases h
  exact w_ireturn d_Model_gain_108 rfl rfl ⟨rfl, rfl, rfl, rfl⟩
def PL_Model_rests_3 (γ : GG) (tt : Bool) (p0 : Int32) (p1 : Int32) (p2 : Int32) (g : Mem) (k1 : Int32) (k2 : Int32) (k3 : Int32) (b : Nat × Nat) (Φ : PO) (s : Int32 × Mem) : Prop := WA γ M_Model_rests 7 3 [some (.ref 54), some (.int k1), some (.int k2), some (.int k3), some (.int s.1)] [] SH s.2 tt b Φ
def QL_Model_rests_3 (γ : GG) (tt : Bool) (p0 : Int32) (p1 : Int32) (p2 : Int32) (g : Mem) (k1 : Int32) (k2 : Int32) (k3 : Int32) (b : Nat × Nat) (Φ : PO) (x : (Mem) ⊕ (Mem)) : Prop := match x with
  | .inl x => WA γ M_Model_rests 7 59 [none, none, none, none, none] [] SH x tt b Φ
  | .inr x => WA γ M_Model_rests 7 67 [none, none, none, none, none] [] SH x tt b Φ
def st_Model_rests_3 (F : Nat) (p0 : Int32) (p1 : Int32) (p2 : Int32) (g : Mem) (k1 : Int32) (k2 : Int32) (k3 : Int32) (s : Int32 × Mem) : Option ((Int32 × Mem) ⊕ ((Mem) ⊕ (Mem))) := (rd s.2 58 12 0).bind fun v1 => if v1 ≤ s.1 then some (.inr (.inr s.2)) else (sp_Model_isOf k3 s.1 s.2).bind fun v3 => if v3 = 0 then some (.inl (s.1 + 1, s.2)) else (sp_Model_gain F s.1 k2 0 s.2).bind fun v5 => (sp_Model_gain F k1 k2 0 v5.2).bind fun v6 => if v6.1 < v5.1 then some (.inr (.inl v6.2)) else (sp_Model_gain F k1 s.1 1 v6.2).bind fun v8 => (sp_Model_gain F k1 k2 1 v8.2).bind fun v9 => if v8.1 ≤ v9.1 then some (.inl (s.1 + 1, v9.2)) else some (.inr (.inl v9.2))
theorem kl_Model_rests_3 {γ : GG} {tt : Bool} {F : Nat} {p0 : Int32} {p1 : Int32} {p2 : Int32} {g : Mem} {k1 : Int32} {k2 : Int32} {k3 : Int32} {b : Nat × Nat} {Φ : PO} : ∀ (s : Int32 × Mem) (r : (Int32 × Mem) ⊕ ((Mem) ⊕ (Mem))), st_Model_rests_3 F p0 p1 p2 g k1 k2 k3 s = some r → RQ (PL_Model_rests_3 γ tt p0 p1 p2 g k1 k2 k3 b Φ) (QL_Model_rests_3 γ tt p0 p1 p2 g k1 k2 k3 b Φ) r → PL_Model_rests_3 γ tt p0 p1 p2 g k1 k2 k3 b Φ s := by
  intro s r h hr
  unfold st_Model_rests_3 at h
  unfold PL_Model_rests_3
  refine w_iload (q := 5) d_Model_rests_3 rfl rfl ?_
  refine w_aload_n (q := 6) d_Model_rests_5 rfl rfl ?_
  refine w_get (q := 9) (ci := 12) (j := 4) d_Model_rests_6 rfl (by decide) fl_Model_51 (by decide) (by decide) s_54 rfl rfl ?_
  refine w_iconst (q := 10) (v := 0) d_Model_rests_9 rfl (by decide) ?_
  obtain ⟨v1, hv, h⟩ := bnd h
  obtain ⟨hi, hv⟩ := rd_ok hv
  refine w_iald (q := 11) (t := 0) d_Model_rests_10 rfl a_58.2 a_58.1 hi rfl ?_
  rw [hv]
  by_cases c2 : v1 ≤ s.1
  · rw [if_pos c2] at h
    refine w_icmp_ge_t (q := 67) d_Model_rests_11 rfl c2 ?_
    cases h
    exact w_ls (by exact trivial) hr
  · rw [if_neg c2] at h
    refine w_icmp_ge_f (q := 14) d_Model_rests_11 67 rfl rfl c2 ?_
    refine w_iload_n (q := 15) d_Model_rests_14 rfl rfl ?_
    refine w_iload (q := 17) d_Model_rests_15 rfl rfl ?_
    obtain ⟨v3, hv, h⟩ := bnd h
    refine w_callSi (q := 20) (M' := M_Model_isOf) (n' := 0) (As := [.int k3, .int s.1]) (sh' := SH) (b1 := (0, 0)) d_Model_rests_17 rfl mw_Model_isOf (by decide) (by decide) ml_Model_308 rfl rfl (leb rfl) (bz _) (fun _ => rfl) (ok_Model_isOf hv) ?_
    by_cases c4 : v3 = 0
    · rw [if_pos c4] at h
      refine w_if_eq_t (q := 61) d_Model_rests_20 rfl c4 ?_
      refine w_iinc (q := 64) (ls' := [some (.ref 54), some (.int k1), some (.int k2), some (.int k3), some (.int (s.1 + 1))]) d_Model_rests_61 rfl (by decide) rfl rfl rfl ?_
      refine w_goto (q := 3) d_Model_rests_64 rfl ?_
      cases h
      exact w_ls (by exact (And.intro rfl (And.intro rfl (And.intro rfl (And.intro rfl (And.intro rfl trivial)))))) hr
    · rw [if_neg c4] at h
      refine w_if_eq_f (q := 23) d_Model_rests_20 61 rfl rfl c4 ?_
      refine w_aload_n (q := 24) d_Model_rests_23 rfl rfl ?_
      refine w_iload (q := 26) d_Model_rests_24 rfl rfl ?_
      refine w_iload_n (q := 27) d_Model_rests_26 rfl rfl ?_
      refine w_iconst (q := 28) (v := 0) d_Model_rests_27 rfl (by decide) ?_
      obtain ⟨v5, hv, h⟩ := bnd h
      refine w_callVi (q := 31) (M' := M_Model_gain) (n' := 6) (k := 54) (As := [.int s.1, .int k2, .int 0]) (sh' := SH) (b1 := (0, 0)) d_Model_rests_28 rfl mw_Model_gain (by decide) (by decide) ml_Model_432 (by decide) s_54 (by decide) rfl rfl rfl (leb rfl) (bz _) (fun _ => rfl) (ok_Model_gain hv) ?_
      refine w_aload_n (q := 32) d_Model_rests_31 rfl rfl ?_
      refine w_iload_n (q := 33) d_Model_rests_32 rfl rfl ?_
      refine w_iload_n (q := 34) d_Model_rests_33 rfl rfl ?_
      refine w_iconst (q := 35) (v := 0) d_Model_rests_34 rfl (by decide) ?_
      obtain ⟨v6, hv, h⟩ := bnd h
      refine w_callVi (q := 38) (M' := M_Model_gain) (n' := 6) (k := 54) (As := [.int k1, .int k2, .int 0]) (sh' := SH) (b1 := (0, 0)) d_Model_rests_35 rfl mw_Model_gain (by decide) (by decide) ml_Model_432 (by decide) s_54 (by decide) rfl rfl rfl (leb rfl) (bz _) (fun _ => rfl) (ok_Model_gain hv) ?_
      by_cases c7 : v6.1 < v5.1
      · rw [if_pos c7] at h
        refine w_icmp_gt_t (q := 59) d_Model_rests_38 rfl c7 ?_
        cases h
        exact w_ls (by exact trivial) hr
      · rw [if_neg c7] at h
        refine w_icmp_gt_f (q := 41) d_Model_rests_38 59 rfl rfl c7 ?_
        refine w_aload_n (q := 42) d_Model_rests_41 rfl rfl ?_
        refine w_iload_n (q := 43) d_Model_rests_42 rfl rfl ?_
        refine w_iload (q := 45) d_Model_rests_43 rfl rfl ?_
        refine w_iconst (q := 46) (v := 1) d_Model_rests_45 rfl (by decide) ?_
        obtain ⟨v8, hv, h⟩ := bnd h
        refine w_callVi (q := 49) (M' := M_Model_gain) (n' := 6) (k := 54) (As := [.int k1, .int s.1, .int 1]) (sh' := SH) (b1 := (0, 0)) d_Model_rests_46 rfl mw_Model_gain (by decide) (by decide) ml_Model_432 (by decide) s_54 (by decide) rfl rfl rfl (leb rfl) (bz _) (fun _ => rfl) (ok_Model_gain hv) ?_
        refine w_aload_n (q := 50) d_Model_rests_49 rfl rfl ?_
        refine w_iload_n (q := 51) d_Model_rests_50 rfl rfl ?_
        refine w_iload_n (q := 52) d_Model_rests_51 rfl rfl ?_
        refine w_iconst (q := 53) (v := 1) d_Model_rests_52 rfl (by decide) ?_
        obtain ⟨v9, hv, h⟩ := bnd h
        refine w_callVi (q := 56) (M' := M_Model_gain) (n' := 6) (k := 54) (As := [.int k1, .int k2, .int 1]) (sh' := SH) (b1 := (0, 0)) d_Model_rests_53 rfl mw_Model_gain (by decide) (by decide) ml_Model_432 (by decide) s_54 (by decide) rfl rfl rfl (leb rfl) (bz _) (fun _ => rfl) (ok_Model_gain hv) ?_
        by_cases c10 : v8.1 ≤ v9.1
        · rw [if_pos c10] at h
          refine w_icmp_le_t (q := 61) d_Model_rests_56 rfl c10 ?_
          refine w_iinc (q := 64) (ls' := [some (.ref 54), some (.int k1), some (.int k2), some (.int k3), some (.int (s.1 + 1))]) d_Model_rests_61 rfl (by decide) rfl rfl rfl ?_
          refine w_goto (q := 3) d_Model_rests_64 rfl ?_
          cases h
          exact w_ls (by exact (And.intro rfl (And.intro rfl (And.intro rfl (And.intro rfl (And.intro rfl trivial)))))) hr
        · rw [if_neg c10] at h
          refine w_icmp_le_f (q := 59) d_Model_rests_56 61 rfl rfl c10 ?_
          cases h
          exact w_ls (by exact trivial) hr
def sp_Model_rests (F : Nat) (p0 : Int32) (p1 : Int32) (p2 : Int32) (g : Mem) : Option (Int32 × Mem) := (lpO (st_Model_rests_3 F p0 p1 p2 g p0 p1 p2) F (0, g)).bind fun x11 => match x11 with | .inl x12 => some (0, x12) | .inr x13 => some (1, x13)
theorem ok_Model_rests {γ : GG} {tt : Bool} {F : Nat} {p0 : Int32} {p1 : Int32} {p2 : Int32} {g : Mem} {res : Int32 × Mem} (h : sp_Model_rests F p0 p1 p2 g = some res) : CA γ M_Model_rests 7 [.ref 54, .int p0, .int p1, .int p2] SH g tt (0, 0) (pI SH res.1 res.2 tt) := by
  refine CA.of mw_Model_rests.1 1 rfl ?_
  show WA γ M_Model_rests 7 0 [some (.ref 54), some (.int p0), some (.int p1), some (.int p2), none] [] SH g tt (0, 0) (pI SH res.1 res.2 tt)
  unfold sp_Model_rests at h
  refine w_iconst (q := 1) (v := 0) d_Model_rests_0 rfl (by decide) ?_
  refine w_istore (q := 3) (ls' := [some (.ref 54), some (.int p0), some (.int p1), some (.int p2), some (.int 0)]) d_Model_rests_1 rfl (by decide) rfl rfl ?_
  obtain ⟨x11, hx, h⟩ := bnd h
  refine w_ls (ls' := [some (.ref 54), some (.int p0), some (.int p1), some (.int p2), some (.int 0)]) (And.intro rfl (And.intro rfl (And.intro rfl (And.intro rfl (And.intro rfl trivial))))) ?_
  show PL_Model_rests_3 γ tt p0 p1 p2 g p0 p1 p2 _ _ (0, g)
  refine lp_ok (kl_Model_rests_3) F _ x11 hx ?_
  unfold QL_Model_rests_3
  rcases x11 with x12 | x13
  · dsimp only at h ⊢
    refine w_iconst (q := 60) (v := 0) d_Model_rests_59 rfl (by decide) ?_
    cases h
    exact w_ireturn d_Model_rests_60 rfl rfl ⟨rfl, rfl, rfl, rfl⟩
  · dsimp only at h ⊢
    refine w_iconst (q := 68) (v := 1) d_Model_rests_67 rfl (by decide) ?_
    cases h
    exact w_ireturn d_Model_rests_68 rfl rfl ⟨rfl, rfl, rfl, rfl⟩
def PL_Model_game_33 (γ : GG) (tt : Bool) (p0 : Int32) (g : Mem) (k1 : Int32) (k2 : Int32) (b : Nat × Nat) (Φ : PO) (s : Int32 × Int32 × Int32 × Mem) : Prop := WA γ M_Model_game 8 33 [some (.ref 54), some (.int k1), some (.int k2), some (.int s.1), some (.int s.2.1), some (.int s.2.2.1), none] [] SH s.2.2.2 tt b Φ
def QL_Model_game_33 (γ : GG) (tt : Bool) (p0 : Int32) (g : Mem) (k1 : Int32) (k2 : Int32) (b : Nat × Nat) (Φ : PO) (x : (Int32 × Int32 × Mem)) : Prop := WA γ M_Model_game 8 127 [none, some (.int k1), none, some (.int x.1), some (.int x.2.1), none, none] [] SH x.2.2 tt b Φ
def PL_Model_game_47 (γ : GG) (tt : Bool) (p0 : Int32) (g : Mem) (k1 : Int32) (k2 : Int32) (k5 : Int32) (b : Nat × Nat) (Φ : PO) (s : Int32 × Int32 × Int32 × Mem) : Prop := WA γ M_Model_game 8 47 [some (.ref 54), some (.int k1), some (.int k2), some (.int s.1), some (.int s.2.1), some (.int k5), some (.int s.2.2.1)] [] SH s.2.2.2 tt b Φ
def QL_Model_game_47 (γ : GG) (tt : Bool) (p0 : Int32) (g : Mem) (k1 : Int32) (k2 : Int32) (k5 : Int32) (b : Nat × Nat) (Φ : PO) (x : (Int32 × Int32 × Mem)) : Prop := WA γ M_Model_game 8 121 [some (.ref 54), some (.int k1), some (.int k2), some (.int x.1), some (.int x.2.1), some (.int k5), none] [] SH x.2.2 tt b Φ
def st_Model_game_47 (F : Nat) (p0 : Int32) (g : Mem) (k1 : Int32) (k2 : Int32) (k5 : Int32) (s : Int32 × Int32 × Int32 × Mem) : Option ((Int32 × Int32 × Int32 × Mem) ⊕ ((Int32 × Int32 × Mem))) := (rd s.2.2.2 58 12 0).bind fun v7 => if v7 ≤ s.2.2.1 then some (.inr (s.1, s.2.1, s.2.2.2)) else (sp_Model_isOf k2 k5 s.2.2.2).bind fun v9 => if v9 = 0 then some (.inl (s.1, s.2.1, s.2.2.1 + 1, s.2.2.2)) else (sp_Model_isOf k2 s.2.2.1 s.2.2.2).bind fun v11 => if v11 = 0 then some (.inl (s.1, s.2.1, s.2.2.1 + 1, s.2.2.2)) else (sp_Model_rests F k5 s.2.2.1 k2 s.2.2.2).bind fun v13 => if v13.1 = 0 then some (.inl (s.1, s.2.1, s.2.2.1 + 1, v13.2)) else if s.2.1 = (-1) then some (.inl (s.1 + 1, (10 * k5) + s.2.2.1, s.2.2.1 + 1, v13.2)) else some (.inl (s.1 + 1, s.2.1, s.2.2.1 + 1, v13.2))
theorem kl_Model_game_47 {γ : GG} {tt : Bool} {F : Nat} {p0 : Int32} {g : Mem} {k1 : Int32} {k2 : Int32} {k5 : Int32} {b : Nat × Nat} {Φ : PO} : ∀ (s : Int32 × Int32 × Int32 × Mem) (r : (Int32 × Int32 × Int32 × Mem) ⊕ ((Int32 × Int32 × Mem))), st_Model_game_47 F p0 g k1 k2 k5 s = some r → RQ (PL_Model_game_47 γ tt p0 g k1 k2 k5 b Φ) (QL_Model_game_47 γ tt p0 g k1 k2 k5 b Φ) r → PL_Model_game_47 γ tt p0 g k1 k2 k5 b Φ s := by
  intro s r h hr
  unfold st_Model_game_47 at h
  unfold PL_Model_game_47
  refine w_iload (q := 49) d_Model_game_47 rfl rfl ?_
  refine w_aload_n (q := 50) d_Model_game_49 rfl rfl ?_
  refine w_get (q := 53) (ci := 12) (j := 4) d_Model_game_50 rfl (by decide) fl_Model_51 (by decide) (by decide) s_54 rfl rfl ?_
  refine w_iconst (q := 54) (v := 0) d_Model_game_53 rfl (by decide) ?_
  obtain ⟨v7, hv, h⟩ := bnd h
  obtain ⟨hi, hv⟩ := rd_ok hv
  refine w_iald (q := 55) (t := 0) d_Model_game_54 rfl a_58.2 a_58.1 hi rfl ?_
  rw [hv]
  by_cases c8 : v7 ≤ s.2.2.1
  · rw [if_pos c8] at h
    refine w_icmp_ge_t (q := 121) d_Model_game_55 rfl c8 ?_
    cases h
    exact w_ls (by exact (And.intro rfl (And.intro rfl (And.intro rfl (And.intro rfl (And.intro rfl (And.intro rfl trivial))))))) hr
  · rw [if_neg c8] at h
    refine w_icmp_ge_f (q := 58) d_Model_game_55 121 rfl rfl c8 ?_
    refine w_iload_n (q := 59) d_Model_game_58 rfl rfl ?_
    refine w_iload (q := 61) d_Model_game_59 rfl rfl ?_
    obtain ⟨v9, hv, h⟩ := bnd h
    refine w_callSi (q := 64) (M' := M_Model_isOf) (n' := 0) (As := [.int k2, .int k5]) (sh' := SH) (b1 := (0, 0)) d_Model_game_61 rfl mw_Model_isOf (by decide) (by decide) ml_Model_308 rfl rfl (leb rfl) (bz _) (fun _ => rfl) (ok_Model_isOf hv) ?_
    by_cases c10 : v9 = 0
    · rw [if_pos c10] at h
      refine w_if_eq_t (q := 115) d_Model_game_64 rfl c10 ?_
      refine w_iinc (q := 118) (ls' := [some (.ref 54), some (.int k1), some (.int k2), some (.int s.1), some (.int s.2.1), some (.int k5), some (.int (s.2.2.1 + 1))]) d_Model_game_115 rfl (by decide) rfl rfl rfl ?_
      refine w_goto (q := 47) d_Model_game_118 rfl ?_
      cases h
      exact w_ls (by exact (And.intro rfl (And.intro rfl (And.intro rfl (And.intro rfl (And.intro rfl (And.intro rfl (And.intro rfl trivial)))))))) hr
    · rw [if_neg c10] at h
      refine w_if_eq_f (q := 67) d_Model_game_64 115 rfl rfl c10 ?_
      refine w_iload_n (q := 68) d_Model_game_67 rfl rfl ?_
      refine w_iload (q := 70) d_Model_game_68 rfl rfl ?_
      obtain ⟨v11, hv, h⟩ := bnd h
      refine w_callSi (q := 73) (M' := M_Model_isOf) (n' := 0) (As := [.int k2, .int s.2.2.1]) (sh' := SH) (b1 := (0, 0)) d_Model_game_70 rfl mw_Model_isOf (by decide) (by decide) ml_Model_308 rfl rfl (leb rfl) (bz _) (fun _ => rfl) (ok_Model_isOf hv) ?_
      by_cases c12 : v11 = 0
      · rw [if_pos c12] at h
        refine w_if_eq_t (q := 115) d_Model_game_73 rfl c12 ?_
        refine w_iinc (q := 118) (ls' := [some (.ref 54), some (.int k1), some (.int k2), some (.int s.1), some (.int s.2.1), some (.int k5), some (.int (s.2.2.1 + 1))]) d_Model_game_115 rfl (by decide) rfl rfl rfl ?_
        refine w_goto (q := 47) d_Model_game_118 rfl ?_
        cases h
        exact w_ls (by exact (And.intro rfl (And.intro rfl (And.intro rfl (And.intro rfl (And.intro rfl (And.intro rfl (And.intro rfl trivial)))))))) hr
      · rw [if_neg c12] at h
        refine w_if_eq_f (q := 76) d_Model_game_73 115 rfl rfl c12 ?_
        refine w_aload_n (q := 77) d_Model_game_76 rfl rfl ?_
        refine w_iload (q := 79) d_Model_game_77 rfl rfl ?_
        refine w_iload (q := 81) d_Model_game_79 rfl rfl ?_
        refine w_iload_n (q := 82) d_Model_game_81 rfl rfl ?_
        obtain ⟨v13, hv, h⟩ := bnd h
        refine w_callVi (q := 85) (M' := M_Model_rests) (n' := 7) (k := 54) (As := [.int k5, .int s.2.2.1, .int k2]) (sh' := SH) (b1 := (0, 0)) d_Model_game_82 rfl mw_Model_rests (by decide) (by decide) ml_Model_435 (by decide) s_54 (by decide) rfl rfl rfl (leb rfl) (bz _) (fun _ => rfl) (ok_Model_rests hv) ?_
        by_cases c14 : v13.1 = 0
        · rw [if_pos c14] at h
          refine w_if_ne_f (q := 88) d_Model_game_85 91 rfl rfl c14 ?_
          refine w_goto (q := 115) d_Model_game_88 rfl ?_
          refine w_iinc (q := 118) (ls' := [some (.ref 54), some (.int k1), some (.int k2), some (.int s.1), some (.int s.2.1), some (.int k5), some (.int (s.2.2.1 + 1))]) d_Model_game_115 rfl (by decide) rfl rfl rfl ?_
          refine w_goto (q := 47) d_Model_game_118 rfl ?_
          cases h
          exact w_ls (by exact (And.intro rfl (And.intro rfl (And.intro rfl (And.intro rfl (And.intro rfl (And.intro rfl (And.intro rfl trivial)))))))) hr
        · rw [if_neg c14] at h
          refine w_if_ne_t (q := 91) d_Model_game_85 rfl c14 ?_
          refine w_iinc (q := 94) (ls' := [some (.ref 54), some (.int k1), some (.int k2), some (.int (s.1 + 1)), some (.int s.2.1), some (.int k5), some (.int s.2.2.1)]) d_Model_game_91 rfl (by decide) rfl rfl rfl ?_
          refine w_iload (q := 96) d_Model_game_94 rfl rfl ?_
          refine w_iconst (q := 97) (v := (-1)) d_Model_game_96 rfl (by decide) ?_
          by_cases c15 : s.2.1 = (-1)
          · rw [if_pos c15] at h
            refine w_icmp_ne_f (q := 100) d_Model_game_97 111 rfl rfl c15 ?_
            refine w_bipush (q := 102) (v := 10) d_Model_game_100 rfl (by decide) ?_
            refine w_iload (q := 104) d_Model_game_102 rfl rfl ?_
            refine w_imul (q := 105) d_Model_game_104 rfl ?_
            refine w_iload (q := 107) d_Model_game_105 rfl rfl ?_
            refine w_iadd (q := 108) d_Model_game_107 rfl ?_
            refine w_goto (q := 113) d_Model_game_108 rfl ?_
            refine w_istore (q := 115) (ls' := [some (.ref 54), some (.int k1), some (.int k2), some (.int (s.1 + 1)), some (.int ((10 * k5) + s.2.2.1)), some (.int k5), some (.int s.2.2.1)]) d_Model_game_113 rfl (by decide) rfl rfl ?_
            refine w_iinc (q := 118) (ls' := [some (.ref 54), some (.int k1), some (.int k2), some (.int (s.1 + 1)), some (.int ((10 * k5) + s.2.2.1)), some (.int k5), some (.int (s.2.2.1 + 1))]) d_Model_game_115 rfl (by decide) rfl rfl rfl ?_
            refine w_goto (q := 47) d_Model_game_118 rfl ?_
            cases h
            exact w_ls (by exact (And.intro rfl (And.intro rfl (And.intro rfl (And.intro rfl (And.intro rfl (And.intro rfl (And.intro rfl trivial)))))))) hr
          · rw [if_neg c15] at h
            refine w_icmp_ne_t (q := 111) d_Model_game_97 rfl c15 ?_
            refine w_iload (q := 113) d_Model_game_111 rfl rfl ?_
            refine w_istore (q := 115) (ls' := [some (.ref 54), some (.int k1), some (.int k2), some (.int (s.1 + 1)), some (.int s.2.1), some (.int k5), some (.int s.2.2.1)]) d_Model_game_113 rfl (by decide) rfl rfl ?_
            refine w_iinc (q := 118) (ls' := [some (.ref 54), some (.int k1), some (.int k2), some (.int (s.1 + 1)), some (.int s.2.1), some (.int k5), some (.int (s.2.2.1 + 1))]) d_Model_game_115 rfl (by decide) rfl rfl rfl ?_
            refine w_goto (q := 47) d_Model_game_118 rfl ?_
            cases h
            exact w_ls (by exact (And.intro rfl (And.intro rfl (And.intro rfl (And.intro rfl (And.intro rfl (And.intro rfl (And.intro rfl trivial)))))))) hr
def st_Model_game_33 (F : Nat) (p0 : Int32) (g : Mem) (k1 : Int32) (k2 : Int32) (s : Int32 × Int32 × Int32 × Mem) : Option ((Int32 × Int32 × Int32 × Mem) ⊕ ((Int32 × Int32 × Mem))) := (rd s.2.2.2 58 12 0).bind fun v5 => if v5 ≤ s.2.2.1 then some (.inr (s.1, s.2.1, s.2.2.2)) else (lpO (st_Model_game_47 F p0 g k1 k2 s.2.2.1) F (s.1, s.2.1, 0, s.2.2.2)).bind fun x16 => some (.inl (x16.1, x16.2.1, s.2.2.1 + 1, x16.2.2))
theorem kl_Model_game_33 {γ : GG} {tt : Bool} {F : Nat} {p0 : Int32} {g : Mem} {k1 : Int32} {k2 : Int32} {b : Nat × Nat} {Φ : PO} : ∀ (s : Int32 × Int32 × Int32 × Mem) (r : (Int32 × Int32 × Int32 × Mem) ⊕ ((Int32 × Int32 × Mem))), st_Model_game_33 F p0 g k1 k2 s = some r → RQ (PL_Model_game_33 γ tt p0 g k1 k2 b Φ) (QL_Model_game_33 γ tt p0 g k1 k2 b Φ) r → PL_Model_game_33 γ tt p0 g k1 k2 b Φ s := by
  intro s r h hr
  unfold st_Model_game_33 at h
  unfold PL_Model_game_33
  refine w_iload (q := 35) d_Model_game_33 rfl rfl ?_
  refine w_aload_n (q := 36) d_Model_game_35 rfl rfl ?_
  refine w_get (q := 39) (ci := 12) (j := 4) d_Model_game_36 rfl (by decide) fl_Model_51 (by decide) (by decide) s_54 rfl rfl ?_
  refine w_iconst (q := 40) (v := 0) d_Model_game_39 rfl (by decide) ?_
  obtain ⟨v5, hv, h⟩ := bnd h
  obtain ⟨hi, hv⟩ := rd_ok hv
  refine w_iald (q := 41) (t := 0) d_Model_game_40 rfl a_58.2 a_58.1 hi rfl ?_
  rw [hv]
  by_cases c6 : v5 ≤ s.2.2.1
  · rw [if_pos c6] at h
    refine w_icmp_ge_t (q := 127) d_Model_game_41 rfl c6 ?_
    cases h
    exact w_ls (by exact (And.intro rfl (And.intro rfl (And.intro rfl trivial)))) hr
  · rw [if_neg c6] at h
    refine w_icmp_ge_f (q := 44) d_Model_game_41 127 rfl rfl c6 ?_
    refine w_iconst (q := 45) (v := 0) d_Model_game_44 rfl (by decide) ?_
    refine w_istore (q := 47) (ls' := [some (.ref 54), some (.int k1), some (.int k2), some (.int s.1), some (.int s.2.1), some (.int s.2.2.1), some (.int 0)]) d_Model_game_45 rfl (by decide) rfl rfl ?_
    obtain ⟨x16, hx, h⟩ := bnd h
    refine w_ls (ls' := [some (.ref 54), some (.int k1), some (.int k2), some (.int s.1), some (.int s.2.1), some (.int s.2.2.1), some (.int 0)]) (And.intro rfl (And.intro rfl (And.intro rfl (And.intro rfl (And.intro rfl (And.intro rfl (And.intro rfl trivial))))))) ?_
    show PL_Model_game_47 γ tt p0 g k1 k2 s.2.2.1 _ _ (s.1, s.2.1, 0, s.2.2.2)
    refine lp_ok (kl_Model_game_47) F _ x16 hx ?_
    unfold QL_Model_game_47
    refine w_iinc (q := 124) (ls' := [some (.ref 54), some (.int k1), some (.int k2), some (.int x16.1), some (.int x16.2.1), some (.int (s.2.2.1 + 1)), none]) d_Model_game_121 rfl (by decide) rfl rfl rfl ?_
    refine w_goto (q := 33) d_Model_game_124 rfl ?_
    cases h
    exact w_ls (by exact (And.intro rfl (And.intro rfl (And.intro rfl (And.intro rfl (And.intro rfl (And.intro rfl trivial))))))) hr
def sp_Model_game (F : Nat) (p0 : Int32) (g : Mem) : Option (Int32 × Mem) := if p0 < 0 then (sp_Model_fail 1 (mset g 54 3 0)).bind fun v2 => some (v2.1, v2.2) else if p0 ≤ 1 then (sp_Model_noPlaits F (mset g 54 3 0)).bind fun v4 => (lpO (st_Model_game_33 F p0 g p0 v4) F (0, (-1), 0, (mset g 54 3 0))).bind fun x17 => if p0 = 0 then some (x17.1, x17.2.2) else some (x17.2.1, x17.2.2) else (sp_Model_fail 1 (mset g 54 3 0)).bind fun v19 => some (v19.1, v19.2)
theorem ok_Model_game {γ : GG} {tt : Bool} {F : Nat} {p0 : Int32} {g : Mem} {res : Int32 × Mem} (h : sp_Model_game F p0 g = some res) : CA γ M_Model_game 8 [.ref 54, .int p0] SH g tt (0, 0) (pI SH res.1 res.2 tt) := by
  refine CA.of mw_Model_game.1 5 rfl ?_
  show WA γ M_Model_game 8 0 [some (.ref 54), some (.int p0), none, none, none, none, none] [] SH g tt (0, 0) (pI SH res.1 res.2 tt)
  unfold sp_Model_game at h
  refine w_aload_n (q := 1) d_Model_game_0 rfl rfl ?_
  refine w_iconst (q := 2) (v := 0) d_Model_game_1 rfl (by decide) ?_
  refine w_put (q := 5) (ci := 12) (j := 3) d_Model_game_2 rfl (by decide) fl_Model_114 (by decide) (by decide) s_54 rfl rfl rfl rfl rfl rfl ?_
  refine w_iload_n (q := 6) d_Model_game_5 rfl rfl ?_
  by_cases c1 : p0 < 0
  · rw [if_pos c1] at h
    refine w_if_lt_t (q := 14) d_Model_game_6 rfl c1 ?_
    refine w_aload_n (q := 15) d_Model_game_14 rfl rfl ?_
    refine w_iconst (q := 16) (v := 1) d_Model_game_15 rfl (by decide) ?_
    obtain ⟨v2, hv, h⟩ := bnd h
    refine w_callVi (q := 19) (M' := M_Model_fail) (n' := 0) (k := 54) (As := [.int 1]) (sh' := SH) (b1 := (0, 0)) d_Model_game_16 rfl mw_Model_fail (by decide) (by decide) ml_Model_273 (by decide) s_54 (by decide) rfl rfl rfl (leb rfl) (bz _) (fun _ => rfl) (ok_Model_fail hv) ?_
    cases h
    exact w_ireturn d_Model_game_19 rfl rfl ⟨rfl, rfl, rfl, rfl⟩
  · rw [if_neg c1] at h
    refine w_if_lt_f (q := 9) d_Model_game_6 14 rfl rfl c1 ?_
    refine w_iload_n (q := 10) d_Model_game_9 rfl rfl ?_
    refine w_iconst (q := 11) (v := 1) d_Model_game_10 rfl (by decide) ?_
    by_cases c3 : p0 ≤ 1
    · rw [if_pos c3] at h
      refine w_icmp_le_t (q := 20) d_Model_game_11 rfl c3 ?_
      refine w_aload_n (q := 21) d_Model_game_20 rfl rfl ?_
      obtain ⟨v4, hv, h⟩ := bnd h
      refine w_callVi (q := 24) (M' := M_Model_noPlaits) (n' := 0) (k := 54) (As := []) (sh' := SH) (b1 := (0, 0)) d_Model_game_21 rfl mw_Model_noPlaits (by decide) (by decide) ml_Model_412 (by decide) s_54 (by decide) rfl rfl rfl (leb rfl) (bz _) (fun _ => rfl) (ok_Model_noPlaits hv) ?_
      refine w_istore_n (q := 25) (ls' := [some (.ref 54), some (.int p0), some (.int v4), none, none, none, none]) d_Model_game_24 rfl (by decide) rfl rfl ?_
      refine w_iconst (q := 26) (v := 0) d_Model_game_25 rfl (by decide) ?_
      refine w_istore_n (q := 27) (ls' := [some (.ref 54), some (.int p0), some (.int v4), some (.int 0), none, none, none]) d_Model_game_26 rfl (by decide) rfl rfl ?_
      refine w_iconst (q := 28) (v := (-1)) d_Model_game_27 rfl (by decide) ?_
      refine w_istore (q := 30) (ls' := [some (.ref 54), some (.int p0), some (.int v4), some (.int 0), some (.int ((-1))), none, none]) d_Model_game_28 rfl (by decide) rfl rfl ?_
      refine w_iconst (q := 31) (v := 0) d_Model_game_30 rfl (by decide) ?_
      refine w_istore (q := 33) (ls' := [some (.ref 54), some (.int p0), some (.int v4), some (.int 0), some (.int ((-1))), some (.int 0), none]) d_Model_game_31 rfl (by decide) rfl rfl ?_
      obtain ⟨x17, hx, h⟩ := bnd h
      refine w_ls (ls' := [some (.ref 54), some (.int p0), some (.int v4), some (.int 0), some (.int ((-1))), some (.int 0), none]) (And.intro rfl (And.intro rfl (And.intro rfl (And.intro rfl (And.intro rfl (And.intro rfl trivial)))))) ?_
      show PL_Model_game_33 γ tt p0 g p0 v4 _ _ (0, (-1), 0, (mset g 54 3 0))
      refine lp_ok (kl_Model_game_33) F _ x17 hx ?_
      unfold QL_Model_game_33
      refine w_iload_n (q := 128) d_Model_game_127 rfl rfl ?_
      by_cases c18 : p0 = 0
      · rw [if_pos c18] at h
        refine w_if_ne_f (q := 131) d_Model_game_128 135 rfl rfl c18 ?_
        refine w_iload_n (q := 132) d_Model_game_131 rfl rfl ?_
        refine w_goto (q := 137) d_Model_game_132 rfl ?_
        cases h
        exact w_ireturn d_Model_game_137 rfl rfl ⟨rfl, rfl, rfl, rfl⟩
      · rw [if_neg c18] at h
        refine w_if_ne_t (q := 135) d_Model_game_128 rfl c18 ?_
        refine w_iload (q := 137) d_Model_game_135 rfl rfl ?_
        cases h
        exact w_ireturn d_Model_game_137 rfl rfl ⟨rfl, rfl, rfl, rfl⟩
    · rw [if_neg c3] at h
      refine w_icmp_le_f (q := 14) d_Model_game_11 20 rfl rfl c3 ?_
      refine w_aload_n (q := 15) d_Model_game_14 rfl rfl ?_
      refine w_iconst (q := 16) (v := 1) d_Model_game_15 rfl (by decide) ?_
      obtain ⟨v19, hv, h⟩ := bnd h
      refine w_callVi (q := 19) (M' := M_Model_fail) (n' := 0) (k := 54) (As := [.int 1]) (sh' := SH) (b1 := (0, 0)) d_Model_game_16 rfl mw_Model_fail (by decide) (by decide) ml_Model_273 (by decide) s_54 (by decide) rfl rfl rfl (leb rfl) (bz _) (fun _ => rfl) (ok_Model_fail hv) ?_
      cases h
      exact w_ireturn d_Model_game_19 rfl rfl ⟨rfl, rfl, rfl, rfl⟩
def sp_Model_drawOf (p0 : Int32) (g : Mem) : Option (Int32 × Mem) := (rm ((((mset g 54 34 (((g 54 34) * 1103515245) + 12345)) 54 34) >>> (16 &&& 31)) &&& 32767) p0).bind fun v1 => some (v1, (mset g 54 34 (((g 54 34) * 1103515245) + 12345)))
theorem ok_Model_drawOf {γ : GG} {tt : Bool} {p0 : Int32} {g : Mem} {res : Int32 × Mem} (h : sp_Model_drawOf p0 g = some res) : CA γ M_Model_drawOf 0 [.ref 54, .int p0] SH g tt (0, 0) (pI SH res.1 res.2 tt) := by
  refine CA.of mw_Model_drawOf.1 0 rfl ?_
  show WA γ M_Model_drawOf 0 0 [some (.ref 54), some (.int p0)] [] SH g tt (0, 0) (pI SH res.1 res.2 tt)
  unfold sp_Model_drawOf at h
  refine w_aload_n (q := 1) d_Model_drawOf_0 rfl rfl ?_
  refine w_aload_n (q := 2) d_Model_drawOf_1 rfl rfl ?_
  refine w_get (q := 5) (ci := 12) (j := 34) d_Model_drawOf_2 rfl (by decide) fl_Model_438 (by decide) (by decide) s_54 rfl rfl ?_
  refine w_ldcw (q := 8) d_Model_drawOf_5 rfl co_Model_441 ?_
  refine w_imul (q := 9) d_Model_drawOf_8 rfl ?_
  refine w_sipush (q := 12) (v := 12345) d_Model_drawOf_9 rfl (by decide) ?_
  refine w_iadd (q := 13) d_Model_drawOf_12 rfl ?_
  refine w_put (q := 16) (ci := 12) (j := 34) d_Model_drawOf_13 rfl (by decide) fl_Model_438 (by decide) (by decide) s_54 rfl rfl rfl rfl rfl rfl ?_
  refine w_aload_n (q := 17) d_Model_drawOf_16 rfl rfl ?_
  refine w_get (q := 20) (ci := 12) (j := 34) d_Model_drawOf_17 rfl (by decide) fl_Model_438 (by decide) (by decide) s_54 rfl rfl ?_
  refine w_bipush (q := 22) (v := 16) d_Model_drawOf_20 rfl (by decide) ?_
  refine w_ishr (q := 23) d_Model_drawOf_22 rfl ?_
  refine w_sipush (q := 26) (v := 32767) d_Model_drawOf_23 rfl (by decide) ?_
  refine w_iand (q := 27) d_Model_drawOf_26 rfl ?_
  refine w_iload_n (q := 28) d_Model_drawOf_27 rfl rfl ?_
  obtain ⟨v1, hv, h⟩ := bnd h
  obtain ⟨hz, hv⟩ := rm_ok hv
  refine w_irem (q := 29) d_Model_drawOf_28 rfl hz ?_
  rw [hv]
  cases h
  exact w_ireturn d_Model_drawOf_29 rfl rfl ⟨rfl, rfl, rfl, rfl⟩
def PL_Model_season_61 (γ : GG) (tt : Bool) (p0 : Int32) (p1 : Int32) (p2 : Int32) (g : Mem) (k2 : Int32) (k3 : Int32) (b : Nat × Nat) (Φ : PO) (s : Int32 × Int32 × Mem) : Prop := WA γ M_Model_season 5 61 [some (.ref 54), none, some (.int k2), some (.int k3), some (.int s.1), some (.int s.2.1), none, none, none, none] [] SH s.2.2 tt b Φ
def QL_Model_season_61 (γ : GG) (tt : Bool) (p0 : Int32) (p1 : Int32) (p2 : Int32) (g : Mem) (k2 : Int32) (k3 : Int32) (b : Nat × Nat) (Φ : PO) (x : (Int32 × Mem)) : Prop := WA γ M_Model_season 5 200 [some (.ref 54), none, none, some (.int k3), some (.int x.1), none, none, none, none, none] [] SH x.2 tt b Φ
def sp_Model_season_j168_61 (F : Nat) (p0 : Int32) (p1 : Int32) (p2 : Int32) (k2 : Int32) (k3 : Int32) (g : Mem) (m0 : Mem) (x4 : Int32) (x5 : Int32) (x6 : Int32) : Option ((Int32 × Int32 × Mem) ⊕ ((Int32 × Mem))) := (sp_Model_yearGoes F m0).bind fun v19 => (sp_Model_records F v19).bind fun v20 => if (x6 &&& (v20 ^^^ (-1))) = 0 then some (.inl (x4 + 0, x5 + 1, v19)) else some (.inl (x4 + 1, x5 + 1, v19))
theorem ok_Model_season_j168_61 {γ : GG} {tt : Bool} {F : Nat} {p0 : Int32} {p1 : Int32} {p2 : Int32} {k2 : Int32} {k3 : Int32} {g : Mem} {m0 : Mem} {x4 : Int32} {x5 : Int32} {x6 : Int32} {b : Nat × Nat} {Φ : PO} {r : (Int32 × Int32 × Mem) ⊕ ((Int32 × Mem))} (h : sp_Model_season_j168_61 F p0 p1 p2 k2 k3 g m0 x4 x5 x6 = some r) (hr : RQ (PL_Model_season_61 γ tt p0 p1 p2 g k2 k3 b Φ) (QL_Model_season_61 γ tt p0 p1 p2 g k2 k3 b Φ) r) : WA γ M_Model_season 5 168 [some (.ref 54), none, some (.int k2), some (.int k3), some (.int x4), some (.int x5), some (.int x6), none, none, none] [] SH m0 tt b Φ := by
  unfold sp_Model_season_j168_61 at h
  refine w_aload_n (q := 169) d_Model_season_168 rfl rfl ?_
  obtain ⟨v19, hv, h⟩ := bnd h
  refine w_callVv (q := 172) (M' := M_Model_yearGoes) (n' := 4) (k := 54) (As := []) (sh' := SH) (b1 := (0, 0)) d_Model_season_169 rfl mw_Model_yearGoes (by decide) (by decide) ml_Model_371 (by decide) s_54 (by decide) rfl rfl rfl (leb rfl) (bz _) (fun _ => rfl) (ok_Model_yearGoes hv) ?_
  refine w_iload (q := 174) d_Model_season_172 rfl rfl ?_
  refine w_iload (q := 176) d_Model_season_174 rfl rfl ?_
  refine w_aload_n (q := 177) d_Model_season_176 rfl rfl ?_
  obtain ⟨v20, hv, h⟩ := bnd h
  refine w_callVi (q := 180) (M' := M_Model_records) (n' := 2) (k := 54) (As := []) (sh' := SH) (b1 := (0, 0)) d_Model_season_177 rfl mw_Model_records (by decide) (by decide) ml_Model_329 (by decide) s_54 (by decide) rfl rfl rfl (leb rfl) (bz _) (fun _ => rfl) (ok_Model_records hv) ?_
  refine w_iconst (q := 181) (v := (-1)) d_Model_season_180 rfl (by decide) ?_
  refine w_ixor (q := 182) d_Model_season_181 rfl ?_
  refine w_iand (q := 183) d_Model_season_182 rfl ?_
  by_cases c21 : (x6 &&& (v20 ^^^ (-1))) = 0
  · rw [if_pos c21] at h
    refine w_if_eq_t (q := 190) d_Model_season_183 rfl c21 ?_
    refine w_iconst (q := 191) (v := 0) d_Model_season_190 rfl (by decide) ?_
    refine w_iadd (q := 192) d_Model_season_191 rfl ?_
    refine w_istore (q := 194) (ls' := [some (.ref 54), none, some (.int k2), some (.int k3), some (.int (x4 + 0)), some (.int x5), some (.int x6), none, none, none]) d_Model_season_192 rfl (by decide) rfl rfl ?_
    refine w_iinc (q := 197) (ls' := [some (.ref 54), none, some (.int k2), some (.int k3), some (.int (x4 + 0)), some (.int (x5 + 1)), some (.int x6), none, none, none]) d_Model_season_194 rfl (by decide) rfl rfl rfl ?_
    refine w_goto (q := 61) d_Model_season_197 rfl ?_
    cases h
    exact w_ls (by exact (And.intro rfl (And.intro rfl (And.intro rfl (And.intro rfl (And.intro rfl trivial)))))) hr
  · rw [if_neg c21] at h
    refine w_if_eq_f (q := 186) d_Model_season_183 190 rfl rfl c21 ?_
    refine w_iconst (q := 187) (v := 1) d_Model_season_186 rfl (by decide) ?_
    refine w_goto (q := 191) d_Model_season_187 rfl ?_
    refine w_iadd (q := 192) d_Model_season_191 rfl ?_
    refine w_istore (q := 194) (ls' := [some (.ref 54), none, some (.int k2), some (.int k3), some (.int (x4 + 1)), some (.int x5), some (.int x6), none, none, none]) d_Model_season_192 rfl (by decide) rfl rfl ?_
    refine w_iinc (q := 197) (ls' := [some (.ref 54), none, some (.int k2), some (.int k3), some (.int (x4 + 1)), some (.int (x5 + 1)), some (.int x6), none, none, none]) d_Model_season_194 rfl (by decide) rfl rfl rfl ?_
    refine w_goto (q := 61) d_Model_season_197 rfl ?_
    cases h
    exact w_ls (by exact (And.intro rfl (And.intro rfl (And.intro rfl (And.intro rfl (And.intro rfl trivial)))))) hr
def sp_Model_season_j154_61 (F : Nat) (p0 : Int32) (p1 : Int32) (p2 : Int32) (k2 : Int32) (k3 : Int32) (g : Mem) (m0 : Mem) (x4 : Int32) (x5 : Int32) (x6 : Int32) (x7 : Int32) (x8 : Int32) (x9 : Int32) : Option ((Int32 × Int32 × Mem) ⊕ ((Int32 × Mem))) := if x8 = 1 then (sp_Model_shaveNow F x7 x9 m0).bind fun v18 => sp_Model_season_j168_61 F p0 p1 p2 k2 k3 g v18 x4 x5 x6 else sp_Model_season_j168_61 F p0 p1 p2 k2 k3 g m0 x4 x5 x6
theorem ok_Model_season_j154_61 {γ : GG} {tt : Bool} {F : Nat} {p0 : Int32} {p1 : Int32} {p2 : Int32} {k2 : Int32} {k3 : Int32} {g : Mem} {m0 : Mem} {x4 : Int32} {x5 : Int32} {x6 : Int32} {x7 : Int32} {x8 : Int32} {x9 : Int32} {b : Nat × Nat} {Φ : PO} {r : (Int32 × Int32 × Mem) ⊕ ((Int32 × Mem))} (h : sp_Model_season_j154_61 F p0 p1 p2 k2 k3 g m0 x4 x5 x6 x7 x8 x9 = some r) (hr : RQ (PL_Model_season_61 γ tt p0 p1 p2 g k2 k3 b Φ) (QL_Model_season_61 γ tt p0 p1 p2 g k2 k3 b Φ) r) : WA γ M_Model_season 5 154 [some (.ref 54), none, some (.int k2), some (.int k3), some (.int x4), some (.int x5), some (.int x6), some (.int x7), some (.int x8), some (.int x9)] [] SH m0 tt b Φ := by
  unfold sp_Model_season_j154_61 at h
  refine w_iload (q := 156) d_Model_season_154 rfl rfl ?_
  refine w_iconst (q := 157) (v := 1) d_Model_season_156 rfl (by decide) ?_
  by_cases c17 : x8 = 1
  · rw [if_pos c17] at h
    refine w_icmp_ne_f (q := 160) d_Model_season_157 168 rfl rfl c17 ?_
    refine w_aload_n (q := 161) d_Model_season_160 rfl rfl ?_
    refine w_iload (q := 163) d_Model_season_161 rfl rfl ?_
    refine w_iload (q := 165) d_Model_season_163 rfl rfl ?_
    obtain ⟨v18, hv, h⟩ := bnd h
    refine w_callVv (q := 168) (M' := M_Model_shaveNow) (n' := 4) (k := 54) (As := [.int x7, .int x9]) (sh' := SH) (b1 := (0, 0)) d_Model_season_165 rfl mw_Model_shaveNow (by decide) (by decide) ml_Model_406 (by decide) s_54 (by decide) rfl rfl rfl (leb rfl) (bz _) (fun _ => rfl) (ok_Model_shaveNow hv) ?_
    refine w_ls (ls' := [some (.ref 54), none, some (.int k2), some (.int k3), some (.int x4), some (.int x5), some (.int x6), none, none, none]) (And.intro rfl (And.intro rfl (And.intro rfl (And.intro rfl (And.intro rfl (And.intro rfl trivial)))))) ?_
    exact ok_Model_season_j168_61 h hr
  · rw [if_neg c17] at h
    refine w_icmp_ne_t (q := 168) d_Model_season_157 rfl c17 ?_
    refine w_ls (ls' := [some (.ref 54), none, some (.int k2), some (.int k3), some (.int x4), some (.int x5), some (.int x6), none, none, none]) (And.intro rfl (And.intro rfl (And.intro rfl (And.intro rfl (And.intro rfl (And.intro rfl trivial)))))) ?_
    exact ok_Model_season_j168_61 h hr
def sp_Model_season_j134_61 (F : Nat) (p0 : Int32) (p1 : Int32) (p2 : Int32) (k2 : Int32) (k3 : Int32) (g : Mem) (m0 : Mem) (x4 : Int32) (x5 : Int32) (x6 : Int32) (x7 : Int32) (x8 : Int32) (y0 : Int32) : Option ((Int32 × Int32 × Mem) ⊕ ((Int32 × Mem))) := if x8 = 0 then (sp_Model_mothsEat F x7 y0 (y0 + 2) m0).bind fun v16 => sp_Model_season_j154_61 F p0 p1 p2 k2 k3 g v16.2 x4 x5 x6 x7 x8 y0 else sp_Model_season_j154_61 F p0 p1 p2 k2 k3 g m0 x4 x5 x6 x7 x8 y0
theorem ok_Model_season_j134_61 {γ : GG} {tt : Bool} {F : Nat} {p0 : Int32} {p1 : Int32} {p2 : Int32} {k2 : Int32} {k3 : Int32} {g : Mem} {m0 : Mem} {x4 : Int32} {x5 : Int32} {x6 : Int32} {x7 : Int32} {x8 : Int32} {y0 : Int32} {b : Nat × Nat} {Φ : PO} {r : (Int32 × Int32 × Mem) ⊕ ((Int32 × Mem))} (h : sp_Model_season_j134_61 F p0 p1 p2 k2 k3 g m0 x4 x5 x6 x7 x8 y0 = some r) (hr : RQ (PL_Model_season_61 γ tt p0 p1 p2 g k2 k3 b Φ) (QL_Model_season_61 γ tt p0 p1 p2 g k2 k3 b Φ) r) : WA γ M_Model_season 5 134 [some (.ref 54), none, some (.int k2), some (.int k3), some (.int x4), some (.int x5), some (.int x6), some (.int x7), some (.int x8), none] [.int y0] SH m0 tt b Φ := by
  unfold sp_Model_season_j134_61 at h
  refine w_istore (q := 136) (ls' := [some (.ref 54), none, some (.int k2), some (.int k3), some (.int x4), some (.int x5), some (.int x6), some (.int x7), some (.int x8), some (.int y0)]) d_Model_season_134 rfl (by decide) rfl rfl ?_
  refine w_iload (q := 138) d_Model_season_136 rfl rfl ?_
  by_cases c15 : x8 = 0
  · rw [if_pos c15] at h
    refine w_if_ne_f (q := 141) d_Model_season_138 154 rfl rfl c15 ?_
    refine w_aload_n (q := 142) d_Model_season_141 rfl rfl ?_
    refine w_iload (q := 144) d_Model_season_142 rfl rfl ?_
    refine w_iload (q := 146) d_Model_season_144 rfl rfl ?_
    refine w_iload (q := 148) d_Model_season_146 rfl rfl ?_
    refine w_iconst (q := 149) (v := 2) d_Model_season_148 rfl (by decide) ?_
    refine w_iadd (q := 150) d_Model_season_149 rfl ?_
    obtain ⟨v16, hv, h⟩ := bnd h
    refine w_callVi (q := 153) (M' := M_Model_mothsEat) (n' := 3) (k := 54) (As := [.int x7, .int y0, .int (y0 + 2)]) (sh' := SH) (b1 := (0, 0)) d_Model_season_150 rfl mw_Model_mothsEat (by decide) (by decide) ml_Model_390 (by decide) s_54 (by decide) rfl rfl rfl (leb rfl) (bz _) (fun _ => rfl) (ok_Model_mothsEat hv) ?_
    refine w_pop (q := 154) d_Model_season_153 rfl rfl ?_
    refine w_ls (ls' := [some (.ref 54), none, some (.int k2), some (.int k3), some (.int x4), some (.int x5), some (.int x6), some (.int x7), some (.int x8), some (.int y0)]) (And.intro rfl (And.intro rfl (And.intro rfl (And.intro rfl (And.intro rfl (And.intro rfl (And.intro rfl (And.intro rfl (And.intro rfl trivial))))))))) ?_
    exact ok_Model_season_j154_61 h hr
  · rw [if_neg c15] at h
    refine w_if_ne_t (q := 154) d_Model_season_138 rfl c15 ?_
    refine w_ls (ls' := [some (.ref 54), none, some (.int k2), some (.int k3), some (.int x4), some (.int x5), some (.int x6), some (.int x7), some (.int x8), some (.int y0)]) (And.intro rfl (And.intro rfl (And.intro rfl (And.intro rfl (And.intro rfl (And.intro rfl (And.intro rfl (And.intro rfl (And.intro rfl trivial))))))))) ?_
    exact ok_Model_season_j154_61 h hr
def sp_Model_season_j116_61 (F : Nat) (p0 : Int32) (p1 : Int32) (p2 : Int32) (k2 : Int32) (k3 : Int32) (g : Mem) (m0 : Mem) (x4 : Int32) (x5 : Int32) (x6 : Int32) (x7 : Int32) (y0 : Int32) : Option ((Int32 × Int32 × Mem) ⊕ ((Int32 × Mem))) := if y0 = 2 then sp_Model_season_j134_61 F p0 p1 p2 k2 k3 g m0 x4 x5 x6 x7 y0 0 else (sp_Model_drawOf 20 m0).bind fun v22 => sp_Model_season_j134_61 F p0 p1 p2 k2 k3 g v22.2 x4 x5 x6 x7 y0 v22.1
theorem ok_Model_season_j116_61 {γ : GG} {tt : Bool} {F : Nat} {p0 : Int32} {p1 : Int32} {p2 : Int32} {k2 : Int32} {k3 : Int32} {g : Mem} {m0 : Mem} {x4 : Int32} {x5 : Int32} {x6 : Int32} {x7 : Int32} {y0 : Int32} {b : Nat × Nat} {Φ : PO} {r : (Int32 × Int32 × Mem) ⊕ ((Int32 × Mem))} (h : sp_Model_season_j116_61 F p0 p1 p2 k2 k3 g m0 x4 x5 x6 x7 y0 = some r) (hr : RQ (PL_Model_season_61 γ tt p0 p1 p2 g k2 k3 b Φ) (QL_Model_season_61 γ tt p0 p1 p2 g k2 k3 b Φ) r) : WA γ M_Model_season 5 116 [some (.ref 54), none, some (.int k2), some (.int k3), some (.int x4), some (.int x5), some (.int x6), some (.int x7), none, none] [.int y0] SH m0 tt b Φ := by
  unfold sp_Model_season_j116_61 at h
  refine w_istore (q := 118) (ls' := [some (.ref 54), none, some (.int k2), some (.int k3), some (.int x4), some (.int x5), some (.int x6), some (.int x7), some (.int y0), none]) d_Model_season_116 rfl (by decide) rfl rfl ?_
  refine w_iload (q := 120) d_Model_season_118 rfl rfl ?_
  refine w_iconst (q := 121) (v := 2) d_Model_season_120 rfl (by decide) ?_
  by_cases c14 : y0 = 2
  · rw [if_pos c14] at h
    refine w_icmp_ne_f (q := 124) d_Model_season_121 128 rfl rfl c14 ?_
    refine w_iconst (q := 125) (v := 0) d_Model_season_124 rfl (by decide) ?_
    refine w_goto (q := 134) d_Model_season_125 rfl ?_
    refine w_ls (ls' := [some (.ref 54), none, some (.int k2), some (.int k3), some (.int x4), some (.int x5), some (.int x6), some (.int x7), some (.int y0), none]) (And.intro rfl (And.intro rfl (And.intro rfl (And.intro rfl (And.intro rfl (And.intro rfl (And.intro rfl (And.intro rfl trivial)))))))) ?_
    exact ok_Model_season_j134_61 h hr
  · rw [if_neg c14] at h
    refine w_icmp_ne_t (q := 128) d_Model_season_121 rfl c14 ?_
    refine w_aload_n (q := 129) d_Model_season_128 rfl rfl ?_
    refine w_bipush (q := 131) (v := 20) d_Model_season_129 rfl (by decide) ?_
    obtain ⟨v22, hv, h⟩ := bnd h
    refine w_callVi (q := 134) (M' := M_Model_drawOf) (n' := 0) (k := 54) (As := [.int 20]) (sh' := SH) (b1 := (0, 0)) d_Model_season_131 rfl mw_Model_drawOf (by decide) (by decide) ml_Model_446 (by decide) s_54 (by decide) rfl rfl rfl (leb rfl) (bz _) (fun _ => rfl) (ok_Model_drawOf hv) ?_
    refine w_ls (ls' := [some (.ref 54), none, some (.int k2), some (.int k3), some (.int x4), some (.int x5), some (.int x6), some (.int x7), some (.int y0), none]) (And.intro rfl (And.intro rfl (And.intro rfl (And.intro rfl (And.intro rfl (And.intro rfl (And.intro rfl (And.intro rfl trivial)))))))) ?_
    exact ok_Model_season_j134_61 h hr
def sp_Model_season_j96_61 (F : Nat) (p0 : Int32) (p1 : Int32) (p2 : Int32) (k2 : Int32) (k3 : Int32) (g : Mem) (m0 : Mem) (x4 : Int32) (x5 : Int32) (x6 : Int32) (y0 : Int32) : Option ((Int32 × Int32 × Mem) ⊕ ((Int32 × Mem))) := (rd m0 58 12 0).bind fun v12 => if v12 = 0 then sp_Model_season_j116_61 F p0 p1 p2 k2 k3 g m0 x4 x5 x6 y0 2 else (sp_Model_drawOf 3 m0).bind fun v23 => sp_Model_season_j116_61 F p0 p1 p2 k2 k3 g v23.2 x4 x5 x6 y0 v23.1
theorem ok_Model_season_j96_61 {γ : GG} {tt : Bool} {F : Nat} {p0 : Int32} {p1 : Int32} {p2 : Int32} {k2 : Int32} {k3 : Int32} {g : Mem} {m0 : Mem} {x4 : Int32} {x5 : Int32} {x6 : Int32} {y0 : Int32} {b : Nat × Nat} {Φ : PO} {r : (Int32 × Int32 × Mem) ⊕ ((Int32 × Mem))} (h : sp_Model_season_j96_61 F p0 p1 p2 k2 k3 g m0 x4 x5 x6 y0 = some r) (hr : RQ (PL_Model_season_61 γ tt p0 p1 p2 g k2 k3 b Φ) (QL_Model_season_61 γ tt p0 p1 p2 g k2 k3 b Φ) r) : WA γ M_Model_season 5 96 [some (.ref 54), none, some (.int k2), some (.int k3), some (.int x4), some (.int x5), some (.int x6), none, none, none] [.int y0] SH m0 tt b Φ := by
  unfold sp_Model_season_j96_61 at h
  refine w_istore (q := 98) (ls' := [some (.ref 54), none, some (.int k2), some (.int k3), some (.int x4), some (.int x5), some (.int x6), some (.int y0), none, none]) d_Model_season_96 rfl (by decide) rfl rfl ?_
  refine w_aload_n (q := 99) d_Model_season_98 rfl rfl ?_
  refine w_get (q := 102) (ci := 12) (j := 4) d_Model_season_99 rfl (by decide) fl_Model_51 (by decide) (by decide) s_54 rfl rfl ?_
  refine w_iconst (q := 103) (v := 0) d_Model_season_102 rfl (by decide) ?_
  obtain ⟨v12, hv, h⟩ := bnd h
  obtain ⟨hi, hv⟩ := rd_ok hv
  refine w_iald (q := 104) (t := 0) d_Model_season_103 rfl a_58.2 a_58.1 hi rfl ?_
  rw [hv]
  by_cases c13 : v12 = 0
  · rw [if_pos c13] at h
    refine w_if_ne_f (q := 107) d_Model_season_104 111 rfl rfl c13 ?_
    refine w_iconst (q := 108) (v := 2) d_Model_season_107 rfl (by decide) ?_
    refine w_goto (q := 116) d_Model_season_108 rfl ?_
    refine w_ls (ls' := [some (.ref 54), none, some (.int k2), some (.int k3), some (.int x4), some (.int x5), some (.int x6), some (.int y0), none, none]) (And.intro rfl (And.intro rfl (And.intro rfl (And.intro rfl (And.intro rfl (And.intro rfl (And.intro rfl trivial))))))) ?_
    exact ok_Model_season_j116_61 h hr
  · rw [if_neg c13] at h
    refine w_if_ne_t (q := 111) d_Model_season_104 rfl c13 ?_
    refine w_aload_n (q := 112) d_Model_season_111 rfl rfl ?_
    refine w_iconst (q := 113) (v := 3) d_Model_season_112 rfl (by decide) ?_
    obtain ⟨v23, hv, h⟩ := bnd h
    refine w_callVi (q := 116) (M' := M_Model_drawOf) (n' := 0) (k := 54) (As := [.int 3]) (sh' := SH) (b1 := (0, 0)) d_Model_season_113 rfl mw_Model_drawOf (by decide) (by decide) ml_Model_446 (by decide) s_54 (by decide) rfl rfl rfl (leb rfl) (bz _) (fun _ => rfl) (ok_Model_drawOf hv) ?_
    refine w_ls (ls' := [some (.ref 54), none, some (.int k2), some (.int k3), some (.int x4), some (.int x5), some (.int x6), some (.int y0), none, none]) (And.intro rfl (And.intro rfl (And.intro rfl (And.intro rfl (And.intro rfl (And.intro rfl (And.intro rfl trivial))))))) ?_
    exact ok_Model_season_j116_61 h hr
def st_Model_season_61 (F : Nat) (p0 : Int32) (p1 : Int32) (p2 : Int32) (g : Mem) (k2 : Int32) (k3 : Int32) (s : Int32 × Int32 × Mem) : Option ((Int32 × Int32 × Mem) ⊕ ((Int32 × Mem))) := if k2 ≤ s.2.1 then some (.inr (s.1, s.2.2)) else (sp_Model_records F s.2.2).bind fun v9 => (rd s.2.2 58 12 0).bind fun v10 => if v10 = 0 then sp_Model_season_j96_61 F p0 p1 p2 k2 k3 g s.2.2 s.1 s.2.1 v9 0 else (rd s.2.2 58 12 0).bind fun v24 => (sp_Model_drawOf v24 s.2.2).bind fun v25 => sp_Model_season_j96_61 F p0 p1 p2 k2 k3 g v25.2 s.1 s.2.1 v9 v25.1
theorem kl_Model_season_61 {γ : GG} {tt : Bool} {F : Nat} {p0 : Int32} {p1 : Int32} {p2 : Int32} {g : Mem} {k2 : Int32} {k3 : Int32} {b : Nat × Nat} {Φ : PO} : ∀ (s : Int32 × Int32 × Mem) (r : (Int32 × Int32 × Mem) ⊕ ((Int32 × Mem))), st_Model_season_61 F p0 p1 p2 g k2 k3 s = some r → RQ (PL_Model_season_61 γ tt p0 p1 p2 g k2 k3 b Φ) (QL_Model_season_61 γ tt p0 p1 p2 g k2 k3 b Φ) r → PL_Model_season_61 γ tt p0 p1 p2 g k2 k3 b Φ s := by
  intro s r h hr
  unfold st_Model_season_61 at h
  unfold PL_Model_season_61
  refine w_iload (q := 63) d_Model_season_61 rfl rfl ?_
  refine w_iload_n (q := 64) d_Model_season_63 rfl rfl ?_
  by_cases c8 : k2 ≤ s.2.1
  · rw [if_pos c8] at h
    refine w_icmp_ge_t (q := 200) d_Model_season_64 rfl c8 ?_
    cases h
    exact w_ls (by exact (And.intro rfl (And.intro rfl (And.intro rfl trivial)))) hr
  · rw [if_neg c8] at h
    refine w_icmp_ge_f (q := 67) d_Model_season_64 200 rfl rfl c8 ?_
    refine w_aload_n (q := 68) d_Model_season_67 rfl rfl ?_
    obtain ⟨v9, hv, h⟩ := bnd h
    refine w_callVi (q := 71) (M' := M_Model_records) (n' := 2) (k := 54) (As := []) (sh' := SH) (b1 := (0, 0)) d_Model_season_68 rfl mw_Model_records (by decide) (by decide) ml_Model_329 (by decide) s_54 (by decide) rfl rfl rfl (leb rfl) (bz _) (fun _ => rfl) (ok_Model_records hv) ?_
    refine w_istore (q := 73) (ls' := [some (.ref 54), none, some (.int k2), some (.int k3), some (.int s.1), some (.int s.2.1), some (.int v9), none, none, none]) d_Model_season_71 rfl (by decide) rfl rfl ?_
    refine w_aload_n (q := 74) d_Model_season_73 rfl rfl ?_
    refine w_get (q := 77) (ci := 12) (j := 4) d_Model_season_74 rfl (by decide) fl_Model_51 (by decide) (by decide) s_54 rfl rfl ?_
    refine w_iconst (q := 78) (v := 0) d_Model_season_77 rfl (by decide) ?_
    obtain ⟨v10, hv, h⟩ := bnd h
    obtain ⟨hi, hv⟩ := rd_ok hv
    refine w_iald (q := 79) (t := 0) d_Model_season_78 rfl a_58.2 a_58.1 hi rfl ?_
    rw [hv]
    by_cases c11 : v10 = 0
    · rw [if_pos c11] at h
      refine w_if_ne_f (q := 82) d_Model_season_79 86 rfl rfl c11 ?_
      refine w_iconst (q := 83) (v := 0) d_Model_season_82 rfl (by decide) ?_
      refine w_goto (q := 96) d_Model_season_83 rfl ?_
      refine w_ls (ls' := [some (.ref 54), none, some (.int k2), some (.int k3), some (.int s.1), some (.int s.2.1), some (.int v9), none, none, none]) (And.intro rfl (And.intro rfl (And.intro rfl (And.intro rfl (And.intro rfl (And.intro rfl trivial)))))) ?_
      exact ok_Model_season_j96_61 h hr
    · rw [if_neg c11] at h
      refine w_if_ne_t (q := 86) d_Model_season_79 rfl c11 ?_
      refine w_aload_n (q := 87) d_Model_season_86 rfl rfl ?_
      refine w_aload_n (q := 88) d_Model_season_87 rfl rfl ?_
      refine w_get (q := 91) (ci := 12) (j := 4) d_Model_season_88 rfl (by decide) fl_Model_51 (by decide) (by decide) s_54 rfl rfl ?_
      refine w_iconst (q := 92) (v := 0) d_Model_season_91 rfl (by decide) ?_
      obtain ⟨v24, hv, h⟩ := bnd h
      obtain ⟨hi, hv⟩ := rd_ok hv
      refine w_iald (q := 93) (t := 0) d_Model_season_92 rfl a_58.2 a_58.1 hi rfl ?_
      rw [hv]
      obtain ⟨v25, hv, h⟩ := bnd h
      refine w_callVi (q := 96) (M' := M_Model_drawOf) (n' := 0) (k := 54) (As := [.int v24]) (sh' := SH) (b1 := (0, 0)) d_Model_season_93 rfl mw_Model_drawOf (by decide) (by decide) ml_Model_446 (by decide) s_54 (by decide) rfl rfl rfl (leb rfl) (bz _) (fun _ => rfl) (ok_Model_drawOf hv) ?_
      refine w_ls (ls' := [some (.ref 54), none, some (.int k2), some (.int k3), some (.int s.1), some (.int s.2.1), some (.int v9), none, none, none]) (And.intro rfl (And.intro rfl (And.intro rfl (And.intro rfl (And.intro rfl (And.intro rfl trivial)))))) ?_
      exact ok_Model_season_j96_61 h hr
def sp_Model_season_j229 (F : Nat) (p0 : Int32) (p1 : Int32) (p2 : Int32) (g : Mem) (m0 : Mem) (y0 : Int32) : Option (Int32 × Mem) := (sp_Model_unpack F 70 231 0 m0).bind fun v30 => some (y0, v30)
theorem ok_Model_season_j229 {γ : GG} {tt : Bool} {F : Nat} {p0 : Int32} {p1 : Int32} {p2 : Int32} {g : Mem} {m0 : Mem} {y0 : Int32} {res : Int32 × Mem} (h : sp_Model_season_j229 F p0 p1 p2 g m0 y0 = some res) : WA γ M_Model_season 5 229 [some (.ref 54), none, none, none, none, none, none, none, none, none] [.int y0] SH m0 tt (0, 0) (pI SH res.1 res.2 tt) := by
  unfold sp_Model_season_j229 at h
  refine w_istore (q := 231) (ls' := [some (.ref 54), none, none, none, none, some (.int y0), none, none, none, none]) d_Model_season_229 rfl (by decide) rfl rfl ?_
  refine w_aload_n (q := 232) d_Model_season_231 rfl rfl ?_
  refine w_aload_n (q := 233) d_Model_season_232 rfl rfl ?_
  refine w_get (q := 236) (ci := 12) (j := 31) d_Model_season_233 rfl (by decide) fl_Model_90 (by decide) (by decide) s_54 rfl rfl ?_
  refine w_iconst (q := 237) (v := 0) d_Model_season_236 rfl (by decide) ?_
  obtain ⟨v30, hv, h⟩ := bnd h
  refine w_callVv (q := 240) (M' := M_Model_unpack) (n' := 0) (k := 54) (As := [.ref 70, .int 0]) (sh' := SH) (b1 := (0, 0)) d_Model_season_237 rfl mw_Model_unpack (by decide) (by decide) ml_Model_393 (by decide) s_54 (by decide) rfl rfl rfl (leb rfl) (bz _) (fun _ => rfl) (ok_Model_unpack a_70 hv) ?_
  refine w_iload (q := 242) d_Model_season_240 rfl rfl ?_
  cases h
  exact w_ireturn d_Model_season_242 rfl rfl ⟨rfl, rfl, rfl, rfl⟩
def sp_Model_season (F : Nat) (p0 : Int32) (p1 : Int32) (p2 : Int32) (g : Mem) : Option (Int32 × Mem) := (sp_Model_isIn p2.toInt64 0 2 (mset g 54 3 0)).bind fun v1 => if v1 = 0 then (sp_Model_fail 1 (mset g 54 3 0)).bind fun v3 => some (v3.1, v3.2) else (sp_Model_isIn p1.toInt64 0 40 (mset g 54 3 0)).bind fun v4 => if v4 = 0 then (sp_Model_fail 2 (mset g 54 3 0)).bind fun v6 => some (v6.1, v6.2) else (sp_Model_pack F 70 231 0 (mset g 54 3 0)).bind fun v7 => (lpO (st_Model_season_61 F p0 p1 p2 g p1 p2) F (0, 0, (mset v7 54 34 p0))).bind fun x26 => if p2 = 0 then (sp_Model_records F x26.2).bind fun v28 => (sp_Model_bitsOf F v28 x26.2).bind fun v29 => sp_Model_season_j229 F p0 p1 p2 g x26.2 v29 else if p2 = 1 then (sp_Model_owedNow F (-1) x26.2).bind fun v32 => sp_Model_season_j229 F p0 p1 p2 g x26.2 v32 else sp_Model_season_j229 F p0 p1 p2 g x26.2 x26.1
theorem ok_Model_season {γ : GG} {tt : Bool} {F : Nat} {p0 : Int32} {p1 : Int32} {p2 : Int32} {g : Mem} {res : Int32 × Mem} (h : sp_Model_season F p0 p1 p2 g = some res) : CA γ M_Model_season 5 [.ref 54, .int p0, .int p1, .int p2] SH g tt (0, 0) (pI SH res.1 res.2 tt) := by
  refine CA.of mw_Model_season.1 6 rfl ?_
  show WA γ M_Model_season 5 0 [some (.ref 54), some (.int p0), some (.int p1), some (.int p2), none, none, none, none, none, none] [] SH g tt (0, 0) (pI SH res.1 res.2 tt)
  unfold sp_Model_season at h
  refine w_aload_n (q := 1) d_Model_season_0 rfl rfl ?_
  refine w_iconst (q := 2) (v := 0) d_Model_season_1 rfl (by decide) ?_
  refine w_put (q := 5) (ci := 12) (j := 3) d_Model_season_2 rfl (by decide) fl_Model_114 (by decide) (by decide) s_54 rfl rfl rfl rfl rfl rfl ?_
  refine w_iload_n (q := 6) d_Model_season_5 rfl rfl ?_
  refine w_i2l (q := 7) d_Model_season_6 rfl ?_
  refine w_lconst (q := 8) (v := 0) d_Model_season_7 rfl (by decide) ?_
  refine w_ldc2 (q := 11) d_Model_season_8 rfl lo_Model_442 ?_
  obtain ⟨v1, hv, h⟩ := bnd h
  refine w_callSi (q := 14) (M' := M_Model_isIn) (n' := 0) (As := [.long (p2.toInt64), .long (0), .long (2)]) (sh' := SH) (b1 := (0, 0)) d_Model_season_11 rfl mw_Model_isIn (by decide) (by decide) ml_Model_117 rfl rfl (leb rfl) (bz _) (fun _ => rfl) (ok_Model_isIn hv) ?_
  by_cases c2 : v1 = 0
  · rw [if_pos c2] at h
    refine w_if_ne_f (q := 17) d_Model_season_14 23 rfl rfl c2 ?_
    refine w_aload_n (q := 18) d_Model_season_17 rfl rfl ?_
    refine w_iconst (q := 19) (v := 1) d_Model_season_18 rfl (by decide) ?_
    obtain ⟨v3, hv, h⟩ := bnd h
    refine w_callVi (q := 22) (M' := M_Model_fail) (n' := 0) (k := 54) (As := [.int 1]) (sh' := SH) (b1 := (0, 0)) d_Model_season_19 rfl mw_Model_fail (by decide) (by decide) ml_Model_273 (by decide) s_54 (by decide) rfl rfl rfl (leb rfl) (bz _) (fun _ => rfl) (ok_Model_fail hv) ?_
    cases h
    exact w_ireturn d_Model_season_22 rfl rfl ⟨rfl, rfl, rfl, rfl⟩
  · rw [if_neg c2] at h
    refine w_if_ne_t (q := 23) d_Model_season_14 rfl c2 ?_
    refine w_iload_n (q := 24) d_Model_season_23 rfl rfl ?_
    refine w_i2l (q := 25) d_Model_season_24 rfl ?_
    refine w_lconst (q := 26) (v := 0) d_Model_season_25 rfl (by decide) ?_
    refine w_ldc2 (q := 29) d_Model_season_26 rfl lo_Model_444 ?_
    obtain ⟨v4, hv, h⟩ := bnd h
    refine w_callSi (q := 32) (M' := M_Model_isIn) (n' := 0) (As := [.long (p1.toInt64), .long (0), .long (40)]) (sh' := SH) (b1 := (0, 0)) d_Model_season_29 rfl mw_Model_isIn (by decide) (by decide) ml_Model_117 rfl rfl (leb rfl) (bz _) (fun _ => rfl) (ok_Model_isIn hv) ?_
    by_cases c5 : v4 = 0
    · rw [if_pos c5] at h
      refine w_if_ne_f (q := 35) d_Model_season_32 41 rfl rfl c5 ?_
      refine w_aload_n (q := 36) d_Model_season_35 rfl rfl ?_
      refine w_iconst (q := 37) (v := 2) d_Model_season_36 rfl (by decide) ?_
      obtain ⟨v6, hv, h⟩ := bnd h
      refine w_callVi (q := 40) (M' := M_Model_fail) (n' := 0) (k := 54) (As := [.int 2]) (sh' := SH) (b1 := (0, 0)) d_Model_season_37 rfl mw_Model_fail (by decide) (by decide) ml_Model_273 (by decide) s_54 (by decide) rfl rfl rfl (leb rfl) (bz _) (fun _ => rfl) (ok_Model_fail hv) ?_
      cases h
      exact w_ireturn d_Model_season_40 rfl rfl ⟨rfl, rfl, rfl, rfl⟩
    · rw [if_neg c5] at h
      refine w_if_ne_t (q := 41) d_Model_season_32 rfl c5 ?_
      refine w_aload_n (q := 42) d_Model_season_41 rfl rfl ?_
      refine w_aload_n (q := 43) d_Model_season_42 rfl rfl ?_
      refine w_get (q := 46) (ci := 12) (j := 31) d_Model_season_43 rfl (by decide) fl_Model_90 (by decide) (by decide) s_54 rfl rfl ?_
      refine w_iconst (q := 47) (v := 0) d_Model_season_46 rfl (by decide) ?_
      obtain ⟨v7, hv, h⟩ := bnd h
      refine w_callVv (q := 50) (M' := M_Model_pack) (n' := 0) (k := 54) (As := [.ref 70, .int 0]) (sh' := SH) (b1 := (0, 0)) d_Model_season_47 rfl mw_Model_pack (by decide) (by decide) ml_Model_359 (by decide) s_54 (by decide) rfl rfl rfl (leb rfl) (bz _) (fun _ => rfl) (ok_Model_pack a_70 hv) ?_
      refine w_aload_n (q := 51) d_Model_season_50 rfl rfl ?_
      refine w_iload_n (q := 52) d_Model_season_51 rfl rfl ?_
      refine w_put (q := 55) (ci := 12) (j := 34) d_Model_season_52 rfl (by decide) fl_Model_438 (by decide) (by decide) s_54 rfl rfl rfl rfl rfl rfl ?_
      refine w_iconst (q := 56) (v := 0) d_Model_season_55 rfl (by decide) ?_
      refine w_istore (q := 58) (ls' := [some (.ref 54), some (.int p0), some (.int p1), some (.int p2), some (.int 0), none, none, none, none, none]) d_Model_season_56 rfl (by decide) rfl rfl ?_
      refine w_iconst (q := 59) (v := 0) d_Model_season_58 rfl (by decide) ?_
      refine w_istore (q := 61) (ls' := [some (.ref 54), some (.int p0), some (.int p1), some (.int p2), some (.int 0), some (.int 0), none, none, none, none]) d_Model_season_59 rfl (by decide) rfl rfl ?_
      obtain ⟨x26, hx, h⟩ := bnd h
      refine w_ls (ls' := [some (.ref 54), none, some (.int p1), some (.int p2), some (.int 0), some (.int 0), none, none, none, none]) (And.intro rfl (And.intro rfl (And.intro rfl (And.intro rfl (And.intro rfl trivial))))) ?_
      show PL_Model_season_61 γ tt p0 p1 p2 g p1 p2 _ _ (0, 0, (mset v7 54 34 p0))
      refine lp_ok (kl_Model_season_61) F _ x26 hx ?_
      unfold QL_Model_season_61
      refine w_iload_n (q := 201) d_Model_season_200 rfl rfl ?_
      by_cases c27 : p2 = 0
      · rw [if_pos c27] at h
        refine w_if_ne_f (q := 204) d_Model_season_201 214 rfl rfl c27 ?_
        refine w_aload_n (q := 205) d_Model_season_204 rfl rfl ?_
        obtain ⟨v28, hv, h⟩ := bnd h
        refine w_callVi (q := 208) (M' := M_Model_records) (n' := 2) (k := 54) (As := []) (sh' := SH) (b1 := (0, 0)) d_Model_season_205 rfl mw_Model_records (by decide) (by decide) ml_Model_329 (by decide) s_54 (by decide) rfl rfl rfl (leb rfl) (bz _) (fun _ => rfl) (ok_Model_records hv) ?_
        obtain ⟨v29, hv, h⟩ := bnd h
        refine w_callSi (q := 211) (M' := M_Model_bitsOf) (n' := 0) (As := [.int v28]) (sh' := SH) (b1 := (0, 0)) d_Model_season_208 rfl mw_Model_bitsOf (by decide) (by decide) ml_Model_332 rfl rfl (leb rfl) (bz _) (fun _ => rfl) (ok_Model_bitsOf hv) ?_
        refine w_goto (q := 229) d_Model_season_211 rfl ?_
        refine w_ls (ls' := [some (.ref 54), none, none, none, none, none, none, none, none, none]) (And.intro rfl trivial) ?_
        exact ok_Model_season_j229 h
      · rw [if_neg c27] at h
        refine w_if_ne_t (q := 214) d_Model_season_201 rfl c27 ?_
        refine w_iload_n (q := 215) d_Model_season_214 rfl rfl ?_
        refine w_iconst (q := 216) (v := 1) d_Model_season_215 rfl (by decide) ?_
        by_cases c31 : p2 = 1
        · rw [if_pos c31] at h
          refine w_icmp_ne_f (q := 219) d_Model_season_216 227 rfl rfl c31 ?_
          refine w_aload_n (q := 220) d_Model_season_219 rfl rfl ?_
          refine w_iconst (q := 221) (v := (-1)) d_Model_season_220 rfl (by decide) ?_
          obtain ⟨v32, hv, h⟩ := bnd h
          refine w_callVi (q := 224) (M' := M_Model_owedNow) (n' := 2) (k := 54) (As := [.int ((-1))]) (sh' := SH) (b1 := (0, 0)) d_Model_season_221 rfl mw_Model_owedNow (by decide) (by decide) ml_Model_403 (by decide) s_54 (by decide) rfl rfl rfl (leb rfl) (bz _) (fun _ => rfl) (ok_Model_owedNow hv) ?_
          refine w_goto (q := 229) d_Model_season_224 rfl ?_
          refine w_ls (ls' := [some (.ref 54), none, none, none, none, none, none, none, none, none]) (And.intro rfl trivial) ?_
          exact ok_Model_season_j229 h
        · rw [if_neg c31] at h
          refine w_icmp_ne_t (q := 227) d_Model_season_216 rfl c31 ?_
          refine w_iload (q := 229) d_Model_season_227 rfl rfl ?_
          refine w_ls (ls' := [some (.ref 54), none, none, none, none, none, none, none, none, none]) (And.intro rfl trivial) ?_
          exact ok_Model_season_j229 h
def PL_Model_be_2 (γ : GG) (sh : List Sh) (tt : Bool) (q0 : Nat) (q0n : Nat) (q1 : Nat) (q1n : Nat) (g : Mem) (b : Nat × Nat) (Φ : PO) (s : Int32 × Mem) : Prop := WA γ M_Model_be 0 2 [some (.ref q0), some (.ref q1), some (.int s.1)] [] sh s.2 tt b Φ
def QL_Model_be_2 (γ : GG) (sh : List Sh) (tt : Bool) (q0 : Nat) (q0n : Nat) (q1 : Nat) (q1n : Nat) (g : Mem) (b : Nat × Nat) (Φ : PO) (x : (Mem)) : Prop := WA γ M_Model_be 0 20 [none, none, none] [] sh x tt b Φ
def st_Model_be_2 (F : Nat) (q0 : Nat) (q0n : Nat) (q1 : Nat) (q1n : Nat) (g : Mem) (s : Int32 × Mem) : Option ((Int32 × Mem) ⊕ ((Mem))) := if (Int32.ofNat q0n) ≤ s.1 then some (.inr s.2) else (rd s.2 q1 q1n s.1).bind fun v2 => (wr s.2 q0 q0n s.1 v2).bind fun g3 => some (.inl (s.1 + 1, g3))
theorem kl_Model_be_2 {γ : GG} {sh : List Sh} {tt : Bool} {F : Nat} {q0 : Nat} {q0n : Nat} {q1 : Nat} {q1n : Nat} {g : Mem} {b : Nat × Nat} {Φ : PO} (hq0 : isA sh q0 q0n) (hq1 : isA sh q1 q1n) : ∀ (s : Int32 × Mem) (r : (Int32 × Mem) ⊕ ((Mem))), st_Model_be_2 F q0 q0n q1 q1n g s = some r → RQ (PL_Model_be_2 γ sh tt q0 q0n q1 q1n g b Φ) (QL_Model_be_2 γ sh tt q0 q0n q1 q1n g b Φ) r → PL_Model_be_2 γ sh tt q0 q0n q1 q1n g b Φ s := by
  intro s r h hr
  unfold st_Model_be_2 at h
  unfold PL_Model_be_2
  refine w_iload_n (q := 3) d_Model_be_2 rfl rfl ?_
  refine w_aload_n (q := 4) d_Model_be_3 rfl rfl ?_
  refine w_alen (q := 5) d_Model_be_4 rfl hq0.2 hq0.1 (Or.inl ⟨rfl, Or.inl rfl⟩) rfl ?_
  by_cases c1 : (Int32.ofNat q0n) ≤ s.1
  · rw [if_pos c1] at h
    refine w_icmp_ge_t (q := 20) d_Model_be_5 rfl c1 ?_
    cases h
    exact w_ls (by exact trivial) hr
  · rw [if_neg c1] at h
    refine w_icmp_ge_f (q := 8) d_Model_be_5 20 rfl rfl c1 ?_
    refine w_aload_n (q := 9) d_Model_be_8 rfl rfl ?_
    refine w_iload_n (q := 10) d_Model_be_9 rfl rfl ?_
    refine w_aload_n (q := 11) d_Model_be_10 rfl rfl ?_
    refine w_iload_n (q := 12) d_Model_be_11 rfl rfl ?_
    obtain ⟨v2, hv, h⟩ := bnd h
    obtain ⟨hi, hv⟩ := rd_ok hv
    refine w_iald (q := 13) (t := 0) d_Model_be_12 rfl hq1.2 hq1.1 hi rfl ?_
    rw [hv]
    obtain ⟨g3, hv, h⟩ := bnd h
    obtain ⟨hi, hv⟩ := wr_ok hv
    refine w_iast (q := 14) d_Model_be_13 rfl hq0.2 hq0.1 hi hv ?_
    refine w_iinc (q := 17) (ls' := [some (.ref q0), some (.ref q1), some (.int (s.1 + 1))]) d_Model_be_14 rfl (by decide) rfl rfl rfl ?_
    refine w_goto (q := 2) d_Model_be_17 rfl ?_
    cases h
    exact w_ls (by exact (And.intro rfl (And.intro rfl (And.intro rfl trivial)))) hr
def sp_Model_be (F : Nat) (q0 : Nat) (q0n : Nat) (q1 : Nat) (q1n : Nat) (g : Mem) : Option (Mem) := (lpO (st_Model_be_2 F q0 q0n q1 q1n g) F (0, g)).bind fun x4 => some x4
theorem ok_Model_be {γ : GG} {sh : List Sh} {tt : Bool} {F : Nat} {q0 : Nat} {q0n : Nat} {q1 : Nat} {q1n : Nat} {g : Mem} (hq0 : isA sh q0 q0n) (hq1 : isA sh q1 q1n) {res : Mem} (h : sp_Model_be F q0 q0n q1 q1n g = some res) : CA γ M_Model_be 0 [.ref q0, .ref q1] sh g tt (0, 0) (pV sh res tt) := by
  refine CA.of mw_Model_be.1 1 rfl ?_
  show WA γ M_Model_be 0 0 [some (.ref q0), some (.ref q1), none] [] sh g tt (0, 0) (pV sh res tt)
  unfold sp_Model_be at h
  refine w_iconst (q := 1) (v := 0) d_Model_be_0 rfl (by decide) ?_
  refine w_istore_n (q := 2) (ls' := [some (.ref q0), some (.ref q1), some (.int 0)]) d_Model_be_1 rfl (by decide) rfl rfl ?_
  obtain ⟨x4, hx, h⟩ := bnd h
  refine w_ls (ls' := [some (.ref q0), some (.ref q1), some (.int 0)]) (And.intro rfl (And.intro rfl (And.intro rfl trivial))) ?_
  show PL_Model_be_2 γ sh tt q0 q0n q1 q1n g _ _ (0, g)
  refine lp_ok (kl_Model_be_2 hq0 hq1) F _ x4 hx ?_
  unfold QL_Model_be_2
  cases h
  exact w_return d_Model_be_20 rfl ⟨rfl, rfl, rfl, rfl⟩
def sp_Model_image (F : Nat) (g : Mem) : Option (Mem) := (sp_Model_pack F 73 231 0 (mset (mset (mset (mset g 54 3 0) 54 35 1) 54 36 ((mset (mset g 54 3 0) 54 35 1) 54 27)) 54 37 ((mset (mset (mset g 54 3 0) 54 35 1) 54 36 ((mset (mset g 54 3 0) 54 35 1) 54 27)) 54 28))).bind fun v1 => (sp_Model_be F 74 9240 67 9240 v1).bind fun v2 => (sp_Model_be F 75 8 71 8 v2).bind fun v3 => (sp_Model_be F 76 8 72 8 v3).bind fun v4 => (sp_Model_be F 77 3 64 3 v4).bind fun v5 => some v5
theorem ok_Model_image {γ : GG} {tt : Bool} {F : Nat} {g : Mem} {res : Mem} (h : sp_Model_image F g = some res) : CA γ M_Model_image 1 [.ref 54] SH g tt (0, 0) (pV SH res tt) := by
  refine CA.of mw_Model_image.1 0 rfl ?_
  show WA γ M_Model_image 1 0 [some (.ref 54)] [] SH g tt (0, 0) (pV SH res tt)
  unfold sp_Model_image at h
  refine w_aload_n (q := 1) d_Model_image_0 rfl rfl ?_
  refine w_iconst (q := 2) (v := 0) d_Model_image_1 rfl (by decide) ?_
  refine w_put (q := 5) (ci := 12) (j := 3) d_Model_image_2 rfl (by decide) fl_Model_114 (by decide) (by decide) s_54 rfl rfl rfl rfl rfl rfl ?_
  refine w_aload_n (q := 6) d_Model_image_5 rfl rfl ?_
  refine w_iconst (q := 7) (v := 1) d_Model_image_6 rfl (by decide) ?_
  refine w_put (q := 10) (ci := 12) (j := 35) d_Model_image_7 rfl (by decide) fl_Model_301 (by decide) (by decide) s_54 rfl rfl rfl rfl rfl rfl ?_
  refine w_aload_n (q := 11) d_Model_image_10 rfl rfl ?_
  refine w_aload_n (q := 12) d_Model_image_11 rfl rfl ?_
  refine w_get (q := 15) (ci := 12) (j := 27) d_Model_image_12 rfl (by decide) fl_Model_295 (by decide) (by decide) s_54 rfl rfl ?_
  refine w_put (q := 18) (ci := 12) (j := 36) d_Model_image_15 rfl (by decide) fl_Model_449 (by decide) (by decide) s_54 rfl rfl rfl rfl rfl rfl ?_
  refine w_aload_n (q := 19) d_Model_image_18 rfl rfl ?_
  refine w_aload_n (q := 20) d_Model_image_19 rfl rfl ?_
  refine w_get (q := 23) (ci := 12) (j := 28) d_Model_image_20 rfl (by decide) fl_Model_298 (by decide) (by decide) s_54 rfl rfl ?_
  refine w_put (q := 26) (ci := 12) (j := 37) d_Model_image_23 rfl (by decide) fl_Model_452 (by decide) (by decide) s_54 rfl rfl rfl rfl rfl rfl ?_
  refine w_aload_n (q := 27) d_Model_image_26 rfl rfl ?_
  refine w_aload_n (q := 28) d_Model_image_27 rfl rfl ?_
  refine w_get (q := 31) (ci := 12) (j := 38) d_Model_image_28 rfl (by decide) fl_Model_99 (by decide) (by decide) s_54 rfl rfl ?_
  refine w_iconst (q := 32) (v := 0) d_Model_image_31 rfl (by decide) ?_
  obtain ⟨v1, hv, h⟩ := bnd h
  refine w_callVv (q := 35) (M' := M_Model_pack) (n' := 0) (k := 54) (As := [.ref 73, .int 0]) (sh' := SH) (b1 := (0, 0)) d_Model_image_32 rfl mw_Model_pack (by decide) (by decide) ml_Model_359 (by decide) s_54 (by decide) rfl rfl rfl (leb rfl) (bz _) (fun _ => rfl) (ok_Model_pack a_73 hv) ?_
  refine w_aload_n (q := 36) d_Model_image_35 rfl rfl ?_
  refine w_get (q := 39) (ci := 12) (j := 39) d_Model_image_36 rfl (by decide) fl_Model_102 (by decide) (by decide) s_54 rfl rfl ?_
  refine w_aload_n (q := 40) d_Model_image_39 rfl rfl ?_
  refine w_get (q := 43) (ci := 12) (j := 23) d_Model_image_40 rfl (by decide) fl_Model_81 (by decide) (by decide) s_54 rfl rfl ?_
  obtain ⟨v2, hv, h⟩ := bnd h
  refine w_callSv (q := 46) (M' := M_Model_be) (n' := 0) (As := [.ref 74, .ref 67]) (sh' := SH) (b1 := (0, 0)) d_Model_image_43 rfl mw_Model_be (by decide) (by decide) ml_Model_455 rfl rfl (leb rfl) (bz _) (fun _ => rfl) (ok_Model_be a_74 a_67 hv) ?_
  refine w_aload_n (q := 47) d_Model_image_46 rfl rfl ?_
  refine w_get (q := 50) (ci := 12) (j := 40) d_Model_image_47 rfl (by decide) fl_Model_105 (by decide) (by decide) s_54 rfl rfl ?_
  refine w_aload_n (q := 51) d_Model_image_50 rfl rfl ?_
  refine w_get (q := 54) (ci := 12) (j := 32) d_Model_image_51 rfl (by decide) fl_Model_93 (by decide) (by decide) s_54 rfl rfl ?_
  obtain ⟨v3, hv, h⟩ := bnd h
  refine w_callSv (q := 57) (M' := M_Model_be) (n' := 0) (As := [.ref 75, .ref 71]) (sh' := SH) (b1 := (0, 0)) d_Model_image_54 rfl mw_Model_be (by decide) (by decide) ml_Model_455 rfl rfl (leb rfl) (bz _) (fun _ => rfl) (ok_Model_be a_75 a_71 hv) ?_
  refine w_aload_n (q := 58) d_Model_image_57 rfl rfl ?_
  refine w_get (q := 61) (ci := 12) (j := 41) d_Model_image_58 rfl (by decide) fl_Model_108 (by decide) (by decide) s_54 rfl rfl ?_
  refine w_aload_n (q := 62) d_Model_image_61 rfl rfl ?_
  refine w_get (q := 65) (ci := 12) (j := 33) d_Model_image_62 rfl (by decide) fl_Model_96 (by decide) (by decide) s_54 rfl rfl ?_
  obtain ⟨v4, hv, h⟩ := bnd h
  refine w_callSv (q := 68) (M' := M_Model_be) (n' := 0) (As := [.ref 76, .ref 72]) (sh' := SH) (b1 := (0, 0)) d_Model_image_65 rfl mw_Model_be (by decide) (by decide) ml_Model_455 rfl rfl (leb rfl) (bz _) (fun _ => rfl) (ok_Model_be a_76 a_72 hv) ?_
  refine w_aload_n (q := 69) d_Model_image_68 rfl rfl ?_
  refine w_get (q := 72) (ci := 12) (j := 42) d_Model_image_69 rfl (by decide) fl_Model_111 (by decide) (by decide) s_54 rfl rfl ?_
  refine w_aload_n (q := 73) d_Model_image_72 rfl rfl ?_
  refine w_get (q := 76) (ci := 12) (j := 10) d_Model_image_73 rfl (by decide) fl_Model_68 (by decide) (by decide) s_54 rfl rfl ?_
  obtain ⟨v5, hv, h⟩ := bnd h
  refine w_callSv (q := 79) (M' := M_Model_be) (n' := 0) (As := [.ref 77, .ref 64]) (sh' := SH) (b1 := (0, 0)) d_Model_image_76 rfl mw_Model_be (by decide) (by decide) ml_Model_455 rfl rfl (leb rfl) (bz _) (fun _ => rfl) (ok_Model_be a_77 a_64 hv) ?_
  cases h
  exact w_return d_Model_image_79 rfl ⟨rfl, rfl, rfl, rfl⟩
def sp_Model_restore (F : Nat) (g : Mem) : Option (Int32 × Mem) := if ((mset g 54 3 0) 54 35) = 0 then some (0, (mset g 54 3 0)) else (sp_Model_unpack F 73 231 0 (mset (mset (mset g 54 3 0) 54 27 ((mset g 54 3 0) 54 36)) 54 28 ((mset (mset g 54 3 0) 54 27 ((mset g 54 3 0) 54 36)) 54 37))).bind fun v2 => (sp_Model_be F 67 9240 74 9240 v2).bind fun v3 => (sp_Model_be F 71 8 75 8 v3).bind fun v4 => (sp_Model_be F 72 8 76 8 v4).bind fun v5 => (sp_Model_be F 64 3 77 3 v5).bind fun v6 => some (1, v6)
theorem ok_Model_restore {γ : GG} {tt : Bool} {F : Nat} {g : Mem} {res : Int32 × Mem} (h : sp_Model_restore F g = some res) : CA γ M_Model_restore 1 [.ref 54] SH g tt (0, 0) (pI SH res.1 res.2 tt) := by
  refine CA.of mw_Model_restore.1 0 rfl ?_
  show WA γ M_Model_restore 1 0 [some (.ref 54)] [] SH g tt (0, 0) (pI SH res.1 res.2 tt)
  unfold sp_Model_restore at h
  refine w_aload_n (q := 1) d_Model_restore_0 rfl rfl ?_
  refine w_iconst (q := 2) (v := 0) d_Model_restore_1 rfl (by decide) ?_
  refine w_put (q := 5) (ci := 12) (j := 3) d_Model_restore_2 rfl (by decide) fl_Model_114 (by decide) (by decide) s_54 rfl rfl rfl rfl rfl rfl ?_
  refine w_aload_n (q := 6) d_Model_restore_5 rfl rfl ?_
  refine w_get (q := 9) (ci := 12) (j := 35) d_Model_restore_6 rfl (by decide) fl_Model_301 (by decide) (by decide) s_54 rfl rfl ?_
  by_cases c1 : ((mset g 54 3 0) 54 35) = 0
  · rw [if_pos c1] at h
    refine w_if_ne_f (q := 12) d_Model_restore_9 14 rfl rfl c1 ?_
    refine w_iconst (q := 13) (v := 0) d_Model_restore_12 rfl (by decide) ?_
    cases h
    exact w_ireturn d_Model_restore_13 rfl rfl ⟨rfl, rfl, rfl, rfl⟩
  · rw [if_neg c1] at h
    refine w_if_ne_t (q := 14) d_Model_restore_9 rfl c1 ?_
    refine w_aload_n (q := 15) d_Model_restore_14 rfl rfl ?_
    refine w_aload_n (q := 16) d_Model_restore_15 rfl rfl ?_
    refine w_get (q := 19) (ci := 12) (j := 36) d_Model_restore_16 rfl (by decide) fl_Model_449 (by decide) (by decide) s_54 rfl rfl ?_
    refine w_put (q := 22) (ci := 12) (j := 27) d_Model_restore_19 rfl (by decide) fl_Model_295 (by decide) (by decide) s_54 rfl rfl rfl rfl rfl rfl ?_
    refine w_aload_n (q := 23) d_Model_restore_22 rfl rfl ?_
    refine w_aload_n (q := 24) d_Model_restore_23 rfl rfl ?_
    refine w_get (q := 27) (ci := 12) (j := 37) d_Model_restore_24 rfl (by decide) fl_Model_452 (by decide) (by decide) s_54 rfl rfl ?_
    refine w_put (q := 30) (ci := 12) (j := 28) d_Model_restore_27 rfl (by decide) fl_Model_298 (by decide) (by decide) s_54 rfl rfl rfl rfl rfl rfl ?_
    refine w_aload_n (q := 31) d_Model_restore_30 rfl rfl ?_
    refine w_aload_n (q := 32) d_Model_restore_31 rfl rfl ?_
    refine w_get (q := 35) (ci := 12) (j := 38) d_Model_restore_32 rfl (by decide) fl_Model_99 (by decide) (by decide) s_54 rfl rfl ?_
    refine w_iconst (q := 36) (v := 0) d_Model_restore_35 rfl (by decide) ?_
    obtain ⟨v2, hv, h⟩ := bnd h
    refine w_callVv (q := 39) (M' := M_Model_unpack) (n' := 0) (k := 54) (As := [.ref 73, .int 0]) (sh' := SH) (b1 := (0, 0)) d_Model_restore_36 rfl mw_Model_unpack (by decide) (by decide) ml_Model_393 (by decide) s_54 (by decide) rfl rfl rfl (leb rfl) (bz _) (fun _ => rfl) (ok_Model_unpack a_73 hv) ?_
    refine w_aload_n (q := 40) d_Model_restore_39 rfl rfl ?_
    refine w_get (q := 43) (ci := 12) (j := 23) d_Model_restore_40 rfl (by decide) fl_Model_81 (by decide) (by decide) s_54 rfl rfl ?_
    refine w_aload_n (q := 44) d_Model_restore_43 rfl rfl ?_
    refine w_get (q := 47) (ci := 12) (j := 39) d_Model_restore_44 rfl (by decide) fl_Model_102 (by decide) (by decide) s_54 rfl rfl ?_
    obtain ⟨v3, hv, h⟩ := bnd h
    refine w_callSv (q := 50) (M' := M_Model_be) (n' := 0) (As := [.ref 67, .ref 74]) (sh' := SH) (b1 := (0, 0)) d_Model_restore_47 rfl mw_Model_be (by decide) (by decide) ml_Model_455 rfl rfl (leb rfl) (bz _) (fun _ => rfl) (ok_Model_be a_67 a_74 hv) ?_
    refine w_aload_n (q := 51) d_Model_restore_50 rfl rfl ?_
    refine w_get (q := 54) (ci := 12) (j := 32) d_Model_restore_51 rfl (by decide) fl_Model_93 (by decide) (by decide) s_54 rfl rfl ?_
    refine w_aload_n (q := 55) d_Model_restore_54 rfl rfl ?_
    refine w_get (q := 58) (ci := 12) (j := 40) d_Model_restore_55 rfl (by decide) fl_Model_105 (by decide) (by decide) s_54 rfl rfl ?_
    obtain ⟨v4, hv, h⟩ := bnd h
    refine w_callSv (q := 61) (M' := M_Model_be) (n' := 0) (As := [.ref 71, .ref 75]) (sh' := SH) (b1 := (0, 0)) d_Model_restore_58 rfl mw_Model_be (by decide) (by decide) ml_Model_455 rfl rfl (leb rfl) (bz _) (fun _ => rfl) (ok_Model_be a_71 a_75 hv) ?_
    refine w_aload_n (q := 62) d_Model_restore_61 rfl rfl ?_
    refine w_get (q := 65) (ci := 12) (j := 33) d_Model_restore_62 rfl (by decide) fl_Model_96 (by decide) (by decide) s_54 rfl rfl ?_
    refine w_aload_n (q := 66) d_Model_restore_65 rfl rfl ?_
    refine w_get (q := 69) (ci := 12) (j := 41) d_Model_restore_66 rfl (by decide) fl_Model_108 (by decide) (by decide) s_54 rfl rfl ?_
    obtain ⟨v5, hv, h⟩ := bnd h
    refine w_callSv (q := 72) (M' := M_Model_be) (n' := 0) (As := [.ref 72, .ref 76]) (sh' := SH) (b1 := (0, 0)) d_Model_restore_69 rfl mw_Model_be (by decide) (by decide) ml_Model_455 rfl rfl (leb rfl) (bz _) (fun _ => rfl) (ok_Model_be a_72 a_76 hv) ?_
    refine w_aload_n (q := 73) d_Model_restore_72 rfl rfl ?_
    refine w_get (q := 76) (ci := 12) (j := 10) d_Model_restore_73 rfl (by decide) fl_Model_68 (by decide) (by decide) s_54 rfl rfl ?_
    refine w_aload_n (q := 77) d_Model_restore_76 rfl rfl ?_
    refine w_get (q := 80) (ci := 12) (j := 42) d_Model_restore_77 rfl (by decide) fl_Model_111 (by decide) (by decide) s_54 rfl rfl ?_
    obtain ⟨v6, hv, h⟩ := bnd h
    refine w_callSv (q := 83) (M' := M_Model_be) (n' := 0) (As := [.ref 64, .ref 77]) (sh' := SH) (b1 := (0, 0)) d_Model_restore_80 rfl mw_Model_be (by decide) (by decide) ml_Model_455 rfl rfl (leb rfl) (bz _) (fun _ => rfl) (ok_Model_be a_64 a_77 hv) ?_
    refine w_iconst (q := 84) (v := 1) d_Model_restore_83 rfl (by decide) ?_
    cases h
    exact w_ireturn d_Model_restore_84 rfl rfl ⟨rfl, rfl, rfl, rfl⟩
