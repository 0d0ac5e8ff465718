/-! functions and theorems of 27.hall (by program: wip/gen/main.py) -/
def PL_Hall_putBytes_3 (γ : GG) (tt : Bool) (p0 : Int32) (g : Mem) (k1 : Int32) (b : Nat × Nat) (Φ : PO) (s : Int32 × Mem) : Prop := WA γ M_Hall_putBytes 0 3 [some (.ref 0), some (.int k1), some (.int s.1)] [] SH s.2 tt b Φ
def QL_Hall_putBytes_3 (γ : GG) (tt : Bool) (p0 : Int32) (g : Mem) (k1 : Int32) (b : Nat × Nat) (Φ : PO) (x : (Mem)) : Prop := WA γ M_Hall_putBytes 0 46 [none, none, none] [] SH x tt b Φ
def st_Hall_putBytes_3 (F : Nat) (p0 : Int32) (g : Mem) (k1 : Int32) (s : Int32 × Mem) : Option ((Int32 × Mem) ⊕ ((Mem))) := if s.1 < 0 then some (.inr s.2) else if 700 ≤ (s.2 0 1) then some (.inl (s.1 + (-8), s.2)) else (wr s.2 1 700 (s.2 0 1) ((ush k1 s.1).toInt8.toInt32).toInt8.toInt32).bind fun g3 => some (.inl (s.1 + (-8), (mset g3 0 1 ((g3 0 1) + 1))))
theorem kl_Hall_putBytes_3 {γ : GG} {tt : Bool} {F : Nat} {p0 : Int32} {g : Mem} {k1 : Int32} {b : Nat × Nat} {Φ : PO} : ∀ (s : Int32 × Mem) (r : (Int32 × Mem) ⊕ ((Mem))), st_Hall_putBytes_3 F p0 g k1 s = some r → RQ (PL_Hall_putBytes_3 γ tt p0 g k1 b Φ) (QL_Hall_putBytes_3 γ tt p0 g k1 b Φ) r → PL_Hall_putBytes_3 γ tt p0 g k1 b Φ s := by
  intro s r h hr
  unfold st_Hall_putBytes_3 at h
  unfold PL_Hall_putBytes_3
  refine w_iload_n (q := 4) d_Hall_putBytes_3 rfl rfl ?_
  by_cases c1 : s.1 < 0
  · rw [if_pos c1] at h
    refine w_if_lt_t (q := 46) d_Hall_putBytes_4 rfl c1 ?_
    cases h
    exact w_ls (by exact trivial) hr
  · rw [if_neg c1] at h
    refine w_if_lt_f (q := 7) d_Hall_putBytes_4 46 rfl rfl c1 ?_
    refine w_aload_n (q := 8) d_Hall_putBytes_7 rfl rfl ?_
    refine w_get (q := 11) (ci := 11) (j := 1) d_Hall_putBytes_8 rfl (by decide) fl_Hall_103 (by decide) (by decide) s_0 rfl rfl ?_
    refine w_sipush (q := 14) (v := 700) d_Hall_putBytes_11 rfl (by decide) ?_
    by_cases c2 : 700 ≤ (s.2 0 1)
    · rw [if_pos c2] at h
      refine w_icmp_ge_t (q := 40) d_Hall_putBytes_14 rfl c2 ?_
      refine w_iinc (q := 43) (ls' := [some (.ref 0), some (.int k1), some (.int (s.1 + (-8)))]) d_Hall_putBytes_40 rfl (by decide) rfl rfl rfl ?_
      refine w_goto (q := 3) d_Hall_putBytes_43 rfl ?_
      cases h
      exact w_ls (by exact (And.intro rfl (And.intro rfl (And.intro rfl trivial)))) hr
    · rw [if_neg c2] at h
      refine w_icmp_ge_f (q := 17) d_Hall_putBytes_14 40 rfl rfl c2 ?_
      refine w_aload_n (q := 18) d_Hall_putBytes_17 rfl rfl ?_
      refine w_get (q := 21) (ci := 11) (j := 0) d_Hall_putBytes_18 rfl (by decide) fl_Hall_9 (by decide) (by decide) s_0 rfl rfl ?_
      refine w_aload_n (q := 22) d_Hall_putBytes_21 rfl rfl ?_
      refine w_get (q := 25) (ci := 11) (j := 1) d_Hall_putBytes_22 rfl (by decide) fl_Hall_103 (by decide) (by decide) s_0 rfl rfl ?_
      refine w_iload_n (q := 26) d_Hall_putBytes_25 rfl rfl ?_
      refine w_iload_n (q := 27) d_Hall_putBytes_26 rfl rfl ?_
      refine w_iushr (q := 28) d_Hall_putBytes_27 rfl ?_
      refine w_i2b (q := 29) d_Hall_putBytes_28 rfl ?_
      obtain ⟨g3, hv, h⟩ := bnd h
      obtain ⟨hi, hv⟩ := wr_ok hv
      refine w_bast (q := 30) d_Hall_putBytes_29 rfl a_1.2 a_1.1 hi hv ?_
      refine w_aload_n (q := 31) d_Hall_putBytes_30 rfl rfl ?_
      refine w_dup (q := 32) d_Hall_putBytes_31 rfl rfl ?_
      refine w_get (q := 35) (ci := 11) (j := 1) d_Hall_putBytes_32 rfl (by decide) fl_Hall_103 (by decide) (by decide) s_0 rfl rfl ?_
      refine w_iconst (q := 36) (v := 1) d_Hall_putBytes_35 rfl (by decide) ?_
      refine w_iadd (q := 37) d_Hall_putBytes_36 rfl ?_
      refine w_put (q := 40) (ci := 11) (j := 1) d_Hall_putBytes_37 rfl (by decide) fl_Hall_103 (by decide) (by decide) s_0 rfl rfl rfl rfl rfl rfl ?_
      refine w_iinc (q := 43) (ls' := [some (.ref 0), some (.int k1), some (.int (s.1 + (-8)))]) d_Hall_putBytes_40 rfl (by decide) rfl rfl rfl ?_
      refine w_goto (q := 3) d_Hall_putBytes_43 rfl ?_
      cases h
      exact w_ls (by exact (And.intro rfl (And.intro rfl (And.intro rfl trivial)))) hr
def sp_Hall_putBytes (F : Nat) (p0 : Int32) (g : Mem) : Option (Mem) := (lpO (st_Hall_putBytes_3 F p0 g p0) F (24, g)).bind fun x4 => some x4
theorem ok_Hall_putBytes {γ : GG} {tt : Bool} {F : Nat} {p0 : Int32} {g : Mem} {res : Mem} (h : sp_Hall_putBytes F p0 g = some res) : CA γ M_Hall_putBytes 0 [.ref 0, .int p0] SH g tt (0, 0) (pV SH res tt) := by
  refine CA.of mw_Hall_putBytes.1 1 rfl ?_
  show WA γ M_Hall_putBytes 0 0 [some (.ref 0), some (.int p0), none] [] SH g tt (0, 0) (pV SH res tt)
  unfold sp_Hall_putBytes at h
  refine w_bipush (q := 2) (v := 24) d_Hall_putBytes_0 rfl (by decide) ?_
  refine w_istore_n (q := 3) (ls' := [some (.ref 0), some (.int p0), some (.int 24)]) d_Hall_putBytes_2 rfl (by decide) rfl rfl ?_
  obtain ⟨x4, hx, h⟩ := bnd h
  refine w_ls (ls' := [some (.ref 0), some (.int p0), some (.int 24)]) (And.intro rfl (And.intro rfl (And.intro rfl trivial))) ?_
  show PL_Hall_putBytes_3 γ tt p0 g p0 _ _ (24, g)
  refine lp_ok (kl_Hall_putBytes_3) F _ x4 hx ?_
  unfold QL_Hall_putBytes_3
  cases h
  exact w_return d_Hall_putBytes_46 rfl ⟨rfl, rfl, rfl, rfl⟩
def sp_Hall_feed (F : Nat) (p0 : Int32) (p1 : Int32) (p2 : Int32) (p3 : Int32) (p4 : Int32) (g : Mem) : Option (Int32 × Mem) := if ((g 0 1) + 20) ≤ 700 then (sp_Hall_putBytes F p0 g).bind fun v2 => (sp_Hall_putBytes F p1 v2).bind fun v3 => (sp_Hall_putBytes F p2 v3).bind fun v4 => (sp_Hall_putBytes F p3 v4).bind fun v5 => (sp_Hall_putBytes F p4 v5).bind fun v6 => some (v6 0 1, v6) else some ((-1), g)
theorem ok_Hall_feed {γ : GG} {tt : Bool} {F : Nat} {p0 : Int32} {p1 : Int32} {p2 : Int32} {p3 : Int32} {p4 : Int32} {g : Mem} {res : Int32 × Mem} (h : sp_Hall_feed F p0 p1 p2 p3 p4 g = some res) : CA γ M_Hall_feed 1 [.ref 0, .int p0, .int p1, .int p2, .int p3, .int p4] SH g tt (0, 0) (pI SH res.1 res.2 tt) := by
  refine CA.of mw_Hall_feed.1 0 rfl ?_
  show WA γ M_Hall_feed 1 0 [some (.ref 0), some (.int p0), some (.int p1), some (.int p2), some (.int p3), some (.int p4)] [] SH g tt (0, 0) (pI SH res.1 res.2 tt)
  unfold sp_Hall_feed at h
  refine w_aload_n (q := 1) d_Hall_feed_0 rfl rfl ?_
  refine w_get (q := 4) (ci := 11) (j := 1) d_Hall_feed_1 rfl (by decide) fl_Hall_103 (by decide) (by decide) s_0 rfl rfl ?_
  refine w_bipush (q := 6) (v := 20) d_Hall_feed_4 rfl (by decide) ?_
  refine w_iadd (q := 7) d_Hall_feed_6 rfl ?_
  refine w_sipush (q := 10) (v := 700) d_Hall_feed_7 rfl (by decide) ?_
  by_cases c1 : ((g 0 1) + 20) ≤ 700
  · rw [if_pos c1] at h
    refine w_icmp_le_t (q := 15) d_Hall_feed_10 rfl c1 ?_
    refine w_aload_n (q := 16) d_Hall_feed_15 rfl rfl ?_
    refine w_iload_n (q := 17) d_Hall_feed_16 rfl rfl ?_
    obtain ⟨v2, hv, h⟩ := bnd h
    refine w_callVv (q := 20) (M' := M_Hall_putBytes) (n' := 0) (k := 0) (As := [.int p0]) (sh' := SH) (b1 := (0, 0)) d_Hall_feed_17 rfl mw_Hall_putBytes (by decide) (by decide) ml_Hall_106 (by decide) s_0 (by decide) rfl rfl rfl (leb rfl) (bz _) (fun _ => rfl) (ok_Hall_putBytes hv) ?_
    refine w_aload_n (q := 21) d_Hall_feed_20 rfl rfl ?_
    refine w_iload_n (q := 22) d_Hall_feed_21 rfl rfl ?_
    obtain ⟨v3, hv, h⟩ := bnd h
    refine w_callVv (q := 25) (M' := M_Hall_putBytes) (n' := 0) (k := 0) (As := [.int p1]) (sh' := SH) (b1 := (0, 0)) d_Hall_feed_22 rfl mw_Hall_putBytes (by decide) (by decide) ml_Hall_106 (by decide) s_0 (by decide) rfl rfl rfl (leb rfl) (bz _) (fun _ => rfl) (ok_Hall_putBytes hv) ?_
    refine w_aload_n (q := 26) d_Hall_feed_25 rfl rfl ?_
    refine w_iload_n (q := 27) d_Hall_feed_26 rfl rfl ?_
    obtain ⟨v4, hv, h⟩ := bnd h
    refine w_callVv (q := 30) (M' := M_Hall_putBytes) (n' := 0) (k := 0) (As := [.int p2]) (sh' := SH) (b1 := (0, 0)) d_Hall_feed_27 rfl mw_Hall_putBytes (by decide) (by decide) ml_Hall_106 (by decide) s_0 (by decide) rfl rfl rfl (leb rfl) (bz _) (fun _ => rfl) (ok_Hall_putBytes hv) ?_
    refine w_aload_n (q := 31) d_Hall_feed_30 rfl rfl ?_
    refine w_iload (q := 33) d_Hall_feed_31 rfl rfl ?_
    obtain ⟨v5, hv, h⟩ := bnd h
    refine w_callVv (q := 36) (M' := M_Hall_putBytes) (n' := 0) (k := 0) (As := [.int p3]) (sh' := SH) (b1 := (0, 0)) d_Hall_feed_33 rfl mw_Hall_putBytes (by decide) (by decide) ml_Hall_106 (by decide) s_0 (by decide) rfl rfl rfl (leb rfl) (bz _) (fun _ => rfl) (ok_Hall_putBytes hv) ?_
    refine w_aload_n (q := 37) d_Hall_feed_36 rfl rfl ?_
    refine w_iload (q := 39) d_Hall_feed_37 rfl rfl ?_
    obtain ⟨v6, hv, h⟩ := bnd h
    refine w_callVv (q := 42) (M' := M_Hall_putBytes) (n' := 0) (k := 0) (As := [.int p4]) (sh' := SH) (b1 := (0, 0)) d_Hall_feed_39 rfl mw_Hall_putBytes (by decide) (by decide) ml_Hall_106 (by decide) s_0 (by decide) rfl rfl rfl (leb rfl) (bz _) (fun _ => rfl) (ok_Hall_putBytes hv) ?_
    refine w_aload_n (q := 43) d_Hall_feed_42 rfl rfl ?_
    refine w_get (q := 46) (ci := 11) (j := 1) d_Hall_feed_43 rfl (by decide) fl_Hall_103 (by decide) (by decide) s_0 rfl rfl ?_
    cases h
    exact w_ireturn d_Hall_feed_46 rfl rfl ⟨rfl, rfl, rfl, rfl⟩
  · rw [if_neg c1] at h
    refine w_icmp_le_f (q := 13) d_Hall_feed_10 15 rfl rfl c1 ?_
    refine w_iconst (q := 14) (v := (-1)) d_Hall_feed_13 rfl (by decide) ?_
    cases h
    exact w_ireturn d_Hall_feed_14 rfl rfl ⟨rfl, rfl, rfl, rfl⟩
def sp_Hall_archive (F : Nat) (p0 : Int32) (g : Mem) : Option ((Int32 × Mem) ⊕ Nat) := if p0 < 0 then some (.inr 0) else if p0 ≤ (g 0 1) then (sp_Reader_read F p0 (mset g 0 1 0)).bind fun v3 => if (v3 3 9) = 0 then (sp_Roll_take 15 4 (mset v3 0 2 (-1))).bind fun v5 => (sp_Hair_take 23 15 12 4 v5).bind fun v6 => some (.inl (0, (mset (mset (mset v6 26 1 0) 28 2 0) 31 0 0))) else (rd (mset v3 0 2 (v3 3 10)) 2 3 0).bind fun v7 => (wr (mset v3 0 2 (v3 3 10)) 2 3 0 (v7 + 1)).bind fun g8 => some (.inl (g8 3 9, g8)) else some (.inr 0)
theorem ok_Hall_archive {γ : GG} {tt : Bool} {F : Nat} {p0 : Int32} {g : Mem} {res : (Int32 × Mem) ⊕ Nat} (h : sp_Hall_archive F p0 g = some res) : CA γ M_Hall_archive 122 [.ref 0, .int p0] SH g tt (bO res) (pEI SH g tt res) := by
  refine CA.of mw_Hall_archive.1 0 rfl ?_
  show WA γ M_Hall_archive 122 0 [some (.ref 0), some (.int p0)] [] SH g tt (bO res) (pEI SH g tt res)
  unfold sp_Hall_archive at h
  refine w_iload_n (q := 1) d_Hall_archive_0 rfl rfl ?_
  by_cases c1 : p0 < 0
  · rw [if_pos c1] at h
    refine w_if_lt_t (q := 12) d_Hall_archive_1 rfl c1 ?_
    cases h
    exact w_throw (j := 0) exB_iae exF.1 kl_Hall_110 wi_java_lang_IllegalArgumentException rfl exW_iae exG_iae d_Hall_archive_12 d_Hall_archive_15 d_Hall_archive_16 d_Hall_archive_18 d_Hall_archive_21 rfl (leb rfl) rfl ⟨rfl, rfl, rfl, rfl⟩
  · rw [if_neg c1] at h
    refine w_if_lt_f (q := 4) d_Hall_archive_1 12 rfl rfl c1 ?_
    refine w_iload_n (q := 5) d_Hall_archive_4 rfl rfl ?_
    refine w_aload_n (q := 6) d_Hall_archive_5 rfl rfl ?_
    refine w_get (q := 9) (ci := 11) (j := 1) d_Hall_archive_6 rfl (by decide) fl_Hall_103 (by decide) (by decide) s_0 rfl rfl ?_
    by_cases c2 : p0 ≤ (g 0 1)
    · rw [if_pos c2] at h
      refine w_icmp_le_t (q := 22) d_Hall_archive_9 rfl c2 ?_
      refine w_aload_n (q := 23) d_Hall_archive_22 rfl rfl ?_
      refine w_iconst (q := 24) (v := 0) d_Hall_archive_23 rfl (by decide) ?_
      refine w_put (q := 27) (ci := 11) (j := 1) d_Hall_archive_24 rfl (by decide) fl_Hall_103 (by decide) (by decide) s_0 rfl rfl rfl rfl rfl rfl ?_
      refine w_aload_n (q := 28) d_Hall_archive_27 rfl rfl ?_
      refine w_get (q := 31) (ci := 11) (j := 4) d_Hall_archive_28 rfl (by decide) fl_Hall_26 (by decide) (by decide) s_0 rfl rfl ?_
      refine w_iload_n (q := 32) d_Hall_archive_31 rfl rfl ?_
      obtain ⟨v3, hv, h⟩ := bnd h
      refine w_callVv (q := 35) (M' := M_Reader_read) (n' := 121) (k := 3) (As := [.int p0]) (sh' := SH) (b1 := (0, 0)) d_Hall_archive_32 rfl mw_Reader_read (by decide) (by decide) ml_Hall_117 (by decide) s_3 (by decide) rfl rfl rfl (leb rfl) (bz _) (fun _ => rfl) (ok_Reader_read hv) ?_
      refine w_aload_n (q := 36) d_Hall_archive_35 rfl rfl ?_
      refine w_get (q := 39) (ci := 11) (j := 4) d_Hall_archive_36 rfl (by decide) fl_Hall_26 (by decide) (by decide) s_0 rfl rfl ?_
      refine w_get (q := 42) (ci := 6) (j := 9) d_Hall_archive_39 rfl (by decide) fl_Hall_120 (by decide) (by decide) s_3 rfl rfl ?_
      by_cases c4 : (v3 3 9) = 0
      · rw [if_pos c4] at h
        refine w_if_eq_t (q := 74) d_Hall_archive_42 rfl c4 ?_
        refine w_aload_n (q := 75) d_Hall_archive_74 rfl rfl ?_
        refine w_iconst (q := 76) (v := (-1)) d_Hall_archive_75 rfl (by decide) ?_
        refine w_put (q := 79) (ci := 11) (j := 2) d_Hall_archive_76 rfl (by decide) fl_Hall_13 (by decide) (by decide) s_0 rfl rfl rfl rfl rfl rfl ?_
        refine w_aload_n (q := 80) d_Hall_archive_79 rfl rfl ?_
        refine w_get (q := 83) (ci := 11) (j := 5) d_Hall_archive_80 rfl (by decide) fl_Hall_33 (by decide) (by decide) s_0 rfl rfl ?_
        refine w_aload_n (q := 84) d_Hall_archive_83 rfl rfl ?_
        refine w_get (q := 87) (ci := 11) (j := 4) d_Hall_archive_84 rfl (by decide) fl_Hall_26 (by decide) (by decide) s_0 rfl rfl ?_
        refine w_get (q := 90) (ci := 6) (j := 0) d_Hall_archive_87 rfl (by decide) fl_Hall_126 (by decide) (by decide) s_3 rfl rfl ?_
        obtain ⟨v5, hv, h⟩ := bnd h
        refine w_callVv (q := 93) (M' := M_Roll_take) (n' := 1) (k := 15) (As := [.ref 4]) (sh' := SH) (b1 := (0, 0)) d_Hall_archive_90 rfl mw_Roll_take (by decide) (by decide) ml_Hall_127 i_15.2.1 i_15.1 (by decide) rfl rfl rfl (leb rfl) (bz _) (fun _ => rfl) (ok_Roll_take i_15 i_4 hv) ?_
        refine w_aload_n (q := 94) d_Hall_archive_93 rfl rfl ?_
        refine w_get (q := 97) (ci := 11) (j := 6) d_Hall_archive_94 rfl (by decide) fl_Hall_42 (by decide) (by decide) s_0 rfl rfl ?_
        refine w_aload_n (q := 98) d_Hall_archive_97 rfl rfl ?_
        refine w_get (q := 101) (ci := 11) (j := 4) d_Hall_archive_98 rfl (by decide) fl_Hall_26 (by decide) (by decide) s_0 rfl rfl ?_
        refine w_get (q := 104) (ci := 6) (j := 1) d_Hall_archive_101 rfl (by decide) fl_Hall_130 (by decide) (by decide) s_3 rfl rfl ?_
        obtain ⟨v6, hv, h⟩ := bnd h
        refine w_callVv (q := 107) (M' := M_Hair_take) (n' := 0) (k := 23) (As := [.ref 12]) (sh' := SH) (b1 := (0, 0)) d_Hall_archive_104 rfl mw_Hair_take (by decide) (by decide) ml_Hall_131 i_23.2.1 i_23.1 (by decide) rfl rfl rfl (leb rfl) (bz _) (fun _ => rfl) (ok_Hair_take i_23 i_12 hv) ?_
        refine w_aload_n (q := 108) d_Hall_archive_107 rfl rfl ?_
        refine w_get (q := 111) (ci := 11) (j := 7) d_Hall_archive_108 rfl (by decide) fl_Hall_49 (by decide) (by decide) s_0 rfl rfl ?_
        refine w_iconst (q := 112) (v := 0) d_Hall_archive_111 rfl (by decide) ?_
        refine w_put (q := 115) (ci := 0) (j := 1) d_Hall_archive_112 rfl (by decide) fl_Hall_133 (by decide) i_26.2.1 i_26.1 rfl rfl rfl rfl rfl rfl ?_
        refine w_aload_n (q := 116) d_Hall_archive_115 rfl rfl ?_
        refine w_get (q := 119) (ci := 11) (j := 8) d_Hall_archive_116 rfl (by decide) fl_Hall_56 (by decide) (by decide) s_0 rfl rfl ?_
        refine w_iconst (q := 120) (v := 0) d_Hall_archive_119 rfl (by decide) ?_
        refine w_put (q := 123) (ci := 10) (j := 2) d_Hall_archive_120 rfl (by decide) fl_Hall_136 (by decide) i_28.2.1 i_28.1 rfl rfl rfl rfl rfl rfl ?_
        refine w_aload_n (q := 124) d_Hall_archive_123 rfl rfl ?_
        refine w_get (q := 127) (ci := 11) (j := 9) d_Hall_archive_124 rfl (by decide) fl_Hall_63 (by decide) (by decide) s_0 rfl rfl ?_
        refine w_iconst (q := 128) (v := 0) d_Hall_archive_127 rfl (by decide) ?_
        refine w_put (q := 131) (ci := 3) (j := 0) d_Hall_archive_128 rfl (by decide) fl_Hall_137 (by decide) (by decide) s_31 rfl rfl rfl rfl rfl rfl ?_
        refine w_iconst (q := 132) (v := 0) d_Hall_archive_131 rfl (by decide) ?_
        cases h
        exact w_ireturn d_Hall_archive_132 rfl rfl ⟨rfl, rfl, rfl, rfl⟩
      · rw [if_neg c4] at h
        refine w_if_eq_f (q := 45) d_Hall_archive_42 74 rfl rfl c4 ?_
        refine w_aload_n (q := 46) d_Hall_archive_45 rfl rfl ?_
        refine w_aload_n (q := 47) d_Hall_archive_46 rfl rfl ?_
        refine w_get (q := 50) (ci := 11) (j := 4) d_Hall_archive_47 rfl (by decide) fl_Hall_26 (by decide) (by decide) s_0 rfl rfl ?_
        refine w_get (q := 53) (ci := 6) (j := 10) d_Hall_archive_50 rfl (by decide) fl_Hall_123 (by decide) (by decide) s_3 rfl rfl ?_
        refine w_put (q := 56) (ci := 11) (j := 2) d_Hall_archive_53 rfl (by decide) fl_Hall_13 (by decide) (by decide) s_0 rfl rfl rfl rfl rfl rfl ?_
        refine w_aload_n (q := 57) d_Hall_archive_56 rfl rfl ?_
        refine w_get (q := 60) (ci := 11) (j := 3) d_Hall_archive_57 rfl (by decide) fl_Hall_17 (by decide) (by decide) s_0 rfl rfl ?_
        refine w_iconst (q := 61) (v := 0) d_Hall_archive_60 rfl (by decide) ?_
        refine w_dup2 (q := 62) d_Hall_archive_61 rfl rfl rfl ?_
        obtain ⟨v7, hv, h⟩ := bnd h
        obtain ⟨hi, hv⟩ := rd_ok hv
        refine w_iald (q := 63) (t := 0) d_Hall_archive_62 rfl a_2.2 a_2.1 hi rfl ?_
        rw [hv]
        refine w_iconst (q := 64) (v := 1) d_Hall_archive_63 rfl (by decide) ?_
        refine w_iadd (q := 65) d_Hall_archive_64 rfl ?_
        obtain ⟨g8, hv, h⟩ := bnd h
        obtain ⟨hi, hv⟩ := wr_ok hv
        refine w_iast (q := 66) d_Hall_archive_65 rfl a_2.2 a_2.1 hi hv ?_
        refine w_aload_n (q := 67) d_Hall_archive_66 rfl rfl ?_
        refine w_get (q := 70) (ci := 11) (j := 4) d_Hall_archive_67 rfl (by decide) fl_Hall_26 (by decide) (by decide) s_0 rfl rfl ?_
        refine w_get (q := 73) (ci := 6) (j := 9) d_Hall_archive_70 rfl (by decide) fl_Hall_120 (by decide) (by decide) s_3 rfl rfl ?_
        cases h
        exact w_ireturn d_Hall_archive_73 rfl rfl ⟨rfl, rfl, rfl, rfl⟩
    · rw [if_neg c2] at h
      refine w_icmp_le_f (q := 12) d_Hall_archive_9 22 rfl rfl c2 ?_
      cases h
      exact w_throw (j := 0) exB_iae exF.1 kl_Hall_110 wi_java_lang_IllegalArgumentException rfl exW_iae exG_iae d_Hall_archive_12 d_Hall_archive_15 d_Hall_archive_16 d_Hall_archive_18 d_Hall_archive_21 rfl (leb rfl) rfl ⟨rfl, rfl, rfl, rfl⟩
def sp_Hall_fault (g : Mem) : Option (Int32) := some (g 0 2)
theorem ok_Hall_fault {γ : GG} {tt : Bool} {g : Mem} {res : Int32} (h : sp_Hall_fault g = some res) : CA γ M_Hall_fault 0 [.ref 0] SH g tt (0, 0) (pI SH res g tt) := by
  refine CA.of mw_Hall_fault.1 0 rfl ?_
  show WA γ M_Hall_fault 0 0 [some (.ref 0)] [] SH g tt (0, 0) (pI SH res g tt)
  unfold sp_Hall_fault at h
  refine w_aload_n (q := 1) d_Hall_fault_0 rfl rfl ?_
  refine w_get (q := 4) (ci := 11) (j := 2) d_Hall_fault_1 rfl (by decide) fl_Hall_13 (by decide) (by decide) s_0 rfl rfl ?_
  cases h
  exact w_ireturn d_Hall_fault_4 rfl rfl ⟨rfl, rfl, rfl, rfl⟩
def sp_Hall_count (F : Nat) (p0 : Int32) (g : Mem) : Option (Int32 ⊕ Nat) := if p0 = 0 then some (.inl (g 15 0)) else if p0 = 1 then some (.inl (g 23 4)) else if p0 = 2 then some (.inl (g 15 1)) else if p0 = 3 then some (.inl (g 15 2)) else if p0 = 4 then some (.inl (g 15 3)) else if p0 = 5 then some (.inl (g 23 3)) else if p0 = 6 then (sp_Hair_allThere 23 15 g).bind fun v8 => (sp_JInteger_bitCount v8 g).bind fun v9 => some (.inl v9) else if p0 = 7 then (sp_Hair_recordsThere F 23 15 g).bind fun v11 => (sp_JInteger_bitCount v11 g).bind fun v12 => some (.inl v12) else if p0 = 8 then (sp_Hair_deadOnes F 23 15 g).bind fun v14 => some (.inl v14) else if p0 = 9 then some (.inl (g 26 1)) else if p0 = 10 then some (.inl (g 28 2)) else if p0 = 11 then some (.inl (g 0 1)) else if p0 = 12 then (rd g 2 3 0).bind fun v19 => some (.inl v19) else if p0 = 13 then (rd g 2 3 1).bind fun v21 => some (.inl v21) else if p0 = 14 then (rd g 2 3 2).bind fun v23 => some (.inl v23) else some (.inr 1)
theorem ok_Hall_count {γ : GG} {tt : Bool} {F : Nat} {p0 : Int32} {g : Mem} {res : Int32 ⊕ Nat} (h : sp_Hall_count F p0 g = some res) : CA γ M_Hall_count 3 [.ref 0, .int p0] SH g tt (bO res) (pPI SH g tt res) := by
  refine CA.of mw_Hall_count.1 0 rfl ?_
  show WA γ M_Hall_count 3 0 [some (.ref 0), some (.int p0)] [] SH g tt (bO res) (pPI SH g tt res)
  unfold sp_Hall_count at h
  refine w_iload_n (q := 1) d_Hall_count_0 rfl rfl ?_
  by_cases c1 : p0 = 0
  · rw [if_pos c1] at h
    refine w_tabIn (q := 76) (off := 75) d_Hall_count_1 (by rw [c1]; decide) (by rw [c1]; decide) (by rw [c1]; decide +kernel) rfl ?_
    refine w_aload_n (q := 77) d_Hall_count_76 rfl rfl ?_
    refine w_get (q := 80) (ci := 11) (j := 5) d_Hall_count_77 rfl (by decide) fl_Hall_33 (by decide) (by decide) s_0 rfl rfl ?_
    refine w_get (q := 83) (ci := 7) (j := 0) d_Hall_count_80 rfl (by decide) fl_Hall_141 (by decide) i_15.2.1 i_15.1 rfl rfl ?_
    cases h
    exact w_ireturn d_Hall_count_83 rfl rfl ⟨rfl, rfl, rfl, rfl⟩
  rw [if_neg c1] at h
  by_cases c2 : p0 = 1
  · rw [if_pos c2] at h
    refine w_tabIn (q := 84) (off := 83) d_Hall_count_1 (by rw [c2]; decide) (by rw [c2]; decide) (by rw [c2]; decide +kernel) rfl ?_
    refine w_aload_n (q := 85) d_Hall_count_84 rfl rfl ?_
    refine w_get (q := 88) (ci := 11) (j := 6) d_Hall_count_85 rfl (by decide) fl_Hall_42 (by decide) (by decide) s_0 rfl rfl ?_
    refine w_get (q := 91) (ci := 2) (j := 4) d_Hall_count_88 rfl (by decide) fl_Hall_144 (by decide) i_23.2.1 i_23.1 rfl rfl ?_
    cases h
    exact w_ireturn d_Hall_count_91 rfl rfl ⟨rfl, rfl, rfl, rfl⟩
  rw [if_neg c2] at h
  by_cases c3 : p0 = 2
  · rw [if_pos c3] at h
    refine w_tabIn (q := 92) (off := 91) d_Hall_count_1 (by rw [c3]; decide) (by rw [c3]; decide) (by rw [c3]; decide +kernel) rfl ?_
    refine w_aload_n (q := 93) d_Hall_count_92 rfl rfl ?_
    refine w_get (q := 96) (ci := 11) (j := 5) d_Hall_count_93 rfl (by decide) fl_Hall_33 (by decide) (by decide) s_0 rfl rfl ?_
    refine w_get (q := 99) (ci := 7) (j := 1) d_Hall_count_96 rfl (by decide) fl_Hall_147 (by decide) i_15.2.1 i_15.1 rfl rfl ?_
    cases h
    exact w_ireturn d_Hall_count_99 rfl rfl ⟨rfl, rfl, rfl, rfl⟩
  rw [if_neg c3] at h
  by_cases c4 : p0 = 3
  · rw [if_pos c4] at h
    refine w_tabIn (q := 100) (off := 99) d_Hall_count_1 (by rw [c4]; decide) (by rw [c4]; decide) (by rw [c4]; decide +kernel) rfl ?_
    refine w_aload_n (q := 101) d_Hall_count_100 rfl rfl ?_
    refine w_get (q := 104) (ci := 11) (j := 5) d_Hall_count_101 rfl (by decide) fl_Hall_33 (by decide) (by decide) s_0 rfl rfl ?_
    refine w_get (q := 107) (ci := 7) (j := 2) d_Hall_count_104 rfl (by decide) fl_Hall_150 (by decide) i_15.2.1 i_15.1 rfl rfl ?_
    cases h
    exact w_ireturn d_Hall_count_107 rfl rfl ⟨rfl, rfl, rfl, rfl⟩
  rw [if_neg c4] at h
  by_cases c5 : p0 = 4
  · rw [if_pos c5] at h
    refine w_tabIn (q := 108) (off := 107) d_Hall_count_1 (by rw [c5]; decide) (by rw [c5]; decide) (by rw [c5]; decide +kernel) rfl ?_
    refine w_aload_n (q := 109) d_Hall_count_108 rfl rfl ?_
    refine w_get (q := 112) (ci := 11) (j := 5) d_Hall_count_109 rfl (by decide) fl_Hall_33 (by decide) (by decide) s_0 rfl rfl ?_
    refine w_get (q := 115) (ci := 7) (j := 3) d_Hall_count_112 rfl (by decide) fl_Hall_153 (by decide) i_15.2.1 i_15.1 rfl rfl ?_
    cases h
    exact w_ireturn d_Hall_count_115 rfl rfl ⟨rfl, rfl, rfl, rfl⟩
  rw [if_neg c5] at h
  by_cases c6 : p0 = 5
  · rw [if_pos c6] at h
    refine w_tabIn (q := 116) (off := 115) d_Hall_count_1 (by rw [c6]; decide) (by rw [c6]; decide) (by rw [c6]; decide +kernel) rfl ?_
    refine w_aload_n (q := 117) d_Hall_count_116 rfl rfl ?_
    refine w_get (q := 120) (ci := 11) (j := 6) d_Hall_count_117 rfl (by decide) fl_Hall_42 (by decide) (by decide) s_0 rfl rfl ?_
    refine w_get (q := 123) (ci := 2) (j := 3) d_Hall_count_120 rfl (by decide) fl_Hall_156 (by decide) i_23.2.1 i_23.1 rfl rfl ?_
    cases h
    exact w_ireturn d_Hall_count_123 rfl rfl ⟨rfl, rfl, rfl, rfl⟩
  rw [if_neg c6] at h
  by_cases c7 : p0 = 6
  · rw [if_pos c7] at h
    refine w_tabIn (q := 124) (off := 123) d_Hall_count_1 (by rw [c7]; decide) (by rw [c7]; decide) (by rw [c7]; decide +kernel) rfl ?_
    refine w_aload_n (q := 125) d_Hall_count_124 rfl rfl ?_
    refine w_get (q := 128) (ci := 11) (j := 6) d_Hall_count_125 rfl (by decide) fl_Hall_42 (by decide) (by decide) s_0 rfl rfl ?_
    obtain ⟨v8, hv, h⟩ := bnd h
    refine w_callVi (q := 131) (M' := M_Hair_allThere) (n' := 0) (k := 23) (As := []) (sh' := SH) (b1 := (0, 0)) d_Hall_count_128 rfl mw_Hair_allThere (by decide) (by decide) ml_Hall_159 i_23.2.1 i_23.1 (by decide) rfl rfl rfl (leb rfl) (bz _) (fun _ => rfl) (ok_Hair_allThere i_23 hv) ?_
    obtain ⟨v9, hv, h⟩ := bnd h
    refine w_callSi (q := 134) (M' := M_JInteger_bitCount) (n' := 0) (As := [.int v8]) (sh' := SH) (b1 := (0, 0)) d_Hall_count_131 rfl mw_JInteger_bitCount (by decide) (by decide) ml_Hall_163 rfl rfl (leb rfl) (bz _) (fun _ => rfl) (ok_JInteger_bitCount hv) ?_
    cases h
    exact w_ireturn d_Hall_count_134 rfl rfl ⟨rfl, rfl, rfl, rfl⟩
  rw [if_neg c7] at h
  by_cases c10 : p0 = 7
  · rw [if_pos c10] at h
    refine w_tabIn (q := 135) (off := 134) d_Hall_count_1 (by rw [c10]; decide) (by rw [c10]; decide) (by rw [c10]; decide +kernel) rfl ?_
    refine w_aload_n (q := 136) d_Hall_count_135 rfl rfl ?_
    refine w_get (q := 139) (ci := 11) (j := 6) d_Hall_count_136 rfl (by decide) fl_Hall_42 (by decide) (by decide) s_0 rfl rfl ?_
    obtain ⟨v11, hv, h⟩ := bnd h
    refine w_callVi (q := 142) (M' := M_Hair_recordsThere) (n' := 2) (k := 23) (As := []) (sh' := SH) (b1 := (0, 0)) d_Hall_count_139 rfl mw_Hair_recordsThere (by decide) (by decide) ml_Hall_169 i_23.2.1 i_23.1 (by decide) rfl rfl rfl (leb rfl) (bz _) (fun _ => rfl) (ok_Hair_recordsThere i_23 hv) ?_
    obtain ⟨v12, hv, h⟩ := bnd h
    refine w_callSi (q := 145) (M' := M_JInteger_bitCount) (n' := 0) (As := [.int v11]) (sh' := SH) (b1 := (0, 0)) d_Hall_count_142 rfl mw_JInteger_bitCount (by decide) (by decide) ml_Hall_163 rfl rfl (leb rfl) (bz _) (fun _ => rfl) (ok_JInteger_bitCount hv) ?_
    cases h
    exact w_ireturn d_Hall_count_145 rfl rfl ⟨rfl, rfl, rfl, rfl⟩
  rw [if_neg c10] at h
  by_cases c13 : p0 = 8
  · rw [if_pos c13] at h
    refine w_tabIn (q := 146) (off := 145) d_Hall_count_1 (by rw [c13]; decide) (by rw [c13]; decide) (by rw [c13]; decide +kernel) rfl ?_
    refine w_aload_n (q := 147) d_Hall_count_146 rfl rfl ?_
    refine w_get (q := 150) (ci := 11) (j := 6) d_Hall_count_147 rfl (by decide) fl_Hall_42 (by decide) (by decide) s_0 rfl rfl ?_
    obtain ⟨v14, hv, h⟩ := bnd h
    refine w_callVi (q := 153) (M' := M_Hair_deadOnes) (n' := 1) (k := 23) (As := []) (sh' := SH) (b1 := (0, 0)) d_Hall_count_150 rfl mw_Hair_deadOnes (by decide) (by decide) ml_Hall_172 i_23.2.1 i_23.1 (by decide) rfl rfl rfl (leb rfl) (bz _) (fun _ => rfl) (ok_Hair_deadOnes i_23 hv) ?_
    cases h
    exact w_ireturn d_Hall_count_153 rfl rfl ⟨rfl, rfl, rfl, rfl⟩
  rw [if_neg c13] at h
  by_cases c15 : p0 = 9
  · rw [if_pos c15] at h
    refine w_tabIn (q := 154) (off := 153) d_Hall_count_1 (by rw [c15]; decide) (by rw [c15]; decide) (by rw [c15]; decide +kernel) rfl ?_
    refine w_aload_n (q := 155) d_Hall_count_154 rfl rfl ?_
    refine w_get (q := 158) (ci := 11) (j := 7) d_Hall_count_155 rfl (by decide) fl_Hall_49 (by decide) (by decide) s_0 rfl rfl ?_
    refine w_get (q := 161) (ci := 0) (j := 1) d_Hall_count_158 rfl (by decide) fl_Hall_133 (by decide) i_26.2.1 i_26.1 rfl rfl ?_
    cases h
    exact w_ireturn d_Hall_count_161 rfl rfl ⟨rfl, rfl, rfl, rfl⟩
  rw [if_neg c15] at h
  by_cases c16 : p0 = 10
  · rw [if_pos c16] at h
    refine w_tabIn (q := 162) (off := 161) d_Hall_count_1 (by rw [c16]; decide) (by rw [c16]; decide) (by rw [c16]; decide +kernel) rfl ?_
    refine w_aload_n (q := 163) d_Hall_count_162 rfl rfl ?_
    refine w_get (q := 166) (ci := 11) (j := 8) d_Hall_count_163 rfl (by decide) fl_Hall_56 (by decide) (by decide) s_0 rfl rfl ?_
    refine w_get (q := 169) (ci := 10) (j := 2) d_Hall_count_166 rfl (by decide) fl_Hall_136 (by decide) i_28.2.1 i_28.1 rfl rfl ?_
    cases h
    exact w_ireturn d_Hall_count_169 rfl rfl ⟨rfl, rfl, rfl, rfl⟩
  rw [if_neg c16] at h
  by_cases c17 : p0 = 11
  · rw [if_pos c17] at h
    refine w_tabIn (q := 170) (off := 169) d_Hall_count_1 (by rw [c17]; decide) (by rw [c17]; decide) (by rw [c17]; decide +kernel) rfl ?_
    refine w_aload_n (q := 171) d_Hall_count_170 rfl rfl ?_
    refine w_get (q := 174) (ci := 11) (j := 1) d_Hall_count_171 rfl (by decide) fl_Hall_103 (by decide) (by decide) s_0 rfl rfl ?_
    cases h
    exact w_ireturn d_Hall_count_174 rfl rfl ⟨rfl, rfl, rfl, rfl⟩
  rw [if_neg c17] at h
  by_cases c18 : p0 = 12
  · rw [if_pos c18] at h
    refine w_tabIn (q := 175) (off := 174) d_Hall_count_1 (by rw [c18]; decide) (by rw [c18]; decide) (by rw [c18]; decide +kernel) rfl ?_
    refine w_aload_n (q := 176) d_Hall_count_175 rfl rfl ?_
    refine w_get (q := 179) (ci := 11) (j := 3) d_Hall_count_176 rfl (by decide) fl_Hall_17 (by decide) (by decide) s_0 rfl rfl ?_
    refine w_iconst (q := 180) (v := 0) d_Hall_count_179 rfl (by decide) ?_
    obtain ⟨v19, hv, h⟩ := bnd h
    obtain ⟨hi, hv⟩ := rd_ok hv
    refine w_iald (q := 181) (t := 0) d_Hall_count_180 rfl a_2.2 a_2.1 hi rfl ?_
    rw [hv]
    cases h
    exact w_ireturn d_Hall_count_181 rfl rfl ⟨rfl, rfl, rfl, rfl⟩
  rw [if_neg c18] at h
  by_cases c20 : p0 = 13
  · rw [if_pos c20] at h
    refine w_tabIn (q := 182) (off := 181) d_Hall_count_1 (by rw [c20]; decide) (by rw [c20]; decide) (by rw [c20]; decide +kernel) rfl ?_
    refine w_aload_n (q := 183) d_Hall_count_182 rfl rfl ?_
    refine w_get (q := 186) (ci := 11) (j := 3) d_Hall_count_183 rfl (by decide) fl_Hall_17 (by decide) (by decide) s_0 rfl rfl ?_
    refine w_iconst (q := 187) (v := 1) d_Hall_count_186 rfl (by decide) ?_
    obtain ⟨v21, hv, h⟩ := bnd h
    obtain ⟨hi, hv⟩ := rd_ok hv
    refine w_iald (q := 188) (t := 0) d_Hall_count_187 rfl a_2.2 a_2.1 hi rfl ?_
    rw [hv]
    cases h
    exact w_ireturn d_Hall_count_188 rfl rfl ⟨rfl, rfl, rfl, rfl⟩
  rw [if_neg c20] at h
  by_cases c22 : p0 = 14
  · rw [if_pos c22] at h
    refine w_tabIn (q := 189) (off := 188) d_Hall_count_1 (by rw [c22]; decide) (by rw [c22]; decide) (by rw [c22]; decide +kernel) rfl ?_
    refine w_aload_n (q := 190) d_Hall_count_189 rfl rfl ?_
    refine w_get (q := 193) (ci := 11) (j := 3) d_Hall_count_190 rfl (by decide) fl_Hall_17 (by decide) (by decide) s_0 rfl rfl ?_
    refine w_iconst (q := 194) (v := 2) d_Hall_count_193 rfl (by decide) ?_
    obtain ⟨v23, hv, h⟩ := bnd h
    obtain ⟨hi, hv⟩ := rd_ok hv
    refine w_iald (q := 195) (t := 0) d_Hall_count_194 rfl a_2.2 a_2.1 hi rfl ?_
    rw [hv]
    cases h
    exact w_ireturn d_Hall_count_195 rfl rfl ⟨rfl, rfl, rfl, rfl⟩
  rw [if_neg c22] at h
  have hsw : p0.toInt < 0 ∨ 14 < p0.toInt := by
    refine sw_out (fun c h1 h2 e => ?_)
    have h9 : c = 0 ∨ c = 1 ∨ c = 2 ∨ c = 3 ∨ c = 4 ∨ c = 5 ∨ c = 6 ∨ c = 7 ∨ c = 8 ∨ c = 9 ∨ c = 10 ∨ c = 11 ∨ c = 12 ∨ c = 13 ∨ c = 14 := by omega
    rcases h9 with rfl | rfl | rfl | rfl | rfl | rfl | rfl | rfl | rfl | rfl | rfl | rfl | rfl | rfl | rfl
    · exact c1 (Int32.toInt_inj.mp (e.trans (by decide)))
    · exact c2 (Int32.toInt_inj.mp (e.trans (by decide)))
    · exact c3 (Int32.toInt_inj.mp (e.trans (by decide)))
    · exact c4 (Int32.toInt_inj.mp (e.trans (by decide)))
    · exact c5 (Int32.toInt_inj.mp (e.trans (by decide)))
    · exact c6 (Int32.toInt_inj.mp (e.trans (by decide)))
    · exact c7 (Int32.toInt_inj.mp (e.trans (by decide)))
    · exact c10 (Int32.toInt_inj.mp (e.trans (by decide)))
    · exact c13 (Int32.toInt_inj.mp (e.trans (by decide)))
    · exact c15 (Int32.toInt_inj.mp (e.trans (by decide)))
    · exact c16 (Int32.toInt_inj.mp (e.trans (by decide)))
    · exact c17 (Int32.toInt_inj.mp (e.trans (by decide)))
    · exact c18 (Int32.toInt_inj.mp (e.trans (by decide)))
    · exact c20 (Int32.toInt_inj.mp (e.trans (by decide)))
    · exact c22 (Int32.toInt_inj.mp (e.trans (by decide)))
  refine w_tabOut (q := 196) d_Hall_count_1 hsw rfl ?_
  cases h
  exact w_throw (j := 2) exB_nse exF.2.1 kl_Hall_175 wi_java_util_NoSuchElementException rfl exW_nse exG_nse d_Hall_count_196 d_Hall_count_199 d_Hall_count_200 d_Hall_count_202 d_Hall_count_205 rfl (leb rfl) rfl ⟨rfl, rfl, rfl, rfl⟩
def sp_Hall_needMonk (p0 : Int32) (g : Mem) : Option (Unit ⊕ Nat) := if p0 < 0 then some (.inr 1) else if p0 < (g 15 0) then some (.inl ()) else some (.inr 1)
theorem ok_Hall_needMonk {γ : GG} {tt : Bool} {p0 : Int32} {g : Mem} {res : Unit ⊕ Nat} (h : sp_Hall_needMonk p0 g = some res) : CA γ M_Hall_needMonk 0 [.ref 0, .int p0] SH g tt (bO res) (pPV SH g tt res) := by
  refine CA.of mw_Hall_needMonk.1 0 rfl ?_
  show WA γ M_Hall_needMonk 0 0 [some (.ref 0), some (.int p0)] [] SH g tt (bO res) (pPV SH g tt res)
  unfold sp_Hall_needMonk at h
  refine w_iload_n (q := 1) d_Hall_needMonk_0 rfl rfl ?_
  by_cases c1 : p0 < 0
  · rw [if_pos c1] at h
    refine w_if_lt_t (q := 15) d_Hall_needMonk_1 rfl c1 ?_
    cases h
    exact w_throwW (j := 3) exB_nse exF.2.1 kl_Hall_175 wi_java_util_NoSuchElementException rfl exW_nse exG_nse d_Hall_needMonk_15 d_Hall_needMonk_18 d_Hall_needMonk_19 d_Hall_needMonk_22 d_Hall_needMonk_25 rfl (leb rfl) rfl ⟨rfl, rfl, rfl, rfl⟩
  · rw [if_neg c1] at h
    refine w_if_lt_f (q := 4) d_Hall_needMonk_1 15 rfl rfl c1 ?_
    refine w_iload_n (q := 5) d_Hall_needMonk_4 rfl rfl ?_
    refine w_aload_n (q := 6) d_Hall_needMonk_5 rfl rfl ?_
    refine w_get (q := 9) (ci := 11) (j := 5) d_Hall_needMonk_6 rfl (by decide) fl_Hall_33 (by decide) (by decide) s_0 rfl rfl ?_
    refine w_get (q := 12) (ci := 7) (j := 0) d_Hall_needMonk_9 rfl (by decide) fl_Hall_141 (by decide) i_15.2.1 i_15.1 rfl rfl ?_
    by_cases c2 : p0 < (g 15 0)
    · rw [if_pos c2] at h
      refine w_icmp_lt_t (q := 26) d_Hall_needMonk_12 rfl c2 ?_
      cases h
      exact w_return d_Hall_needMonk_26 rfl ⟨rfl, rfl, rfl, rfl⟩
    · rw [if_neg c2] at h
      refine w_icmp_lt_f (q := 15) d_Hall_needMonk_12 26 rfl rfl c2 ?_
      cases h
      exact w_throwW (j := 3) exB_nse exF.2.1 kl_Hall_175 wi_java_util_NoSuchElementException rfl exW_nse exG_nse d_Hall_needMonk_15 d_Hall_needMonk_18 d_Hall_needMonk_19 d_Hall_needMonk_22 d_Hall_needMonk_25 rfl (leb rfl) rfl ⟨rfl, rfl, rfl, rfl⟩
def sp_Hall_monk (F : Nat) (p0 : Int32) (p1 : Int32) (g : Mem) : Option (Int32 ⊕ Nat) := (sp_Hall_needMonk p0 g).bind fun r2 => (match r2 with | .inl _u => if p1 = 0 then (rd g (15 + 1) 6 p0).bind fun v4 => some (.inl v4) else if p1 = 1 then (sp_Hair_ageOf 23 15 p0 g).bind fun v6 => some (.inl v6) else if p1 = 2 then (rd g (23 + 1) 6 p0).bind fun v8 => some (.inl v8) else if p1 = 3 then (sp_Roll_longest 15 p0 g).bind fun v10 => some (.inl v10) else if p1 = 4 then (sp_Hair_isGrey 23 15 p0 g).bind fun v12 => if v12 = 0 then some (.inl 0) else some (.inl 1) else if p1 = 5 then (sp_Hair_thereOf F 23 15 p0 g).bind fun v15 => (sp_JInteger_bitCount v15 g).bind fun v16 => some (.inl v16) else some (.inr 1) | .inr e => some (.inr e))
theorem ok_Hall_monk {γ : GG} {tt : Bool} {F : Nat} {p0 : Int32} {p1 : Int32} {g : Mem} {res : Int32 ⊕ Nat} (h : sp_Hall_monk F p0 p1 g = some res) : CA γ M_Hall_monk 3 [.ref 0, .int p0, .int p1] SH g tt (bO res) (pPI SH g tt res) := by
  refine CA.of mw_Hall_monk.1 0 rfl ?_
  show WA γ M_Hall_monk 3 0 [some (.ref 0), some (.int p0), some (.int p1)] [] SH g tt (bO res) (pPI SH g tt res)
  unfold sp_Hall_monk at h
  refine w_aload_n (q := 1) d_Hall_monk_0 rfl rfl ?_
  refine w_iload_n (q := 2) d_Hall_monk_1 rfl rfl ?_
  obtain ⟨r2, hv, h⟩ := bnd h
  rcases r2 with _u | e
  · refine w_callVv (q := 5) (M' := M_Hall_needMonk) (n' := 0) (k := 0) (As := [.int p0]) (sh' := SH) (b1 := (0, 0)) d_Hall_monk_2 rfl mw_Hall_needMonk (by decide) (by decide) ml_Hall_180 (by decide) s_0 (by decide) rfl rfl rfl (leb rfl) (bz _) (fun _ => rfl) (ok_Hall_needMonk hv) ?_
    refine w_iload_n (q := 6) d_Hall_monk_5 rfl rfl ?_
    by_cases c3 : p1 = 0
    · rw [if_pos c3] at h
      refine w_tabIn (q := 44) (off := 38) d_Hall_monk_6 (by rw [c3]; decide) (by rw [c3]; decide) (by rw [c3]; decide +kernel) rfl ?_
      refine w_aload_n (q := 45) d_Hall_monk_44 rfl rfl ?_
      refine w_get (q := 48) (ci := 11) (j := 5) d_Hall_monk_45 rfl (by decide) fl_Hall_33 (by decide) (by decide) s_0 rfl rfl ?_
      refine w_get (q := 51) (ci := 7) (j := 4) d_Hall_monk_48 rfl (by decide) fl_Hall_183 (by decide) i_15.2.1 i_15.1 rfl rfl ?_
      refine w_iload_n (q := 52) d_Hall_monk_51 rfl rfl ?_
      obtain ⟨v4, hv, h⟩ := bnd h
      obtain ⟨hi, hv⟩ := rd_ok hv
      refine w_iald (q := 53) (t := 0) d_Hall_monk_52 rfl i_15.2.2.1.2 i_15.2.2.1.1 hi rfl ?_
      rw [hv]
      cases h
      exact w_ireturn d_Hall_monk_53 rfl rfl ⟨rfl, rfl, rfl, rfl⟩
    rw [if_neg c3] at h
    by_cases c5 : p1 = 1
    · rw [if_pos c5] at h
      refine w_tabIn (q := 54) (off := 48) d_Hall_monk_6 (by rw [c5]; decide) (by rw [c5]; decide) (by rw [c5]; decide +kernel) rfl ?_
      refine w_aload_n (q := 55) d_Hall_monk_54 rfl rfl ?_
      refine w_get (q := 58) (ci := 11) (j := 6) d_Hall_monk_55 rfl (by decide) fl_Hall_42 (by decide) (by decide) s_0 rfl rfl ?_
      refine w_iload_n (q := 59) d_Hall_monk_58 rfl rfl ?_
      obtain ⟨v6, hv, h⟩ := bnd h
      refine w_callVi (q := 62) (M' := M_Hair_ageOf) (n' := 1) (k := 23) (As := [.int p0]) (sh' := SH) (b1 := (0, 0)) d_Hall_monk_59 rfl mw_Hair_ageOf (by decide) (by decide) ml_Hall_186 i_23.2.1 i_23.1 (by decide) rfl rfl rfl (leb rfl) (bz _) (fun _ => rfl) (ok_Hair_ageOf i_23 hv) ?_
      cases h
      exact w_ireturn d_Hall_monk_62 rfl rfl ⟨rfl, rfl, rfl, rfl⟩
    rw [if_neg c5] at h
    by_cases c7 : p1 = 2
    · rw [if_pos c7] at h
      refine w_tabIn (q := 63) (off := 57) d_Hall_monk_6 (by rw [c7]; decide) (by rw [c7]; decide) (by rw [c7]; decide +kernel) rfl ?_
      refine w_aload_n (q := 64) d_Hall_monk_63 rfl rfl ?_
      refine w_get (q := 67) (ci := 11) (j := 6) d_Hall_monk_64 rfl (by decide) fl_Hall_42 (by decide) (by decide) s_0 rfl rfl ?_
      refine w_get (q := 70) (ci := 2) (j := 1) d_Hall_monk_67 rfl (by decide) fl_Hall_189 (by decide) i_23.2.1 i_23.1 rfl rfl ?_
      refine w_iload_n (q := 71) d_Hall_monk_70 rfl rfl ?_
      obtain ⟨v8, hv, h⟩ := bnd h
      obtain ⟨hi, hv⟩ := rd_ok hv
      refine w_iald (q := 72) (t := 0) d_Hall_monk_71 rfl i_23.2.2.1.2 i_23.2.2.1.1 hi rfl ?_
      rw [hv]
      cases h
      exact w_ireturn d_Hall_monk_72 rfl rfl ⟨rfl, rfl, rfl, rfl⟩
    rw [if_neg c7] at h
    by_cases c9 : p1 = 3
    · rw [if_pos c9] at h
      refine w_tabIn (q := 73) (off := 67) d_Hall_monk_6 (by rw [c9]; decide) (by rw [c9]; decide) (by rw [c9]; decide +kernel) rfl ?_
      refine w_aload_n (q := 74) d_Hall_monk_73 rfl rfl ?_
      refine w_get (q := 77) (ci := 11) (j := 5) d_Hall_monk_74 rfl (by decide) fl_Hall_33 (by decide) (by decide) s_0 rfl rfl ?_
      refine w_iload_n (q := 78) d_Hall_monk_77 rfl rfl ?_
      obtain ⟨v10, hv, h⟩ := bnd h
      refine w_callVi (q := 81) (M' := M_Roll_longest) (n' := 1) (k := 15) (As := [.int p0]) (sh' := SH) (b1 := (0, 0)) d_Hall_monk_78 rfl mw_Roll_longest (by decide) (by decide) ml_Hall_192 i_15.2.1 i_15.1 (by decide) rfl rfl rfl (leb rfl) (bz _) (fun _ => rfl) (ok_Roll_longest i_15 hv) ?_
      cases h
      exact w_ireturn d_Hall_monk_81 rfl rfl ⟨rfl, rfl, rfl, rfl⟩
    rw [if_neg c9] at h
    by_cases c11 : p1 = 4
    · rw [if_pos c11] at h
      refine w_tabIn (q := 82) (off := 76) d_Hall_monk_6 (by rw [c11]; decide) (by rw [c11]; decide) (by rw [c11]; decide +kernel) rfl ?_
      refine w_aload_n (q := 83) d_Hall_monk_82 rfl rfl ?_
      refine w_get (q := 86) (ci := 11) (j := 6) d_Hall_monk_83 rfl (by decide) fl_Hall_42 (by decide) (by decide) s_0 rfl rfl ?_
      refine w_iload_n (q := 87) d_Hall_monk_86 rfl rfl ?_
      obtain ⟨v12, hv, h⟩ := bnd h
      refine w_callVi (q := 90) (M' := M_Hair_isGrey) (n' := 2) (k := 23) (As := [.int p0]) (sh' := SH) (b1 := (0, 0)) d_Hall_monk_87 rfl mw_Hair_isGrey (by decide) (by decide) ml_Hall_195 i_23.2.1 i_23.1 (by decide) rfl rfl rfl (leb rfl) (bz _) (fun _ => rfl) (ok_Hair_isGrey i_23 hv) ?_
      by_cases c13 : v12 = 0
      · rw [if_pos c13] at h
        refine w_if_eq_t (q := 97) d_Hall_monk_90 rfl c13 ?_
        refine w_iconst (q := 98) (v := 0) d_Hall_monk_97 rfl (by decide) ?_
        cases h
        exact w_ireturn d_Hall_monk_98 rfl rfl ⟨rfl, rfl, rfl, rfl⟩
      · rw [if_neg c13] at h
        refine w_if_eq_f (q := 93) d_Hall_monk_90 97 rfl rfl c13 ?_
        refine w_iconst (q := 94) (v := 1) d_Hall_monk_93 rfl (by decide) ?_
        refine w_goto (q := 98) d_Hall_monk_94 rfl ?_
        cases h
        exact w_ireturn d_Hall_monk_98 rfl rfl ⟨rfl, rfl, rfl, rfl⟩
    rw [if_neg c11] at h
    by_cases c14 : p1 = 5
    · rw [if_pos c14] at h
      refine w_tabIn (q := 99) (off := 93) d_Hall_monk_6 (by rw [c14]; decide) (by rw [c14]; decide) (by rw [c14]; decide +kernel) rfl ?_
      refine w_aload_n (q := 100) d_Hall_monk_99 rfl rfl ?_
      refine w_get (q := 103) (ci := 11) (j := 6) d_Hall_monk_100 rfl (by decide) fl_Hall_42 (by decide) (by decide) s_0 rfl rfl ?_
      refine w_iload_n (q := 104) d_Hall_monk_103 rfl rfl ?_
      obtain ⟨v15, hv, h⟩ := bnd h
      refine w_callVi (q := 107) (M' := M_Hair_thereOf) (n' := 1) (k := 23) (As := [.int p0]) (sh' := SH) (b1 := (0, 0)) d_Hall_monk_104 rfl mw_Hair_thereOf (by decide) (by decide) ml_Hall_199 i_23.2.1 i_23.1 (by decide) rfl rfl rfl (leb rfl) (bz _) (fun _ => rfl) (ok_Hair_thereOf i_23 hv) ?_
      obtain ⟨v16, hv, h⟩ := bnd h
      refine w_callSi (q := 110) (M' := M_JInteger_bitCount) (n' := 0) (As := [.int v15]) (sh' := SH) (b1 := (0, 0)) d_Hall_monk_107 rfl mw_JInteger_bitCount (by decide) (by decide) ml_Hall_163 rfl rfl (leb rfl) (bz _) (fun _ => rfl) (ok_JInteger_bitCount hv) ?_
      cases h
      exact w_ireturn d_Hall_monk_110 rfl rfl ⟨rfl, rfl, rfl, rfl⟩
    rw [if_neg c14] at h
    have hsw : p1.toInt < 0 ∨ 5 < p1.toInt := by
      refine sw_out (fun c h1 h2 e => ?_)
      have h9 : c = 0 ∨ c = 1 ∨ c = 2 ∨ c = 3 ∨ c = 4 ∨ c = 5 := by omega
      rcases h9 with rfl | rfl | rfl | rfl | rfl | rfl
      · exact c3 (Int32.toInt_inj.mp (e.trans (by decide)))
      · exact c5 (Int32.toInt_inj.mp (e.trans (by decide)))
      · exact c7 (Int32.toInt_inj.mp (e.trans (by decide)))
      · exact c9 (Int32.toInt_inj.mp (e.trans (by decide)))
      · exact c11 (Int32.toInt_inj.mp (e.trans (by decide)))
      · exact c14 (Int32.toInt_inj.mp (e.trans (by decide)))
    refine w_tabOut (q := 111) d_Hall_monk_6 hsw rfl ?_
    cases h
    exact w_throw (j := 4) exB_nse exF.2.1 kl_Hall_175 wi_java_util_NoSuchElementException rfl exW_nse exG_nse d_Hall_monk_111 d_Hall_monk_114 d_Hall_monk_115 d_Hall_monk_117 d_Hall_monk_120 rfl (leb rfl) rfl ⟨rfl, rfl, rfl, rfl⟩
  · cases h
    exact w_callVx (M' := M_Hall_needMonk) (n' := 0) (k := 0) (As := [.int p0]) (sh' := SH) (E := exS9 e) d_Hall_monk_2 mw_Hall_needMonk (by decide) (by decide) ml_Hall_180 (by decide) s_0 (by decide) rfl rfl rfl (leb rfl) rfl (ok_Hall_needMonk hv) ⟨rfl, rfl, rfl, rfl⟩
def sp_Hall_needEntry (p0 : Int32) (g : Mem) : Option (Unit ⊕ Nat) := if p0 < 0 then some (.inr 1) else if p0 < (g 23 4) then some (.inl ()) else some (.inr 1)
theorem ok_Hall_needEntry {γ : GG} {tt : Bool} {p0 : Int32} {g : Mem} {res : Unit ⊕ Nat} (h : sp_Hall_needEntry p0 g = some res) : CA γ M_Hall_needEntry 0 [.ref 0, .int p0] SH g tt (bO res) (pPV SH g tt res) := by
  refine CA.of mw_Hall_needEntry.1 0 rfl ?_
  show WA γ M_Hall_needEntry 0 0 [some (.ref 0), some (.int p0)] [] SH g tt (bO res) (pPV SH g tt res)
  unfold sp_Hall_needEntry at h
  refine w_iload_n (q := 1) d_Hall_needEntry_0 rfl rfl ?_
  by_cases c1 : p0 < 0
  · rw [if_pos c1] at h
    refine w_if_lt_t (q := 15) d_Hall_needEntry_1 rfl c1 ?_
    cases h
    exact w_throwW (j := 5) exB_nse exF.2.1 kl_Hall_175 wi_java_util_NoSuchElementException rfl exW_nse exG_nse d_Hall_needEntry_15 d_Hall_needEntry_18 d_Hall_needEntry_19 d_Hall_needEntry_22 d_Hall_needEntry_25 rfl (leb rfl) rfl ⟨rfl, rfl, rfl, rfl⟩
  · rw [if_neg c1] at h
    refine w_if_lt_f (q := 4) d_Hall_needEntry_1 15 rfl rfl c1 ?_
    refine w_iload_n (q := 5) d_Hall_needEntry_4 rfl rfl ?_
    refine w_aload_n (q := 6) d_Hall_needEntry_5 rfl rfl ?_
    refine w_get (q := 9) (ci := 11) (j := 6) d_Hall_needEntry_6 rfl (by decide) fl_Hall_42 (by decide) (by decide) s_0 rfl rfl ?_
    refine w_get (q := 12) (ci := 2) (j := 4) d_Hall_needEntry_9 rfl (by decide) fl_Hall_144 (by decide) i_23.2.1 i_23.1 rfl rfl ?_
    by_cases c2 : p0 < (g 23 4)
    · rw [if_pos c2] at h
      refine w_icmp_lt_t (q := 26) d_Hall_needEntry_12 rfl c2 ?_
      cases h
      exact w_return d_Hall_needEntry_26 rfl ⟨rfl, rfl, rfl, rfl⟩
    · rw [if_neg c2] at h
      refine w_icmp_lt_f (q := 15) d_Hall_needEntry_12 26 rfl rfl c2 ?_
      cases h
      exact w_throwW (j := 5) exB_nse exF.2.1 kl_Hall_175 wi_java_util_NoSuchElementException rfl exW_nse exG_nse d_Hall_needEntry_15 d_Hall_needEntry_18 d_Hall_needEntry_19 d_Hall_needEntry_22 d_Hall_needEntry_25 rfl (leb rfl) rfl ⟨rfl, rfl, rfl, rfl⟩
def sp_Hall_entry (p0 : Int32) (p1 : Int32) (g : Mem) : Option (Int32 ⊕ Nat) := (sp_Hall_needEntry p0 g).bind fun r2 => (match r2 with | .inl _u => if p1 < 0 then some (.inr 1) else if p1 ≤ 9 then if p1 = 6 then (sp_Hair_isKnotted 23 15 p0 g).bind fun v6 => if v6 = 0 then some (.inl 0) else some (.inl 1) else if p1 = 7 then (sp_Roll_cell 15 p0 p1 g).bind fun v9 => some (.inl v9) else if p1 = 8 then (sp_Hair_isThere 23 15 p0 g).bind fun v11 => if v11 = 0 then some (.inl 0) else some (.inl 1) else if p1 = 9 then (sp_Hair_breadths 23 15 p0 g).bind fun v14 => some (.inl v14) else (sp_Roll_cell 15 p0 p1 g).bind fun v15 => some (.inl v15) else some (.inr 1) | .inr e => some (.inr e))
theorem ok_Hall_entry {γ : GG} {tt : Bool} {p0 : Int32} {p1 : Int32} {g : Mem} {res : Int32 ⊕ Nat} (h : sp_Hall_entry p0 p1 g = some res) : CA γ M_Hall_entry 2 [.ref 0, .int p0, .int p1] SH g tt (bO res) (pPI SH g tt res) := by
  refine CA.of mw_Hall_entry.1 0 rfl ?_
  show WA γ M_Hall_entry 2 0 [some (.ref 0), some (.int p0), some (.int p1)] [] SH g tt (bO res) (pPI SH g tt res)
  unfold sp_Hall_entry at h
  refine w_aload_n (q := 1) d_Hall_entry_0 rfl rfl ?_
  refine w_iload_n (q := 2) d_Hall_entry_1 rfl rfl ?_
  obtain ⟨r2, hv, h⟩ := bnd h
  rcases r2 with _u | e
  · refine w_callVv (q := 5) (M' := M_Hall_needEntry) (n' := 0) (k := 0) (As := [.int p0]) (sh' := SH) (b1 := (0, 0)) d_Hall_entry_2 rfl mw_Hall_needEntry (by decide) (by decide) ml_Hall_204 (by decide) s_0 (by decide) rfl rfl rfl (leb rfl) (bz _) (fun _ => rfl) (ok_Hall_needEntry hv) ?_
    refine w_iload_n (q := 6) d_Hall_entry_5 rfl rfl ?_
    by_cases c3 : p1 < 0
    · rw [if_pos c3] at h
      refine w_if_lt_t (q := 15) d_Hall_entry_6 rfl c3 ?_
      cases h
      exact w_throw (j := 6) exB_nse exF.2.1 kl_Hall_175 wi_java_util_NoSuchElementException rfl exW_nse exG_nse d_Hall_entry_15 d_Hall_entry_18 d_Hall_entry_19 d_Hall_entry_21 d_Hall_entry_24 rfl (leb rfl) rfl ⟨rfl, rfl, rfl, rfl⟩
    · rw [if_neg c3] at h
      refine w_if_lt_f (q := 9) d_Hall_entry_6 15 rfl rfl c3 ?_
      refine w_iload_n (q := 10) d_Hall_entry_9 rfl rfl ?_
      refine w_bipush (q := 12) (v := 9) d_Hall_entry_10 rfl (by decide) ?_
      by_cases c4 : p1 ≤ 9
      · rw [if_pos c4] at h
        refine w_icmp_le_t (q := 25) d_Hall_entry_12 rfl c4 ?_
        refine w_iload_n (q := 26) d_Hall_entry_25 rfl rfl ?_
        by_cases c5 : p1 = 6
        · rw [if_pos c5] at h
          refine w_tabIn (q := 56) (off := 30) d_Hall_entry_26 (by rw [c5]; decide) (by rw [c5]; decide) (by rw [c5]; decide +kernel) rfl ?_
          refine w_aload_n (q := 57) d_Hall_entry_56 rfl rfl ?_
          refine w_get (q := 60) (ci := 11) (j := 6) d_Hall_entry_57 rfl (by decide) fl_Hall_42 (by decide) (by decide) s_0 rfl rfl ?_
          refine w_iload_n (q := 61) d_Hall_entry_60 rfl rfl ?_
          obtain ⟨v6, hv, h⟩ := bnd h
          refine w_callVi (q := 64) (M' := M_Hair_isKnotted) (n' := 1) (k := 23) (As := [.int p0]) (sh' := SH) (b1 := (0, 0)) d_Hall_entry_61 rfl mw_Hair_isKnotted (by decide) (by decide) ml_Hall_209 i_23.2.1 i_23.1 (by decide) rfl rfl rfl (leb rfl) (bz _) (fun _ => rfl) (ok_Hair_isKnotted i_23 hv) ?_
          by_cases c7 : v6 = 0
          · rw [if_pos c7] at h
            refine w_if_eq_t (q := 71) d_Hall_entry_64 rfl c7 ?_
            refine w_iconst (q := 72) (v := 0) d_Hall_entry_71 rfl (by decide) ?_
            cases h
            exact w_ireturn d_Hall_entry_72 rfl rfl ⟨rfl, rfl, rfl, rfl⟩
          · rw [if_neg c7] at h
            refine w_if_eq_f (q := 67) d_Hall_entry_64 71 rfl rfl c7 ?_
            refine w_iconst (q := 68) (v := 1) d_Hall_entry_67 rfl (by decide) ?_
            refine w_goto (q := 72) d_Hall_entry_68 rfl ?_
            cases h
            exact w_ireturn d_Hall_entry_72 rfl rfl ⟨rfl, rfl, rfl, rfl⟩
        rw [if_neg c5] at h
        by_cases c8 : p1 = 7
        · rw [if_pos c8] at h
          refine w_tabIn (q := 99) (off := 73) d_Hall_entry_26 (by rw [c8]; decide) (by rw [c8]; decide) (by rw [c8]; decide +kernel) rfl ?_
          refine w_aload_n (q := 100) d_Hall_entry_99 rfl rfl ?_
          refine w_get (q := 103) (ci := 11) (j := 5) d_Hall_entry_100 rfl (by decide) fl_Hall_33 (by decide) (by decide) s_0 rfl rfl ?_
          refine w_iload_n (q := 104) d_Hall_entry_103 rfl rfl ?_
          refine w_iload_n (q := 105) d_Hall_entry_104 rfl rfl ?_
          obtain ⟨v9, hv, h⟩ := bnd h
          refine w_callVi (q := 108) (M' := M_Roll_cell) (n' := 0) (k := 15) (As := [.int p0, .int p1]) (sh' := SH) (b1 := (0, 0)) d_Hall_entry_105 rfl mw_Roll_cell (by decide) (by decide) ml_Hall_218 i_15.2.1 i_15.1 (by decide) rfl rfl rfl (leb rfl) (bz _) (fun _ => rfl) (ok_Roll_cell i_15 hv) ?_
          cases h
          exact w_ireturn d_Hall_entry_108 rfl rfl ⟨rfl, rfl, rfl, rfl⟩
        rw [if_neg c8] at h
        by_cases c10 : p1 = 8
        · rw [if_pos c10] at h
          refine w_tabIn (q := 73) (off := 47) d_Hall_entry_26 (by rw [c10]; decide) (by rw [c10]; decide) (by rw [c10]; decide +kernel) rfl ?_
          refine w_aload_n (q := 74) d_Hall_entry_73 rfl rfl ?_
          refine w_get (q := 77) (ci := 11) (j := 6) d_Hall_entry_74 rfl (by decide) fl_Hall_42 (by decide) (by decide) s_0 rfl rfl ?_
          refine w_iload_n (q := 78) d_Hall_entry_77 rfl rfl ?_
          obtain ⟨v11, hv, h⟩ := bnd h
          refine w_callVi (q := 81) (M' := M_Hair_isThere) (n' := 1) (k := 23) (As := [.int p0]) (sh' := SH) (b1 := (0, 0)) d_Hall_entry_78 rfl mw_Hair_isThere (by decide) (by decide) ml_Hall_212 i_23.2.1 i_23.1 (by decide) rfl rfl rfl (leb rfl) (bz _) (fun _ => rfl) (ok_Hair_isThere i_23 hv) ?_
          by_cases c12 : v11 = 0
          · rw [if_pos c12] at h
            refine w_if_eq_t (q := 88) d_Hall_entry_81 rfl c12 ?_
            refine w_iconst (q := 89) (v := 0) d_Hall_entry_88 rfl (by decide) ?_
            cases h
            exact w_ireturn d_Hall_entry_89 rfl rfl ⟨rfl, rfl, rfl, rfl⟩
          · rw [if_neg c12] at h
            refine w_if_eq_f (q := 84) d_Hall_entry_81 88 rfl rfl c12 ?_
            refine w_iconst (q := 85) (v := 1) d_Hall_entry_84 rfl (by decide) ?_
            refine w_goto (q := 89) d_Hall_entry_85 rfl ?_
            cases h
            exact w_ireturn d_Hall_entry_89 rfl rfl ⟨rfl, rfl, rfl, rfl⟩
        rw [if_neg c10] at h
        by_cases c13 : p1 = 9
        · rw [if_pos c13] at h
          refine w_tabIn (q := 90) (off := 64) d_Hall_entry_26 (by rw [c13]; decide) (by rw [c13]; decide) (by rw [c13]; decide +kernel) rfl ?_
          refine w_aload_n (q := 91) d_Hall_entry_90 rfl rfl ?_
          refine w_get (q := 94) (ci := 11) (j := 6) d_Hall_entry_91 rfl (by decide) fl_Hall_42 (by decide) (by decide) s_0 rfl rfl ?_
          refine w_iload_n (q := 95) d_Hall_entry_94 rfl rfl ?_
          obtain ⟨v14, hv, h⟩ := bnd h
          refine w_callVi (q := 98) (M' := M_Hair_breadths) (n' := 1) (k := 23) (As := [.int p0]) (sh' := SH) (b1 := (0, 0)) d_Hall_entry_95 rfl mw_Hair_breadths (by decide) (by decide) ml_Hall_215 i_23.2.1 i_23.1 (by decide) rfl rfl rfl (leb rfl) (bz _) (fun _ => rfl) (ok_Hair_breadths i_23 hv) ?_
          cases h
          exact w_ireturn d_Hall_entry_98 rfl rfl ⟨rfl, rfl, rfl, rfl⟩
        rw [if_neg c13] at h
        have hsw : p1.toInt < 6 ∨ 9 < p1.toInt := by
          refine sw_out (fun c h1 h2 e => ?_)
          have h9 : c = 6 ∨ c = 7 ∨ c = 8 ∨ c = 9 := by omega
          rcases h9 with rfl | rfl | rfl | rfl
          · exact c5 (Int32.toInt_inj.mp (e.trans (by decide)))
          · exact c8 (Int32.toInt_inj.mp (e.trans (by decide)))
          · exact c10 (Int32.toInt_inj.mp (e.trans (by decide)))
          · exact c13 (Int32.toInt_inj.mp (e.trans (by decide)))
        refine w_tabOut (q := 99) d_Hall_entry_26 hsw rfl ?_
        refine w_aload_n (q := 100) d_Hall_entry_99 rfl rfl ?_
        refine w_get (q := 103) (ci := 11) (j := 5) d_Hall_entry_100 rfl (by decide) fl_Hall_33 (by decide) (by decide) s_0 rfl rfl ?_
        refine w_iload_n (q := 104) d_Hall_entry_103 rfl rfl ?_
        refine w_iload_n (q := 105) d_Hall_entry_104 rfl rfl ?_
        obtain ⟨v15, hv, h⟩ := bnd h
        refine w_callVi (q := 108) (M' := M_Roll_cell) (n' := 0) (k := 15) (As := [.int p0, .int p1]) (sh' := SH) (b1 := (0, 0)) d_Hall_entry_105 rfl mw_Roll_cell (by decide) (by decide) ml_Hall_218 i_15.2.1 i_15.1 (by decide) rfl rfl rfl (leb rfl) (bz _) (fun _ => rfl) (ok_Roll_cell i_15 hv) ?_
        cases h
        exact w_ireturn d_Hall_entry_108 rfl rfl ⟨rfl, rfl, rfl, rfl⟩
      · rw [if_neg c4] at h
        refine w_icmp_le_f (q := 15) d_Hall_entry_12 25 rfl rfl c4 ?_
        cases h
        exact w_throw (j := 6) exB_nse exF.2.1 kl_Hall_175 wi_java_util_NoSuchElementException rfl exW_nse exG_nse d_Hall_entry_15 d_Hall_entry_18 d_Hall_entry_19 d_Hall_entry_21 d_Hall_entry_24 rfl (leb rfl) rfl ⟨rfl, rfl, rfl, rfl⟩
  · cases h
    exact w_callVx (M' := M_Hall_needEntry) (n' := 0) (k := 0) (As := [.int p0]) (sh' := SH) (E := exS9 e) d_Hall_entry_2 mw_Hall_needEntry (by decide) (by decide) ml_Hall_204 (by decide) s_0 (by decide) rfl rfl rfl (leb rfl) rfl (ok_Hall_needEntry hv) ⟨rfl, rfl, rfl, rfl⟩
def sp_Hall_holders (F : Nat) (p0 : Int32) (g : Mem) : Option (Int32 ⊕ Nat) := (sp_Hall_needEntry p0 g).bind fun r2 => (match r2 with | .inl _u => (sp_Roll_cell 15 p0 7 g).bind fun v3 => (sp_Hair_monksWith F 23 15 v3 g).bind fun v4 => some (.inl v4) | .inr e => some (.inr e))
theorem ok_Hall_holders {γ : GG} {tt : Bool} {F : Nat} {p0 : Int32} {g : Mem} {res : Int32 ⊕ Nat} (h : sp_Hall_holders F p0 g = some res) : CA γ M_Hall_holders 2 [.ref 0, .int p0] SH g tt (bO res) (pPI SH g tt res) := by
  refine CA.of mw_Hall_holders.1 0 rfl ?_
  show WA γ M_Hall_holders 2 0 [some (.ref 0), some (.int p0)] [] SH g tt (bO res) (pPI SH g tt res)
  unfold sp_Hall_holders at h
  refine w_aload_n (q := 1) d_Hall_holders_0 rfl rfl ?_
  refine w_iload_n (q := 2) d_Hall_holders_1 rfl rfl ?_
  obtain ⟨r2, hv, h⟩ := bnd h
  rcases r2 with _u | e
  · refine w_callVv (q := 5) (M' := M_Hall_needEntry) (n' := 0) (k := 0) (As := [.int p0]) (sh' := SH) (b1 := (0, 0)) d_Hall_holders_2 rfl mw_Hall_needEntry (by decide) (by decide) ml_Hall_204 (by decide) s_0 (by decide) rfl rfl rfl (leb rfl) (bz _) (fun _ => rfl) (ok_Hall_needEntry hv) ?_
    refine w_aload_n (q := 6) d_Hall_holders_5 rfl rfl ?_
    refine w_get (q := 9) (ci := 11) (j := 6) d_Hall_holders_6 rfl (by decide) fl_Hall_42 (by decide) (by decide) s_0 rfl rfl ?_
    refine w_aload_n (q := 10) d_Hall_holders_9 rfl rfl ?_
    refine w_get (q := 13) (ci := 11) (j := 5) d_Hall_holders_10 rfl (by decide) fl_Hall_33 (by decide) (by decide) s_0 rfl rfl ?_
    refine w_iload_n (q := 14) d_Hall_holders_13 rfl rfl ?_
    refine w_bipush (q := 16) (v := 7) d_Hall_holders_14 rfl (by decide) ?_
    obtain ⟨v3, hv, h⟩ := bnd h
    refine w_callVi (q := 19) (M' := M_Roll_cell) (n' := 0) (k := 15) (As := [.int p0, .int 7]) (sh' := SH) (b1 := (0, 0)) d_Hall_holders_16 rfl mw_Roll_cell (by decide) (by decide) ml_Hall_218 i_15.2.1 i_15.1 (by decide) rfl rfl rfl (leb rfl) (bz _) (fun _ => rfl) (ok_Roll_cell i_15 hv) ?_
    obtain ⟨v4, hv, h⟩ := bnd h
    refine w_callVi (q := 22) (M' := M_Hair_monksWith) (n' := 1) (k := 23) (As := [.int v3]) (sh' := SH) (b1 := (0, 0)) d_Hall_holders_19 rfl mw_Hair_monksWith (by decide) (by decide) ml_Hall_222 i_23.2.1 i_23.1 (by decide) rfl rfl rfl (leb rfl) (bz _) (fun _ => rfl) (ok_Hair_monksWith i_23 hv) ?_
    cases h
    exact w_ireturn d_Hall_holders_22 rfl rfl ⟨rfl, rfl, rfl, rfl⟩
  · cases h
    exact w_callVx (M' := M_Hall_needEntry) (n' := 0) (k := 0) (As := [.int p0]) (sh' := SH) (E := exS9 e) d_Hall_holders_2 mw_Hall_needEntry (by decide) (by decide) ml_Hall_204 (by decide) s_0 (by decide) rfl rfl rfl (leb rfl) rfl (ok_Hall_needEntry hv) ⟨rfl, rfl, rfl, rfl⟩
def sp_Hall_tellRule_j97 (p0 : Int32) (p1 : Int32) (p2 : Int32) (g : Mem) (m0 : Mem) (x1 : Int32) (y0 : Int32) (y1 : Int32) : Option (Mem) := (wr m0 ((15 + 4) + 2) 7 y1 y0).bind fun g13 => (sp_Hair_ageOf 23 15 x1 g13).bind fun v14 => (wr g13 ((15 + 4) + 2) 7 5 v14).bind fun g15 => some g15
theorem ok_Hall_tellRule_j97 {γ : GG} {tt : Bool} {p0 : Int32} {p1 : Int32} {p2 : Int32} {g : Mem} {m0 : Mem} {x1 : Int32} {y0 : Int32} {y1 : Int32} {res : Mem} (h : sp_Hall_tellRule_j97 p0 p1 p2 g m0 x1 y0 y1 = some res) : WA γ M_Hall_tellRule 3 97 [some (.ref 0), some (.int x1), none, none, some (.ref ((15 + 4) + 2))] [.int y0, .int y1, .ref ((15 + 4) + 2)] SH m0 tt (0, 0) (pV SH res tt) := by
  unfold sp_Hall_tellRule_j97 at h
  obtain ⟨g13, hv, h⟩ := bnd h
  obtain ⟨hi, hv⟩ := wr_ok hv
  refine w_iast (q := 98) d_Hall_tellRule_97 rfl i_15.2.2.2.2.2.2.2.2.1.2 i_15.2.2.2.2.2.2.2.2.1.1 hi hv ?_
  refine w_aload (q := 100) d_Hall_tellRule_98 rfl rfl ?_
  refine w_iconst (q := 101) (v := 5) d_Hall_tellRule_100 rfl (by decide) ?_
  refine w_aload_n (q := 102) d_Hall_tellRule_101 rfl rfl ?_
  refine w_get (q := 105) (ci := 11) (j := 6) d_Hall_tellRule_102 rfl (by decide) fl_Hall_42 (by decide) (by decide) s_0 rfl rfl ?_
  refine w_iload_n (q := 106) d_Hall_tellRule_105 rfl rfl ?_
  obtain ⟨v14, hv, h⟩ := bnd h
  refine w_callVi (q := 109) (M' := M_Hair_ageOf) (n' := 1) (k := 23) (As := [.int x1]) (sh' := SH) (b1 := (0, 0)) d_Hall_tellRule_106 rfl mw_Hair_ageOf (by decide) (by decide) ml_Hall_186 i_23.2.1 i_23.1 (by decide) rfl rfl rfl (leb rfl) (bz _) (fun _ => rfl) (ok_Hair_ageOf i_23 hv) ?_
  obtain ⟨g15, hv, h⟩ := bnd h
  obtain ⟨hi, hv⟩ := wr_ok hv
  refine w_iast (q := 110) d_Hall_tellRule_109 rfl i_15.2.2.2.2.2.2.2.2.1.2 i_15.2.2.2.2.2.2.2.2.1.1 hi hv ?_
  cases h
  exact w_return d_Hall_tellRule_110 rfl ⟨rfl, rfl, rfl, rfl⟩
def sp_Hall_tellRule_j83 (p0 : Int32) (p1 : Int32) (p2 : Int32) (g : Mem) (m0 : Mem) (x1 : Int32) (x3 : Int32) (y0 : Int32) (y1 : Int32) : Option (Mem) := (wr m0 ((15 + 4) + 2) 7 y1 y0).bind fun g11 => if x1 = x3 then sp_Hall_tellRule_j97 p0 p1 p2 g g11 x1 1 4 else sp_Hall_tellRule_j97 p0 p1 p2 g g11 x1 0 4
theorem ok_Hall_tellRule_j83 {γ : GG} {tt : Bool} {p0 : Int32} {p1 : Int32} {p2 : Int32} {g : Mem} {m0 : Mem} {x1 : Int32} {x3 : Int32} {y0 : Int32} {y1 : Int32} {res : Mem} (h : sp_Hall_tellRule_j83 p0 p1 p2 g m0 x1 x3 y0 y1 = some res) : WA γ M_Hall_tellRule 3 83 [some (.ref 0), some (.int x1), none, some (.int x3), some (.ref ((15 + 4) + 2))] [.int y0, .int y1, .ref ((15 + 4) + 2)] SH m0 tt (0, 0) (pV SH res tt) := by
  unfold sp_Hall_tellRule_j83 at h
  obtain ⟨g11, hv, h⟩ := bnd h
  obtain ⟨hi, hv⟩ := wr_ok hv
  refine w_iast (q := 84) d_Hall_tellRule_83 rfl i_15.2.2.2.2.2.2.2.2.1.2 i_15.2.2.2.2.2.2.2.2.1.1 hi hv ?_
  refine w_aload (q := 86) d_Hall_tellRule_84 rfl rfl ?_
  refine w_iconst (q := 87) (v := 4) d_Hall_tellRule_86 rfl (by decide) ?_
  refine w_iload_n (q := 88) d_Hall_tellRule_87 rfl rfl ?_
  refine w_iload_n (q := 89) d_Hall_tellRule_88 rfl rfl ?_
  by_cases c12 : x1 = x3
  · rw [if_pos c12] at h
    refine w_icmp_ne_f (q := 92) d_Hall_tellRule_89 96 rfl rfl c12 ?_
    refine w_iconst (q := 93) (v := 1) d_Hall_tellRule_92 rfl (by decide) ?_
    refine w_goto (q := 97) d_Hall_tellRule_93 rfl ?_
    refine w_ls (ls' := [some (.ref 0), some (.int x1), none, none, some (.ref ((15 + 4) + 2))]) (And.intro rfl (And.intro rfl (And.intro rfl trivial))) ?_
    exact ok_Hall_tellRule_j97 h
  · rw [if_neg c12] at h
    refine w_icmp_ne_t (q := 96) d_Hall_tellRule_89 rfl c12 ?_
    refine w_iconst (q := 97) (v := 0) d_Hall_tellRule_96 rfl (by decide) ?_
    refine w_ls (ls' := [some (.ref 0), some (.int x1), none, none, some (.ref ((15 + 4) + 2))]) (And.intro rfl (And.intro rfl (And.intro rfl trivial))) ?_
    exact ok_Hall_tellRule_j97 h
def sp_Hall_tellRule (p0 : Int32) (p1 : Int32) (p2 : Int32) (g : Mem) : Option (Mem) := (sp_Roll_cell 15 p1 0 g).bind fun v1 => (wr g ((15 + 4) + 2) 7 0 v1).bind fun g2 => (sp_Roll_cell 15 p1 5 g2).bind fun v3 => (wr g2 ((15 + 4) + 2) 7 1 v3).bind fun g4 => (sp_Roll_cell 15 p1 3 g4).bind fun v5 => (wr g4 ((15 + 4) + 2) 7 2 v5).bind fun g6 => (sp_Hair_breadths 23 15 p1 g6).bind fun v7 => (wr g6 ((15 + 4) + 2) 7 3 v7).bind fun g8 => (sp_Hair_isGrey 23 15 p2 g8).bind fun v9 => if v9 = 0 then sp_Hall_tellRule_j83 p0 p1 p2 g g8 p0 p2 0 6 else sp_Hall_tellRule_j83 p0 p1 p2 g g8 p0 p2 1 6
theorem ok_Hall_tellRule {γ : GG} {tt : Bool} {p0 : Int32} {p1 : Int32} {p2 : Int32} {g : Mem} {res : Mem} (h : sp_Hall_tellRule p0 p1 p2 g = some res) : CA γ M_Hall_tellRule 3 [.ref 0, .int p0, .int p1, .int p2] SH g tt (0, 0) (pV SH res tt) := by
  refine CA.of mw_Hall_tellRule.1 1 rfl ?_
  show WA γ M_Hall_tellRule 3 0 [some (.ref 0), some (.int p0), some (.int p1), some (.int p2), none] [] SH g tt (0, 0) (pV SH res tt)
  unfold sp_Hall_tellRule at h
  refine w_aload_n (q := 1) d_Hall_tellRule_0 rfl rfl ?_
  refine w_get (q := 4) (ci := 11) (j := 5) d_Hall_tellRule_1 rfl (by decide) fl_Hall_33 (by decide) (by decide) s_0 rfl rfl ?_
  refine w_get (q := 7) (ci := 7) (j := 7) d_Hall_tellRule_4 rfl (by decide) fl_Hall_225 (by decide) i_15.2.1 i_15.1 rfl rfl ?_
  refine w_get (q := 10) (ci := 8) (j := 1) d_Hall_tellRule_7 rfl (by decide) fl_Hall_242 (by decide) i_15.2.2.2.2.2.2.1 i_15.2.2.2.2.2.1 rfl rfl ?_
  refine w_astore (q := 12) (ls' := [some (.ref 0), some (.int p0), some (.int p1), some (.int p2), some (.ref ((15 + 4) + 2))]) d_Hall_tellRule_10 rfl (by decide) rfl rfl ?_
  refine w_aload (q := 14) d_Hall_tellRule_12 rfl rfl ?_
  refine w_iconst (q := 15) (v := 0) d_Hall_tellRule_14 rfl (by decide) ?_
  refine w_aload_n (q := 16) d_Hall_tellRule_15 rfl rfl ?_
  refine w_get (q := 19) (ci := 11) (j := 5) d_Hall_tellRule_16 rfl (by decide) fl_Hall_33 (by decide) (by decide) s_0 rfl rfl ?_
  refine w_iload_n (q := 20) d_Hall_tellRule_19 rfl rfl ?_
  refine w_iconst (q := 21) (v := 0) d_Hall_tellRule_20 rfl (by decide) ?_
  obtain ⟨v1, hv, h⟩ := bnd h
  refine w_callVi (q := 24) (M' := M_Roll_cell) (n' := 0) (k := 15) (As := [.int p1, .int 0]) (sh' := SH) (b1 := (0, 0)) d_Hall_tellRule_21 rfl mw_Roll_cell (by decide) (by decide) ml_Hall_218 i_15.2.1 i_15.1 (by decide) rfl rfl rfl (leb rfl) (bz _) (fun _ => rfl) (ok_Roll_cell i_15 hv) ?_
  obtain ⟨g2, hv, h⟩ := bnd h
  obtain ⟨hi, hv⟩ := wr_ok hv
  refine w_iast (q := 25) d_Hall_tellRule_24 rfl i_15.2.2.2.2.2.2.2.2.1.2 i_15.2.2.2.2.2.2.2.2.1.1 hi hv ?_
  refine w_aload (q := 27) d_Hall_tellRule_25 rfl rfl ?_
  refine w_iconst (q := 28) (v := 1) d_Hall_tellRule_27 rfl (by decide) ?_
  refine w_aload_n (q := 29) d_Hall_tellRule_28 rfl rfl ?_
  refine w_get (q := 32) (ci := 11) (j := 5) d_Hall_tellRule_29 rfl (by decide) fl_Hall_33 (by decide) (by decide) s_0 rfl rfl ?_
  refine w_iload_n (q := 33) d_Hall_tellRule_32 rfl rfl ?_
  refine w_iconst (q := 34) (v := 5) d_Hall_tellRule_33 rfl (by decide) ?_
  obtain ⟨v3, hv, h⟩ := bnd h
  refine w_callVi (q := 37) (M' := M_Roll_cell) (n' := 0) (k := 15) (As := [.int p1, .int 5]) (sh' := SH) (b1 := (0, 0)) d_Hall_tellRule_34 rfl mw_Roll_cell (by decide) (by decide) ml_Hall_218 i_15.2.1 i_15.1 (by decide) rfl rfl rfl (leb rfl) (bz _) (fun _ => rfl) (ok_Roll_cell i_15 hv) ?_
  obtain ⟨g4, hv, h⟩ := bnd h
  obtain ⟨hi, hv⟩ := wr_ok hv
  refine w_iast (q := 38) d_Hall_tellRule_37 rfl i_15.2.2.2.2.2.2.2.2.1.2 i_15.2.2.2.2.2.2.2.2.1.1 hi hv ?_
  refine w_aload (q := 40) d_Hall_tellRule_38 rfl rfl ?_
  refine w_iconst (q := 41) (v := 2) d_Hall_tellRule_40 rfl (by decide) ?_
  refine w_aload_n (q := 42) d_Hall_tellRule_41 rfl rfl ?_
  refine w_get (q := 45) (ci := 11) (j := 5) d_Hall_tellRule_42 rfl (by decide) fl_Hall_33 (by decide) (by decide) s_0 rfl rfl ?_
  refine w_iload_n (q := 46) d_Hall_tellRule_45 rfl rfl ?_
  refine w_iconst (q := 47) (v := 3) d_Hall_tellRule_46 rfl (by decide) ?_
  obtain ⟨v5, hv, h⟩ := bnd h
  refine w_callVi (q := 50) (M' := M_Roll_cell) (n' := 0) (k := 15) (As := [.int p1, .int 3]) (sh' := SH) (b1 := (0, 0)) d_Hall_tellRule_47 rfl mw_Roll_cell (by decide) (by decide) ml_Hall_218 i_15.2.1 i_15.1 (by decide) rfl rfl rfl (leb rfl) (bz _) (fun _ => rfl) (ok_Roll_cell i_15 hv) ?_
  obtain ⟨g6, hv, h⟩ := bnd h
  obtain ⟨hi, hv⟩ := wr_ok hv
  refine w_iast (q := 51) d_Hall_tellRule_50 rfl i_15.2.2.2.2.2.2.2.2.1.2 i_15.2.2.2.2.2.2.2.2.1.1 hi hv ?_
  refine w_aload (q := 53) d_Hall_tellRule_51 rfl rfl ?_
  refine w_iconst (q := 54) (v := 3) d_Hall_tellRule_53 rfl (by decide) ?_
  refine w_aload_n (q := 55) d_Hall_tellRule_54 rfl rfl ?_
  refine w_get (q := 58) (ci := 11) (j := 6) d_Hall_tellRule_55 rfl (by decide) fl_Hall_42 (by decide) (by decide) s_0 rfl rfl ?_
  refine w_iload_n (q := 59) d_Hall_tellRule_58 rfl rfl ?_
  obtain ⟨v7, hv, h⟩ := bnd h
  refine w_callVi (q := 62) (M' := M_Hair_breadths) (n' := 1) (k := 23) (As := [.int p1]) (sh' := SH) (b1 := (0, 0)) d_Hall_tellRule_59 rfl mw_Hair_breadths (by decide) (by decide) ml_Hall_215 i_23.2.1 i_23.1 (by decide) rfl rfl rfl (leb rfl) (bz _) (fun _ => rfl) (ok_Hair_breadths i_23 hv) ?_
  obtain ⟨g8, hv, h⟩ := bnd h
  obtain ⟨hi, hv⟩ := wr_ok hv
  refine w_iast (q := 63) d_Hall_tellRule_62 rfl i_15.2.2.2.2.2.2.2.2.1.2 i_15.2.2.2.2.2.2.2.2.1.1 hi hv ?_
  refine w_aload (q := 65) d_Hall_tellRule_63 rfl rfl ?_
  refine w_bipush (q := 67) (v := 6) d_Hall_tellRule_65 rfl (by decide) ?_
  refine w_aload_n (q := 68) d_Hall_tellRule_67 rfl rfl ?_
  refine w_get (q := 71) (ci := 11) (j := 6) d_Hall_tellRule_68 rfl (by decide) fl_Hall_42 (by decide) (by decide) s_0 rfl rfl ?_
  refine w_iload_n (q := 72) d_Hall_tellRule_71 rfl rfl ?_
  obtain ⟨v9, hv, h⟩ := bnd h
  refine w_callVi (q := 75) (M' := M_Hair_isGrey) (n' := 2) (k := 23) (As := [.int p2]) (sh' := SH) (b1 := (0, 0)) d_Hall_tellRule_72 rfl mw_Hair_isGrey (by decide) (by decide) ml_Hall_195 i_23.2.1 i_23.1 (by decide) rfl rfl rfl (leb rfl) (bz _) (fun _ => rfl) (ok_Hair_isGrey i_23 hv) ?_
  by_cases c10 : v9 = 0
  · rw [if_pos c10] at h
    refine w_if_eq_t (q := 82) d_Hall_tellRule_75 rfl c10 ?_
    refine w_iconst (q := 83) (v := 0) d_Hall_tellRule_82 rfl (by decide) ?_
    refine w_ls (ls' := [some (.ref 0), some (.int p0), none, some (.int p2), some (.ref ((15 + 4) + 2))]) (And.intro rfl (And.intro rfl (And.intro rfl (And.intro rfl trivial)))) ?_
    exact ok_Hall_tellRule_j83 h
  · rw [if_neg c10] at h
    refine w_if_eq_f (q := 78) d_Hall_tellRule_75 82 rfl rfl c10 ?_
    refine w_iconst (q := 79) (v := 1) d_Hall_tellRule_78 rfl (by decide) ?_
    refine w_goto (q := 83) d_Hall_tellRule_79 rfl ?_
    refine w_ls (ls' := [some (.ref 0), some (.int p0), none, some (.int p2), some (.ref ((15 + 4) + 2))]) (And.intro rfl (And.intro rfl (And.intro rfl (And.intro rfl trivial)))) ?_
    exact ok_Hall_tellRule_j83 h
def sp_Hall_may (F : Nat) (p0 : Int32) (p1 : Int32) (g : Mem) : Option ((Int32 × Mem) ⊕ Nat) := (sp_Hall_needMonk p0 g).bind fun r2 => (match r2 with | .inl _u => (sp_Hall_needEntry p1 g).bind fun r4 => (match r4 with | .inl _u => (sp_Hair_isThere 23 15 p1 g).bind fun v5 => if v5 = 0 then some (.inl (0, g)) else (sp_Roll_cell 15 p1 1 g).bind fun v7 => (rd g (15 + 1) 6 v7).bind fun v8 => if v8 = 3 then if p0 = v7 then some (.inl (1, g)) else some (.inl (0, g)) else (sp_Rule_isNone (15 + 4) g).bind fun v11 => if v11 = 0 then (sp_Hall_tellRule p0 p1 v7 g).bind fun v13 => (sp_Rule_holds F (15 + 4) v13).bind fun v14 => (bl v14.1).bind fun v15 => some (.inl (v15, v14.2)) else if p0 = v7 then some (.inl (1, g)) else (sp_Hair_isGrey 23 15 v7 g).bind fun v17 => if v17 = 0 then some (.inl (1, g)) else some (.inl (0, g)) | .inr e => some (.inr e)) | .inr e => some (.inr e))
theorem ok_Hall_may {γ : GG} {tt : Bool} {F : Nat} {p0 : Int32} {p1 : Int32} {g : Mem} {res : (Int32 × Mem) ⊕ Nat} (h : sp_Hall_may F p0 p1 g = some res) : CA γ M_Hall_may 4 [.ref 0, .int p0, .int p1] SH g tt (bO res) (pEI SH g tt res) := by
  refine CA.of mw_Hall_may.1 1 rfl ?_
  show WA γ M_Hall_may 4 0 [some (.ref 0), some (.int p0), some (.int p1), none] [] SH g tt (bO res) (pEI SH g tt res)
  unfold sp_Hall_may at h
  refine w_aload_n (q := 1) d_Hall_may_0 rfl rfl ?_
  refine w_iload_n (q := 2) d_Hall_may_1 rfl rfl ?_
  obtain ⟨r2, hv, h⟩ := bnd h
  rcases r2 with _u | e
  · refine w_callVv (q := 5) (M' := M_Hall_needMonk) (n' := 0) (k := 0) (As := [.int p0]) (sh' := SH) (b1 := (0, 0)) d_Hall_may_2 rfl mw_Hall_needMonk (by decide) (by decide) ml_Hall_180 (by decide) s_0 (by decide) rfl rfl rfl (leb rfl) (bz _) (fun _ => rfl) (ok_Hall_needMonk hv) ?_
    refine w_aload_n (q := 6) d_Hall_may_5 rfl rfl ?_
    refine w_iload_n (q := 7) d_Hall_may_6 rfl rfl ?_
    obtain ⟨r4, hv, h⟩ := bnd h
    rcases r4 with _u | e
    · refine w_callVv (q := 10) (M' := M_Hall_needEntry) (n' := 0) (k := 0) (As := [.int p1]) (sh' := SH) (b1 := (0, 0)) d_Hall_may_7 rfl mw_Hall_needEntry (by decide) (by decide) ml_Hall_204 (by decide) s_0 (by decide) rfl rfl rfl (leb rfl) (bz _) (fun _ => rfl) (ok_Hall_needEntry hv) ?_
      refine w_aload_n (q := 11) d_Hall_may_10 rfl rfl ?_
      refine w_get (q := 14) (ci := 11) (j := 6) d_Hall_may_11 rfl (by decide) fl_Hall_42 (by decide) (by decide) s_0 rfl rfl ?_
      refine w_iload_n (q := 15) d_Hall_may_14 rfl rfl ?_
      obtain ⟨v5, hv, h⟩ := bnd h
      refine w_callVi (q := 18) (M' := M_Hair_isThere) (n' := 1) (k := 23) (As := [.int p1]) (sh' := SH) (b1 := (0, 0)) d_Hall_may_15 rfl mw_Hair_isThere (by decide) (by decide) ml_Hall_212 i_23.2.1 i_23.1 (by decide) rfl rfl rfl (leb rfl) (bz _) (fun _ => rfl) (ok_Hair_isThere i_23 hv) ?_
      by_cases c6 : v5 = 0
      · rw [if_pos c6] at h
        refine w_if_ne_f (q := 21) d_Hall_may_18 23 rfl rfl c6 ?_
        refine w_iconst (q := 22) (v := 0) d_Hall_may_21 rfl (by decide) ?_
        cases h
        exact w_ireturn d_Hall_may_22 rfl rfl ⟨rfl, rfl, rfl, rfl⟩
      · rw [if_neg c6] at h
        refine w_if_ne_t (q := 23) d_Hall_may_18 rfl c6 ?_
        refine w_aload_n (q := 24) d_Hall_may_23 rfl rfl ?_
        refine w_get (q := 27) (ci := 11) (j := 5) d_Hall_may_24 rfl (by decide) fl_Hall_33 (by decide) (by decide) s_0 rfl rfl ?_
        refine w_iload_n (q := 28) d_Hall_may_27 rfl rfl ?_
        refine w_iconst (q := 29) (v := 1) d_Hall_may_28 rfl (by decide) ?_
        obtain ⟨v7, hv, h⟩ := bnd h
        refine w_callVi (q := 32) (M' := M_Roll_cell) (n' := 0) (k := 15) (As := [.int p1, .int 1]) (sh' := SH) (b1 := (0, 0)) d_Hall_may_29 rfl mw_Roll_cell (by decide) (by decide) ml_Hall_218 i_15.2.1 i_15.1 (by decide) rfl rfl rfl (leb rfl) (bz _) (fun _ => rfl) (ok_Roll_cell i_15 hv) ?_
        refine w_istore_n (q := 33) (ls' := [some (.ref 0), some (.int p0), some (.int p1), some (.int v7)]) d_Hall_may_32 rfl (by decide) rfl rfl ?_
        refine w_aload_n (q := 34) d_Hall_may_33 rfl rfl ?_
        refine w_get (q := 37) (ci := 11) (j := 5) d_Hall_may_34 rfl (by decide) fl_Hall_33 (by decide) (by decide) s_0 rfl rfl ?_
        refine w_get (q := 40) (ci := 7) (j := 4) d_Hall_may_37 rfl (by decide) fl_Hall_183 (by decide) i_15.2.1 i_15.1 rfl rfl ?_
        refine w_iload_n (q := 41) d_Hall_may_40 rfl rfl ?_
        obtain ⟨v8, hv, h⟩ := bnd h
        obtain ⟨hi, hv⟩ := rd_ok hv
        refine w_iald (q := 42) (t := 0) d_Hall_may_41 rfl i_15.2.2.1.2 i_15.2.2.1.1 hi rfl ?_
        rw [hv]
        refine w_iconst (q := 43) (v := 3) d_Hall_may_42 rfl (by decide) ?_
        by_cases c9 : v8 = 3
        · rw [if_pos c9] at h
          refine w_icmp_ne_f (q := 46) d_Hall_may_43 57 rfl rfl c9 ?_
          refine w_iload_n (q := 47) d_Hall_may_46 rfl rfl ?_
          refine w_iload_n (q := 48) d_Hall_may_47 rfl rfl ?_
          by_cases c10 : p0 = v7
          · rw [if_pos c10] at h
            refine w_icmp_ne_f (q := 51) d_Hall_may_48 55 rfl rfl c10 ?_
            refine w_iconst (q := 52) (v := 1) d_Hall_may_51 rfl (by decide) ?_
            refine w_goto (q := 56) d_Hall_may_52 rfl ?_
            cases h
            exact w_ireturn d_Hall_may_56 rfl rfl ⟨rfl, rfl, rfl, rfl⟩
          · rw [if_neg c10] at h
            refine w_icmp_ne_t (q := 55) d_Hall_may_48 rfl c10 ?_
            refine w_iconst (q := 56) (v := 0) d_Hall_may_55 rfl (by decide) ?_
            cases h
            exact w_ireturn d_Hall_may_56 rfl rfl ⟨rfl, rfl, rfl, rfl⟩
        · rw [if_neg c9] at h
          refine w_icmp_ne_t (q := 57) d_Hall_may_43 rfl c9 ?_
          refine w_aload_n (q := 58) d_Hall_may_57 rfl rfl ?_
          refine w_get (q := 61) (ci := 11) (j := 5) d_Hall_may_58 rfl (by decide) fl_Hall_33 (by decide) (by decide) s_0 rfl rfl ?_
          refine w_get (q := 64) (ci := 7) (j := 7) d_Hall_may_61 rfl (by decide) fl_Hall_225 (by decide) i_15.2.1 i_15.1 rfl rfl ?_
          obtain ⟨v11, hv, h⟩ := bnd h
          refine w_callVi (q := 67) (M' := M_Rule_isNone) (n' := 0) (k := (15 + 4)) (As := []) (sh' := SH) (b1 := (0, 0)) d_Hall_may_64 rfl mw_Rule_isNone (by decide) (by decide) ml_Hall_229 i_15.2.2.2.2.2.2.1 i_15.2.2.2.2.2.1 (by decide) rfl rfl rfl (leb rfl) (bz _) (fun _ => rfl) (ok_Rule_isNone i_15.2.2.2.2.2 hv) ?_
          by_cases c12 : v11 = 0
          · rw [if_pos c12] at h
            refine w_if_eq_t (q := 92) d_Hall_may_67 rfl c12 ?_
            refine w_aload_n (q := 93) d_Hall_may_92 rfl rfl ?_
            refine w_iload_n (q := 94) d_Hall_may_93 rfl rfl ?_
            refine w_iload_n (q := 95) d_Hall_may_94 rfl rfl ?_
            refine w_iload_n (q := 96) d_Hall_may_95 rfl rfl ?_
            obtain ⟨v13, hv, h⟩ := bnd h
            refine w_callVv (q := 99) (M' := M_Hall_tellRule) (n' := 3) (k := 0) (As := [.int p0, .int p1, .int v7]) (sh' := SH) (b1 := (0, 0)) d_Hall_may_96 rfl mw_Hall_tellRule (by decide) (by decide) ml_Hall_235 (by decide) s_0 (by decide) rfl rfl rfl (leb rfl) (bz _) (fun _ => rfl) (ok_Hall_tellRule hv) ?_
            refine w_aload_n (q := 100) d_Hall_may_99 rfl rfl ?_
            refine w_get (q := 103) (ci := 11) (j := 5) d_Hall_may_100 rfl (by decide) fl_Hall_33 (by decide) (by decide) s_0 rfl rfl ?_
            refine w_get (q := 106) (ci := 7) (j := 7) d_Hall_may_103 rfl (by decide) fl_Hall_225 (by decide) i_15.2.1 i_15.1 rfl rfl ?_
            obtain ⟨v14, hv, h⟩ := bnd h
            refine w_callVi (q := 109) (M' := M_Rule_holds) (n' := 2) (k := (15 + 4)) (As := []) (sh' := SH) (b1 := (0, 0)) d_Hall_may_106 rfl mw_Rule_holds (by decide) (by decide) ml_Hall_239 i_15.2.2.2.2.2.2.1 i_15.2.2.2.2.2.1 (by decide) rfl rfl rfl (leb rfl) (bz _) (fun _ => rfl) (ok_Rule_holds i_15.2.2.2.2.2 hv) ?_
            obtain ⟨v15, hv, h⟩ := bnd h
            obtain ⟨hv, hn⟩ := bl_ok hv
            rw [hv] at h
            cases h
            exact w_ireturn d_Hall_may_109 rfl hn ⟨rfl, rfl, rfl, rfl⟩
          · rw [if_neg c12] at h
            refine w_if_eq_f (q := 70) d_Hall_may_67 92 rfl rfl c12 ?_
            refine w_iload_n (q := 71) d_Hall_may_70 rfl rfl ?_
            refine w_iload_n (q := 72) d_Hall_may_71 rfl rfl ?_
            by_cases c16 : p0 = v7
            · rw [if_pos c16] at h
              refine w_icmp_eq_t (q := 86) d_Hall_may_72 rfl c16 ?_
              refine w_iconst (q := 87) (v := 1) d_Hall_may_86 rfl (by decide) ?_
              refine w_goto (q := 91) d_Hall_may_87 rfl ?_
              cases h
              exact w_ireturn d_Hall_may_91 rfl rfl ⟨rfl, rfl, rfl, rfl⟩
            · rw [if_neg c16] at h
              refine w_icmp_eq_f (q := 75) d_Hall_may_72 86 rfl rfl c16 ?_
              refine w_aload_n (q := 76) d_Hall_may_75 rfl rfl ?_
              refine w_get (q := 79) (ci := 11) (j := 6) d_Hall_may_76 rfl (by decide) fl_Hall_42 (by decide) (by decide) s_0 rfl rfl ?_
              refine w_iload_n (q := 80) d_Hall_may_79 rfl rfl ?_
              obtain ⟨v17, hv, h⟩ := bnd h
              refine w_callVi (q := 83) (M' := M_Hair_isGrey) (n' := 2) (k := 23) (As := [.int v7]) (sh' := SH) (b1 := (0, 0)) d_Hall_may_80 rfl mw_Hair_isGrey (by decide) (by decide) ml_Hall_195 i_23.2.1 i_23.1 (by decide) rfl rfl rfl (leb rfl) (bz _) (fun _ => rfl) (ok_Hair_isGrey i_23 hv) ?_
              by_cases c18 : v17 = 0
              · rw [if_pos c18] at h
                refine w_if_ne_f (q := 86) d_Hall_may_83 90 rfl rfl c18 ?_
                refine w_iconst (q := 87) (v := 1) d_Hall_may_86 rfl (by decide) ?_
                refine w_goto (q := 91) d_Hall_may_87 rfl ?_
                cases h
                exact w_ireturn d_Hall_may_91 rfl rfl ⟨rfl, rfl, rfl, rfl⟩
              · rw [if_neg c18] at h
                refine w_if_ne_t (q := 90) d_Hall_may_83 rfl c18 ?_
                refine w_iconst (q := 91) (v := 0) d_Hall_may_90 rfl (by decide) ?_
                cases h
                exact w_ireturn d_Hall_may_91 rfl rfl ⟨rfl, rfl, rfl, rfl⟩
    · cases h
      exact w_callVx (M' := M_Hall_needEntry) (n' := 0) (k := 0) (As := [.int p1]) (sh' := SH) (E := exS9 e) d_Hall_may_7 mw_Hall_needEntry (by decide) (by decide) ml_Hall_204 (by decide) s_0 (by decide) rfl rfl rfl (leb rfl) rfl (ok_Hall_needEntry hv) ⟨rfl, rfl, rfl, rfl⟩
  · cases h
    exact w_callVx (M' := M_Hall_needMonk) (n' := 0) (k := 0) (As := [.int p0]) (sh' := SH) (E := exS9 e) d_Hall_may_2 mw_Hall_needMonk (by decide) (by decide) ml_Hall_180 (by decide) s_0 (by decide) rfl rfl rfl (leb rfl) rfl (ok_Hall_needMonk hv) ⟨rfl, rfl, rfl, rfl⟩
def sp_Hall_refuseAct (g : Mem) : Option (Int32 × Mem) := (rd g 2 3 1).bind fun v1 => (wr g 2 3 1 (v1 + 1)).bind fun g2 => some ((-1), g2)
theorem ok_Hall_refuseAct {γ : GG} {tt : Bool} {g : Mem} {res : Int32 × Mem} (h : sp_Hall_refuseAct g = some res) : CA γ M_Hall_refuseAct 0 [.ref 0] SH g tt (0, 0) (pI SH res.1 res.2 tt) := by
  refine CA.of mw_Hall_refuseAct.1 0 rfl ?_
  show WA γ M_Hall_refuseAct 0 0 [some (.ref 0)] [] SH g tt (0, 0) (pI SH res.1 res.2 tt)
  unfold sp_Hall_refuseAct at h
  refine w_aload_n (q := 1) d_Hall_refuseAct_0 rfl rfl ?_
  refine w_get (q := 4) (ci := 11) (j := 3) d_Hall_refuseAct_1 rfl (by decide) fl_Hall_17 (by decide) (by decide) s_0 rfl rfl ?_
  refine w_iconst (q := 5) (v := 1) d_Hall_refuseAct_4 rfl (by decide) ?_
  refine w_dup2 (q := 6) d_Hall_refuseAct_5 rfl rfl rfl ?_
  obtain ⟨v1, hv, h⟩ := bnd h
  obtain ⟨hi, hv⟩ := rd_ok hv
  refine w_iald (q := 7) (t := 0) d_Hall_refuseAct_6 rfl a_2.2 a_2.1 hi rfl ?_
  rw [hv]
  refine w_iconst (q := 8) (v := 1) d_Hall_refuseAct_7 rfl (by decide) ?_
  refine w_iadd (q := 9) d_Hall_refuseAct_8 rfl ?_
  obtain ⟨g2, hv, h⟩ := bnd h
  obtain ⟨hi, hv⟩ := wr_ok hv
  refine w_iast (q := 10) d_Hall_refuseAct_9 rfl a_2.2 a_2.1 hi hv ?_
  refine w_iconst (q := 11) (v := (-1)) d_Hall_refuseAct_10 rfl (by decide) ?_
  cases h
  exact w_ireturn d_Hall_refuseAct_11 rfl rfl ⟨rfl, rfl, rfl, rfl⟩
def sp_Hall_years (F : Nat) (p0 : Int32) (g : Mem) : Option (Int32 × Mem) := if p0 < 1 then (sp_Hall_refuseAct g).bind fun v2 => some (v2.1, v2.2) else if 30 < p0 then (sp_Hall_refuseAct g).bind fun v4 => some (v4.1, v4.2) else if ((g 23 3) + p0) ≤ 999 then (sp_Acts_keep 26 23 15 g).bind fun v6 => (sp_Hair_pass F 23 15 p0 v6).bind fun v7 => some (v7 23 3, v7) else (sp_Hall_refuseAct g).bind fun v8 => some (v8.1, v8.2)
theorem ok_Hall_years {γ : GG} {tt : Bool} {F : Nat} {p0 : Int32} {g : Mem} {res : Int32 × Mem} (h : sp_Hall_years F p0 g = some res) : CA γ M_Hall_years 5 [.ref 0, .int p0] SH g tt (0, 0) (pI SH res.1 res.2 tt) := by
  refine CA.of mw_Hall_years.1 0 rfl ?_
  show WA γ M_Hall_years 5 0 [some (.ref 0), some (.int p0)] [] SH g tt (0, 0) (pI SH res.1 res.2 tt)
  unfold sp_Hall_years at h
  refine w_iload_n (q := 1) d_Hall_years_0 rfl rfl ?_
  refine w_iconst (q := 2) (v := 1) d_Hall_years_1 rfl (by decide) ?_
  by_cases c1 : p0 < 1
  · rw [if_pos c1] at h
    refine w_icmp_lt_t (q := 26) d_Hall_years_2 rfl c1 ?_
    refine w_aload_n (q := 27) d_Hall_years_26 rfl rfl ?_
    obtain ⟨v2, hv, h⟩ := bnd h
    refine w_callVi (q := 30) (M' := M_Hall_refuseAct) (n' := 0) (k := 0) (As := []) (sh' := SH) (b1 := (0, 0)) d_Hall_years_27 rfl mw_Hall_refuseAct (by decide) (by decide) ml_Hall_245 (by decide) s_0 (by decide) rfl rfl rfl (leb rfl) (bz _) (fun _ => rfl) (ok_Hall_refuseAct hv) ?_
    cases h
    exact w_ireturn d_Hall_years_30 rfl rfl ⟨rfl, rfl, rfl, rfl⟩
  · rw [if_neg c1] at h
    refine w_icmp_lt_f (q := 5) d_Hall_years_2 26 rfl rfl c1 ?_
    refine w_iload_n (q := 6) d_Hall_years_5 rfl rfl ?_
    refine w_bipush (q := 8) (v := 30) d_Hall_years_6 rfl (by decide) ?_
    by_cases c3 : 30 < p0
    · rw [if_pos c3] at h
      refine w_icmp_gt_t (q := 26) d_Hall_years_8 rfl c3 ?_
      refine w_aload_n (q := 27) d_Hall_years_26 rfl rfl ?_
      obtain ⟨v4, hv, h⟩ := bnd h
      refine w_callVi (q := 30) (M' := M_Hall_refuseAct) (n' := 0) (k := 0) (As := []) (sh' := SH) (b1 := (0, 0)) d_Hall_years_27 rfl mw_Hall_refuseAct (by decide) (by decide) ml_Hall_245 (by decide) s_0 (by decide) rfl rfl rfl (leb rfl) (bz _) (fun _ => rfl) (ok_Hall_refuseAct hv) ?_
      cases h
      exact w_ireturn d_Hall_years_30 rfl rfl ⟨rfl, rfl, rfl, rfl⟩
    · rw [if_neg c3] at h
      refine w_icmp_gt_f (q := 11) d_Hall_years_8 26 rfl rfl c3 ?_
      refine w_aload_n (q := 12) d_Hall_years_11 rfl rfl ?_
      refine w_get (q := 15) (ci := 11) (j := 6) d_Hall_years_12 rfl (by decide) fl_Hall_42 (by decide) (by decide) s_0 rfl rfl ?_
      refine w_get (q := 18) (ci := 2) (j := 3) d_Hall_years_15 rfl (by decide) fl_Hall_156 (by decide) i_23.2.1 i_23.1 rfl rfl ?_
      refine w_iload_n (q := 19) d_Hall_years_18 rfl rfl ?_
      refine w_iadd (q := 20) d_Hall_years_19 rfl ?_
      refine w_sipush (q := 23) (v := 999) d_Hall_years_20 rfl (by decide) ?_
      by_cases c5 : ((g 23 3) + p0) ≤ 999
      · rw [if_pos c5] at h
        refine w_icmp_le_t (q := 31) d_Hall_years_23 rfl c5 ?_
        refine w_aload_n (q := 32) d_Hall_years_31 rfl rfl ?_
        refine w_get (q := 35) (ci := 11) (j := 7) d_Hall_years_32 rfl (by decide) fl_Hall_49 (by decide) (by decide) s_0 rfl rfl ?_
        refine w_aload_n (q := 36) d_Hall_years_35 rfl rfl ?_
        refine w_get (q := 39) (ci := 11) (j := 6) d_Hall_years_36 rfl (by decide) fl_Hall_42 (by decide) (by decide) s_0 rfl rfl ?_
        obtain ⟨v6, hv, h⟩ := bnd h
        refine w_callVv (q := 42) (M' := M_Acts_keep) (n' := 1) (k := 26) (As := [.ref 23]) (sh' := SH) (b1 := (0, 0)) d_Hall_years_39 rfl mw_Acts_keep (by decide) (by decide) ml_Hall_248 i_26.2.1 i_26.1 (by decide) rfl rfl rfl (leb rfl) (bz _) (fun _ => rfl) (ok_Acts_keep i_26 i_23 hv) ?_
        refine w_aload_n (q := 43) d_Hall_years_42 rfl rfl ?_
        refine w_get (q := 46) (ci := 11) (j := 6) d_Hall_years_43 rfl (by decide) fl_Hall_42 (by decide) (by decide) s_0 rfl rfl ?_
        refine w_iload_n (q := 47) d_Hall_years_46 rfl rfl ?_
        obtain ⟨v7, hv, h⟩ := bnd h
        refine w_callVv (q := 50) (M' := M_Hair_pass) (n' := 4) (k := 23) (As := [.int p0]) (sh' := SH) (b1 := (0, 0)) d_Hall_years_47 rfl mw_Hair_pass (by decide) (by decide) ml_Hall_251 i_23.2.1 i_23.1 (by decide) rfl rfl rfl (leb rfl) (bz _) (fun _ => rfl) (ok_Hair_pass i_23 hv) ?_
        refine w_aload_n (q := 51) d_Hall_years_50 rfl rfl ?_
        refine w_get (q := 54) (ci := 11) (j := 6) d_Hall_years_51 rfl (by decide) fl_Hall_42 (by decide) (by decide) s_0 rfl rfl ?_
        refine w_get (q := 57) (ci := 2) (j := 3) d_Hall_years_54 rfl (by decide) fl_Hall_156 (by decide) i_23.2.1 i_23.1 rfl rfl ?_
        cases h
        exact w_ireturn d_Hall_years_57 rfl rfl ⟨rfl, rfl, rfl, rfl⟩
      · rw [if_neg c5] at h
        refine w_icmp_le_f (q := 26) d_Hall_years_23 31 rfl rfl c5 ?_
        refine w_aload_n (q := 27) d_Hall_years_26 rfl rfl ?_
        obtain ⟨v8, hv, h⟩ := bnd h
        refine w_callVi (q := 30) (M' := M_Hall_refuseAct) (n' := 0) (k := 0) (As := []) (sh' := SH) (b1 := (0, 0)) d_Hall_years_27 rfl mw_Hall_refuseAct (by decide) (by decide) ml_Hall_245 (by decide) s_0 (by decide) rfl rfl rfl (leb rfl) (bz _) (fun _ => rfl) (ok_Hall_refuseAct hv) ?_
        cases h
        exact w_ireturn d_Hall_years_30 rfl rfl ⟨rfl, rfl, rfl, rfl⟩
def sp_Hall_braid (p0 : Int32) (p1 : Int32) (p2 : Int32) (p3 : Int32) (g : Mem) : Option ((Int32 × Mem) ⊕ Nat) := (sp_Hall_needMonk p0 g).bind fun r2 => (match r2 with | .inl _u => (sp_Hair_isFull 23 15 g).bind fun v3 => if v3 = 0 then (sp_Hair_isDead 23 15 p0 g).bind fun v5 => if v5 = 0 then (sp_Hall_isKind p1 g).bind fun v7 => if v7 = 0 then (sp_Hall_refuseAct g).bind fun v9 => some (.inl (v9.1, v9.2)) else (sp_Hall_isAbout p2 g).bind fun v10 => if v10 = 0 then (sp_Hall_refuseAct g).bind fun v12 => some (.inl (v12.1, v12.2)) else (sp_Hall_isWithin p3 999 g).bind fun v13 => if v13 = 0 then (sp_Hall_refuseAct g).bind fun v15 => some (.inl (v15.1, v15.2)) else (sp_Acts_keep 26 23 15 g).bind fun v16 => (sp_Hair_braidIn 23 15 p0 (v16 23 3) p1 p2 p3 v16).bind fun v17 => some (.inl (v17.1, v17.2)) else (sp_Hall_refuseAct g).bind fun v18 => some (.inl (v18.1, v18.2)) else (sp_Hall_refuseAct g).bind fun v19 => some (.inl (v19.1, v19.2)) | .inr e => some (.inr e))
theorem ok_Hall_braid {γ : GG} {tt : Bool} {p0 : Int32} {p1 : Int32} {p2 : Int32} {p3 : Int32} {g : Mem} {res : (Int32 × Mem) ⊕ Nat} (h : sp_Hall_braid p0 p1 p2 p3 g = some res) : CA γ M_Hall_braid 4 [.ref 0, .int p0, .int p1, .int p2, .int p3] SH g tt (bO res) (pEI SH g tt res) := by
  refine CA.of mw_Hall_braid.1 0 rfl ?_
  show WA γ M_Hall_braid 4 0 [some (.ref 0), some (.int p0), some (.int p1), some (.int p2), some (.int p3)] [] SH g tt (bO res) (pEI SH g tt res)
  unfold sp_Hall_braid at h
  refine w_aload_n (q := 1) d_Hall_braid_0 rfl rfl ?_
  refine w_iload_n (q := 2) d_Hall_braid_1 rfl rfl ?_
  obtain ⟨r2, hv, h⟩ := bnd h
  rcases r2 with _u | e
  · refine w_callVv (q := 5) (M' := M_Hall_needMonk) (n' := 0) (k := 0) (As := [.int p0]) (sh' := SH) (b1 := (0, 0)) d_Hall_braid_2 rfl mw_Hall_needMonk (by decide) (by decide) ml_Hall_180 (by decide) s_0 (by decide) rfl rfl rfl (leb rfl) (bz _) (fun _ => rfl) (ok_Hall_needMonk hv) ?_
    refine w_aload_n (q := 6) d_Hall_braid_5 rfl rfl ?_
    refine w_get (q := 9) (ci := 11) (j := 6) d_Hall_braid_6 rfl (by decide) fl_Hall_42 (by decide) (by decide) s_0 rfl rfl ?_
    obtain ⟨v3, hv, h⟩ := bnd h
    refine w_callVi (q := 12) (M' := M_Hair_isFull) (n' := 0) (k := 23) (As := []) (sh' := SH) (b1 := (0, 0)) d_Hall_braid_9 rfl mw_Hair_isFull (by decide) (by decide) ml_Hall_254 i_23.2.1 i_23.1 (by decide) rfl rfl rfl (leb rfl) (bz _) (fun _ => rfl) (ok_Hair_isFull i_23 hv) ?_
    by_cases c4 : v3 = 0
    · rw [if_pos c4] at h
      refine w_if_ne_f (q := 15) d_Hall_braid_12 51 rfl rfl c4 ?_
      refine w_aload_n (q := 16) d_Hall_braid_15 rfl rfl ?_
      refine w_get (q := 19) (ci := 11) (j := 6) d_Hall_braid_16 rfl (by decide) fl_Hall_42 (by decide) (by decide) s_0 rfl rfl ?_
      refine w_iload_n (q := 20) d_Hall_braid_19 rfl rfl ?_
      obtain ⟨v5, hv, h⟩ := bnd h
      refine w_callVi (q := 23) (M' := M_Hair_isDead) (n' := 0) (k := 23) (As := [.int p0]) (sh' := SH) (b1 := (0, 0)) d_Hall_braid_20 rfl mw_Hair_isDead (by decide) (by decide) ml_Hall_257 i_23.2.1 i_23.1 (by decide) rfl rfl rfl (leb rfl) (bz _) (fun _ => rfl) (ok_Hair_isDead i_23 hv) ?_
      by_cases c6 : v5 = 0
      · rw [if_pos c6] at h
        refine w_if_ne_f (q := 26) d_Hall_braid_23 51 rfl rfl c6 ?_
        refine w_iload_n (q := 27) d_Hall_braid_26 rfl rfl ?_
        obtain ⟨v7, hv, h⟩ := bnd h
        refine w_callSi (q := 30) (M' := M_Hall_isKind) (n' := 1) (As := [.int p1]) (sh' := SH) (b1 := (0, 0)) d_Hall_braid_27 rfl mw_Hall_isKind (by decide) (by decide) ml_Hall_260 rfl rfl (leb rfl) (bz _) (fun _ => rfl) (ok_Hall_isKind hv) ?_
        by_cases c8 : v7 = 0
        · rw [if_pos c8] at h
          refine w_if_eq_t (q := 51) d_Hall_braid_30 rfl c8 ?_
          refine w_aload_n (q := 52) d_Hall_braid_51 rfl rfl ?_
          obtain ⟨v9, hv, h⟩ := bnd h
          refine w_callVi (q := 55) (M' := M_Hall_refuseAct) (n' := 0) (k := 0) (As := []) (sh' := SH) (b1 := (0, 0)) d_Hall_braid_52 rfl mw_Hall_refuseAct (by decide) (by decide) ml_Hall_245 (by decide) s_0 (by decide) rfl rfl rfl (leb rfl) (bz _) (fun _ => rfl) (ok_Hall_refuseAct hv) ?_
          cases h
          exact w_ireturn d_Hall_braid_55 rfl rfl ⟨rfl, rfl, rfl, rfl⟩
        · rw [if_neg c8] at h
          refine w_if_eq_f (q := 33) d_Hall_braid_30 51 rfl rfl c8 ?_
          refine w_iload_n (q := 34) d_Hall_braid_33 rfl rfl ?_
          obtain ⟨v10, hv, h⟩ := bnd h
          refine w_callSi (q := 37) (M' := M_Hall_isAbout) (n' := 1) (As := [.int p2]) (sh' := SH) (b1 := (0, 0)) d_Hall_braid_34 rfl mw_Hall_isAbout (by decide) (by decide) ml_Hall_263 rfl rfl (leb rfl) (bz _) (fun _ => rfl) (ok_Hall_isAbout hv) ?_
          by_cases c11 : v10 = 0
          · rw [if_pos c11] at h
            refine w_if_eq_t (q := 51) d_Hall_braid_37 rfl c11 ?_
            refine w_aload_n (q := 52) d_Hall_braid_51 rfl rfl ?_
            obtain ⟨v12, hv, h⟩ := bnd h
            refine w_callVi (q := 55) (M' := M_Hall_refuseAct) (n' := 0) (k := 0) (As := []) (sh' := SH) (b1 := (0, 0)) d_Hall_braid_52 rfl mw_Hall_refuseAct (by decide) (by decide) ml_Hall_245 (by decide) s_0 (by decide) rfl rfl rfl (leb rfl) (bz _) (fun _ => rfl) (ok_Hall_refuseAct hv) ?_
            cases h
            exact w_ireturn d_Hall_braid_55 rfl rfl ⟨rfl, rfl, rfl, rfl⟩
          · rw [if_neg c11] at h
            refine w_if_eq_f (q := 40) d_Hall_braid_37 51 rfl rfl c11 ?_
            refine w_iload (q := 42) d_Hall_braid_40 rfl rfl ?_
            refine w_sipush (q := 45) (v := 999) d_Hall_braid_42 rfl (by decide) ?_
            obtain ⟨v13, hv, h⟩ := bnd h
            refine w_callSi (q := 48) (M' := M_Hall_isWithin) (n' := 0) (As := [.int p3, .int 999]) (sh' := SH) (b1 := (0, 0)) d_Hall_braid_45 rfl mw_Hall_isWithin (by decide) (by decide) ml_Hall_266 rfl rfl (leb rfl) (bz _) (fun _ => rfl) (ok_Hall_isWithin hv) ?_
            by_cases c14 : v13 = 0
            · rw [if_pos c14] at h
              refine w_if_ne_f (q := 51) d_Hall_braid_48 56 rfl rfl c14 ?_
              refine w_aload_n (q := 52) d_Hall_braid_51 rfl rfl ?_
              obtain ⟨v15, hv, h⟩ := bnd h
              refine w_callVi (q := 55) (M' := M_Hall_refuseAct) (n' := 0) (k := 0) (As := []) (sh' := SH) (b1 := (0, 0)) d_Hall_braid_52 rfl mw_Hall_refuseAct (by decide) (by decide) ml_Hall_245 (by decide) s_0 (by decide) rfl rfl rfl (leb rfl) (bz _) (fun _ => rfl) (ok_Hall_refuseAct hv) ?_
              cases h
              exact w_ireturn d_Hall_braid_55 rfl rfl ⟨rfl, rfl, rfl, rfl⟩
            · rw [if_neg c14] at h
              refine w_if_ne_t (q := 56) d_Hall_braid_48 rfl c14 ?_
              refine w_aload_n (q := 57) d_Hall_braid_56 rfl rfl ?_
              refine w_get (q := 60) (ci := 11) (j := 7) d_Hall_braid_57 rfl (by decide) fl_Hall_49 (by decide) (by decide) s_0 rfl rfl ?_
              refine w_aload_n (q := 61) d_Hall_braid_60 rfl rfl ?_
              refine w_get (q := 64) (ci := 11) (j := 6) d_Hall_braid_61 rfl (by decide) fl_Hall_42 (by decide) (by decide) s_0 rfl rfl ?_
              obtain ⟨v16, hv, h⟩ := bnd h
              refine w_callVv (q := 67) (M' := M_Acts_keep) (n' := 1) (k := 26) (As := [.ref 23]) (sh' := SH) (b1 := (0, 0)) d_Hall_braid_64 rfl mw_Acts_keep (by decide) (by decide) ml_Hall_248 i_26.2.1 i_26.1 (by decide) rfl rfl rfl (leb rfl) (bz _) (fun _ => rfl) (ok_Acts_keep i_26 i_23 hv) ?_
              refine w_aload_n (q := 68) d_Hall_braid_67 rfl rfl ?_
              refine w_get (q := 71) (ci := 11) (j := 6) d_Hall_braid_68 rfl (by decide) fl_Hall_42 (by decide) (by decide) s_0 rfl rfl ?_
              refine w_iload_n (q := 72) d_Hall_braid_71 rfl rfl ?_
              refine w_aload_n (q := 73) d_Hall_braid_72 rfl rfl ?_
              refine w_get (q := 76) (ci := 11) (j := 6) d_Hall_braid_73 rfl (by decide) fl_Hall_42 (by decide) (by decide) s_0 rfl rfl ?_
              refine w_get (q := 79) (ci := 2) (j := 3) d_Hall_braid_76 rfl (by decide) fl_Hall_156 (by decide) i_23.2.1 i_23.1 rfl rfl ?_
              refine w_iload_n (q := 80) d_Hall_braid_79 rfl rfl ?_
              refine w_iload_n (q := 81) d_Hall_braid_80 rfl rfl ?_
              refine w_iload (q := 83) d_Hall_braid_81 rfl rfl ?_
              obtain ⟨v17, hv, h⟩ := bnd h
              refine w_callVi (q := 86) (M' := M_Hair_braidIn) (n' := 3) (k := 23) (As := [.int p0, .int (v16 23 3), .int p1, .int p2, .int p3]) (sh' := SH) (b1 := (0, 0)) d_Hall_braid_83 rfl mw_Hair_braidIn (by decide) (by decide) ml_Hall_270 i_23.2.1 i_23.1 (by decide) rfl rfl rfl (leb rfl) (bz _) (fun _ => rfl) (ok_Hair_braidIn i_23 hv) ?_
              cases h
              exact w_ireturn d_Hall_braid_86 rfl rfl ⟨rfl, rfl, rfl, rfl⟩
      · rw [if_neg c6] at h
        refine w_if_ne_t (q := 51) d_Hall_braid_23 rfl c6 ?_
        refine w_aload_n (q := 52) d_Hall_braid_51 rfl rfl ?_
        obtain ⟨v18, hv, h⟩ := bnd h
        refine w_callVi (q := 55) (M' := M_Hall_refuseAct) (n' := 0) (k := 0) (As := []) (sh' := SH) (b1 := (0, 0)) d_Hall_braid_52 rfl mw_Hall_refuseAct (by decide) (by decide) ml_Hall_245 (by decide) s_0 (by decide) rfl rfl rfl (leb rfl) (bz _) (fun _ => rfl) (ok_Hall_refuseAct hv) ?_
        cases h
        exact w_ireturn d_Hall_braid_55 rfl rfl ⟨rfl, rfl, rfl, rfl⟩
    · rw [if_neg c4] at h
      refine w_if_ne_t (q := 51) d_Hall_braid_12 rfl c4 ?_
      refine w_aload_n (q := 52) d_Hall_braid_51 rfl rfl ?_
      obtain ⟨v19, hv, h⟩ := bnd h
      refine w_callVi (q := 55) (M' := M_Hall_refuseAct) (n' := 0) (k := 0) (As := []) (sh' := SH) (b1 := (0, 0)) d_Hall_braid_52 rfl mw_Hall_refuseAct (by decide) (by decide) ml_Hall_245 (by decide) s_0 (by decide) rfl rfl rfl (leb rfl) (bz _) (fun _ => rfl) (ok_Hall_refuseAct hv) ?_
      cases h
      exact w_ireturn d_Hall_braid_55 rfl rfl ⟨rfl, rfl, rfl, rfl⟩
  · cases h
    exact w_callVx (M' := M_Hall_needMonk) (n' := 0) (k := 0) (As := [.int p0]) (sh' := SH) (E := exS9 e) d_Hall_braid_2 mw_Hall_needMonk (by decide) (by decide) ml_Hall_180 (by decide) s_0 (by decide) rfl rfl rfl (leb rfl) rfl (ok_Hall_needMonk hv) ⟨rfl, rfl, rfl, rfl⟩
def sp_Hall_copy (F : Nat) (p0 : Int32) (p1 : Int32) (g : Mem) : Option ((Int32 × Mem) ⊕ Nat) := (sp_Hall_needEntry p0 g).bind fun r2 => (match r2 with | .inl _u => (sp_Hall_needMonk p1 g).bind fun r4 => (match r4 with | .inl _u => (sp_Hair_isFull 23 15 g).bind fun v5 => if v5 = 0 then (sp_Hair_isThere 23 15 p0 g).bind fun v7 => if v7 = 0 then (sp_Hall_refuseAct g).bind fun v9 => some (.inl (v9.1, v9.2)) else (sp_Hair_isDead 23 15 p1 g).bind fun v10 => if v10 = 0 then (sp_Roll_cell 15 p0 7 g).bind fun v12 => (sp_Hair_holds F 23 15 p1 v12 g).bind fun v13 => if v13 = 0 then (sp_Acts_keep 26 23 15 g).bind fun v15 => (sp_Hair_copyInto 23 15 p0 p1 (v15 23 3) v15).bind fun v16 => some (.inl (v16.1, v16.2)) else (sp_Hall_refuseAct g).bind fun v17 => some (.inl (v17.1, v17.2)) else (sp_Hall_refuseAct g).bind fun v18 => some (.inl (v18.1, v18.2)) else (sp_Hall_refuseAct g).bind fun v19 => some (.inl (v19.1, v19.2)) | .inr e => some (.inr e)) | .inr e => some (.inr e))
theorem ok_Hall_copy {γ : GG} {tt : Bool} {F : Nat} {p0 : Int32} {p1 : Int32} {g : Mem} {res : (Int32 × Mem) ⊕ Nat} (h : sp_Hall_copy F p0 p1 g = some res) : CA γ M_Hall_copy 4 [.ref 0, .int p0, .int p1] SH g tt (bO res) (pEI SH g tt res) := by
  refine CA.of mw_Hall_copy.1 0 rfl ?_
  show WA γ M_Hall_copy 4 0 [some (.ref 0), some (.int p0), some (.int p1)] [] SH g tt (bO res) (pEI SH g tt res)
  unfold sp_Hall_copy at h
  refine w_aload_n (q := 1) d_Hall_copy_0 rfl rfl ?_
  refine w_iload_n (q := 2) d_Hall_copy_1 rfl rfl ?_
  obtain ⟨r2, hv, h⟩ := bnd h
  rcases r2 with _u | e
  · refine w_callVv (q := 5) (M' := M_Hall_needEntry) (n' := 0) (k := 0) (As := [.int p0]) (sh' := SH) (b1 := (0, 0)) d_Hall_copy_2 rfl mw_Hall_needEntry (by decide) (by decide) ml_Hall_204 (by decide) s_0 (by decide) rfl rfl rfl (leb rfl) (bz _) (fun _ => rfl) (ok_Hall_needEntry hv) ?_
    refine w_aload_n (q := 6) d_Hall_copy_5 rfl rfl ?_
    refine w_iload_n (q := 7) d_Hall_copy_6 rfl rfl ?_
    obtain ⟨r4, hv, h⟩ := bnd h
    rcases r4 with _u | e
    · refine w_callVv (q := 10) (M' := M_Hall_needMonk) (n' := 0) (k := 0) (As := [.int p1]) (sh' := SH) (b1 := (0, 0)) d_Hall_copy_7 rfl mw_Hall_needMonk (by decide) (by decide) ml_Hall_180 (by decide) s_0 (by decide) rfl rfl rfl (leb rfl) (bz _) (fun _ => rfl) (ok_Hall_needMonk hv) ?_
      refine w_aload_n (q := 11) d_Hall_copy_10 rfl rfl ?_
      refine w_get (q := 14) (ci := 11) (j := 6) d_Hall_copy_11 rfl (by decide) fl_Hall_42 (by decide) (by decide) s_0 rfl rfl ?_
      obtain ⟨v5, hv, h⟩ := bnd h
      refine w_callVi (q := 17) (M' := M_Hair_isFull) (n' := 0) (k := 23) (As := []) (sh' := SH) (b1 := (0, 0)) d_Hall_copy_14 rfl mw_Hair_isFull (by decide) (by decide) ml_Hall_254 i_23.2.1 i_23.1 (by decide) rfl rfl rfl (leb rfl) (bz _) (fun _ => rfl) (ok_Hair_isFull i_23 hv) ?_
      by_cases c6 : v5 = 0
      · rw [if_pos c6] at h
        refine w_if_ne_f (q := 20) d_Hall_copy_17 63 rfl rfl c6 ?_
        refine w_aload_n (q := 21) d_Hall_copy_20 rfl rfl ?_
        refine w_get (q := 24) (ci := 11) (j := 6) d_Hall_copy_21 rfl (by decide) fl_Hall_42 (by decide) (by decide) s_0 rfl rfl ?_
        refine w_iload_n (q := 25) d_Hall_copy_24 rfl rfl ?_
        obtain ⟨v7, hv, h⟩ := bnd h
        refine w_callVi (q := 28) (M' := M_Hair_isThere) (n' := 1) (k := 23) (As := [.int p0]) (sh' := SH) (b1 := (0, 0)) d_Hall_copy_25 rfl mw_Hair_isThere (by decide) (by decide) ml_Hall_212 i_23.2.1 i_23.1 (by decide) rfl rfl rfl (leb rfl) (bz _) (fun _ => rfl) (ok_Hair_isThere i_23 hv) ?_
        by_cases c8 : v7 = 0
        · rw [if_pos c8] at h
          refine w_if_eq_t (q := 63) d_Hall_copy_28 rfl c8 ?_
          refine w_aload_n (q := 64) d_Hall_copy_63 rfl rfl ?_
          obtain ⟨v9, hv, h⟩ := bnd h
          refine w_callVi (q := 67) (M' := M_Hall_refuseAct) (n' := 0) (k := 0) (As := []) (sh' := SH) (b1 := (0, 0)) d_Hall_copy_64 rfl mw_Hall_refuseAct (by decide) (by decide) ml_Hall_245 (by decide) s_0 (by decide) rfl rfl rfl (leb rfl) (bz _) (fun _ => rfl) (ok_Hall_refuseAct hv) ?_
          cases h
          exact w_ireturn d_Hall_copy_67 rfl rfl ⟨rfl, rfl, rfl, rfl⟩
        · rw [if_neg c8] at h
          refine w_if_eq_f (q := 31) d_Hall_copy_28 63 rfl rfl c8 ?_
          refine w_aload_n (q := 32) d_Hall_copy_31 rfl rfl ?_
          refine w_get (q := 35) (ci := 11) (j := 6) d_Hall_copy_32 rfl (by decide) fl_Hall_42 (by decide) (by decide) s_0 rfl rfl ?_
          refine w_iload_n (q := 36) d_Hall_copy_35 rfl rfl ?_
          obtain ⟨v10, hv, h⟩ := bnd h
          refine w_callVi (q := 39) (M' := M_Hair_isDead) (n' := 0) (k := 23) (As := [.int p1]) (sh' := SH) (b1 := (0, 0)) d_Hall_copy_36 rfl mw_Hair_isDead (by decide) (by decide) ml_Hall_257 i_23.2.1 i_23.1 (by decide) rfl rfl rfl (leb rfl) (bz _) (fun _ => rfl) (ok_Hair_isDead i_23 hv) ?_
          by_cases c11 : v10 = 0
          · rw [if_pos c11] at h
            refine w_if_ne_f (q := 42) d_Hall_copy_39 63 rfl rfl c11 ?_
            refine w_aload_n (q := 43) d_Hall_copy_42 rfl rfl ?_
            refine w_get (q := 46) (ci := 11) (j := 6) d_Hall_copy_43 rfl (by decide) fl_Hall_42 (by decide) (by decide) s_0 rfl rfl ?_
            refine w_iload_n (q := 47) d_Hall_copy_46 rfl rfl ?_
            refine w_aload_n (q := 48) d_Hall_copy_47 rfl rfl ?_
            refine w_get (q := 51) (ci := 11) (j := 5) d_Hall_copy_48 rfl (by decide) fl_Hall_33 (by decide) (by decide) s_0 rfl rfl ?_
            refine w_iload_n (q := 52) d_Hall_copy_51 rfl rfl ?_
            refine w_bipush (q := 54) (v := 7) d_Hall_copy_52 rfl (by decide) ?_
            obtain ⟨v12, hv, h⟩ := bnd h
            refine w_callVi (q := 57) (M' := M_Roll_cell) (n' := 0) (k := 15) (As := [.int p0, .int 7]) (sh' := SH) (b1 := (0, 0)) d_Hall_copy_54 rfl mw_Roll_cell (by decide) (by decide) ml_Hall_218 i_15.2.1 i_15.1 (by decide) rfl rfl rfl (leb rfl) (bz _) (fun _ => rfl) (ok_Roll_cell i_15 hv) ?_
            obtain ⟨v13, hv, h⟩ := bnd h
            refine w_callVi (q := 60) (M' := M_Hair_holds) (n' := 2) (k := 23) (As := [.int p1, .int v12]) (sh' := SH) (b1 := (0, 0)) d_Hall_copy_57 rfl mw_Hair_holds (by decide) (by decide) ml_Hall_274 i_23.2.1 i_23.1 (by decide) rfl rfl rfl (leb rfl) (bz _) (fun _ => rfl) (ok_Hair_holds i_23 hv) ?_
            by_cases c14 : v13 = 0
            · rw [if_pos c14] at h
              refine w_if_eq_t (q := 68) d_Hall_copy_60 rfl c14 ?_
              refine w_aload_n (q := 69) d_Hall_copy_68 rfl rfl ?_
              refine w_get (q := 72) (ci := 11) (j := 7) d_Hall_copy_69 rfl (by decide) fl_Hall_49 (by decide) (by decide) s_0 rfl rfl ?_
              refine w_aload_n (q := 73) d_Hall_copy_72 rfl rfl ?_
              refine w_get (q := 76) (ci := 11) (j := 6) d_Hall_copy_73 rfl (by decide) fl_Hall_42 (by decide) (by decide) s_0 rfl rfl ?_
              obtain ⟨v15, hv, h⟩ := bnd h
              refine w_callVv (q := 79) (M' := M_Acts_keep) (n' := 1) (k := 26) (As := [.ref 23]) (sh' := SH) (b1 := (0, 0)) d_Hall_copy_76 rfl mw_Acts_keep (by decide) (by decide) ml_Hall_248 i_26.2.1 i_26.1 (by decide) rfl rfl rfl (leb rfl) (bz _) (fun _ => rfl) (ok_Acts_keep i_26 i_23 hv) ?_
              refine w_aload_n (q := 80) d_Hall_copy_79 rfl rfl ?_
              refine w_get (q := 83) (ci := 11) (j := 6) d_Hall_copy_80 rfl (by decide) fl_Hall_42 (by decide) (by decide) s_0 rfl rfl ?_
              refine w_iload_n (q := 84) d_Hall_copy_83 rfl rfl ?_
              refine w_iload_n (q := 85) d_Hall_copy_84 rfl rfl ?_
              refine w_aload_n (q := 86) d_Hall_copy_85 rfl rfl ?_
              refine w_get (q := 89) (ci := 11) (j := 6) d_Hall_copy_86 rfl (by decide) fl_Hall_42 (by decide) (by decide) s_0 rfl rfl ?_
              refine w_get (q := 92) (ci := 2) (j := 3) d_Hall_copy_89 rfl (by decide) fl_Hall_156 (by decide) i_23.2.1 i_23.1 rfl rfl ?_
              obtain ⟨v16, hv, h⟩ := bnd h
              refine w_callVi (q := 95) (M' := M_Hair_copyInto) (n' := 3) (k := 23) (As := [.int p0, .int p1, .int (v15 23 3)]) (sh' := SH) (b1 := (0, 0)) d_Hall_copy_92 rfl mw_Hair_copyInto (by decide) (by decide) ml_Hall_276 i_23.2.1 i_23.1 (by decide) rfl rfl rfl (leb rfl) (bz _) (fun _ => rfl) (ok_Hair_copyInto i_23 hv) ?_
              cases h
              exact w_ireturn d_Hall_copy_95 rfl rfl ⟨rfl, rfl, rfl, rfl⟩
            · rw [if_neg c14] at h
              refine w_if_eq_f (q := 63) d_Hall_copy_60 68 rfl rfl c14 ?_
              refine w_aload_n (q := 64) d_Hall_copy_63 rfl rfl ?_
              obtain ⟨v17, hv, h⟩ := bnd h
              refine w_callVi (q := 67) (M' := M_Hall_refuseAct) (n' := 0) (k := 0) (As := []) (sh' := SH) (b1 := (0, 0)) d_Hall_copy_64 rfl mw_Hall_refuseAct (by decide) (by decide) ml_Hall_245 (by decide) s_0 (by decide) rfl rfl rfl (leb rfl) (bz _) (fun _ => rfl) (ok_Hall_refuseAct hv) ?_
              cases h
              exact w_ireturn d_Hall_copy_67 rfl rfl ⟨rfl, rfl, rfl, rfl⟩
          · rw [if_neg c11] at h
            refine w_if_ne_t (q := 63) d_Hall_copy_39 rfl c11 ?_
            refine w_aload_n (q := 64) d_Hall_copy_63 rfl rfl ?_
            obtain ⟨v18, hv, h⟩ := bnd h
            refine w_callVi (q := 67) (M' := M_Hall_refuseAct) (n' := 0) (k := 0) (As := []) (sh' := SH) (b1 := (0, 0)) d_Hall_copy_64 rfl mw_Hall_refuseAct (by decide) (by decide) ml_Hall_245 (by decide) s_0 (by decide) rfl rfl rfl (leb rfl) (bz _) (fun _ => rfl) (ok_Hall_refuseAct hv) ?_
            cases h
            exact w_ireturn d_Hall_copy_67 rfl rfl ⟨rfl, rfl, rfl, rfl⟩
      · rw [if_neg c6] at h
        refine w_if_ne_t (q := 63) d_Hall_copy_17 rfl c6 ?_
        refine w_aload_n (q := 64) d_Hall_copy_63 rfl rfl ?_
        obtain ⟨v19, hv, h⟩ := bnd h
        refine w_callVi (q := 67) (M' := M_Hall_refuseAct) (n' := 0) (k := 0) (As := []) (sh' := SH) (b1 := (0, 0)) d_Hall_copy_64 rfl mw_Hall_refuseAct (by decide) (by decide) ml_Hall_245 (by decide) s_0 (by decide) rfl rfl rfl (leb rfl) (bz _) (fun _ => rfl) (ok_Hall_refuseAct hv) ?_
        cases h
        exact w_ireturn d_Hall_copy_67 rfl rfl ⟨rfl, rfl, rfl, rfl⟩
    · cases h
      exact w_callVx (M' := M_Hall_needMonk) (n' := 0) (k := 0) (As := [.int p1]) (sh' := SH) (E := exS9 e) d_Hall_copy_7 mw_Hall_needMonk (by decide) (by decide) ml_Hall_180 (by decide) s_0 (by decide) rfl rfl rfl (leb rfl) rfl (ok_Hall_needMonk hv) ⟨rfl, rfl, rfl, rfl⟩
  · cases h
    exact w_callVx (M' := M_Hall_needEntry) (n' := 0) (k := 0) (As := [.int p0]) (sh' := SH) (E := exS9 e) d_Hall_copy_2 mw_Hall_needEntry (by decide) (by decide) ml_Hall_204 (by decide) s_0 (by decide) rfl rfl rfl (leb rfl) rfl (ok_Hall_needEntry hv) ⟨rfl, rfl, rfl, rfl⟩
def sp_Hall_mayBeHandled (p0 : Int32) (g : Mem) : Option (Int32) := (sp_Hair_isThere 23 15 p0 g).bind fun v1 => if v1 = 0 then some 0 else (sp_Hair_isKnotted 23 15 p0 g).bind fun v3 => if v3 = 0 then (sp_Roll_cell 15 p0 1 g).bind fun v5 => (sp_Hair_isDead 23 15 v5 g).bind fun v6 => if v6 = 0 then some 1 else some 0 else some 0
theorem ok_Hall_mayBeHandled {γ : GG} {tt : Bool} {p0 : Int32} {g : Mem} {res : Int32} (h : sp_Hall_mayBeHandled p0 g = some res) : CA γ M_Hall_mayBeHandled 2 [.ref 0, .int p0] SH g tt (0, 0) (pI SH res g tt) := by
  refine CA.of mw_Hall_mayBeHandled.1 0 rfl ?_
  show WA γ M_Hall_mayBeHandled 2 0 [some (.ref 0), some (.int p0)] [] SH g tt (0, 0) (pI SH res g tt)
  unfold sp_Hall_mayBeHandled at h
  refine w_aload_n (q := 1) d_Hall_mayBeHandled_0 rfl rfl ?_
  refine w_get (q := 4) (ci := 11) (j := 6) d_Hall_mayBeHandled_1 rfl (by decide) fl_Hall_42 (by decide) (by decide) s_0 rfl rfl ?_
  refine w_iload_n (q := 5) d_Hall_mayBeHandled_4 rfl rfl ?_
  obtain ⟨v1, hv, h⟩ := bnd h
  refine w_callVi (q := 8) (M' := M_Hair_isThere) (n' := 1) (k := 23) (As := [.int p0]) (sh' := SH) (b1 := (0, 0)) d_Hall_mayBeHandled_5 rfl mw_Hair_isThere (by decide) (by decide) ml_Hall_212 i_23.2.1 i_23.1 (by decide) rfl rfl rfl (leb rfl) (bz _) (fun _ => rfl) (ok_Hair_isThere i_23 hv) ?_
  by_cases c2 : v1 = 0
  · rw [if_pos c2] at h
    refine w_if_eq_t (q := 45) d_Hall_mayBeHandled_8 rfl c2 ?_
    refine w_iconst (q := 46) (v := 0) d_Hall_mayBeHandled_45 rfl (by decide) ?_
    cases h
    exact w_ireturn d_Hall_mayBeHandled_46 rfl rfl ⟨rfl, rfl, rfl, rfl⟩
  · rw [if_neg c2] at h
    refine w_if_eq_f (q := 11) d_Hall_mayBeHandled_8 45 rfl rfl c2 ?_
    refine w_aload_n (q := 12) d_Hall_mayBeHandled_11 rfl rfl ?_
    refine w_get (q := 15) (ci := 11) (j := 6) d_Hall_mayBeHandled_12 rfl (by decide) fl_Hall_42 (by decide) (by decide) s_0 rfl rfl ?_
    refine w_iload_n (q := 16) d_Hall_mayBeHandled_15 rfl rfl ?_
    obtain ⟨v3, hv, h⟩ := bnd h
    refine w_callVi (q := 19) (M' := M_Hair_isKnotted) (n' := 1) (k := 23) (As := [.int p0]) (sh' := SH) (b1 := (0, 0)) d_Hall_mayBeHandled_16 rfl mw_Hair_isKnotted (by decide) (by decide) ml_Hall_209 i_23.2.1 i_23.1 (by decide) rfl rfl rfl (leb rfl) (bz _) (fun _ => rfl) (ok_Hair_isKnotted i_23 hv) ?_
    by_cases c4 : v3 = 0
    · rw [if_pos c4] at h
      refine w_if_ne_f (q := 22) d_Hall_mayBeHandled_19 45 rfl rfl c4 ?_
      refine w_aload_n (q := 23) d_Hall_mayBeHandled_22 rfl rfl ?_
      refine w_get (q := 26) (ci := 11) (j := 6) d_Hall_mayBeHandled_23 rfl (by decide) fl_Hall_42 (by decide) (by decide) s_0 rfl rfl ?_
      refine w_aload_n (q := 27) d_Hall_mayBeHandled_26 rfl rfl ?_
      refine w_get (q := 30) (ci := 11) (j := 5) d_Hall_mayBeHandled_27 rfl (by decide) fl_Hall_33 (by decide) (by decide) s_0 rfl rfl ?_
      refine w_iload_n (q := 31) d_Hall_mayBeHandled_30 rfl rfl ?_
      refine w_iconst (q := 32) (v := 1) d_Hall_mayBeHandled_31 rfl (by decide) ?_
      obtain ⟨v5, hv, h⟩ := bnd h
      refine w_callVi (q := 35) (M' := M_Roll_cell) (n' := 0) (k := 15) (As := [.int p0, .int 1]) (sh' := SH) (b1 := (0, 0)) d_Hall_mayBeHandled_32 rfl mw_Roll_cell (by decide) (by decide) ml_Hall_218 i_15.2.1 i_15.1 (by decide) rfl rfl rfl (leb rfl) (bz _) (fun _ => rfl) (ok_Roll_cell i_15 hv) ?_
      obtain ⟨v6, hv, h⟩ := bnd h
      refine w_callVi (q := 38) (M' := M_Hair_isDead) (n' := 0) (k := 23) (As := [.int v5]) (sh' := SH) (b1 := (0, 0)) d_Hall_mayBeHandled_35 rfl mw_Hair_isDead (by decide) (by decide) ml_Hall_257 i_23.2.1 i_23.1 (by decide) rfl rfl rfl (leb rfl) (bz _) (fun _ => rfl) (ok_Hair_isDead i_23 hv) ?_
      by_cases c7 : v6 = 0
      · rw [if_pos c7] at h
        refine w_if_ne_f (q := 41) d_Hall_mayBeHandled_38 45 rfl rfl c7 ?_
        refine w_iconst (q := 42) (v := 1) d_Hall_mayBeHandled_41 rfl (by decide) ?_
        refine w_goto (q := 46) d_Hall_mayBeHandled_42 rfl ?_
        cases h
        exact w_ireturn d_Hall_mayBeHandled_46 rfl rfl ⟨rfl, rfl, rfl, rfl⟩
      · rw [if_neg c7] at h
        refine w_if_ne_t (q := 45) d_Hall_mayBeHandled_38 rfl c7 ?_
        refine w_iconst (q := 46) (v := 0) d_Hall_mayBeHandled_45 rfl (by decide) ?_
        cases h
        exact w_ireturn d_Hall_mayBeHandled_46 rfl rfl ⟨rfl, rfl, rfl, rfl⟩
    · rw [if_neg c4] at h
      refine w_if_ne_t (q := 45) d_Hall_mayBeHandled_19 rfl c4 ?_
      refine w_iconst (q := 46) (v := 0) d_Hall_mayBeHandled_45 rfl (by decide) ?_
      cases h
      exact w_ireturn d_Hall_mayBeHandled_46 rfl rfl ⟨rfl, rfl, rfl, rfl⟩
def sp_Hall_knot (p0 : Int32) (g : Mem) : Option ((Int32 × Mem) ⊕ Nat) := (sp_Hall_needEntry p0 g).bind fun r2 => (match r2 with | .inl _u => (sp_Hall_mayBeHandled p0 g).bind fun v3 => if v3 = 0 then (sp_Hall_refuseAct g).bind fun v5 => some (.inl (0, v5.2)) else (sp_Acts_keep 26 23 15 g).bind fun v6 => (sp_Hair_tie 23 15 p0 v6).bind fun v7 => some (.inl (1, v7)) | .inr e => some (.inr e))
theorem ok_Hall_knot {γ : GG} {tt : Bool} {p0 : Int32} {g : Mem} {res : (Int32 × Mem) ⊕ Nat} (h : sp_Hall_knot p0 g = some res) : CA γ M_Hall_knot 3 [.ref 0, .int p0] SH g tt (bO res) (pEI SH g tt res) := by
  refine CA.of mw_Hall_knot.1 0 rfl ?_
  show WA γ M_Hall_knot 3 0 [some (.ref 0), some (.int p0)] [] SH g tt (bO res) (pEI SH g tt res)
  unfold sp_Hall_knot at h
  refine w_aload_n (q := 1) d_Hall_knot_0 rfl rfl ?_
  refine w_iload_n (q := 2) d_Hall_knot_1 rfl rfl ?_
  obtain ⟨r2, hv, h⟩ := bnd h
  rcases r2 with _u | e
  · refine w_callVv (q := 5) (M' := M_Hall_needEntry) (n' := 0) (k := 0) (As := [.int p0]) (sh' := SH) (b1 := (0, 0)) d_Hall_knot_2 rfl mw_Hall_needEntry (by decide) (by decide) ml_Hall_204 (by decide) s_0 (by decide) rfl rfl rfl (leb rfl) (bz _) (fun _ => rfl) (ok_Hall_needEntry hv) ?_
    refine w_aload_n (q := 6) d_Hall_knot_5 rfl rfl ?_
    refine w_iload_n (q := 7) d_Hall_knot_6 rfl rfl ?_
    obtain ⟨v3, hv, h⟩ := bnd h
    refine w_callVi (q := 10) (M' := M_Hall_mayBeHandled) (n' := 2) (k := 0) (As := [.int p0]) (sh' := SH) (b1 := (0, 0)) d_Hall_knot_7 rfl mw_Hall_mayBeHandled (by decide) (by decide) ml_Hall_280 (by decide) s_0 (by decide) rfl rfl rfl (leb rfl) (bz _) (fun _ => rfl) (ok_Hall_mayBeHandled hv) ?_
    by_cases c4 : v3 = 0
    · rw [if_pos c4] at h
      refine w_if_ne_f (q := 13) d_Hall_knot_10 20 rfl rfl c4 ?_
      refine w_aload_n (q := 14) d_Hall_knot_13 rfl rfl ?_
      obtain ⟨v5, hv, h⟩ := bnd h
      refine w_callVi (q := 17) (M' := M_Hall_refuseAct) (n' := 0) (k := 0) (As := []) (sh' := SH) (b1 := (0, 0)) d_Hall_knot_14 rfl mw_Hall_refuseAct (by decide) (by decide) ml_Hall_245 (by decide) s_0 (by decide) rfl rfl rfl (leb rfl) (bz _) (fun _ => rfl) (ok_Hall_refuseAct hv) ?_
      refine w_pop (q := 18) d_Hall_knot_17 rfl rfl ?_
      refine w_iconst (q := 19) (v := 0) d_Hall_knot_18 rfl (by decide) ?_
      cases h
      exact w_ireturn d_Hall_knot_19 rfl rfl ⟨rfl, rfl, rfl, rfl⟩
    · rw [if_neg c4] at h
      refine w_if_ne_t (q := 20) d_Hall_knot_10 rfl c4 ?_
      refine w_aload_n (q := 21) d_Hall_knot_20 rfl rfl ?_
      refine w_get (q := 24) (ci := 11) (j := 7) d_Hall_knot_21 rfl (by decide) fl_Hall_49 (by decide) (by decide) s_0 rfl rfl ?_
      refine w_aload_n (q := 25) d_Hall_knot_24 rfl rfl ?_
      refine w_get (q := 28) (ci := 11) (j := 6) d_Hall_knot_25 rfl (by decide) fl_Hall_42 (by decide) (by decide) s_0 rfl rfl ?_
      obtain ⟨v6, hv, h⟩ := bnd h
      refine w_callVv (q := 31) (M' := M_Acts_keep) (n' := 1) (k := 26) (As := [.ref 23]) (sh' := SH) (b1 := (0, 0)) d_Hall_knot_28 rfl mw_Acts_keep (by decide) (by decide) ml_Hall_248 i_26.2.1 i_26.1 (by decide) rfl rfl rfl (leb rfl) (bz _) (fun _ => rfl) (ok_Acts_keep i_26 i_23 hv) ?_
      refine w_aload_n (q := 32) d_Hall_knot_31 rfl rfl ?_
      refine w_get (q := 35) (ci := 11) (j := 6) d_Hall_knot_32 rfl (by decide) fl_Hall_42 (by decide) (by decide) s_0 rfl rfl ?_
      refine w_iload_n (q := 36) d_Hall_knot_35 rfl rfl ?_
      obtain ⟨v7, hv, h⟩ := bnd h
      refine w_callVv (q := 39) (M' := M_Hair_tie) (n' := 0) (k := 23) (As := [.int p0]) (sh' := SH) (b1 := (0, 0)) d_Hall_knot_36 rfl mw_Hair_tie (by decide) (by decide) ml_Hall_283 i_23.2.1 i_23.1 (by decide) rfl rfl rfl (leb rfl) (bz _) (fun _ => rfl) (ok_Hair_tie i_23 hv) ?_
      refine w_iconst (q := 40) (v := 1) d_Hall_knot_39 rfl (by decide) ?_
      cases h
      exact w_ireturn d_Hall_knot_40 rfl rfl ⟨rfl, rfl, rfl, rfl⟩
  · cases h
    exact w_callVx (M' := M_Hall_needEntry) (n' := 0) (k := 0) (As := [.int p0]) (sh' := SH) (E := exS9 e) d_Hall_knot_2 mw_Hall_needEntry (by decide) (by decide) ml_Hall_204 (by decide) s_0 (by decide) rfl rfl rfl (leb rfl) rfl (ok_Hall_needEntry hv) ⟨rfl, rfl, rfl, rfl⟩
def sp_Hall_comb (p0 : Int32) (g : Mem) : Option ((Int32 × Mem) ⊕ Nat) := (sp_Hall_needEntry p0 g).bind fun r2 => (match r2 with | .inl _u => (sp_Hall_mayBeHandled p0 g).bind fun v3 => if v3 = 0 then (sp_Hall_refuseAct g).bind fun v5 => some (.inl (0, v5.2)) else (sp_Acts_keep 26 23 15 g).bind fun v6 => (sp_Hair_lose 23 15 (1 <<< (p0 &&& 31)) v6).bind fun v7 => some (.inl (1, v7.2)) | .inr e => some (.inr e))
theorem ok_Hall_comb {γ : GG} {tt : Bool} {p0 : Int32} {g : Mem} {res : (Int32 × Mem) ⊕ Nat} (h : sp_Hall_comb p0 g = some res) : CA γ M_Hall_comb 3 [.ref 0, .int p0] SH g tt (bO res) (pEI SH g tt res) := by
  refine CA.of mw_Hall_comb.1 0 rfl ?_
  show WA γ M_Hall_comb 3 0 [some (.ref 0), some (.int p0)] [] SH g tt (bO res) (pEI SH g tt res)
  unfold sp_Hall_comb at h
  refine w_aload_n (q := 1) d_Hall_comb_0 rfl rfl ?_
  refine w_iload_n (q := 2) d_Hall_comb_1 rfl rfl ?_
  obtain ⟨r2, hv, h⟩ := bnd h
  rcases r2 with _u | e
  · refine w_callVv (q := 5) (M' := M_Hall_needEntry) (n' := 0) (k := 0) (As := [.int p0]) (sh' := SH) (b1 := (0, 0)) d_Hall_comb_2 rfl mw_Hall_needEntry (by decide) (by decide) ml_Hall_204 (by decide) s_0 (by decide) rfl rfl rfl (leb rfl) (bz _) (fun _ => rfl) (ok_Hall_needEntry hv) ?_
    refine w_aload_n (q := 6) d_Hall_comb_5 rfl rfl ?_
    refine w_iload_n (q := 7) d_Hall_comb_6 rfl rfl ?_
    obtain ⟨v3, hv, h⟩ := bnd h
    refine w_callVi (q := 10) (M' := M_Hall_mayBeHandled) (n' := 2) (k := 0) (As := [.int p0]) (sh' := SH) (b1 := (0, 0)) d_Hall_comb_7 rfl mw_Hall_mayBeHandled (by decide) (by decide) ml_Hall_280 (by decide) s_0 (by decide) rfl rfl rfl (leb rfl) (bz _) (fun _ => rfl) (ok_Hall_mayBeHandled hv) ?_
    by_cases c4 : v3 = 0
    · rw [if_pos c4] at h
      refine w_if_ne_f (q := 13) d_Hall_comb_10 20 rfl rfl c4 ?_
      refine w_aload_n (q := 14) d_Hall_comb_13 rfl rfl ?_
      obtain ⟨v5, hv, h⟩ := bnd h
      refine w_callVi (q := 17) (M' := M_Hall_refuseAct) (n' := 0) (k := 0) (As := []) (sh' := SH) (b1 := (0, 0)) d_Hall_comb_14 rfl mw_Hall_refuseAct (by decide) (by decide) ml_Hall_245 (by decide) s_0 (by decide) rfl rfl rfl (leb rfl) (bz _) (fun _ => rfl) (ok_Hall_refuseAct hv) ?_
      refine w_pop (q := 18) d_Hall_comb_17 rfl rfl ?_
      refine w_iconst (q := 19) (v := 0) d_Hall_comb_18 rfl (by decide) ?_
      cases h
      exact w_ireturn d_Hall_comb_19 rfl rfl ⟨rfl, rfl, rfl, rfl⟩
    · rw [if_neg c4] at h
      refine w_if_ne_t (q := 20) d_Hall_comb_10 rfl c4 ?_
      refine w_aload_n (q := 21) d_Hall_comb_20 rfl rfl ?_
      refine w_get (q := 24) (ci := 11) (j := 7) d_Hall_comb_21 rfl (by decide) fl_Hall_49 (by decide) (by decide) s_0 rfl rfl ?_
      refine w_aload_n (q := 25) d_Hall_comb_24 rfl rfl ?_
      refine w_get (q := 28) (ci := 11) (j := 6) d_Hall_comb_25 rfl (by decide) fl_Hall_42 (by decide) (by decide) s_0 rfl rfl ?_
      obtain ⟨v6, hv, h⟩ := bnd h
      refine w_callVv (q := 31) (M' := M_Acts_keep) (n' := 1) (k := 26) (As := [.ref 23]) (sh' := SH) (b1 := (0, 0)) d_Hall_comb_28 rfl mw_Acts_keep (by decide) (by decide) ml_Hall_248 i_26.2.1 i_26.1 (by decide) rfl rfl rfl (leb rfl) (bz _) (fun _ => rfl) (ok_Acts_keep i_26 i_23 hv) ?_
      refine w_aload_n (q := 32) d_Hall_comb_31 rfl rfl ?_
      refine w_get (q := 35) (ci := 11) (j := 6) d_Hall_comb_32 rfl (by decide) fl_Hall_42 (by decide) (by decide) s_0 rfl rfl ?_
      refine w_iconst (q := 36) (v := 1) d_Hall_comb_35 rfl (by decide) ?_
      refine w_iload_n (q := 37) d_Hall_comb_36 rfl rfl ?_
      refine w_ishl (q := 38) d_Hall_comb_37 rfl ?_
      obtain ⟨v7, hv, h⟩ := bnd h
      refine w_callVi (q := 41) (M' := M_Hair_lose) (n' := 1) (k := 23) (As := [.int (1 <<< (p0 &&& 31))]) (sh' := SH) (b1 := (0, 0)) d_Hall_comb_38 rfl mw_Hair_lose (by decide) (by decide) ml_Hall_286 i_23.2.1 i_23.1 (by decide) rfl rfl rfl (leb rfl) (bz _) (fun _ => rfl) (ok_Hair_lose i_23 hv) ?_
      refine w_pop (q := 42) d_Hall_comb_41 rfl rfl ?_
      refine w_iconst (q := 43) (v := 1) d_Hall_comb_42 rfl (by decide) ?_
      cases h
      exact w_ireturn d_Hall_comb_43 rfl rfl ⟨rfl, rfl, rfl, rfl⟩
  · cases h
    exact w_callVx (M' := M_Hall_needEntry) (n' := 0) (k := 0) (As := [.int p0]) (sh' := SH) (E := exS9 e) d_Hall_comb_2 mw_Hall_needEntry (by decide) (by decide) ml_Hall_204 (by decide) s_0 (by decide) rfl rfl rfl (leb rfl) rfl (ok_Hall_needEntry hv) ⟨rfl, rfl, rfl, rfl⟩
def sp_Hall_shave (F : Nat) (p0 : Int32) (p1 : Int32) (g : Mem) : Option ((Int32 × Mem) ⊕ Nat) := (sp_Hall_needMonk p0 g).bind fun r2 => (match r2 with | .inl _u => if p1 < 0 then (sp_Hall_refuseAct g).bind fun v4 => some (.inl (v4.1, v4.2)) else (rd g (23 + 1) 6 p0).bind fun v5 => if p1 < v5 then (sp_Acts_keep 26 23 15 g).bind fun v7 => (sp_Hair_shaveTo F 23 15 p0 p1 v7).bind fun v8 => some (.inl (v8.1, v8.2)) else (sp_Hall_refuseAct g).bind fun v9 => some (.inl (v9.1, v9.2)) | .inr e => some (.inr e))
theorem ok_Hall_shave {γ : GG} {tt : Bool} {F : Nat} {p0 : Int32} {p1 : Int32} {g : Mem} {res : (Int32 × Mem) ⊕ Nat} (h : sp_Hall_shave F p0 p1 g = some res) : CA γ M_Hall_shave 5 [.ref 0, .int p0, .int p1] SH g tt (bO res) (pEI SH g tt res) := by
  refine CA.of mw_Hall_shave.1 0 rfl ?_
  show WA γ M_Hall_shave 5 0 [some (.ref 0), some (.int p0), some (.int p1)] [] SH g tt (bO res) (pEI SH g tt res)
  unfold sp_Hall_shave at h
  refine w_aload_n (q := 1) d_Hall_shave_0 rfl rfl ?_
  refine w_iload_n (q := 2) d_Hall_shave_1 rfl rfl ?_
  obtain ⟨r2, hv, h⟩ := bnd h
  rcases r2 with _u | e
  · refine w_callVv (q := 5) (M' := M_Hall_needMonk) (n' := 0) (k := 0) (As := [.int p0]) (sh' := SH) (b1 := (0, 0)) d_Hall_shave_2 rfl mw_Hall_needMonk (by decide) (by decide) ml_Hall_180 (by decide) s_0 (by decide) rfl rfl rfl (leb rfl) (bz _) (fun _ => rfl) (ok_Hall_needMonk hv) ?_
    refine w_iload_n (q := 6) d_Hall_shave_5 rfl rfl ?_
    by_cases c3 : p1 < 0
    · rw [if_pos c3] at h
      refine w_if_lt_t (q := 22) d_Hall_shave_6 rfl c3 ?_
      refine w_aload_n (q := 23) d_Hall_shave_22 rfl rfl ?_
      obtain ⟨v4, hv, h⟩ := bnd h
      refine w_callVi (q := 26) (M' := M_Hall_refuseAct) (n' := 0) (k := 0) (As := []) (sh' := SH) (b1 := (0, 0)) d_Hall_shave_23 rfl mw_Hall_refuseAct (by decide) (by decide) ml_Hall_245 (by decide) s_0 (by decide) rfl rfl rfl (leb rfl) (bz _) (fun _ => rfl) (ok_Hall_refuseAct hv) ?_
      cases h
      exact w_ireturn d_Hall_shave_26 rfl rfl ⟨rfl, rfl, rfl, rfl⟩
    · rw [if_neg c3] at h
      refine w_if_lt_f (q := 9) d_Hall_shave_6 22 rfl rfl c3 ?_
      refine w_iload_n (q := 10) d_Hall_shave_9 rfl rfl ?_
      refine w_aload_n (q := 11) d_Hall_shave_10 rfl rfl ?_
      refine w_get (q := 14) (ci := 11) (j := 6) d_Hall_shave_11 rfl (by decide) fl_Hall_42 (by decide) (by decide) s_0 rfl rfl ?_
      refine w_get (q := 17) (ci := 2) (j := 1) d_Hall_shave_14 rfl (by decide) fl_Hall_189 (by decide) i_23.2.1 i_23.1 rfl rfl ?_
      refine w_iload_n (q := 18) d_Hall_shave_17 rfl rfl ?_
      obtain ⟨v5, hv, h⟩ := bnd h
      obtain ⟨hi, hv⟩ := rd_ok hv
      refine w_iald (q := 19) (t := 0) d_Hall_shave_18 rfl i_23.2.2.1.2 i_23.2.2.1.1 hi rfl ?_
      rw [hv]
      by_cases c6 : p1 < v5
      · rw [if_pos c6] at h
        refine w_icmp_lt_t (q := 27) d_Hall_shave_19 rfl c6 ?_
        refine w_aload_n (q := 28) d_Hall_shave_27 rfl rfl ?_
        refine w_get (q := 31) (ci := 11) (j := 7) d_Hall_shave_28 rfl (by decide) fl_Hall_49 (by decide) (by decide) s_0 rfl rfl ?_
        refine w_aload_n (q := 32) d_Hall_shave_31 rfl rfl ?_
        refine w_get (q := 35) (ci := 11) (j := 6) d_Hall_shave_32 rfl (by decide) fl_Hall_42 (by decide) (by decide) s_0 rfl rfl ?_
        obtain ⟨v7, hv, h⟩ := bnd h
        refine w_callVv (q := 38) (M' := M_Acts_keep) (n' := 1) (k := 26) (As := [.ref 23]) (sh' := SH) (b1 := (0, 0)) d_Hall_shave_35 rfl mw_Acts_keep (by decide) (by decide) ml_Hall_248 i_26.2.1 i_26.1 (by decide) rfl rfl rfl (leb rfl) (bz _) (fun _ => rfl) (ok_Acts_keep i_26 i_23 hv) ?_
        refine w_aload_n (q := 39) d_Hall_shave_38 rfl rfl ?_
        refine w_get (q := 42) (ci := 11) (j := 6) d_Hall_shave_39 rfl (by decide) fl_Hall_42 (by decide) (by decide) s_0 rfl rfl ?_
        refine w_iload_n (q := 43) d_Hall_shave_42 rfl rfl ?_
        refine w_iload_n (q := 44) d_Hall_shave_43 rfl rfl ?_
        obtain ⟨v8, hv, h⟩ := bnd h
        refine w_callVi (q := 47) (M' := M_Hair_shaveTo) (n' := 4) (k := 23) (As := [.int p0, .int p1]) (sh' := SH) (b1 := (0, 0)) d_Hall_shave_44 rfl mw_Hair_shaveTo (by decide) (by decide) ml_Hall_289 i_23.2.1 i_23.1 (by decide) rfl rfl rfl (leb rfl) (bz _) (fun _ => rfl) (ok_Hair_shaveTo i_23 hv) ?_
        cases h
        exact w_ireturn d_Hall_shave_47 rfl rfl ⟨rfl, rfl, rfl, rfl⟩
      · rw [if_neg c6] at h
        refine w_icmp_lt_f (q := 22) d_Hall_shave_19 27 rfl rfl c6 ?_
        refine w_aload_n (q := 23) d_Hall_shave_22 rfl rfl ?_
        obtain ⟨v9, hv, h⟩ := bnd h
        refine w_callVi (q := 26) (M' := M_Hall_refuseAct) (n' := 0) (k := 0) (As := []) (sh' := SH) (b1 := (0, 0)) d_Hall_shave_23 rfl mw_Hall_refuseAct (by decide) (by decide) ml_Hall_245 (by decide) s_0 (by decide) rfl rfl rfl (leb rfl) (bz _) (fun _ => rfl) (ok_Hall_refuseAct hv) ?_
        cases h
        exact w_ireturn d_Hall_shave_26 rfl rfl ⟨rfl, rfl, rfl, rfl⟩
  · cases h
    exact w_callVx (M' := M_Hall_needMonk) (n' := 0) (k := 0) (As := [.int p0]) (sh' := SH) (E := exS9 e) d_Hall_shave_2 mw_Hall_needMonk (by decide) (by decide) ml_Hall_180 (by decide) s_0 (by decide) rfl rfl rfl (leb rfl) rfl (ok_Hall_needMonk hv) ⟨rfl, rfl, rfl, rfl⟩
def sp_Hall_moths (F : Nat) (p0 : Int32) (p1 : Int32) (p2 : Int32) (g : Mem) : Option ((Int32 × Mem) ⊕ Nat) := (sp_Hall_needMonk p0 g).bind fun r2 => (match r2 with | .inl _u => (sp_Hall_isWithin p1 60 g).bind fun v3 => if v3 = 0 then (sp_Hall_refuseAct g).bind fun v5 => some (.inl (v5.1, v5.2)) else (sp_Hall_isWithin p2 60 g).bind fun v6 => if v6 = 0 then (sp_Hall_refuseAct g).bind fun v8 => some (.inl (v8.1, v8.2)) else if p1 ≤ p2 then (sp_Acts_keep 26 23 15 g).bind fun v10 => (sp_Hair_eatable F 23 15 p0 p1 p2 v10).bind fun v11 => (sp_Hair_lose 23 15 v11 v10).bind fun v12 => some (.inl (v12.1, v12.2)) else (sp_Hall_refuseAct g).bind fun v13 => some (.inl (v13.1, v13.2)) | .inr e => some (.inr e))
theorem ok_Hall_moths {γ : GG} {tt : Bool} {F : Nat} {p0 : Int32} {p1 : Int32} {p2 : Int32} {g : Mem} {res : (Int32 × Mem) ⊕ Nat} (h : sp_Hall_moths F p0 p1 p2 g = some res) : CA γ M_Hall_moths 4 [.ref 0, .int p0, .int p1, .int p2] SH g tt (bO res) (pEI SH g tt res) := by
  refine CA.of mw_Hall_moths.1 0 rfl ?_
  show WA γ M_Hall_moths 4 0 [some (.ref 0), some (.int p0), some (.int p1), some (.int p2)] [] SH g tt (bO res) (pEI SH g tt res)
  unfold sp_Hall_moths at h
  refine w_aload_n (q := 1) d_Hall_moths_0 rfl rfl ?_
  refine w_iload_n (q := 2) d_Hall_moths_1 rfl rfl ?_
  obtain ⟨r2, hv, h⟩ := bnd h
  rcases r2 with _u | e
  · refine w_callVv (q := 5) (M' := M_Hall_needMonk) (n' := 0) (k := 0) (As := [.int p0]) (sh' := SH) (b1 := (0, 0)) d_Hall_moths_2 rfl mw_Hall_needMonk (by decide) (by decide) ml_Hall_180 (by decide) s_0 (by decide) rfl rfl rfl (leb rfl) (bz _) (fun _ => rfl) (ok_Hall_needMonk hv) ?_
    refine w_iload_n (q := 6) d_Hall_moths_5 rfl rfl ?_
    refine w_bipush (q := 8) (v := 60) d_Hall_moths_6 rfl (by decide) ?_
    obtain ⟨v3, hv, h⟩ := bnd h
    refine w_callSi (q := 11) (M' := M_Hall_isWithin) (n' := 0) (As := [.int p1, .int 60]) (sh' := SH) (b1 := (0, 0)) d_Hall_moths_8 rfl mw_Hall_isWithin (by decide) (by decide) ml_Hall_266 rfl rfl (leb rfl) (bz _) (fun _ => rfl) (ok_Hall_isWithin hv) ?_
    by_cases c4 : v3 = 0
    · rw [if_pos c4] at h
      refine w_if_eq_t (q := 28) d_Hall_moths_11 rfl c4 ?_
      refine w_aload_n (q := 29) d_Hall_moths_28 rfl rfl ?_
      obtain ⟨v5, hv, h⟩ := bnd h
      refine w_callVi (q := 32) (M' := M_Hall_refuseAct) (n' := 0) (k := 0) (As := []) (sh' := SH) (b1 := (0, 0)) d_Hall_moths_29 rfl mw_Hall_refuseAct (by decide) (by decide) ml_Hall_245 (by decide) s_0 (by decide) rfl rfl rfl (leb rfl) (bz _) (fun _ => rfl) (ok_Hall_refuseAct hv) ?_
      cases h
      exact w_ireturn d_Hall_moths_32 rfl rfl ⟨rfl, rfl, rfl, rfl⟩
    · rw [if_neg c4] at h
      refine w_if_eq_f (q := 14) d_Hall_moths_11 28 rfl rfl c4 ?_
      refine w_iload_n (q := 15) d_Hall_moths_14 rfl rfl ?_
      refine w_bipush (q := 17) (v := 60) d_Hall_moths_15 rfl (by decide) ?_
      obtain ⟨v6, hv, h⟩ := bnd h
      refine w_callSi (q := 20) (M' := M_Hall_isWithin) (n' := 0) (As := [.int p2, .int 60]) (sh' := SH) (b1 := (0, 0)) d_Hall_moths_17 rfl mw_Hall_isWithin (by decide) (by decide) ml_Hall_266 rfl rfl (leb rfl) (bz _) (fun _ => rfl) (ok_Hall_isWithin hv) ?_
      by_cases c7 : v6 = 0
      · rw [if_pos c7] at h
        refine w_if_eq_t (q := 28) d_Hall_moths_20 rfl c7 ?_
        refine w_aload_n (q := 29) d_Hall_moths_28 rfl rfl ?_
        obtain ⟨v8, hv, h⟩ := bnd h
        refine w_callVi (q := 32) (M' := M_Hall_refuseAct) (n' := 0) (k := 0) (As := []) (sh' := SH) (b1 := (0, 0)) d_Hall_moths_29 rfl mw_Hall_refuseAct (by decide) (by decide) ml_Hall_245 (by decide) s_0 (by decide) rfl rfl rfl (leb rfl) (bz _) (fun _ => rfl) (ok_Hall_refuseAct hv) ?_
        cases h
        exact w_ireturn d_Hall_moths_32 rfl rfl ⟨rfl, rfl, rfl, rfl⟩
      · rw [if_neg c7] at h
        refine w_if_eq_f (q := 23) d_Hall_moths_20 28 rfl rfl c7 ?_
        refine w_iload_n (q := 24) d_Hall_moths_23 rfl rfl ?_
        refine w_iload_n (q := 25) d_Hall_moths_24 rfl rfl ?_
        by_cases c9 : p1 ≤ p2
        · rw [if_pos c9] at h
          refine w_icmp_ge_t (q := 33) d_Hall_moths_25 rfl c9 ?_
          refine w_aload_n (q := 34) d_Hall_moths_33 rfl rfl ?_
          refine w_get (q := 37) (ci := 11) (j := 7) d_Hall_moths_34 rfl (by decide) fl_Hall_49 (by decide) (by decide) s_0 rfl rfl ?_
          refine w_aload_n (q := 38) d_Hall_moths_37 rfl rfl ?_
          refine w_get (q := 41) (ci := 11) (j := 6) d_Hall_moths_38 rfl (by decide) fl_Hall_42 (by decide) (by decide) s_0 rfl rfl ?_
          obtain ⟨v10, hv, h⟩ := bnd h
          refine w_callVv (q := 44) (M' := M_Acts_keep) (n' := 1) (k := 26) (As := [.ref 23]) (sh' := SH) (b1 := (0, 0)) d_Hall_moths_41 rfl mw_Acts_keep (by decide) (by decide) ml_Hall_248 i_26.2.1 i_26.1 (by decide) rfl rfl rfl (leb rfl) (bz _) (fun _ => rfl) (ok_Acts_keep i_26 i_23 hv) ?_
          refine w_aload_n (q := 45) d_Hall_moths_44 rfl rfl ?_
          refine w_get (q := 48) (ci := 11) (j := 6) d_Hall_moths_45 rfl (by decide) fl_Hall_42 (by decide) (by decide) s_0 rfl rfl ?_
          refine w_aload_n (q := 49) d_Hall_moths_48 rfl rfl ?_
          refine w_get (q := 52) (ci := 11) (j := 6) d_Hall_moths_49 rfl (by decide) fl_Hall_42 (by decide) (by decide) s_0 rfl rfl ?_
          refine w_iload_n (q := 53) d_Hall_moths_52 rfl rfl ?_
          refine w_iload_n (q := 54) d_Hall_moths_53 rfl rfl ?_
          refine w_iload_n (q := 55) d_Hall_moths_54 rfl rfl ?_
          obtain ⟨v11, hv, h⟩ := bnd h
          refine w_callVi (q := 58) (M' := M_Hair_eatable) (n' := 3) (k := 23) (As := [.int p0, .int p1, .int p2]) (sh' := SH) (b1 := (0, 0)) d_Hall_moths_55 rfl mw_Hair_eatable (by decide) (by decide) ml_Hall_292 i_23.2.1 i_23.1 (by decide) rfl rfl rfl (leb rfl) (bz _) (fun _ => rfl) (ok_Hair_eatable i_23 hv) ?_
          obtain ⟨v12, hv, h⟩ := bnd h
          refine w_callVi (q := 61) (M' := M_Hair_lose) (n' := 1) (k := 23) (As := [.int v11]) (sh' := SH) (b1 := (0, 0)) d_Hall_moths_58 rfl mw_Hair_lose (by decide) (by decide) ml_Hall_286 i_23.2.1 i_23.1 (by decide) rfl rfl rfl (leb rfl) (bz _) (fun _ => rfl) (ok_Hair_lose i_23 hv) ?_
          cases h
          exact w_ireturn d_Hall_moths_61 rfl rfl ⟨rfl, rfl, rfl, rfl⟩
        · rw [if_neg c9] at h
          refine w_icmp_ge_f (q := 28) d_Hall_moths_25 33 rfl rfl c9 ?_
          refine w_aload_n (q := 29) d_Hall_moths_28 rfl rfl ?_
          obtain ⟨v13, hv, h⟩ := bnd h
          refine w_callVi (q := 32) (M' := M_Hall_refuseAct) (n' := 0) (k := 0) (As := []) (sh' := SH) (b1 := (0, 0)) d_Hall_moths_29 rfl mw_Hall_refuseAct (by decide) (by decide) ml_Hall_245 (by decide) s_0 (by decide) rfl rfl rfl (leb rfl) (bz _) (fun _ => rfl) (ok_Hall_refuseAct hv) ?_
          cases h
          exact w_ireturn d_Hall_moths_32 rfl rfl ⟨rfl, rfl, rfl, rfl⟩
  · cases h
    exact w_callVx (M' := M_Hall_needMonk) (n' := 0) (k := 0) (As := [.int p0]) (sh' := SH) (E := exS9 e) d_Hall_moths_2 mw_Hall_needMonk (by decide) (by decide) ml_Hall_180 (by decide) s_0 (by decide) rfl rfl rfl (leb rfl) rfl (ok_Hall_needMonk hv) ⟨rfl, rfl, rfl, rfl⟩
def sp_Hall_die (p0 : Int32) (g : Mem) : Option ((Int32 × Mem) ⊕ Nat) := (sp_Hall_needMonk p0 g).bind fun r2 => (match r2 with | .inl _u => (sp_Hair_isDead 23 15 p0 g).bind fun v3 => if v3 = 0 then (sp_Acts_keep 26 23 15 g).bind fun v5 => (wr v5 (23 + 2) 6 p0 (v5 23 3)).bind fun g6 => some (.inl (1, g6)) else (sp_Hall_refuseAct g).bind fun v7 => some (.inl (0, v7.2)) | .inr e => some (.inr e))
theorem ok_Hall_die {γ : GG} {tt : Bool} {p0 : Int32} {g : Mem} {res : (Int32 × Mem) ⊕ Nat} (h : sp_Hall_die p0 g = some res) : CA γ M_Hall_die 2 [.ref 0, .int p0] SH g tt (bO res) (pEI SH g tt res) := by
  refine CA.of mw_Hall_die.1 0 rfl ?_
  show WA γ M_Hall_die 2 0 [some (.ref 0), some (.int p0)] [] SH g tt (bO res) (pEI SH g tt res)
  unfold sp_Hall_die at h
  refine w_aload_n (q := 1) d_Hall_die_0 rfl rfl ?_
  refine w_iload_n (q := 2) d_Hall_die_1 rfl rfl ?_
  obtain ⟨r2, hv, h⟩ := bnd h
  rcases r2 with _u | e
  · refine w_callVv (q := 5) (M' := M_Hall_needMonk) (n' := 0) (k := 0) (As := [.int p0]) (sh' := SH) (b1 := (0, 0)) d_Hall_die_2 rfl mw_Hall_needMonk (by decide) (by decide) ml_Hall_180 (by decide) s_0 (by decide) rfl rfl rfl (leb rfl) (bz _) (fun _ => rfl) (ok_Hall_needMonk hv) ?_
    refine w_aload_n (q := 6) d_Hall_die_5 rfl rfl ?_
    refine w_get (q := 9) (ci := 11) (j := 6) d_Hall_die_6 rfl (by decide) fl_Hall_42 (by decide) (by decide) s_0 rfl rfl ?_
    refine w_iload_n (q := 10) d_Hall_die_9 rfl rfl ?_
    obtain ⟨v3, hv, h⟩ := bnd h
    refine w_callVi (q := 13) (M' := M_Hair_isDead) (n' := 0) (k := 23) (As := [.int p0]) (sh' := SH) (b1 := (0, 0)) d_Hall_die_10 rfl mw_Hair_isDead (by decide) (by decide) ml_Hall_257 i_23.2.1 i_23.1 (by decide) rfl rfl rfl (leb rfl) (bz _) (fun _ => rfl) (ok_Hair_isDead i_23 hv) ?_
    by_cases c4 : v3 = 0
    · rw [if_pos c4] at h
      refine w_if_eq_t (q := 23) d_Hall_die_13 rfl c4 ?_
      refine w_aload_n (q := 24) d_Hall_die_23 rfl rfl ?_
      refine w_get (q := 27) (ci := 11) (j := 7) d_Hall_die_24 rfl (by decide) fl_Hall_49 (by decide) (by decide) s_0 rfl rfl ?_
      refine w_aload_n (q := 28) d_Hall_die_27 rfl rfl ?_
      refine w_get (q := 31) (ci := 11) (j := 6) d_Hall_die_28 rfl (by decide) fl_Hall_42 (by decide) (by decide) s_0 rfl rfl ?_
      obtain ⟨v5, hv, h⟩ := bnd h
      refine w_callVv (q := 34) (M' := M_Acts_keep) (n' := 1) (k := 26) (As := [.ref 23]) (sh' := SH) (b1 := (0, 0)) d_Hall_die_31 rfl mw_Acts_keep (by decide) (by decide) ml_Hall_248 i_26.2.1 i_26.1 (by decide) rfl rfl rfl (leb rfl) (bz _) (fun _ => rfl) (ok_Acts_keep i_26 i_23 hv) ?_
      refine w_aload_n (q := 35) d_Hall_die_34 rfl rfl ?_
      refine w_get (q := 38) (ci := 11) (j := 6) d_Hall_die_35 rfl (by decide) fl_Hall_42 (by decide) (by decide) s_0 rfl rfl ?_
      refine w_get (q := 41) (ci := 2) (j := 2) d_Hall_die_38 rfl (by decide) fl_Hall_295 (by decide) i_23.2.1 i_23.1 rfl rfl ?_
      refine w_iload_n (q := 42) d_Hall_die_41 rfl rfl ?_
      refine w_aload_n (q := 43) d_Hall_die_42 rfl rfl ?_
      refine w_get (q := 46) (ci := 11) (j := 6) d_Hall_die_43 rfl (by decide) fl_Hall_42 (by decide) (by decide) s_0 rfl rfl ?_
      refine w_get (q := 49) (ci := 2) (j := 3) d_Hall_die_46 rfl (by decide) fl_Hall_156 (by decide) i_23.2.1 i_23.1 rfl rfl ?_
      obtain ⟨g6, hv, h⟩ := bnd h
      obtain ⟨hi, hv⟩ := wr_ok hv
      refine w_iast (q := 50) d_Hall_die_49 rfl i_23.2.2.2.1.2 i_23.2.2.2.1.1 hi hv ?_
      refine w_iconst (q := 51) (v := 1) d_Hall_die_50 rfl (by decide) ?_
      cases h
      exact w_ireturn d_Hall_die_51 rfl rfl ⟨rfl, rfl, rfl, rfl⟩
    · rw [if_neg c4] at h
      refine w_if_eq_f (q := 16) d_Hall_die_13 23 rfl rfl c4 ?_
      refine w_aload_n (q := 17) d_Hall_die_16 rfl rfl ?_
      obtain ⟨v7, hv, h⟩ := bnd h
      refine w_callVi (q := 20) (M' := M_Hall_refuseAct) (n' := 0) (k := 0) (As := []) (sh' := SH) (b1 := (0, 0)) d_Hall_die_17 rfl mw_Hall_refuseAct (by decide) (by decide) ml_Hall_245 (by decide) s_0 (by decide) rfl rfl rfl (leb rfl) (bz _) (fun _ => rfl) (ok_Hall_refuseAct hv) ?_
      refine w_pop (q := 21) d_Hall_die_20 rfl rfl ?_
      refine w_iconst (q := 22) (v := 0) d_Hall_die_21 rfl (by decide) ?_
      cases h
      exact w_ireturn d_Hall_die_22 rfl rfl ⟨rfl, rfl, rfl, rfl⟩
  · cases h
    exact w_callVx (M' := M_Hall_needMonk) (n' := 0) (k := 0) (As := [.int p0]) (sh' := SH) (E := exS9 e) d_Hall_die_2 mw_Hall_needMonk (by decide) (by decide) ml_Hall_180 (by decide) s_0 (by decide) rfl rfl rfl (leb rfl) rfl (ok_Hall_needMonk hv) ⟨rfl, rfl, rfl, rfl⟩
def sp_Hall_undo (g : Mem) : Option (Int32 × Mem) := if (g 26 1) = 0 then some ((-1), g) else (sp_Acts_takeBack 26 23 15 g).bind fun v2 => some (v2 26 1, v2)
theorem ok_Hall_undo {γ : GG} {tt : Bool} {g : Mem} {res : Int32 × Mem} (h : sp_Hall_undo g = some res) : CA γ M_Hall_undo 2 [.ref 0] SH g tt (0, 0) (pI SH res.1 res.2 tt) := by
  refine CA.of mw_Hall_undo.1 0 rfl ?_
  show WA γ M_Hall_undo 2 0 [some (.ref 0)] [] SH g tt (0, 0) (pI SH res.1 res.2 tt)
  unfold sp_Hall_undo at h
  refine w_aload_n (q := 1) d_Hall_undo_0 rfl rfl ?_
  refine w_get (q := 4) (ci := 11) (j := 7) d_Hall_undo_1 rfl (by decide) fl_Hall_49 (by decide) (by decide) s_0 rfl rfl ?_
  refine w_get (q := 7) (ci := 0) (j := 1) d_Hall_undo_4 rfl (by decide) fl_Hall_133 (by decide) i_26.2.1 i_26.1 rfl rfl ?_
  by_cases c1 : (g 26 1) = 0
  · rw [if_pos c1] at h
    refine w_if_ne_f (q := 10) d_Hall_undo_7 12 rfl rfl c1 ?_
    refine w_iconst (q := 11) (v := (-1)) d_Hall_undo_10 rfl (by decide) ?_
    cases h
    exact w_ireturn d_Hall_undo_11 rfl rfl ⟨rfl, rfl, rfl, rfl⟩
  · rw [if_neg c1] at h
    refine w_if_ne_t (q := 12) d_Hall_undo_7 rfl c1 ?_
    refine w_aload_n (q := 13) d_Hall_undo_12 rfl rfl ?_
    refine w_get (q := 16) (ci := 11) (j := 7) d_Hall_undo_13 rfl (by decide) fl_Hall_49 (by decide) (by decide) s_0 rfl rfl ?_
    refine w_aload_n (q := 17) d_Hall_undo_16 rfl rfl ?_
    refine w_get (q := 20) (ci := 11) (j := 6) d_Hall_undo_17 rfl (by decide) fl_Hall_42 (by decide) (by decide) s_0 rfl rfl ?_
    obtain ⟨v2, hv, h⟩ := bnd h
    refine w_callVv (q := 23) (M' := M_Acts_takeBack) (n' := 1) (k := 26) (As := [.ref 23]) (sh' := SH) (b1 := (0, 0)) d_Hall_undo_20 rfl mw_Acts_takeBack (by decide) (by decide) ml_Hall_298 i_26.2.1 i_26.1 (by decide) rfl rfl rfl (leb rfl) (bz _) (fun _ => rfl) (ok_Acts_takeBack i_26 i_23 hv) ?_
    refine w_aload_n (q := 24) d_Hall_undo_23 rfl rfl ?_
    refine w_get (q := 27) (ci := 11) (j := 7) d_Hall_undo_24 rfl (by decide) fl_Hall_49 (by decide) (by decide) s_0 rfl rfl ?_
    refine w_get (q := 30) (ci := 0) (j := 1) d_Hall_undo_27 rfl (by decide) fl_Hall_133 (by decide) i_26.2.1 i_26.1 rfl rfl ?_
    cases h
    exact w_ireturn d_Hall_undo_30 rfl rfl ⟨rfl, rfl, rfl, rfl⟩
def sp_Hall_needAbout (p0 : Int32) (g : Mem) : Option (Unit ⊕ Nat) := (sp_Hall_isAbout p0 g).bind fun v1 => if v1 = 0 then some (.inr 1) else some (.inl ())
theorem ok_Hall_needAbout {γ : GG} {sh : List Sh} {tt : Bool} {p0 : Int32} {g : Mem} {res : Unit ⊕ Nat} (h : sp_Hall_needAbout p0 g = some res) : CA γ M_Hall_needAbout 2 [.int p0] sh g tt (bO res) (pPV sh g tt res) := by
  refine CA.of mw_Hall_needAbout.1 0 rfl ?_
  show WA γ M_Hall_needAbout 2 0 [some (.int p0)] [] sh g tt (bO res) (pPV sh g tt res)
  unfold sp_Hall_needAbout at h
  refine w_iload_n (q := 1) d_Hall_needAbout_0 rfl rfl ?_
  obtain ⟨v1, hv, h⟩ := bnd h
  refine w_callSi (q := 4) (M' := M_Hall_isAbout) (n' := 1) (As := [.int p0]) (sh' := sh) (b1 := (0, 0)) d_Hall_needAbout_1 rfl mw_Hall_isAbout (by decide) (by decide) ml_Hall_263 rfl rfl (leb rfl) (bz _) (fun _ => rfl) (ok_Hall_isAbout hv) ?_
  by_cases c2 : v1 = 0
  · rw [if_pos c2] at h
    refine w_if_ne_f (q := 7) d_Hall_needAbout_4 18 rfl rfl c2 ?_
    cases h
    exact w_throwW (j := 7) exB_nse exF.2.1 kl_Hall_175 wi_java_util_NoSuchElementException rfl exW_nse exG_nse d_Hall_needAbout_7 d_Hall_needAbout_10 d_Hall_needAbout_11 d_Hall_needAbout_14 d_Hall_needAbout_17 rfl (leb rfl) rfl ⟨rfl, rfl, rfl, rfl⟩
  · rw [if_neg c2] at h
    refine w_if_ne_t (q := 18) d_Hall_needAbout_4 rfl c2 ?_
    cases h
    exact w_return d_Hall_needAbout_18 rfl ⟨rfl, rfl, rfl, rfl⟩
def sp_Hall_law (F : Nat) (p0 : Int32) (g : Mem) : Option (Int32 ⊕ Nat) := (sp_Hall_needAbout p0 g).bind fun r2 => (match r2 with | .inl _u => (sp_Laws_standing F 42 23 15 p0 g).bind fun v3 => some (.inl v3) | .inr e => some (.inr e))
theorem ok_Hall_law {γ : GG} {tt : Bool} {F : Nat} {p0 : Int32} {g : Mem} {res : Int32 ⊕ Nat} (h : sp_Hall_law F p0 g = some res) : CA γ M_Hall_law 4 [.ref 0, .int p0] SH g tt (bO res) (pPI SH g tt res) := by
  refine CA.of mw_Hall_law.1 0 rfl ?_
  show WA γ M_Hall_law 4 0 [some (.ref 0), some (.int p0)] [] SH g tt (bO res) (pPI SH g tt res)
  unfold sp_Hall_law at h
  refine w_iload_n (q := 1) d_Hall_law_0 rfl rfl ?_
  obtain ⟨r2, hv, h⟩ := bnd h
  rcases r2 with _u | e
  · refine w_callSv (q := 4) (M' := M_Hall_needAbout) (n' := 2) (As := [.int p0]) (sh' := SH) (b1 := (0, 0)) d_Hall_law_1 rfl mw_Hall_needAbout (by decide) (by decide) ml_Hall_301 rfl rfl (leb rfl) (bz _) (fun _ => rfl) (ok_Hall_needAbout hv) ?_
    refine w_aload_n (q := 5) d_Hall_law_4 rfl rfl ?_
    refine w_get (q := 8) (ci := 11) (j := 10) d_Hall_law_5 rfl (by decide) fl_Hall_72 (by decide) (by decide) s_0 rfl rfl ?_
    refine w_iload_n (q := 9) d_Hall_law_8 rfl rfl ?_
    obtain ⟨v3, hv, h⟩ := bnd h
    refine w_callVi (q := 12) (M' := M_Laws_standing) (n' := 3) (k := 42) (As := [.int p0]) (sh' := SH) (b1 := (0, 0)) d_Hall_law_9 rfl mw_Laws_standing (by decide) (by decide) ml_Hall_304 i_42.2.1 i_42.1 (by decide) rfl rfl rfl (leb rfl) (bz _) (fun _ => rfl) (ok_Laws_standing i_42 hv) ?_
    cases h
    exact w_ireturn d_Hall_law_12 rfl rfl ⟨rfl, rfl, rfl, rfl⟩
  · cases h
    exact w_callSx (M' := M_Hall_needAbout) (n' := 2) (As := [.int p0]) (sh' := SH) (E := exS9 e) d_Hall_law_1 mw_Hall_needAbout (by decide) (by decide) ml_Hall_301 rfl rfl (leb rfl) rfl (ok_Hall_needAbout hv) ⟨rfl, rfl, rfl, rfl⟩
def sp_Hall_rivals (F : Nat) (g : Mem) : Option (Int32) := (sp_Laws_rivalCouples F 42 23 15 g).bind fun v1 => some v1
theorem ok_Hall_rivals {γ : GG} {tt : Bool} {F : Nat} {g : Mem} {res : Int32} (h : sp_Hall_rivals F g = some res) : CA γ M_Hall_rivals 4 [.ref 0] SH g tt (0, 0) (pI SH res g tt) := by
  refine CA.of mw_Hall_rivals.1 0 rfl ?_
  show WA γ M_Hall_rivals 4 0 [some (.ref 0)] [] SH g tt (0, 0) (pI SH res g tt)
  unfold sp_Hall_rivals at h
  refine w_aload_n (q := 1) d_Hall_rivals_0 rfl rfl ?_
  refine w_get (q := 4) (ci := 11) (j := 10) d_Hall_rivals_1 rfl (by decide) fl_Hall_72 (by decide) (by decide) s_0 rfl rfl ?_
  obtain ⟨v1, hv, h⟩ := bnd h
  refine w_callVi (q := 7) (M' := M_Laws_rivalCouples) (n' := 3) (k := 42) (As := []) (sh' := SH) (b1 := (0, 0)) d_Hall_rivals_4 rfl mw_Laws_rivalCouples (by decide) (by decide) ml_Hall_307 i_42.2.1 i_42.1 (by decide) rfl rfl rfl (leb rfl) (bz _) (fun _ => rfl) (ok_Laws_rivalCouples i_42 hv) ?_
  cases h
  exact w_ireturn d_Hall_rivals_7 rfl rfl ⟨rfl, rfl, rfl, rfl⟩
def sp_Hall_owed (F : Nat) (p0 : Int32) (g : Mem) : Option (Int32 ⊕ Nat) := (sp_Hall_needAbout p0 g).bind fun r2 => (match r2 with | .inl _u => (sp_Laws_balance F 42 23 15 p0 g).bind fun v3 => some (.inl v3) | .inr e => some (.inr e))
theorem ok_Hall_owed {γ : GG} {tt : Bool} {F : Nat} {p0 : Int32} {g : Mem} {res : Int32 ⊕ Nat} (h : sp_Hall_owed F p0 g = some res) : CA γ M_Hall_owed 4 [.ref 0, .int p0] SH g tt (bO res) (pPI SH g tt res) := by
  refine CA.of mw_Hall_owed.1 0 rfl ?_
  show WA γ M_Hall_owed 4 0 [some (.ref 0), some (.int p0)] [] SH g tt (bO res) (pPI SH g tt res)
  unfold sp_Hall_owed at h
  refine w_iload_n (q := 1) d_Hall_owed_0 rfl rfl ?_
  obtain ⟨r2, hv, h⟩ := bnd h
  rcases r2 with _u | e
  · refine w_callSv (q := 4) (M' := M_Hall_needAbout) (n' := 2) (As := [.int p0]) (sh' := SH) (b1 := (0, 0)) d_Hall_owed_1 rfl mw_Hall_needAbout (by decide) (by decide) ml_Hall_301 rfl rfl (leb rfl) (bz _) (fun _ => rfl) (ok_Hall_needAbout hv) ?_
    refine w_aload_n (q := 5) d_Hall_owed_4 rfl rfl ?_
    refine w_get (q := 8) (ci := 11) (j := 10) d_Hall_owed_5 rfl (by decide) fl_Hall_72 (by decide) (by decide) s_0 rfl rfl ?_
    refine w_iload_n (q := 9) d_Hall_owed_8 rfl rfl ?_
    obtain ⟨v3, hv, h⟩ := bnd h
    refine w_callVi (q := 12) (M' := M_Laws_balance) (n' := 3) (k := 42) (As := [.int p0]) (sh' := SH) (b1 := (0, 0)) d_Hall_owed_9 rfl mw_Laws_balance (by decide) (by decide) ml_Hall_310 i_42.2.1 i_42.1 (by decide) rfl rfl rfl (leb rfl) (bz _) (fun _ => rfl) (ok_Laws_balance i_42 hv) ?_
    cases h
    exact w_ireturn d_Hall_owed_12 rfl rfl ⟨rfl, rfl, rfl, rfl⟩
  · cases h
    exact w_callSx (M' := M_Hall_needAbout) (n' := 2) (As := [.int p0]) (sh' := SH) (E := exS9 e) d_Hall_owed_1 mw_Hall_needAbout (by decide) (by decide) ml_Hall_301 rfl rfl (leb rfl) rfl (ok_Hall_needAbout hv) ⟨rfl, rfl, rfl, rfl⟩
def sp_Hall_cover (F : Nat) (g : Mem) : Option (Int32 × Mem) := (sp_Keeping_fewestWithAll F g).bind fun v1 => some (v1.1, v1.2)
theorem ok_Hall_cover {γ : GG} {tt : Bool} {F : Nat} {g : Mem} {res : Int32 × Mem} (h : sp_Hall_cover F g = some res) : CA γ M_Hall_cover 4 [.ref 0] SH g tt (0, 0) (pI SH res.1 res.2 tt) := by
  refine CA.of mw_Hall_cover.1 0 rfl ?_
  show WA γ M_Hall_cover 4 0 [some (.ref 0)] [] SH g tt (0, 0) (pI SH res.1 res.2 tt)
  unfold sp_Hall_cover at h
  refine w_aload_n (q := 1) d_Hall_cover_0 rfl rfl ?_
  refine w_get (q := 4) (ci := 11) (j := 11) d_Hall_cover_1 rfl (by decide) fl_Hall_79 (by decide) (by decide) s_0 rfl rfl ?_
  obtain ⟨v1, hv, h⟩ := bnd h
  refine w_callVi (q := 7) (M' := M_Keeping_fewestWithAll) (n' := 3) (k := 43) (As := []) (sh' := SH) (b1 := (0, 0)) d_Hall_cover_4 rfl mw_Keeping_fewestWithAll (by decide) (by decide) ml_Hall_313 (by decide) s_43 (by decide) rfl rfl rfl (leb rfl) (bz _) (fun _ => rfl) (ok_Keeping_fewestWithAll hv) ?_
  cases h
  exact w_ireturn d_Hall_cover_7 rfl rfl ⟨rfl, rfl, rfl, rfl⟩
def sp_Hall_alone (F : Nat) (g : Mem) : Option (Int32) := (sp_Keeping_heldByOne F g).bind fun v1 => some v1
theorem ok_Hall_alone {γ : GG} {tt : Bool} {F : Nat} {g : Mem} {res : Int32} (h : sp_Hall_alone F g = some res) : CA γ M_Hall_alone 4 [.ref 0] SH g tt (0, 0) (pI SH res g tt) := by
  refine CA.of mw_Hall_alone.1 0 rfl ?_
  show WA γ M_Hall_alone 4 0 [some (.ref 0)] [] SH g tt (0, 0) (pI SH res g tt)
  unfold sp_Hall_alone at h
  refine w_aload_n (q := 1) d_Hall_alone_0 rfl rfl ?_
  refine w_get (q := 4) (ci := 11) (j := 11) d_Hall_alone_1 rfl (by decide) fl_Hall_79 (by decide) (by decide) s_0 rfl rfl ?_
  obtain ⟨v1, hv, h⟩ := bnd h
  refine w_callVi (q := 7) (M' := M_Keeping_heldByOne) (n' := 3) (k := 43) (As := []) (sh' := SH) (b1 := (0, 0)) d_Hall_alone_4 rfl mw_Keeping_heldByOne (by decide) (by decide) ml_Hall_316 (by decide) s_43 (by decide) rfl rfl rfl (leb rfl) (bz _) (fun _ => rfl) (ok_Keeping_heldByOne hv) ?_
  cases h
  exact w_ireturn d_Hall_alone_7 rfl rfl ⟨rfl, rfl, rfl, rfl⟩
def sp_Hall_barbers (F : Nat) (p0 : Int32) (g : Mem) : Option ((Int32 × Mem) ⊕ Nat) := (sp_Hall_isWithin p0 6 g).bind fun v1 => if v1 = 0 then some (.inr 0) else (sp_Keeping_worstToShave F p0 g).bind fun v3 => some (.inl (v3.1, v3.2))
theorem ok_Hall_barbers {γ : GG} {tt : Bool} {F : Nat} {p0 : Int32} {g : Mem} {res : (Int32 × Mem) ⊕ Nat} (h : sp_Hall_barbers F p0 g = some res) : CA γ M_Hall_barbers 6 [.ref 0, .int p0] SH g tt (bO res) (pEI SH g tt res) := by
  refine CA.of mw_Hall_barbers.1 0 rfl ?_
  show WA γ M_Hall_barbers 6 0 [some (.ref 0), some (.int p0)] [] SH g tt (bO res) (pEI SH g tt res)
  unfold sp_Hall_barbers at h
  refine w_iload_n (q := 1) d_Hall_barbers_0 rfl rfl ?_
  refine w_bipush (q := 3) (v := 6) d_Hall_barbers_1 rfl (by decide) ?_
  obtain ⟨v1, hv, h⟩ := bnd h
  refine w_callSi (q := 6) (M' := M_Hall_isWithin) (n' := 0) (As := [.int p0, .int 6]) (sh' := SH) (b1 := (0, 0)) d_Hall_barbers_3 rfl mw_Hall_isWithin (by decide) (by decide) ml_Hall_266 rfl rfl (leb rfl) (bz _) (fun _ => rfl) (ok_Hall_isWithin hv) ?_
  by_cases c2 : v1 = 0
  · rw [if_pos c2] at h
    refine w_if_ne_f (q := 9) d_Hall_barbers_6 20 rfl rfl c2 ?_
    cases h
    exact w_throwW (j := 8) exB_iae exF.1 kl_Hall_110 wi_java_lang_IllegalArgumentException rfl exW_iae exG_iae d_Hall_barbers_9 d_Hall_barbers_12 d_Hall_barbers_13 d_Hall_barbers_16 d_Hall_barbers_19 rfl (leb rfl) rfl ⟨rfl, rfl, rfl, rfl⟩
  · rw [if_neg c2] at h
    refine w_if_ne_t (q := 20) d_Hall_barbers_6 rfl c2 ?_
    refine w_aload_n (q := 21) d_Hall_barbers_20 rfl rfl ?_
    refine w_get (q := 24) (ci := 11) (j := 11) d_Hall_barbers_21 rfl (by decide) fl_Hall_79 (by decide) (by decide) s_0 rfl rfl ?_
    refine w_iload_n (q := 25) d_Hall_barbers_24 rfl rfl ?_
    obtain ⟨v3, hv, h⟩ := bnd h
    refine w_callVi (q := 28) (M' := M_Keeping_worstToShave) (n' := 5) (k := 43) (As := [.int p0]) (sh' := SH) (b1 := (0, 0)) d_Hall_barbers_25 rfl mw_Keeping_worstToShave (by decide) (by decide) ml_Hall_321 (by decide) s_43 (by decide) rfl rfl rfl (leb rfl) (bz _) (fun _ => rfl) (ok_Keeping_worstToShave hv) ?_
    cases h
    exact w_ireturn d_Hall_barbers_28 rfl rfl ⟨rfl, rfl, rfl, rfl⟩
def sp_Hall_shortest (F : Nat) (p0 : Int32) (g : Mem) : Option (Int32 ⊕ Nat) := (sp_Hall_needMonk p0 g).bind fun r2 => (match r2 with | .inl _u => (sp_Keeping_leastLength F p0 g).bind fun v3 => some (.inl v3) | .inr e => some (.inr e))
theorem ok_Hall_shortest {γ : GG} {tt : Bool} {F : Nat} {p0 : Int32} {g : Mem} {res : Int32 ⊕ Nat} (h : sp_Hall_shortest F p0 g = some res) : CA γ M_Hall_shortest 5 [.ref 0, .int p0] SH g tt (bO res) (pPI SH g tt res) := by
  refine CA.of mw_Hall_shortest.1 0 rfl ?_
  show WA γ M_Hall_shortest 5 0 [some (.ref 0), some (.int p0)] [] SH g tt (bO res) (pPI SH g tt res)
  unfold sp_Hall_shortest at h
  refine w_aload_n (q := 1) d_Hall_shortest_0 rfl rfl ?_
  refine w_iload_n (q := 2) d_Hall_shortest_1 rfl rfl ?_
  obtain ⟨r2, hv, h⟩ := bnd h
  rcases r2 with _u | e
  · refine w_callVv (q := 5) (M' := M_Hall_needMonk) (n' := 0) (k := 0) (As := [.int p0]) (sh' := SH) (b1 := (0, 0)) d_Hall_shortest_2 rfl mw_Hall_needMonk (by decide) (by decide) ml_Hall_180 (by decide) s_0 (by decide) rfl rfl rfl (leb rfl) (bz _) (fun _ => rfl) (ok_Hall_needMonk hv) ?_
    refine w_aload_n (q := 6) d_Hall_shortest_5 rfl rfl ?_
    refine w_get (q := 9) (ci := 11) (j := 11) d_Hall_shortest_6 rfl (by decide) fl_Hall_79 (by decide) (by decide) s_0 rfl rfl ?_
    refine w_iload_n (q := 10) d_Hall_shortest_9 rfl rfl ?_
    obtain ⟨v3, hv, h⟩ := bnd h
    refine w_callVi (q := 13) (M' := M_Keeping_leastLength) (n' := 4) (k := 43) (As := [.int p0]) (sh' := SH) (b1 := (0, 0)) d_Hall_shortest_10 rfl mw_Keeping_leastLength (by decide) (by decide) ml_Hall_324 (by decide) s_43 (by decide) rfl rfl rfl (leb rfl) (bz _) (fun _ => rfl) (ok_Keeping_leastLength hv) ?_
    cases h
    exact w_ireturn d_Hall_shortest_13 rfl rfl ⟨rfl, rfl, rfl, rfl⟩
  · cases h
    exact w_callVx (M' := M_Hall_needMonk) (n' := 0) (k := 0) (As := [.int p0]) (sh' := SH) (E := exS9 e) d_Hall_shortest_2 mw_Hall_needMonk (by decide) (by decide) ml_Hall_180 (by decide) s_0 (by decide) rfl rfl rfl (leb rfl) rfl (ok_Hall_needMonk hv) ⟨rfl, rfl, rfl, rfl⟩
def sp_Hall_needOneOf (p0 : Int32) (p1 : Int32) (g : Mem) : Option (Unit ⊕ Nat) := (sp_Hall_isWithin p0 p1 g).bind fun v1 => if v1 = 0 then some (.inr 1) else some (.inl ())
theorem ok_Hall_needOneOf {γ : GG} {sh : List Sh} {tt : Bool} {p0 : Int32} {p1 : Int32} {g : Mem} {res : Unit ⊕ Nat} (h : sp_Hall_needOneOf p0 p1 g = some res) : CA γ M_Hall_needOneOf 1 [.int p0, .int p1] sh g tt (bO res) (pPV sh g tt res) := by
  refine CA.of mw_Hall_needOneOf.1 0 rfl ?_
  show WA γ M_Hall_needOneOf 1 0 [some (.int p0), some (.int p1)] [] sh g tt (bO res) (pPV sh g tt res)
  unfold sp_Hall_needOneOf at h
  refine w_iload_n (q := 1) d_Hall_needOneOf_0 rfl rfl ?_
  refine w_iload_n (q := 2) d_Hall_needOneOf_1 rfl rfl ?_
  obtain ⟨v1, hv, h⟩ := bnd h
  refine w_callSi (q := 5) (M' := M_Hall_isWithin) (n' := 0) (As := [.int p0, .int p1]) (sh' := sh) (b1 := (0, 0)) d_Hall_needOneOf_2 rfl mw_Hall_isWithin (by decide) (by decide) ml_Hall_266 rfl rfl (leb rfl) (bz _) (fun _ => rfl) (ok_Hall_isWithin hv) ?_
  by_cases c2 : v1 = 0
  · rw [if_pos c2] at h
    refine w_if_ne_f (q := 8) d_Hall_needOneOf_5 19 rfl rfl c2 ?_
    cases h
    exact w_throwW (j := 9) exB_nse exF.2.1 kl_Hall_175 wi_java_util_NoSuchElementException rfl exW_nse exG_nse d_Hall_needOneOf_8 d_Hall_needOneOf_11 d_Hall_needOneOf_12 d_Hall_needOneOf_15 d_Hall_needOneOf_18 rfl (leb rfl) rfl ⟨rfl, rfl, rfl, rfl⟩
  · rw [if_neg c2] at h
    refine w_if_ne_t (q := 19) d_Hall_needOneOf_5 rfl c2 ?_
    cases h
    exact w_return d_Hall_needOneOf_19 rfl ⟨rfl, rfl, rfl, rfl⟩
def sp_Hall_amnesty (F : Nat) (p0 : Int32) (p1 : Int32) (p2 : Int32) (g : Mem) : Option (Int32 ⊕ Nat) := (sp_Hall_needMonk p0 g).bind fun r2 => (match r2 with | .inl _u => (sp_Hall_needOneOf p2 1 g).bind fun r4 => (match r4 with | .inl _u => (sp_Hall_isWithin p1 9 g).bind fun v5 => if v5 = 0 then some (.inr 0) else (sp_Keeping_bestForDebtors F p0 p1 g).bind fun v7 => if p2 = 0 then (sp_Keeping_debtsEaten F p0 v7 p1 g).bind fun v9 => some (.inl v9) else some (.inl v7) | .inr e => some (.inr e)) | .inr e => some (.inr e))
theorem ok_Hall_amnesty {γ : GG} {tt : Bool} {F : Nat} {p0 : Int32} {p1 : Int32} {p2 : Int32} {g : Mem} {res : Int32 ⊕ Nat} (h : sp_Hall_amnesty F p0 p1 p2 g = some res) : CA γ M_Hall_amnesty 6 [.ref 0, .int p0, .int p1, .int p2] SH g tt (bO res) (pPI SH g tt res) := by
  refine CA.of mw_Hall_amnesty.1 1 rfl ?_
  show WA γ M_Hall_amnesty 6 0 [some (.ref 0), some (.int p0), some (.int p1), some (.int p2), none] [] SH g tt (bO res) (pPI SH g tt res)
  unfold sp_Hall_amnesty at h
  refine w_aload_n (q := 1) d_Hall_amnesty_0 rfl rfl ?_
  refine w_iload_n (q := 2) d_Hall_amnesty_1 rfl rfl ?_
  obtain ⟨r2, hv, h⟩ := bnd h
  rcases r2 with _u | e
  · refine w_callVv (q := 5) (M' := M_Hall_needMonk) (n' := 0) (k := 0) (As := [.int p0]) (sh' := SH) (b1 := (0, 0)) d_Hall_amnesty_2 rfl mw_Hall_needMonk (by decide) (by decide) ml_Hall_180 (by decide) s_0 (by decide) rfl rfl rfl (leb rfl) (bz _) (fun _ => rfl) (ok_Hall_needMonk hv) ?_
    refine w_iload_n (q := 6) d_Hall_amnesty_5 rfl rfl ?_
    refine w_iconst (q := 7) (v := 1) d_Hall_amnesty_6 rfl (by decide) ?_
    obtain ⟨r4, hv, h⟩ := bnd h
    rcases r4 with _u | e
    · refine w_callSv (q := 10) (M' := M_Hall_needOneOf) (n' := 1) (As := [.int p2, .int 1]) (sh' := SH) (b1 := (0, 0)) d_Hall_amnesty_7 rfl mw_Hall_needOneOf (by decide) (by decide) ml_Hall_327 rfl rfl (leb rfl) (bz _) (fun _ => rfl) (ok_Hall_needOneOf hv) ?_
      refine w_iload_n (q := 11) d_Hall_amnesty_10 rfl rfl ?_
      refine w_bipush (q := 13) (v := 9) d_Hall_amnesty_11 rfl (by decide) ?_
      obtain ⟨v5, hv, h⟩ := bnd h
      refine w_callSi (q := 16) (M' := M_Hall_isWithin) (n' := 0) (As := [.int p1, .int 9]) (sh' := SH) (b1 := (0, 0)) d_Hall_amnesty_13 rfl mw_Hall_isWithin (by decide) (by decide) ml_Hall_266 rfl rfl (leb rfl) (bz _) (fun _ => rfl) (ok_Hall_isWithin hv) ?_
      by_cases c6 : v5 = 0
      · rw [if_pos c6] at h
        refine w_if_ne_f (q := 19) d_Hall_amnesty_16 30 rfl rfl c6 ?_
        cases h
        exact w_throwW (j := 10) exB_iae exF.1 kl_Hall_110 wi_java_lang_IllegalArgumentException rfl exW_iae exG_iae d_Hall_amnesty_19 d_Hall_amnesty_22 d_Hall_amnesty_23 d_Hall_amnesty_26 d_Hall_amnesty_29 rfl (leb rfl) rfl ⟨rfl, rfl, rfl, rfl⟩
      · rw [if_neg c6] at h
        refine w_if_ne_t (q := 30) d_Hall_amnesty_16 rfl c6 ?_
        refine w_aload_n (q := 31) d_Hall_amnesty_30 rfl rfl ?_
        refine w_get (q := 34) (ci := 11) (j := 11) d_Hall_amnesty_31 rfl (by decide) fl_Hall_79 (by decide) (by decide) s_0 rfl rfl ?_
        refine w_iload_n (q := 35) d_Hall_amnesty_34 rfl rfl ?_
        refine w_iload_n (q := 36) d_Hall_amnesty_35 rfl rfl ?_
        obtain ⟨v7, hv, h⟩ := bnd h
        refine w_callVi (q := 39) (M' := M_Keeping_bestForDebtors) (n' := 5) (k := 43) (As := [.int p0, .int p1]) (sh' := SH) (b1 := (0, 0)) d_Hall_amnesty_36 rfl mw_Keeping_bestForDebtors (by decide) (by decide) ml_Hall_333 (by decide) s_43 (by decide) rfl rfl rfl (leb rfl) (bz _) (fun _ => rfl) (ok_Keeping_bestForDebtors hv) ?_
        refine w_istore (q := 41) (ls' := [some (.ref 0), some (.int p0), some (.int p1), some (.int p2), some (.int v7)]) d_Hall_amnesty_39 rfl (by decide) rfl rfl ?_
        refine w_iload_n (q := 42) d_Hall_amnesty_41 rfl rfl ?_
        by_cases c8 : p2 = 0
        · rw [if_pos c8] at h
          refine w_if_ne_f (q := 45) d_Hall_amnesty_42 59 rfl rfl c8 ?_
          refine w_aload_n (q := 46) d_Hall_amnesty_45 rfl rfl ?_
          refine w_get (q := 49) (ci := 11) (j := 11) d_Hall_amnesty_46 rfl (by decide) fl_Hall_79 (by decide) (by decide) s_0 rfl rfl ?_
          refine w_iload_n (q := 50) d_Hall_amnesty_49 rfl rfl ?_
          refine w_iload (q := 52) d_Hall_amnesty_50 rfl rfl ?_
          refine w_iload_n (q := 53) d_Hall_amnesty_52 rfl rfl ?_
          obtain ⟨v9, hv, h⟩ := bnd h
          refine w_callVi (q := 56) (M' := M_Keeping_debtsEaten) (n' := 4) (k := 43) (As := [.int p0, .int v7, .int p1]) (sh' := SH) (b1 := (0, 0)) d_Hall_amnesty_53 rfl mw_Keeping_debtsEaten (by decide) (by decide) ml_Hall_336 (by decide) s_43 (by decide) rfl rfl rfl (leb rfl) (bz _) (fun _ => rfl) (ok_Keeping_debtsEaten hv) ?_
          refine w_goto (q := 61) d_Hall_amnesty_56 rfl ?_
          cases h
          exact w_ireturn d_Hall_amnesty_61 rfl rfl ⟨rfl, rfl, rfl, rfl⟩
        · rw [if_neg c8] at h
          refine w_if_ne_t (q := 59) d_Hall_amnesty_42 rfl c8 ?_
          refine w_iload (q := 61) d_Hall_amnesty_59 rfl rfl ?_
          cases h
          exact w_ireturn d_Hall_amnesty_61 rfl rfl ⟨rfl, rfl, rfl, rfl⟩
    · cases h
      exact w_callSx (M' := M_Hall_needOneOf) (n' := 1) (As := [.int p2, .int 1]) (sh' := SH) (E := exS9 e) d_Hall_amnesty_7 mw_Hall_needOneOf (by decide) (by decide) ml_Hall_327 rfl rfl (leb rfl) rfl (ok_Hall_needOneOf hv) ⟨rfl, rfl, rfl, rfl⟩
  · cases h
    exact w_callVx (M' := M_Hall_needMonk) (n' := 0) (k := 0) (As := [.int p0]) (sh' := SH) (E := exS9 e) d_Hall_amnesty_2 mw_Hall_needMonk (by decide) (by decide) ml_Hall_180 (by decide) s_0 (by decide) rfl rfl rfl (leb rfl) rfl (ok_Hall_needMonk hv) ⟨rfl, rfl, rfl, rfl⟩
def sp_Hall_week (F : Nat) (p0 : Int32) (p1 : Int32) (g : Mem) : Option (Int32 ⊕ Nat) := (sp_Hall_needMonk p0 g).bind fun r2 => (match r2 with | .inl _u => if p1 < (-1) then some (.inr 1) else if p1 ≤ 6 then (sp_Keeping_readOn F p0 p1 g).bind fun v5 => some (.inl v5) else some (.inr 1) | .inr e => some (.inr e))
theorem ok_Hall_week {γ : GG} {tt : Bool} {F : Nat} {p0 : Int32} {p1 : Int32} {g : Mem} {res : Int32 ⊕ Nat} (h : sp_Hall_week F p0 p1 g = some res) : CA γ M_Hall_week 4 [.ref 0, .int p0, .int p1] SH g tt (bO res) (pPI SH g tt res) := by
  refine CA.of mw_Hall_week.1 0 rfl ?_
  show WA γ M_Hall_week 4 0 [some (.ref 0), some (.int p0), some (.int p1)] [] SH g tt (bO res) (pPI SH g tt res)
  unfold sp_Hall_week at h
  refine w_aload_n (q := 1) d_Hall_week_0 rfl rfl ?_
  refine w_iload_n (q := 2) d_Hall_week_1 rfl rfl ?_
  obtain ⟨r2, hv, h⟩ := bnd h
  rcases r2 with _u | e
  · refine w_callVv (q := 5) (M' := M_Hall_needMonk) (n' := 0) (k := 0) (As := [.int p0]) (sh' := SH) (b1 := (0, 0)) d_Hall_week_2 rfl mw_Hall_needMonk (by decide) (by decide) ml_Hall_180 (by decide) s_0 (by decide) rfl rfl rfl (leb rfl) (bz _) (fun _ => rfl) (ok_Hall_needMonk hv) ?_
    refine w_iload_n (q := 6) d_Hall_week_5 rfl rfl ?_
    refine w_iconst (q := 7) (v := (-1)) d_Hall_week_6 rfl (by decide) ?_
    by_cases c3 : p1 < (-1)
    · rw [if_pos c3] at h
      refine w_icmp_lt_t (q := 16) d_Hall_week_7 rfl c3 ?_
      cases h
      exact w_throwW (j := 11) exB_nse exF.2.1 kl_Hall_175 wi_java_util_NoSuchElementException rfl exW_nse exG_nse d_Hall_week_16 d_Hall_week_19 d_Hall_week_20 d_Hall_week_23 d_Hall_week_26 rfl (leb rfl) rfl ⟨rfl, rfl, rfl, rfl⟩
    · rw [if_neg c3] at h
      refine w_icmp_lt_f (q := 10) d_Hall_week_7 16 rfl rfl c3 ?_
      refine w_iload_n (q := 11) d_Hall_week_10 rfl rfl ?_
      refine w_bipush (q := 13) (v := 6) d_Hall_week_11 rfl (by decide) ?_
      by_cases c4 : p1 ≤ 6
      · rw [if_pos c4] at h
        refine w_icmp_le_t (q := 27) d_Hall_week_13 rfl c4 ?_
        refine w_aload_n (q := 28) d_Hall_week_27 rfl rfl ?_
        refine w_get (q := 31) (ci := 11) (j := 11) d_Hall_week_28 rfl (by decide) fl_Hall_79 (by decide) (by decide) s_0 rfl rfl ?_
        refine w_iload_n (q := 32) d_Hall_week_31 rfl rfl ?_
        refine w_iload_n (q := 33) d_Hall_week_32 rfl rfl ?_
        obtain ⟨v5, hv, h⟩ := bnd h
        refine w_callVi (q := 36) (M' := M_Keeping_readOn) (n' := 3) (k := 43) (As := [.int p0, .int p1]) (sh' := SH) (b1 := (0, 0)) d_Hall_week_33 rfl mw_Keeping_readOn (by decide) (by decide) ml_Hall_341 (by decide) s_43 (by decide) rfl rfl rfl (leb rfl) (bz _) (fun _ => rfl) (ok_Keeping_readOn hv) ?_
        cases h
        exact w_ireturn d_Hall_week_36 rfl rfl ⟨rfl, rfl, rfl, rfl⟩
      · rw [if_neg c4] at h
        refine w_icmp_le_f (q := 16) d_Hall_week_13 27 rfl rfl c4 ?_
        cases h
        exact w_throwW (j := 11) exB_nse exF.2.1 kl_Hall_175 wi_java_util_NoSuchElementException rfl exW_nse exG_nse d_Hall_week_16 d_Hall_week_19 d_Hall_week_20 d_Hall_week_23 d_Hall_week_26 rfl (leb rfl) rfl ⟨rfl, rfl, rfl, rfl⟩
  · cases h
    exact w_callVx (M' := M_Hall_needMonk) (n' := 0) (k := 0) (As := [.int p0]) (sh' := SH) (E := exS9 e) d_Hall_week_2 mw_Hall_needMonk (by decide) (by decide) ml_Hall_180 (by decide) s_0 (by decide) rfl rfl rfl (leb rfl) rfl (ok_Hall_needMonk hv) ⟨rfl, rfl, rfl, rfl⟩
def sp_Hall_oldest (F : Nat) (p0 : Int32) (p1 : Int32) (g : Mem) : Option (Int32 ⊕ Nat) := (sp_Hall_needAbout p1 g).bind fun r2 => (match r2 with | .inl _u => (sp_Hall_isKind p0 g).bind fun v3 => if v3 = 0 then some (.inr 1) else (sp_Laws_earliest F 42 23 15 p0 p1 g).bind fun v5 => some (.inl v5) | .inr e => some (.inr e))
theorem ok_Hall_oldest {γ : GG} {tt : Bool} {F : Nat} {p0 : Int32} {p1 : Int32} {g : Mem} {res : Int32 ⊕ Nat} (h : sp_Hall_oldest F p0 p1 g = some res) : CA γ M_Hall_oldest 4 [.ref 0, .int p0, .int p1] SH g tt (bO res) (pPI SH g tt res) := by
  refine CA.of mw_Hall_oldest.1 0 rfl ?_
  show WA γ M_Hall_oldest 4 0 [some (.ref 0), some (.int p0), some (.int p1)] [] SH g tt (bO res) (pPI SH g tt res)
  unfold sp_Hall_oldest at h
  refine w_iload_n (q := 1) d_Hall_oldest_0 rfl rfl ?_
  obtain ⟨r2, hv, h⟩ := bnd h
  rcases r2 with _u | e
  · refine w_callSv (q := 4) (M' := M_Hall_needAbout) (n' := 2) (As := [.int p1]) (sh' := SH) (b1 := (0, 0)) d_Hall_oldest_1 rfl mw_Hall_needAbout (by decide) (by decide) ml_Hall_301 rfl rfl (leb rfl) (bz _) (fun _ => rfl) (ok_Hall_needAbout hv) ?_
    refine w_iload_n (q := 5) d_Hall_oldest_4 rfl rfl ?_
    obtain ⟨v3, hv, h⟩ := bnd h
    refine w_callSi (q := 8) (M' := M_Hall_isKind) (n' := 1) (As := [.int p0]) (sh' := SH) (b1 := (0, 0)) d_Hall_oldest_5 rfl mw_Hall_isKind (by decide) (by decide) ml_Hall_260 rfl rfl (leb rfl) (bz _) (fun _ => rfl) (ok_Hall_isKind hv) ?_
    by_cases c4 : v3 = 0
    · rw [if_pos c4] at h
      refine w_if_ne_f (q := 11) d_Hall_oldest_8 22 rfl rfl c4 ?_
      cases h
      exact w_throwW (j := 12) exB_nse exF.2.1 kl_Hall_175 wi_java_util_NoSuchElementException rfl exW_nse exG_nse d_Hall_oldest_11 d_Hall_oldest_14 d_Hall_oldest_15 d_Hall_oldest_18 d_Hall_oldest_21 rfl (leb rfl) rfl ⟨rfl, rfl, rfl, rfl⟩
    · rw [if_neg c4] at h
      refine w_if_ne_t (q := 22) d_Hall_oldest_8 rfl c4 ?_
      refine w_aload_n (q := 23) d_Hall_oldest_22 rfl rfl ?_
      refine w_get (q := 26) (ci := 11) (j := 10) d_Hall_oldest_23 rfl (by decide) fl_Hall_72 (by decide) (by decide) s_0 rfl rfl ?_
      refine w_iload_n (q := 27) d_Hall_oldest_26 rfl rfl ?_
      refine w_iload_n (q := 28) d_Hall_oldest_27 rfl rfl ?_
      obtain ⟨v5, hv, h⟩ := bnd h
      refine w_callVi (q := 31) (M' := M_Laws_earliest) (n' := 3) (k := 42) (As := [.int p0, .int p1]) (sh' := SH) (b1 := (0, 0)) d_Hall_oldest_28 rfl mw_Laws_earliest (by decide) (by decide) ml_Hall_346 i_42.2.1 i_42.1 (by decide) rfl rfl rfl (leb rfl) (bz _) (fun _ => rfl) (ok_Laws_earliest i_42 hv) ?_
      cases h
      exact w_ireturn d_Hall_oldest_31 rfl rfl ⟨rfl, rfl, rfl, rfl⟩
  · cases h
    exact w_callSx (M' := M_Hall_needAbout) (n' := 2) (As := [.int p1]) (sh' := SH) (E := exS9 e) d_Hall_oldest_1 mw_Hall_needAbout (by decide) (by decide) ml_Hall_301 rfl rfl (leb rfl) rfl (ok_Hall_needAbout hv) ⟨rfl, rfl, rfl, rfl⟩
def sp_Hall_believed (F : Nat) (p0 : Int32) (g : Mem) : Option (Int32 ⊕ Nat) := (sp_Hall_needAbout p0 g).bind fun r2 => (match r2 with | .inl _u => (sp_Laws_mostHeld F 42 23 15 p0 g).bind fun v3 => some (.inl v3) | .inr e => some (.inr e))
theorem ok_Hall_believed {γ : GG} {tt : Bool} {F : Nat} {p0 : Int32} {g : Mem} {res : Int32 ⊕ Nat} (h : sp_Hall_believed F p0 g = some res) : CA γ M_Hall_believed 5 [.ref 0, .int p0] SH g tt (bO res) (pPI SH g tt res) := by
  refine CA.of mw_Hall_believed.1 0 rfl ?_
  show WA γ M_Hall_believed 5 0 [some (.ref 0), some (.int p0)] [] SH g tt (bO res) (pPI SH g tt res)
  unfold sp_Hall_believed at h
  refine w_iload_n (q := 1) d_Hall_believed_0 rfl rfl ?_
  obtain ⟨r2, hv, h⟩ := bnd h
  rcases r2 with _u | e
  · refine w_callSv (q := 4) (M' := M_Hall_needAbout) (n' := 2) (As := [.int p0]) (sh' := SH) (b1 := (0, 0)) d_Hall_believed_1 rfl mw_Hall_needAbout (by decide) (by decide) ml_Hall_301 rfl rfl (leb rfl) (bz _) (fun _ => rfl) (ok_Hall_needAbout hv) ?_
    refine w_aload_n (q := 5) d_Hall_believed_4 rfl rfl ?_
    refine w_get (q := 8) (ci := 11) (j := 10) d_Hall_believed_5 rfl (by decide) fl_Hall_72 (by decide) (by decide) s_0 rfl rfl ?_
    refine w_iload_n (q := 9) d_Hall_believed_8 rfl rfl ?_
    obtain ⟨v3, hv, h⟩ := bnd h
    refine w_callVi (q := 12) (M' := M_Laws_mostHeld) (n' := 4) (k := 42) (As := [.int p0]) (sh' := SH) (b1 := (0, 0)) d_Hall_believed_9 rfl mw_Laws_mostHeld (by decide) (by decide) ml_Hall_349 i_42.2.1 i_42.1 (by decide) rfl rfl rfl (leb rfl) (bz _) (fun _ => rfl) (ok_Laws_mostHeld i_42 hv) ?_
    cases h
    exact w_ireturn d_Hall_believed_12 rfl rfl ⟨rfl, rfl, rfl, rfl⟩
  · cases h
    exact w_callSx (M' := M_Hall_needAbout) (n' := 2) (As := [.int p0]) (sh' := SH) (E := exS9 e) d_Hall_believed_1 mw_Hall_needAbout (by decide) (by decide) ml_Hall_301 rfl rfl (leb rfl) rfl (ok_Hall_needAbout hv) ⟨rfl, rfl, rfl, rfl⟩
def sp_Hall_until (p0 : Int32) (g : Mem) : Option (Int32 ⊕ Nat) := (sp_Hall_needEntry p0 g).bind fun r2 => (match r2 with | .inl _u => (sp_Hair_isThere 23 15 p0 g).bind fun v3 => if v3 = 0 then some (.inl (-1)) else (sp_Keeping_yearsLeft p0 g).bind fun v5 => some (.inl v5) | .inr e => some (.inr e))
theorem ok_Hall_until {γ : GG} {tt : Bool} {p0 : Int32} {g : Mem} {res : Int32 ⊕ Nat} (h : sp_Hall_until p0 g = some res) : CA γ M_Hall_until 3 [.ref 0, .int p0] SH g tt (bO res) (pPI SH g tt res) := by
  refine CA.of mw_Hall_until.1 0 rfl ?_
  show WA γ M_Hall_until 3 0 [some (.ref 0), some (.int p0)] [] SH g tt (bO res) (pPI SH g tt res)
  unfold sp_Hall_until at h
  refine w_aload_n (q := 1) d_Hall_until_0 rfl rfl ?_
  refine w_iload_n (q := 2) d_Hall_until_1 rfl rfl ?_
  obtain ⟨r2, hv, h⟩ := bnd h
  rcases r2 with _u | e
  · refine w_callVv (q := 5) (M' := M_Hall_needEntry) (n' := 0) (k := 0) (As := [.int p0]) (sh' := SH) (b1 := (0, 0)) d_Hall_until_2 rfl mw_Hall_needEntry (by decide) (by decide) ml_Hall_204 (by decide) s_0 (by decide) rfl rfl rfl (leb rfl) (bz _) (fun _ => rfl) (ok_Hall_needEntry hv) ?_
    refine w_aload_n (q := 6) d_Hall_until_5 rfl rfl ?_
    refine w_get (q := 9) (ci := 11) (j := 6) d_Hall_until_6 rfl (by decide) fl_Hall_42 (by decide) (by decide) s_0 rfl rfl ?_
    refine w_iload_n (q := 10) d_Hall_until_9 rfl rfl ?_
    obtain ⟨v3, hv, h⟩ := bnd h
    refine w_callVi (q := 13) (M' := M_Hair_isThere) (n' := 1) (k := 23) (As := [.int p0]) (sh' := SH) (b1 := (0, 0)) d_Hall_until_10 rfl mw_Hair_isThere (by decide) (by decide) ml_Hall_212 i_23.2.1 i_23.1 (by decide) rfl rfl rfl (leb rfl) (bz _) (fun _ => rfl) (ok_Hair_isThere i_23 hv) ?_
    by_cases c4 : v3 = 0
    · rw [if_pos c4] at h
      refine w_if_eq_t (q := 27) d_Hall_until_13 rfl c4 ?_
      refine w_iconst (q := 28) (v := (-1)) d_Hall_until_27 rfl (by decide) ?_
      cases h
      exact w_ireturn d_Hall_until_28 rfl rfl ⟨rfl, rfl, rfl, rfl⟩
    · rw [if_neg c4] at h
      refine w_if_eq_f (q := 16) d_Hall_until_13 27 rfl rfl c4 ?_
      refine w_aload_n (q := 17) d_Hall_until_16 rfl rfl ?_
      refine w_get (q := 20) (ci := 11) (j := 11) d_Hall_until_17 rfl (by decide) fl_Hall_79 (by decide) (by decide) s_0 rfl rfl ?_
      refine w_iload_n (q := 21) d_Hall_until_20 rfl rfl ?_
      obtain ⟨v5, hv, h⟩ := bnd h
      refine w_callVi (q := 24) (M' := M_Keeping_yearsLeft) (n' := 2) (k := 43) (As := [.int p0]) (sh' := SH) (b1 := (0, 0)) d_Hall_until_21 rfl mw_Keeping_yearsLeft (by decide) (by decide) ml_Hall_352 (by decide) s_43 (by decide) rfl rfl rfl (leb rfl) (bz _) (fun _ => rfl) (ok_Keeping_yearsLeft hv) ?_
      refine w_goto (q := 28) d_Hall_until_24 rfl ?_
      cases h
      exact w_ireturn d_Hall_until_28 rfl rfl ⟨rfl, rfl, rfl, rfl⟩
  · cases h
    exact w_callVx (M' := M_Hall_needEntry) (n' := 0) (k := 0) (As := [.int p0]) (sh' := SH) (E := exS9 e) d_Hall_until_2 mw_Hall_needEntry (by decide) (by decide) ml_Hall_204 (by decide) s_0 (by decide) rfl rfl rfl (leb rfl) rfl (ok_Hall_needEntry hv) ⟨rfl, rfl, rfl, rfl⟩
def sp_Hall_doomed (F : Nat) (p0 : Int32) (g : Mem) : Option (Int32 ⊕ Nat) := (sp_Hall_isWithin p0 60 g).bind fun v1 => if v1 = 0 then some (.inr 0) else (sp_Keeping_lostWithin F p0 g).bind fun v3 => some (.inl v3)
theorem ok_Hall_doomed {γ : GG} {tt : Bool} {F : Nat} {p0 : Int32} {g : Mem} {res : Int32 ⊕ Nat} (h : sp_Hall_doomed F p0 g = some res) : CA γ M_Hall_doomed 4 [.ref 0, .int p0] SH g tt (bO res) (pPI SH g tt res) := by
  refine CA.of mw_Hall_doomed.1 0 rfl ?_
  show WA γ M_Hall_doomed 4 0 [some (.ref 0), some (.int p0)] [] SH g tt (bO res) (pPI SH g tt res)
  unfold sp_Hall_doomed at h
  refine w_iload_n (q := 1) d_Hall_doomed_0 rfl rfl ?_
  refine w_bipush (q := 3) (v := 60) d_Hall_doomed_1 rfl (by decide) ?_
  obtain ⟨v1, hv, h⟩ := bnd h
  refine w_callSi (q := 6) (M' := M_Hall_isWithin) (n' := 0) (As := [.int p0, .int 60]) (sh' := SH) (b1 := (0, 0)) d_Hall_doomed_3 rfl mw_Hall_isWithin (by decide) (by decide) ml_Hall_266 rfl rfl (leb rfl) (bz _) (fun _ => rfl) (ok_Hall_isWithin hv) ?_
  by_cases c2 : v1 = 0
  · rw [if_pos c2] at h
    refine w_if_ne_f (q := 9) d_Hall_doomed_6 20 rfl rfl c2 ?_
    cases h
    exact w_throwW (j := 13) exB_iae exF.1 kl_Hall_110 wi_java_lang_IllegalArgumentException rfl exW_iae exG_iae d_Hall_doomed_9 d_Hall_doomed_12 d_Hall_doomed_13 d_Hall_doomed_16 d_Hall_doomed_19 rfl (leb rfl) rfl ⟨rfl, rfl, rfl, rfl⟩
  · rw [if_neg c2] at h
    refine w_if_ne_t (q := 20) d_Hall_doomed_6 rfl c2 ?_
    refine w_aload_n (q := 21) d_Hall_doomed_20 rfl rfl ?_
    refine w_get (q := 24) (ci := 11) (j := 11) d_Hall_doomed_21 rfl (by decide) fl_Hall_79 (by decide) (by decide) s_0 rfl rfl ?_
    refine w_iload_n (q := 25) d_Hall_doomed_24 rfl rfl ?_
    obtain ⟨v3, hv, h⟩ := bnd h
    refine w_callVi (q := 28) (M' := M_Keeping_lostWithin) (n' := 3) (k := 43) (As := [.int p0]) (sh' := SH) (b1 := (0, 0)) d_Hall_doomed_25 rfl mw_Keeping_lostWithin (by decide) (by decide) ml_Hall_357 (by decide) s_43 (by decide) rfl rfl rfl (leb rfl) (bz _) (fun _ => rfl) (ok_Keeping_lostWithin hv) ?_
    cases h
    exact w_ireturn d_Hall_doomed_28 rfl rfl ⟨rfl, rfl, rfl, rfl⟩
def sp_Hall_safest (F : Nat) (g : Mem) : Option (Int32) := (sp_Keeping_bestForBraiding F g).bind fun v1 => some v1
theorem ok_Hall_safest {γ : GG} {tt : Bool} {F : Nat} {g : Mem} {res : Int32} (h : sp_Hall_safest F g = some res) : CA γ M_Hall_safest 3 [.ref 0] SH g tt (0, 0) (pI SH res g tt) := by
  refine CA.of mw_Hall_safest.1 0 rfl ?_
  show WA γ M_Hall_safest 3 0 [some (.ref 0)] [] SH g tt (0, 0) (pI SH res g tt)
  unfold sp_Hall_safest at h
  refine w_aload_n (q := 1) d_Hall_safest_0 rfl rfl ?_
  refine w_get (q := 4) (ci := 11) (j := 11) d_Hall_safest_1 rfl (by decide) fl_Hall_79 (by decide) (by decide) s_0 rfl rfl ?_
  obtain ⟨v1, hv, h⟩ := bnd h
  refine w_callVi (q := 7) (M' := M_Keeping_bestForBraiding) (n' := 2) (k := 43) (As := []) (sh' := SH) (b1 := (0, 0)) d_Hall_safest_4 rfl mw_Keeping_bestForBraiding (by decide) (by decide) ml_Hall_360 (by decide) s_43 (by decide) rfl rfl rfl (leb rfl) (bz _) (fun _ => rfl) (ok_Keeping_bestForBraiding hv) ?_
  cases h
  exact w_ireturn d_Hall_safest_7 rfl rfl ⟨rfl, rfl, rfl, rfl⟩
def sp_Hall_heir (F : Nat) (p0 : Int32) (g : Mem) : Option (Int32 ⊕ Nat) := (sp_Hall_needMonk p0 g).bind fun r2 => (match r2 with | .inl _u => (sp_Keeping_mostAlike F p0 g).bind fun v3 => some (.inl v3) | .inr e => some (.inr e))
theorem ok_Hall_heir {γ : GG} {tt : Bool} {F : Nat} {p0 : Int32} {g : Mem} {res : Int32 ⊕ Nat} (h : sp_Hall_heir F p0 g = some res) : CA γ M_Hall_heir 4 [.ref 0, .int p0] SH g tt (bO res) (pPI SH g tt res) := by
  refine CA.of mw_Hall_heir.1 0 rfl ?_
  show WA γ M_Hall_heir 4 0 [some (.ref 0), some (.int p0)] [] SH g tt (bO res) (pPI SH g tt res)
  unfold sp_Hall_heir at h
  refine w_aload_n (q := 1) d_Hall_heir_0 rfl rfl ?_
  refine w_iload_n (q := 2) d_Hall_heir_1 rfl rfl ?_
  obtain ⟨r2, hv, h⟩ := bnd h
  rcases r2 with _u | e
  · refine w_callVv (q := 5) (M' := M_Hall_needMonk) (n' := 0) (k := 0) (As := [.int p0]) (sh' := SH) (b1 := (0, 0)) d_Hall_heir_2 rfl mw_Hall_needMonk (by decide) (by decide) ml_Hall_180 (by decide) s_0 (by decide) rfl rfl rfl (leb rfl) (bz _) (fun _ => rfl) (ok_Hall_needMonk hv) ?_
    refine w_aload_n (q := 6) d_Hall_heir_5 rfl rfl ?_
    refine w_get (q := 9) (ci := 11) (j := 11) d_Hall_heir_6 rfl (by decide) fl_Hall_79 (by decide) (by decide) s_0 rfl rfl ?_
    refine w_iload_n (q := 10) d_Hall_heir_9 rfl rfl ?_
    obtain ⟨v3, hv, h⟩ := bnd h
    refine w_callVi (q := 13) (M' := M_Keeping_mostAlike) (n' := 3) (k := 43) (As := [.int p0]) (sh' := SH) (b1 := (0, 0)) d_Hall_heir_10 rfl mw_Keeping_mostAlike (by decide) (by decide) ml_Hall_363 (by decide) s_43 (by decide) rfl rfl rfl (leb rfl) (bz _) (fun _ => rfl) (ok_Keeping_mostAlike hv) ?_
    cases h
    exact w_ireturn d_Hall_heir_13 rfl rfl ⟨rfl, rfl, rfl, rfl⟩
  · cases h
    exact w_callVx (M' := M_Hall_needMonk) (n' := 0) (k := 0) (As := [.int p0]) (sh' := SH) (E := exS9 e) d_Hall_heir_2 mw_Hall_needMonk (by decide) (by decide) ml_Hall_180 (by decide) s_0 (by decide) rfl rfl rfl (leb rfl) rfl (ok_Hall_needMonk hv) ⟨rfl, rfl, rfl, rfl⟩
def sp_Hall_lice (F : Nat) (p0 : Int32) (g : Mem) : Option (Int32 ⊕ Nat) := (sp_Hall_needMonk p0 g).bind fun r2 => (match r2 with | .inl _u => (sp_Keeping_audit F p0 g).bind fun v3 => some (.inl v3) | .inr e => some (.inr e))
theorem ok_Hall_lice {γ : GG} {tt : Bool} {F : Nat} {p0 : Int32} {g : Mem} {res : Int32 ⊕ Nat} (h : sp_Hall_lice F p0 g = some res) : CA γ M_Hall_lice 3 [.ref 0, .int p0] SH g tt (bO res) (pPI SH g tt res) := by
  refine CA.of mw_Hall_lice.1 0 rfl ?_
  show WA γ M_Hall_lice 3 0 [some (.ref 0), some (.int p0)] [] SH g tt (bO res) (pPI SH g tt res)
  unfold sp_Hall_lice at h
  refine w_aload_n (q := 1) d_Hall_lice_0 rfl rfl ?_
  refine w_iload_n (q := 2) d_Hall_lice_1 rfl rfl ?_
  obtain ⟨r2, hv, h⟩ := bnd h
  rcases r2 with _u | e
  · refine w_callVv (q := 5) (M' := M_Hall_needMonk) (n' := 0) (k := 0) (As := [.int p0]) (sh' := SH) (b1 := (0, 0)) d_Hall_lice_2 rfl mw_Hall_needMonk (by decide) (by decide) ml_Hall_180 (by decide) s_0 (by decide) rfl rfl rfl (leb rfl) (bz _) (fun _ => rfl) (ok_Hall_needMonk hv) ?_
    refine w_aload_n (q := 6) d_Hall_lice_5 rfl rfl ?_
    refine w_get (q := 9) (ci := 11) (j := 11) d_Hall_lice_6 rfl (by decide) fl_Hall_79 (by decide) (by decide) s_0 rfl rfl ?_
    refine w_iload_n (q := 10) d_Hall_lice_9 rfl rfl ?_
    obtain ⟨v3, hv, h⟩ := bnd h
    refine w_callVi (q := 13) (M' := M_Keeping_audit) (n' := 2) (k := 43) (As := [.int p0]) (sh' := SH) (b1 := (0, 0)) d_Hall_lice_10 rfl mw_Keeping_audit (by decide) (by decide) ml_Hall_366 (by decide) s_43 (by decide) rfl rfl rfl (leb rfl) (bz _) (fun _ => rfl) (ok_Keeping_audit hv) ?_
    cases h
    exact w_ireturn d_Hall_lice_13 rfl rfl ⟨rfl, rfl, rfl, rfl⟩
  · cases h
    exact w_callVx (M' := M_Hall_needMonk) (n' := 0) (k := 0) (As := [.int p0]) (sh' := SH) (E := exS9 e) d_Hall_lice_2 mw_Hall_needMonk (by decide) (by decide) ml_Hall_180 (by decide) s_0 (by decide) rfl rfl rfl (leb rfl) rfl (ok_Hall_needMonk hv) ⟨rfl, rfl, rfl, rfl⟩
def sp_Hall_see (p0 : Int32) (p1 : Int32) (g : Mem) : Option ((Int32 × Mem) ⊕ Nat) := (sp_Hall_needEntry p0 g).bind fun r2 => (match r2 with | .inl _u => if (g 28 2) < 8 then (sp_Seen_add 28 p0 p1 g).bind fun v4 => some (.inl (v4 28 2, v4)) else (rd g 2 3 2).bind fun v5 => (wr g 2 3 2 (v5 + 1)).bind fun g6 => some (.inl ((-1), g6)) | .inr e => some (.inr e))
theorem ok_Hall_see {γ : GG} {tt : Bool} {p0 : Int32} {p1 : Int32} {g : Mem} {res : (Int32 × Mem) ⊕ Nat} (h : sp_Hall_see p0 p1 g = some res) : CA γ M_Hall_see 1 [.ref 0, .int p0, .int p1] SH g tt (bO res) (pEI SH g tt res) := by
  refine CA.of mw_Hall_see.1 0 rfl ?_
  show WA γ M_Hall_see 1 0 [some (.ref 0), some (.int p0), some (.int p1)] [] SH g tt (bO res) (pEI SH g tt res)
  unfold sp_Hall_see at h
  refine w_aload_n (q := 1) d_Hall_see_0 rfl rfl ?_
  refine w_iload_n (q := 2) d_Hall_see_1 rfl rfl ?_
  obtain ⟨r2, hv, h⟩ := bnd h
  rcases r2 with _u | e
  · refine w_callVv (q := 5) (M' := M_Hall_needEntry) (n' := 0) (k := 0) (As := [.int p0]) (sh' := SH) (b1 := (0, 0)) d_Hall_see_2 rfl mw_Hall_needEntry (by decide) (by decide) ml_Hall_204 (by decide) s_0 (by decide) rfl rfl rfl (leb rfl) (bz _) (fun _ => rfl) (ok_Hall_needEntry hv) ?_
    refine w_aload_n (q := 6) d_Hall_see_5 rfl rfl ?_
    refine w_get (q := 9) (ci := 11) (j := 8) d_Hall_see_6 rfl (by decide) fl_Hall_56 (by decide) (by decide) s_0 rfl rfl ?_
    refine w_get (q := 12) (ci := 10) (j := 2) d_Hall_see_9 rfl (by decide) fl_Hall_136 (by decide) i_28.2.1 i_28.1 rfl rfl ?_
    refine w_bipush (q := 14) (v := 8) d_Hall_see_12 rfl (by decide) ?_
    by_cases c3 : (g 28 2) < 8
    · rw [if_pos c3] at h
      refine w_icmp_lt_t (q := 29) d_Hall_see_14 rfl c3 ?_
      refine w_aload_n (q := 30) d_Hall_see_29 rfl rfl ?_
      refine w_get (q := 33) (ci := 11) (j := 8) d_Hall_see_30 rfl (by decide) fl_Hall_56 (by decide) (by decide) s_0 rfl rfl ?_
      refine w_iload_n (q := 34) d_Hall_see_33 rfl rfl ?_
      refine w_iload_n (q := 35) d_Hall_see_34 rfl rfl ?_
      obtain ⟨v4, hv, h⟩ := bnd h
      refine w_callVv (q := 38) (M' := M_Seen_add) (n' := 0) (k := 28) (As := [.int p0, .int p1]) (sh' := SH) (b1 := (0, 0)) d_Hall_see_35 rfl mw_Seen_add (by decide) (by decide) ml_Hall_369 i_28.2.1 i_28.1 (by decide) rfl rfl rfl (leb rfl) (bz _) (fun _ => rfl) (ok_Seen_add i_28 hv) ?_
      refine w_aload_n (q := 39) d_Hall_see_38 rfl rfl ?_
      refine w_get (q := 42) (ci := 11) (j := 8) d_Hall_see_39 rfl (by decide) fl_Hall_56 (by decide) (by decide) s_0 rfl rfl ?_
      refine w_get (q := 45) (ci := 10) (j := 2) d_Hall_see_42 rfl (by decide) fl_Hall_136 (by decide) i_28.2.1 i_28.1 rfl rfl ?_
      cases h
      exact w_ireturn d_Hall_see_45 rfl rfl ⟨rfl, rfl, rfl, rfl⟩
    · rw [if_neg c3] at h
      refine w_icmp_lt_f (q := 17) d_Hall_see_14 29 rfl rfl c3 ?_
      refine w_aload_n (q := 18) d_Hall_see_17 rfl rfl ?_
      refine w_get (q := 21) (ci := 11) (j := 3) d_Hall_see_18 rfl (by decide) fl_Hall_17 (by decide) (by decide) s_0 rfl rfl ?_
      refine w_iconst (q := 22) (v := 2) d_Hall_see_21 rfl (by decide) ?_
      refine w_dup2 (q := 23) d_Hall_see_22 rfl rfl rfl ?_
      obtain ⟨v5, hv, h⟩ := bnd h
      obtain ⟨hi, hv⟩ := rd_ok hv
      refine w_iald (q := 24) (t := 0) d_Hall_see_23 rfl a_2.2 a_2.1 hi rfl ?_
      rw [hv]
      refine w_iconst (q := 25) (v := 1) d_Hall_see_24 rfl (by decide) ?_
      refine w_iadd (q := 26) d_Hall_see_25 rfl ?_
      obtain ⟨g6, hv, h⟩ := bnd h
      obtain ⟨hi, hv⟩ := wr_ok hv
      refine w_iast (q := 27) d_Hall_see_26 rfl a_2.2 a_2.1 hi hv ?_
      refine w_iconst (q := 28) (v := (-1)) d_Hall_see_27 rfl (by decide) ?_
      cases h
      exact w_ireturn d_Hall_see_28 rfl rfl ⟨rfl, rfl, rfl, rfl⟩
  · cases h
    exact w_callVx (M' := M_Hall_needEntry) (n' := 0) (k := 0) (As := [.int p0]) (sh' := SH) (E := exS9 e) d_Hall_see_2 mw_Hall_needEntry (by decide) (by decide) ml_Hall_204 (by decide) s_0 (by decide) rfl rfl rfl (leb rfl) rfl (ok_Hall_needEntry hv) ⟨rfl, rfl, rfl, rfl⟩
def sp_Hall_ate (F : Nat) (p0 : Int32) (p1 : Int32) (g : Mem) : Option (Int32 ⊕ Nat) := (sp_Hall_needMonk p0 g).bind fun r2 => (match r2 with | .inl _u => (sp_Hall_needOneOf p1 1 g).bind fun r4 => (match r4 with | .inl _u => if p1 = 0 then (sp_Seen_waysToEat F 28 23 15 p0 g).bind fun v6 => some (.inl v6) else (sp_Seen_firstToEat F 28 23 15 p0 g).bind fun v7 => some (.inl v7) | .inr e => some (.inr e)) | .inr e => some (.inr e))
theorem ok_Hall_ate {γ : GG} {tt : Bool} {F : Nat} {p0 : Int32} {p1 : Int32} {g : Mem} {res : Int32 ⊕ Nat} (h : sp_Hall_ate F p0 p1 g = some res) : CA γ M_Hall_ate 5 [.ref 0, .int p0, .int p1] SH g tt (bO res) (pPI SH g tt res) := by
  refine CA.of mw_Hall_ate.1 0 rfl ?_
  show WA γ M_Hall_ate 5 0 [some (.ref 0), some (.int p0), some (.int p1)] [] SH g tt (bO res) (pPI SH g tt res)
  unfold sp_Hall_ate at h
  refine w_aload_n (q := 1) d_Hall_ate_0 rfl rfl ?_
  refine w_iload_n (q := 2) d_Hall_ate_1 rfl rfl ?_
  obtain ⟨r2, hv, h⟩ := bnd h
  rcases r2 with _u | e
  · refine w_callVv (q := 5) (M' := M_Hall_needMonk) (n' := 0) (k := 0) (As := [.int p0]) (sh' := SH) (b1 := (0, 0)) d_Hall_ate_2 rfl mw_Hall_needMonk (by decide) (by decide) ml_Hall_180 (by decide) s_0 (by decide) rfl rfl rfl (leb rfl) (bz _) (fun _ => rfl) (ok_Hall_needMonk hv) ?_
    refine w_iload_n (q := 6) d_Hall_ate_5 rfl rfl ?_
    refine w_iconst (q := 7) (v := 1) d_Hall_ate_6 rfl (by decide) ?_
    obtain ⟨r4, hv, h⟩ := bnd h
    rcases r4 with _u | e
    · refine w_callSv (q := 10) (M' := M_Hall_needOneOf) (n' := 1) (As := [.int p1, .int 1]) (sh' := SH) (b1 := (0, 0)) d_Hall_ate_7 rfl mw_Hall_needOneOf (by decide) (by decide) ml_Hall_327 rfl rfl (leb rfl) (bz _) (fun _ => rfl) (ok_Hall_needOneOf hv) ?_
      refine w_iload_n (q := 11) d_Hall_ate_10 rfl rfl ?_
      by_cases c5 : p1 = 0
      · rw [if_pos c5] at h
        refine w_if_ne_f (q := 14) d_Hall_ate_11 29 rfl rfl c5 ?_
        refine w_aload_n (q := 15) d_Hall_ate_14 rfl rfl ?_
        refine w_get (q := 18) (ci := 11) (j := 8) d_Hall_ate_15 rfl (by decide) fl_Hall_56 (by decide) (by decide) s_0 rfl rfl ?_
        refine w_aload_n (q := 19) d_Hall_ate_18 rfl rfl ?_
        refine w_get (q := 22) (ci := 11) (j := 6) d_Hall_ate_19 rfl (by decide) fl_Hall_42 (by decide) (by decide) s_0 rfl rfl ?_
        refine w_iload_n (q := 23) d_Hall_ate_22 rfl rfl ?_
        obtain ⟨v6, hv, h⟩ := bnd h
        refine w_callVi (q := 26) (M' := M_Seen_waysToEat) (n' := 4) (k := 28) (As := [.ref 23, .int p0]) (sh' := SH) (b1 := (0, 0)) d_Hall_ate_23 rfl mw_Seen_waysToEat (by decide) (by decide) ml_Hall_373 i_28.2.1 i_28.1 (by decide) rfl rfl rfl (leb rfl) (bz _) (fun _ => rfl) (ok_Seen_waysToEat i_28 i_23 hv) ?_
        refine w_goto (q := 41) d_Hall_ate_26 rfl ?_
        cases h
        exact w_ireturn d_Hall_ate_41 rfl rfl ⟨rfl, rfl, rfl, rfl⟩
      · rw [if_neg c5] at h
        refine w_if_ne_t (q := 29) d_Hall_ate_11 rfl c5 ?_
        refine w_aload_n (q := 30) d_Hall_ate_29 rfl rfl ?_
        refine w_get (q := 33) (ci := 11) (j := 8) d_Hall_ate_30 rfl (by decide) fl_Hall_56 (by decide) (by decide) s_0 rfl rfl ?_
        refine w_aload_n (q := 34) d_Hall_ate_33 rfl rfl ?_
        refine w_get (q := 37) (ci := 11) (j := 6) d_Hall_ate_34 rfl (by decide) fl_Hall_42 (by decide) (by decide) s_0 rfl rfl ?_
        refine w_iload_n (q := 38) d_Hall_ate_37 rfl rfl ?_
        obtain ⟨v7, hv, h⟩ := bnd h
        refine w_callVi (q := 41) (M' := M_Seen_firstToEat) (n' := 4) (k := 28) (As := [.ref 23, .int p0]) (sh' := SH) (b1 := (0, 0)) d_Hall_ate_38 rfl mw_Seen_firstToEat (by decide) (by decide) ml_Hall_377 i_28.2.1 i_28.1 (by decide) rfl rfl rfl (leb rfl) (bz _) (fun _ => rfl) (ok_Seen_firstToEat i_28 i_23 hv) ?_
        cases h
        exact w_ireturn d_Hall_ate_41 rfl rfl ⟨rfl, rfl, rfl, rfl⟩
    · cases h
      exact w_callSx (M' := M_Hall_needOneOf) (n' := 1) (As := [.int p1, .int 1]) (sh' := SH) (E := exS9 e) d_Hall_ate_7 mw_Hall_needOneOf (by decide) (by decide) ml_Hall_327 rfl rfl (leb rfl) rfl (ok_Hall_needOneOf hv) ⟨rfl, rfl, rfl, rfl⟩
  · cases h
    exact w_callVx (M' := M_Hall_needMonk) (n' := 0) (k := 0) (As := [.int p0]) (sh' := SH) (E := exS9 e) d_Hall_ate_2 mw_Hall_needMonk (by decide) (by decide) ml_Hall_180 (by decide) s_0 (by decide) rfl rfl rfl (leb rfl) rfl (ok_Hall_needMonk hv) ⟨rfl, rfl, rfl, rfl⟩
def sp_Hall_forget (g : Mem) : Option (Int32 × Mem) := if (g 28 2) = 0 then some ((-1), g) else some ((mset g 28 2 ((g 28 2) - 1)) 28 2, (mset g 28 2 ((g 28 2) - 1)))
theorem ok_Hall_forget {γ : GG} {tt : Bool} {g : Mem} {res : Int32 × Mem} (h : sp_Hall_forget g = some res) : CA γ M_Hall_forget 0 [.ref 0] SH g tt (0, 0) (pI SH res.1 res.2 tt) := by
  refine CA.of mw_Hall_forget.1 0 rfl ?_
  show WA γ M_Hall_forget 0 0 [some (.ref 0)] [] SH g tt (0, 0) (pI SH res.1 res.2 tt)
  unfold sp_Hall_forget at h
  refine w_aload_n (q := 1) d_Hall_forget_0 rfl rfl ?_
  refine w_get (q := 4) (ci := 11) (j := 8) d_Hall_forget_1 rfl (by decide) fl_Hall_56 (by decide) (by decide) s_0 rfl rfl ?_
  refine w_get (q := 7) (ci := 10) (j := 2) d_Hall_forget_4 rfl (by decide) fl_Hall_136 (by decide) i_28.2.1 i_28.1 rfl rfl ?_
  by_cases c1 : (g 28 2) = 0
  · rw [if_pos c1] at h
    refine w_if_ne_f (q := 10) d_Hall_forget_7 12 rfl rfl c1 ?_
    refine w_iconst (q := 11) (v := (-1)) d_Hall_forget_10 rfl (by decide) ?_
    cases h
    exact w_ireturn d_Hall_forget_11 rfl rfl ⟨rfl, rfl, rfl, rfl⟩
  · rw [if_neg c1] at h
    refine w_if_ne_t (q := 12) d_Hall_forget_7 rfl c1 ?_
    refine w_aload_n (q := 13) d_Hall_forget_12 rfl rfl ?_
    refine w_get (q := 16) (ci := 11) (j := 8) d_Hall_forget_13 rfl (by decide) fl_Hall_56 (by decide) (by decide) s_0 rfl rfl ?_
    refine w_dup (q := 17) d_Hall_forget_16 rfl rfl ?_
    refine w_get (q := 20) (ci := 10) (j := 2) d_Hall_forget_17 rfl (by decide) fl_Hall_136 (by decide) i_28.2.1 i_28.1 rfl rfl ?_
    refine w_iconst (q := 21) (v := 1) d_Hall_forget_20 rfl (by decide) ?_
    refine w_isub (q := 22) d_Hall_forget_21 rfl ?_
    refine w_put (q := 25) (ci := 10) (j := 2) d_Hall_forget_22 rfl (by decide) fl_Hall_136 (by decide) i_28.2.1 i_28.1 rfl rfl rfl rfl rfl rfl ?_
    refine w_aload_n (q := 26) d_Hall_forget_25 rfl rfl ?_
    refine w_get (q := 29) (ci := 11) (j := 8) d_Hall_forget_26 rfl (by decide) fl_Hall_56 (by decide) (by decide) s_0 rfl rfl ?_
    refine w_get (q := 32) (ci := 10) (j := 2) d_Hall_forget_29 rfl (by decide) fl_Hall_136 (by decide) i_28.2.1 i_28.1 rfl rfl ?_
    cases h
    exact w_ireturn d_Hall_forget_32 rfl rfl ⟨rfl, rfl, rfl, rfl⟩
def sp_Hall_game (F : Nat) (p0 : Int32) (g : Mem) : Option ((Int32 × Mem) ⊕ Nat) := (sp_Hall_needOneOf p0 1 g).bind fun r2 => (match r2 with | .inl _u => (sp_Game_tellGains F g).bind fun v3 => if p0 = 0 then (sp_Game_resting F v3).bind fun v5 => some (.inl (v5, v3)) else (sp_Game_firstResting F v3).bind fun v6 => some (.inl (v6, v3)) | .inr e => some (.inr e))
theorem ok_Hall_game {γ : GG} {tt : Bool} {F : Nat} {p0 : Int32} {g : Mem} {res : (Int32 × Mem) ⊕ Nat} (h : sp_Hall_game F p0 g = some res) : CA γ M_Hall_game 5 [.ref 0, .int p0] SH g tt (bO res) (pEI SH g tt res) := by
  refine CA.of mw_Hall_game.1 0 rfl ?_
  show WA γ M_Hall_game 5 0 [some (.ref 0), some (.int p0)] [] SH g tt (bO res) (pEI SH g tt res)
  unfold sp_Hall_game at h
  refine w_iload_n (q := 1) d_Hall_game_0 rfl rfl ?_
  refine w_iconst (q := 2) (v := 1) d_Hall_game_1 rfl (by decide) ?_
  obtain ⟨r2, hv, h⟩ := bnd h
  rcases r2 with _u | e
  · refine w_callSv (q := 5) (M' := M_Hall_needOneOf) (n' := 1) (As := [.int p0, .int 1]) (sh' := SH) (b1 := (0, 0)) d_Hall_game_2 rfl mw_Hall_needOneOf (by decide) (by decide) ml_Hall_327 rfl rfl (leb rfl) (bz _) (fun _ => rfl) (ok_Hall_needOneOf hv) ?_
    refine w_aload_n (q := 6) d_Hall_game_5 rfl rfl ?_
    refine w_get (q := 9) (ci := 11) (j := 12) d_Hall_game_6 rfl (by decide) fl_Hall_86 (by decide) (by decide) s_0 rfl rfl ?_
    obtain ⟨v3, hv, h⟩ := bnd h
    refine w_callVv (q := 12) (M' := M_Game_tellGains) (n' := 4) (k := 45) (As := []) (sh' := SH) (b1 := (0, 0)) d_Hall_game_9 rfl mw_Game_tellGains (by decide) (by decide) ml_Hall_380 (by decide) s_45 (by decide) rfl rfl rfl (leb rfl) (bz _) (fun _ => rfl) (ok_Game_tellGains hv) ?_
    refine w_iload_n (q := 13) d_Hall_game_12 rfl rfl ?_
    by_cases c4 : p0 = 0
    · rw [if_pos c4] at h
      refine w_if_ne_f (q := 16) d_Hall_game_13 26 rfl rfl c4 ?_
      refine w_aload_n (q := 17) d_Hall_game_16 rfl rfl ?_
      refine w_get (q := 20) (ci := 11) (j := 12) d_Hall_game_17 rfl (by decide) fl_Hall_86 (by decide) (by decide) s_0 rfl rfl ?_
      obtain ⟨v5, hv, h⟩ := bnd h
      refine w_callVi (q := 23) (M' := M_Game_resting) (n' := 2) (k := 45) (As := []) (sh' := SH) (b1 := (0, 0)) d_Hall_game_20 rfl mw_Game_resting (by decide) (by decide) ml_Hall_383 (by decide) s_45 (by decide) rfl rfl rfl (leb rfl) (bz _) (fun _ => rfl) (ok_Game_resting hv) ?_
      refine w_goto (q := 33) d_Hall_game_23 rfl ?_
      cases h
      exact w_ireturn d_Hall_game_33 rfl rfl ⟨rfl, rfl, rfl, rfl⟩
    · rw [if_neg c4] at h
      refine w_if_ne_t (q := 26) d_Hall_game_13 rfl c4 ?_
      refine w_aload_n (q := 27) d_Hall_game_26 rfl rfl ?_
      refine w_get (q := 30) (ci := 11) (j := 12) d_Hall_game_27 rfl (by decide) fl_Hall_86 (by decide) (by decide) s_0 rfl rfl ?_
      obtain ⟨v6, hv, h⟩ := bnd h
      refine w_callVi (q := 33) (M' := M_Game_firstResting) (n' := 2) (k := 45) (As := []) (sh' := SH) (b1 := (0, 0)) d_Hall_game_30 rfl mw_Game_firstResting (by decide) (by decide) ml_Hall_386 (by decide) s_45 (by decide) rfl rfl rfl (leb rfl) (bz _) (fun _ => rfl) (ok_Game_firstResting hv) ?_
      cases h
      exact w_ireturn d_Hall_game_33 rfl rfl ⟨rfl, rfl, rfl, rfl⟩
  · cases h
    exact w_callSx (M' := M_Hall_needOneOf) (n' := 1) (As := [.int p0, .int 1]) (sh' := SH) (E := exS9 e) d_Hall_game_2 mw_Hall_needOneOf (by decide) (by decide) ml_Hall_327 rfl rfl (leb rfl) rfl (ok_Hall_needOneOf hv) ⟨rfl, rfl, rfl, rfl⟩
def sp_Hall_season (F : Nat) (p0 : Int32) (p1 : Int32) (p2 : Int32) (g : Mem) : Option ((Int32 × Mem) ⊕ Nat) := (sp_Hall_needOneOf p2 2 g).bind fun r2 => (match r2 with | .inl _u => (sp_Hall_isWithin p1 40 g).bind fun v3 => if v3 = 0 then some (.inr 0) else (sp_Season_run F 23 15 p0 p1 g).bind fun v5 => if p2 = 0 then (sp_Hair_recordsThere F 50 15 v5).bind fun v7 => (sp_JInteger_bitCount v7 v5).bind fun v8 => some (.inl (v8, v5)) else if p2 = 1 then (sp_Laws_balance F 53 50 15 (-1) v5).bind fun v10 => some (.inl (v10, v5)) else some (.inl (v5 49 3, v5)) | .inr e => some (.inr e))
theorem ok_Hall_season {γ : GG} {tt : Bool} {F : Nat} {p0 : Int32} {p1 : Int32} {p2 : Int32} {g : Mem} {res : (Int32 × Mem) ⊕ Nat} (h : sp_Hall_season F p0 p1 p2 g = some res) : CA γ M_Hall_season 7 [.ref 0, .int p0, .int p1, .int p2] SH g tt (bO res) (pEI SH g tt res) := by
  refine CA.of mw_Hall_season.1 0 rfl ?_
  show WA γ M_Hall_season 7 0 [some (.ref 0), some (.int p0), some (.int p1), some (.int p2)] [] SH g tt (bO res) (pEI SH g tt res)
  unfold sp_Hall_season at h
  refine w_iload_n (q := 1) d_Hall_season_0 rfl rfl ?_
  refine w_iconst (q := 2) (v := 2) d_Hall_season_1 rfl (by decide) ?_
  obtain ⟨r2, hv, h⟩ := bnd h
  rcases r2 with _u | e
  · refine w_callSv (q := 5) (M' := M_Hall_needOneOf) (n' := 1) (As := [.int p2, .int 2]) (sh' := SH) (b1 := (0, 0)) d_Hall_season_2 rfl mw_Hall_needOneOf (by decide) (by decide) ml_Hall_327 rfl rfl (leb rfl) (bz _) (fun _ => rfl) (ok_Hall_needOneOf hv) ?_
    refine w_iload_n (q := 6) d_Hall_season_5 rfl rfl ?_
    refine w_bipush (q := 8) (v := 40) d_Hall_season_6 rfl (by decide) ?_
    obtain ⟨v3, hv, h⟩ := bnd h
    refine w_callSi (q := 11) (M' := M_Hall_isWithin) (n' := 0) (As := [.int p1, .int 40]) (sh' := SH) (b1 := (0, 0)) d_Hall_season_8 rfl mw_Hall_isWithin (by decide) (by decide) ml_Hall_266 rfl rfl (leb rfl) (bz _) (fun _ => rfl) (ok_Hall_isWithin hv) ?_
    by_cases c4 : v3 = 0
    · rw [if_pos c4] at h
      refine w_if_ne_f (q := 14) d_Hall_season_11 25 rfl rfl c4 ?_
      cases h
      exact w_throwW (j := 14) exB_iae exF.1 kl_Hall_110 wi_java_lang_IllegalArgumentException rfl exW_iae exG_iae d_Hall_season_14 d_Hall_season_17 d_Hall_season_18 d_Hall_season_21 d_Hall_season_24 rfl (leb rfl) rfl ⟨rfl, rfl, rfl, rfl⟩
    · rw [if_neg c4] at h
      refine w_if_ne_t (q := 25) d_Hall_season_11 rfl c4 ?_
      refine w_aload_n (q := 26) d_Hall_season_25 rfl rfl ?_
      refine w_get (q := 29) (ci := 11) (j := 13) d_Hall_season_26 rfl (by decide) fl_Hall_93 (by decide) (by decide) s_0 rfl rfl ?_
      refine w_aload_n (q := 30) d_Hall_season_29 rfl rfl ?_
      refine w_get (q := 33) (ci := 11) (j := 6) d_Hall_season_30 rfl (by decide) fl_Hall_42 (by decide) (by decide) s_0 rfl rfl ?_
      refine w_iload_n (q := 34) d_Hall_season_33 rfl rfl ?_
      refine w_iload_n (q := 35) d_Hall_season_34 rfl rfl ?_
      obtain ⟨v5, hv, h⟩ := bnd h
      refine w_callVv (q := 38) (M' := M_Season_run) (n' := 6) (k := 49) (As := [.ref 23, .int p0, .int p1]) (sh' := SH) (b1 := (0, 0)) d_Hall_season_35 rfl mw_Season_run (by decide) (by decide) ml_Hall_391 (by decide) s_49 (by decide) rfl rfl rfl (leb rfl) (bz _) (fun _ => rfl) (ok_Season_run i_23 hv) ?_
      refine w_iload_n (q := 39) d_Hall_season_38 rfl rfl ?_
      by_cases c6 : p2 = 0
      · rw [if_pos c6] at h
        refine w_lookup (q := 64) (off := 25) d_Hall_season_39 (by decide) (by rw [c6]; decide +kernel) rfl ?_
        refine w_aload_n (q := 65) d_Hall_season_64 rfl rfl ?_
        refine w_get (q := 68) (ci := 11) (j := 13) d_Hall_season_65 rfl (by decide) fl_Hall_93 (by decide) (by decide) s_0 rfl rfl ?_
        refine w_get (q := 71) (ci := 9) (j := 0) d_Hall_season_68 rfl (by decide) fl_Hall_395 (by decide) (by decide) s_49 rfl rfl ?_
        obtain ⟨v7, hv, h⟩ := bnd h
        refine w_callVi (q := 74) (M' := M_Hair_recordsThere) (n' := 2) (k := 50) (As := []) (sh' := SH) (b1 := (0, 0)) d_Hall_season_71 rfl mw_Hair_recordsThere (by decide) (by decide) ml_Hall_169 i_50.2.1 i_50.1 (by decide) rfl rfl rfl (leb rfl) (bz _) (fun _ => rfl) (ok_Hair_recordsThere i_50 hv) ?_
        obtain ⟨v8, hv, h⟩ := bnd h
        refine w_callSi (q := 77) (M' := M_JInteger_bitCount) (n' := 0) (As := [.int v7]) (sh' := SH) (b1 := (0, 0)) d_Hall_season_74 rfl mw_JInteger_bitCount (by decide) (by decide) ml_Hall_163 rfl rfl (leb rfl) (bz _) (fun _ => rfl) (ok_JInteger_bitCount hv) ?_
        cases h
        exact w_ireturn d_Hall_season_77 rfl rfl ⟨rfl, rfl, rfl, rfl⟩
      rw [if_neg c6] at h
      by_cases c9 : p2 = 1
      · rw [if_pos c9] at h
        refine w_lookup (q := 78) (off := 39) d_Hall_season_39 (by decide) (by rw [c9]; decide +kernel) rfl ?_
        refine w_aload_n (q := 79) d_Hall_season_78 rfl rfl ?_
        refine w_get (q := 82) (ci := 11) (j := 13) d_Hall_season_79 rfl (by decide) fl_Hall_93 (by decide) (by decide) s_0 rfl rfl ?_
        refine w_get (q := 85) (ci := 9) (j := 1) d_Hall_season_82 rfl (by decide) fl_Hall_396 (by decide) (by decide) s_49 rfl rfl ?_
        refine w_iconst (q := 86) (v := (-1)) d_Hall_season_85 rfl (by decide) ?_
        obtain ⟨v10, hv, h⟩ := bnd h
        refine w_callVi (q := 89) (M' := M_Laws_balance) (n' := 3) (k := 53) (As := [.int ((-1))]) (sh' := SH) (b1 := (0, 0)) d_Hall_season_86 rfl mw_Laws_balance (by decide) (by decide) ml_Hall_310 i_53.2.1 i_53.1 (by decide) rfl rfl rfl (leb rfl) (bz _) (fun _ => rfl) (ok_Laws_balance i_53 hv) ?_
        cases h
        exact w_ireturn d_Hall_season_89 rfl rfl ⟨rfl, rfl, rfl, rfl⟩
      rw [if_neg c9] at h
      refine w_lookup (q := 90) (off := 51) d_Hall_season_39 (by decide) (by show Op.lookupswitch.offset [(0, 25), (1, 39)] 51 _ = _; rw [lv_osw (k := 0) c6 (by decide)]; rw [lv_osw (k := 1) c9 (by decide)]; rfl) rfl ?_
      refine w_aload_n (q := 91) d_Hall_season_90 rfl rfl ?_
      refine w_get (q := 94) (ci := 11) (j := 13) d_Hall_season_91 rfl (by decide) fl_Hall_93 (by decide) (by decide) s_0 rfl rfl ?_
      refine w_get (q := 97) (ci := 9) (j := 3) d_Hall_season_94 rfl (by decide) fl_Hall_397 (by decide) (by decide) s_49 rfl rfl ?_
      cases h
      exact w_ireturn d_Hall_season_97 rfl rfl ⟨rfl, rfl, rfl, rfl⟩
  · cases h
    exact w_callSx (M' := M_Hall_needOneOf) (n' := 1) (As := [.int p2, .int 2]) (sh' := SH) (E := exS9 e) d_Hall_season_2 mw_Hall_needOneOf (by decide) (by decide) ml_Hall_327 rfl rfl (leb rfl) rfl (ok_Hall_needOneOf hv) ⟨rfl, rfl, rfl, rfl⟩
def sp_Hall_image (g : Mem) : Option (Mem) := (sp_Hair_take 39 15 23 15 (mset g 31 0 1)).bind fun v1 => (cy v1 (15 + 3) 192 0 32 192 0 (Int32.ofNat 192)).bind fun g2 => (sp_Acts_take 33 26 g2).bind fun v3 => (sp_Seen_take 35 28 v3).bind fun v4 => (cy v4 2 3 0 38 3 0 3).bind fun g5 => some g5
theorem ok_Hall_image {γ : GG} {tt : Bool} {g : Mem} {res : Mem} (h : sp_Hall_image g = some res) : CA γ M_Hall_image 1 [.ref 0] SH g tt (0, 0) (pV SH res tt) := by
  refine CA.of mw_Hall_image.1 0 rfl ?_
  show WA γ M_Hall_image 1 0 [some (.ref 0)] [] SH g tt (0, 0) (pV SH res tt)
  unfold sp_Hall_image at h
  refine w_aload_n (q := 1) d_Hall_image_0 rfl rfl ?_
  refine w_get (q := 4) (ci := 11) (j := 9) d_Hall_image_1 rfl (by decide) fl_Hall_63 (by decide) (by decide) s_0 rfl rfl ?_
  refine w_iconst (q := 5) (v := 1) d_Hall_image_4 rfl (by decide) ?_
  refine w_put (q := 8) (ci := 3) (j := 0) d_Hall_image_5 rfl (by decide) fl_Hall_137 (by decide) (by decide) s_31 rfl rfl rfl rfl rfl rfl ?_
  refine w_aload_n (q := 9) d_Hall_image_8 rfl rfl ?_
  refine w_get (q := 12) (ci := 11) (j := 9) d_Hall_image_9 rfl (by decide) fl_Hall_63 (by decide) (by decide) s_0 rfl rfl ?_
  refine w_get (q := 15) (ci := 3) (j := 1) d_Hall_image_12 rfl (by decide) fl_Hall_400 (by decide) (by decide) s_31 rfl rfl ?_
  refine w_aload_n (q := 16) d_Hall_image_15 rfl rfl ?_
  refine w_get (q := 19) (ci := 11) (j := 6) d_Hall_image_16 rfl (by decide) fl_Hall_42 (by decide) (by decide) s_0 rfl rfl ?_
  obtain ⟨v1, hv, h⟩ := bnd h
  refine w_callVv (q := 22) (M' := M_Hair_take) (n' := 0) (k := 39) (As := [.ref 23]) (sh' := SH) (b1 := (0, 0)) d_Hall_image_19 rfl mw_Hair_take (by decide) (by decide) ml_Hall_131 i_39.2.1 i_39.1 (by decide) rfl rfl rfl (leb rfl) (bz _) (fun _ => rfl) (ok_Hair_take i_39 i_23 hv) ?_
  refine w_aload_n (q := 23) d_Hall_image_22 rfl rfl ?_
  refine w_get (q := 26) (ci := 11) (j := 5) d_Hall_image_23 rfl (by decide) fl_Hall_33 (by decide) (by decide) s_0 rfl rfl ?_
  refine w_get (q := 29) (ci := 7) (j := 6) d_Hall_image_26 rfl (by decide) fl_Hall_401 (by decide) i_15.2.1 i_15.1 rfl rfl ?_
  refine w_iconst (q := 30) (v := 0) d_Hall_image_29 rfl (by decide) ?_
  refine w_aload_n (q := 31) d_Hall_image_30 rfl rfl ?_
  refine w_get (q := 34) (ci := 11) (j := 9) d_Hall_image_31 rfl (by decide) fl_Hall_63 (by decide) (by decide) s_0 rfl rfl ?_
  refine w_get (q := 37) (ci := 3) (j := 2) d_Hall_image_34 rfl (by decide) fl_Hall_404 (by decide) (by decide) s_31 rfl rfl ?_
  refine w_iconst (q := 38) (v := 0) d_Hall_image_37 rfl (by decide) ?_
  refine w_aload_n (q := 39) d_Hall_image_38 rfl rfl ?_
  refine w_get (q := 42) (ci := 11) (j := 5) d_Hall_image_39 rfl (by decide) fl_Hall_33 (by decide) (by decide) s_0 rfl rfl ?_
  refine w_get (q := 45) (ci := 7) (j := 6) d_Hall_image_42 rfl (by decide) fl_Hall_401 (by decide) i_15.2.1 i_15.1 rfl rfl ?_
  refine w_alen (q := 46) d_Hall_image_45 rfl i_15.2.2.2.2.1.2 i_15.2.2.2.2.1.1 (Or.inl ⟨rfl, Or.inl rfl⟩) rfl ?_
  obtain ⟨g2, hv, h⟩ := bnd h
  obtain ⟨hi, hv⟩ := cy_ok hv
  refine w_copy (q := 49) d_Hall_image_46 rfl ml_Hall_405 wd_native wd_static wi_java_lang_System i_15.2.2.2.2.1.2 a_32.2 i_15.2.2.2.2.1.1 a_32.1 hi (leb rfl) hv ?_
  refine w_aload_n (q := 50) d_Hall_image_49 rfl rfl ?_
  refine w_get (q := 53) (ci := 11) (j := 9) d_Hall_image_50 rfl (by decide) fl_Hall_63 (by decide) (by decide) s_0 rfl rfl ?_
  refine w_get (q := 56) (ci := 3) (j := 3) d_Hall_image_53 rfl (by decide) fl_Hall_411 (by decide) (by decide) s_31 rfl rfl ?_
  refine w_aload_n (q := 57) d_Hall_image_56 rfl rfl ?_
  refine w_get (q := 60) (ci := 11) (j := 7) d_Hall_image_57 rfl (by decide) fl_Hall_49 (by decide) (by decide) s_0 rfl rfl ?_
  obtain ⟨v3, hv, h⟩ := bnd h
  refine w_callVv (q := 63) (M' := M_Acts_take) (n' := 0) (k := 33) (As := [.ref 26]) (sh' := SH) (b1 := (0, 0)) d_Hall_image_60 rfl mw_Acts_take (by decide) (by decide) ml_Hall_412 i_33.2.1 i_33.1 (by decide) rfl rfl rfl (leb rfl) (bz _) (fun _ => rfl) (ok_Acts_take i_33 i_26 hv) ?_
  refine w_aload_n (q := 64) d_Hall_image_63 rfl rfl ?_
  refine w_get (q := 67) (ci := 11) (j := 9) d_Hall_image_64 rfl (by decide) fl_Hall_63 (by decide) (by decide) s_0 rfl rfl ?_
  refine w_get (q := 70) (ci := 3) (j := 4) d_Hall_image_67 rfl (by decide) fl_Hall_415 (by decide) (by decide) s_31 rfl rfl ?_
  refine w_aload_n (q := 71) d_Hall_image_70 rfl rfl ?_
  refine w_get (q := 74) (ci := 11) (j := 8) d_Hall_image_71 rfl (by decide) fl_Hall_56 (by decide) (by decide) s_0 rfl rfl ?_
  obtain ⟨v4, hv, h⟩ := bnd h
  refine w_callVv (q := 77) (M' := M_Seen_take) (n' := 0) (k := 35) (As := [.ref 28]) (sh' := SH) (b1 := (0, 0)) d_Hall_image_74 rfl mw_Seen_take (by decide) (by decide) ml_Hall_416 i_35.2.1 i_35.1 (by decide) rfl rfl rfl (leb rfl) (bz _) (fun _ => rfl) (ok_Seen_take i_35 i_28 hv) ?_
  refine w_aload_n (q := 78) d_Hall_image_77 rfl rfl ?_
  refine w_get (q := 81) (ci := 11) (j := 3) d_Hall_image_78 rfl (by decide) fl_Hall_17 (by decide) (by decide) s_0 rfl rfl ?_
  refine w_iconst (q := 82) (v := 0) d_Hall_image_81 rfl (by decide) ?_
  refine w_aload_n (q := 83) d_Hall_image_82 rfl rfl ?_
  refine w_get (q := 86) (ci := 11) (j := 9) d_Hall_image_83 rfl (by decide) fl_Hall_63 (by decide) (by decide) s_0 rfl rfl ?_
  refine w_get (q := 89) (ci := 3) (j := 5) d_Hall_image_86 rfl (by decide) fl_Hall_419 (by decide) (by decide) s_31 rfl rfl ?_
  refine w_iconst (q := 90) (v := 0) d_Hall_image_89 rfl (by decide) ?_
  refine w_iconst (q := 91) (v := 3) d_Hall_image_90 rfl (by decide) ?_
  obtain ⟨g5, hv, h⟩ := bnd h
  obtain ⟨hi, hv⟩ := cy_ok hv
  refine w_copy (q := 94) d_Hall_image_91 rfl ml_Hall_405 wd_native wd_static wi_java_lang_System a_2.2 a_38.2 a_2.1 a_38.1 hi (leb rfl) hv ?_
  cases h
  exact w_return d_Hall_image_94 rfl ⟨rfl, rfl, rfl, rfl⟩
def sp_Hall_restore (g : Mem) : Option (Int32 × Mem) := if (g 31 0) = 0 then some (0, g) else (sp_Hair_take 23 15 39 15 g).bind fun v2 => (cy v2 32 192 0 (15 + 3) 192 0 (Int32.ofNat 192)).bind fun g3 => (sp_Acts_take 26 33 g3).bind fun v4 => (sp_Seen_take 28 35 v4).bind fun v5 => (cy v5 38 3 0 2 3 0 3).bind fun g6 => some (1, g6)
theorem ok_Hall_restore {γ : GG} {tt : Bool} {g : Mem} {res : Int32 × Mem} (h : sp_Hall_restore g = some res) : CA γ M_Hall_restore 1 [.ref 0] SH g tt (0, 0) (pI SH res.1 res.2 tt) := by
  refine CA.of mw_Hall_restore.1 0 rfl ?_
  show WA γ M_Hall_restore 1 0 [some (.ref 0)] [] SH g tt (0, 0) (pI SH res.1 res.2 tt)
  unfold sp_Hall_restore at h
  refine w_aload_n (q := 1) d_Hall_restore_0 rfl rfl ?_
  refine w_get (q := 4) (ci := 11) (j := 9) d_Hall_restore_1 rfl (by decide) fl_Hall_63 (by decide) (by decide) s_0 rfl rfl ?_
  refine w_get (q := 7) (ci := 3) (j := 0) d_Hall_restore_4 rfl (by decide) fl_Hall_137 (by decide) (by decide) s_31 rfl rfl ?_
  by_cases c1 : (g 31 0) = 0
  · rw [if_pos c1] at h
    refine w_if_ne_f (q := 10) d_Hall_restore_7 12 rfl rfl c1 ?_
    refine w_iconst (q := 11) (v := 0) d_Hall_restore_10 rfl (by decide) ?_
    cases h
    exact w_ireturn d_Hall_restore_11 rfl rfl ⟨rfl, rfl, rfl, rfl⟩
  · rw [if_neg c1] at h
    refine w_if_ne_t (q := 12) d_Hall_restore_7 rfl c1 ?_
    refine w_aload_n (q := 13) d_Hall_restore_12 rfl rfl ?_
    refine w_get (q := 16) (ci := 11) (j := 6) d_Hall_restore_13 rfl (by decide) fl_Hall_42 (by decide) (by decide) s_0 rfl rfl ?_
    refine w_aload_n (q := 17) d_Hall_restore_16 rfl rfl ?_
    refine w_get (q := 20) (ci := 11) (j := 9) d_Hall_restore_17 rfl (by decide) fl_Hall_63 (by decide) (by decide) s_0 rfl rfl ?_
    refine w_get (q := 23) (ci := 3) (j := 1) d_Hall_restore_20 rfl (by decide) fl_Hall_400 (by decide) (by decide) s_31 rfl rfl ?_
    obtain ⟨v2, hv, h⟩ := bnd h
    refine w_callVv (q := 26) (M' := M_Hair_take) (n' := 0) (k := 23) (As := [.ref 39]) (sh' := SH) (b1 := (0, 0)) d_Hall_restore_23 rfl mw_Hair_take (by decide) (by decide) ml_Hall_131 i_23.2.1 i_23.1 (by decide) rfl rfl rfl (leb rfl) (bz _) (fun _ => rfl) (ok_Hair_take i_23 i_39 hv) ?_
    refine w_aload_n (q := 27) d_Hall_restore_26 rfl rfl ?_
    refine w_get (q := 30) (ci := 11) (j := 9) d_Hall_restore_27 rfl (by decide) fl_Hall_63 (by decide) (by decide) s_0 rfl rfl ?_
    refine w_get (q := 33) (ci := 3) (j := 2) d_Hall_restore_30 rfl (by decide) fl_Hall_404 (by decide) (by decide) s_31 rfl rfl ?_
    refine w_iconst (q := 34) (v := 0) d_Hall_restore_33 rfl (by decide) ?_
    refine w_aload_n (q := 35) d_Hall_restore_34 rfl rfl ?_
    refine w_get (q := 38) (ci := 11) (j := 5) d_Hall_restore_35 rfl (by decide) fl_Hall_33 (by decide) (by decide) s_0 rfl rfl ?_
    refine w_get (q := 41) (ci := 7) (j := 6) d_Hall_restore_38 rfl (by decide) fl_Hall_401 (by decide) i_15.2.1 i_15.1 rfl rfl ?_
    refine w_iconst (q := 42) (v := 0) d_Hall_restore_41 rfl (by decide) ?_
    refine w_aload_n (q := 43) d_Hall_restore_42 rfl rfl ?_
    refine w_get (q := 46) (ci := 11) (j := 5) d_Hall_restore_43 rfl (by decide) fl_Hall_33 (by decide) (by decide) s_0 rfl rfl ?_
    refine w_get (q := 49) (ci := 7) (j := 6) d_Hall_restore_46 rfl (by decide) fl_Hall_401 (by decide) i_15.2.1 i_15.1 rfl rfl ?_
    refine w_alen (q := 50) d_Hall_restore_49 rfl i_15.2.2.2.2.1.2 i_15.2.2.2.2.1.1 (Or.inl ⟨rfl, Or.inl rfl⟩) rfl ?_
    obtain ⟨g3, hv, h⟩ := bnd h
    obtain ⟨hi, hv⟩ := cy_ok hv
    refine w_copy (q := 53) d_Hall_restore_50 rfl ml_Hall_405 wd_native wd_static wi_java_lang_System a_32.2 i_15.2.2.2.2.1.2 a_32.1 i_15.2.2.2.2.1.1 hi (leb rfl) hv ?_
    refine w_aload_n (q := 54) d_Hall_restore_53 rfl rfl ?_
    refine w_get (q := 57) (ci := 11) (j := 7) d_Hall_restore_54 rfl (by decide) fl_Hall_49 (by decide) (by decide) s_0 rfl rfl ?_
    refine w_aload_n (q := 58) d_Hall_restore_57 rfl rfl ?_
    refine w_get (q := 61) (ci := 11) (j := 9) d_Hall_restore_58 rfl (by decide) fl_Hall_63 (by decide) (by decide) s_0 rfl rfl ?_
    refine w_get (q := 64) (ci := 3) (j := 3) d_Hall_restore_61 rfl (by decide) fl_Hall_411 (by decide) (by decide) s_31 rfl rfl ?_
    obtain ⟨v4, hv, h⟩ := bnd h
    refine w_callVv (q := 67) (M' := M_Acts_take) (n' := 0) (k := 26) (As := [.ref 33]) (sh' := SH) (b1 := (0, 0)) d_Hall_restore_64 rfl mw_Acts_take (by decide) (by decide) ml_Hall_412 i_26.2.1 i_26.1 (by decide) rfl rfl rfl (leb rfl) (bz _) (fun _ => rfl) (ok_Acts_take i_26 i_33 hv) ?_
    refine w_aload_n (q := 68) d_Hall_restore_67 rfl rfl ?_
    refine w_get (q := 71) (ci := 11) (j := 8) d_Hall_restore_68 rfl (by decide) fl_Hall_56 (by decide) (by decide) s_0 rfl rfl ?_
    refine w_aload_n (q := 72) d_Hall_restore_71 rfl rfl ?_
    refine w_get (q := 75) (ci := 11) (j := 9) d_Hall_restore_72 rfl (by decide) fl_Hall_63 (by decide) (by decide) s_0 rfl rfl ?_
    refine w_get (q := 78) (ci := 3) (j := 4) d_Hall_restore_75 rfl (by decide) fl_Hall_415 (by decide) (by decide) s_31 rfl rfl ?_
    obtain ⟨v5, hv, h⟩ := bnd h
    refine w_callVv (q := 81) (M' := M_Seen_take) (n' := 0) (k := 28) (As := [.ref 35]) (sh' := SH) (b1 := (0, 0)) d_Hall_restore_78 rfl mw_Seen_take (by decide) (by decide) ml_Hall_416 i_28.2.1 i_28.1 (by decide) rfl rfl rfl (leb rfl) (bz _) (fun _ => rfl) (ok_Seen_take i_28 i_35 hv) ?_
    refine w_aload_n (q := 82) d_Hall_restore_81 rfl rfl ?_
    refine w_get (q := 85) (ci := 11) (j := 9) d_Hall_restore_82 rfl (by decide) fl_Hall_63 (by decide) (by decide) s_0 rfl rfl ?_
    refine w_get (q := 88) (ci := 3) (j := 5) d_Hall_restore_85 rfl (by decide) fl_Hall_419 (by decide) (by decide) s_31 rfl rfl ?_
    refine w_iconst (q := 89) (v := 0) d_Hall_restore_88 rfl (by decide) ?_
    refine w_aload_n (q := 90) d_Hall_restore_89 rfl rfl ?_
    refine w_get (q := 93) (ci := 11) (j := 3) d_Hall_restore_90 rfl (by decide) fl_Hall_17 (by decide) (by decide) s_0 rfl rfl ?_
    refine w_iconst (q := 94) (v := 0) d_Hall_restore_93 rfl (by decide) ?_
    refine w_iconst (q := 95) (v := 3) d_Hall_restore_94 rfl (by decide) ?_
    obtain ⟨g6, hv, h⟩ := bnd h
    obtain ⟨hi, hv⟩ := cy_ok hv
    refine w_copy (q := 98) d_Hall_restore_95 rfl ml_Hall_405 wd_native wd_static wi_java_lang_System a_38.2 a_2.2 a_38.1 a_2.1 hi (leb rfl) hv ?_
    refine w_iconst (q := 99) (v := 1) d_Hall_restore_98 rfl (by decide) ?_
    cases h
    exact w_ireturn d_Hall_restore_99 rfl rfl ⟨rfl, rfl, rfl, rfl⟩
