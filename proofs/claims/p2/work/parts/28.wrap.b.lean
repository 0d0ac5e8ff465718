/-! functions and theorems of 28.wrap (by program: wip/gen/main.py) -/
def sp_Law_archive (F : Nat) (p1 : Int32) (g : Mem) : Option (Int32 × Mem) := (sp_Hall_archive F p1 g).bind fun r2 => (match r2 with | .inl v1 => (wr v1.2 78 1 0 v1.1).bind fun g3 => some (0, g3) | .inr 0 => some (1, g) | .inr (_e + 1) => none)
theorem ok_Law_archive {γ : GG} {F : Nat} {p1 : Int32} {g : Mem} {res : Int32 × Mem} (h : sp_Law_archive F p1 g = some res) : CA γ M_Law_archive 123 [.ref 0, .int p1, .ref 78] SH g false (1, 6) (pI SH res.1 res.2 false) := by
  refine CA.of mw_Law_archive.1 1 rfl ?_
  show WA γ M_Law_archive 123 0 [some (.ref 0), some (.int p1), some (.ref 78), none] [] SH g false (1, 6) (pI SH res.1 res.2 false)
  unfold sp_Law_archive at h
  refine w_aload_n (q := 1) d_Law_archive_0 rfl rfl ?_
  refine w_iconst (q := 2) (v := 0) d_Law_archive_1 rfl (by decide) ?_
  refine w_aload_n (q := 3) d_Law_archive_2 rfl rfl ?_
  refine w_iload_n (q := 4) d_Law_archive_3 rfl rfl ?_
  obtain ⟨r2, hv, h⟩ := bnd h
  rcases r2 with v1 | e
  · refine w_callVi (q := 7) (M' := M_Hall_archive) (n' := 122) (k := 0) (As := [.int p1]) (sh' := SH) (b1 := (0, 0)) d_Law_archive_4 rfl mw_Hall_archive (by decide) (by decide) ml_Law_7 (by decide) s_0 (by decide) rfl rfl rfl (leb rfl) (bz _) (fun _ => rfl) (ok_Hall_archive hv) ?_
    dsimp only at h
    refine w_i2l (q := 8) d_Law_archive_7 rfl ?_
    obtain ⟨g3, hv, h⟩ := bnd h
    obtain ⟨hi, hv⟩ := wr_ok hv
    refine w_last (q := 9) (v := v1.1) d_Law_archive_8 rfl l_78.2 l_78.1 hi rfl hv ?_
    refine w_goto (q := 15) d_Law_archive_9 rfl ?_
    refine w_iconst (q := 16) (v := 0) d_Law_archive_15 rfl (by decide) ?_
    cases h
    exact w_ireturn d_Law_archive_16 rfl rfl ⟨rfl, rfl, rfl, rfl⟩
  · cases e with
    | zero =>
      refine w_callVc (M' := M_Hall_archive) (n' := 122) (k := 0) (As := [.int p1]) (b1 := (1, 6)) (b2 := (0, 0)) (q := 13) (li := 3) (ls' := [some (.ref 0), some (.int p1), some (.ref 78), none]) (E := "java/lang/IllegalArgumentException") (nm := "java/lang/IllegalArgumentException") [] [] 0 9 d_Law_archive_4 mw_Hall_archive (by decide) (by decide) ml_Law_7 (by decide) s_0 (by decide) rfl rfl rfl (leb rfl) rfl (ok_Hall_archive hv) rfl (by decide) (by decide) (by decide) kl_Law_13 cc_0 (fun z hz => by cases hz) (Or.inl ⟨_, rfl, d_Law_archive_12, rfl⟩) (by decide) rfl rfl ?_
      refine w_iconst (q := 14) (v := 1) d_Law_archive_13 rfl (by decide) ?_
      cases h
      exact w_ireturn d_Law_archive_14 rfl rfl ⟨rfl, rfl, rfl, rfl⟩
    | succ e =>
      cases h
def sp_Law_count (F : Nat) (p1 : Int32) (g : Mem) : Option (Int32 × Mem) := (sp_Hall_count F p1 g).bind fun r2 => (match r2 with | .inl v1 => (wr g 78 1 0 v1).bind fun g3 => some (0, g3) | .inr 0 => none | .inr (_e + 1) => some (1, g))
theorem ok_Law_count {γ : GG} {F : Nat} {p1 : Int32} {g : Mem} {res : Int32 × Mem} (h : sp_Law_count F p1 g = some res) : CA γ M_Law_count 4 [.ref 0, .int p1, .ref 78] SH g false (1, 6) (pI SH res.1 res.2 false) := by
  refine CA.of mw_Law_count.1 1 rfl ?_
  show WA γ M_Law_count 4 0 [some (.ref 0), some (.int p1), some (.ref 78), none] [] SH g false (1, 6) (pI SH res.1 res.2 false)
  unfold sp_Law_count at h
  refine w_aload_n (q := 1) d_Law_count_0 rfl rfl ?_
  refine w_iconst (q := 2) (v := 0) d_Law_count_1 rfl (by decide) ?_
  refine w_aload_n (q := 3) d_Law_count_2 rfl rfl ?_
  refine w_iload_n (q := 4) d_Law_count_3 rfl rfl ?_
  obtain ⟨r2, hv, h⟩ := bnd h
  rcases r2 with v1 | e
  · refine w_callVi (q := 7) (M' := M_Hall_count) (n' := 3) (k := 0) (As := [.int p1]) (sh' := SH) (b1 := (0, 0)) d_Law_count_4 rfl mw_Hall_count (by decide) (by decide) ml_Law_15 (by decide) s_0 (by decide) rfl rfl rfl (leb rfl) (bz _) (fun _ => rfl) (ok_Hall_count hv) ?_
    dsimp only at h
    refine w_i2l (q := 8) d_Law_count_7 rfl ?_
    obtain ⟨g3, hv, h⟩ := bnd h
    obtain ⟨hi, hv⟩ := wr_ok hv
    refine w_last (q := 9) (v := v1) d_Law_count_8 rfl l_78.2 l_78.1 hi rfl hv ?_
    refine w_goto (q := 15) d_Law_count_9 rfl ?_
    refine w_iconst (q := 16) (v := 0) d_Law_count_15 rfl (by decide) ?_
    cases h
    exact w_ireturn d_Law_count_16 rfl rfl ⟨rfl, rfl, rfl, rfl⟩
  · cases e with
    | zero =>
      cases h
    | succ e =>
      refine w_callVc (M' := M_Hall_count) (n' := 3) (k := 0) (As := [.int p1]) (b1 := (1, 6)) (b2 := (0, 0)) (q := 13) (li := 3) (ls' := [some (.ref 0), some (.int p1), some (.ref 78), none]) (E := "java/util/NoSuchElementException") (nm := "java/util/NoSuchElementException") [] [] 0 9 d_Law_count_4 mw_Hall_count (by decide) (by decide) ml_Law_15 (by decide) s_0 (by decide) rfl rfl rfl (leb rfl) rfl (ok_Hall_count hv) rfl (by decide) (by decide) (by decide) kl_Law_18 cc_1 (fun z hz => by cases hz) (Or.inl ⟨_, rfl, d_Law_count_12, rfl⟩) (by decide) rfl rfl ?_
      refine w_iconst (q := 14) (v := 1) d_Law_count_13 rfl (by decide) ?_
      cases h
      exact w_ireturn d_Law_count_14 rfl rfl ⟨rfl, rfl, rfl, rfl⟩
def sp_Law_monk (F : Nat) (p1 : Int32) (p2 : Int32) (g : Mem) : Option (Int32 × Mem) := (sp_Hall_monk F p1 p2 g).bind fun r2 => (match r2 with | .inl v1 => (wr g 78 1 0 v1).bind fun g3 => some (0, g3) | .inr 0 => none | .inr (_e + 1) => some (1, g))
theorem ok_Law_monk {γ : GG} {F : Nat} {p1 : Int32} {p2 : Int32} {g : Mem} {res : Int32 × Mem} (h : sp_Law_monk F p1 p2 g = some res) : CA γ M_Law_monk 4 [.ref 0, .int p1, .int p2, .ref 78] SH g false (1, 6) (pI SH res.1 res.2 false) := by
  refine CA.of mw_Law_monk.1 1 rfl ?_
  show WA γ M_Law_monk 4 0 [some (.ref 0), some (.int p1), some (.int p2), some (.ref 78), none] [] SH g false (1, 6) (pI SH res.1 res.2 false)
  unfold sp_Law_monk at h
  refine w_aload_n (q := 1) d_Law_monk_0 rfl rfl ?_
  refine w_iconst (q := 2) (v := 0) d_Law_monk_1 rfl (by decide) ?_
  refine w_aload_n (q := 3) d_Law_monk_2 rfl rfl ?_
  refine w_iload_n (q := 4) d_Law_monk_3 rfl rfl ?_
  refine w_iload_n (q := 5) d_Law_monk_4 rfl rfl ?_
  obtain ⟨r2, hv, h⟩ := bnd h
  rcases r2 with v1 | e
  · refine w_callVi (q := 8) (M' := M_Hall_monk) (n' := 3) (k := 0) (As := [.int p1, .int p2]) (sh' := SH) (b1 := (0, 0)) d_Law_monk_5 rfl mw_Hall_monk (by decide) (by decide) ml_Law_20 (by decide) s_0 (by decide) rfl rfl rfl (leb rfl) (bz _) (fun _ => rfl) (ok_Hall_monk hv) ?_
    dsimp only at h
    refine w_i2l (q := 9) d_Law_monk_8 rfl ?_
    obtain ⟨g3, hv, h⟩ := bnd h
    obtain ⟨hi, hv⟩ := wr_ok hv
    refine w_last (q := 10) (v := v1) d_Law_monk_9 rfl l_78.2 l_78.1 hi rfl hv ?_
    refine w_goto (q := 17) d_Law_monk_10 rfl ?_
    refine w_iconst (q := 18) (v := 0) d_Law_monk_17 rfl (by decide) ?_
    cases h
    exact w_ireturn d_Law_monk_18 rfl rfl ⟨rfl, rfl, rfl, rfl⟩
  · cases e with
    | zero =>
      cases h
    | succ e =>
      refine w_callVc (M' := M_Hall_monk) (n' := 3) (k := 0) (As := [.int p1, .int p2]) (b1 := (1, 6)) (b2 := (0, 0)) (q := 15) (li := 4) (ls' := [some (.ref 0), some (.int p1), some (.int p2), some (.ref 78), none]) (E := "java/util/NoSuchElementException") (nm := "java/util/NoSuchElementException") [] [] 0 10 d_Law_monk_5 mw_Hall_monk (by decide) (by decide) ml_Law_20 (by decide) s_0 (by decide) rfl rfl rfl (leb rfl) rfl (ok_Hall_monk hv) rfl (by decide) (by decide) (by decide) kl_Law_18 cc_1 (fun z hz => by cases hz) (Or.inr ⟨d_Law_monk_13, rfl⟩) (by decide) rfl rfl ?_
      refine w_iconst (q := 16) (v := 1) d_Law_monk_15 rfl (by decide) ?_
      cases h
      exact w_ireturn d_Law_monk_16 rfl rfl ⟨rfl, rfl, rfl, rfl⟩
def sp_Law_entry (p1 : Int32) (p2 : Int32) (g : Mem) : Option (Int32 × Mem) := (sp_Hall_entry p1 p2 g).bind fun r2 => (match r2 with | .inl v1 => (wr g 78 1 0 v1).bind fun g3 => some (0, g3) | .inr 0 => none | .inr (_e + 1) => some (1, g))
theorem ok_Law_entry {γ : GG} {p1 : Int32} {p2 : Int32} {g : Mem} {res : Int32 × Mem} (h : sp_Law_entry p1 p2 g = some res) : CA γ M_Law_entry 3 [.ref 0, .int p1, .int p2, .ref 78] SH g false (1, 6) (pI SH res.1 res.2 false) := by
  refine CA.of mw_Law_entry.1 1 rfl ?_
  show WA γ M_Law_entry 3 0 [some (.ref 0), some (.int p1), some (.int p2), some (.ref 78), none] [] SH g false (1, 6) (pI SH res.1 res.2 false)
  unfold sp_Law_entry at h
  refine w_aload_n (q := 1) d_Law_entry_0 rfl rfl ?_
  refine w_iconst (q := 2) (v := 0) d_Law_entry_1 rfl (by decide) ?_
  refine w_aload_n (q := 3) d_Law_entry_2 rfl rfl ?_
  refine w_iload_n (q := 4) d_Law_entry_3 rfl rfl ?_
  refine w_iload_n (q := 5) d_Law_entry_4 rfl rfl ?_
  obtain ⟨r2, hv, h⟩ := bnd h
  rcases r2 with v1 | e
  · refine w_callVi (q := 8) (M' := M_Hall_entry) (n' := 2) (k := 0) (As := [.int p1, .int p2]) (sh' := SH) (b1 := (0, 0)) d_Law_entry_5 rfl mw_Hall_entry (by decide) (by decide) ml_Law_24 (by decide) s_0 (by decide) rfl rfl rfl (leb rfl) (bz _) (fun _ => rfl) (ok_Hall_entry hv) ?_
    dsimp only at h
    refine w_i2l (q := 9) d_Law_entry_8 rfl ?_
    obtain ⟨g3, hv, h⟩ := bnd h
    obtain ⟨hi, hv⟩ := wr_ok hv
    refine w_last (q := 10) (v := v1) d_Law_entry_9 rfl l_78.2 l_78.1 hi rfl hv ?_
    refine w_goto (q := 17) d_Law_entry_10 rfl ?_
    refine w_iconst (q := 18) (v := 0) d_Law_entry_17 rfl (by decide) ?_
    cases h
    exact w_ireturn d_Law_entry_18 rfl rfl ⟨rfl, rfl, rfl, rfl⟩
  · cases e with
    | zero =>
      cases h
    | succ e =>
      refine w_callVc (M' := M_Hall_entry) (n' := 2) (k := 0) (As := [.int p1, .int p2]) (b1 := (1, 6)) (b2 := (0, 0)) (q := 15) (li := 4) (ls' := [some (.ref 0), some (.int p1), some (.int p2), some (.ref 78), none]) (E := "java/util/NoSuchElementException") (nm := "java/util/NoSuchElementException") [] [] 0 10 d_Law_entry_5 mw_Hall_entry (by decide) (by decide) ml_Law_24 (by decide) s_0 (by decide) rfl rfl rfl (leb rfl) rfl (ok_Hall_entry hv) rfl (by decide) (by decide) (by decide) kl_Law_18 cc_1 (fun z hz => by cases hz) (Or.inr ⟨d_Law_entry_13, rfl⟩) (by decide) rfl rfl ?_
      refine w_iconst (q := 16) (v := 1) d_Law_entry_15 rfl (by decide) ?_
      cases h
      exact w_ireturn d_Law_entry_16 rfl rfl ⟨rfl, rfl, rfl, rfl⟩
def sp_Law_holders (F : Nat) (p1 : Int32) (g : Mem) : Option (Int32 × Mem) := (sp_Hall_holders F p1 g).bind fun r2 => (match r2 with | .inl v1 => (wr g 78 1 0 v1).bind fun g3 => some (0, g3) | .inr 0 => none | .inr (_e + 1) => some (1, g))
theorem ok_Law_holders {γ : GG} {F : Nat} {p1 : Int32} {g : Mem} {res : Int32 × Mem} (h : sp_Law_holders F p1 g = some res) : CA γ M_Law_holders 3 [.ref 0, .int p1, .ref 78] SH g false (1, 6) (pI SH res.1 res.2 false) := by
  refine CA.of mw_Law_holders.1 1 rfl ?_
  show WA γ M_Law_holders 3 0 [some (.ref 0), some (.int p1), some (.ref 78), none] [] SH g false (1, 6) (pI SH res.1 res.2 false)
  unfold sp_Law_holders at h
  refine w_aload_n (q := 1) d_Law_holders_0 rfl rfl ?_
  refine w_iconst (q := 2) (v := 0) d_Law_holders_1 rfl (by decide) ?_
  refine w_aload_n (q := 3) d_Law_holders_2 rfl rfl ?_
  refine w_iload_n (q := 4) d_Law_holders_3 rfl rfl ?_
  obtain ⟨r2, hv, h⟩ := bnd h
  rcases r2 with v1 | e
  · refine w_callVi (q := 7) (M' := M_Hall_holders) (n' := 2) (k := 0) (As := [.int p1]) (sh' := SH) (b1 := (0, 0)) d_Law_holders_4 rfl mw_Hall_holders (by decide) (by decide) ml_Law_27 (by decide) s_0 (by decide) rfl rfl rfl (leb rfl) (bz _) (fun _ => rfl) (ok_Hall_holders hv) ?_
    dsimp only at h
    refine w_i2l (q := 8) d_Law_holders_7 rfl ?_
    obtain ⟨g3, hv, h⟩ := bnd h
    obtain ⟨hi, hv⟩ := wr_ok hv
    refine w_last (q := 9) (v := v1) d_Law_holders_8 rfl l_78.2 l_78.1 hi rfl hv ?_
    refine w_goto (q := 15) d_Law_holders_9 rfl ?_
    refine w_iconst (q := 16) (v := 0) d_Law_holders_15 rfl (by decide) ?_
    cases h
    exact w_ireturn d_Law_holders_16 rfl rfl ⟨rfl, rfl, rfl, rfl⟩
  · cases e with
    | zero =>
      cases h
    | succ e =>
      refine w_callVc (M' := M_Hall_holders) (n' := 2) (k := 0) (As := [.int p1]) (b1 := (1, 6)) (b2 := (0, 0)) (q := 13) (li := 3) (ls' := [some (.ref 0), some (.int p1), some (.ref 78), none]) (E := "java/util/NoSuchElementException") (nm := "java/util/NoSuchElementException") [] [] 0 9 d_Law_holders_4 mw_Hall_holders (by decide) (by decide) ml_Law_27 (by decide) s_0 (by decide) rfl rfl rfl (leb rfl) rfl (ok_Hall_holders hv) rfl (by decide) (by decide) (by decide) kl_Law_18 cc_1 (fun z hz => by cases hz) (Or.inl ⟨_, rfl, d_Law_holders_12, rfl⟩) (by decide) rfl rfl ?_
      refine w_iconst (q := 14) (v := 1) d_Law_holders_13 rfl (by decide) ?_
      cases h
      exact w_ireturn d_Law_holders_14 rfl rfl ⟨rfl, rfl, rfl, rfl⟩
def sp_Law_may (F : Nat) (p1 : Int32) (p2 : Int32) (g : Mem) : Option (Int32 × Mem) := (sp_Hall_may F p1 p2 g).bind fun r2 => (match r2 with | .inl v1 => if v1.1 = 0 then (wr v1.2 78 1 0 0).bind fun g4 => some (0, g4) else (wr v1.2 78 1 0 1).bind fun g5 => some (0, g5) | .inr 0 => none | .inr (_e + 1) => some (1, g))
theorem ok_Law_may {γ : GG} {F : Nat} {p1 : Int32} {p2 : Int32} {g : Mem} {res : Int32 × Mem} (h : sp_Law_may F p1 p2 g = some res) : CA γ M_Law_may 5 [.ref 0, .int p1, .int p2, .ref 78] SH g false (1, 6) (pI SH res.1 res.2 false) := by
  refine CA.of mw_Law_may.1 1 rfl ?_
  show WA γ M_Law_may 5 0 [some (.ref 0), some (.int p1), some (.int p2), some (.ref 78), none] [] SH g false (1, 6) (pI SH res.1 res.2 false)
  unfold sp_Law_may at h
  refine w_aload_n (q := 1) d_Law_may_0 rfl rfl ?_
  refine w_iconst (q := 2) (v := 0) d_Law_may_1 rfl (by decide) ?_
  refine w_aload_n (q := 3) d_Law_may_2 rfl rfl ?_
  refine w_iload_n (q := 4) d_Law_may_3 rfl rfl ?_
  refine w_iload_n (q := 5) d_Law_may_4 rfl rfl ?_
  obtain ⟨r2, hv, h⟩ := bnd h
  rcases r2 with v1 | e
  · refine w_callVi (q := 8) (M' := M_Hall_may) (n' := 4) (k := 0) (As := [.int p1, .int p2]) (sh' := SH) (b1 := (0, 0)) d_Law_may_5 rfl mw_Hall_may (by decide) (by decide) ml_Law_30 (by decide) s_0 (by decide) rfl rfl rfl (leb rfl) (bz _) (fun _ => rfl) (ok_Hall_may hv) ?_
    dsimp only at h
    by_cases c3 : v1.1 = 0
    · rw [if_pos c3] at h
      refine w_if_eq_t (q := 15) d_Law_may_8 rfl c3 ?_
      refine w_lconst (q := 16) (v := 0) d_Law_may_15 rfl (by decide) ?_
      obtain ⟨g4, hv, h⟩ := bnd h
      obtain ⟨hi, hv⟩ := wr_ok hv
      refine w_last (q := 17) (v := 0) d_Law_may_16 rfl l_78.2 l_78.1 hi (by decide) hv ?_
      refine w_goto (q := 24) d_Law_may_17 rfl ?_
      refine w_iconst (q := 25) (v := 0) d_Law_may_24 rfl (by decide) ?_
      cases h
      exact w_ireturn d_Law_may_25 rfl rfl ⟨rfl, rfl, rfl, rfl⟩
    · rw [if_neg c3] at h
      refine w_if_eq_f (q := 11) d_Law_may_8 15 rfl rfl c3 ?_
      refine w_lconst (q := 12) (v := 1) d_Law_may_11 rfl (by decide) ?_
      refine w_goto (q := 16) d_Law_may_12 rfl ?_
      obtain ⟨g5, hv, h⟩ := bnd h
      obtain ⟨hi, hv⟩ := wr_ok hv
      refine w_last (q := 17) (v := 1) d_Law_may_16 rfl l_78.2 l_78.1 hi (by decide) hv ?_
      refine w_goto (q := 24) d_Law_may_17 rfl ?_
      refine w_iconst (q := 25) (v := 0) d_Law_may_24 rfl (by decide) ?_
      cases h
      exact w_ireturn d_Law_may_25 rfl rfl ⟨rfl, rfl, rfl, rfl⟩
  · cases e with
    | zero =>
      cases h
    | succ e =>
      refine w_callVc (M' := M_Hall_may) (n' := 4) (k := 0) (As := [.int p1, .int p2]) (b1 := (1, 6)) (b2 := (0, 0)) (q := 22) (li := 4) (ls' := [some (.ref 0), some (.int p1), some (.int p2), some (.ref 78), none]) (E := "java/util/NoSuchElementException") (nm := "java/util/NoSuchElementException") [] [] 0 17 d_Law_may_5 mw_Hall_may (by decide) (by decide) ml_Law_30 (by decide) s_0 (by decide) rfl rfl rfl (leb rfl) rfl (ok_Hall_may hv) rfl (by decide) (by decide) (by decide) kl_Law_18 cc_1 (fun z hz => by cases hz) (Or.inr ⟨d_Law_may_20, rfl⟩) (by decide) rfl rfl ?_
      refine w_iconst (q := 23) (v := 1) d_Law_may_22 rfl (by decide) ?_
      cases h
      exact w_ireturn d_Law_may_23 rfl rfl ⟨rfl, rfl, rfl, rfl⟩
def sp_Law_braid (p1 : Int32) (p2 : Int32) (p3 : Int32) (p4 : Int32) (g : Mem) : Option (Int32 × Mem) := (sp_Hall_braid p1 p2 p3 p4 g).bind fun r2 => (match r2 with | .inl v1 => (wr v1.2 78 1 0 v1.1).bind fun g3 => some (0, g3) | .inr 0 => none | .inr (_e + 1) => some (1, g))
theorem ok_Law_braid {γ : GG} {p1 : Int32} {p2 : Int32} {p3 : Int32} {p4 : Int32} {g : Mem} {res : Int32 × Mem} (h : sp_Law_braid p1 p2 p3 p4 g = some res) : CA γ M_Law_braid 5 [.ref 0, .int p1, .int p2, .int p3, .int p4, .ref 78] SH g false (1, 6) (pI SH res.1 res.2 false) := by
  refine CA.of mw_Law_braid.1 1 rfl ?_
  show WA γ M_Law_braid 5 0 [some (.ref 0), some (.int p1), some (.int p2), some (.int p3), some (.int p4), some (.ref 78), none] [] SH g false (1, 6) (pI SH res.1 res.2 false)
  unfold sp_Law_braid at h
  refine w_aload (q := 2) d_Law_braid_0 rfl rfl ?_
  refine w_iconst (q := 3) (v := 0) d_Law_braid_2 rfl (by decide) ?_
  refine w_aload_n (q := 4) d_Law_braid_3 rfl rfl ?_
  refine w_iload_n (q := 5) d_Law_braid_4 rfl rfl ?_
  refine w_iload_n (q := 6) d_Law_braid_5 rfl rfl ?_
  refine w_iload_n (q := 7) d_Law_braid_6 rfl rfl ?_
  refine w_iload (q := 9) d_Law_braid_7 rfl rfl ?_
  obtain ⟨r2, hv, h⟩ := bnd h
  rcases r2 with v1 | e
  · refine w_callVi (q := 12) (M' := M_Hall_braid) (n' := 4) (k := 0) (As := [.int p1, .int p2, .int p3, .int p4]) (sh' := SH) (b1 := (0, 0)) d_Law_braid_9 rfl mw_Hall_braid (by decide) (by decide) ml_Law_34 (by decide) s_0 (by decide) rfl rfl rfl (leb rfl) (bz _) (fun _ => rfl) (ok_Hall_braid hv) ?_
    dsimp only at h
    refine w_i2l (q := 13) d_Law_braid_12 rfl ?_
    obtain ⟨g3, hv, h⟩ := bnd h
    obtain ⟨hi, hv⟩ := wr_ok hv
    refine w_last (q := 14) (v := v1.1) d_Law_braid_13 rfl l_78.2 l_78.1 hi rfl hv ?_
    refine w_goto (q := 21) d_Law_braid_14 rfl ?_
    refine w_iconst (q := 22) (v := 0) d_Law_braid_21 rfl (by decide) ?_
    cases h
    exact w_ireturn d_Law_braid_22 rfl rfl ⟨rfl, rfl, rfl, rfl⟩
  · cases e with
    | zero =>
      cases h
    | succ e =>
      refine w_callVc (M' := M_Hall_braid) (n' := 4) (k := 0) (As := [.int p1, .int p2, .int p3, .int p4]) (b1 := (1, 6)) (b2 := (0, 0)) (q := 19) (li := 6) (ls' := [some (.ref 0), some (.int p1), some (.int p2), some (.int p3), some (.int p4), some (.ref 78), none]) (E := "java/util/NoSuchElementException") (nm := "java/util/NoSuchElementException") [] [] 0 14 d_Law_braid_9 mw_Hall_braid (by decide) (by decide) ml_Law_34 (by decide) s_0 (by decide) rfl rfl rfl (leb rfl) rfl (ok_Hall_braid hv) rfl (by decide) (by decide) (by decide) kl_Law_18 cc_1 (fun z hz => by cases hz) (Or.inr ⟨d_Law_braid_17, rfl⟩) (by decide) rfl rfl ?_
      refine w_iconst (q := 20) (v := 1) d_Law_braid_19 rfl (by decide) ?_
      cases h
      exact w_ireturn d_Law_braid_20 rfl rfl ⟨rfl, rfl, rfl, rfl⟩
def sp_Law_copy (F : Nat) (p1 : Int32) (p2 : Int32) (g : Mem) : Option (Int32 × Mem) := (sp_Hall_copy F p1 p2 g).bind fun r2 => (match r2 with | .inl v1 => (wr v1.2 78 1 0 v1.1).bind fun g3 => some (0, g3) | .inr 0 => none | .inr (_e + 1) => some (1, g))
theorem ok_Law_copy {γ : GG} {F : Nat} {p1 : Int32} {p2 : Int32} {g : Mem} {res : Int32 × Mem} (h : sp_Law_copy F p1 p2 g = some res) : CA γ M_Law_copy 5 [.ref 0, .int p1, .int p2, .ref 78] SH g false (1, 6) (pI SH res.1 res.2 false) := by
  refine CA.of mw_Law_copy.1 1 rfl ?_
  show WA γ M_Law_copy 5 0 [some (.ref 0), some (.int p1), some (.int p2), some (.ref 78), none] [] SH g false (1, 6) (pI SH res.1 res.2 false)
  unfold sp_Law_copy at h
  refine w_aload_n (q := 1) d_Law_copy_0 rfl rfl ?_
  refine w_iconst (q := 2) (v := 0) d_Law_copy_1 rfl (by decide) ?_
  refine w_aload_n (q := 3) d_Law_copy_2 rfl rfl ?_
  refine w_iload_n (q := 4) d_Law_copy_3 rfl rfl ?_
  refine w_iload_n (q := 5) d_Law_copy_4 rfl rfl ?_
  obtain ⟨r2, hv, h⟩ := bnd h
  rcases r2 with v1 | e
  · refine w_callVi (q := 8) (M' := M_Hall_copy) (n' := 4) (k := 0) (As := [.int p1, .int p2]) (sh' := SH) (b1 := (0, 0)) d_Law_copy_5 rfl mw_Hall_copy (by decide) (by decide) ml_Law_38 (by decide) s_0 (by decide) rfl rfl rfl (leb rfl) (bz _) (fun _ => rfl) (ok_Hall_copy hv) ?_
    dsimp only at h
    refine w_i2l (q := 9) d_Law_copy_8 rfl ?_
    obtain ⟨g3, hv, h⟩ := bnd h
    obtain ⟨hi, hv⟩ := wr_ok hv
    refine w_last (q := 10) (v := v1.1) d_Law_copy_9 rfl l_78.2 l_78.1 hi rfl hv ?_
    refine w_goto (q := 17) d_Law_copy_10 rfl ?_
    refine w_iconst (q := 18) (v := 0) d_Law_copy_17 rfl (by decide) ?_
    cases h
    exact w_ireturn d_Law_copy_18 rfl rfl ⟨rfl, rfl, rfl, rfl⟩
  · cases e with
    | zero =>
      cases h
    | succ e =>
      refine w_callVc (M' := M_Hall_copy) (n' := 4) (k := 0) (As := [.int p1, .int p2]) (b1 := (1, 6)) (b2 := (0, 0)) (q := 15) (li := 4) (ls' := [some (.ref 0), some (.int p1), some (.int p2), some (.ref 78), none]) (E := "java/util/NoSuchElementException") (nm := "java/util/NoSuchElementException") [] [] 0 10 d_Law_copy_5 mw_Hall_copy (by decide) (by decide) ml_Law_38 (by decide) s_0 (by decide) rfl rfl rfl (leb rfl) rfl (ok_Hall_copy hv) rfl (by decide) (by decide) (by decide) kl_Law_18 cc_1 (fun z hz => by cases hz) (Or.inr ⟨d_Law_copy_13, rfl⟩) (by decide) rfl rfl ?_
      refine w_iconst (q := 16) (v := 1) d_Law_copy_15 rfl (by decide) ?_
      cases h
      exact w_ireturn d_Law_copy_16 rfl rfl ⟨rfl, rfl, rfl, rfl⟩
def sp_Law_knot (p1 : Int32) (g : Mem) : Option (Int32 × Mem) := (sp_Hall_knot p1 g).bind fun r2 => (match r2 with | .inl v1 => if v1.1 = 0 then (wr v1.2 78 1 0 0).bind fun g4 => some (0, g4) else (wr v1.2 78 1 0 1).bind fun g5 => some (0, g5) | .inr 0 => none | .inr (_e + 1) => some (1, g))
theorem ok_Law_knot {γ : GG} {p1 : Int32} {g : Mem} {res : Int32 × Mem} (h : sp_Law_knot p1 g = some res) : CA γ M_Law_knot 4 [.ref 0, .int p1, .ref 78] SH g false (1, 6) (pI SH res.1 res.2 false) := by
  refine CA.of mw_Law_knot.1 1 rfl ?_
  show WA γ M_Law_knot 4 0 [some (.ref 0), some (.int p1), some (.ref 78), none] [] SH g false (1, 6) (pI SH res.1 res.2 false)
  unfold sp_Law_knot at h
  refine w_aload_n (q := 1) d_Law_knot_0 rfl rfl ?_
  refine w_iconst (q := 2) (v := 0) d_Law_knot_1 rfl (by decide) ?_
  refine w_aload_n (q := 3) d_Law_knot_2 rfl rfl ?_
  refine w_iload_n (q := 4) d_Law_knot_3 rfl rfl ?_
  obtain ⟨r2, hv, h⟩ := bnd h
  rcases r2 with v1 | e
  · refine w_callVi (q := 7) (M' := M_Hall_knot) (n' := 3) (k := 0) (As := [.int p1]) (sh' := SH) (b1 := (0, 0)) d_Law_knot_4 rfl mw_Hall_knot (by decide) (by decide) ml_Law_41 (by decide) s_0 (by decide) rfl rfl rfl (leb rfl) (bz _) (fun _ => rfl) (ok_Hall_knot hv) ?_
    dsimp only at h
    by_cases c3 : v1.1 = 0
    · rw [if_pos c3] at h
      refine w_if_eq_t (q := 14) d_Law_knot_7 rfl c3 ?_
      refine w_lconst (q := 15) (v := 0) d_Law_knot_14 rfl (by decide) ?_
      obtain ⟨g4, hv, h⟩ := bnd h
      obtain ⟨hi, hv⟩ := wr_ok hv
      refine w_last (q := 16) (v := 0) d_Law_knot_15 rfl l_78.2 l_78.1 hi (by decide) hv ?_
      refine w_goto (q := 22) d_Law_knot_16 rfl ?_
      refine w_iconst (q := 23) (v := 0) d_Law_knot_22 rfl (by decide) ?_
      cases h
      exact w_ireturn d_Law_knot_23 rfl rfl ⟨rfl, rfl, rfl, rfl⟩
    · rw [if_neg c3] at h
      refine w_if_eq_f (q := 10) d_Law_knot_7 14 rfl rfl c3 ?_
      refine w_lconst (q := 11) (v := 1) d_Law_knot_10 rfl (by decide) ?_
      refine w_goto (q := 15) d_Law_knot_11 rfl ?_
      obtain ⟨g5, hv, h⟩ := bnd h
      obtain ⟨hi, hv⟩ := wr_ok hv
      refine w_last (q := 16) (v := 1) d_Law_knot_15 rfl l_78.2 l_78.1 hi (by decide) hv ?_
      refine w_goto (q := 22) d_Law_knot_16 rfl ?_
      refine w_iconst (q := 23) (v := 0) d_Law_knot_22 rfl (by decide) ?_
      cases h
      exact w_ireturn d_Law_knot_23 rfl rfl ⟨rfl, rfl, rfl, rfl⟩
  · cases e with
    | zero =>
      cases h
    | succ e =>
      refine w_callVc (M' := M_Hall_knot) (n' := 3) (k := 0) (As := [.int p1]) (b1 := (1, 6)) (b2 := (0, 0)) (q := 20) (li := 3) (ls' := [some (.ref 0), some (.int p1), some (.ref 78), none]) (E := "java/util/NoSuchElementException") (nm := "java/util/NoSuchElementException") [] [] 0 16 d_Law_knot_4 mw_Hall_knot (by decide) (by decide) ml_Law_41 (by decide) s_0 (by decide) rfl rfl rfl (leb rfl) rfl (ok_Hall_knot hv) rfl (by decide) (by decide) (by decide) kl_Law_18 cc_1 (fun z hz => by cases hz) (Or.inl ⟨_, rfl, d_Law_knot_19, rfl⟩) (by decide) rfl rfl ?_
      refine w_iconst (q := 21) (v := 1) d_Law_knot_20 rfl (by decide) ?_
      cases h
      exact w_ireturn d_Law_knot_21 rfl rfl ⟨rfl, rfl, rfl, rfl⟩
def sp_Law_comb (p1 : Int32) (g : Mem) : Option (Int32 × Mem) := (sp_Hall_comb p1 g).bind fun r2 => (match r2 with | .inl v1 => if v1.1 = 0 then (wr v1.2 78 1 0 0).bind fun g4 => some (0, g4) else (wr v1.2 78 1 0 1).bind fun g5 => some (0, g5) | .inr 0 => none | .inr (_e + 1) => some (1, g))
theorem ok_Law_comb {γ : GG} {p1 : Int32} {g : Mem} {res : Int32 × Mem} (h : sp_Law_comb p1 g = some res) : CA γ M_Law_comb 4 [.ref 0, .int p1, .ref 78] SH g false (1, 6) (pI SH res.1 res.2 false) := by
  refine CA.of mw_Law_comb.1 1 rfl ?_
  show WA γ M_Law_comb 4 0 [some (.ref 0), some (.int p1), some (.ref 78), none] [] SH g false (1, 6) (pI SH res.1 res.2 false)
  unfold sp_Law_comb at h
  refine w_aload_n (q := 1) d_Law_comb_0 rfl rfl ?_
  refine w_iconst (q := 2) (v := 0) d_Law_comb_1 rfl (by decide) ?_
  refine w_aload_n (q := 3) d_Law_comb_2 rfl rfl ?_
  refine w_iload_n (q := 4) d_Law_comb_3 rfl rfl ?_
  obtain ⟨r2, hv, h⟩ := bnd h
  rcases r2 with v1 | e
  · refine w_callVi (q := 7) (M' := M_Hall_comb) (n' := 3) (k := 0) (As := [.int p1]) (sh' := SH) (b1 := (0, 0)) d_Law_comb_4 rfl mw_Hall_comb (by decide) (by decide) ml_Law_45 (by decide) s_0 (by decide) rfl rfl rfl (leb rfl) (bz _) (fun _ => rfl) (ok_Hall_comb hv) ?_
    dsimp only at h
    by_cases c3 : v1.1 = 0
    · rw [if_pos c3] at h
      refine w_if_eq_t (q := 14) d_Law_comb_7 rfl c3 ?_
      refine w_lconst (q := 15) (v := 0) d_Law_comb_14 rfl (by decide) ?_
      obtain ⟨g4, hv, h⟩ := bnd h
      obtain ⟨hi, hv⟩ := wr_ok hv
      refine w_last (q := 16) (v := 0) d_Law_comb_15 rfl l_78.2 l_78.1 hi (by decide) hv ?_
      refine w_goto (q := 22) d_Law_comb_16 rfl ?_
      refine w_iconst (q := 23) (v := 0) d_Law_comb_22 rfl (by decide) ?_
      cases h
      exact w_ireturn d_Law_comb_23 rfl rfl ⟨rfl, rfl, rfl, rfl⟩
    · rw [if_neg c3] at h
      refine w_if_eq_f (q := 10) d_Law_comb_7 14 rfl rfl c3 ?_
      refine w_lconst (q := 11) (v := 1) d_Law_comb_10 rfl (by decide) ?_
      refine w_goto (q := 15) d_Law_comb_11 rfl ?_
      obtain ⟨g5, hv, h⟩ := bnd h
      obtain ⟨hi, hv⟩ := wr_ok hv
      refine w_last (q := 16) (v := 1) d_Law_comb_15 rfl l_78.2 l_78.1 hi (by decide) hv ?_
      refine w_goto (q := 22) d_Law_comb_16 rfl ?_
      refine w_iconst (q := 23) (v := 0) d_Law_comb_22 rfl (by decide) ?_
      cases h
      exact w_ireturn d_Law_comb_23 rfl rfl ⟨rfl, rfl, rfl, rfl⟩
  · cases e with
    | zero =>
      cases h
    | succ e =>
      refine w_callVc (M' := M_Hall_comb) (n' := 3) (k := 0) (As := [.int p1]) (b1 := (1, 6)) (b2 := (0, 0)) (q := 20) (li := 3) (ls' := [some (.ref 0), some (.int p1), some (.ref 78), none]) (E := "java/util/NoSuchElementException") (nm := "java/util/NoSuchElementException") [] [] 0 16 d_Law_comb_4 mw_Hall_comb (by decide) (by decide) ml_Law_45 (by decide) s_0 (by decide) rfl rfl rfl (leb rfl) rfl (ok_Hall_comb hv) rfl (by decide) (by decide) (by decide) kl_Law_18 cc_1 (fun z hz => by cases hz) (Or.inl ⟨_, rfl, d_Law_comb_19, rfl⟩) (by decide) rfl rfl ?_
      refine w_iconst (q := 21) (v := 1) d_Law_comb_20 rfl (by decide) ?_
      cases h
      exact w_ireturn d_Law_comb_21 rfl rfl ⟨rfl, rfl, rfl, rfl⟩
def sp_Law_shave (F : Nat) (p1 : Int32) (p2 : Int32) (g : Mem) : Option (Int32 × Mem) := (sp_Hall_shave F p1 p2 g).bind fun r2 => (match r2 with | .inl v1 => (wr v1.2 78 1 0 v1.1).bind fun g3 => some (0, g3) | .inr 0 => none | .inr (_e + 1) => some (1, g))
theorem ok_Law_shave {γ : GG} {F : Nat} {p1 : Int32} {p2 : Int32} {g : Mem} {res : Int32 × Mem} (h : sp_Law_shave F p1 p2 g = some res) : CA γ M_Law_shave 6 [.ref 0, .int p1, .int p2, .ref 78] SH g false (1, 6) (pI SH res.1 res.2 false) := by
  refine CA.of mw_Law_shave.1 1 rfl ?_
  show WA γ M_Law_shave 6 0 [some (.ref 0), some (.int p1), some (.int p2), some (.ref 78), none] [] SH g false (1, 6) (pI SH res.1 res.2 false)
  unfold sp_Law_shave at h
  refine w_aload_n (q := 1) d_Law_shave_0 rfl rfl ?_
  refine w_iconst (q := 2) (v := 0) d_Law_shave_1 rfl (by decide) ?_
  refine w_aload_n (q := 3) d_Law_shave_2 rfl rfl ?_
  refine w_iload_n (q := 4) d_Law_shave_3 rfl rfl ?_
  refine w_iload_n (q := 5) d_Law_shave_4 rfl rfl ?_
  obtain ⟨r2, hv, h⟩ := bnd h
  rcases r2 with v1 | e
  · refine w_callVi (q := 8) (M' := M_Hall_shave) (n' := 5) (k := 0) (As := [.int p1, .int p2]) (sh' := SH) (b1 := (0, 0)) d_Law_shave_5 rfl mw_Hall_shave (by decide) (by decide) ml_Law_48 (by decide) s_0 (by decide) rfl rfl rfl (leb rfl) (bz _) (fun _ => rfl) (ok_Hall_shave hv) ?_
    dsimp only at h
    refine w_i2l (q := 9) d_Law_shave_8 rfl ?_
    obtain ⟨g3, hv, h⟩ := bnd h
    obtain ⟨hi, hv⟩ := wr_ok hv
    refine w_last (q := 10) (v := v1.1) d_Law_shave_9 rfl l_78.2 l_78.1 hi rfl hv ?_
    refine w_goto (q := 17) d_Law_shave_10 rfl ?_
    refine w_iconst (q := 18) (v := 0) d_Law_shave_17 rfl (by decide) ?_
    cases h
    exact w_ireturn d_Law_shave_18 rfl rfl ⟨rfl, rfl, rfl, rfl⟩
  · cases e with
    | zero =>
      cases h
    | succ e =>
      refine w_callVc (M' := M_Hall_shave) (n' := 5) (k := 0) (As := [.int p1, .int p2]) (b1 := (1, 6)) (b2 := (0, 0)) (q := 15) (li := 4) (ls' := [some (.ref 0), some (.int p1), some (.int p2), some (.ref 78), none]) (E := "java/util/NoSuchElementException") (nm := "java/util/NoSuchElementException") [] [] 0 10 d_Law_shave_5 mw_Hall_shave (by decide) (by decide) ml_Law_48 (by decide) s_0 (by decide) rfl rfl rfl (leb rfl) rfl (ok_Hall_shave hv) rfl (by decide) (by decide) (by decide) kl_Law_18 cc_1 (fun z hz => by cases hz) (Or.inr ⟨d_Law_shave_13, rfl⟩) (by decide) rfl rfl ?_
      refine w_iconst (q := 16) (v := 1) d_Law_shave_15 rfl (by decide) ?_
      cases h
      exact w_ireturn d_Law_shave_16 rfl rfl ⟨rfl, rfl, rfl, rfl⟩
def sp_Law_moths (F : Nat) (p1 : Int32) (p2 : Int32) (p3 : Int32) (g : Mem) : Option (Int32 × Mem) := (sp_Hall_moths F p1 p2 p3 g).bind fun r2 => (match r2 with | .inl v1 => (wr v1.2 78 1 0 v1.1).bind fun g3 => some (0, g3) | .inr 0 => none | .inr (_e + 1) => some (1, g))
theorem ok_Law_moths {γ : GG} {F : Nat} {p1 : Int32} {p2 : Int32} {p3 : Int32} {g : Mem} {res : Int32 × Mem} (h : sp_Law_moths F p1 p2 p3 g = some res) : CA γ M_Law_moths 5 [.ref 0, .int p1, .int p2, .int p3, .ref 78] SH g false (1, 6) (pI SH res.1 res.2 false) := by
  refine CA.of mw_Law_moths.1 1 rfl ?_
  show WA γ M_Law_moths 5 0 [some (.ref 0), some (.int p1), some (.int p2), some (.int p3), some (.ref 78), none] [] SH g false (1, 6) (pI SH res.1 res.2 false)
  unfold sp_Law_moths at h
  refine w_aload (q := 2) d_Law_moths_0 rfl rfl ?_
  refine w_iconst (q := 3) (v := 0) d_Law_moths_2 rfl (by decide) ?_
  refine w_aload_n (q := 4) d_Law_moths_3 rfl rfl ?_
  refine w_iload_n (q := 5) d_Law_moths_4 rfl rfl ?_
  refine w_iload_n (q := 6) d_Law_moths_5 rfl rfl ?_
  refine w_iload_n (q := 7) d_Law_moths_6 rfl rfl ?_
  obtain ⟨r2, hv, h⟩ := bnd h
  rcases r2 with v1 | e
  · refine w_callVi (q := 10) (M' := M_Hall_moths) (n' := 4) (k := 0) (As := [.int p1, .int p2, .int p3]) (sh' := SH) (b1 := (0, 0)) d_Law_moths_7 rfl mw_Hall_moths (by decide) (by decide) ml_Law_51 (by decide) s_0 (by decide) rfl rfl rfl (leb rfl) (bz _) (fun _ => rfl) (ok_Hall_moths hv) ?_
    dsimp only at h
    refine w_i2l (q := 11) d_Law_moths_10 rfl ?_
    obtain ⟨g3, hv, h⟩ := bnd h
    obtain ⟨hi, hv⟩ := wr_ok hv
    refine w_last (q := 12) (v := v1.1) d_Law_moths_11 rfl l_78.2 l_78.1 hi rfl hv ?_
    refine w_goto (q := 19) d_Law_moths_12 rfl ?_
    refine w_iconst (q := 20) (v := 0) d_Law_moths_19 rfl (by decide) ?_
    cases h
    exact w_ireturn d_Law_moths_20 rfl rfl ⟨rfl, rfl, rfl, rfl⟩
  · cases e with
    | zero =>
      cases h
    | succ e =>
      refine w_callVc (M' := M_Hall_moths) (n' := 4) (k := 0) (As := [.int p1, .int p2, .int p3]) (b1 := (1, 6)) (b2 := (0, 0)) (q := 17) (li := 5) (ls' := [some (.ref 0), some (.int p1), some (.int p2), some (.int p3), some (.ref 78), none]) (E := "java/util/NoSuchElementException") (nm := "java/util/NoSuchElementException") [] [] 0 12 d_Law_moths_7 mw_Hall_moths (by decide) (by decide) ml_Law_51 (by decide) s_0 (by decide) rfl rfl rfl (leb rfl) rfl (ok_Hall_moths hv) rfl (by decide) (by decide) (by decide) kl_Law_18 cc_1 (fun z hz => by cases hz) (Or.inr ⟨d_Law_moths_15, rfl⟩) (by decide) rfl rfl ?_
      refine w_iconst (q := 18) (v := 1) d_Law_moths_17 rfl (by decide) ?_
      cases h
      exact w_ireturn d_Law_moths_18 rfl rfl ⟨rfl, rfl, rfl, rfl⟩
def sp_Law_die (p1 : Int32) (g : Mem) : Option (Int32 × Mem) := (sp_Hall_die p1 g).bind fun r2 => (match r2 with | .inl v1 => if v1.1 = 0 then (wr v1.2 78 1 0 0).bind fun g4 => some (0, g4) else (wr v1.2 78 1 0 1).bind fun g5 => some (0, g5) | .inr 0 => none | .inr (_e + 1) => some (1, g))
theorem ok_Law_die {γ : GG} {p1 : Int32} {g : Mem} {res : Int32 × Mem} (h : sp_Law_die p1 g = some res) : CA γ M_Law_die 3 [.ref 0, .int p1, .ref 78] SH g false (1, 6) (pI SH res.1 res.2 false) := by
  refine CA.of mw_Law_die.1 1 rfl ?_
  show WA γ M_Law_die 3 0 [some (.ref 0), some (.int p1), some (.ref 78), none] [] SH g false (1, 6) (pI SH res.1 res.2 false)
  unfold sp_Law_die at h
  refine w_aload_n (q := 1) d_Law_die_0 rfl rfl ?_
  refine w_iconst (q := 2) (v := 0) d_Law_die_1 rfl (by decide) ?_
  refine w_aload_n (q := 3) d_Law_die_2 rfl rfl ?_
  refine w_iload_n (q := 4) d_Law_die_3 rfl rfl ?_
  obtain ⟨r2, hv, h⟩ := bnd h
  rcases r2 with v1 | e
  · refine w_callVi (q := 7) (M' := M_Hall_die) (n' := 2) (k := 0) (As := [.int p1]) (sh' := SH) (b1 := (0, 0)) d_Law_die_4 rfl mw_Hall_die (by decide) (by decide) ml_Law_55 (by decide) s_0 (by decide) rfl rfl rfl (leb rfl) (bz _) (fun _ => rfl) (ok_Hall_die hv) ?_
    dsimp only at h
    by_cases c3 : v1.1 = 0
    · rw [if_pos c3] at h
      refine w_if_eq_t (q := 14) d_Law_die_7 rfl c3 ?_
      refine w_lconst (q := 15) (v := 0) d_Law_die_14 rfl (by decide) ?_
      obtain ⟨g4, hv, h⟩ := bnd h
      obtain ⟨hi, hv⟩ := wr_ok hv
      refine w_last (q := 16) (v := 0) d_Law_die_15 rfl l_78.2 l_78.1 hi (by decide) hv ?_
      refine w_goto (q := 22) d_Law_die_16 rfl ?_
      refine w_iconst (q := 23) (v := 0) d_Law_die_22 rfl (by decide) ?_
      cases h
      exact w_ireturn d_Law_die_23 rfl rfl ⟨rfl, rfl, rfl, rfl⟩
    · rw [if_neg c3] at h
      refine w_if_eq_f (q := 10) d_Law_die_7 14 rfl rfl c3 ?_
      refine w_lconst (q := 11) (v := 1) d_Law_die_10 rfl (by decide) ?_
      refine w_goto (q := 15) d_Law_die_11 rfl ?_
      obtain ⟨g5, hv, h⟩ := bnd h
      obtain ⟨hi, hv⟩ := wr_ok hv
      refine w_last (q := 16) (v := 1) d_Law_die_15 rfl l_78.2 l_78.1 hi (by decide) hv ?_
      refine w_goto (q := 22) d_Law_die_16 rfl ?_
      refine w_iconst (q := 23) (v := 0) d_Law_die_22 rfl (by decide) ?_
      cases h
      exact w_ireturn d_Law_die_23 rfl rfl ⟨rfl, rfl, rfl, rfl⟩
  · cases e with
    | zero =>
      cases h
    | succ e =>
      refine w_callVc (M' := M_Hall_die) (n' := 2) (k := 0) (As := [.int p1]) (b1 := (1, 6)) (b2 := (0, 0)) (q := 20) (li := 3) (ls' := [some (.ref 0), some (.int p1), some (.ref 78), none]) (E := "java/util/NoSuchElementException") (nm := "java/util/NoSuchElementException") [] [] 0 16 d_Law_die_4 mw_Hall_die (by decide) (by decide) ml_Law_55 (by decide) s_0 (by decide) rfl rfl rfl (leb rfl) rfl (ok_Hall_die hv) rfl (by decide) (by decide) (by decide) kl_Law_18 cc_1 (fun z hz => by cases hz) (Or.inl ⟨_, rfl, d_Law_die_19, rfl⟩) (by decide) rfl rfl ?_
      refine w_iconst (q := 21) (v := 1) d_Law_die_20 rfl (by decide) ?_
      cases h
      exact w_ireturn d_Law_die_21 rfl rfl ⟨rfl, rfl, rfl, rfl⟩
def sp_Law_law (F : Nat) (p1 : Int32) (g : Mem) : Option (Int32 × Mem) := (sp_Hall_law F p1 g).bind fun r2 => (match r2 with | .inl v1 => (wr g 78 1 0 v1).bind fun g3 => some (0, g3) | .inr 0 => none | .inr (_e + 1) => some (1, g))
theorem ok_Law_law {γ : GG} {F : Nat} {p1 : Int32} {g : Mem} {res : Int32 × Mem} (h : sp_Law_law F p1 g = some res) : CA γ M_Law_law 5 [.ref 0, .int p1, .ref 78] SH g false (1, 6) (pI SH res.1 res.2 false) := by
  refine CA.of mw_Law_law.1 1 rfl ?_
  show WA γ M_Law_law 5 0 [some (.ref 0), some (.int p1), some (.ref 78), none] [] SH g false (1, 6) (pI SH res.1 res.2 false)
  unfold sp_Law_law at h
  refine w_aload_n (q := 1) d_Law_law_0 rfl rfl ?_
  refine w_iconst (q := 2) (v := 0) d_Law_law_1 rfl (by decide) ?_
  refine w_aload_n (q := 3) d_Law_law_2 rfl rfl ?_
  refine w_iload_n (q := 4) d_Law_law_3 rfl rfl ?_
  obtain ⟨r2, hv, h⟩ := bnd h
  rcases r2 with v1 | e
  · refine w_callVi (q := 7) (M' := M_Hall_law) (n' := 4) (k := 0) (As := [.int p1]) (sh' := SH) (b1 := (0, 0)) d_Law_law_4 rfl mw_Hall_law (by decide) (by decide) ml_Law_58 (by decide) s_0 (by decide) rfl rfl rfl (leb rfl) (bz _) (fun _ => rfl) (ok_Hall_law hv) ?_
    dsimp only at h
    refine w_i2l (q := 8) d_Law_law_7 rfl ?_
    obtain ⟨g3, hv, h⟩ := bnd h
    obtain ⟨hi, hv⟩ := wr_ok hv
    refine w_last (q := 9) (v := v1) d_Law_law_8 rfl l_78.2 l_78.1 hi rfl hv ?_
    refine w_goto (q := 15) d_Law_law_9 rfl ?_
    refine w_iconst (q := 16) (v := 0) d_Law_law_15 rfl (by decide) ?_
    cases h
    exact w_ireturn d_Law_law_16 rfl rfl ⟨rfl, rfl, rfl, rfl⟩
  · cases e with
    | zero =>
      cases h
    | succ e =>
      refine w_callVc (M' := M_Hall_law) (n' := 4) (k := 0) (As := [.int p1]) (b1 := (1, 6)) (b2 := (0, 0)) (q := 13) (li := 3) (ls' := [some (.ref 0), some (.int p1), some (.ref 78), none]) (E := "java/util/NoSuchElementException") (nm := "java/util/NoSuchElementException") [] [] 0 9 d_Law_law_4 mw_Hall_law (by decide) (by decide) ml_Law_58 (by decide) s_0 (by decide) rfl rfl rfl (leb rfl) rfl (ok_Hall_law hv) rfl (by decide) (by decide) (by decide) kl_Law_18 cc_1 (fun z hz => by cases hz) (Or.inl ⟨_, rfl, d_Law_law_12, rfl⟩) (by decide) rfl rfl ?_
      refine w_iconst (q := 14) (v := 1) d_Law_law_13 rfl (by decide) ?_
      cases h
      exact w_ireturn d_Law_law_14 rfl rfl ⟨rfl, rfl, rfl, rfl⟩
def sp_Law_owed (F : Nat) (p1 : Int32) (g : Mem) : Option (Int32 × Mem) := (sp_Hall_owed F p1 g).bind fun r2 => (match r2 with | .inl v1 => (wr g 78 1 0 v1).bind fun g3 => some (0, g3) | .inr 0 => none | .inr (_e + 1) => some (1, g))
theorem ok_Law_owed {γ : GG} {F : Nat} {p1 : Int32} {g : Mem} {res : Int32 × Mem} (h : sp_Law_owed F p1 g = some res) : CA γ M_Law_owed 5 [.ref 0, .int p1, .ref 78] SH g false (1, 6) (pI SH res.1 res.2 false) := by
  refine CA.of mw_Law_owed.1 1 rfl ?_
  show WA γ M_Law_owed 5 0 [some (.ref 0), some (.int p1), some (.ref 78), none] [] SH g false (1, 6) (pI SH res.1 res.2 false)
  unfold sp_Law_owed at h
  refine w_aload_n (q := 1) d_Law_owed_0 rfl rfl ?_
  refine w_iconst (q := 2) (v := 0) d_Law_owed_1 rfl (by decide) ?_
  refine w_aload_n (q := 3) d_Law_owed_2 rfl rfl ?_
  refine w_iload_n (q := 4) d_Law_owed_3 rfl rfl ?_
  obtain ⟨r2, hv, h⟩ := bnd h
  rcases r2 with v1 | e
  · refine w_callVi (q := 7) (M' := M_Hall_owed) (n' := 4) (k := 0) (As := [.int p1]) (sh' := SH) (b1 := (0, 0)) d_Law_owed_4 rfl mw_Hall_owed (by decide) (by decide) ml_Law_61 (by decide) s_0 (by decide) rfl rfl rfl (leb rfl) (bz _) (fun _ => rfl) (ok_Hall_owed hv) ?_
    dsimp only at h
    refine w_i2l (q := 8) d_Law_owed_7 rfl ?_
    obtain ⟨g3, hv, h⟩ := bnd h
    obtain ⟨hi, hv⟩ := wr_ok hv
    refine w_last (q := 9) (v := v1) d_Law_owed_8 rfl l_78.2 l_78.1 hi rfl hv ?_
    refine w_goto (q := 15) d_Law_owed_9 rfl ?_
    refine w_iconst (q := 16) (v := 0) d_Law_owed_15 rfl (by decide) ?_
    cases h
    exact w_ireturn d_Law_owed_16 rfl rfl ⟨rfl, rfl, rfl, rfl⟩
  · cases e with
    | zero =>
      cases h
    | succ e =>
      refine w_callVc (M' := M_Hall_owed) (n' := 4) (k := 0) (As := [.int p1]) (b1 := (1, 6)) (b2 := (0, 0)) (q := 13) (li := 3) (ls' := [some (.ref 0), some (.int p1), some (.ref 78), none]) (E := "java/util/NoSuchElementException") (nm := "java/util/NoSuchElementException") [] [] 0 9 d_Law_owed_4 mw_Hall_owed (by decide) (by decide) ml_Law_61 (by decide) s_0 (by decide) rfl rfl rfl (leb rfl) rfl (ok_Hall_owed hv) rfl (by decide) (by decide) (by decide) kl_Law_18 cc_1 (fun z hz => by cases hz) (Or.inl ⟨_, rfl, d_Law_owed_12, rfl⟩) (by decide) rfl rfl ?_
      refine w_iconst (q := 14) (v := 1) d_Law_owed_13 rfl (by decide) ?_
      cases h
      exact w_ireturn d_Law_owed_14 rfl rfl ⟨rfl, rfl, rfl, rfl⟩
def sp_Law_barbers (F : Nat) (p1 : Int32) (g : Mem) : Option (Int32 × Mem) := (sp_Hall_barbers F p1 g).bind fun r2 => (match r2 with | .inl v1 => (wr v1.2 78 1 0 v1.1).bind fun g3 => some (0, g3) | .inr 0 => some (1, g) | .inr (_e + 1) => none)
theorem ok_Law_barbers {γ : GG} {F : Nat} {p1 : Int32} {g : Mem} {res : Int32 × Mem} (h : sp_Law_barbers F p1 g = some res) : CA γ M_Law_barbers 7 [.ref 0, .int p1, .ref 78] SH g false (1, 6) (pI SH res.1 res.2 false) := by
  refine CA.of mw_Law_barbers.1 1 rfl ?_
  show WA γ M_Law_barbers 7 0 [some (.ref 0), some (.int p1), some (.ref 78), none] [] SH g false (1, 6) (pI SH res.1 res.2 false)
  unfold sp_Law_barbers at h
  refine w_aload_n (q := 1) d_Law_barbers_0 rfl rfl ?_
  refine w_iconst (q := 2) (v := 0) d_Law_barbers_1 rfl (by decide) ?_
  refine w_aload_n (q := 3) d_Law_barbers_2 rfl rfl ?_
  refine w_iload_n (q := 4) d_Law_barbers_3 rfl rfl ?_
  obtain ⟨r2, hv, h⟩ := bnd h
  rcases r2 with v1 | e
  · refine w_callVi (q := 7) (M' := M_Hall_barbers) (n' := 6) (k := 0) (As := [.int p1]) (sh' := SH) (b1 := (0, 0)) d_Law_barbers_4 rfl mw_Hall_barbers (by decide) (by decide) ml_Law_64 (by decide) s_0 (by decide) rfl rfl rfl (leb rfl) (bz _) (fun _ => rfl) (ok_Hall_barbers hv) ?_
    dsimp only at h
    refine w_i2l (q := 8) d_Law_barbers_7 rfl ?_
    obtain ⟨g3, hv, h⟩ := bnd h
    obtain ⟨hi, hv⟩ := wr_ok hv
    refine w_last (q := 9) (v := v1.1) d_Law_barbers_8 rfl l_78.2 l_78.1 hi rfl hv ?_
    refine w_goto (q := 15) d_Law_barbers_9 rfl ?_
    refine w_iconst (q := 16) (v := 0) d_Law_barbers_15 rfl (by decide) ?_
    cases h
    exact w_ireturn d_Law_barbers_16 rfl rfl ⟨rfl, rfl, rfl, rfl⟩
  · cases e with
    | zero =>
      refine w_callVc (M' := M_Hall_barbers) (n' := 6) (k := 0) (As := [.int p1]) (b1 := (1, 6)) (b2 := (0, 0)) (q := 13) (li := 3) (ls' := [some (.ref 0), some (.int p1), some (.ref 78), none]) (E := "java/lang/IllegalArgumentException") (nm := "java/lang/IllegalArgumentException") [] [] 0 9 d_Law_barbers_4 mw_Hall_barbers (by decide) (by decide) ml_Law_64 (by decide) s_0 (by decide) rfl rfl rfl (leb rfl) rfl (ok_Hall_barbers hv) rfl (by decide) (by decide) (by decide) kl_Law_13 cc_0 (fun z hz => by cases hz) (Or.inl ⟨_, rfl, d_Law_barbers_12, rfl⟩) (by decide) rfl rfl ?_
      refine w_iconst (q := 14) (v := 1) d_Law_barbers_13 rfl (by decide) ?_
      cases h
      exact w_ireturn d_Law_barbers_14 rfl rfl ⟨rfl, rfl, rfl, rfl⟩
    | succ e =>
      cases h
def sp_Law_shortest (F : Nat) (p1 : Int32) (g : Mem) : Option (Int32 × Mem) := (sp_Hall_shortest F p1 g).bind fun r2 => (match r2 with | .inl v1 => (wr g 78 1 0 v1).bind fun g3 => some (0, g3) | .inr 0 => none | .inr (_e + 1) => some (1, g))
theorem ok_Law_shortest {γ : GG} {F : Nat} {p1 : Int32} {g : Mem} {res : Int32 × Mem} (h : sp_Law_shortest F p1 g = some res) : CA γ M_Law_shortest 6 [.ref 0, .int p1, .ref 78] SH g false (1, 6) (pI SH res.1 res.2 false) := by
  refine CA.of mw_Law_shortest.1 1 rfl ?_
  show WA γ M_Law_shortest 6 0 [some (.ref 0), some (.int p1), some (.ref 78), none] [] SH g false (1, 6) (pI SH res.1 res.2 false)
  unfold sp_Law_shortest at h
  refine w_aload_n (q := 1) d_Law_shortest_0 rfl rfl ?_
  refine w_iconst (q := 2) (v := 0) d_Law_shortest_1 rfl (by decide) ?_
  refine w_aload_n (q := 3) d_Law_shortest_2 rfl rfl ?_
  refine w_iload_n (q := 4) d_Law_shortest_3 rfl rfl ?_
  obtain ⟨r2, hv, h⟩ := bnd h
  rcases r2 with v1 | e
  · refine w_callVi (q := 7) (M' := M_Hall_shortest) (n' := 5) (k := 0) (As := [.int p1]) (sh' := SH) (b1 := (0, 0)) d_Law_shortest_4 rfl mw_Hall_shortest (by decide) (by decide) ml_Law_67 (by decide) s_0 (by decide) rfl rfl rfl (leb rfl) (bz _) (fun _ => rfl) (ok_Hall_shortest hv) ?_
    dsimp only at h
    refine w_i2l (q := 8) d_Law_shortest_7 rfl ?_
    obtain ⟨g3, hv, h⟩ := bnd h
    obtain ⟨hi, hv⟩ := wr_ok hv
    refine w_last (q := 9) (v := v1) d_Law_shortest_8 rfl l_78.2 l_78.1 hi rfl hv ?_
    refine w_goto (q := 15) d_Law_shortest_9 rfl ?_
    refine w_iconst (q := 16) (v := 0) d_Law_shortest_15 rfl (by decide) ?_
    cases h
    exact w_ireturn d_Law_shortest_16 rfl rfl ⟨rfl, rfl, rfl, rfl⟩
  · cases e with
    | zero =>
      cases h
    | succ e =>
      refine w_callVc (M' := M_Hall_shortest) (n' := 5) (k := 0) (As := [.int p1]) (b1 := (1, 6)) (b2 := (0, 0)) (q := 13) (li := 3) (ls' := [some (.ref 0), some (.int p1), some (.ref 78), none]) (E := "java/util/NoSuchElementException") (nm := "java/util/NoSuchElementException") [] [] 0 9 d_Law_shortest_4 mw_Hall_shortest (by decide) (by decide) ml_Law_67 (by decide) s_0 (by decide) rfl rfl rfl (leb rfl) rfl (ok_Hall_shortest hv) rfl (by decide) (by decide) (by decide) kl_Law_18 cc_1 (fun z hz => by cases hz) (Or.inl ⟨_, rfl, d_Law_shortest_12, rfl⟩) (by decide) rfl rfl ?_
      refine w_iconst (q := 14) (v := 1) d_Law_shortest_13 rfl (by decide) ?_
      cases h
      exact w_ireturn d_Law_shortest_14 rfl rfl ⟨rfl, rfl, rfl, rfl⟩
def sp_Law_amnesty (F : Nat) (p1 : Int32) (p2 : Int32) (p3 : Int32) (g : Mem) : Option (Int32 × Mem) := (sp_Hall_amnesty F p1 p2 p3 g).bind fun r2 => (match r2 with | .inl v1 => (wr g 78 1 0 v1).bind fun g3 => some (0, g3) | .inr 0 => some (2, g) | .inr (_e + 1) => some (1, g))
theorem ok_Law_amnesty {γ : GG} {F : Nat} {p1 : Int32} {p2 : Int32} {p3 : Int32} {g : Mem} {res : Int32 × Mem} (h : sp_Law_amnesty F p1 p2 p3 g = some res) : CA γ M_Law_amnesty 7 [.ref 0, .int p1, .int p2, .int p3, .ref 78] SH g false (1, 6) (pI SH res.1 res.2 false) := by
  refine CA.of mw_Law_amnesty.1 1 rfl ?_
  show WA γ M_Law_amnesty 7 0 [some (.ref 0), some (.int p1), some (.int p2), some (.int p3), some (.ref 78), none] [] SH g false (1, 6) (pI SH res.1 res.2 false)
  unfold sp_Law_amnesty at h
  refine w_aload (q := 2) d_Law_amnesty_0 rfl rfl ?_
  refine w_iconst (q := 3) (v := 0) d_Law_amnesty_2 rfl (by decide) ?_
  refine w_aload_n (q := 4) d_Law_amnesty_3 rfl rfl ?_
  refine w_iload_n (q := 5) d_Law_amnesty_4 rfl rfl ?_
  refine w_iload_n (q := 6) d_Law_amnesty_5 rfl rfl ?_
  refine w_iload_n (q := 7) d_Law_amnesty_6 rfl rfl ?_
  obtain ⟨r2, hv, h⟩ := bnd h
  rcases r2 with v1 | e
  · refine w_callVi (q := 10) (M' := M_Hall_amnesty) (n' := 6) (k := 0) (As := [.int p1, .int p2, .int p3]) (sh' := SH) (b1 := (0, 0)) d_Law_amnesty_7 rfl mw_Hall_amnesty (by decide) (by decide) ml_Law_70 (by decide) s_0 (by decide) rfl rfl rfl (leb rfl) (bz _) (fun _ => rfl) (ok_Hall_amnesty hv) ?_
    dsimp only at h
    refine w_i2l (q := 11) d_Law_amnesty_10 rfl ?_
    obtain ⟨g3, hv, h⟩ := bnd h
    obtain ⟨hi, hv⟩ := wr_ok hv
    refine w_last (q := 12) (v := v1) d_Law_amnesty_11 rfl l_78.2 l_78.1 hi rfl hv ?_
    refine w_goto (q := 23) d_Law_amnesty_12 rfl ?_
    refine w_iconst (q := 24) (v := 0) d_Law_amnesty_23 rfl (by decide) ?_
    cases h
    exact w_ireturn d_Law_amnesty_24 rfl rfl ⟨rfl, rfl, rfl, rfl⟩
  · cases e with
    | zero =>
      refine w_callVc (M' := M_Hall_amnesty) (n' := 6) (k := 0) (As := [.int p1, .int p2, .int p3]) (b1 := (1, 6)) (b2 := (0, 0)) (q := 21) (li := 5) (ls' := [some (.ref 0), some (.int p1), some (.int p2), some (.int p3), some (.ref 78), none]) (E := "java/lang/IllegalArgumentException") (nm := "java/lang/IllegalArgumentException") [(0, 12, 15, 18)] [] 0 12 d_Law_amnesty_7 mw_Hall_amnesty (by decide) (by decide) ml_Law_70 (by decide) s_0 (by decide) rfl rfl rfl (leb rfl) rfl (ok_Hall_amnesty hv) rfl (by decide) (by decide) (by decide) kl_Law_13 cc_0 (fun z hz => by cases List.mem_singleton.mp hz; exact ⟨by decide, _, kl_Law_18, fun s9 h9 => h9.nc⟩) (Or.inr ⟨d_Law_amnesty_19, rfl⟩) (by decide) rfl rfl ?_
      refine w_iconst (q := 22) (v := 2) d_Law_amnesty_21 rfl (by decide) ?_
      cases h
      exact w_ireturn d_Law_amnesty_22 rfl rfl ⟨rfl, rfl, rfl, rfl⟩
    | succ e =>
      refine w_callVc (M' := M_Hall_amnesty) (n' := 6) (k := 0) (As := [.int p1, .int p2, .int p3]) (b1 := (1, 6)) (b2 := (0, 0)) (q := 17) (li := 5) (ls' := [some (.ref 0), some (.int p1), some (.int p2), some (.int p3), some (.ref 78), none]) (E := "java/util/NoSuchElementException") (nm := "java/util/NoSuchElementException") [] [(0, 12, 19, 13)] 0 12 d_Law_amnesty_7 mw_Hall_amnesty (by decide) (by decide) ml_Law_70 (by decide) s_0 (by decide) rfl rfl rfl (leb rfl) rfl (ok_Hall_amnesty hv) rfl (by decide) (by decide) (by decide) kl_Law_18 cc_1 (fun z hz => by cases hz) (Or.inr ⟨d_Law_amnesty_15, rfl⟩) (by decide) rfl rfl ?_
      refine w_iconst (q := 18) (v := 1) d_Law_amnesty_17 rfl (by decide) ?_
      cases h
      exact w_ireturn d_Law_amnesty_18 rfl rfl ⟨rfl, rfl, rfl, rfl⟩
def sp_Law_week (F : Nat) (p1 : Int32) (p2 : Int32) (g : Mem) : Option (Int32 × Mem) := (sp_Hall_week F p1 p2 g).bind fun r2 => (match r2 with | .inl v1 => (wr g 78 1 0 v1).bind fun g3 => some (0, g3) | .inr 0 => none | .inr (_e + 1) => some (1, g))
theorem ok_Law_week {γ : GG} {F : Nat} {p1 : Int32} {p2 : Int32} {g : Mem} {res : Int32 × Mem} (h : sp_Law_week F p1 p2 g = some res) : CA γ M_Law_week 5 [.ref 0, .int p1, .int p2, .ref 78] SH g false (1, 6) (pI SH res.1 res.2 false) := by
  refine CA.of mw_Law_week.1 1 rfl ?_
  show WA γ M_Law_week 5 0 [some (.ref 0), some (.int p1), some (.int p2), some (.ref 78), none] [] SH g false (1, 6) (pI SH res.1 res.2 false)
  unfold sp_Law_week at h
  refine w_aload_n (q := 1) d_Law_week_0 rfl rfl ?_
  refine w_iconst (q := 2) (v := 0) d_Law_week_1 rfl (by decide) ?_
  refine w_aload_n (q := 3) d_Law_week_2 rfl rfl ?_
  refine w_iload_n (q := 4) d_Law_week_3 rfl rfl ?_
  refine w_iload_n (q := 5) d_Law_week_4 rfl rfl ?_
  obtain ⟨r2, hv, h⟩ := bnd h
  rcases r2 with v1 | e
  · refine w_callVi (q := 8) (M' := M_Hall_week) (n' := 4) (k := 0) (As := [.int p1, .int p2]) (sh' := SH) (b1 := (0, 0)) d_Law_week_5 rfl mw_Hall_week (by decide) (by decide) ml_Law_73 (by decide) s_0 (by decide) rfl rfl rfl (leb rfl) (bz _) (fun _ => rfl) (ok_Hall_week hv) ?_
    dsimp only at h
    refine w_i2l (q := 9) d_Law_week_8 rfl ?_
    obtain ⟨g3, hv, h⟩ := bnd h
    obtain ⟨hi, hv⟩ := wr_ok hv
    refine w_last (q := 10) (v := v1) d_Law_week_9 rfl l_78.2 l_78.1 hi rfl hv ?_
    refine w_goto (q := 17) d_Law_week_10 rfl ?_
    refine w_iconst (q := 18) (v := 0) d_Law_week_17 rfl (by decide) ?_
    cases h
    exact w_ireturn d_Law_week_18 rfl rfl ⟨rfl, rfl, rfl, rfl⟩
  · cases e with
    | zero =>
      cases h
    | succ e =>
      refine w_callVc (M' := M_Hall_week) (n' := 4) (k := 0) (As := [.int p1, .int p2]) (b1 := (1, 6)) (b2 := (0, 0)) (q := 15) (li := 4) (ls' := [some (.ref 0), some (.int p1), some (.int p2), some (.ref 78), none]) (E := "java/util/NoSuchElementException") (nm := "java/util/NoSuchElementException") [] [] 0 10 d_Law_week_5 mw_Hall_week (by decide) (by decide) ml_Law_73 (by decide) s_0 (by decide) rfl rfl rfl (leb rfl) rfl (ok_Hall_week hv) rfl (by decide) (by decide) (by decide) kl_Law_18 cc_1 (fun z hz => by cases hz) (Or.inr ⟨d_Law_week_13, rfl⟩) (by decide) rfl rfl ?_
      refine w_iconst (q := 16) (v := 1) d_Law_week_15 rfl (by decide) ?_
      cases h
      exact w_ireturn d_Law_week_16 rfl rfl ⟨rfl, rfl, rfl, rfl⟩
def sp_Law_oldest (F : Nat) (p1 : Int32) (p2 : Int32) (g : Mem) : Option (Int32 × Mem) := (sp_Hall_oldest F p1 p2 g).bind fun r2 => (match r2 with | .inl v1 => (wr g 78 1 0 v1).bind fun g3 => some (0, g3) | .inr 0 => none | .inr (_e + 1) => some (1, g))
theorem ok_Law_oldest {γ : GG} {F : Nat} {p1 : Int32} {p2 : Int32} {g : Mem} {res : Int32 × Mem} (h : sp_Law_oldest F p1 p2 g = some res) : CA γ M_Law_oldest 5 [.ref 0, .int p1, .int p2, .ref 78] SH g false (1, 6) (pI SH res.1 res.2 false) := by
  refine CA.of mw_Law_oldest.1 1 rfl ?_
  show WA γ M_Law_oldest 5 0 [some (.ref 0), some (.int p1), some (.int p2), some (.ref 78), none] [] SH g false (1, 6) (pI SH res.1 res.2 false)
  unfold sp_Law_oldest at h
  refine w_aload_n (q := 1) d_Law_oldest_0 rfl rfl ?_
  refine w_iconst (q := 2) (v := 0) d_Law_oldest_1 rfl (by decide) ?_
  refine w_aload_n (q := 3) d_Law_oldest_2 rfl rfl ?_
  refine w_iload_n (q := 4) d_Law_oldest_3 rfl rfl ?_
  refine w_iload_n (q := 5) d_Law_oldest_4 rfl rfl ?_
  obtain ⟨r2, hv, h⟩ := bnd h
  rcases r2 with v1 | e
  · refine w_callVi (q := 8) (M' := M_Hall_oldest) (n' := 4) (k := 0) (As := [.int p1, .int p2]) (sh' := SH) (b1 := (0, 0)) d_Law_oldest_5 rfl mw_Hall_oldest (by decide) (by decide) ml_Law_76 (by decide) s_0 (by decide) rfl rfl rfl (leb rfl) (bz _) (fun _ => rfl) (ok_Hall_oldest hv) ?_
    dsimp only at h
    refine w_i2l (q := 9) d_Law_oldest_8 rfl ?_
    obtain ⟨g3, hv, h⟩ := bnd h
    obtain ⟨hi, hv⟩ := wr_ok hv
    refine w_last (q := 10) (v := v1) d_Law_oldest_9 rfl l_78.2 l_78.1 hi rfl hv ?_
    refine w_goto (q := 17) d_Law_oldest_10 rfl ?_
    refine w_iconst (q := 18) (v := 0) d_Law_oldest_17 rfl (by decide) ?_
    cases h
    exact w_ireturn d_Law_oldest_18 rfl rfl ⟨rfl, rfl, rfl, rfl⟩
  · cases e with
    | zero =>
      cases h
    | succ e =>
      refine w_callVc (M' := M_Hall_oldest) (n' := 4) (k := 0) (As := [.int p1, .int p2]) (b1 := (1, 6)) (b2 := (0, 0)) (q := 15) (li := 4) (ls' := [some (.ref 0), some (.int p1), some (.int p2), some (.ref 78), none]) (E := "java/util/NoSuchElementException") (nm := "java/util/NoSuchElementException") [] [] 0 10 d_Law_oldest_5 mw_Hall_oldest (by decide) (by decide) ml_Law_76 (by decide) s_0 (by decide) rfl rfl rfl (leb rfl) rfl (ok_Hall_oldest hv) rfl (by decide) (by decide) (by decide) kl_Law_18 cc_1 (fun z hz => by cases hz) (Or.inr ⟨d_Law_oldest_13, rfl⟩) (by decide) rfl rfl ?_
      refine w_iconst (q := 16) (v := 1) d_Law_oldest_15 rfl (by decide) ?_
      cases h
      exact w_ireturn d_Law_oldest_16 rfl rfl ⟨rfl, rfl, rfl, rfl⟩
def sp_Law_believed (F : Nat) (p1 : Int32) (g : Mem) : Option (Int32 × Mem) := (sp_Hall_believed F p1 g).bind fun r2 => (match r2 with | .inl v1 => (wr g 78 1 0 v1).bind fun g3 => some (0, g3) | .inr 0 => none | .inr (_e + 1) => some (1, g))
theorem ok_Law_believed {γ : GG} {F : Nat} {p1 : Int32} {g : Mem} {res : Int32 × Mem} (h : sp_Law_believed F p1 g = some res) : CA γ M_Law_believed 6 [.ref 0, .int p1, .ref 78] SH g false (1, 6) (pI SH res.1 res.2 false) := by
  refine CA.of mw_Law_believed.1 1 rfl ?_
  show WA γ M_Law_believed 6 0 [some (.ref 0), some (.int p1), some (.ref 78), none] [] SH g false (1, 6) (pI SH res.1 res.2 false)
  unfold sp_Law_believed at h
  refine w_aload_n (q := 1) d_Law_believed_0 rfl rfl ?_
  refine w_iconst (q := 2) (v := 0) d_Law_believed_1 rfl (by decide) ?_
  refine w_aload_n (q := 3) d_Law_believed_2 rfl rfl ?_
  refine w_iload_n (q := 4) d_Law_believed_3 rfl rfl ?_
  obtain ⟨r2, hv, h⟩ := bnd h
  rcases r2 with v1 | e
  · refine w_callVi (q := 7) (M' := M_Hall_believed) (n' := 5) (k := 0) (As := [.int p1]) (sh' := SH) (b1 := (0, 0)) d_Law_believed_4 rfl mw_Hall_believed (by decide) (by decide) ml_Law_79 (by decide) s_0 (by decide) rfl rfl rfl (leb rfl) (bz _) (fun _ => rfl) (ok_Hall_believed hv) ?_
    dsimp only at h
    refine w_i2l (q := 8) d_Law_believed_7 rfl ?_
    obtain ⟨g3, hv, h⟩ := bnd h
    obtain ⟨hi, hv⟩ := wr_ok hv
    refine w_last (q := 9) (v := v1) d_Law_believed_8 rfl l_78.2 l_78.1 hi rfl hv ?_
    refine w_goto (q := 15) d_Law_believed_9 rfl ?_
    refine w_iconst (q := 16) (v := 0) d_Law_believed_15 rfl (by decide) ?_
    cases h
    exact w_ireturn d_Law_believed_16 rfl rfl ⟨rfl, rfl, rfl, rfl⟩
  · cases e with
    | zero =>
      cases h
    | succ e =>
      refine w_callVc (M' := M_Hall_believed) (n' := 5) (k := 0) (As := [.int p1]) (b1 := (1, 6)) (b2 := (0, 0)) (q := 13) (li := 3) (ls' := [some (.ref 0), some (.int p1), some (.ref 78), none]) (E := "java/util/NoSuchElementException") (nm := "java/util/NoSuchElementException") [] [] 0 9 d_Law_believed_4 mw_Hall_believed (by decide) (by decide) ml_Law_79 (by decide) s_0 (by decide) rfl rfl rfl (leb rfl) rfl (ok_Hall_believed hv) rfl (by decide) (by decide) (by decide) kl_Law_18 cc_1 (fun z hz => by cases hz) (Or.inl ⟨_, rfl, d_Law_believed_12, rfl⟩) (by decide) rfl rfl ?_
      refine w_iconst (q := 14) (v := 1) d_Law_believed_13 rfl (by decide) ?_
      cases h
      exact w_ireturn d_Law_believed_14 rfl rfl ⟨rfl, rfl, rfl, rfl⟩
def sp_Law_until (p1 : Int32) (g : Mem) : Option (Int32 × Mem) := (sp_Hall_until p1 g).bind fun r2 => (match r2 with | .inl v1 => (wr g 78 1 0 v1).bind fun g3 => some (0, g3) | .inr 0 => none | .inr (_e + 1) => some (1, g))
theorem ok_Law_until {γ : GG} {p1 : Int32} {g : Mem} {res : Int32 × Mem} (h : sp_Law_until p1 g = some res) : CA γ M_Law_until 4 [.ref 0, .int p1, .ref 78] SH g false (1, 6) (pI SH res.1 res.2 false) := by
  refine CA.of mw_Law_until.1 1 rfl ?_
  show WA γ M_Law_until 4 0 [some (.ref 0), some (.int p1), some (.ref 78), none] [] SH g false (1, 6) (pI SH res.1 res.2 false)
  unfold sp_Law_until at h
  refine w_aload_n (q := 1) d_Law_until_0 rfl rfl ?_
  refine w_iconst (q := 2) (v := 0) d_Law_until_1 rfl (by decide) ?_
  refine w_aload_n (q := 3) d_Law_until_2 rfl rfl ?_
  refine w_iload_n (q := 4) d_Law_until_3 rfl rfl ?_
  obtain ⟨r2, hv, h⟩ := bnd h
  rcases r2 with v1 | e
  · refine w_callVi (q := 7) (M' := M_Hall_until) (n' := 3) (k := 0) (As := [.int p1]) (sh' := SH) (b1 := (0, 0)) d_Law_until_4 rfl mw_Hall_until (by decide) (by decide) ml_Law_82 (by decide) s_0 (by decide) rfl rfl rfl (leb rfl) (bz _) (fun _ => rfl) (ok_Hall_until hv) ?_
    dsimp only at h
    refine w_i2l (q := 8) d_Law_until_7 rfl ?_
    obtain ⟨g3, hv, h⟩ := bnd h
    obtain ⟨hi, hv⟩ := wr_ok hv
    refine w_last (q := 9) (v := v1) d_Law_until_8 rfl l_78.2 l_78.1 hi rfl hv ?_
    refine w_goto (q := 15) d_Law_until_9 rfl ?_
    refine w_iconst (q := 16) (v := 0) d_Law_until_15 rfl (by decide) ?_
    cases h
    exact w_ireturn d_Law_until_16 rfl rfl ⟨rfl, rfl, rfl, rfl⟩
  · cases e with
    | zero =>
      cases h
    | succ e =>
      refine w_callVc (M' := M_Hall_until) (n' := 3) (k := 0) (As := [.int p1]) (b1 := (1, 6)) (b2 := (0, 0)) (q := 13) (li := 3) (ls' := [some (.ref 0), some (.int p1), some (.ref 78), none]) (E := "java/util/NoSuchElementException") (nm := "java/util/NoSuchElementException") [] [] 0 9 d_Law_until_4 mw_Hall_until (by decide) (by decide) ml_Law_82 (by decide) s_0 (by decide) rfl rfl rfl (leb rfl) rfl (ok_Hall_until hv) rfl (by decide) (by decide) (by decide) kl_Law_18 cc_1 (fun z hz => by cases hz) (Or.inl ⟨_, rfl, d_Law_until_12, rfl⟩) (by decide) rfl rfl ?_
      refine w_iconst (q := 14) (v := 1) d_Law_until_13 rfl (by decide) ?_
      cases h
      exact w_ireturn d_Law_until_14 rfl rfl ⟨rfl, rfl, rfl, rfl⟩
def sp_Law_doomed (F : Nat) (p1 : Int32) (g : Mem) : Option (Int32 × Mem) := (sp_Hall_doomed F p1 g).bind fun r2 => (match r2 with | .inl v1 => (wr g 78 1 0 v1).bind fun g3 => some (0, g3) | .inr 0 => some (1, g) | .inr (_e + 1) => none)
theorem ok_Law_doomed {γ : GG} {F : Nat} {p1 : Int32} {g : Mem} {res : Int32 × Mem} (h : sp_Law_doomed F p1 g = some res) : CA γ M_Law_doomed 5 [.ref 0, .int p1, .ref 78] SH g false (1, 6) (pI SH res.1 res.2 false) := by
  refine CA.of mw_Law_doomed.1 1 rfl ?_
  show WA γ M_Law_doomed 5 0 [some (.ref 0), some (.int p1), some (.ref 78), none] [] SH g false (1, 6) (pI SH res.1 res.2 false)
  unfold sp_Law_doomed at h
  refine w_aload_n (q := 1) d_Law_doomed_0 rfl rfl ?_
  refine w_iconst (q := 2) (v := 0) d_Law_doomed_1 rfl (by decide) ?_
  refine w_aload_n (q := 3) d_Law_doomed_2 rfl rfl ?_
  refine w_iload_n (q := 4) d_Law_doomed_3 rfl rfl ?_
  obtain ⟨r2, hv, h⟩ := bnd h
  rcases r2 with v1 | e
  · refine w_callVi (q := 7) (M' := M_Hall_doomed) (n' := 4) (k := 0) (As := [.int p1]) (sh' := SH) (b1 := (0, 0)) d_Law_doomed_4 rfl mw_Hall_doomed (by decide) (by decide) ml_Law_85 (by decide) s_0 (by decide) rfl rfl rfl (leb rfl) (bz _) (fun _ => rfl) (ok_Hall_doomed hv) ?_
    dsimp only at h
    refine w_i2l (q := 8) d_Law_doomed_7 rfl ?_
    obtain ⟨g3, hv, h⟩ := bnd h
    obtain ⟨hi, hv⟩ := wr_ok hv
    refine w_last (q := 9) (v := v1) d_Law_doomed_8 rfl l_78.2 l_78.1 hi rfl hv ?_
    refine w_goto (q := 15) d_Law_doomed_9 rfl ?_
    refine w_iconst (q := 16) (v := 0) d_Law_doomed_15 rfl (by decide) ?_
    cases h
    exact w_ireturn d_Law_doomed_16 rfl rfl ⟨rfl, rfl, rfl, rfl⟩
  · cases e with
    | zero =>
      refine w_callVc (M' := M_Hall_doomed) (n' := 4) (k := 0) (As := [.int p1]) (b1 := (1, 6)) (b2 := (0, 0)) (q := 13) (li := 3) (ls' := [some (.ref 0), some (.int p1), some (.ref 78), none]) (E := "java/lang/IllegalArgumentException") (nm := "java/lang/IllegalArgumentException") [] [] 0 9 d_Law_doomed_4 mw_Hall_doomed (by decide) (by decide) ml_Law_85 (by decide) s_0 (by decide) rfl rfl rfl (leb rfl) rfl (ok_Hall_doomed hv) rfl (by decide) (by decide) (by decide) kl_Law_13 cc_0 (fun z hz => by cases hz) (Or.inl ⟨_, rfl, d_Law_doomed_12, rfl⟩) (by decide) rfl rfl ?_
      refine w_iconst (q := 14) (v := 1) d_Law_doomed_13 rfl (by decide) ?_
      cases h
      exact w_ireturn d_Law_doomed_14 rfl rfl ⟨rfl, rfl, rfl, rfl⟩
    | succ e =>
      cases h
def sp_Law_heir (F : Nat) (p1 : Int32) (g : Mem) : Option (Int32 × Mem) := (sp_Hall_heir F p1 g).bind fun r2 => (match r2 with | .inl v1 => (wr g 78 1 0 v1).bind fun g3 => some (0, g3) | .inr 0 => none | .inr (_e + 1) => some (1, g))
theorem ok_Law_heir {γ : GG} {F : Nat} {p1 : Int32} {g : Mem} {res : Int32 × Mem} (h : sp_Law_heir F p1 g = some res) : CA γ M_Law_heir 5 [.ref 0, .int p1, .ref 78] SH g false (1, 6) (pI SH res.1 res.2 false) := by
  refine CA.of mw_Law_heir.1 1 rfl ?_
  show WA γ M_Law_heir 5 0 [some (.ref 0), some (.int p1), some (.ref 78), none] [] SH g false (1, 6) (pI SH res.1 res.2 false)
  unfold sp_Law_heir at h
  refine w_aload_n (q := 1) d_Law_heir_0 rfl rfl ?_
  refine w_iconst (q := 2) (v := 0) d_Law_heir_1 rfl (by decide) ?_
  refine w_aload_n (q := 3) d_Law_heir_2 rfl rfl ?_
  refine w_iload_n (q := 4) d_Law_heir_3 rfl rfl ?_
  obtain ⟨r2, hv, h⟩ := bnd h
  rcases r2 with v1 | e
  · refine w_callVi (q := 7) (M' := M_Hall_heir) (n' := 4) (k := 0) (As := [.int p1]) (sh' := SH) (b1 := (0, 0)) d_Law_heir_4 rfl mw_Hall_heir (by decide) (by decide) ml_Law_88 (by decide) s_0 (by decide) rfl rfl rfl (leb rfl) (bz _) (fun _ => rfl) (ok_Hall_heir hv) ?_
    dsimp only at h
    refine w_i2l (q := 8) d_Law_heir_7 rfl ?_
    obtain ⟨g3, hv, h⟩ := bnd h
    obtain ⟨hi, hv⟩ := wr_ok hv
    refine w_last (q := 9) (v := v1) d_Law_heir_8 rfl l_78.2 l_78.1 hi rfl hv ?_
    refine w_goto (q := 15) d_Law_heir_9 rfl ?_
    refine w_iconst (q := 16) (v := 0) d_Law_heir_15 rfl (by decide) ?_
    cases h
    exact w_ireturn d_Law_heir_16 rfl rfl ⟨rfl, rfl, rfl, rfl⟩
  · cases e with
    | zero =>
      cases h
    | succ e =>
      refine w_callVc (M' := M_Hall_heir) (n' := 4) (k := 0) (As := [.int p1]) (b1 := (1, 6)) (b2 := (0, 0)) (q := 13) (li := 3) (ls' := [some (.ref 0), some (.int p1), some (.ref 78), none]) (E := "java/util/NoSuchElementException") (nm := "java/util/NoSuchElementException") [] [] 0 9 d_Law_heir_4 mw_Hall_heir (by decide) (by decide) ml_Law_88 (by decide) s_0 (by decide) rfl rfl rfl (leb rfl) rfl (ok_Hall_heir hv) rfl (by decide) (by decide) (by decide) kl_Law_18 cc_1 (fun z hz => by cases hz) (Or.inl ⟨_, rfl, d_Law_heir_12, rfl⟩) (by decide) rfl rfl ?_
      refine w_iconst (q := 14) (v := 1) d_Law_heir_13 rfl (by decide) ?_
      cases h
      exact w_ireturn d_Law_heir_14 rfl rfl ⟨rfl, rfl, rfl, rfl⟩
def sp_Law_lice (F : Nat) (p1 : Int32) (g : Mem) : Option (Int32 × Mem) := (sp_Hall_lice F p1 g).bind fun r2 => (match r2 with | .inl v1 => (wr g 78 1 0 v1).bind fun g3 => some (0, g3) | .inr 0 => none | .inr (_e + 1) => some (1, g))
theorem ok_Law_lice {γ : GG} {F : Nat} {p1 : Int32} {g : Mem} {res : Int32 × Mem} (h : sp_Law_lice F p1 g = some res) : CA γ M_Law_lice 4 [.ref 0, .int p1, .ref 78] SH g false (1, 6) (pI SH res.1 res.2 false) := by
  refine CA.of mw_Law_lice.1 1 rfl ?_
  show WA γ M_Law_lice 4 0 [some (.ref 0), some (.int p1), some (.ref 78), none] [] SH g false (1, 6) (pI SH res.1 res.2 false)
  unfold sp_Law_lice at h
  refine w_aload_n (q := 1) d_Law_lice_0 rfl rfl ?_
  refine w_iconst (q := 2) (v := 0) d_Law_lice_1 rfl (by decide) ?_
  refine w_aload_n (q := 3) d_Law_lice_2 rfl rfl ?_
  refine w_iload_n (q := 4) d_Law_lice_3 rfl rfl ?_
  obtain ⟨r2, hv, h⟩ := bnd h
  rcases r2 with v1 | e
  · refine w_callVi (q := 7) (M' := M_Hall_lice) (n' := 3) (k := 0) (As := [.int p1]) (sh' := SH) (b1 := (0, 0)) d_Law_lice_4 rfl mw_Hall_lice (by decide) (by decide) ml_Law_91 (by decide) s_0 (by decide) rfl rfl rfl (leb rfl) (bz _) (fun _ => rfl) (ok_Hall_lice hv) ?_
    dsimp only at h
    refine w_i2l (q := 8) d_Law_lice_7 rfl ?_
    obtain ⟨g3, hv, h⟩ := bnd h
    obtain ⟨hi, hv⟩ := wr_ok hv
    refine w_last (q := 9) (v := v1) d_Law_lice_8 rfl l_78.2 l_78.1 hi rfl hv ?_
    refine w_goto (q := 15) d_Law_lice_9 rfl ?_
    refine w_iconst (q := 16) (v := 0) d_Law_lice_15 rfl (by decide) ?_
    cases h
    exact w_ireturn d_Law_lice_16 rfl rfl ⟨rfl, rfl, rfl, rfl⟩
  · cases e with
    | zero =>
      cases h
    | succ e =>
      refine w_callVc (M' := M_Hall_lice) (n' := 3) (k := 0) (As := [.int p1]) (b1 := (1, 6)) (b2 := (0, 0)) (q := 13) (li := 3) (ls' := [some (.ref 0), some (.int p1), some (.ref 78), none]) (E := "java/util/NoSuchElementException") (nm := "java/util/NoSuchElementException") [] [] 0 9 d_Law_lice_4 mw_Hall_lice (by decide) (by decide) ml_Law_91 (by decide) s_0 (by decide) rfl rfl rfl (leb rfl) rfl (ok_Hall_lice hv) rfl (by decide) (by decide) (by decide) kl_Law_18 cc_1 (fun z hz => by cases hz) (Or.inl ⟨_, rfl, d_Law_lice_12, rfl⟩) (by decide) rfl rfl ?_
      refine w_iconst (q := 14) (v := 1) d_Law_lice_13 rfl (by decide) ?_
      cases h
      exact w_ireturn d_Law_lice_14 rfl rfl ⟨rfl, rfl, rfl, rfl⟩
def sp_Law_see (p1 : Int32) (p2 : Int32) (g : Mem) : Option (Int32 × Mem) := (sp_Hall_see p1 p2 g).bind fun r2 => (match r2 with | .inl v1 => (wr v1.2 78 1 0 v1.1).bind fun g3 => some (0, g3) | .inr 0 => none | .inr (_e + 1) => some (1, g))
theorem ok_Law_see {γ : GG} {p1 : Int32} {p2 : Int32} {g : Mem} {res : Int32 × Mem} (h : sp_Law_see p1 p2 g = some res) : CA γ M_Law_see 2 [.ref 0, .int p1, .int p2, .ref 78] SH g false (1, 6) (pI SH res.1 res.2 false) := by
  refine CA.of mw_Law_see.1 1 rfl ?_
  show WA γ M_Law_see 2 0 [some (.ref 0), some (.int p1), some (.int p2), some (.ref 78), none] [] SH g false (1, 6) (pI SH res.1 res.2 false)
  unfold sp_Law_see at h
  refine w_aload_n (q := 1) d_Law_see_0 rfl rfl ?_
  refine w_iconst (q := 2) (v := 0) d_Law_see_1 rfl (by decide) ?_
  refine w_aload_n (q := 3) d_Law_see_2 rfl rfl ?_
  refine w_iload_n (q := 4) d_Law_see_3 rfl rfl ?_
  refine w_iload_n (q := 5) d_Law_see_4 rfl rfl ?_
  obtain ⟨r2, hv, h⟩ := bnd h
  rcases r2 with v1 | e
  · refine w_callVi (q := 8) (M' := M_Hall_see) (n' := 1) (k := 0) (As := [.int p1, .int p2]) (sh' := SH) (b1 := (0, 0)) d_Law_see_5 rfl mw_Hall_see (by decide) (by decide) ml_Law_94 (by decide) s_0 (by decide) rfl rfl rfl (leb rfl) (bz _) (fun _ => rfl) (ok_Hall_see hv) ?_
    dsimp only at h
    refine w_i2l (q := 9) d_Law_see_8 rfl ?_
    obtain ⟨g3, hv, h⟩ := bnd h
    obtain ⟨hi, hv⟩ := wr_ok hv
    refine w_last (q := 10) (v := v1.1) d_Law_see_9 rfl l_78.2 l_78.1 hi rfl hv ?_
    refine w_goto (q := 17) d_Law_see_10 rfl ?_
    refine w_iconst (q := 18) (v := 0) d_Law_see_17 rfl (by decide) ?_
    cases h
    exact w_ireturn d_Law_see_18 rfl rfl ⟨rfl, rfl, rfl, rfl⟩
  · cases e with
    | zero =>
      cases h
    | succ e =>
      refine w_callVc (M' := M_Hall_see) (n' := 1) (k := 0) (As := [.int p1, .int p2]) (b1 := (1, 6)) (b2 := (0, 0)) (q := 15) (li := 4) (ls' := [some (.ref 0), some (.int p1), some (.int p2), some (.ref 78), none]) (E := "java/util/NoSuchElementException") (nm := "java/util/NoSuchElementException") [] [] 0 10 d_Law_see_5 mw_Hall_see (by decide) (by decide) ml_Law_94 (by decide) s_0 (by decide) rfl rfl rfl (leb rfl) rfl (ok_Hall_see hv) rfl (by decide) (by decide) (by decide) kl_Law_18 cc_1 (fun z hz => by cases hz) (Or.inr ⟨d_Law_see_13, rfl⟩) (by decide) rfl rfl ?_
      refine w_iconst (q := 16) (v := 1) d_Law_see_15 rfl (by decide) ?_
      cases h
      exact w_ireturn d_Law_see_16 rfl rfl ⟨rfl, rfl, rfl, rfl⟩
def sp_Law_ate (F : Nat) (p1 : Int32) (p2 : Int32) (g : Mem) : Option (Int32 × Mem) := (sp_Hall_ate F p1 p2 g).bind fun r2 => (match r2 with | .inl v1 => (wr g 78 1 0 v1).bind fun g3 => some (0, g3) | .inr 0 => none | .inr (_e + 1) => some (1, g))
theorem ok_Law_ate {γ : GG} {F : Nat} {p1 : Int32} {p2 : Int32} {g : Mem} {res : Int32 × Mem} (h : sp_Law_ate F p1 p2 g = some res) : CA γ M_Law_ate 6 [.ref 0, .int p1, .int p2, .ref 78] SH g false (1, 6) (pI SH res.1 res.2 false) := by
  refine CA.of mw_Law_ate.1 1 rfl ?_
  show WA γ M_Law_ate 6 0 [some (.ref 0), some (.int p1), some (.int p2), some (.ref 78), none] [] SH g false (1, 6) (pI SH res.1 res.2 false)
  unfold sp_Law_ate at h
  refine w_aload_n (q := 1) d_Law_ate_0 rfl rfl ?_
  refine w_iconst (q := 2) (v := 0) d_Law_ate_1 rfl (by decide) ?_
  refine w_aload_n (q := 3) d_Law_ate_2 rfl rfl ?_
  refine w_iload_n (q := 4) d_Law_ate_3 rfl rfl ?_
  refine w_iload_n (q := 5) d_Law_ate_4 rfl rfl ?_
  obtain ⟨r2, hv, h⟩ := bnd h
  rcases r2 with v1 | e
  · refine w_callVi (q := 8) (M' := M_Hall_ate) (n' := 5) (k := 0) (As := [.int p1, .int p2]) (sh' := SH) (b1 := (0, 0)) d_Law_ate_5 rfl mw_Hall_ate (by decide) (by decide) ml_Law_98 (by decide) s_0 (by decide) rfl rfl rfl (leb rfl) (bz _) (fun _ => rfl) (ok_Hall_ate hv) ?_
    dsimp only at h
    refine w_i2l (q := 9) d_Law_ate_8 rfl ?_
    obtain ⟨g3, hv, h⟩ := bnd h
    obtain ⟨hi, hv⟩ := wr_ok hv
    refine w_last (q := 10) (v := v1) d_Law_ate_9 rfl l_78.2 l_78.1 hi rfl hv ?_
    refine w_goto (q := 17) d_Law_ate_10 rfl ?_
    refine w_iconst (q := 18) (v := 0) d_Law_ate_17 rfl (by decide) ?_
    cases h
    exact w_ireturn d_Law_ate_18 rfl rfl ⟨rfl, rfl, rfl, rfl⟩
  · cases e with
    | zero =>
      cases h
    | succ e =>
      refine w_callVc (M' := M_Hall_ate) (n' := 5) (k := 0) (As := [.int p1, .int p2]) (b1 := (1, 6)) (b2 := (0, 0)) (q := 15) (li := 4) (ls' := [some (.ref 0), some (.int p1), some (.int p2), some (.ref 78), none]) (E := "java/util/NoSuchElementException") (nm := "java/util/NoSuchElementException") [] [] 0 10 d_Law_ate_5 mw_Hall_ate (by decide) (by decide) ml_Law_98 (by decide) s_0 (by decide) rfl rfl rfl (leb rfl) rfl (ok_Hall_ate hv) rfl (by decide) (by decide) (by decide) kl_Law_18 cc_1 (fun z hz => by cases hz) (Or.inr ⟨d_Law_ate_13, rfl⟩) (by decide) rfl rfl ?_
      refine w_iconst (q := 16) (v := 1) d_Law_ate_15 rfl (by decide) ?_
      cases h
      exact w_ireturn d_Law_ate_16 rfl rfl ⟨rfl, rfl, rfl, rfl⟩
def sp_Law_game (F : Nat) (p1 : Int32) (g : Mem) : Option (Int32 × Mem) := (sp_Hall_game F p1 g).bind fun r2 => (match r2 with | .inl v1 => (wr v1.2 78 1 0 v1.1).bind fun g3 => some (0, g3) | .inr 0 => none | .inr (_e + 1) => some (1, g))
theorem ok_Law_game {γ : GG} {F : Nat} {p1 : Int32} {g : Mem} {res : Int32 × Mem} (h : sp_Law_game F p1 g = some res) : CA γ M_Law_game 6 [.ref 0, .int p1, .ref 78] SH g false (1, 6) (pI SH res.1 res.2 false) := by
  refine CA.of mw_Law_game.1 1 rfl ?_
  show WA γ M_Law_game 6 0 [some (.ref 0), some (.int p1), some (.ref 78), none] [] SH g false (1, 6) (pI SH res.1 res.2 false)
  unfold sp_Law_game at h
  refine w_aload_n (q := 1) d_Law_game_0 rfl rfl ?_
  refine w_iconst (q := 2) (v := 0) d_Law_game_1 rfl (by decide) ?_
  refine w_aload_n (q := 3) d_Law_game_2 rfl rfl ?_
  refine w_iload_n (q := 4) d_Law_game_3 rfl rfl ?_
  obtain ⟨r2, hv, h⟩ := bnd h
  rcases r2 with v1 | e
  · refine w_callVi (q := 7) (M' := M_Hall_game) (n' := 5) (k := 0) (As := [.int p1]) (sh' := SH) (b1 := (0, 0)) d_Law_game_4 rfl mw_Hall_game (by decide) (by decide) ml_Law_101 (by decide) s_0 (by decide) rfl rfl rfl (leb rfl) (bz _) (fun _ => rfl) (ok_Hall_game hv) ?_
    dsimp only at h
    refine w_i2l (q := 8) d_Law_game_7 rfl ?_
    obtain ⟨g3, hv, h⟩ := bnd h
    obtain ⟨hi, hv⟩ := wr_ok hv
    refine w_last (q := 9) (v := v1.1) d_Law_game_8 rfl l_78.2 l_78.1 hi rfl hv ?_
    refine w_goto (q := 15) d_Law_game_9 rfl ?_
    refine w_iconst (q := 16) (v := 0) d_Law_game_15 rfl (by decide) ?_
    cases h
    exact w_ireturn d_Law_game_16 rfl rfl ⟨rfl, rfl, rfl, rfl⟩
  · cases e with
    | zero =>
      cases h
    | succ e =>
      refine w_callVc (M' := M_Hall_game) (n' := 5) (k := 0) (As := [.int p1]) (b1 := (1, 6)) (b2 := (0, 0)) (q := 13) (li := 3) (ls' := [some (.ref 0), some (.int p1), some (.ref 78), none]) (E := "java/util/NoSuchElementException") (nm := "java/util/NoSuchElementException") [] [] 0 9 d_Law_game_4 mw_Hall_game (by decide) (by decide) ml_Law_101 (by decide) s_0 (by decide) rfl rfl rfl (leb rfl) rfl (ok_Hall_game hv) rfl (by decide) (by decide) (by decide) kl_Law_18 cc_1 (fun z hz => by cases hz) (Or.inl ⟨_, rfl, d_Law_game_12, rfl⟩) (by decide) rfl rfl ?_
      refine w_iconst (q := 14) (v := 1) d_Law_game_13 rfl (by decide) ?_
      cases h
      exact w_ireturn d_Law_game_14 rfl rfl ⟨rfl, rfl, rfl, rfl⟩
def sp_Law_season (F : Nat) (p1 : Int32) (p2 : Int32) (p3 : Int32) (g : Mem) : Option (Int32 × Mem) := (sp_Hall_season F p1 p2 p3 g).bind fun r2 => (match r2 with | .inl v1 => (wr v1.2 78 1 0 v1.1).bind fun g3 => some (0, g3) | .inr 0 => some (2, g) | .inr (_e + 1) => some (1, g))
theorem ok_Law_season {γ : GG} {F : Nat} {p1 : Int32} {p2 : Int32} {p3 : Int32} {g : Mem} {res : Int32 × Mem} (h : sp_Law_season F p1 p2 p3 g = some res) : CA γ M_Law_season 8 [.ref 0, .int p1, .int p2, .int p3, .ref 78] SH g false (1, 6) (pI SH res.1 res.2 false) := by
  refine CA.of mw_Law_season.1 1 rfl ?_
  show WA γ M_Law_season 8 0 [some (.ref 0), some (.int p1), some (.int p2), some (.int p3), some (.ref 78), none] [] SH g false (1, 6) (pI SH res.1 res.2 false)
  unfold sp_Law_season at h
  refine w_aload (q := 2) d_Law_season_0 rfl rfl ?_
  refine w_iconst (q := 3) (v := 0) d_Law_season_2 rfl (by decide) ?_
  refine w_aload_n (q := 4) d_Law_season_3 rfl rfl ?_
  refine w_iload_n (q := 5) d_Law_season_4 rfl rfl ?_
  refine w_iload_n (q := 6) d_Law_season_5 rfl rfl ?_
  refine w_iload_n (q := 7) d_Law_season_6 rfl rfl ?_
  obtain ⟨r2, hv, h⟩ := bnd h
  rcases r2 with v1 | e
  · refine w_callVi (q := 10) (M' := M_Hall_season) (n' := 7) (k := 0) (As := [.int p1, .int p2, .int p3]) (sh' := SH) (b1 := (0, 0)) d_Law_season_7 rfl mw_Hall_season (by decide) (by decide) ml_Law_104 (by decide) s_0 (by decide) rfl rfl rfl (leb rfl) (bz _) (fun _ => rfl) (ok_Hall_season hv) ?_
    dsimp only at h
    refine w_i2l (q := 11) d_Law_season_10 rfl ?_
    obtain ⟨g3, hv, h⟩ := bnd h
    obtain ⟨hi, hv⟩ := wr_ok hv
    refine w_last (q := 12) (v := v1.1) d_Law_season_11 rfl l_78.2 l_78.1 hi rfl hv ?_
    refine w_goto (q := 23) d_Law_season_12 rfl ?_
    refine w_iconst (q := 24) (v := 0) d_Law_season_23 rfl (by decide) ?_
    cases h
    exact w_ireturn d_Law_season_24 rfl rfl ⟨rfl, rfl, rfl, rfl⟩
  · cases e with
    | zero =>
      refine w_callVc (M' := M_Hall_season) (n' := 7) (k := 0) (As := [.int p1, .int p2, .int p3]) (b1 := (1, 6)) (b2 := (0, 0)) (q := 21) (li := 5) (ls' := [some (.ref 0), some (.int p1), some (.int p2), some (.int p3), some (.ref 78), none]) (E := "java/lang/IllegalArgumentException") (nm := "java/lang/IllegalArgumentException") [(0, 12, 15, 18)] [] 0 12 d_Law_season_7 mw_Hall_season (by decide) (by decide) ml_Law_104 (by decide) s_0 (by decide) rfl rfl rfl (leb rfl) rfl (ok_Hall_season hv) rfl (by decide) (by decide) (by decide) kl_Law_13 cc_0 (fun z hz => by cases List.mem_singleton.mp hz; exact ⟨by decide, _, kl_Law_18, fun s9 h9 => h9.nc⟩) (Or.inr ⟨d_Law_season_19, rfl⟩) (by decide) rfl rfl ?_
      refine w_iconst (q := 22) (v := 2) d_Law_season_21 rfl (by decide) ?_
      cases h
      exact w_ireturn d_Law_season_22 rfl rfl ⟨rfl, rfl, rfl, rfl⟩
    | succ e =>
      refine w_callVc (M' := M_Hall_season) (n' := 7) (k := 0) (As := [.int p1, .int p2, .int p3]) (b1 := (1, 6)) (b2 := (0, 0)) (q := 17) (li := 5) (ls' := [some (.ref 0), some (.int p1), some (.int p2), some (.int p3), some (.ref 78), none]) (E := "java/util/NoSuchElementException") (nm := "java/util/NoSuchElementException") [] [(0, 12, 19, 13)] 0 12 d_Law_season_7 mw_Hall_season (by decide) (by decide) ml_Law_104 (by decide) s_0 (by decide) rfl rfl rfl (leb rfl) rfl (ok_Hall_season hv) rfl (by decide) (by decide) (by decide) kl_Law_18 cc_1 (fun z hz => by cases hz) (Or.inr ⟨d_Law_season_15, rfl⟩) (by decide) rfl rfl ?_
      refine w_iconst (q := 18) (v := 1) d_Law_season_17 rfl (by decide) ?_
      cases h
      exact w_ireturn d_Law_season_18 rfl rfl ⟨rfl, rfl, rfl, rfl⟩
