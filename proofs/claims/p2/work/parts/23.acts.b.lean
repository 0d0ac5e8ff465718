/-! functions and theorems of 23.acts (by program: wip/gen/main.py) -/
def sp_Acts_keep_j37 (ac : Nat) (o0ha : Nat) (o0ro : Nat) (g : Mem) (m0 : Mem) : Option (Mem) := (sp_Hair_writeTo o0ha o0ro (ac + 1) 640 ((m0 ac 1) * 16) m0).bind fun v2 => some (mset v2 ac 1 ((v2 ac 1) + 1))
theorem ok_Acts_keep_j37 {γ : GG} {sh : List Sh} {tt : Bool} {ac : Nat} {o0ha : Nat} {o0ro : Nat} {g : Mem} {m0 : Mem} (hActs : isActs sh ac) (ho0Hair : isHair sh o0ha o0ro) {res : Mem} (h : sp_Acts_keep_j37 ac o0ha o0ro g m0  = some res) : WA γ M_Acts_keep 1 37 [some (.ref ac), some (.ref o0ha)] [] sh m0 tt (0, 0) (pV sh res tt) := by
  unfold sp_Acts_keep_j37 at h
  refine w_aload_n (q := 38) d_Acts_keep_37 rfl rfl ?_
  refine w_aload_n (q := 39) d_Acts_keep_38 rfl rfl ?_
  refine w_get (q := 42) (ci := 0) (j := 0) d_Acts_keep_39 rfl (by decide) fl_Acts_11 (by decide) hActs.2.1 hActs.1 rfl rfl ?_
  refine w_aload_n (q := 43) d_Acts_keep_42 rfl rfl ?_
  refine w_get (q := 46) (ci := 0) (j := 1) d_Acts_keep_43 rfl (by decide) fl_Acts_17 (by decide) hActs.2.1 hActs.1 rfl rfl ?_
  refine w_bipush (q := 48) (v := 16) d_Acts_keep_46 rfl (by decide) ?_
  refine w_imul (q := 49) d_Acts_keep_48 rfl ?_
  obtain ⟨v2, hv, h⟩ := bnd h
  refine w_callVv (q := 52) (M' := M_Hair_writeTo) (n' := 0) (k := o0ha) (As := [.ref (ac + 1), .int ((m0 ac 1) * 16)]) (sh' := sh) (b1 := (0, 0)) d_Acts_keep_49 rfl mw_Hair_writeTo (by decide) (by decide) ml_Acts_27 ho0Hair.2.1 ho0Hair.1 (by decide) rfl rfl rfl (leb rfl) (bz _) (fun _ => rfl) (ok_Hair_writeTo ho0Hair hActs.2.2 hv) ?_
  refine w_aload_n (q := 53) d_Acts_keep_52 rfl rfl ?_
  refine w_dup (q := 54) d_Acts_keep_53 rfl rfl ?_
  refine w_get (q := 57) (ci := 0) (j := 1) d_Acts_keep_54 rfl (by decide) fl_Acts_17 (by decide) hActs.2.1 hActs.1 rfl rfl ?_
  refine w_iconst (q := 58) (v := 1) d_Acts_keep_57 rfl (by decide) ?_
  refine w_iadd (q := 59) d_Acts_keep_58 rfl ?_
  refine w_put (q := 62) (ci := 0) (j := 1) d_Acts_keep_59 rfl (by decide) fl_Acts_17 (by decide) hActs.2.1 hActs.1 rfl rfl rfl rfl rfl rfl ?_
  cases h
  exact w_return d_Acts_keep_62 rfl ⟨rfl, rfl, rfl, rfl⟩
def sp_Acts_keep (ac : Nat) (o0ha : Nat) (o0ro : Nat) (g : Mem) : Option (Mem) := if (g ac 1) < 40 then sp_Acts_keep_j37 ac o0ha o0ro g g else (cy g (ac + 1) 640 16 (ac + 1) 640 0 ((Int32.ofNat 640) - 16)).bind fun g3 => sp_Acts_keep_j37 ac o0ha o0ro g (mset g3 ac 1 39)
theorem ok_Acts_keep {γ : GG} {sh : List Sh} {tt : Bool} {ac : Nat} {o0ha : Nat} {o0ro : Nat} {g : Mem} (hActs : isActs sh ac) (ho0Hair : isHair sh o0ha o0ro) {res : Mem} (h : sp_Acts_keep ac o0ha o0ro g = some res) : CA γ M_Acts_keep 1 [.ref ac, .ref o0ha] sh g tt (0, 0) (pV sh res tt) := by
  refine CA.of mw_Acts_keep.1 0 rfl ?_
  show WA γ M_Acts_keep 1 0 [some (.ref ac), some (.ref o0ha)] [] sh g tt (0, 0) (pV sh res tt)
  unfold sp_Acts_keep at h
  refine w_aload_n (q := 1) d_Acts_keep_0 rfl rfl ?_
  refine w_get (q := 4) (ci := 0) (j := 1) d_Acts_keep_1 rfl (by decide) fl_Acts_17 (by decide) hActs.2.1 hActs.1 rfl rfl ?_
  refine w_bipush (q := 6) (v := 40) d_Acts_keep_4 rfl (by decide) ?_
  by_cases c1 : (g ac 1) < 40
  · rw [if_pos c1] at h
    refine w_icmp_lt_t (q := 37) d_Acts_keep_6 rfl c1 ?_
    refine w_ls (ls' := [some (.ref ac), some (.ref o0ha)]) (And.intro rfl (And.intro rfl trivial)) ?_
    exact ok_Acts_keep_j37 hActs ho0Hair h
  · rw [if_neg c1] at h
    refine w_icmp_lt_f (q := 9) d_Acts_keep_6 37 rfl rfl c1 ?_
    refine w_aload_n (q := 10) d_Acts_keep_9 rfl rfl ?_
    refine w_get (q := 13) (ci := 0) (j := 0) d_Acts_keep_10 rfl (by decide) fl_Acts_11 (by decide) hActs.2.1 hActs.1 rfl rfl ?_
    refine w_bipush (q := 15) (v := 16) d_Acts_keep_13 rfl (by decide) ?_
    refine w_aload_n (q := 16) d_Acts_keep_15 rfl rfl ?_
    refine w_get (q := 19) (ci := 0) (j := 0) d_Acts_keep_16 rfl (by decide) fl_Acts_11 (by decide) hActs.2.1 hActs.1 rfl rfl ?_
    refine w_iconst (q := 20) (v := 0) d_Acts_keep_19 rfl (by decide) ?_
    refine w_aload_n (q := 21) d_Acts_keep_20 rfl rfl ?_
    refine w_get (q := 24) (ci := 0) (j := 0) d_Acts_keep_21 rfl (by decide) fl_Acts_11 (by decide) hActs.2.1 hActs.1 rfl rfl ?_
    refine w_alen (q := 25) d_Acts_keep_24 rfl hActs.2.2.2 hActs.2.2.1 (Or.inl ⟨rfl, Or.inl rfl⟩) rfl ?_
    refine w_bipush (q := 27) (v := 16) d_Acts_keep_25 rfl (by decide) ?_
    refine w_isub (q := 28) d_Acts_keep_27 rfl ?_
    obtain ⟨g3, hv, h⟩ := bnd h
    obtain ⟨hi, hv⟩ := cy_ok hv
    refine w_copy (q := 31) d_Acts_keep_28 rfl ml_Acts_21 wd_native wd_static wi_java_lang_System hActs.2.2.2 hActs.2.2.2 hActs.2.2.1 hActs.2.2.1 hi (leb rfl) hv ?_
    refine w_aload_n (q := 32) d_Acts_keep_31 rfl rfl ?_
    refine w_bipush (q := 34) (v := 39) d_Acts_keep_32 rfl (by decide) ?_
    refine w_put (q := 37) (ci := 0) (j := 1) d_Acts_keep_34 rfl (by decide) fl_Acts_17 (by decide) hActs.2.1 hActs.1 rfl rfl rfl rfl rfl rfl ?_
    refine w_ls (ls' := [some (.ref ac), some (.ref o0ha)]) (And.intro rfl (And.intro rfl trivial)) ?_
    exact ok_Acts_keep_j37 hActs ho0Hair h
def sp_Acts_takeBack (ac : Nat) (o0ha : Nat) (o0ro : Nat) (g : Mem) : Option (Mem) := if (g ac 1) ≤ 0 then some g else (sp_Hair_readFrom o0ha o0ro (ac + 1) 640 (((mset g ac 1 ((g ac 1) - 1)) ac 1) * 16) (mset g ac 1 ((g ac 1) - 1))).bind fun v2 => some v2
theorem ok_Acts_takeBack {γ : GG} {sh : List Sh} {tt : Bool} {ac : Nat} {o0ha : Nat} {o0ro : Nat} {g : Mem} (hActs : isActs sh ac) (ho0Hair : isHair sh o0ha o0ro) {res : Mem} (h : sp_Acts_takeBack ac o0ha o0ro g = some res) : CA γ M_Acts_takeBack 1 [.ref ac, .ref o0ha] sh g tt (0, 0) (pV sh res tt) := by
  refine CA.of mw_Acts_takeBack.1 0 rfl ?_
  show WA γ M_Acts_takeBack 1 0 [some (.ref ac), some (.ref o0ha)] [] sh g tt (0, 0) (pV sh res tt)
  unfold sp_Acts_takeBack at h
  refine w_aload_n (q := 1) d_Acts_takeBack_0 rfl rfl ?_
  refine w_get (q := 4) (ci := 0) (j := 1) d_Acts_takeBack_1 rfl (by decide) fl_Acts_17 (by decide) hActs.2.1 hActs.1 rfl rfl ?_
  by_cases c1 : (g ac 1) ≤ 0
  · rw [if_pos c1] at h
    refine w_if_le_t (q := 32) d_Acts_takeBack_4 rfl c1 ?_
    cases h
    exact w_return d_Acts_takeBack_32 rfl ⟨rfl, rfl, rfl, rfl⟩
  · rw [if_neg c1] at h
    refine w_if_le_f (q := 7) d_Acts_takeBack_4 32 rfl rfl c1 ?_
    refine w_aload_n (q := 8) d_Acts_takeBack_7 rfl rfl ?_
    refine w_dup (q := 9) d_Acts_takeBack_8 rfl rfl ?_
    refine w_get (q := 12) (ci := 0) (j := 1) d_Acts_takeBack_9 rfl (by decide) fl_Acts_17 (by decide) hActs.2.1 hActs.1 rfl rfl ?_
    refine w_iconst (q := 13) (v := 1) d_Acts_takeBack_12 rfl (by decide) ?_
    refine w_isub (q := 14) d_Acts_takeBack_13 rfl ?_
    refine w_put (q := 17) (ci := 0) (j := 1) d_Acts_takeBack_14 rfl (by decide) fl_Acts_17 (by decide) hActs.2.1 hActs.1 rfl rfl rfl rfl rfl rfl ?_
    refine w_aload_n (q := 18) d_Acts_takeBack_17 rfl rfl ?_
    refine w_aload_n (q := 19) d_Acts_takeBack_18 rfl rfl ?_
    refine w_get (q := 22) (ci := 0) (j := 0) d_Acts_takeBack_19 rfl (by decide) fl_Acts_11 (by decide) hActs.2.1 hActs.1 rfl rfl ?_
    refine w_aload_n (q := 23) d_Acts_takeBack_22 rfl rfl ?_
    refine w_get (q := 26) (ci := 0) (j := 1) d_Acts_takeBack_23 rfl (by decide) fl_Acts_17 (by decide) hActs.2.1 hActs.1 rfl rfl ?_
    refine w_bipush (q := 28) (v := 16) d_Acts_takeBack_26 rfl (by decide) ?_
    refine w_imul (q := 29) d_Acts_takeBack_28 rfl ?_
    obtain ⟨v2, hv, h⟩ := bnd h
    refine w_callVv (q := 32) (M' := M_Hair_readFrom) (n' := 0) (k := o0ha) (As := [.ref (ac + 1), .int (((mset g ac 1 ((g ac 1) - 1)) ac 1) * 16)]) (sh' := sh) (b1 := (0, 0)) d_Acts_takeBack_29 rfl mw_Hair_readFrom (by decide) (by decide) ml_Acts_31 ho0Hair.2.1 ho0Hair.1 (by decide) rfl rfl rfl (leb rfl) (bz _) (fun _ => rfl) (ok_Hair_readFrom ho0Hair hActs.2.2 hv) ?_
    cases h
    exact w_return d_Acts_takeBack_32 rfl ⟨rfl, rfl, rfl, rfl⟩
def sp_Acts_take (ac : Nat) (o0ac : Nat) (g : Mem) : Option (Mem) := (cy (mset g ac 1 (g o0ac 1)) (o0ac + 1) 640 0 (ac + 1) 640 0 (((mset g ac 1 (g o0ac 1)) ac 1) * 16)).bind fun g1 => some g1
theorem ok_Acts_take {γ : GG} {sh : List Sh} {tt : Bool} {ac : Nat} {o0ac : Nat} {g : Mem} (hActs : isActs sh ac) (ho0Acts : isActs sh o0ac) {res : Mem} (h : sp_Acts_take ac o0ac g = some res) : CA γ M_Acts_take 0 [.ref ac, .ref o0ac] sh g tt (0, 0) (pV sh res tt) := by
  refine CA.of mw_Acts_take.1 0 rfl ?_
  show WA γ M_Acts_take 0 0 [some (.ref ac), some (.ref o0ac)] [] sh g tt (0, 0) (pV sh res tt)
  unfold sp_Acts_take at h
  refine w_aload_n (q := 1) d_Acts_take_0 rfl rfl ?_
  refine w_aload_n (q := 2) d_Acts_take_1 rfl rfl ?_
  refine w_get (q := 5) (ci := 0) (j := 1) d_Acts_take_2 rfl (by decide) fl_Acts_17 (by decide) ho0Acts.2.1 ho0Acts.1 rfl rfl ?_
  refine w_put (q := 8) (ci := 0) (j := 1) d_Acts_take_5 rfl (by decide) fl_Acts_17 (by decide) hActs.2.1 hActs.1 rfl rfl rfl rfl rfl rfl ?_
  refine w_aload_n (q := 9) d_Acts_take_8 rfl rfl ?_
  refine w_get (q := 12) (ci := 0) (j := 0) d_Acts_take_9 rfl (by decide) fl_Acts_11 (by decide) ho0Acts.2.1 ho0Acts.1 rfl rfl ?_
  refine w_iconst (q := 13) (v := 0) d_Acts_take_12 rfl (by decide) ?_
  refine w_aload_n (q := 14) d_Acts_take_13 rfl rfl ?_
  refine w_get (q := 17) (ci := 0) (j := 0) d_Acts_take_14 rfl (by decide) fl_Acts_11 (by decide) hActs.2.1 hActs.1 rfl rfl ?_
  refine w_iconst (q := 18) (v := 0) d_Acts_take_17 rfl (by decide) ?_
  refine w_aload_n (q := 19) d_Acts_take_18 rfl rfl ?_
  refine w_get (q := 22) (ci := 0) (j := 1) d_Acts_take_19 rfl (by decide) fl_Acts_17 (by decide) hActs.2.1 hActs.1 rfl rfl ?_
  refine w_bipush (q := 24) (v := 16) d_Acts_take_22 rfl (by decide) ?_
  refine w_imul (q := 25) d_Acts_take_24 rfl ?_
  obtain ⟨g1, hv, h⟩ := bnd h
  obtain ⟨hi, hv⟩ := cy_ok hv
  refine w_copy (q := 28) d_Acts_take_25 rfl ml_Acts_21 wd_native wd_static wi_java_lang_System ho0Acts.2.2.2 hActs.2.2.2 ho0Acts.2.2.1 hActs.2.2.1 hi (leb rfl) hv ?_
  cases h
  exact w_return d_Acts_take_28 rfl ⟨rfl, rfl, rfl, rfl⟩
def sp_Seen_take (se : Nat) (o0se : Nat) (g : Mem) : Option (Mem) := (cy (mset g se 2 (g o0se 2)) (o0se + 1) 8 0 (se + 1) 8 0 8).bind fun g1 => (cy g1 (o0se + 2) 8 0 (se + 2) 8 0 8).bind fun g2 => some g2
theorem ok_Seen_take {γ : GG} {sh : List Sh} {tt : Bool} {se : Nat} {o0se : Nat} {g : Mem} (hSeen : isSeen sh se) (ho0Seen : isSeen sh o0se) {res : Mem} (h : sp_Seen_take se o0se g = some res) : CA γ M_Seen_take 0 [.ref se, .ref o0se] sh g tt (0, 0) (pV sh res tt) := by
  refine CA.of mw_Seen_take.1 0 rfl ?_
  show WA γ M_Seen_take 0 0 [some (.ref se), some (.ref o0se)] [] sh g tt (0, 0) (pV sh res tt)
  unfold sp_Seen_take at h
  refine w_aload_n (q := 1) d_Seen_take_0 rfl rfl ?_
  refine w_aload_n (q := 2) d_Seen_take_1 rfl rfl ?_
  refine w_get (q := 5) (ci := 10) (j := 2) d_Seen_take_2 rfl (by decide) fl_Seen_18 (by decide) ho0Seen.2.1 ho0Seen.1 rfl rfl ?_
  refine w_put (q := 8) (ci := 10) (j := 2) d_Seen_take_5 rfl (by decide) fl_Seen_18 (by decide) hSeen.2.1 hSeen.1 rfl rfl rfl rfl rfl rfl ?_
  refine w_aload_n (q := 9) d_Seen_take_8 rfl rfl ?_
  refine w_get (q := 12) (ci := 10) (j := 0) d_Seen_take_9 rfl (by decide) fl_Seen_9 (by decide) ho0Seen.2.1 ho0Seen.1 rfl rfl ?_
  refine w_iconst (q := 13) (v := 0) d_Seen_take_12 rfl (by decide) ?_
  refine w_aload_n (q := 14) d_Seen_take_13 rfl rfl ?_
  refine w_get (q := 17) (ci := 10) (j := 0) d_Seen_take_14 rfl (by decide) fl_Seen_9 (by decide) hSeen.2.1 hSeen.1 rfl rfl ?_
  refine w_iconst (q := 18) (v := 0) d_Seen_take_17 rfl (by decide) ?_
  refine w_bipush (q := 20) (v := 8) d_Seen_take_18 rfl (by decide) ?_
  obtain ⟨g1, hv, h⟩ := bnd h
  obtain ⟨hi, hv⟩ := cy_ok hv
  refine w_copy (q := 23) d_Seen_take_20 rfl ml_Seen_22 wd_native wd_static wi_java_lang_System ho0Seen.2.2.1.2 hSeen.2.2.1.2 ho0Seen.2.2.1.1 hSeen.2.2.1.1 hi (leb rfl) hv ?_
  refine w_aload_n (q := 24) d_Seen_take_23 rfl rfl ?_
  refine w_get (q := 27) (ci := 10) (j := 1) d_Seen_take_24 rfl (by decide) fl_Seen_15 (by decide) ho0Seen.2.1 ho0Seen.1 rfl rfl ?_
  refine w_iconst (q := 28) (v := 0) d_Seen_take_27 rfl (by decide) ?_
  refine w_aload_n (q := 29) d_Seen_take_28 rfl rfl ?_
  refine w_get (q := 32) (ci := 10) (j := 1) d_Seen_take_29 rfl (by decide) fl_Seen_15 (by decide) hSeen.2.1 hSeen.1 rfl rfl ?_
  refine w_iconst (q := 33) (v := 0) d_Seen_take_32 rfl (by decide) ?_
  refine w_bipush (q := 35) (v := 8) d_Seen_take_33 rfl (by decide) ?_
  obtain ⟨g2, hv, h⟩ := bnd h
  obtain ⟨hi, hv⟩ := cy_ok hv
  refine w_copy (q := 38) d_Seen_take_35 rfl ml_Seen_22 wd_native wd_static wi_java_lang_System ho0Seen.2.2.2.2 hSeen.2.2.2.2 ho0Seen.2.2.2.1 hSeen.2.2.2.1 hi (leb rfl) hv ?_
  cases h
  exact w_return d_Seen_take_38 rfl ⟨rfl, rfl, rfl, rfl⟩
def sp_Seen_add (se : Nat) (p0 : Int32) (p1 : Int32) (g : Mem) : Option (Mem) := if 8 ≤ (g se 2) then some g else (wr g (se + 1) 8 (g se 2) p0).bind fun g2 => if p1 = 0 then (wr g2 (se + 2) 8 (g2 se 2) 0).bind fun g4 => some (mset g4 se 2 ((g4 se 2) + 1)) else (wr g2 (se + 2) 8 (g2 se 2) 1).bind fun g5 => some (mset g5 se 2 ((g5 se 2) + 1))
theorem ok_Seen_add {γ : GG} {sh : List Sh} {tt : Bool} {se : Nat} {p0 : Int32} {p1 : Int32} {g : Mem} (hSeen : isSeen sh se) {res : Mem} (h : sp_Seen_add se p0 p1 g = some res) : CA γ M_Seen_add 0 [.ref se, .int p0, .int p1] sh g tt (0, 0) (pV sh res tt) := by
  refine CA.of mw_Seen_add.1 0 rfl ?_
  show WA γ M_Seen_add 0 0 [some (.ref se), some (.int p0), some (.int p1)] [] sh g tt (0, 0) (pV sh res tt)
  unfold sp_Seen_add at h
  refine w_aload_n (q := 1) d_Seen_add_0 rfl rfl ?_
  refine w_get (q := 4) (ci := 10) (j := 2) d_Seen_add_1 rfl (by decide) fl_Seen_18 (by decide) hSeen.2.1 hSeen.1 rfl rfl ?_
  refine w_bipush (q := 6) (v := 8) d_Seen_add_4 rfl (by decide) ?_
  by_cases c1 : 8 ≤ (g se 2)
  · rw [if_pos c1] at h
    refine w_icmp_ge_t (q := 47) d_Seen_add_6 rfl c1 ?_
    cases h
    exact w_return d_Seen_add_47 rfl ⟨rfl, rfl, rfl, rfl⟩
  · rw [if_neg c1] at h
    refine w_icmp_ge_f (q := 9) d_Seen_add_6 47 rfl rfl c1 ?_
    refine w_aload_n (q := 10) d_Seen_add_9 rfl rfl ?_
    refine w_get (q := 13) (ci := 10) (j := 0) d_Seen_add_10 rfl (by decide) fl_Seen_9 (by decide) hSeen.2.1 hSeen.1 rfl rfl ?_
    refine w_aload_n (q := 14) d_Seen_add_13 rfl rfl ?_
    refine w_get (q := 17) (ci := 10) (j := 2) d_Seen_add_14 rfl (by decide) fl_Seen_18 (by decide) hSeen.2.1 hSeen.1 rfl rfl ?_
    refine w_iload_n (q := 18) d_Seen_add_17 rfl rfl ?_
    obtain ⟨g2, hv, h⟩ := bnd h
    obtain ⟨hi, hv⟩ := wr_ok hv
    refine w_iast (q := 19) d_Seen_add_18 rfl hSeen.2.2.1.2 hSeen.2.2.1.1 hi hv ?_
    refine w_aload_n (q := 20) d_Seen_add_19 rfl rfl ?_
    refine w_get (q := 23) (ci := 10) (j := 1) d_Seen_add_20 rfl (by decide) fl_Seen_15 (by decide) hSeen.2.1 hSeen.1 rfl rfl ?_
    refine w_aload_n (q := 24) d_Seen_add_23 rfl rfl ?_
    refine w_get (q := 27) (ci := 10) (j := 2) d_Seen_add_24 rfl (by decide) fl_Seen_18 (by decide) hSeen.2.1 hSeen.1 rfl rfl ?_
    refine w_iload_n (q := 28) d_Seen_add_27 rfl rfl ?_
    by_cases c3 : p1 = 0
    · rw [if_pos c3] at h
      refine w_if_eq_t (q := 35) d_Seen_add_28 rfl c3 ?_
      refine w_iconst (q := 36) (v := 0) d_Seen_add_35 rfl (by decide) ?_
      obtain ⟨g4, hv, h⟩ := bnd h
      obtain ⟨hi, hv⟩ := wr_ok hv
      refine w_iast (q := 37) d_Seen_add_36 rfl hSeen.2.2.2.2 hSeen.2.2.2.1 hi hv ?_
      refine w_aload_n (q := 38) d_Seen_add_37 rfl rfl ?_
      refine w_dup (q := 39) d_Seen_add_38 rfl rfl ?_
      refine w_get (q := 42) (ci := 10) (j := 2) d_Seen_add_39 rfl (by decide) fl_Seen_18 (by decide) hSeen.2.1 hSeen.1 rfl rfl ?_
      refine w_iconst (q := 43) (v := 1) d_Seen_add_42 rfl (by decide) ?_
      refine w_iadd (q := 44) d_Seen_add_43 rfl ?_
      refine w_put (q := 47) (ci := 10) (j := 2) d_Seen_add_44 rfl (by decide) fl_Seen_18 (by decide) hSeen.2.1 hSeen.1 rfl rfl rfl rfl rfl rfl ?_
      cases h
      exact w_return d_Seen_add_47 rfl ⟨rfl, rfl, rfl, rfl⟩
    · rw [if_neg c3] at h
      refine w_if_eq_f (q := 31) d_Seen_add_28 35 rfl rfl c3 ?_
      refine w_iconst (q := 32) (v := 1) d_Seen_add_31 rfl (by decide) ?_
      refine w_goto (q := 36) d_Seen_add_32 rfl ?_
      obtain ⟨g5, hv, h⟩ := bnd h
      obtain ⟨hi, hv⟩ := wr_ok hv
      refine w_iast (q := 37) d_Seen_add_36 rfl hSeen.2.2.2.2 hSeen.2.2.2.1 hi hv ?_
      refine w_aload_n (q := 38) d_Seen_add_37 rfl rfl ?_
      refine w_dup (q := 39) d_Seen_add_38 rfl rfl ?_
      refine w_get (q := 42) (ci := 10) (j := 2) d_Seen_add_39 rfl (by decide) fl_Seen_18 (by decide) hSeen.2.1 hSeen.1 rfl rfl ?_
      refine w_iconst (q := 43) (v := 1) d_Seen_add_42 rfl (by decide) ?_
      refine w_iadd (q := 44) d_Seen_add_43 rfl ?_
      refine w_put (q := 47) (ci := 10) (j := 2) d_Seen_add_44 rfl (by decide) fl_Seen_18 (by decide) hSeen.2.1 hSeen.1 rfl rfl rfl rfl rfl rfl ?_
      cases h
      exact w_return d_Seen_add_47 rfl ⟨rfl, rfl, rfl, rfl⟩
def PL_Seen_wouldBeSo_12 (γ : GG) (sh : List Sh) (tt : Bool) (se : Nat) (o0ha : Nat) (o0ro : Nat) (p1 : Int32) (g : Mem) (k3 : Int32) (b : Nat × Nat) (Φ : PO) (s : Int32) : Prop := WA γ M_Seen_wouldBeSo 1 12 [some (.ref se), none, none, some (.int k3), some (.int s)] [] sh g tt b Φ
def QL_Seen_wouldBeSo_12 (γ : GG) (sh : List Sh) (tt : Bool) (se : Nat) (o0ha : Nat) (o0ro : Nat) (p1 : Int32) (g : Mem) (k3 : Int32) (b : Nat × Nat) (Φ : PO) (x : (Unit) ⊕ (Unit)) : Prop := match x with
  | .inl x => WA γ M_Seen_wouldBeSo 1 42 [none, none, none, none, none] [] sh g tt b Φ
  | .inr x => WA γ M_Seen_wouldBeSo 1 50 [none, none, none, none, none] [] sh g tt b Φ
def st_Seen_wouldBeSo_12 (F : Nat) (se : Nat) (o0ha : Nat) (o0ro : Nat) (p1 : Int32) (g : Mem) (k3 : Int32) (s : Int32) : Option ((Int32) ⊕ ((Unit) ⊕ (Unit))) := if (g se 2) ≤ s then some (.inr (.inr ())) else (rd g (se + 1) 8 s).bind fun v3 => (rd g (se + 2) 8 s).bind fun v4 => if ((ush k3 v3) &&& 1) = v4 then some (.inl (s + 1)) else some (.inr (.inl ()))
theorem kl_Seen_wouldBeSo_12 {γ : GG} {sh : List Sh} {tt : Bool} {F : Nat} {se : Nat} {o0ha : Nat} {o0ro : Nat} {p1 : Int32} {g : Mem} {k3 : Int32} {b : Nat × Nat} {Φ : PO} (hSeen : isSeen sh se) (ho0Hair : isHair sh o0ha o0ro) : ∀ (s : Int32) (r : (Int32) ⊕ ((Unit) ⊕ (Unit))), st_Seen_wouldBeSo_12 F se o0ha o0ro p1 g k3 s = some r → RQ (PL_Seen_wouldBeSo_12 γ sh tt se o0ha o0ro p1 g k3 b Φ) (QL_Seen_wouldBeSo_12 γ sh tt se o0ha o0ro p1 g k3 b Φ) r → PL_Seen_wouldBeSo_12 γ sh tt se o0ha o0ro p1 g k3 b Φ s := by
  intro s r h hr
  unfold st_Seen_wouldBeSo_12 at h
  unfold PL_Seen_wouldBeSo_12
  refine w_iload (q := 14) d_Seen_wouldBeSo_12 rfl rfl ?_
  refine w_aload_n (q := 15) d_Seen_wouldBeSo_14 rfl rfl ?_
  refine w_get (q := 18) (ci := 10) (j := 2) d_Seen_wouldBeSo_15 rfl (by decide) fl_Seen_18 (by decide) hSeen.2.1 hSeen.1 rfl rfl ?_
  by_cases c2 : (g se 2) ≤ s
  · rw [if_pos c2] at h
    refine w_icmp_ge_t (q := 50) d_Seen_wouldBeSo_18 rfl c2 ?_
    cases h
    exact w_ls (by exact trivial) hr
  · rw [if_neg c2] at h
    refine w_icmp_ge_f (q := 21) d_Seen_wouldBeSo_18 50 rfl rfl c2 ?_
    refine w_iload_n (q := 22) d_Seen_wouldBeSo_21 rfl rfl ?_
    refine w_aload_n (q := 23) d_Seen_wouldBeSo_22 rfl rfl ?_
    refine w_get (q := 26) (ci := 10) (j := 0) d_Seen_wouldBeSo_23 rfl (by decide) fl_Seen_9 (by decide) hSeen.2.1 hSeen.1 rfl rfl ?_
    refine w_iload (q := 28) d_Seen_wouldBeSo_26 rfl rfl ?_
    obtain ⟨v3, hv, h⟩ := bnd h
    obtain ⟨hi, hv⟩ := rd_ok hv
    refine w_iald (q := 29) (t := 0) d_Seen_wouldBeSo_28 rfl hSeen.2.2.1.2 hSeen.2.2.1.1 hi rfl ?_
    rw [hv]
    refine w_iushr (q := 30) d_Seen_wouldBeSo_29 rfl ?_
    refine w_iconst (q := 31) (v := 1) d_Seen_wouldBeSo_30 rfl (by decide) ?_
    refine w_iand (q := 32) d_Seen_wouldBeSo_31 rfl ?_
    refine w_aload_n (q := 33) d_Seen_wouldBeSo_32 rfl rfl ?_
    refine w_get (q := 36) (ci := 10) (j := 1) d_Seen_wouldBeSo_33 rfl (by decide) fl_Seen_15 (by decide) hSeen.2.1 hSeen.1 rfl rfl ?_
    refine w_iload (q := 38) d_Seen_wouldBeSo_36 rfl rfl ?_
    obtain ⟨v4, hv, h⟩ := bnd h
    obtain ⟨hi, hv⟩ := rd_ok hv
    refine w_iald (q := 39) (t := 0) d_Seen_wouldBeSo_38 rfl hSeen.2.2.2.2 hSeen.2.2.2.1 hi rfl ?_
    rw [hv]
    by_cases c5 : ((ush k3 v3) &&& 1) = v4
    · rw [if_pos c5] at h
      refine w_icmp_eq_t (q := 44) d_Seen_wouldBeSo_39 rfl c5 ?_
      refine w_iinc (q := 47) (ls' := [some (.ref se), none, none, some (.int k3), some (.int (s + 1))]) d_Seen_wouldBeSo_44 rfl (by decide) rfl rfl rfl ?_
      refine w_goto (q := 12) d_Seen_wouldBeSo_47 rfl ?_
      cases h
      exact w_ls (by exact (And.intro rfl (And.intro rfl (And.intro rfl trivial)))) hr
    · rw [if_neg c5] at h
      refine w_icmp_eq_f (q := 42) d_Seen_wouldBeSo_39 44 rfl rfl c5 ?_
      cases h
      exact w_ls (by exact trivial) hr
def sp_Seen_wouldBeSo (F : Nat) (se : Nat) (o0ha : Nat) (o0ro : Nat) (p1 : Int32) (g : Mem) : Option (Int32) := (sp_Hair_allThere o0ha o0ro g).bind fun v1 => (lpO (st_Seen_wouldBeSo_12 F se o0ha o0ro p1 g (v1 &&& (p1 ^^^ (-1)))) F 0).bind fun x6 => match x6 with | .inl x7 => some 0 | .inr x8 => some 1
theorem ok_Seen_wouldBeSo {γ : GG} {sh : List Sh} {tt : Bool} {F : Nat} {se : Nat} {o0ha : Nat} {o0ro : Nat} {p1 : Int32} {g : Mem} (hSeen : isSeen sh se) (ho0Hair : isHair sh o0ha o0ro) {res : Int32} (h : sp_Seen_wouldBeSo F se o0ha o0ro p1 g = some res) : CA γ M_Seen_wouldBeSo 1 [.ref se, .ref o0ha, .int p1] sh g tt (0, 0) (pI sh res g tt) := by
  refine CA.of mw_Seen_wouldBeSo.1 2 rfl ?_
  show WA γ M_Seen_wouldBeSo 1 0 [some (.ref se), some (.ref o0ha), some (.int p1), none, none] [] sh g tt (0, 0) (pI sh res g tt)
  unfold sp_Seen_wouldBeSo at h
  refine w_aload_n (q := 1) d_Seen_wouldBeSo_0 rfl rfl ?_
  obtain ⟨v1, hv, h⟩ := bnd h
  refine w_callVi (q := 4) (M' := M_Hair_allThere) (n' := 0) (k := o0ha) (As := []) (sh' := sh) (b1 := (0, 0)) d_Seen_wouldBeSo_1 rfl mw_Hair_allThere (by decide) (by decide) ml_Seen_38 ho0Hair.2.1 ho0Hair.1 (by decide) rfl rfl rfl (leb rfl) (bz _) (fun _ => rfl) (ok_Hair_allThere ho0Hair hv) ?_
  refine w_iload_n (q := 5) d_Seen_wouldBeSo_4 rfl rfl ?_
  refine w_iconst (q := 6) (v := (-1)) d_Seen_wouldBeSo_5 rfl (by decide) ?_
  refine w_ixor (q := 7) d_Seen_wouldBeSo_6 rfl ?_
  refine w_iand (q := 8) d_Seen_wouldBeSo_7 rfl ?_
  refine w_istore_n (q := 9) (ls' := [some (.ref se), some (.ref o0ha), some (.int p1), some (.int (v1 &&& (p1 ^^^ (-1)))), none]) d_Seen_wouldBeSo_8 rfl (by decide) rfl rfl ?_
  refine w_iconst (q := 10) (v := 0) d_Seen_wouldBeSo_9 rfl (by decide) ?_
  refine w_istore (q := 12) (ls' := [some (.ref se), some (.ref o0ha), some (.int p1), some (.int (v1 &&& (p1 ^^^ (-1)))), some (.int 0)]) d_Seen_wouldBeSo_10 rfl (by decide) rfl rfl ?_
  obtain ⟨x6, hx, h⟩ := bnd h
  refine w_ls (ls' := [some (.ref se), none, none, some (.int (v1 &&& (p1 ^^^ (-1)))), some (.int 0)]) (And.intro rfl (And.intro rfl (And.intro rfl trivial))) ?_
  show PL_Seen_wouldBeSo_12 γ sh tt se o0ha o0ro p1 g (v1 &&& (p1 ^^^ (-1))) _ _ 0
  refine lp_ok (kl_Seen_wouldBeSo_12 hSeen ho0Hair) F _ x6 hx ?_
  unfold QL_Seen_wouldBeSo_12
  rcases x6 with x7 | x8
  · dsimp only at h ⊢
    refine w_iconst (q := 43) (v := 0) d_Seen_wouldBeSo_42 rfl (by decide) ?_
    cases h
    exact w_ireturn d_Seen_wouldBeSo_43 rfl rfl ⟨rfl, rfl, rfl, rfl⟩
  · dsimp only at h ⊢
    refine w_iconst (q := 51) (v := 1) d_Seen_wouldBeSo_50 rfl (by decide) ?_
    cases h
    exact w_ireturn d_Seen_wouldBeSo_51 rfl rfl ⟨rfl, rfl, rfl, rfl⟩
def PL_Seen_waysToEat_5 (γ : GG) (sh : List Sh) (tt : Bool) (se : Nat) (o0ha : Nat) (o0ro : Nat) (p1 : Int32) (g : Mem) (k2 : Int32) (b : Nat × Nat) (Φ : PO) (s : Int32 × Int32) : Prop := WA γ M_Seen_waysToEat 4 5 [some (.ref se), some (.ref o0ha), some (.int k2), some (.int s.1), some (.int s.2), none] [] sh g tt b Φ
def QL_Seen_waysToEat_5 (γ : GG) (sh : List Sh) (tt : Bool) (se : Nat) (o0ha : Nat) (o0ro : Nat) (p1 : Int32) (g : Mem) (k2 : Int32) (b : Nat × Nat) (Φ : PO) (x : (Int32)) : Prop := WA γ M_Seen_waysToEat 4 55 [none, none, none, some (.int x), none, none] [] sh g tt b Φ
def PL_Seen_waysToEat_16 (γ : GG) (sh : List Sh) (tt : Bool) (se : Nat) (o0ha : Nat) (o0ro : Nat) (p1 : Int32) (g : Mem) (k2 : Int32) (k4 : Int32) (b : Nat × Nat) (Φ : PO) (s : Int32 × Int32) : Prop := WA γ M_Seen_waysToEat 4 16 [some (.ref se), some (.ref o0ha), some (.int k2), some (.int s.1), some (.int k4), some (.int s.2)] [] sh g tt b Φ
def QL_Seen_waysToEat_16 (γ : GG) (sh : List Sh) (tt : Bool) (se : Nat) (o0ha : Nat) (o0ro : Nat) (p1 : Int32) (g : Mem) (k2 : Int32) (k4 : Int32) (b : Nat × Nat) (Φ : PO) (x : (Int32)) : Prop := WA γ M_Seen_waysToEat 4 49 [some (.ref se), some (.ref o0ha), some (.int k2), some (.int x), some (.int k4), none] [] sh g tt b Φ
def st_Seen_waysToEat_16 (F : Nat) (se : Nat) (o0ha : Nat) (o0ro : Nat) (p1 : Int32) (g : Mem) (k2 : Int32) (k4 : Int32) (s : Int32 × Int32) : Option ((Int32 × Int32) ⊕ ((Int32))) := if 20 < s.2 then some (.inr s.1) else (sp_Hair_eatable F o0ha o0ro k2 k4 s.2 g).bind fun v3 => (sp_Seen_wouldBeSo F se o0ha o0ro v3 g).bind fun v4 => if v4 = 0 then some (.inl (s.1, s.2 + 1)) else some (.inl (s.1 + 1, s.2 + 1))
theorem kl_Seen_waysToEat_16 {γ : GG} {sh : List Sh} {tt : Bool} {F : Nat} {se : Nat} {o0ha : Nat} {o0ro : Nat} {p1 : Int32} {g : Mem} {k2 : Int32} {k4 : Int32} {b : Nat × Nat} {Φ : PO} (hSeen : isSeen sh se) (ho0Hair : isHair sh o0ha o0ro) : ∀ (s : Int32 × Int32) (r : (Int32 × Int32) ⊕ ((Int32))), st_Seen_waysToEat_16 F se o0ha o0ro p1 g k2 k4 s = some r → RQ (PL_Seen_waysToEat_16 γ sh tt se o0ha o0ro p1 g k2 k4 b Φ) (QL_Seen_waysToEat_16 γ sh tt se o0ha o0ro p1 g k2 k4 b Φ) r → PL_Seen_waysToEat_16 γ sh tt se o0ha o0ro p1 g k2 k4 b Φ s := by
  intro s r h hr
  unfold st_Seen_waysToEat_16 at h
  unfold PL_Seen_waysToEat_16
  refine w_iload (q := 18) d_Seen_waysToEat_16 rfl rfl ?_
  refine w_bipush (q := 20) (v := 20) d_Seen_waysToEat_18 rfl (by decide) ?_
  by_cases c2 : 20 < s.2
  · rw [if_pos c2] at h
    refine w_icmp_gt_t (q := 49) d_Seen_waysToEat_20 rfl c2 ?_
    cases h
    exact w_ls (by exact (And.intro rfl (And.intro rfl (And.intro rfl (And.intro rfl (And.intro rfl trivial)))))) hr
  · rw [if_neg c2] at h
    refine w_icmp_gt_f (q := 23) d_Seen_waysToEat_20 49 rfl rfl c2 ?_
    refine w_aload_n (q := 24) d_Seen_waysToEat_23 rfl rfl ?_
    refine w_aload_n (q := 25) d_Seen_waysToEat_24 rfl rfl ?_
    refine w_aload_n (q := 26) d_Seen_waysToEat_25 rfl rfl ?_
    refine w_iload_n (q := 27) d_Seen_waysToEat_26 rfl rfl ?_
    refine w_iload (q := 29) d_Seen_waysToEat_27 rfl rfl ?_
    refine w_iload (q := 31) d_Seen_waysToEat_29 rfl rfl ?_
    obtain ⟨v3, hv, h⟩ := bnd h
    refine w_callVi (q := 34) (M' := M_Hair_eatable) (n' := 3) (k := o0ha) (As := [.int k2, .int k4, .int s.2]) (sh' := sh) (b1 := (0, 0)) d_Seen_waysToEat_31 rfl mw_Hair_eatable (by decide) (by decide) ml_Seen_28 ho0Hair.2.1 ho0Hair.1 (by decide) rfl rfl rfl (leb rfl) (bz _) (fun _ => rfl) (ok_Hair_eatable ho0Hair hv) ?_
    obtain ⟨v4, hv, h⟩ := bnd h
    refine w_callVi (q := 37) (M' := M_Seen_wouldBeSo) (n' := 1) (k := se) (As := [.ref o0ha, .int v3]) (sh' := sh) (b1 := (0, 0)) d_Seen_waysToEat_34 rfl mw_Seen_wouldBeSo (by decide) (by decide) ml_Seen_34 hSeen.2.1 hSeen.1 (by decide) rfl rfl rfl (leb rfl) (bz _) (fun _ => rfl) (ok_Seen_wouldBeSo hSeen ho0Hair hv) ?_
    by_cases c5 : v4 = 0
    · rw [if_pos c5] at h
      refine w_if_eq_t (q := 43) d_Seen_waysToEat_37 rfl c5 ?_
      refine w_iinc (q := 46) (ls' := [some (.ref se), some (.ref o0ha), some (.int k2), some (.int s.1), some (.int k4), some (.int (s.2 + 1))]) d_Seen_waysToEat_43 rfl (by decide) rfl rfl rfl ?_
      refine w_goto (q := 16) d_Seen_waysToEat_46 rfl ?_
      cases h
      exact w_ls (by exact (And.intro rfl (And.intro rfl (And.intro rfl (And.intro rfl (And.intro rfl (And.intro rfl trivial))))))) hr
    · rw [if_neg c5] at h
      refine w_if_eq_f (q := 40) d_Seen_waysToEat_37 43 rfl rfl c5 ?_
      refine w_iinc (q := 43) (ls' := [some (.ref se), some (.ref o0ha), some (.int k2), some (.int (s.1 + 1)), some (.int k4), some (.int s.2)]) d_Seen_waysToEat_40 rfl (by decide) rfl rfl rfl ?_
      refine w_iinc (q := 46) (ls' := [some (.ref se), some (.ref o0ha), some (.int k2), some (.int (s.1 + 1)), some (.int k4), some (.int (s.2 + 1))]) d_Seen_waysToEat_43 rfl (by decide) rfl rfl rfl ?_
      refine w_goto (q := 16) d_Seen_waysToEat_46 rfl ?_
      cases h
      exact w_ls (by exact (And.intro rfl (And.intro rfl (And.intro rfl (And.intro rfl (And.intro rfl (And.intro rfl trivial))))))) hr
def st_Seen_waysToEat_5 (F : Nat) (se : Nat) (o0ha : Nat) (o0ro : Nat) (p1 : Int32) (g : Mem) (k2 : Int32) (s : Int32 × Int32) : Option ((Int32 × Int32) ⊕ ((Int32))) := if 20 < s.2 then some (.inr s.1) else (lpO (st_Seen_waysToEat_16 F se o0ha o0ro p1 g k2 s.2) F (s.1, s.2)).bind fun x6 => some (.inl (x6, s.2 + 1))
theorem kl_Seen_waysToEat_5 {γ : GG} {sh : List Sh} {tt : Bool} {F : Nat} {se : Nat} {o0ha : Nat} {o0ro : Nat} {p1 : Int32} {g : Mem} {k2 : Int32} {b : Nat × Nat} {Φ : PO} (hSeen : isSeen sh se) (ho0Hair : isHair sh o0ha o0ro) : ∀ (s : Int32 × Int32) (r : (Int32 × Int32) ⊕ ((Int32))), st_Seen_waysToEat_5 F se o0ha o0ro p1 g k2 s = some r → RQ (PL_Seen_waysToEat_5 γ sh tt se o0ha o0ro p1 g k2 b Φ) (QL_Seen_waysToEat_5 γ sh tt se o0ha o0ro p1 g k2 b Φ) r → PL_Seen_waysToEat_5 γ sh tt se o0ha o0ro p1 g k2 b Φ s := by
  intro s r h hr
  unfold st_Seen_waysToEat_5 at h
  unfold PL_Seen_waysToEat_5
  refine w_iload (q := 7) d_Seen_waysToEat_5 rfl rfl ?_
  refine w_bipush (q := 9) (v := 20) d_Seen_waysToEat_7 rfl (by decide) ?_
  by_cases c1 : 20 < s.2
  · rw [if_pos c1] at h
    refine w_icmp_gt_t (q := 55) d_Seen_waysToEat_9 rfl c1 ?_
    cases h
    exact w_ls (by exact (And.intro rfl trivial)) hr
  · rw [if_neg c1] at h
    refine w_icmp_gt_f (q := 12) d_Seen_waysToEat_9 55 rfl rfl c1 ?_
    refine w_iload (q := 14) d_Seen_waysToEat_12 rfl rfl ?_
    refine w_istore (q := 16) (ls' := [some (.ref se), some (.ref o0ha), some (.int k2), some (.int s.1), some (.int s.2), some (.int s.2)]) d_Seen_waysToEat_14 rfl (by decide) rfl rfl ?_
    obtain ⟨x6, hx, h⟩ := bnd h
    refine w_ls (ls' := [some (.ref se), some (.ref o0ha), some (.int k2), some (.int s.1), some (.int s.2), some (.int s.2)]) (And.intro rfl (And.intro rfl (And.intro rfl (And.intro rfl (And.intro rfl (And.intro rfl trivial)))))) ?_
    show PL_Seen_waysToEat_16 γ sh tt se o0ha o0ro p1 g k2 s.2 _ _ (s.1, s.2)
    refine lp_ok (kl_Seen_waysToEat_16 hSeen ho0Hair) F _ x6 hx ?_
    unfold QL_Seen_waysToEat_16
    refine w_iinc (q := 52) (ls' := [some (.ref se), some (.ref o0ha), some (.int k2), some (.int x6), some (.int (s.2 + 1)), none]) d_Seen_waysToEat_49 rfl (by decide) rfl rfl rfl ?_
    refine w_goto (q := 5) d_Seen_waysToEat_52 rfl ?_
    cases h
    exact w_ls (by exact (And.intro rfl (And.intro rfl (And.intro rfl (And.intro rfl (And.intro rfl trivial)))))) hr
def sp_Seen_waysToEat (F : Nat) (se : Nat) (o0ha : Nat) (o0ro : Nat) (p1 : Int32) (g : Mem) : Option (Int32) := (lpO (st_Seen_waysToEat_5 F se o0ha o0ro p1 g p1) F (0, 0)).bind fun x7 => some x7
theorem ok_Seen_waysToEat {γ : GG} {sh : List Sh} {tt : Bool} {F : Nat} {se : Nat} {o0ha : Nat} {o0ro : Nat} {p1 : Int32} {g : Mem} (hSeen : isSeen sh se) (ho0Hair : isHair sh o0ha o0ro) {res : Int32} (h : sp_Seen_waysToEat F se o0ha o0ro p1 g = some res) : CA γ M_Seen_waysToEat 4 [.ref se, .ref o0ha, .int p1] sh g tt (0, 0) (pI sh res g tt) := by
  refine CA.of mw_Seen_waysToEat.1 3 rfl ?_
  show WA γ M_Seen_waysToEat 4 0 [some (.ref se), some (.ref o0ha), some (.int p1), none, none, none] [] sh g tt (0, 0) (pI sh res g tt)
  unfold sp_Seen_waysToEat at h
  refine w_iconst (q := 1) (v := 0) d_Seen_waysToEat_0 rfl (by decide) ?_
  refine w_istore_n (q := 2) (ls' := [some (.ref se), some (.ref o0ha), some (.int p1), some (.int 0), none, none]) d_Seen_waysToEat_1 rfl (by decide) rfl rfl ?_
  refine w_iconst (q := 3) (v := 0) d_Seen_waysToEat_2 rfl (by decide) ?_
  refine w_istore (q := 5) (ls' := [some (.ref se), some (.ref o0ha), some (.int p1), some (.int 0), some (.int 0), none]) d_Seen_waysToEat_3 rfl (by decide) rfl rfl ?_
  obtain ⟨x7, hx, h⟩ := bnd h
  refine w_ls (ls' := [some (.ref se), some (.ref o0ha), some (.int p1), some (.int 0), some (.int 0), none]) (And.intro rfl (And.intro rfl (And.intro rfl (And.intro rfl (And.intro rfl trivial))))) ?_
  show PL_Seen_waysToEat_5 γ sh tt se o0ha o0ro p1 g p1 _ _ (0, 0)
  refine lp_ok (kl_Seen_waysToEat_5 hSeen ho0Hair) F _ x7 hx ?_
  unfold QL_Seen_waysToEat_5
  refine w_iload_n (q := 56) d_Seen_waysToEat_55 rfl rfl ?_
  cases h
  exact w_ireturn d_Seen_waysToEat_56 rfl rfl ⟨rfl, rfl, rfl, rfl⟩
def PL_Seen_firstToEat_2 (γ : GG) (sh : List Sh) (tt : Bool) (se : Nat) (o0ha : Nat) (o0ro : Nat) (p1 : Int32) (g : Mem) (k2 : Int32) (b : Nat × Nat) (Φ : PO) (s : Int32) : Prop := WA γ M_Seen_firstToEat 4 2 [some (.ref se), some (.ref o0ha), some (.int k2), some (.int s), none] [] sh g tt b Φ
def QL_Seen_firstToEat_2 (γ : GG) (sh : List Sh) (tt : Bool) (se : Nat) (o0ha : Nat) (o0ro : Nat) (p1 : Int32) (g : Mem) (k2 : Int32) (b : Nat × Nat) (Φ : PO) (x : (Int32 × Int32) ⊕ (Unit)) : Prop := match x with
  | .inl x => WA γ M_Seen_firstToEat 4 34 [none, none, none, some (.int x.1), some (.int x.2)] [] sh g tt b Φ
  | .inr x => WA γ M_Seen_firstToEat 4 54 [none, none, none, none, none] [] sh g tt b Φ
def PL_Seen_firstToEat_11 (γ : GG) (sh : List Sh) (tt : Bool) (se : Nat) (o0ha : Nat) (o0ro : Nat) (p1 : Int32) (g : Mem) (k2 : Int32) (k3 : Int32) (b : Nat × Nat) (Φ : PO) (s : Int32) : Prop := WA γ M_Seen_firstToEat 4 11 [some (.ref se), some (.ref o0ha), some (.int k2), some (.int k3), some (.int s)] [] sh g tt b Φ
def QL_Seen_firstToEat_11 (γ : GG) (sh : List Sh) (tt : Bool) (se : Nat) (o0ha : Nat) (o0ro : Nat) (p1 : Int32) (g : Mem) (k2 : Int32) (k3 : Int32) (b : Nat × Nat) (Φ : PO) (x : (Int32) ⊕ (Unit)) : Prop := match x with
  | .inl x => WA γ M_Seen_firstToEat 4 34 [none, none, none, some (.int k3), some (.int x)] [] sh g tt b Φ
  | .inr x => WA γ M_Seen_firstToEat 4 48 [some (.ref se), some (.ref o0ha), some (.int k2), some (.int k3), none] [] sh g tt b Φ
def st_Seen_firstToEat_11 (F : Nat) (se : Nat) (o0ha : Nat) (o0ro : Nat) (p1 : Int32) (g : Mem) (k2 : Int32) (k3 : Int32) (s : Int32) : Option ((Int32) ⊕ ((Int32) ⊕ (Unit))) := if 20 < s then some (.inr (.inr ())) else (sp_Hair_eatable F o0ha o0ro k2 k3 s g).bind fun v3 => (sp_Seen_wouldBeSo F se o0ha o0ro v3 g).bind fun v4 => if v4 = 0 then some (.inl (s + 1)) else some (.inr (.inl s))
theorem kl_Seen_firstToEat_11 {γ : GG} {sh : List Sh} {tt : Bool} {F : Nat} {se : Nat} {o0ha : Nat} {o0ro : Nat} {p1 : Int32} {g : Mem} {k2 : Int32} {k3 : Int32} {b : Nat × Nat} {Φ : PO} (hSeen : isSeen sh se) (ho0Hair : isHair sh o0ha o0ro) : ∀ (s : Int32) (r : (Int32) ⊕ ((Int32) ⊕ (Unit))), st_Seen_firstToEat_11 F se o0ha o0ro p1 g k2 k3 s = some r → RQ (PL_Seen_firstToEat_11 γ sh tt se o0ha o0ro p1 g k2 k3 b Φ) (QL_Seen_firstToEat_11 γ sh tt se o0ha o0ro p1 g k2 k3 b Φ) r → PL_Seen_firstToEat_11 γ sh tt se o0ha o0ro p1 g k2 k3 b Φ s := by
  intro s r h hr
  unfold st_Seen_firstToEat_11 at h
  unfold PL_Seen_firstToEat_11
  refine w_iload (q := 13) d_Seen_firstToEat_11 rfl rfl ?_
  refine w_bipush (q := 15) (v := 20) d_Seen_firstToEat_13 rfl (by decide) ?_
  by_cases c2 : 20 < s
  · rw [if_pos c2] at h
    refine w_icmp_gt_t (q := 48) d_Seen_firstToEat_15 rfl c2 ?_
    cases h
    exact w_ls (by exact (And.intro rfl (And.intro rfl (And.intro rfl (And.intro rfl trivial))))) hr
  · rw [if_neg c2] at h
    refine w_icmp_gt_f (q := 18) d_Seen_firstToEat_15 48 rfl rfl c2 ?_
    refine w_aload_n (q := 19) d_Seen_firstToEat_18 rfl rfl ?_
    refine w_aload_n (q := 20) d_Seen_firstToEat_19 rfl rfl ?_
    refine w_aload_n (q := 21) d_Seen_firstToEat_20 rfl rfl ?_
    refine w_iload_n (q := 22) d_Seen_firstToEat_21 rfl rfl ?_
    refine w_iload_n (q := 23) d_Seen_firstToEat_22 rfl rfl ?_
    refine w_iload (q := 25) d_Seen_firstToEat_23 rfl rfl ?_
    obtain ⟨v3, hv, h⟩ := bnd h
    refine w_callVi (q := 28) (M' := M_Hair_eatable) (n' := 3) (k := o0ha) (As := [.int k2, .int k3, .int s]) (sh' := sh) (b1 := (0, 0)) d_Seen_firstToEat_25 rfl mw_Hair_eatable (by decide) (by decide) ml_Seen_28 ho0Hair.2.1 ho0Hair.1 (by decide) rfl rfl rfl (leb rfl) (bz _) (fun _ => rfl) (ok_Hair_eatable ho0Hair hv) ?_
    obtain ⟨v4, hv, h⟩ := bnd h
    refine w_callVi (q := 31) (M' := M_Seen_wouldBeSo) (n' := 1) (k := se) (As := [.ref o0ha, .int v3]) (sh' := sh) (b1 := (0, 0)) d_Seen_firstToEat_28 rfl mw_Seen_wouldBeSo (by decide) (by decide) ml_Seen_34 hSeen.2.1 hSeen.1 (by decide) rfl rfl rfl (leb rfl) (bz _) (fun _ => rfl) (ok_Seen_wouldBeSo hSeen ho0Hair hv) ?_
    by_cases c5 : v4 = 0
    · rw [if_pos c5] at h
      refine w_if_eq_t (q := 42) d_Seen_firstToEat_31 rfl c5 ?_
      refine w_iinc (q := 45) (ls' := [some (.ref se), some (.ref o0ha), some (.int k2), some (.int k3), some (.int (s + 1))]) d_Seen_firstToEat_42 rfl (by decide) rfl rfl rfl ?_
      refine w_goto (q := 11) d_Seen_firstToEat_45 rfl ?_
      cases h
      exact w_ls (by exact (And.intro rfl (And.intro rfl (And.intro rfl (And.intro rfl (And.intro rfl trivial)))))) hr
    · rw [if_neg c5] at h
      refine w_if_eq_f (q := 34) d_Seen_firstToEat_31 42 rfl rfl c5 ?_
      cases h
      exact w_ls (by exact (And.intro rfl (And.intro rfl trivial))) hr
def st_Seen_firstToEat_2 (F : Nat) (se : Nat) (o0ha : Nat) (o0ro : Nat) (p1 : Int32) (g : Mem) (k2 : Int32) (s : Int32) : Option ((Int32) ⊕ ((Int32 × Int32) ⊕ (Unit))) := if 20 < s then some (.inr (.inr ())) else (lpO (st_Seen_firstToEat_11 F se o0ha o0ro p1 g k2 s) F s).bind fun x6 => match x6 with | .inl x7 => some (.inr (.inl (s, x7))) | .inr x8 => some (.inl (s + 1))
theorem kl_Seen_firstToEat_2 {γ : GG} {sh : List Sh} {tt : Bool} {F : Nat} {se : Nat} {o0ha : Nat} {o0ro : Nat} {p1 : Int32} {g : Mem} {k2 : Int32} {b : Nat × Nat} {Φ : PO} (hSeen : isSeen sh se) (ho0Hair : isHair sh o0ha o0ro) : ∀ (s : Int32) (r : (Int32) ⊕ ((Int32 × Int32) ⊕ (Unit))), st_Seen_firstToEat_2 F se o0ha o0ro p1 g k2 s = some r → RQ (PL_Seen_firstToEat_2 γ sh tt se o0ha o0ro p1 g k2 b Φ) (QL_Seen_firstToEat_2 γ sh tt se o0ha o0ro p1 g k2 b Φ) r → PL_Seen_firstToEat_2 γ sh tt se o0ha o0ro p1 g k2 b Φ s := by
  intro s r h hr
  unfold st_Seen_firstToEat_2 at h
  unfold PL_Seen_firstToEat_2
  refine w_iload_n (q := 3) d_Seen_firstToEat_2 rfl rfl ?_
  refine w_bipush (q := 5) (v := 20) d_Seen_firstToEat_3 rfl (by decide) ?_
  by_cases c1 : 20 < s
  · rw [if_pos c1] at h
    refine w_icmp_gt_t (q := 54) d_Seen_firstToEat_5 rfl c1 ?_
    cases h
    exact w_ls (by exact trivial) hr
  · rw [if_neg c1] at h
    refine w_icmp_gt_f (q := 8) d_Seen_firstToEat_5 54 rfl rfl c1 ?_
    refine w_iload_n (q := 9) d_Seen_firstToEat_8 rfl rfl ?_
    refine w_istore (q := 11) (ls' := [some (.ref se), some (.ref o0ha), some (.int k2), some (.int s), some (.int s)]) d_Seen_firstToEat_9 rfl (by decide) rfl rfl ?_
    obtain ⟨x6, hx, h⟩ := bnd h
    refine w_ls (ls' := [some (.ref se), some (.ref o0ha), some (.int k2), some (.int s), some (.int s)]) (And.intro rfl (And.intro rfl (And.intro rfl (And.intro rfl (And.intro rfl trivial))))) ?_
    show PL_Seen_firstToEat_11 γ sh tt se o0ha o0ro p1 g k2 s _ _ s
    refine lp_ok (kl_Seen_firstToEat_11 hSeen ho0Hair) F _ x6 hx ?_
    unfold QL_Seen_firstToEat_11
    rcases x6 with x7 | x8
    · dsimp only at h ⊢
      cases h
      exact w_ls (by exact (And.intro rfl (And.intro rfl trivial))) hr
    · dsimp only at h ⊢
      refine w_iinc (q := 51) (ls' := [some (.ref se), some (.ref o0ha), some (.int k2), some (.int (s + 1)), none]) d_Seen_firstToEat_48 rfl (by decide) rfl rfl rfl ?_
      refine w_goto (q := 2) d_Seen_firstToEat_51 rfl ?_
      cases h
      exact w_ls (by exact (And.intro rfl (And.intro rfl (And.intro rfl (And.intro rfl trivial))))) hr
def sp_Seen_firstToEat (F : Nat) (se : Nat) (o0ha : Nat) (o0ro : Nat) (p1 : Int32) (g : Mem) : Option (Int32) := (lpO (st_Seen_firstToEat_2 F se o0ha o0ro p1 g p1) F 0).bind fun x9 => match x9 with | .inl x10 => some ((100 * x10.1) + x10.2) | .inr x11 => some (-1)
theorem ok_Seen_firstToEat {γ : GG} {sh : List Sh} {tt : Bool} {F : Nat} {se : Nat} {o0ha : Nat} {o0ro : Nat} {p1 : Int32} {g : Mem} (hSeen : isSeen sh se) (ho0Hair : isHair sh o0ha o0ro) {res : Int32} (h : sp_Seen_firstToEat F se o0ha o0ro p1 g = some res) : CA γ M_Seen_firstToEat 4 [.ref se, .ref o0ha, .int p1] sh g tt (0, 0) (pI sh res g tt) := by
  refine CA.of mw_Seen_firstToEat.1 2 rfl ?_
  show WA γ M_Seen_firstToEat 4 0 [some (.ref se), some (.ref o0ha), some (.int p1), none, none] [] sh g tt (0, 0) (pI sh res g tt)
  unfold sp_Seen_firstToEat at h
  refine w_iconst (q := 1) (v := 0) d_Seen_firstToEat_0 rfl (by decide) ?_
  refine w_istore_n (q := 2) (ls' := [some (.ref se), some (.ref o0ha), some (.int p1), some (.int 0), none]) d_Seen_firstToEat_1 rfl (by decide) rfl rfl ?_
  obtain ⟨x9, hx, h⟩ := bnd h
  refine w_ls (ls' := [some (.ref se), some (.ref o0ha), some (.int p1), some (.int 0), none]) (And.intro rfl (And.intro rfl (And.intro rfl (And.intro rfl trivial)))) ?_
  show PL_Seen_firstToEat_2 γ sh tt se o0ha o0ro p1 g p1 _ _ 0
  refine lp_ok (kl_Seen_firstToEat_2 hSeen ho0Hair) F _ x9 hx ?_
  unfold QL_Seen_firstToEat_2
  rcases x9 with x10 | x11
  · dsimp only at h ⊢
    refine w_bipush (q := 36) (v := 100) d_Seen_firstToEat_34 rfl (by decide) ?_
    refine w_iload_n (q := 37) d_Seen_firstToEat_36 rfl rfl ?_
    refine w_imul (q := 38) d_Seen_firstToEat_37 rfl ?_
    refine w_iload (q := 40) d_Seen_firstToEat_38 rfl rfl ?_
    refine w_iadd (q := 41) d_Seen_firstToEat_40 rfl ?_
    cases h
    exact w_ireturn d_Seen_firstToEat_41 rfl rfl ⟨rfl, rfl, rfl, rfl⟩
  · dsimp only at h ⊢
    refine w_iconst (q := 55) (v := (-1)) d_Seen_firstToEat_54 rfl (by decide) ?_
    cases h
    exact w_ireturn d_Seen_firstToEat_55 rfl rfl ⟨rfl, rfl, rfl, rfl⟩
