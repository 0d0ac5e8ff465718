/-! functions and theorems of 21.roll (by program: wip/gen/main.py) -/
def sp_Rule_clear (ru : Nat) (g : Mem) : Option (Mem) := some (mset g ru 3 0)
theorem ok_Rule_clear {γ : GG} {sh : List Sh} {tt : Bool} {ru : Nat} {g : Mem} (hRule : isRule sh ru) {res : Mem} (h : sp_Rule_clear ru g = some res) : CA γ M_Rule_clear 0 [.ref ru] sh g tt (0, 0) (pV sh res tt) := by
  refine CA.of mw_Rule_clear.1 0 rfl ?_
  show WA γ M_Rule_clear 0 0 [some (.ref ru)] [] sh g tt (0, 0) (pV sh res tt)
  unfold sp_Rule_clear at h
  refine w_aload_n (q := 1) d_Rule_clear_0 rfl rfl ?_
  refine w_iconst (q := 2) (v := 0) d_Rule_clear_1 rfl (by decide) ?_
  refine w_put (q := 5) (ci := 8) (j := 3) d_Rule_clear_2 rfl (by decide) fl_Rule_21 (by decide) hRule.2.1 hRule.1 rfl rfl rfl rfl rfl rfl ?_
  cases h
  exact w_return d_Rule_clear_5 rfl ⟨rfl, rfl, rfl, rfl⟩
def sp_Roll_clear (ro : Nat) (g : Mem) : Option (Mem) := (sp_Rule_clear (ro + 4) (mset (mset (mset (mset g ro 0 0) ro 1 40) ro 2 60) ro 3 3)).bind fun v1 => some v1
theorem ok_Roll_clear {γ : GG} {sh : List Sh} {tt : Bool} {ro : Nat} {g : Mem} (hRoll : isRoll sh ro) {res : Mem} (h : sp_Roll_clear ro g = some res) : CA γ M_Roll_clear 1 [.ref ro] sh g tt (0, 0) (pV sh res tt) := by
  refine CA.of mw_Roll_clear.1 0 rfl ?_
  show WA γ M_Roll_clear 1 0 [some (.ref ro)] [] sh g tt (0, 0) (pV sh res tt)
  unfold sp_Roll_clear at h
  refine w_aload_n (q := 1) d_Roll_clear_0 rfl rfl ?_
  refine w_iconst (q := 2) (v := 0) d_Roll_clear_1 rfl (by decide) ?_
  refine w_put (q := 5) (ci := 7) (j := 0) d_Roll_clear_2 rfl (by decide) fl_Roll_28 (by decide) hRoll.2.1 hRoll.1 rfl rfl rfl rfl rfl rfl ?_
  refine w_aload_n (q := 6) d_Roll_clear_5 rfl rfl ?_
  refine w_bipush (q := 8) (v := 40) d_Roll_clear_6 rfl (by decide) ?_
  refine w_put (q := 11) (ci := 7) (j := 1) d_Roll_clear_8 rfl (by decide) fl_Roll_32 (by decide) hRoll.2.1 hRoll.1 rfl rfl rfl rfl rfl rfl ?_
  refine w_aload_n (q := 12) d_Roll_clear_11 rfl rfl ?_
  refine w_bipush (q := 14) (v := 60) d_Roll_clear_12 rfl (by decide) ?_
  refine w_put (q := 17) (ci := 7) (j := 2) d_Roll_clear_14 rfl (by decide) fl_Roll_35 (by decide) hRoll.2.1 hRoll.1 rfl rfl rfl rfl rfl rfl ?_
  refine w_aload_n (q := 18) d_Roll_clear_17 rfl rfl ?_
  refine w_iconst (q := 19) (v := 3) d_Roll_clear_18 rfl (by decide) ?_
  refine w_put (q := 22) (ci := 7) (j := 3) d_Roll_clear_19 rfl (by decide) fl_Roll_38 (by decide) hRoll.2.1 hRoll.1 rfl rfl rfl rfl rfl rfl ?_
  refine w_aload_n (q := 23) d_Roll_clear_22 rfl rfl ?_
  refine w_get (q := 26) (ci := 7) (j := 7) d_Roll_clear_23 rfl (by decide) fl_Roll_24 (by decide) hRoll.2.1 hRoll.1 rfl rfl ?_
  obtain ⟨v1, hv, h⟩ := bnd h
  refine w_callVv (q := 29) (M' := M_Rule_clear) (n' := 0) (k := (ro + 4)) (As := []) (sh' := sh) (b1 := (0, 0)) d_Roll_clear_26 rfl mw_Rule_clear (by decide) (by decide) ml_Roll_41 hRoll.2.2.2.2.2.2.1 hRoll.2.2.2.2.2.1 (by decide) rfl rfl rfl (leb rfl) (bz _) (fun _ => rfl) (ok_Rule_clear hRoll.2.2.2.2.2 hv) ?_
  cases h
  exact w_return d_Roll_clear_29 rfl ⟨rfl, rfl, rfl, rfl⟩
def sp_Rule_take (ru : Nat) (o0ru : Nat) (g : Mem) : Option (Mem) := (cy (mset g ru 3 (g o0ru 3)) (o0ru + 1) 700 0 (ru + 1) 700 0 ((mset g ru 3 (g o0ru 3)) ru 3)).bind fun g1 => some g1
theorem ok_Rule_take {γ : GG} {sh : List Sh} {tt : Bool} {ru : Nat} {o0ru : Nat} {g : Mem} (hRule : isRule sh ru) (ho0Rule : isRule sh o0ru) {res : Mem} (h : sp_Rule_take ru o0ru g = some res) : CA γ M_Rule_take 0 [.ref ru, .ref o0ru] sh g tt (0, 0) (pV sh res tt) := by
  refine CA.of mw_Rule_take.1 0 rfl ?_
  show WA γ M_Rule_take 0 0 [some (.ref ru), some (.ref o0ru)] [] sh g tt (0, 0) (pV sh res tt)
  unfold sp_Rule_take at h
  refine w_aload_n (q := 1) d_Rule_take_0 rfl rfl ?_
  refine w_aload_n (q := 2) d_Rule_take_1 rfl rfl ?_
  refine w_get (q := 5) (ci := 8) (j := 3) d_Rule_take_2 rfl (by decide) fl_Rule_21 (by decide) ho0Rule.2.1 ho0Rule.1 rfl rfl ?_
  refine w_put (q := 8) (ci := 8) (j := 3) d_Rule_take_5 rfl (by decide) fl_Rule_21 (by decide) hRule.2.1 hRule.1 rfl rfl rfl rfl rfl rfl ?_
  refine w_aload_n (q := 9) d_Rule_take_8 rfl rfl ?_
  refine w_get (q := 12) (ci := 8) (j := 0) d_Rule_take_9 rfl (by decide) fl_Rule_9 (by decide) ho0Rule.2.1 ho0Rule.1 rfl rfl ?_
  refine w_iconst (q := 13) (v := 0) d_Rule_take_12 rfl (by decide) ?_
  refine w_aload_n (q := 14) d_Rule_take_13 rfl rfl ?_
  refine w_get (q := 17) (ci := 8) (j := 0) d_Rule_take_14 rfl (by decide) fl_Rule_9 (by decide) hRule.2.1 hRule.1 rfl rfl ?_
  refine w_iconst (q := 18) (v := 0) d_Rule_take_17 rfl (by decide) ?_
  refine w_aload_n (q := 19) d_Rule_take_18 rfl rfl ?_
  refine w_get (q := 22) (ci := 8) (j := 3) d_Rule_take_19 rfl (by decide) fl_Rule_21 (by decide) hRule.2.1 hRule.1 rfl rfl ?_
  obtain ⟨g1, hv, h⟩ := bnd h
  obtain ⟨hi, hv⟩ := cy_ok hv
  refine w_copy (q := 25) d_Rule_take_22 rfl ml_Rule_25 wd_native wd_static wi_java_lang_System ho0Rule.2.2.1.2 hRule.2.2.1.2 ho0Rule.2.2.1.1 hRule.2.2.1.1 hi (leb rfl) hv ?_
  cases h
  exact w_return d_Rule_take_25 rfl ⟨rfl, rfl, rfl, rfl⟩
def sp_Roll_take (ro : Nat) (o0ro : Nat) (g : Mem) : Option (Mem) := (cy (mset (mset (mset (mset g ro 0 (g o0ro 0)) ro 1 ((mset g ro 0 (g o0ro 0)) o0ro 1)) ro 2 ((mset (mset g ro 0 (g o0ro 0)) ro 1 ((mset g ro 0 (g o0ro 0)) o0ro 1)) o0ro 2)) ro 3 ((mset (mset (mset g ro 0 (g o0ro 0)) ro 1 ((mset g ro 0 (g o0ro 0)) o0ro 1)) ro 2 ((mset (mset g ro 0 (g o0ro 0)) ro 1 ((mset g ro 0 (g o0ro 0)) o0ro 1)) o0ro 2)) o0ro 3)) (o0ro + 1) 6 0 (ro + 1) 6 0 6).bind fun g1 => (cy g1 (o0ro + 2) 6 0 (ro + 2) 6 0 6).bind fun g2 => (cy g2 (o0ro + 3) 192 0 (ro + 3) 192 0 (Int32.ofNat 192)).bind fun g3 => (sp_Rule_take (ro + 4) (o0ro + 4) g3).bind fun v4 => some v4
theorem ok_Roll_take {γ : GG} {sh : List Sh} {tt : Bool} {ro : Nat} {o0ro : Nat} {g : Mem} (hRoll : isRoll sh ro) (ho0Roll : isRoll sh o0ro) {res : Mem} (h : sp_Roll_take ro o0ro g = some res) : CA γ M_Roll_take 1 [.ref ro, .ref o0ro] sh g tt (0, 0) (pV sh res tt) := by
  refine CA.of mw_Roll_take.1 0 rfl ?_
  show WA γ M_Roll_take 1 0 [some (.ref ro), some (.ref o0ro)] [] sh g tt (0, 0) (pV sh res tt)
  unfold sp_Roll_take at h
  refine w_aload_n (q := 1) d_Roll_take_0 rfl rfl ?_
  refine w_aload_n (q := 2) d_Roll_take_1 rfl rfl ?_
  refine w_get (q := 5) (ci := 7) (j := 0) d_Roll_take_2 rfl (by decide) fl_Roll_28 (by decide) ho0Roll.2.1 ho0Roll.1 rfl rfl ?_
  refine w_put (q := 8) (ci := 7) (j := 0) d_Roll_take_5 rfl (by decide) fl_Roll_28 (by decide) hRoll.2.1 hRoll.1 rfl rfl rfl rfl rfl rfl ?_
  refine w_aload_n (q := 9) d_Roll_take_8 rfl rfl ?_
  refine w_aload_n (q := 10) d_Roll_take_9 rfl rfl ?_
  refine w_get (q := 13) (ci := 7) (j := 1) d_Roll_take_10 rfl (by decide) fl_Roll_32 (by decide) ho0Roll.2.1 ho0Roll.1 rfl rfl ?_
  refine w_put (q := 16) (ci := 7) (j := 1) d_Roll_take_13 rfl (by decide) fl_Roll_32 (by decide) hRoll.2.1 hRoll.1 rfl rfl rfl rfl rfl rfl ?_
  refine w_aload_n (q := 17) d_Roll_take_16 rfl rfl ?_
  refine w_aload_n (q := 18) d_Roll_take_17 rfl rfl ?_
  refine w_get (q := 21) (ci := 7) (j := 2) d_Roll_take_18 rfl (by decide) fl_Roll_35 (by decide) ho0Roll.2.1 ho0Roll.1 rfl rfl ?_
  refine w_put (q := 24) (ci := 7) (j := 2) d_Roll_take_21 rfl (by decide) fl_Roll_35 (by decide) hRoll.2.1 hRoll.1 rfl rfl rfl rfl rfl rfl ?_
  refine w_aload_n (q := 25) d_Roll_take_24 rfl rfl ?_
  refine w_aload_n (q := 26) d_Roll_take_25 rfl rfl ?_
  refine w_get (q := 29) (ci := 7) (j := 3) d_Roll_take_26 rfl (by decide) fl_Roll_38 (by decide) ho0Roll.2.1 ho0Roll.1 rfl rfl ?_
  refine w_put (q := 32) (ci := 7) (j := 3) d_Roll_take_29 rfl (by decide) fl_Roll_38 (by decide) hRoll.2.1 hRoll.1 rfl rfl rfl rfl rfl rfl ?_
  refine w_aload_n (q := 33) d_Roll_take_32 rfl rfl ?_
  refine w_get (q := 36) (ci := 7) (j := 4) d_Roll_take_33 rfl (by decide) fl_Roll_9 (by decide) ho0Roll.2.1 ho0Roll.1 rfl rfl ?_
  refine w_iconst (q := 37) (v := 0) d_Roll_take_36 rfl (by decide) ?_
  refine w_aload_n (q := 38) d_Roll_take_37 rfl rfl ?_
  refine w_get (q := 41) (ci := 7) (j := 4) d_Roll_take_38 rfl (by decide) fl_Roll_9 (by decide) hRoll.2.1 hRoll.1 rfl rfl ?_
  refine w_iconst (q := 42) (v := 0) d_Roll_take_41 rfl (by decide) ?_
  refine w_bipush (q := 44) (v := 6) d_Roll_take_42 rfl (by decide) ?_
  obtain ⟨g1, hv, h⟩ := bnd h
  obtain ⟨hi, hv⟩ := cy_ok hv
  refine w_copy (q := 47) d_Roll_take_44 rfl ml_Roll_44 wd_native wd_static wi_java_lang_System ho0Roll.2.2.1.2 hRoll.2.2.1.2 ho0Roll.2.2.1.1 hRoll.2.2.1.1 hi (leb rfl) hv ?_
  refine w_aload_n (q := 48) d_Roll_take_47 rfl rfl ?_
  refine w_get (q := 51) (ci := 7) (j := 5) d_Roll_take_48 rfl (by decide) fl_Roll_15 (by decide) ho0Roll.2.1 ho0Roll.1 rfl rfl ?_
  refine w_iconst (q := 52) (v := 0) d_Roll_take_51 rfl (by decide) ?_
  refine w_aload_n (q := 53) d_Roll_take_52 rfl rfl ?_
  refine w_get (q := 56) (ci := 7) (j := 5) d_Roll_take_53 rfl (by decide) fl_Roll_15 (by decide) hRoll.2.1 hRoll.1 rfl rfl ?_
  refine w_iconst (q := 57) (v := 0) d_Roll_take_56 rfl (by decide) ?_
  refine w_bipush (q := 59) (v := 6) d_Roll_take_57 rfl (by decide) ?_
  obtain ⟨g2, hv, h⟩ := bnd h
  obtain ⟨hi, hv⟩ := cy_ok hv
  refine w_copy (q := 62) d_Roll_take_59 rfl ml_Roll_44 wd_native wd_static wi_java_lang_System ho0Roll.2.2.2.1.2 hRoll.2.2.2.1.2 ho0Roll.2.2.2.1.1 hRoll.2.2.2.1.1 hi (leb rfl) hv ?_
  refine w_aload_n (q := 63) d_Roll_take_62 rfl rfl ?_
  refine w_get (q := 66) (ci := 7) (j := 6) d_Roll_take_63 rfl (by decide) fl_Roll_18 (by decide) ho0Roll.2.1 ho0Roll.1 rfl rfl ?_
  refine w_iconst (q := 67) (v := 0) d_Roll_take_66 rfl (by decide) ?_
  refine w_aload_n (q := 68) d_Roll_take_67 rfl rfl ?_
  refine w_get (q := 71) (ci := 7) (j := 6) d_Roll_take_68 rfl (by decide) fl_Roll_18 (by decide) hRoll.2.1 hRoll.1 rfl rfl ?_
  refine w_iconst (q := 72) (v := 0) d_Roll_take_71 rfl (by decide) ?_
  refine w_aload_n (q := 73) d_Roll_take_72 rfl rfl ?_
  refine w_get (q := 76) (ci := 7) (j := 6) d_Roll_take_73 rfl (by decide) fl_Roll_18 (by decide) hRoll.2.1 hRoll.1 rfl rfl ?_
  refine w_alen (q := 77) d_Roll_take_76 rfl hRoll.2.2.2.2.1.2 hRoll.2.2.2.2.1.1 (Or.inl ⟨rfl, Or.inl rfl⟩) rfl ?_
  obtain ⟨g3, hv, h⟩ := bnd h
  obtain ⟨hi, hv⟩ := cy_ok hv
  refine w_copy (q := 80) d_Roll_take_77 rfl ml_Roll_44 wd_native wd_static wi_java_lang_System ho0Roll.2.2.2.2.1.2 hRoll.2.2.2.2.1.2 ho0Roll.2.2.2.2.1.1 hRoll.2.2.2.2.1.1 hi (leb rfl) hv ?_
  refine w_aload_n (q := 81) d_Roll_take_80 rfl rfl ?_
  refine w_get (q := 84) (ci := 7) (j := 7) d_Roll_take_81 rfl (by decide) fl_Roll_24 (by decide) hRoll.2.1 hRoll.1 rfl rfl ?_
  refine w_aload_n (q := 85) d_Roll_take_84 rfl rfl ?_
  refine w_get (q := 88) (ci := 7) (j := 7) d_Roll_take_85 rfl (by decide) fl_Roll_24 (by decide) ho0Roll.2.1 ho0Roll.1 rfl rfl ?_
  obtain ⟨v4, hv, h⟩ := bnd h
  refine w_callVv (q := 91) (M' := M_Rule_take) (n' := 0) (k := (ro + 4)) (As := [.ref (o0ro + 4)]) (sh' := sh) (b1 := (0, 0)) d_Roll_take_88 rfl mw_Rule_take (by decide) (by decide) ml_Roll_50 hRoll.2.2.2.2.2.2.1 hRoll.2.2.2.2.2.1 (by decide) rfl rfl rfl (leb rfl) (bz _) (fun _ => rfl) (ok_Rule_take hRoll.2.2.2.2.2 ho0Roll.2.2.2.2.2 hv) ?_
  cases h
  exact w_return d_Roll_take_91 rfl ⟨rfl, rfl, rfl, rfl⟩
def sp_Roll_cell (ro : Nat) (p0 : Int32) (p1 : Int32) (g : Mem) : Option (Int32) := (rd g (ro + 3) 192 ((p0 * 8) + p1)).bind fun v1 => some v1
theorem ok_Roll_cell {γ : GG} {sh : List Sh} {tt : Bool} {ro : Nat} {p0 : Int32} {p1 : Int32} {g : Mem} (hRoll : isRoll sh ro) {res : Int32} (h : sp_Roll_cell ro p0 p1 g = some res) : CA γ M_Roll_cell 0 [.ref ro, .int p0, .int p1] sh g tt (0, 0) (pI sh res g tt) := by
  refine CA.of mw_Roll_cell.1 0 rfl ?_
  show WA γ M_Roll_cell 0 0 [some (.ref ro), some (.int p0), some (.int p1)] [] sh g tt (0, 0) (pI sh res g tt)
  unfold sp_Roll_cell at h
  refine w_aload_n (q := 1) d_Roll_cell_0 rfl rfl ?_
  refine w_get (q := 4) (ci := 7) (j := 6) d_Roll_cell_1 rfl (by decide) fl_Roll_18 (by decide) hRoll.2.1 hRoll.1 rfl rfl ?_
  refine w_iload_n (q := 5) d_Roll_cell_4 rfl rfl ?_
  refine w_bipush (q := 7) (v := 8) d_Roll_cell_5 rfl (by decide) ?_
  refine w_imul (q := 8) d_Roll_cell_7 rfl ?_
  refine w_iload_n (q := 9) d_Roll_cell_8 rfl rfl ?_
  refine w_iadd (q := 10) d_Roll_cell_9 rfl ?_
  obtain ⟨v1, hv, h⟩ := bnd h
  obtain ⟨hi, hv⟩ := rd_ok hv
  refine w_iald (q := 11) (t := 0) d_Roll_cell_10 rfl hRoll.2.2.2.2.1.2 hRoll.2.2.2.2.1.1 hi rfl ?_
  rw [hv]
  cases h
  exact w_ireturn d_Roll_cell_11 rfl rfl ⟨rfl, rfl, rfl, rfl⟩
def sp_Roll_put (ro : Nat) (p0 : Int32) (p1 : Int32) (p2 : Int32) (g : Mem) : Option (Mem) := (wr g (ro + 3) 192 ((p0 * 8) + p1) p2).bind fun g1 => some g1
theorem ok_Roll_put {γ : GG} {sh : List Sh} {tt : Bool} {ro : Nat} {p0 : Int32} {p1 : Int32} {p2 : Int32} {g : Mem} (hRoll : isRoll sh ro) {res : Mem} (h : sp_Roll_put ro p0 p1 p2 g = some res) : CA γ M_Roll_put 0 [.ref ro, .int p0, .int p1, .int p2] sh g tt (0, 0) (pV sh res tt) := by
  refine CA.of mw_Roll_put.1 0 rfl ?_
  show WA γ M_Roll_put 0 0 [some (.ref ro), some (.int p0), some (.int p1), some (.int p2)] [] sh g tt (0, 0) (pV sh res tt)
  unfold sp_Roll_put at h
  refine w_aload_n (q := 1) d_Roll_put_0 rfl rfl ?_
  refine w_get (q := 4) (ci := 7) (j := 6) d_Roll_put_1 rfl (by decide) fl_Roll_18 (by decide) hRoll.2.1 hRoll.1 rfl rfl ?_
  refine w_iload_n (q := 5) d_Roll_put_4 rfl rfl ?_
  refine w_bipush (q := 7) (v := 8) d_Roll_put_5 rfl (by decide) ?_
  refine w_imul (q := 8) d_Roll_put_7 rfl ?_
  refine w_iload_n (q := 9) d_Roll_put_8 rfl rfl ?_
  refine w_iadd (q := 10) d_Roll_put_9 rfl ?_
  refine w_iload_n (q := 11) d_Roll_put_10 rfl rfl ?_
  obtain ⟨g1, hv, h⟩ := bnd h
  obtain ⟨hi, hv⟩ := wr_ok hv
  refine w_iast (q := 12) d_Roll_put_11 rfl hRoll.2.2.2.2.1.2 hRoll.2.2.2.2.1.1 hi hv ?_
  cases h
  exact w_return d_Roll_put_12 rfl ⟨rfl, rfl, rfl, rfl⟩
def sp_Roll_longest (ro : Nat) (p0 : Int32) (g : Mem) : Option (Int32) := (rd g (ro + 1) 6 p0).bind fun v1 => if v1 = 1 then (sp_JMath_min 5 (g ro 1) g).bind fun v3 => some v3 else if v1 = 2 then some 0 else some (g ro 1)
theorem ok_Roll_longest {γ : GG} {sh : List Sh} {tt : Bool} {ro : Nat} {p0 : Int32} {g : Mem} (hRoll : isRoll sh ro) {res : Int32} (h : sp_Roll_longest ro p0 g = some res) : CA γ M_Roll_longest 1 [.ref ro, .int p0] sh g tt (0, 0) (pI sh res g tt) := by
  refine CA.of mw_Roll_longest.1 0 rfl ?_
  show WA γ M_Roll_longest 1 0 [some (.ref ro), some (.int p0)] [] sh g tt (0, 0) (pI sh res g tt)
  unfold sp_Roll_longest at h
  refine w_aload_n (q := 1) d_Roll_longest_0 rfl rfl ?_
  refine w_get (q := 4) (ci := 7) (j := 4) d_Roll_longest_1 rfl (by decide) fl_Roll_9 (by decide) hRoll.2.1 hRoll.1 rfl rfl ?_
  refine w_iload_n (q := 5) d_Roll_longest_4 rfl rfl ?_
  obtain ⟨v1, hv, h⟩ := bnd h
  obtain ⟨hi, hv⟩ := rd_ok hv
  refine w_iald (q := 6) (t := 0) d_Roll_longest_5 rfl hRoll.2.2.1.2 hRoll.2.2.1.1 hi rfl ?_
  rw [hv]
  by_cases c2 : v1 = 1
  · rw [if_pos c2] at h
    refine w_lookup (q := 32) (off := 26) d_Roll_longest_6 (by decide) (by rw [c2]; decide +kernel) rfl ?_
    refine w_iconst (q := 33) (v := 5) d_Roll_longest_32 rfl (by decide) ?_
    refine w_aload_n (q := 34) d_Roll_longest_33 rfl rfl ?_
    refine w_get (q := 37) (ci := 7) (j := 1) d_Roll_longest_34 rfl (by decide) fl_Roll_32 (by decide) hRoll.2.1 hRoll.1 rfl rfl ?_
    obtain ⟨v3, hv, h⟩ := bnd h
    refine w_callSi (q := 40) (M' := M_JMath_min) (n' := 0) (As := [.int 5, .int (g ro 1)]) (sh' := sh) (b1 := (0, 0)) d_Roll_longest_37 rfl mw_JMath_min (by decide) (by decide) ml_Roll_54 rfl rfl (leb rfl) (bz _) (fun _ => rfl) (ok_JMath_min hv) ?_
    cases h
    exact w_ireturn d_Roll_longest_40 rfl rfl ⟨rfl, rfl, rfl, rfl⟩
  rw [if_neg c2] at h
  by_cases c4 : v1 = 2
  · rw [if_pos c4] at h
    refine w_lookup (q := 41) (off := 35) d_Roll_longest_6 (by decide) (by rw [c4]; decide +kernel) rfl ?_
    refine w_iconst (q := 42) (v := 0) d_Roll_longest_41 rfl (by decide) ?_
    cases h
    exact w_ireturn d_Roll_longest_42 rfl rfl ⟨rfl, rfl, rfl, rfl⟩
  rw [if_neg c4] at h
  refine w_lookup (q := 43) (off := 37) d_Roll_longest_6 (by decide) (by show Op.lookupswitch.offset [(1, 26), (2, 35)] 37 _ = _; rw [lv_osw (k := 1) c2 (by decide)]; rw [lv_osw (k := 2) c4 (by decide)]; rfl) rfl ?_
  refine w_aload_n (q := 44) d_Roll_longest_43 rfl rfl ?_
  refine w_get (q := 47) (ci := 7) (j := 1) d_Roll_longest_44 rfl (by decide) fl_Roll_32 (by decide) hRoll.2.1 hRoll.1 rfl rfl ?_
  cases h
  exact w_ireturn d_Roll_longest_47 rfl rfl ⟨rfl, rfl, rfl, rfl⟩
def sp_Rule_isNone (ru : Nat) (g : Mem) : Option (Int32) := if (g ru 3) = 0 then some 1 else some 0
theorem ok_Rule_isNone {γ : GG} {sh : List Sh} {tt : Bool} {ru : Nat} {g : Mem} (hRule : isRule sh ru) {res : Int32} (h : sp_Rule_isNone ru g = some res) : CA γ M_Rule_isNone 0 [.ref ru] sh g tt (0, 0) (pI sh res g tt) := by
  refine CA.of mw_Rule_isNone.1 0 rfl ?_
  show WA γ M_Rule_isNone 0 0 [some (.ref ru)] [] sh g tt (0, 0) (pI sh res g tt)
  unfold sp_Rule_isNone at h
  refine w_aload_n (q := 1) d_Rule_isNone_0 rfl rfl ?_
  refine w_get (q := 4) (ci := 8) (j := 3) d_Rule_isNone_1 rfl (by decide) fl_Rule_21 (by decide) hRule.2.1 hRule.1 rfl rfl ?_
  by_cases c1 : (g ru 3) = 0
  · rw [if_pos c1] at h
    refine w_if_ne_f (q := 7) d_Rule_isNone_4 11 rfl rfl c1 ?_
    refine w_iconst (q := 8) (v := 1) d_Rule_isNone_7 rfl (by decide) ?_
    refine w_goto (q := 12) d_Rule_isNone_8 rfl ?_
    cases h
    exact w_ireturn d_Rule_isNone_12 rfl rfl ⟨rfl, rfl, rfl, rfl⟩
  · rw [if_neg c1] at h
    refine w_if_ne_t (q := 11) d_Rule_isNone_4 rfl c1 ?_
    refine w_iconst (q := 12) (v := 0) d_Rule_isNone_11 rfl (by decide) ?_
    cases h
    exact w_ireturn d_Rule_isNone_12 rfl rfl ⟨rfl, rfl, rfl, rfl⟩
def sp_Rule_add (ru : Nat) (p0 : Int32) (g : Mem) : Option (Mem) := if 700 ≤ (g ru 3) then some g else (wr g (ru + 1) 700 (g ru 3) p0).bind fun g2 => some (mset g2 ru 3 ((g2 ru 3) + 1))
theorem ok_Rule_add {γ : GG} {sh : List Sh} {tt : Bool} {ru : Nat} {p0 : Int32} {g : Mem} (hRule : isRule sh ru) {res : Mem} (h : sp_Rule_add ru p0 g = some res) : CA γ M_Rule_add 0 [.ref ru, .int p0] sh g tt (0, 0) (pV sh res tt) := by
  refine CA.of mw_Rule_add.1 0 rfl ?_
  show WA γ M_Rule_add 0 0 [some (.ref ru), some (.int p0)] [] sh g tt (0, 0) (pV sh res tt)
  unfold sp_Rule_add at h
  refine w_aload_n (q := 1) d_Rule_add_0 rfl rfl ?_
  refine w_get (q := 4) (ci := 8) (j := 3) d_Rule_add_1 rfl (by decide) fl_Rule_21 (by decide) hRule.2.1 hRule.1 rfl rfl ?_
  refine w_sipush (q := 7) (v := 700) d_Rule_add_4 rfl (by decide) ?_
  by_cases c1 : 700 ≤ (g ru 3)
  · rw [if_pos c1] at h
    refine w_icmp_ge_t (q := 30) d_Rule_add_7 rfl c1 ?_
    cases h
    exact w_return d_Rule_add_30 rfl ⟨rfl, rfl, rfl, rfl⟩
  · rw [if_neg c1] at h
    refine w_icmp_ge_f (q := 10) d_Rule_add_7 30 rfl rfl c1 ?_
    refine w_aload_n (q := 11) d_Rule_add_10 rfl rfl ?_
    refine w_get (q := 14) (ci := 8) (j := 0) d_Rule_add_11 rfl (by decide) fl_Rule_9 (by decide) hRule.2.1 hRule.1 rfl rfl ?_
    refine w_aload_n (q := 15) d_Rule_add_14 rfl rfl ?_
    refine w_get (q := 18) (ci := 8) (j := 3) d_Rule_add_15 rfl (by decide) fl_Rule_21 (by decide) hRule.2.1 hRule.1 rfl rfl ?_
    refine w_iload_n (q := 19) d_Rule_add_18 rfl rfl ?_
    obtain ⟨g2, hv, h⟩ := bnd h
    obtain ⟨hi, hv⟩ := wr_ok hv
    refine w_iast (q := 20) d_Rule_add_19 rfl hRule.2.2.1.2 hRule.2.2.1.1 hi hv ?_
    refine w_aload_n (q := 21) d_Rule_add_20 rfl rfl ?_
    refine w_dup (q := 22) d_Rule_add_21 rfl rfl ?_
    refine w_get (q := 25) (ci := 8) (j := 3) d_Rule_add_22 rfl (by decide) fl_Rule_21 (by decide) hRule.2.1 hRule.1 rfl rfl ?_
    refine w_iconst (q := 26) (v := 1) d_Rule_add_25 rfl (by decide) ?_
    refine w_iadd (q := 27) d_Rule_add_26 rfl ?_
    refine w_put (q := 30) (ci := 8) (j := 3) d_Rule_add_27 rfl (by decide) fl_Rule_21 (by decide) hRule.2.1 hRule.1 rfl rfl rfl rfl rfl rfl ?_
    cases h
    exact w_return d_Rule_add_30 rfl ⟨rfl, rfl, rfl, rfl⟩
def sp_Rule_truth (p0 : Int32) (g : Mem) : Option (Int32) := if p0 = 0 then some 0 else some 1
theorem ok_Rule_truth {γ : GG} {sh : List Sh} {tt : Bool} {p0 : Int32} {g : Mem} {res : Int32} (h : sp_Rule_truth p0 g = some res) : CA γ M_Rule_truth 0 [.int p0] sh g tt (0, 0) (pI sh res g tt) := by
  refine CA.of mw_Rule_truth.1 0 rfl ?_
  show WA γ M_Rule_truth 0 0 [some (.int p0)] [] sh g tt (0, 0) (pI sh res g tt)
  unfold sp_Rule_truth at h
  refine w_iload_n (q := 1) d_Rule_truth_0 rfl rfl ?_
  by_cases c1 : p0 = 0
  · rw [if_pos c1] at h
    refine w_if_eq_t (q := 8) d_Rule_truth_1 rfl c1 ?_
    refine w_iconst (q := 9) (v := 0) d_Rule_truth_8 rfl (by decide) ?_
    cases h
    exact w_ireturn d_Rule_truth_9 rfl rfl ⟨rfl, rfl, rfl, rfl⟩
  · rw [if_neg c1] at h
    refine w_if_eq_f (q := 4) d_Rule_truth_1 8 rfl rfl c1 ?_
    refine w_iconst (q := 5) (v := 1) d_Rule_truth_4 rfl (by decide) ?_
    refine w_goto (q := 9) d_Rule_truth_5 rfl ?_
    cases h
    exact w_ireturn d_Rule_truth_9 rfl rfl ⟨rfl, rfl, rfl, rfl⟩
def sp_Rule_joined (p0 : Int32) (p1 : Int32) (p2 : Int32) (g : Mem) : Option (Int32) := if p0 = (-19) then if p2 = 0 then some 0 else (dv p1 p2).bind fun v3 => some v3 else if p0 = (-18) then some (p1 * p2) else if p0 = (-17) then some (p1 - p2) else if p0 = (-16) then some (p1 + p2) else if p0 = (-15) then if p1 = p2 then (sp_Rule_truth 1 g).bind fun v9 => some v9 else (sp_Rule_truth 0 g).bind fun v10 => some v10 else if p0 = (-14) then if p2 ≤ p1 then (sp_Rule_truth 0 g).bind fun v13 => some v13 else (sp_Rule_truth 1 g).bind fun v14 => some v14 else if p0 = (-13) then some 0 else if p0 = (-12) then if p1 = 0 then (sp_Rule_truth 0 g).bind fun v18 => some v18 else if p2 = 0 then (sp_Rule_truth 0 g).bind fun v20 => some v20 else (sp_Rule_truth 1 g).bind fun v21 => some v21 else if p0 = (-11) then if p1 = 0 then if p2 = 0 then (sp_Rule_truth 0 g).bind fun v25 => some v25 else (sp_Rule_truth 1 g).bind fun v26 => some v26 else (sp_Rule_truth 1 g).bind fun v27 => some v27 else some 0
theorem ok_Rule_joined {γ : GG} {sh : List Sh} {tt : Bool} {p0 : Int32} {p1 : Int32} {p2 : Int32} {g : Mem} {res : Int32} (h : sp_Rule_joined p0 p1 p2 g = some res) : CA γ M_Rule_joined 1 [.int p0, .int p1, .int p2] sh g tt (0, 0) (pI sh res g tt) := by
  refine CA.of mw_Rule_joined.1 0 rfl ?_
  show WA γ M_Rule_joined 1 0 [some (.int p0), some (.int p1), some (.int p2)] [] sh g tt (0, 0) (pI sh res g tt)
  unfold sp_Rule_joined at h
  refine w_iload_n (q := 1) d_Rule_joined_0 rfl rfl ?_
  by_cases c1 : p0 = (-19)
  · rw [if_pos c1] at h
    refine w_tabIn (q := 126) (off := 125) d_Rule_joined_1 (by rw [c1]; decide) (by rw [c1]; decide) (by rw [c1]; decide +kernel) rfl ?_
    refine w_iload_n (q := 127) d_Rule_joined_126 rfl rfl ?_
    by_cases c2 : p2 = 0
    · rw [if_pos c2] at h
      refine w_if_ne_f (q := 130) d_Rule_joined_127 134 rfl rfl c2 ?_
      refine w_iconst (q := 131) (v := 0) d_Rule_joined_130 rfl (by decide) ?_
      refine w_goto (q := 137) d_Rule_joined_131 rfl ?_
      cases h
      exact w_ireturn d_Rule_joined_137 rfl rfl ⟨rfl, rfl, rfl, rfl⟩
    · rw [if_neg c2] at h
      refine w_if_ne_t (q := 134) d_Rule_joined_127 rfl c2 ?_
      refine w_iload_n (q := 135) d_Rule_joined_134 rfl rfl ?_
      refine w_iload_n (q := 136) d_Rule_joined_135 rfl rfl ?_
      obtain ⟨v3, hv, h⟩ := bnd h
      obtain ⟨hz, hv⟩ := dv_ok hv
      refine w_idiv (q := 137) d_Rule_joined_136 rfl hz ?_
      rw [hv]
      cases h
      exact w_ireturn d_Rule_joined_137 rfl rfl ⟨rfl, rfl, rfl, rfl⟩
  rw [if_neg c1] at h
  by_cases c4 : p0 = (-18)
  · rw [if_pos c4] at h
    refine w_tabIn (q := 122) (off := 121) d_Rule_joined_1 (by rw [c4]; decide) (by rw [c4]; decide) (by rw [c4]; decide +kernel) rfl ?_
    refine w_iload_n (q := 123) d_Rule_joined_122 rfl rfl ?_
    refine w_iload_n (q := 124) d_Rule_joined_123 rfl rfl ?_
    refine w_imul (q := 125) d_Rule_joined_124 rfl ?_
    cases h
    exact w_ireturn d_Rule_joined_125 rfl rfl ⟨rfl, rfl, rfl, rfl⟩
  rw [if_neg c4] at h
  by_cases c5 : p0 = (-17)
  · rw [if_pos c5] at h
    refine w_tabIn (q := 118) (off := 117) d_Rule_joined_1 (by rw [c5]; decide) (by rw [c5]; decide) (by rw [c5]; decide +kernel) rfl ?_
    refine w_iload_n (q := 119) d_Rule_joined_118 rfl rfl ?_
    refine w_iload_n (q := 120) d_Rule_joined_119 rfl rfl ?_
    refine w_isub (q := 121) d_Rule_joined_120 rfl ?_
    cases h
    exact w_ireturn d_Rule_joined_121 rfl rfl ⟨rfl, rfl, rfl, rfl⟩
  rw [if_neg c5] at h
  by_cases c6 : p0 = (-16)
  · rw [if_pos c6] at h
    refine w_tabIn (q := 114) (off := 113) d_Rule_joined_1 (by rw [c6]; decide) (by rw [c6]; decide) (by rw [c6]; decide +kernel) rfl ?_
    refine w_iload_n (q := 115) d_Rule_joined_114 rfl rfl ?_
    refine w_iload_n (q := 116) d_Rule_joined_115 rfl rfl ?_
    refine w_iadd (q := 117) d_Rule_joined_116 rfl ?_
    cases h
    exact w_ireturn d_Rule_joined_117 rfl rfl ⟨rfl, rfl, rfl, rfl⟩
  rw [if_neg c6] at h
  by_cases c7 : p0 = (-15)
  · rw [if_pos c7] at h
    refine w_tabIn (q := 100) (off := 99) d_Rule_joined_1 (by rw [c7]; decide) (by rw [c7]; decide) (by rw [c7]; decide +kernel) rfl ?_
    refine w_iload_n (q := 101) d_Rule_joined_100 rfl rfl ?_
    refine w_iload_n (q := 102) d_Rule_joined_101 rfl rfl ?_
    by_cases c8 : p1 = p2
    · rw [if_pos c8] at h
      refine w_icmp_ne_f (q := 105) d_Rule_joined_102 109 rfl rfl c8 ?_
      refine w_iconst (q := 106) (v := 1) d_Rule_joined_105 rfl (by decide) ?_
      refine w_goto (q := 110) d_Rule_joined_106 rfl ?_
      obtain ⟨v9, hv, h⟩ := bnd h
      refine w_callSi (q := 113) (M' := M_Rule_truth) (n' := 0) (As := [.int 1]) (sh' := sh) (b1 := (0, 0)) d_Rule_joined_110 rfl mw_Rule_truth (by decide) (by decide) ml_Rule_31 rfl rfl (leb rfl) (bz _) (fun _ => rfl) (ok_Rule_truth hv) ?_
      cases h
      exact w_ireturn d_Rule_joined_113 rfl rfl ⟨rfl, rfl, rfl, rfl⟩
    · rw [if_neg c8] at h
      refine w_icmp_ne_t (q := 109) d_Rule_joined_102 rfl c8 ?_
      refine w_iconst (q := 110) (v := 0) d_Rule_joined_109 rfl (by decide) ?_
      obtain ⟨v10, hv, h⟩ := bnd h
      refine w_callSi (q := 113) (M' := M_Rule_truth) (n' := 0) (As := [.int 0]) (sh' := sh) (b1 := (0, 0)) d_Rule_joined_110 rfl mw_Rule_truth (by decide) (by decide) ml_Rule_31 rfl rfl (leb rfl) (bz _) (fun _ => rfl) (ok_Rule_truth hv) ?_
      cases h
      exact w_ireturn d_Rule_joined_113 rfl rfl ⟨rfl, rfl, rfl, rfl⟩
  rw [if_neg c7] at h
  by_cases c11 : p0 = (-14)
  · rw [if_pos c11] at h
    refine w_tabIn (q := 86) (off := 85) d_Rule_joined_1 (by rw [c11]; decide) (by rw [c11]; decide) (by rw [c11]; decide +kernel) rfl ?_
    refine w_iload_n (q := 87) d_Rule_joined_86 rfl rfl ?_
    refine w_iload_n (q := 88) d_Rule_joined_87 rfl rfl ?_
    by_cases c12 : p2 ≤ p1
    · rw [if_pos c12] at h
      refine w_icmp_ge_t (q := 95) d_Rule_joined_88 rfl c12 ?_
      refine w_iconst (q := 96) (v := 0) d_Rule_joined_95 rfl (by decide) ?_
      obtain ⟨v13, hv, h⟩ := bnd h
      refine w_callSi (q := 99) (M' := M_Rule_truth) (n' := 0) (As := [.int 0]) (sh' := sh) (b1 := (0, 0)) d_Rule_joined_96 rfl mw_Rule_truth (by decide) (by decide) ml_Rule_31 rfl rfl (leb rfl) (bz _) (fun _ => rfl) (ok_Rule_truth hv) ?_
      cases h
      exact w_ireturn d_Rule_joined_99 rfl rfl ⟨rfl, rfl, rfl, rfl⟩
    · rw [if_neg c12] at h
      refine w_icmp_ge_f (q := 91) d_Rule_joined_88 95 rfl rfl c12 ?_
      refine w_iconst (q := 92) (v := 1) d_Rule_joined_91 rfl (by decide) ?_
      refine w_goto (q := 96) d_Rule_joined_92 rfl ?_
      obtain ⟨v14, hv, h⟩ := bnd h
      refine w_callSi (q := 99) (M' := M_Rule_truth) (n' := 0) (As := [.int 1]) (sh' := sh) (b1 := (0, 0)) d_Rule_joined_96 rfl mw_Rule_truth (by decide) (by decide) ml_Rule_31 rfl rfl (leb rfl) (bz _) (fun _ => rfl) (ok_Rule_truth hv) ?_
      cases h
      exact w_ireturn d_Rule_joined_99 rfl rfl ⟨rfl, rfl, rfl, rfl⟩
  rw [if_neg c11] at h
  by_cases c15 : p0 = (-13)
  · rw [if_pos c15] at h
    refine w_tabIn (q := 138) (off := 137) d_Rule_joined_1 (by rw [c15]; decide) (by rw [c15]; decide) (by rw [c15]; decide +kernel) rfl ?_
    refine w_iconst (q := 139) (v := 0) d_Rule_joined_138 rfl (by decide) ?_
    cases h
    exact w_ireturn d_Rule_joined_139 rfl rfl ⟨rfl, rfl, rfl, rfl⟩
  rw [if_neg c15] at h
  by_cases c16 : p0 = (-12)
  · rw [if_pos c16] at h
    refine w_tabIn (q := 69) (off := 68) d_Rule_joined_1 (by rw [c16]; decide) (by rw [c16]; decide) (by rw [c16]; decide +kernel) rfl ?_
    refine w_iload_n (q := 70) d_Rule_joined_69 rfl rfl ?_
    by_cases c17 : p1 = 0
    · rw [if_pos c17] at h
      refine w_if_eq_t (q := 81) d_Rule_joined_70 rfl c17 ?_
      refine w_iconst (q := 82) (v := 0) d_Rule_joined_81 rfl (by decide) ?_
      obtain ⟨v18, hv, h⟩ := bnd h
      refine w_callSi (q := 85) (M' := M_Rule_truth) (n' := 0) (As := [.int 0]) (sh' := sh) (b1 := (0, 0)) d_Rule_joined_82 rfl mw_Rule_truth (by decide) (by decide) ml_Rule_31 rfl rfl (leb rfl) (bz _) (fun _ => rfl) (ok_Rule_truth hv) ?_
      cases h
      exact w_ireturn d_Rule_joined_85 rfl rfl ⟨rfl, rfl, rfl, rfl⟩
    · rw [if_neg c17] at h
      refine w_if_eq_f (q := 73) d_Rule_joined_70 81 rfl rfl c17 ?_
      refine w_iload_n (q := 74) d_Rule_joined_73 rfl rfl ?_
      by_cases c19 : p2 = 0
      · rw [if_pos c19] at h
        refine w_if_eq_t (q := 81) d_Rule_joined_74 rfl c19 ?_
        refine w_iconst (q := 82) (v := 0) d_Rule_joined_81 rfl (by decide) ?_
        obtain ⟨v20, hv, h⟩ := bnd h
        refine w_callSi (q := 85) (M' := M_Rule_truth) (n' := 0) (As := [.int 0]) (sh' := sh) (b1 := (0, 0)) d_Rule_joined_82 rfl mw_Rule_truth (by decide) (by decide) ml_Rule_31 rfl rfl (leb rfl) (bz _) (fun _ => rfl) (ok_Rule_truth hv) ?_
        cases h
        exact w_ireturn d_Rule_joined_85 rfl rfl ⟨rfl, rfl, rfl, rfl⟩
      · rw [if_neg c19] at h
        refine w_if_eq_f (q := 77) d_Rule_joined_74 81 rfl rfl c19 ?_
        refine w_iconst (q := 78) (v := 1) d_Rule_joined_77 rfl (by decide) ?_
        refine w_goto (q := 82) d_Rule_joined_78 rfl ?_
        obtain ⟨v21, hv, h⟩ := bnd h
        refine w_callSi (q := 85) (M' := M_Rule_truth) (n' := 0) (As := [.int 1]) (sh' := sh) (b1 := (0, 0)) d_Rule_joined_82 rfl mw_Rule_truth (by decide) (by decide) ml_Rule_31 rfl rfl (leb rfl) (bz _) (fun _ => rfl) (ok_Rule_truth hv) ?_
        cases h
        exact w_ireturn d_Rule_joined_85 rfl rfl ⟨rfl, rfl, rfl, rfl⟩
  rw [if_neg c16] at h
  by_cases c22 : p0 = (-11)
  · rw [if_pos c22] at h
    refine w_tabIn (q := 52) (off := 51) d_Rule_joined_1 (by rw [c22]; decide) (by rw [c22]; decide) (by rw [c22]; decide +kernel) rfl ?_
    refine w_iload_n (q := 53) d_Rule_joined_52 rfl rfl ?_
    by_cases c23 : p1 = 0
    · rw [if_pos c23] at h
      refine w_if_ne_f (q := 56) d_Rule_joined_53 60 rfl rfl c23 ?_
      refine w_iload_n (q := 57) d_Rule_joined_56 rfl rfl ?_
      by_cases c24 : p2 = 0
      · rw [if_pos c24] at h
        refine w_if_eq_t (q := 64) d_Rule_joined_57 rfl c24 ?_
        refine w_iconst (q := 65) (v := 0) d_Rule_joined_64 rfl (by decide) ?_
        obtain ⟨v25, hv, h⟩ := bnd h
        refine w_callSi (q := 68) (M' := M_Rule_truth) (n' := 0) (As := [.int 0]) (sh' := sh) (b1 := (0, 0)) d_Rule_joined_65 rfl mw_Rule_truth (by decide) (by decide) ml_Rule_31 rfl rfl (leb rfl) (bz _) (fun _ => rfl) (ok_Rule_truth hv) ?_
        cases h
        exact w_ireturn d_Rule_joined_68 rfl rfl ⟨rfl, rfl, rfl, rfl⟩
      · rw [if_neg c24] at h
        refine w_if_eq_f (q := 60) d_Rule_joined_57 64 rfl rfl c24 ?_
        refine w_iconst (q := 61) (v := 1) d_Rule_joined_60 rfl (by decide) ?_
        refine w_goto (q := 65) d_Rule_joined_61 rfl ?_
        obtain ⟨v26, hv, h⟩ := bnd h
        refine w_callSi (q := 68) (M' := M_Rule_truth) (n' := 0) (As := [.int 1]) (sh' := sh) (b1 := (0, 0)) d_Rule_joined_65 rfl mw_Rule_truth (by decide) (by decide) ml_Rule_31 rfl rfl (leb rfl) (bz _) (fun _ => rfl) (ok_Rule_truth hv) ?_
        cases h
        exact w_ireturn d_Rule_joined_68 rfl rfl ⟨rfl, rfl, rfl, rfl⟩
    · rw [if_neg c23] at h
      refine w_if_ne_t (q := 60) d_Rule_joined_53 rfl c23 ?_
      refine w_iconst (q := 61) (v := 1) d_Rule_joined_60 rfl (by decide) ?_
      refine w_goto (q := 65) d_Rule_joined_61 rfl ?_
      obtain ⟨v27, hv, h⟩ := bnd h
      refine w_callSi (q := 68) (M' := M_Rule_truth) (n' := 0) (As := [.int 1]) (sh' := sh) (b1 := (0, 0)) d_Rule_joined_65 rfl mw_Rule_truth (by decide) (by decide) ml_Rule_31 rfl rfl (leb rfl) (bz _) (fun _ => rfl) (ok_Rule_truth hv) ?_
      cases h
      exact w_ireturn d_Rule_joined_68 rfl rfl ⟨rfl, rfl, rfl, rfl⟩
  rw [if_neg c22] at h
  have hsw : p0.toInt < -19 ∨ -11 < p0.toInt := by
    refine sw_out (fun c h1 h2 e => ?_)
    have h9 : c = -19 ∨ c = -18 ∨ c = -17 ∨ c = -16 ∨ c = -15 ∨ c = -14 ∨ c = -13 ∨ c = -12 ∨ c = -11 := by omega
    rcases h9 with rfl | rfl | rfl | rfl | rfl | rfl | rfl | rfl | rfl
    · exact c1 (Int32.toInt_inj.mp (e.trans (by decide)))
    · exact c4 (Int32.toInt_inj.mp (e.trans (by decide)))
    · exact c5 (Int32.toInt_inj.mp (e.trans (by decide)))
    · exact c6 (Int32.toInt_inj.mp (e.trans (by decide)))
    · exact c7 (Int32.toInt_inj.mp (e.trans (by decide)))
    · exact c11 (Int32.toInt_inj.mp (e.trans (by decide)))
    · exact c15 (Int32.toInt_inj.mp (e.trans (by decide)))
    · exact c16 (Int32.toInt_inj.mp (e.trans (by decide)))
    · exact c22 (Int32.toInt_inj.mp (e.trans (by decide)))
  refine w_tabOut (q := 138) d_Rule_joined_1 hsw rfl ?_
  refine w_iconst (q := 139) (v := 0) d_Rule_joined_138 rfl (by decide) ?_
  cases h
  exact w_ireturn d_Rule_joined_139 rfl rfl ⟨rfl, rfl, rfl, rfl⟩
def PL_Rule_holds_4 (γ : GG) (sh : List Sh) (tt : Bool) (ru : Nat) (g : Mem) (b : Nat × Nat) (Φ : PO) (s : Int32 × Int32 × Mem) : Prop := WA γ M_Rule_holds 2 4 [some (.ref ru), some (.int s.1), some (.int s.2.1), none] [] sh s.2.2 tt b Φ
def QL_Rule_holds_4 (γ : GG) (sh : List Sh) (tt : Bool) (ru : Nat) (g : Mem) (b : Nat × Nat) (Φ : PO) (x : (Mem)) : Prop := WA γ M_Rule_holds 2 148 [some (.ref ru), none, none, none] [] sh x tt b Φ
def sp_Rule_holds_j100_4 (F : Nat) (ru : Nat) (g : Mem) (m0 : Mem) (x1 : Int32) (x2 : Int32) (x3 : Int32) : Option ((Int32 × Int32 × Mem) ⊕ ((Mem))) := if (-7) ≤ x3 then some (.inl (x1, x2 + 1, m0)) else if x1 < 2 then some (.inl (x1, x2 + 1, m0)) else (rd m0 (ru + 3) 40 (x1 - 2)).bind fun v8 => (rd m0 (ru + 3) 40 (x1 - 1)).bind fun v9 => (sp_Rule_joined x3 v8 v9 m0).bind fun v10 => (wr m0 (ru + 3) 40 (x1 - 2) v10).bind fun g11 => some (.inl (x1 + (-1), x2 + 1, g11))
theorem ok_Rule_holds_j100_4 {γ : GG} {sh : List Sh} {tt : Bool} {F : Nat} {ru : Nat} {g : Mem} {m0 : Mem} {x1 : Int32} {x2 : Int32} {x3 : Int32} {b : Nat × Nat} {Φ : PO} (hRule : isRule sh ru) {r : (Int32 × Int32 × Mem) ⊕ ((Mem))} (h : sp_Rule_holds_j100_4 F ru g m0 x1 x2 x3 = some r) (hr : RQ (PL_Rule_holds_4 γ sh tt ru g b Φ) (QL_Rule_holds_4 γ sh tt ru g b Φ) r) : WA γ M_Rule_holds 2 100 [some (.ref ru), some (.int x1), some (.int x2), some (.int x3)] [] sh m0 tt b Φ := by
  unfold sp_Rule_holds_j100_4 at h
  refine w_iload_n (q := 101) d_Rule_holds_100 rfl rfl ?_
  refine w_bipush (q := 103) (v := (-7)) d_Rule_holds_101 rfl (by decide) ?_
  by_cases c6 : (-7) ≤ x3
  · rw [if_pos c6] at h
    refine w_icmp_ge_t (q := 142) d_Rule_holds_103 rfl c6 ?_
    refine w_iinc (q := 145) (ls' := [some (.ref ru), some (.int x1), some (.int (x2 + 1)), some (.int x3)]) d_Rule_holds_142 rfl (by decide) rfl rfl rfl ?_
    refine w_goto (q := 4) d_Rule_holds_145 rfl ?_
    cases h
    exact w_ls (by exact (And.intro rfl (And.intro rfl (And.intro rfl trivial)))) hr
  · rw [if_neg c6] at h
    refine w_icmp_ge_f (q := 106) d_Rule_holds_103 142 rfl rfl c6 ?_
    refine w_iload_n (q := 107) d_Rule_holds_106 rfl rfl ?_
    refine w_iconst (q := 108) (v := 2) d_Rule_holds_107 rfl (by decide) ?_
    by_cases c7 : x1 < 2
    · rw [if_pos c7] at h
      refine w_icmp_lt_t (q := 142) d_Rule_holds_108 rfl c7 ?_
      refine w_iinc (q := 145) (ls' := [some (.ref ru), some (.int x1), some (.int (x2 + 1)), some (.int x3)]) d_Rule_holds_142 rfl (by decide) rfl rfl rfl ?_
      refine w_goto (q := 4) d_Rule_holds_145 rfl ?_
      cases h
      exact w_ls (by exact (And.intro rfl (And.intro rfl (And.intro rfl trivial)))) hr
    · rw [if_neg c7] at h
      refine w_icmp_lt_f (q := 111) d_Rule_holds_108 142 rfl rfl c7 ?_
      refine w_aload_n (q := 112) d_Rule_holds_111 rfl rfl ?_
      refine w_get (q := 115) (ci := 8) (j := 2) d_Rule_holds_112 rfl (by decide) fl_Rule_18 (by decide) hRule.2.1 hRule.1 rfl rfl ?_
      refine w_iload_n (q := 116) d_Rule_holds_115 rfl rfl ?_
      refine w_iconst (q := 117) (v := 2) d_Rule_holds_116 rfl (by decide) ?_
      refine w_isub (q := 118) d_Rule_holds_117 rfl ?_
      refine w_iload_n (q := 119) d_Rule_holds_118 rfl rfl ?_
      refine w_aload_n (q := 120) d_Rule_holds_119 rfl rfl ?_
      refine w_get (q := 123) (ci := 8) (j := 2) d_Rule_holds_120 rfl (by decide) fl_Rule_18 (by decide) hRule.2.1 hRule.1 rfl rfl ?_
      refine w_iload_n (q := 124) d_Rule_holds_123 rfl rfl ?_
      refine w_iconst (q := 125) (v := 2) d_Rule_holds_124 rfl (by decide) ?_
      refine w_isub (q := 126) d_Rule_holds_125 rfl ?_
      obtain ⟨v8, hv, h⟩ := bnd h
      obtain ⟨hi, hv⟩ := rd_ok hv
      refine w_iald (q := 127) (t := 0) d_Rule_holds_126 rfl hRule.2.2.2.2.2 hRule.2.2.2.2.1 hi rfl ?_
      rw [hv]
      refine w_aload_n (q := 128) d_Rule_holds_127 rfl rfl ?_
      refine w_get (q := 131) (ci := 8) (j := 2) d_Rule_holds_128 rfl (by decide) fl_Rule_18 (by decide) hRule.2.1 hRule.1 rfl rfl ?_
      refine w_iload_n (q := 132) d_Rule_holds_131 rfl rfl ?_
      refine w_iconst (q := 133) (v := 1) d_Rule_holds_132 rfl (by decide) ?_
      refine w_isub (q := 134) d_Rule_holds_133 rfl ?_
      obtain ⟨v9, hv, h⟩ := bnd h
      obtain ⟨hi, hv⟩ := rd_ok hv
      refine w_iald (q := 135) (t := 0) d_Rule_holds_134 rfl hRule.2.2.2.2.2 hRule.2.2.2.2.1 hi rfl ?_
      rw [hv]
      obtain ⟨v10, hv, h⟩ := bnd h
      refine w_callSi (q := 138) (M' := M_Rule_joined) (n' := 1) (As := [.int x3, .int v8, .int v9]) (sh' := sh) (b1 := (0, 0)) d_Rule_holds_135 rfl mw_Rule_joined (by decide) (by decide) ml_Rule_35 rfl rfl (leb rfl) (bz _) (fun _ => rfl) (ok_Rule_joined hv) ?_
      obtain ⟨g11, hv, h⟩ := bnd h
      obtain ⟨hi, hv⟩ := wr_ok hv
      refine w_iast (q := 139) d_Rule_holds_138 rfl hRule.2.2.2.2.2 hRule.2.2.2.2.1 hi hv ?_
      refine w_iinc (q := 142) (ls' := [some (.ref ru), some (.int (x1 + (-1))), some (.int x2), some (.int x3)]) d_Rule_holds_139 rfl (by decide) rfl rfl rfl ?_
      refine w_iinc (q := 145) (ls' := [some (.ref ru), some (.int (x1 + (-1))), some (.int (x2 + 1)), some (.int x3)]) d_Rule_holds_142 rfl (by decide) rfl rfl rfl ?_
      refine w_goto (q := 4) d_Rule_holds_145 rfl ?_
      cases h
      exact w_ls (by exact (And.intro rfl (And.intro rfl (And.intro rfl trivial)))) hr
def sp_Rule_holds_j59_4 (F : Nat) (ru : Nat) (g : Mem) (m0 : Mem) (x1 : Int32) (x2 : Int32) (x3 : Int32) : Option ((Int32 × Int32 × Mem) ⊕ ((Mem))) := if x3 = (-13) then if x1 < 1 then sp_Rule_holds_j100_4 F ru g m0 x1 x2 x3 else (rd m0 (ru + 3) 40 (x1 - 1)).bind fun v12 => if v12 = 0 then (sp_Rule_truth 1 m0).bind fun v14 => (wr m0 (ru + 3) 40 (x1 - 1) v14).bind fun g15 => some (.inl (x1, x2 + 1, g15)) else (sp_Rule_truth 0 m0).bind fun v16 => (wr m0 (ru + 3) 40 (x1 - 1) v16).bind fun g17 => some (.inl (x1, x2 + 1, g17)) else sp_Rule_holds_j100_4 F ru g m0 x1 x2 x3
theorem ok_Rule_holds_j59_4 {γ : GG} {sh : List Sh} {tt : Bool} {F : Nat} {ru : Nat} {g : Mem} {m0 : Mem} {x1 : Int32} {x2 : Int32} {x3 : Int32} {b : Nat × Nat} {Φ : PO} (hRule : isRule sh ru) {r : (Int32 × Int32 × Mem) ⊕ ((Mem))} (h : sp_Rule_holds_j59_4 F ru g m0 x1 x2 x3 = some r) (hr : RQ (PL_Rule_holds_4 γ sh tt ru g b Φ) (QL_Rule_holds_4 γ sh tt ru g b Φ) r) : WA γ M_Rule_holds 2 59 [some (.ref ru), some (.int x1), some (.int x2), some (.int x3)] [] sh m0 tt b Φ := by
  unfold sp_Rule_holds_j59_4 at h
  refine w_iload_n (q := 60) d_Rule_holds_59 rfl rfl ?_
  refine w_bipush (q := 62) (v := (-13)) d_Rule_holds_60 rfl (by decide) ?_
  by_cases c4 : x3 = (-13)
  · rw [if_pos c4] at h
    refine w_icmp_ne_f (q := 65) d_Rule_holds_62 100 rfl rfl c4 ?_
    refine w_iload_n (q := 66) d_Rule_holds_65 rfl rfl ?_
    refine w_iconst (q := 67) (v := 1) d_Rule_holds_66 rfl (by decide) ?_
    by_cases c5 : x1 < 1
    · rw [if_pos c5] at h
      refine w_icmp_lt_t (q := 100) d_Rule_holds_67 rfl c5 ?_
      refine w_ls (ls' := [some (.ref ru), some (.int x1), some (.int x2), some (.int x3)]) (And.intro rfl (And.intro rfl (And.intro rfl (And.intro rfl trivial)))) ?_
      exact ok_Rule_holds_j100_4 hRule h hr
    · rw [if_neg c5] at h
      refine w_icmp_lt_f (q := 70) d_Rule_holds_67 100 rfl rfl c5 ?_
      refine w_aload_n (q := 71) d_Rule_holds_70 rfl rfl ?_
      refine w_get (q := 74) (ci := 8) (j := 2) d_Rule_holds_71 rfl (by decide) fl_Rule_18 (by decide) hRule.2.1 hRule.1 rfl rfl ?_
      refine w_iload_n (q := 75) d_Rule_holds_74 rfl rfl ?_
      refine w_iconst (q := 76) (v := 1) d_Rule_holds_75 rfl (by decide) ?_
      refine w_isub (q := 77) d_Rule_holds_76 rfl ?_
      refine w_aload_n (q := 78) d_Rule_holds_77 rfl rfl ?_
      refine w_get (q := 81) (ci := 8) (j := 2) d_Rule_holds_78 rfl (by decide) fl_Rule_18 (by decide) hRule.2.1 hRule.1 rfl rfl ?_
      refine w_iload_n (q := 82) d_Rule_holds_81 rfl rfl ?_
      refine w_iconst (q := 83) (v := 1) d_Rule_holds_82 rfl (by decide) ?_
      refine w_isub (q := 84) d_Rule_holds_83 rfl ?_
      obtain ⟨v12, hv, h⟩ := bnd h
      obtain ⟨hi, hv⟩ := rd_ok hv
      refine w_iald (q := 85) (t := 0) d_Rule_holds_84 rfl hRule.2.2.2.2.2 hRule.2.2.2.2.1 hi rfl ?_
      rw [hv]
      by_cases c13 : v12 = 0
      · rw [if_pos c13] at h
        refine w_if_ne_f (q := 88) d_Rule_holds_85 92 rfl rfl c13 ?_
        refine w_iconst (q := 89) (v := 1) d_Rule_holds_88 rfl (by decide) ?_
        refine w_goto (q := 93) d_Rule_holds_89 rfl ?_
        obtain ⟨v14, hv, h⟩ := bnd h
        refine w_callSi (q := 96) (M' := M_Rule_truth) (n' := 0) (As := [.int 1]) (sh' := sh) (b1 := (0, 0)) d_Rule_holds_93 rfl mw_Rule_truth (by decide) (by decide) ml_Rule_31 rfl rfl (leb rfl) (bz _) (fun _ => rfl) (ok_Rule_truth hv) ?_
        obtain ⟨g15, hv, h⟩ := bnd h
        obtain ⟨hi, hv⟩ := wr_ok hv
        refine w_iast (q := 97) d_Rule_holds_96 rfl hRule.2.2.2.2.2 hRule.2.2.2.2.1 hi hv ?_
        refine w_goto (q := 142) d_Rule_holds_97 rfl ?_
        refine w_iinc (q := 145) (ls' := [some (.ref ru), some (.int x1), some (.int (x2 + 1)), some (.int x3)]) d_Rule_holds_142 rfl (by decide) rfl rfl rfl ?_
        refine w_goto (q := 4) d_Rule_holds_145 rfl ?_
        cases h
        exact w_ls (by exact (And.intro rfl (And.intro rfl (And.intro rfl trivial)))) hr
      · rw [if_neg c13] at h
        refine w_if_ne_t (q := 92) d_Rule_holds_85 rfl c13 ?_
        refine w_iconst (q := 93) (v := 0) d_Rule_holds_92 rfl (by decide) ?_
        obtain ⟨v16, hv, h⟩ := bnd h
        refine w_callSi (q := 96) (M' := M_Rule_truth) (n' := 0) (As := [.int 0]) (sh' := sh) (b1 := (0, 0)) d_Rule_holds_93 rfl mw_Rule_truth (by decide) (by decide) ml_Rule_31 rfl rfl (leb rfl) (bz _) (fun _ => rfl) (ok_Rule_truth hv) ?_
        obtain ⟨g17, hv, h⟩ := bnd h
        obtain ⟨hi, hv⟩ := wr_ok hv
        refine w_iast (q := 97) d_Rule_holds_96 rfl hRule.2.2.2.2.2 hRule.2.2.2.2.1 hi hv ?_
        refine w_goto (q := 142) d_Rule_holds_97 rfl ?_
        refine w_iinc (q := 145) (ls' := [some (.ref ru), some (.int x1), some (.int (x2 + 1)), some (.int x3)]) d_Rule_holds_142 rfl (by decide) rfl rfl rfl ?_
        refine w_goto (q := 4) d_Rule_holds_145 rfl ?_
        cases h
        exact w_ls (by exact (And.intro rfl (And.intro rfl (And.intro rfl trivial)))) hr
  · rw [if_neg c4] at h
    refine w_icmp_ne_t (q := 100) d_Rule_holds_62 rfl c4 ?_
    refine w_ls (ls' := [some (.ref ru), some (.int x1), some (.int x2), some (.int x3)]) (And.intro rfl (And.intro rfl (And.intro rfl (And.intro rfl trivial)))) ?_
    exact ok_Rule_holds_j100_4 hRule h hr
def st_Rule_holds_4 (F : Nat) (ru : Nat) (g : Mem) (s : Int32 × Int32 × Mem) : Option ((Int32 × Int32 × Mem) ⊕ ((Mem))) := if (s.2.2 ru 3) ≤ s.2.1 then some (.inr s.2.2) else (rd s.2.2 (ru + 1) 700 s.2.1).bind fun v2 => if v2 < (-7) then sp_Rule_holds_j59_4 F ru g s.2.2 s.1 s.2.1 v2 else if 40 ≤ s.1 then sp_Rule_holds_j59_4 F ru g s.2.2 s.1 s.2.1 v2 else if v2 < 0 then (rd s.2.2 (ru + 2) 7 ((-1) - v2)).bind fun v20 => (wr s.2.2 (ru + 3) 40 s.1 v20).bind fun g21 => some (.inl (s.1 + 1, s.2.1 + 1, g21)) else (wr s.2.2 (ru + 3) 40 s.1 v2).bind fun g22 => some (.inl (s.1 + 1, s.2.1 + 1, g22))
theorem kl_Rule_holds_4 {γ : GG} {sh : List Sh} {tt : Bool} {F : Nat} {ru : Nat} {g : Mem} {b : Nat × Nat} {Φ : PO} (hRule : isRule sh ru) : ∀ (s : Int32 × Int32 × Mem) (r : (Int32 × Int32 × Mem) ⊕ ((Mem))), st_Rule_holds_4 F ru g s = some r → RQ (PL_Rule_holds_4 γ sh tt ru g b Φ) (QL_Rule_holds_4 γ sh tt ru g b Φ) r → PL_Rule_holds_4 γ sh tt ru g b Φ s := by
  intro s r h hr
  unfold st_Rule_holds_4 at h
  unfold PL_Rule_holds_4
  refine w_iload_n (q := 5) d_Rule_holds_4 rfl rfl ?_
  refine w_aload_n (q := 6) d_Rule_holds_5 rfl rfl ?_
  refine w_get (q := 9) (ci := 8) (j := 3) d_Rule_holds_6 rfl (by decide) fl_Rule_21 (by decide) hRule.2.1 hRule.1 rfl rfl ?_
  by_cases c1 : (s.2.2 ru 3) ≤ s.2.1
  · rw [if_pos c1] at h
    refine w_icmp_ge_t (q := 148) d_Rule_holds_9 rfl c1 ?_
    cases h
    exact w_ls (by exact (And.intro rfl trivial)) hr
  · rw [if_neg c1] at h
    refine w_icmp_ge_f (q := 12) d_Rule_holds_9 148 rfl rfl c1 ?_
    refine w_aload_n (q := 13) d_Rule_holds_12 rfl rfl ?_
    refine w_get (q := 16) (ci := 8) (j := 0) d_Rule_holds_13 rfl (by decide) fl_Rule_9 (by decide) hRule.2.1 hRule.1 rfl rfl ?_
    refine w_iload_n (q := 17) d_Rule_holds_16 rfl rfl ?_
    obtain ⟨v2, hv, h⟩ := bnd h
    obtain ⟨hi, hv⟩ := rd_ok hv
    refine w_iald (q := 18) (t := 0) d_Rule_holds_17 rfl hRule.2.2.1.2 hRule.2.2.1.1 hi rfl ?_
    rw [hv]
    refine w_istore_n (q := 19) (ls' := [some (.ref ru), some (.int s.1), some (.int s.2.1), some (.int v2)]) d_Rule_holds_18 rfl (by decide) rfl rfl ?_
    refine w_iload_n (q := 20) d_Rule_holds_19 rfl rfl ?_
    refine w_bipush (q := 22) (v := (-7)) d_Rule_holds_20 rfl (by decide) ?_
    by_cases c3 : v2 < (-7)
    · rw [if_pos c3] at h
      refine w_icmp_lt_t (q := 59) d_Rule_holds_22 rfl c3 ?_
      refine w_ls (ls' := [some (.ref ru), some (.int s.1), some (.int s.2.1), some (.int v2)]) (And.intro rfl (And.intro rfl (And.intro rfl (And.intro rfl trivial)))) ?_
      exact ok_Rule_holds_j59_4 hRule h hr
    · rw [if_neg c3] at h
      refine w_icmp_lt_f (q := 25) d_Rule_holds_22 59 rfl rfl c3 ?_
      refine w_iload_n (q := 26) d_Rule_holds_25 rfl rfl ?_
      refine w_bipush (q := 28) (v := 40) d_Rule_holds_26 rfl (by decide) ?_
      by_cases c18 : 40 ≤ s.1
      · rw [if_pos c18] at h
        refine w_icmp_ge_t (q := 59) d_Rule_holds_28 rfl c18 ?_
        refine w_ls (ls' := [some (.ref ru), some (.int s.1), some (.int s.2.1), some (.int v2)]) (And.intro rfl (And.intro rfl (And.intro rfl (And.intro rfl trivial)))) ?_
        exact ok_Rule_holds_j59_4 hRule h hr
      · rw [if_neg c18] at h
        refine w_icmp_ge_f (q := 31) d_Rule_holds_28 59 rfl rfl c18 ?_
        refine w_aload_n (q := 32) d_Rule_holds_31 rfl rfl ?_
        refine w_get (q := 35) (ci := 8) (j := 2) d_Rule_holds_32 rfl (by decide) fl_Rule_18 (by decide) hRule.2.1 hRule.1 rfl rfl ?_
        refine w_iload_n (q := 36) d_Rule_holds_35 rfl rfl ?_
        refine w_iload_n (q := 37) d_Rule_holds_36 rfl rfl ?_
        by_cases c19 : v2 < 0
        · rw [if_pos c19] at h
          refine w_if_lt_t (q := 44) d_Rule_holds_37 rfl c19 ?_
          refine w_aload_n (q := 45) d_Rule_holds_44 rfl rfl ?_
          refine w_get (q := 48) (ci := 8) (j := 1) d_Rule_holds_45 rfl (by decide) fl_Rule_15 (by decide) hRule.2.1 hRule.1 rfl rfl ?_
          refine w_iconst (q := 49) (v := (-1)) d_Rule_holds_48 rfl (by decide) ?_
          refine w_iload_n (q := 50) d_Rule_holds_49 rfl rfl ?_
          refine w_isub (q := 51) d_Rule_holds_50 rfl ?_
          obtain ⟨v20, hv, h⟩ := bnd h
          obtain ⟨hi, hv⟩ := rd_ok hv
          refine w_iald (q := 52) (t := 0) d_Rule_holds_51 rfl hRule.2.2.2.1.2 hRule.2.2.2.1.1 hi rfl ?_
          rw [hv]
          obtain ⟨g21, hv, h⟩ := bnd h
          obtain ⟨hi, hv⟩ := wr_ok hv
          refine w_iast (q := 53) d_Rule_holds_52 rfl hRule.2.2.2.2.2 hRule.2.2.2.2.1 hi hv ?_
          refine w_iinc (q := 56) (ls' := [some (.ref ru), some (.int (s.1 + 1)), some (.int s.2.1), some (.int v2)]) d_Rule_holds_53 rfl (by decide) rfl rfl rfl ?_
          refine w_goto (q := 142) d_Rule_holds_56 rfl ?_
          refine w_iinc (q := 145) (ls' := [some (.ref ru), some (.int (s.1 + 1)), some (.int (s.2.1 + 1)), some (.int v2)]) d_Rule_holds_142 rfl (by decide) rfl rfl rfl ?_
          refine w_goto (q := 4) d_Rule_holds_145 rfl ?_
          cases h
          exact w_ls (by exact (And.intro rfl (And.intro rfl (And.intro rfl trivial)))) hr
        · rw [if_neg c19] at h
          refine w_if_lt_f (q := 40) d_Rule_holds_37 44 rfl rfl c19 ?_
          refine w_iload_n (q := 41) d_Rule_holds_40 rfl rfl ?_
          refine w_goto (q := 52) d_Rule_holds_41 rfl ?_
          obtain ⟨g22, hv, h⟩ := bnd h
          obtain ⟨hi, hv⟩ := wr_ok hv
          refine w_iast (q := 53) d_Rule_holds_52 rfl hRule.2.2.2.2.2 hRule.2.2.2.2.1 hi hv ?_
          refine w_iinc (q := 56) (ls' := [some (.ref ru), some (.int (s.1 + 1)), some (.int s.2.1), some (.int v2)]) d_Rule_holds_53 rfl (by decide) rfl rfl rfl ?_
          refine w_goto (q := 142) d_Rule_holds_56 rfl ?_
          refine w_iinc (q := 145) (ls' := [some (.ref ru), some (.int (s.1 + 1)), some (.int (s.2.1 + 1)), some (.int v2)]) d_Rule_holds_142 rfl (by decide) rfl rfl rfl ?_
          refine w_goto (q := 4) d_Rule_holds_145 rfl ?_
          cases h
          exact w_ls (by exact (And.intro rfl (And.intro rfl (And.intro rfl trivial)))) hr
def sp_Rule_holds (F : Nat) (ru : Nat) (g : Mem) : Option (Int32 × Mem) := (lpO (st_Rule_holds_4 F ru g) F (0, 0, g)).bind fun x23 => (rd x23 (ru + 3) 40 0).bind fun v24 => if v24 = 0 then some (0, x23) else some (1, x23)
theorem ok_Rule_holds {γ : GG} {sh : List Sh} {tt : Bool} {F : Nat} {ru : Nat} {g : Mem} (hRule : isRule sh ru) {res : Int32 × Mem} (h : sp_Rule_holds F ru g = some res) : CA γ M_Rule_holds 2 [.ref ru] sh g tt (0, 0) (pI sh res.1 res.2 tt) := by
  refine CA.of mw_Rule_holds.1 3 rfl ?_
  show WA γ M_Rule_holds 2 0 [some (.ref ru), none, none, none] [] sh g tt (0, 0) (pI sh res.1 res.2 tt)
  unfold sp_Rule_holds at h
  refine w_iconst (q := 1) (v := 0) d_Rule_holds_0 rfl (by decide) ?_
  refine w_istore_n (q := 2) (ls' := [some (.ref ru), some (.int 0), none, none]) d_Rule_holds_1 rfl (by decide) rfl rfl ?_
  refine w_iconst (q := 3) (v := 0) d_Rule_holds_2 rfl (by decide) ?_
  refine w_istore_n (q := 4) (ls' := [some (.ref ru), some (.int 0), some (.int 0), none]) d_Rule_holds_3 rfl (by decide) rfl rfl ?_
  obtain ⟨x23, hx, h⟩ := bnd h
  refine w_ls (ls' := [some (.ref ru), some (.int 0), some (.int 0), none]) (And.intro rfl (And.intro rfl (And.intro rfl trivial))) ?_
  show PL_Rule_holds_4 γ sh tt ru g _ _ (0, 0, g)
  refine lp_ok (kl_Rule_holds_4 hRule) F _ x23 hx ?_
  unfold QL_Rule_holds_4
  refine w_aload_n (q := 149) d_Rule_holds_148 rfl rfl ?_
  refine w_get (q := 152) (ci := 8) (j := 2) d_Rule_holds_149 rfl (by decide) fl_Rule_18 (by decide) hRule.2.1 hRule.1 rfl rfl ?_
  refine w_iconst (q := 153) (v := 0) d_Rule_holds_152 rfl (by decide) ?_
  obtain ⟨v24, hv, h⟩ := bnd h
  obtain ⟨hi, hv⟩ := rd_ok hv
  refine w_iald (q := 154) (t := 0) d_Rule_holds_153 rfl hRule.2.2.2.2.2 hRule.2.2.2.2.1 hi rfl ?_
  rw [hv]
  by_cases c25 : v24 = 0
  · rw [if_pos c25] at h
    refine w_if_eq_t (q := 161) d_Rule_holds_154 rfl c25 ?_
    refine w_iconst (q := 162) (v := 0) d_Rule_holds_161 rfl (by decide) ?_
    cases h
    exact w_ireturn d_Rule_holds_162 rfl rfl ⟨rfl, rfl, rfl, rfl⟩
  · rw [if_neg c25] at h
    refine w_if_eq_f (q := 157) d_Rule_holds_154 161 rfl rfl c25 ?_
    refine w_iconst (q := 158) (v := 1) d_Rule_holds_157 rfl (by decide) ?_
    refine w_goto (q := 162) d_Rule_holds_158 rfl ?_
    cases h
    exact w_ireturn d_Rule_holds_162 rfl rfl ⟨rfl, rfl, rfl, rfl⟩
def sp_Hall_isWithin (p0 : Int32) (p1 : Int32) (g : Mem) : Option (Int32) := if p0 < 0 then some 0 else if p1 < p0 then some 0 else some 1
theorem ok_Hall_isWithin {γ : GG} {sh : List Sh} {tt : Bool} {p0 : Int32} {p1 : Int32} {g : Mem} {res : Int32} (h : sp_Hall_isWithin p0 p1 g = some res) : CA γ M_Hall_isWithin 0 [.int p0, .int p1] sh g tt (0, 0) (pI sh res g tt) := by
  refine CA.of mw_Hall_isWithin.1 0 rfl ?_
  show WA γ M_Hall_isWithin 0 0 [some (.int p0), some (.int p1)] [] sh g tt (0, 0) (pI sh res g tt)
  unfold sp_Hall_isWithin at h
  refine w_iload_n (q := 1) d_Hall_isWithin_0 rfl rfl ?_
  by_cases c1 : p0 < 0
  · rw [if_pos c1] at h
    refine w_if_lt_t (q := 13) d_Hall_isWithin_1 rfl c1 ?_
    refine w_iconst (q := 14) (v := 0) d_Hall_isWithin_13 rfl (by decide) ?_
    cases h
    exact w_ireturn d_Hall_isWithin_14 rfl rfl ⟨rfl, rfl, rfl, rfl⟩
  · rw [if_neg c1] at h
    refine w_if_lt_f (q := 4) d_Hall_isWithin_1 13 rfl rfl c1 ?_
    refine w_iload_n (q := 5) d_Hall_isWithin_4 rfl rfl ?_
    refine w_iload_n (q := 6) d_Hall_isWithin_5 rfl rfl ?_
    by_cases c2 : p1 < p0
    · rw [if_pos c2] at h
      refine w_icmp_gt_t (q := 13) d_Hall_isWithin_6 rfl c2 ?_
      refine w_iconst (q := 14) (v := 0) d_Hall_isWithin_13 rfl (by decide) ?_
      cases h
      exact w_ireturn d_Hall_isWithin_14 rfl rfl ⟨rfl, rfl, rfl, rfl⟩
    · rw [if_neg c2] at h
      refine w_icmp_gt_f (q := 9) d_Hall_isWithin_6 13 rfl rfl c2 ?_
      refine w_iconst (q := 10) (v := 1) d_Hall_isWithin_9 rfl (by decide) ?_
      refine w_goto (q := 14) d_Hall_isWithin_10 rfl ?_
      cases h
      exact w_ireturn d_Hall_isWithin_14 rfl rfl ⟨rfl, rfl, rfl, rfl⟩
def sp_Hall_isKind (p0 : Int32) (g : Mem) : Option (Int32) := (sp_Hall_isWithin p0 3 g).bind fun v1 => (bl v1).bind fun v2 => some v2
theorem ok_Hall_isKind {γ : GG} {sh : List Sh} {tt : Bool} {p0 : Int32} {g : Mem} {res : Int32} (h : sp_Hall_isKind p0 g = some res) : CA γ M_Hall_isKind 1 [.int p0] sh g tt (0, 0) (pI sh res g tt) := by
  refine CA.of mw_Hall_isKind.1 0 rfl ?_
  show WA γ M_Hall_isKind 1 0 [some (.int p0)] [] sh g tt (0, 0) (pI sh res g tt)
  unfold sp_Hall_isKind at h
  refine w_iload_n (q := 1) d_Hall_isKind_0 rfl rfl ?_
  refine w_iconst (q := 2) (v := 3) d_Hall_isKind_1 rfl (by decide) ?_
  obtain ⟨v1, hv, h⟩ := bnd h
  refine w_callSi (q := 5) (M' := M_Hall_isWithin) (n' := 0) (As := [.int p0, .int 3]) (sh' := sh) (b1 := (0, 0)) d_Hall_isKind_2 rfl mw_Hall_isWithin (by decide) (by decide) ml_Hall_266 rfl rfl (leb rfl) (bz _) (fun _ => rfl) (ok_Hall_isWithin hv) ?_
  obtain ⟨v2, hv, h⟩ := bnd h
  obtain ⟨hv, hn⟩ := bl_ok hv
  rw [hv] at h
  cases h
  exact w_ireturn d_Hall_isKind_5 rfl hn ⟨rfl, rfl, rfl, rfl⟩
def sp_Hall_isAbout (p0 : Int32) (g : Mem) : Option (Int32) := (sp_Hall_isWithin p0 7 g).bind fun v1 => (bl v1).bind fun v2 => some v2
theorem ok_Hall_isAbout {γ : GG} {sh : List Sh} {tt : Bool} {p0 : Int32} {g : Mem} {res : Int32} (h : sp_Hall_isAbout p0 g = some res) : CA γ M_Hall_isAbout 1 [.int p0] sh g tt (0, 0) (pI sh res g tt) := by
  refine CA.of mw_Hall_isAbout.1 0 rfl ?_
  show WA γ M_Hall_isAbout 1 0 [some (.int p0)] [] sh g tt (0, 0) (pI sh res g tt)
  unfold sp_Hall_isAbout at h
  refine w_iload_n (q := 1) d_Hall_isAbout_0 rfl rfl ?_
  refine w_bipush (q := 3) (v := 7) d_Hall_isAbout_1 rfl (by decide) ?_
  obtain ⟨v1, hv, h⟩ := bnd h
  refine w_callSi (q := 6) (M' := M_Hall_isWithin) (n' := 0) (As := [.int p0, .int 7]) (sh' := sh) (b1 := (0, 0)) d_Hall_isAbout_3 rfl mw_Hall_isWithin (by decide) (by decide) ml_Hall_266 rfl rfl (leb rfl) (bz _) (fun _ => rfl) (ok_Hall_isWithin hv) ?_
  obtain ⟨v2, hv, h⟩ := bnd h
  obtain ⟨hv, hn⟩ := bl_ok hv
  rw [hv] at h
  cases h
  exact w_ireturn d_Hall_isAbout_6 rfl hn ⟨rfl, rfl, rfl, rfl⟩
def sp_Hall_hasBit (p0 : Int32) (p1 : Int32) (g : Mem) : Option (Int32) := if ((ush p0 p1) &&& 1) = 0 then some 0 else some 1
theorem ok_Hall_hasBit {γ : GG} {sh : List Sh} {tt : Bool} {p0 : Int32} {p1 : Int32} {g : Mem} {res : Int32} (h : sp_Hall_hasBit p0 p1 g = some res) : CA γ M_Hall_hasBit 0 [.int p0, .int p1] sh g tt (0, 0) (pI sh res g tt) := by
  refine CA.of mw_Hall_hasBit.1 0 rfl ?_
  show WA γ M_Hall_hasBit 0 0 [some (.int p0), some (.int p1)] [] sh g tt (0, 0) (pI sh res g tt)
  unfold sp_Hall_hasBit at h
  refine w_iload_n (q := 1) d_Hall_hasBit_0 rfl rfl ?_
  refine w_iload_n (q := 2) d_Hall_hasBit_1 rfl rfl ?_
  refine w_iushr (q := 3) d_Hall_hasBit_2 rfl ?_
  refine w_iconst (q := 4) (v := 1) d_Hall_hasBit_3 rfl (by decide) ?_
  refine w_iand (q := 5) d_Hall_hasBit_4 rfl ?_
  by_cases c1 : ((ush p0 p1) &&& 1) = 0
  · rw [if_pos c1] at h
    refine w_if_eq_t (q := 12) d_Hall_hasBit_5 rfl c1 ?_
    refine w_iconst (q := 13) (v := 0) d_Hall_hasBit_12 rfl (by decide) ?_
    cases h
    exact w_ireturn d_Hall_hasBit_13 rfl rfl ⟨rfl, rfl, rfl, rfl⟩
  · rw [if_neg c1] at h
    refine w_if_eq_f (q := 8) d_Hall_hasBit_5 12 rfl rfl c1 ?_
    refine w_iconst (q := 9) (v := 1) d_Hall_hasBit_8 rfl (by decide) ?_
    refine w_goto (q := 13) d_Hall_hasBit_9 rfl ?_
    cases h
    exact w_ireturn d_Hall_hasBit_13 rfl rfl ⟨rfl, rfl, rfl, rfl⟩
