/-! functions and theorems of 26.model1 (by program: wip/gen/main.py) -/
def sp_Model_image (F : Nat) (g : Mem) : Option (Mem) := (sp_Model_pack F 73 231 0 (mset (mset (mset (mset g 54 3 0) 54 35 1) 54 36 ((mset (mset g 54 3 0) 54 35 1) 54 27)) 54 37 ((mset (mset (mset g 54 3 0) 54 35 1) 54 36 ((mset (mset g 54 3 0) 54 35 1) 54 27)) 54 28))).bind fun v1 => (sp_Model_be F 74 9240 67 9240 v1).bind fun v2 => (sp_Model_be F 75 8 71 8 v2).bind fun v3 => (sp_Model_be F 76 8 72 8 v3).bind fun v4 => (sp_Model_be F 77 3 64 3 v4).bind fun v5 => some v5
theorem ok_Model_image {γ : GG} {tt : Bool} {F : Nat} {g : Mem} {res : Mem} (h : sp_Model_image F g = some res) : CA γ M_Model_image 1 [.ref 54] SH g tt (0, 0) (pV SH res tt) := by
  refine CA.of mw_Model_image.1 0 rfl ?_
  show WA γ M_Model_image 1 0 [some (.ref 54)] [] SH g tt (0, 0) (pV SH res tt)
  unfold sp_Model_image at h
  refine w_aload_n (q := 1) d_Model_image_0 rfl rfl ?_
  refine w_iconst (q := 2) (v := 0) d_Model_image_1 rfl (by decide) ?_
  refine w_put (q := 5) (ci := 12) (j := 3) d_Model_image_2 rfl (by decide) fl_Model_114 (by decide) (by decide) s_54 rfl rfl rfl rfl rfl rfl ?_
  refine w_aload_n (q := 6) d_Model_image_5 rfl rfl ?_
  refine w_iconst (q := 7) (v := 1) d_Model_image_6 rfl (by decide) ?_
  refine w_put (q := 10) (ci := 12) (j := 35) d_Model_image_7 rfl (by decide) fl_Model_301 (by decide) (by decide) s_54 rfl rfl rfl rfl rfl rfl ?_
  refine w_aload_n (q := 11) d_Model_image_10 rfl rfl ?_
  refine w_aload_n (q := 12) d_Model_image_11 rfl rfl ?_
  refine w_get (q := 15) (ci := 12) (j := 27) d_Model_image_12 rfl (by decide) fl_Model_295 (by decide) (by decide) s_54 rfl rfl ?_
  refine w_put (q := 18) (ci := 12) (j := 36) d_Model_image_15 rfl (by decide) fl_Model_449 (by decide) (by decide) s_54 rfl rfl rfl rfl rfl rfl ?_
  refine w_aload_n (q := 19) d_Model_image_18 rfl rfl ?_
  refine w_aload_n (q := 20) d_Model_image_19 rfl rfl ?_
  refine w_get (q := 23) (ci := 12) (j := 28) d_Model_image_20 rfl (by decide) fl_Model_298 (by decide) (by decide) s_54 rfl rfl ?_
  refine w_put (q := 26) (ci := 12) (j := 37) d_Model_image_23 rfl (by decide) fl_Model_452 (by decide) (by decide) s_54 rfl rfl rfl rfl rfl rfl ?_
  refine w_aload_n (q := 27) d_Model_image_26 rfl rfl ?_
  refine w_aload_n (q := 28) d_Model_image_27 rfl rfl ?_
  refine w_get (q := 31) (ci := 12) (j := 38) d_Model_image_28 rfl (by decide) fl_Model_99 (by decide) (by decide) s_54 rfl rfl ?_
  refine w_iconst (q := 32) (v := 0) d_Model_image_31 rfl (by decide) ?_
  obtain ⟨v1, hv, h⟩ := bnd h
  refine w_callVv (q := 35) (M' := M_Model_pack) (n' := 0) (k := 54) (As := [.ref 73, .int 0]) (sh' := SH) (b1 := (0, 0)) d_Model_image_32 rfl mw_Model_pack (by decide) (by decide) ml_Model_359 (by decide) s_54 (by decide) rfl rfl rfl (leb rfl) (bz _) (fun _ => rfl) (ok_Model_pack a_73 hv) ?_
  refine w_aload_n (q := 36) d_Model_image_35 rfl rfl ?_
  refine w_get (q := 39) (ci := 12) (j := 39) d_Model_image_36 rfl (by decide) fl_Model_102 (by decide) (by decide) s_54 rfl rfl ?_
  refine w_aload_n (q := 40) d_Model_image_39 rfl rfl ?_
  refine w_get (q := 43) (ci := 12) (j := 23) d_Model_image_40 rfl (by decide) fl_Model_81 (by decide) (by decide) s_54 rfl rfl ?_
  obtain ⟨v2, hv, h⟩ := bnd h
  refine w_callSv (q := 46) (M' := M_Model_be) (n' := 0) (As := [.ref 74, .ref 67]) (sh' := SH) (b1 := (0, 0)) d_Model_image_43 rfl mw_Model_be (by decide) (by decide) ml_Model_455 rfl rfl (leb rfl) (bz _) (fun _ => rfl) (ok_Model_be a_74 a_67 hv) ?_
  refine w_aload_n (q := 47) d_Model_image_46 rfl rfl ?_
  refine w_get (q := 50) (ci := 12) (j := 40) d_Model_image_47 rfl (by decide) fl_Model_105 (by decide) (by decide) s_54 rfl rfl ?_
  refine w_aload_n (q := 51) d_Model_image_50 rfl rfl ?_
  refine w_get (q := 54) (ci := 12) (j := 32) d_Model_image_51 rfl (by decide) fl_Model_93 (by decide) (by decide) s_54 rfl rfl ?_
  obtain ⟨v3, hv, h⟩ := bnd h
  refine w_callSv (q := 57) (M' := M_Model_be) (n' := 0) (As := [.ref 75, .ref 71]) (sh' := SH) (b1 := (0, 0)) d_Model_image_54 rfl mw_Model_be (by decide) (by decide) ml_Model_455 rfl rfl (leb rfl) (bz _) (fun _ => rfl) (ok_Model_be a_75 a_71 hv) ?_
  refine w_aload_n (q := 58) d_Model_image_57 rfl rfl ?_
  refine w_get (q := 61) (ci := 12) (j := 41) d_Model_image_58 rfl (by decide) fl_Model_108 (by decide) (by decide) s_54 rfl rfl ?_
  refine w_aload_n (q := 62) d_Model_image_61 rfl rfl ?_
  refine w_get (q := 65) (ci := 12) (j := 33) d_Model_image_62 rfl (by decide) fl_Model_96 (by decide) (by decide) s_54 rfl rfl ?_
  obtain ⟨v4, hv, h⟩ := bnd h
  refine w_callSv (q := 68) (M' := M_Model_be) (n' := 0) (As := [.ref 76, .ref 72]) (sh' := SH) (b1 := (0, 0)) d_Model_image_65 rfl mw_Model_be (by decide) (by decide) ml_Model_455 rfl rfl (leb rfl) (bz _) (fun _ => rfl) (ok_Model_be a_76 a_72 hv) ?_
  refine w_aload_n (q := 69) d_Model_image_68 rfl rfl ?_
  refine w_get (q := 72) (ci := 12) (j := 42) d_Model_image_69 rfl (by decide) fl_Model_111 (by decide) (by decide) s_54 rfl rfl ?_
  refine w_aload_n (q := 73) d_Model_image_72 rfl rfl ?_
  refine w_get (q := 76) (ci := 12) (j := 10) d_Model_image_73 rfl (by decide) fl_Model_68 (by decide) (by decide) s_54 rfl rfl ?_
  obtain ⟨v5, hv, h⟩ := bnd h
  refine w_callSv (q := 79) (M' := M_Model_be) (n' := 0) (As := [.ref 77, .ref 64]) (sh' := SH) (b1 := (0, 0)) d_Model_image_76 rfl mw_Model_be (by decide) (by decide) ml_Model_455 rfl rfl (leb rfl) (bz _) (fun _ => rfl) (ok_Model_be a_77 a_64 hv) ?_
  cases h
  exact w_return d_Model_image_79 rfl ⟨rfl, rfl, rfl, rfl⟩
def sp_Model_restore (F : Nat) (g : Mem) : Option (Int32 × Mem) := if ((mset g 54 3 0) 54 35) = 0 then some (0, (mset g 54 3 0)) else (sp_Model_unpack F 73 231 0 (mset (mset (mset g 54 3 0) 54 27 ((mset g 54 3 0) 54 36)) 54 28 ((mset (mset g 54 3 0) 54 27 ((mset g 54 3 0) 54 36)) 54 37))).bind fun v2 => (sp_Model_be F 67 9240 74 9240 v2).bind fun v3 => (sp_Model_be F 71 8 75 8 v3).bind fun v4 => (sp_Model_be F 72 8 76 8 v4).bind fun v5 => (sp_Model_be F 64 3 77 3 v5).bind fun v6 => some (1, v6)
theorem ok_Model_restore {γ : GG} {tt : Bool} {F : Nat} {g : Mem} {res : Int32 × Mem} (h : sp_Model_restore F g = some res) : CA γ M_Model_restore 1 [.ref 54] SH g tt (0, 0) (pI SH res.1 res.2 tt) := by
  refine CA.of mw_Model_restore.1 0 rfl ?_
  show WA γ M_Model_restore 1 0 [some (.ref 54)] [] SH g tt (0, 0) (pI SH res.1 res.2 tt)
  unfold sp_Model_restore at h
  refine w_aload_n (q := 1) d_Model_restore_0 rfl rfl ?_
  refine w_iconst (q := 2) (v := 0) d_Model_restore_1 rfl (by decide) ?_
  refine w_put (q := 5) (ci := 12) (j := 3) d_Model_restore_2 rfl (by decide) fl_Model_114 (by decide) (by decide) s_54 rfl rfl rfl rfl rfl rfl ?_
  refine w_aload_n (q := 6) d_Model_restore_5 rfl rfl ?_
  refine w_get (q := 9) (ci := 12) (j := 35) d_Model_restore_6 rfl (by decide) fl_Model_301 (by decide) (by decide) s_54 rfl rfl ?_
  by_cases c1 : ((mset g 54 3 0) 54 35) = 0
  · rw [if_pos c1] at h
    refine w_if_ne_f (q := 12) d_Model_restore_9 14 rfl rfl c1 ?_
    refine w_iconst (q := 13) (v := 0) d_Model_restore_12 rfl (by decide) ?_
    cases h
    exact w_ireturn d_Model_restore_13 rfl rfl ⟨rfl, rfl, rfl, rfl⟩
  · rw [if_neg c1] at h
    refine w_if_ne_t (q := 14) d_Model_restore_9 rfl c1 ?_
    refine w_aload_n (q := 15) d_Model_restore_14 rfl rfl ?_
    refine w_aload_n (q := 16) d_Model_restore_15 rfl rfl ?_
    refine w_get (q := 19) (ci := 12) (j := 36) d_Model_restore_16 rfl (by decide) fl_Model_449 (by decide) (by decide) s_54 rfl rfl ?_
    refine w_put (q := 22) (ci := 12) (j := 27) d_Model_restore_19 rfl (by decide) fl_Model_295 (by decide) (by decide) s_54 rfl rfl rfl rfl rfl rfl ?_
    refine w_aload_n (q := 23) d_Model_restore_22 rfl rfl ?_
    refine w_aload_n (q := 24) d_Model_restore_23 rfl rfl ?_
    refine w_get (q := 27) (ci := 12) (j := 37) d_Model_restore_24 rfl (by decide) fl_Model_452 (by decide) (by decide) s_54 rfl rfl ?_
    refine w_put (q := 30) (ci := 12) (j := 28) d_Model_restore_27 rfl (by decide) fl_Model_298 (by decide) (by decide) s_54 rfl rfl rfl rfl rfl rfl ?_
    refine w_aload_n (q := 31) d_Model_restore_30 rfl rfl ?_
    refine w_aload_n (q := 32) d_Model_restore_31 rfl rfl ?_
    refine w_get (q := 35) (ci := 12) (j := 38) d_Model_restore_32 rfl (by decide) fl_Model_99 (by decide) (by decide) s_54 rfl rfl ?_
    refine w_iconst (q := 36) (v := 0) d_Model_restore_35 rfl (by decide) ?_
    obtain ⟨v2, hv, h⟩ := bnd h
    refine w_callVv (q := 39) (M' := M_Model_unpack) (n' := 0) (k := 54) (As := [.ref 73, .int 0]) (sh' := SH) (b1 := (0, 0)) d_Model_restore_36 rfl mw_Model_unpack (by decide) (by decide) ml_Model_393 (by decide) s_54 (by decide) rfl rfl rfl (leb rfl) (bz _) (fun _ => rfl) (ok_Model_unpack a_73 hv) ?_
    refine w_aload_n (q := 40) d_Model_restore_39 rfl rfl ?_
    refine w_get (q := 43) (ci := 12) (j := 23) d_Model_restore_40 rfl (by decide) fl_Model_81 (by decide) (by decide) s_54 rfl rfl ?_
    refine w_aload_n (q := 44) d_Model_restore_43 rfl rfl ?_
    refine w_get (q := 47) (ci := 12) (j := 39) d_Model_restore_44 rfl (by decide) fl_Model_102 (by decide) (by decide) s_54 rfl rfl ?_
    obtain ⟨v3, hv, h⟩ := bnd h
    refine w_callSv (q := 50) (M' := M_Model_be) (n' := 0) (As := [.ref 67, .ref 74]) (sh' := SH) (b1 := (0, 0)) d_Model_restore_47 rfl mw_Model_be (by decide) (by decide) ml_Model_455 rfl rfl (leb rfl) (bz _) (fun _ => rfl) (ok_Model_be a_67 a_74 hv) ?_
    refine w_aload_n (q := 51) d_Model_restore_50 rfl rfl ?_
    refine w_get (q := 54) (ci := 12) (j := 32) d_Model_restore_51 rfl (by decide) fl_Model_93 (by decide) (by decide) s_54 rfl rfl ?_
    refine w_aload_n (q := 55) d_Model_restore_54 rfl rfl ?_
    refine w_get (q := 58) (ci := 12) (j := 40) d_Model_restore_55 rfl (by decide) fl_Model_105 (by decide) (by decide) s_54 rfl rfl ?_
    obtain ⟨v4, hv, h⟩ := bnd h
    refine w_callSv (q := 61) (M' := M_Model_be) (n' := 0) (As := [.ref 71, .ref 75]) (sh' := SH) (b1 := (0, 0)) d_Model_restore_58 rfl mw_Model_be (by decide) (by decide) ml_Model_455 rfl rfl (leb rfl) (bz _) (fun _ => rfl) (ok_Model_be a_71 a_75 hv) ?_
    refine w_aload_n (q := 62) d_Model_restore_61 rfl rfl ?_
    refine w_get (q := 65) (ci := 12) (j := 33) d_Model_restore_62 rfl (by decide) fl_Model_96 (by decide) (by decide) s_54 rfl rfl ?_
    refine w_aload_n (q := 66) d_Model_restore_65 rfl rfl ?_
    refine w_get (q := 69) (ci := 12) (j := 41) d_Model_restore_66 rfl (by decide) fl_Model_108 (by decide) (by decide) s_54 rfl rfl ?_
    obtain ⟨v5, hv, h⟩ := bnd h
    refine w_callSv (q := 72) (M' := M_Model_be) (n' := 0) (As := [.ref 72, .ref 76]) (sh' := SH) (b1 := (0, 0)) d_Model_restore_69 rfl mw_Model_be (by decide) (by decide) ml_Model_455 rfl rfl (leb rfl) (bz _) (fun _ => rfl) (ok_Model_be a_72 a_76 hv) ?_
    refine w_aload_n (q := 73) d_Model_restore_72 rfl rfl ?_
    refine w_get (q := 76) (ci := 12) (j := 10) d_Model_restore_73 rfl (by decide) fl_Model_68 (by decide) (by decide) s_54 rfl rfl ?_
    refine w_aload_n (q := 77) d_Model_restore_76 rfl rfl ?_
    refine w_get (q := 80) (ci := 12) (j := 42) d_Model_restore_77 rfl (by decide) fl_Model_111 (by decide) (by decide) s_54 rfl rfl ?_
    obtain ⟨v6, hv, h⟩ := bnd h
    refine w_callSv (q := 83) (M' := M_Model_be) (n' := 0) (As := [.ref 64, .ref 77]) (sh' := SH) (b1 := (0, 0)) d_Model_restore_80 rfl mw_Model_be (by decide) (by decide) ml_Model_455 rfl rfl (leb rfl) (bz _) (fun _ => rfl) (ok_Model_be a_64 a_77 hv) ?_
    refine w_iconst (q := 84) (v := 1) d_Model_restore_83 rfl (by decide) ?_
    cases h
    exact w_ireturn d_Model_restore_84 rfl rfl ⟨rfl, rfl, rfl, rfl⟩
