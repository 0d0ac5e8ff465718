/-! functions and theorems of 22.hair (by program: wip/gen/main.py) -/
def sp_Hair_begin (F : Nat) (ha : Nat) (ro : Nat) (g : Mem) : Option (Mem) := (sp_JArrays_fill F (ha + 1) 6 0 (mset (mset (mset (mset g ha 3 0) ha 4 0) ha 5 0) ha 6 0)).bind fun v1 => (sp_JArrays_fill F (ha + 2) 6 (-1) v1).bind fun v2 => some v2
theorem ok_Hair_begin {γ : GG} {sh : List Sh} {tt : Bool} {F : Nat} {ha : Nat} {ro : Nat} {g : Mem} (hHair : isHair sh ha ro) {res : Mem} (h : sp_Hair_begin F ha ro g = some res) : CA γ M_Hair_begin 1 [.ref ha] sh g tt (0, 0) (pV sh res tt) := by
  refine CA.of mw_Hair_begin.1 0 rfl ?_
  show WA γ M_Hair_begin 1 0 [some (.ref ha)] [] sh g tt (0, 0) (pV sh res tt)
  unfold sp_Hair_begin at h
  refine w_aload_n (q := 1) d_Hair_begin_0 rfl rfl ?_
  refine w_iconst (q := 2) (v := 0) d_Hair_begin_1 rfl (by decide) ?_
  refine w_put (q := 5) (ci := 2) (j := 3) d_Hair_begin_2 rfl (by decide) fl_Hair_22 (by decide) hHair.2.1 hHair.1 rfl rfl rfl rfl rfl rfl ?_
  refine w_aload_n (q := 6) d_Hair_begin_5 rfl rfl ?_
  refine w_iconst (q := 7) (v := 0) d_Hair_begin_6 rfl (by decide) ?_
  refine w_put (q := 10) (ci := 2) (j := 4) d_Hair_begin_7 rfl (by decide) fl_Hair_26 (by decide) hHair.2.1 hHair.1 rfl rfl rfl rfl rfl rfl ?_
  refine w_aload_n (q := 11) d_Hair_begin_10 rfl rfl ?_
  refine w_iconst (q := 12) (v := 0) d_Hair_begin_11 rfl (by decide) ?_
  refine w_put (q := 15) (ci := 2) (j := 5) d_Hair_begin_12 rfl (by decide) fl_Hair_29 (by decide) hHair.2.1 hHair.1 rfl rfl rfl rfl rfl rfl ?_
  refine w_aload_n (q := 16) d_Hair_begin_15 rfl rfl ?_
  refine w_iconst (q := 17) (v := 0) d_Hair_begin_16 rfl (by decide) ?_
  refine w_put (q := 20) (ci := 2) (j := 6) d_Hair_begin_17 rfl (by decide) fl_Hair_32 (by decide) hHair.2.1 hHair.1 rfl rfl rfl rfl rfl rfl ?_
  refine w_aload_n (q := 21) d_Hair_begin_20 rfl rfl ?_
  refine w_get (q := 24) (ci := 2) (j := 1) d_Hair_begin_21 rfl (by decide) fl_Hair_9 (by decide) hHair.2.1 hHair.1 rfl rfl ?_
  refine w_iconst (q := 25) (v := 0) d_Hair_begin_24 rfl (by decide) ?_
  obtain ⟨v1, hv, h⟩ := bnd h
  refine w_callSv (q := 28) (M' := M_JArrays_fill) (n' := 0) (As := [.ref (ha + 1), .int 0]) (sh' := sh) (b1 := (0, 0)) d_Hair_begin_25 rfl mw_JArrays_fill (by decide) (by decide) ml_Hair_35 rfl rfl (leb rfl) (bz _) (fun _ => rfl) (ok_JArrays_fill hHair.2.2.1 hv) ?_
  refine w_aload_n (q := 29) d_Hair_begin_28 rfl rfl ?_
  refine w_get (q := 32) (ci := 2) (j := 2) d_Hair_begin_29 rfl (by decide) fl_Hair_15 (by decide) hHair.2.1 hHair.1 rfl rfl ?_
  refine w_iconst (q := 33) (v := (-1)) d_Hair_begin_32 rfl (by decide) ?_
  obtain ⟨v2, hv, h⟩ := bnd h
  refine w_callSv (q := 36) (M' := M_JArrays_fill) (n' := 0) (As := [.ref (ha + 2), .int ((-1))]) (sh' := sh) (b1 := (0, 0)) d_Hair_begin_33 rfl mw_JArrays_fill (by decide) (by decide) ml_Hair_35 rfl rfl (leb rfl) (bz _) (fun _ => rfl) (ok_JArrays_fill hHair.2.2.2.1 hv) ?_
  cases h
  exact w_return d_Hair_begin_36 rfl ⟨rfl, rfl, rfl, rfl⟩
def sp_Hair_take (ha : Nat) (ro : Nat) (o0ha : Nat) (o0ro : Nat) (g : Mem) : Option (Mem) := (cy (mset (mset (mset (mset g ha 3 (g o0ha 3)) ha 4 ((mset g ha 3 (g o0ha 3)) o0ha 4)) ha 5 ((mset (mset g ha 3 (g o0ha 3)) ha 4 ((mset g ha 3 (g o0ha 3)) o0ha 4)) o0ha 5)) ha 6 ((mset (mset (mset g ha 3 (g o0ha 3)) ha 4 ((mset g ha 3 (g o0ha 3)) o0ha 4)) ha 5 ((mset (mset g ha 3 (g o0ha 3)) ha 4 ((mset g ha 3 (g o0ha 3)) o0ha 4)) o0ha 5)) o0ha 6)) (o0ha + 1) 6 0 (ha + 1) 6 0 6).bind fun g1 => (cy g1 (o0ha + 2) 6 0 (ha + 2) 6 0 6).bind fun g2 => some g2
theorem ok_Hair_take {γ : GG} {sh : List Sh} {tt : Bool} {ha : Nat} {ro : Nat} {o0ha : Nat} {o0ro : Nat} {g : Mem} (hHair : isHair sh ha ro) (ho0Hair : isHair sh o0ha o0ro) {res : Mem} (h : sp_Hair_take ha ro o0ha o0ro g = some res) : CA γ M_Hair_take 0 [.ref ha, .ref o0ha] sh g tt (0, 0) (pV sh res tt) := by
  refine CA.of mw_Hair_take.1 0 rfl ?_
  show WA γ M_Hair_take 0 0 [some (.ref ha), some (.ref o0ha)] [] sh g tt (0, 0) (pV sh res tt)
  unfold sp_Hair_take at h
  refine w_aload_n (q := 1) d_Hair_take_0 rfl rfl ?_
  refine w_aload_n (q := 2) d_Hair_take_1 rfl rfl ?_
  refine w_get (q := 5) (ci := 2) (j := 3) d_Hair_take_2 rfl (by decide) fl_Hair_22 (by decide) ho0Hair.2.1 ho0Hair.1 rfl rfl ?_
  refine w_put (q := 8) (ci := 2) (j := 3) d_Hair_take_5 rfl (by decide) fl_Hair_22 (by decide) hHair.2.1 hHair.1 rfl rfl rfl rfl rfl rfl ?_
  refine w_aload_n (q := 9) d_Hair_take_8 rfl rfl ?_
  refine w_aload_n (q := 10) d_Hair_take_9 rfl rfl ?_
  refine w_get (q := 13) (ci := 2) (j := 4) d_Hair_take_10 rfl (by decide) fl_Hair_26 (by decide) ho0Hair.2.1 ho0Hair.1 rfl rfl ?_
  refine w_put (q := 16) (ci := 2) (j := 4) d_Hair_take_13 rfl (by decide) fl_Hair_26 (by decide) hHair.2.1 hHair.1 rfl rfl rfl rfl rfl rfl ?_
  refine w_aload_n (q := 17) d_Hair_take_16 rfl rfl ?_
  refine w_aload_n (q := 18) d_Hair_take_17 rfl rfl ?_
  refine w_get (q := 21) (ci := 2) (j := 5) d_Hair_take_18 rfl (by decide) fl_Hair_29 (by decide) ho0Hair.2.1 ho0Hair.1 rfl rfl ?_
  refine w_put (q := 24) (ci := 2) (j := 5) d_Hair_take_21 rfl (by decide) fl_Hair_29 (by decide) hHair.2.1 hHair.1 rfl rfl rfl rfl rfl rfl ?_
  refine w_aload_n (q := 25) d_Hair_take_24 rfl rfl ?_
  refine w_aload_n (q := 26) d_Hair_take_25 rfl rfl ?_
  refine w_get (q := 29) (ci := 2) (j := 6) d_Hair_take_26 rfl (by decide) fl_Hair_32 (by decide) ho0Hair.2.1 ho0Hair.1 rfl rfl ?_
  refine w_put (q := 32) (ci := 2) (j := 6) d_Hair_take_29 rfl (by decide) fl_Hair_32 (by decide) hHair.2.1 hHair.1 rfl rfl rfl rfl rfl rfl ?_
  refine w_aload_n (q := 33) d_Hair_take_32 rfl rfl ?_
  refine w_get (q := 36) (ci := 2) (j := 1) d_Hair_take_33 rfl (by decide) fl_Hair_9 (by decide) ho0Hair.2.1 ho0Hair.1 rfl rfl ?_
  refine w_iconst (q := 37) (v := 0) d_Hair_take_36 rfl (by decide) ?_
  refine w_aload_n (q := 38) d_Hair_take_37 rfl rfl ?_
  refine w_get (q := 41) (ci := 2) (j := 1) d_Hair_take_38 rfl (by decide) fl_Hair_9 (by decide) hHair.2.1 hHair.1 rfl rfl ?_
  refine w_iconst (q := 42) (v := 0) d_Hair_take_41 rfl (by decide) ?_
  refine w_bipush (q := 44) (v := 6) d_Hair_take_42 rfl (by decide) ?_
  obtain ⟨g1, hv, h⟩ := bnd h
  obtain ⟨hi, hv⟩ := cy_ok hv
  refine w_copy (q := 47) d_Hair_take_44 rfl ml_Hair_41 wd_native wd_static wi_java_lang_System ho0Hair.2.2.1.2 hHair.2.2.1.2 ho0Hair.2.2.1.1 hHair.2.2.1.1 hi (leb rfl) hv ?_
  refine w_aload_n (q := 48) d_Hair_take_47 rfl rfl ?_
  refine w_get (q := 51) (ci := 2) (j := 2) d_Hair_take_48 rfl (by decide) fl_Hair_15 (by decide) ho0Hair.2.1 ho0Hair.1 rfl rfl ?_
  refine w_iconst (q := 52) (v := 0) d_Hair_take_51 rfl (by decide) ?_
  refine w_aload_n (q := 53) d_Hair_take_52 rfl rfl ?_
  refine w_get (q := 56) (ci := 2) (j := 2) d_Hair_take_53 rfl (by decide) fl_Hair_15 (by decide) hHair.2.1 hHair.1 rfl rfl ?_
  refine w_iconst (q := 57) (v := 0) d_Hair_take_56 rfl (by decide) ?_
  refine w_bipush (q := 59) (v := 6) d_Hair_take_57 rfl (by decide) ?_
  obtain ⟨g2, hv, h⟩ := bnd h
  obtain ⟨hi, hv⟩ := cy_ok hv
  refine w_copy (q := 62) d_Hair_take_59 rfl ml_Hair_41 wd_native wd_static wi_java_lang_System ho0Hair.2.2.2.1.2 hHair.2.2.2.1.2 ho0Hair.2.2.2.1.1 hHair.2.2.2.1.1 hi (leb rfl) hv ?_
  cases h
  exact w_return d_Hair_take_62 rfl ⟨rfl, rfl, rfl, rfl⟩
def sp_Hair_writeTo (ha : Nat) (ro : Nat) (q0 : Nat) (q0n : Nat) (p1 : Int32) (g : Mem) : Option (Mem) := (wr g q0 q0n p1 (g ha 3)).bind fun g1 => (wr g1 q0 q0n (p1 + 1) (g1 ha 4)).bind fun g2 => (wr g2 q0 q0n (p1 + 2) (g2 ha 5)).bind fun g3 => (wr g3 q0 q0n (p1 + 3) (g3 ha 6)).bind fun g4 => (cy g4 (ha + 1) 6 0 q0 q0n (p1 + 4) 6).bind fun g5 => (cy g5 (ha + 2) 6 0 q0 q0n ((p1 + 4) + 6) 6).bind fun g6 => some g6
theorem ok_Hair_writeTo {γ : GG} {sh : List Sh} {tt : Bool} {ha : Nat} {ro : Nat} {q0 : Nat} {q0n : Nat} {p1 : Int32} {g : Mem} (hHair : isHair sh ha ro) (hq0 : isA sh q0 q0n) {res : Mem} (h : sp_Hair_writeTo ha ro q0 q0n p1 g = some res) : CA γ M_Hair_writeTo 0 [.ref ha, .ref q0, .int p1] sh g tt (0, 0) (pV sh res tt) := by
  refine CA.of mw_Hair_writeTo.1 0 rfl ?_
  show WA γ M_Hair_writeTo 0 0 [some (.ref ha), some (.ref q0), some (.int p1)] [] sh g tt (0, 0) (pV sh res tt)
  unfold sp_Hair_writeTo at h
  refine w_aload_n (q := 1) d_Hair_writeTo_0 rfl rfl ?_
  refine w_iload_n (q := 2) d_Hair_writeTo_1 rfl rfl ?_
  refine w_aload_n (q := 3) d_Hair_writeTo_2 rfl rfl ?_
  refine w_get (q := 6) (ci := 2) (j := 3) d_Hair_writeTo_3 rfl (by decide) fl_Hair_22 (by decide) hHair.2.1 hHair.1 rfl rfl ?_
  obtain ⟨g1, hv, h⟩ := bnd h
  obtain ⟨hi, hv⟩ := wr_ok hv
  refine w_iast (q := 7) d_Hair_writeTo_6 rfl hq0.2 hq0.1 hi hv ?_
  refine w_aload_n (q := 8) d_Hair_writeTo_7 rfl rfl ?_
  refine w_iload_n (q := 9) d_Hair_writeTo_8 rfl rfl ?_
  refine w_iconst (q := 10) (v := 1) d_Hair_writeTo_9 rfl (by decide) ?_
  refine w_iadd (q := 11) d_Hair_writeTo_10 rfl ?_
  refine w_aload_n (q := 12) d_Hair_writeTo_11 rfl rfl ?_
  refine w_get (q := 15) (ci := 2) (j := 4) d_Hair_writeTo_12 rfl (by decide) fl_Hair_26 (by decide) hHair.2.1 hHair.1 rfl rfl ?_
  obtain ⟨g2, hv, h⟩ := bnd h
  obtain ⟨hi, hv⟩ := wr_ok hv
  refine w_iast (q := 16) d_Hair_writeTo_15 rfl hq0.2 hq0.1 hi hv ?_
  refine w_aload_n (q := 17) d_Hair_writeTo_16 rfl rfl ?_
  refine w_iload_n (q := 18) d_Hair_writeTo_17 rfl rfl ?_
  refine w_iconst (q := 19) (v := 2) d_Hair_writeTo_18 rfl (by decide) ?_
  refine w_iadd (q := 20) d_Hair_writeTo_19 rfl ?_
  refine w_aload_n (q := 21) d_Hair_writeTo_20 rfl rfl ?_
  refine w_get (q := 24) (ci := 2) (j := 5) d_Hair_writeTo_21 rfl (by decide) fl_Hair_29 (by decide) hHair.2.1 hHair.1 rfl rfl ?_
  obtain ⟨g3, hv, h⟩ := bnd h
  obtain ⟨hi, hv⟩ := wr_ok hv
  refine w_iast (q := 25) d_Hair_writeTo_24 rfl hq0.2 hq0.1 hi hv ?_
  refine w_aload_n (q := 26) d_Hair_writeTo_25 rfl rfl ?_
  refine w_iload_n (q := 27) d_Hair_writeTo_26 rfl rfl ?_
  refine w_iconst (q := 28) (v := 3) d_Hair_writeTo_27 rfl (by decide) ?_
  refine w_iadd (q := 29) d_Hair_writeTo_28 rfl ?_
  refine w_aload_n (q := 30) d_Hair_writeTo_29 rfl rfl ?_
  refine w_get (q := 33) (ci := 2) (j := 6) d_Hair_writeTo_30 rfl (by decide) fl_Hair_32 (by decide) hHair.2.1 hHair.1 rfl rfl ?_
  obtain ⟨g4, hv, h⟩ := bnd h
  obtain ⟨hi, hv⟩ := wr_ok hv
  refine w_iast (q := 34) d_Hair_writeTo_33 rfl hq0.2 hq0.1 hi hv ?_
  refine w_aload_n (q := 35) d_Hair_writeTo_34 rfl rfl ?_
  refine w_get (q := 38) (ci := 2) (j := 1) d_Hair_writeTo_35 rfl (by decide) fl_Hair_9 (by decide) hHair.2.1 hHair.1 rfl rfl ?_
  refine w_iconst (q := 39) (v := 0) d_Hair_writeTo_38 rfl (by decide) ?_
  refine w_aload_n (q := 40) d_Hair_writeTo_39 rfl rfl ?_
  refine w_iload_n (q := 41) d_Hair_writeTo_40 rfl rfl ?_
  refine w_iconst (q := 42) (v := 4) d_Hair_writeTo_41 rfl (by decide) ?_
  refine w_iadd (q := 43) d_Hair_writeTo_42 rfl ?_
  refine w_bipush (q := 45) (v := 6) d_Hair_writeTo_43 rfl (by decide) ?_
  obtain ⟨g5, hv, h⟩ := bnd h
  obtain ⟨hi, hv⟩ := cy_ok hv
  refine w_copy (q := 48) d_Hair_writeTo_45 rfl ml_Hair_41 wd_native wd_static wi_java_lang_System hHair.2.2.1.2 hq0.2 hHair.2.2.1.1 hq0.1 hi (leb rfl) hv ?_
  refine w_aload_n (q := 49) d_Hair_writeTo_48 rfl rfl ?_
  refine w_get (q := 52) (ci := 2) (j := 2) d_Hair_writeTo_49 rfl (by decide) fl_Hair_15 (by decide) hHair.2.1 hHair.1 rfl rfl ?_
  refine w_iconst (q := 53) (v := 0) d_Hair_writeTo_52 rfl (by decide) ?_
  refine w_aload_n (q := 54) d_Hair_writeTo_53 rfl rfl ?_
  refine w_iload_n (q := 55) d_Hair_writeTo_54 rfl rfl ?_
  refine w_iconst (q := 56) (v := 4) d_Hair_writeTo_55 rfl (by decide) ?_
  refine w_iadd (q := 57) d_Hair_writeTo_56 rfl ?_
  refine w_bipush (q := 59) (v := 6) d_Hair_writeTo_57 rfl (by decide) ?_
  refine w_iadd (q := 60) d_Hair_writeTo_59 rfl ?_
  refine w_bipush (q := 62) (v := 6) d_Hair_writeTo_60 rfl (by decide) ?_
  obtain ⟨g6, hv, h⟩ := bnd h
  obtain ⟨hi, hv⟩ := cy_ok hv
  refine w_copy (q := 65) d_Hair_writeTo_62 rfl ml_Hair_41 wd_native wd_static wi_java_lang_System hHair.2.2.2.1.2 hq0.2 hHair.2.2.2.1.1 hq0.1 hi (leb rfl) hv ?_
  cases h
  exact w_return d_Hair_writeTo_65 rfl ⟨rfl, rfl, rfl, rfl⟩
def sp_Hair_readFrom (ha : Nat) (ro : Nat) (q0 : Nat) (q0n : Nat) (p1 : Int32) (g : Mem) : Option (Mem) := (rd g q0 q0n p1).bind fun v1 => (rd (mset g ha 3 v1) q0 q0n (p1 + 1)).bind fun v2 => (rd (mset (mset g ha 3 v1) ha 4 v2) q0 q0n (p1 + 2)).bind fun v3 => (rd (mset (mset (mset g ha 3 v1) ha 4 v2) ha 5 v3) q0 q0n (p1 + 3)).bind fun v4 => (cy (mset (mset (mset (mset g ha 3 v1) ha 4 v2) ha 5 v3) ha 6 v4) q0 q0n (p1 + 4) (ha + 1) 6 0 6).bind fun g5 => (cy g5 q0 q0n ((p1 + 4) + 6) (ha + 2) 6 0 6).bind fun g6 => some g6
theorem ok_Hair_readFrom {γ : GG} {sh : List Sh} {tt : Bool} {ha : Nat} {ro : Nat} {q0 : Nat} {q0n : Nat} {p1 : Int32} {g : Mem} (hHair : isHair sh ha ro) (hq0 : isA sh q0 q0n) {res : Mem} (h : sp_Hair_readFrom ha ro q0 q0n p1 g = some res) : CA γ M_Hair_readFrom 0 [.ref ha, .ref q0, .int p1] sh g tt (0, 0) (pV sh res tt) := by
  refine CA.of mw_Hair_readFrom.1 0 rfl ?_
  show WA γ M_Hair_readFrom 0 0 [some (.ref ha), some (.ref q0), some (.int p1)] [] sh g tt (0, 0) (pV sh res tt)
  unfold sp_Hair_readFrom at h
  refine w_aload_n (q := 1) d_Hair_readFrom_0 rfl rfl ?_
  refine w_aload_n (q := 2) d_Hair_readFrom_1 rfl rfl ?_
  refine w_iload_n (q := 3) d_Hair_readFrom_2 rfl rfl ?_
  obtain ⟨v1, hv, h⟩ := bnd h
  obtain ⟨hi, hv⟩ := rd_ok hv
  refine w_iald (q := 4) (t := 0) d_Hair_readFrom_3 rfl hq0.2 hq0.1 hi rfl ?_
  rw [hv]
  refine w_put (q := 7) (ci := 2) (j := 3) d_Hair_readFrom_4 rfl (by decide) fl_Hair_22 (by decide) hHair.2.1 hHair.1 rfl rfl rfl rfl rfl rfl ?_
  refine w_aload_n (q := 8) d_Hair_readFrom_7 rfl rfl ?_
  refine w_aload_n (q := 9) d_Hair_readFrom_8 rfl rfl ?_
  refine w_iload_n (q := 10) d_Hair_readFrom_9 rfl rfl ?_
  refine w_iconst (q := 11) (v := 1) d_Hair_readFrom_10 rfl (by decide) ?_
  refine w_iadd (q := 12) d_Hair_readFrom_11 rfl ?_
  obtain ⟨v2, hv, h⟩ := bnd h
  obtain ⟨hi, hv⟩ := rd_ok hv
  refine w_iald (q := 13) (t := 0) d_Hair_readFrom_12 rfl hq0.2 hq0.1 hi rfl ?_
  rw [hv]
  refine w_put (q := 16) (ci := 2) (j := 4) d_Hair_readFrom_13 rfl (by decide) fl_Hair_26 (by decide) hHair.2.1 hHair.1 rfl rfl rfl rfl rfl rfl ?_
  refine w_aload_n (q := 17) d_Hair_readFrom_16 rfl rfl ?_
  refine w_aload_n (q := 18) d_Hair_readFrom_17 rfl rfl ?_
  refine w_iload_n (q := 19) d_Hair_readFrom_18 rfl rfl ?_
  refine w_iconst (q := 20) (v := 2) d_Hair_readFrom_19 rfl (by decide) ?_
  refine w_iadd (q := 21) d_Hair_readFrom_20 rfl ?_
  obtain ⟨v3, hv, h⟩ := bnd h
  obtain ⟨hi, hv⟩ := rd_ok hv
  refine w_iald (q := 22) (t := 0) d_Hair_readFrom_21 rfl hq0.2 hq0.1 hi rfl ?_
  rw [hv]
  refine w_put (q := 25) (ci := 2) (j := 5) d_Hair_readFrom_22 rfl (by decide) fl_Hair_29 (by decide) hHair.2.1 hHair.1 rfl rfl rfl rfl rfl rfl ?_
  refine w_aload_n (q := 26) d_Hair_readFrom_25 rfl rfl ?_
  refine w_aload_n (q := 27) d_Hair_readFrom_26 rfl rfl ?_
  refine w_iload_n (q := 28) d_Hair_readFrom_27 rfl rfl ?_
  refine w_iconst (q := 29) (v := 3) d_Hair_readFrom_28 rfl (by decide) ?_
  refine w_iadd (q := 30) d_Hair_readFrom_29 rfl ?_
  obtain ⟨v4, hv, h⟩ := bnd h
  obtain ⟨hi, hv⟩ := rd_ok hv
  refine w_iald (q := 31) (t := 0) d_Hair_readFrom_30 rfl hq0.2 hq0.1 hi rfl ?_
  rw [hv]
  refine w_put (q := 34) (ci := 2) (j := 6) d_Hair_readFrom_31 rfl (by decide) fl_Hair_32 (by decide) hHair.2.1 hHair.1 rfl rfl rfl rfl rfl rfl ?_
  refine w_aload_n (q := 35) d_Hair_readFrom_34 rfl rfl ?_
  refine w_iload_n (q := 36) d_Hair_readFrom_35 rfl rfl ?_
  refine w_iconst (q := 37) (v := 4) d_Hair_readFrom_36 rfl (by decide) ?_
  refine w_iadd (q := 38) d_Hair_readFrom_37 rfl ?_
  refine w_aload_n (q := 39) d_Hair_readFrom_38 rfl rfl ?_
  refine w_get (q := 42) (ci := 2) (j := 1) d_Hair_readFrom_39 rfl (by decide) fl_Hair_9 (by decide) hHair.2.1 hHair.1 rfl rfl ?_
  refine w_iconst (q := 43) (v := 0) d_Hair_readFrom_42 rfl (by decide) ?_
  refine w_bipush (q := 45) (v := 6) d_Hair_readFrom_43 rfl (by decide) ?_
  obtain ⟨g5, hv, h⟩ := bnd h
  obtain ⟨hi, hv⟩ := cy_ok hv
  refine w_copy (q := 48) d_Hair_readFrom_45 rfl ml_Hair_41 wd_native wd_static wi_java_lang_System hq0.2 hHair.2.2.1.2 hq0.1 hHair.2.2.1.1 hi (leb rfl) hv ?_
  refine w_aload_n (q := 49) d_Hair_readFrom_48 rfl rfl ?_
  refine w_iload_n (q := 50) d_Hair_readFrom_49 rfl rfl ?_
  refine w_iconst (q := 51) (v := 4) d_Hair_readFrom_50 rfl (by decide) ?_
  refine w_iadd (q := 52) d_Hair_readFrom_51 rfl ?_
  refine w_bipush (q := 54) (v := 6) d_Hair_readFrom_52 rfl (by decide) ?_
  refine w_iadd (q := 55) d_Hair_readFrom_54 rfl ?_
  refine w_aload_n (q := 56) d_Hair_readFrom_55 rfl rfl ?_
  refine w_get (q := 59) (ci := 2) (j := 2) d_Hair_readFrom_56 rfl (by decide) fl_Hair_15 (by decide) hHair.2.1 hHair.1 rfl rfl ?_
  refine w_iconst (q := 60) (v := 0) d_Hair_readFrom_59 rfl (by decide) ?_
  refine w_bipush (q := 62) (v := 6) d_Hair_readFrom_60 rfl (by decide) ?_
  obtain ⟨g6, hv, h⟩ := bnd h
  obtain ⟨hi, hv⟩ := cy_ok hv
  refine w_copy (q := 65) d_Hair_readFrom_62 rfl ml_Hair_41 wd_native wd_static wi_java_lang_System hq0.2 hHair.2.2.2.1.2 hq0.1 hHair.2.2.2.1.1 hi (leb rfl) hv ?_
  cases h
  exact w_return d_Hair_readFrom_65 rfl ⟨rfl, rfl, rfl, rfl⟩
def sp_Hair_isDead (ha : Nat) (ro : Nat) (p0 : Int32) (g : Mem) : Option (Int32) := (rd g (ha + 2) 6 p0).bind fun v1 => if v1 = (-1) then some 0 else some 1
theorem ok_Hair_isDead {γ : GG} {sh : List Sh} {tt : Bool} {ha : Nat} {ro : Nat} {p0 : Int32} {g : Mem} (hHair : isHair sh ha ro) {res : Int32} (h : sp_Hair_isDead ha ro p0 g = some res) : CA γ M_Hair_isDead 0 [.ref ha, .int p0] sh g tt (0, 0) (pI sh res g tt) := by
  refine CA.of mw_Hair_isDead.1 0 rfl ?_
  show WA γ M_Hair_isDead 0 0 [some (.ref ha), some (.int p0)] [] sh g tt (0, 0) (pI sh res g tt)
  unfold sp_Hair_isDead at h
  refine w_aload_n (q := 1) d_Hair_isDead_0 rfl rfl ?_
  refine w_get (q := 4) (ci := 2) (j := 2) d_Hair_isDead_1 rfl (by decide) fl_Hair_15 (by decide) hHair.2.1 hHair.1 rfl rfl ?_
  refine w_iload_n (q := 5) d_Hair_isDead_4 rfl rfl ?_
  obtain ⟨v1, hv, h⟩ := bnd h
  obtain ⟨hi, hv⟩ := rd_ok hv
  refine w_iald (q := 6) (t := 0) d_Hair_isDead_5 rfl hHair.2.2.2.1.2 hHair.2.2.2.1.1 hi rfl ?_
  rw [hv]
  refine w_iconst (q := 7) (v := (-1)) d_Hair_isDead_6 rfl (by decide) ?_
  by_cases c2 : v1 = (-1)
  · rw [if_pos c2] at h
    refine w_icmp_eq_t (q := 14) d_Hair_isDead_7 rfl c2 ?_
    refine w_iconst (q := 15) (v := 0) d_Hair_isDead_14 rfl (by decide) ?_
    cases h
    exact w_ireturn d_Hair_isDead_15 rfl rfl ⟨rfl, rfl, rfl, rfl⟩
  · rw [if_neg c2] at h
    refine w_icmp_eq_f (q := 10) d_Hair_isDead_7 14 rfl rfl c2 ?_
    refine w_iconst (q := 11) (v := 1) d_Hair_isDead_10 rfl (by decide) ?_
    refine w_goto (q := 15) d_Hair_isDead_11 rfl ?_
    cases h
    exact w_ireturn d_Hair_isDead_15 rfl rfl ⟨rfl, rfl, rfl, rfl⟩
def PL_Hair_deadOnes_4 (γ : GG) (sh : List Sh) (tt : Bool) (ha : Nat) (ro : Nat) (g : Mem) (b : Nat × Nat) (Φ : PO) (s : Int32 × Int32) : Prop := WA γ M_Hair_deadOnes 1 4 [some (.ref ha), some (.int s.1), some (.int s.2)] [] sh g tt b Φ
def QL_Hair_deadOnes_4 (γ : GG) (sh : List Sh) (tt : Bool) (ha : Nat) (ro : Nat) (g : Mem) (b : Nat × Nat) (Φ : PO) (x : (Int32)) : Prop := WA γ M_Hair_deadOnes 1 35 [none, some (.int x), none] [] sh g tt b Φ
def st_Hair_deadOnes_4 (F : Nat) (ha : Nat) (ro : Nat) (g : Mem) (s : Int32 × Int32) : Option ((Int32 × Int32) ⊕ ((Int32))) := if (g ro 0) ≤ s.2 then some (.inr s.1) else (sp_Hair_isDead ha ro s.2 g).bind fun v2 => if v2 = 0 then some (.inl (s.1, s.2 + 1)) else some (.inl (s.1 ||| (1 <<< (s.2 &&& 31)), s.2 + 1))
theorem kl_Hair_deadOnes_4 {γ : GG} {sh : List Sh} {tt : Bool} {F : Nat} {ha : Nat} {ro : Nat} {g : Mem} {b : Nat × Nat} {Φ : PO} (hHair : isHair sh ha ro) : ∀ (s : Int32 × Int32) (r : (Int32 × Int32) ⊕ ((Int32))), st_Hair_deadOnes_4 F ha ro g s = some r → RQ (PL_Hair_deadOnes_4 γ sh tt ha ro g b Φ) (QL_Hair_deadOnes_4 γ sh tt ha ro g b Φ) r → PL_Hair_deadOnes_4 γ sh tt ha ro g b Φ s := by
  intro s r h hr
  unfold st_Hair_deadOnes_4 at h
  unfold PL_Hair_deadOnes_4
  refine w_iload_n (q := 5) d_Hair_deadOnes_4 rfl rfl ?_
  refine w_aload_n (q := 6) d_Hair_deadOnes_5 rfl rfl ?_
  refine w_get (q := 9) (ci := 2) (j := 0) d_Hair_deadOnes_6 rfl (by decide) fl_Hair_18 (by decide) hHair.2.1 hHair.1 rfl rfl ?_
  refine w_get (q := 12) (ci := 7) (j := 0) d_Hair_deadOnes_9 rfl (by decide) fl_Hair_47 (by decide) hHair.2.2.2.2.2.1 hHair.2.2.2.2.1 rfl rfl ?_
  by_cases c1 : (g ro 0) ≤ s.2
  · rw [if_pos c1] at h
    refine w_icmp_ge_t (q := 35) d_Hair_deadOnes_12 rfl c1 ?_
    cases h
    exact w_ls (by exact (And.intro rfl trivial)) hr
  · rw [if_neg c1] at h
    refine w_icmp_ge_f (q := 15) d_Hair_deadOnes_12 35 rfl rfl c1 ?_
    refine w_aload_n (q := 16) d_Hair_deadOnes_15 rfl rfl ?_
    refine w_iload_n (q := 17) d_Hair_deadOnes_16 rfl rfl ?_
    obtain ⟨v2, hv, h⟩ := bnd h
    refine w_callVi (q := 20) (M' := M_Hair_isDead) (n' := 0) (k := ha) (As := [.int s.2]) (sh' := sh) (b1 := (0, 0)) d_Hair_deadOnes_17 rfl mw_Hair_isDead (by decide) (by decide) ml_Hair_52 hHair.2.1 hHair.1 (by decide) rfl rfl rfl (leb rfl) (bz _) (fun _ => rfl) (ok_Hair_isDead hHair hv) ?_
    by_cases c3 : v2 = 0
    · rw [if_pos c3] at h
      refine w_if_eq_t (q := 29) d_Hair_deadOnes_20 rfl c3 ?_
      refine w_iinc (q := 32) (ls' := [some (.ref ha), some (.int s.1), some (.int (s.2 + 1))]) d_Hair_deadOnes_29 rfl (by decide) rfl rfl rfl ?_
      refine w_goto (q := 4) d_Hair_deadOnes_32 rfl ?_
      cases h
      exact w_ls (by exact (And.intro rfl (And.intro rfl (And.intro rfl trivial)))) hr
    · rw [if_neg c3] at h
      refine w_if_eq_f (q := 23) d_Hair_deadOnes_20 29 rfl rfl c3 ?_
      refine w_iload_n (q := 24) d_Hair_deadOnes_23 rfl rfl ?_
      refine w_iconst (q := 25) (v := 1) d_Hair_deadOnes_24 rfl (by decide) ?_
      refine w_iload_n (q := 26) d_Hair_deadOnes_25 rfl rfl ?_
      refine w_ishl (q := 27) d_Hair_deadOnes_26 rfl ?_
      refine w_ior (q := 28) d_Hair_deadOnes_27 rfl ?_
      refine w_istore_n (q := 29) (ls' := [some (.ref ha), some (.int (s.1 ||| (1 <<< (s.2 &&& 31)))), some (.int s.2)]) d_Hair_deadOnes_28 rfl (by decide) rfl rfl ?_
      refine w_iinc (q := 32) (ls' := [some (.ref ha), some (.int (s.1 ||| (1 <<< (s.2 &&& 31)))), some (.int (s.2 + 1))]) d_Hair_deadOnes_29 rfl (by decide) rfl rfl rfl ?_
      refine w_goto (q := 4) d_Hair_deadOnes_32 rfl ?_
      cases h
      exact w_ls (by exact (And.intro rfl (And.intro rfl (And.intro rfl trivial)))) hr
def sp_Hair_deadOnes (F : Nat) (ha : Nat) (ro : Nat) (g : Mem) : Option (Int32) := (lpO (st_Hair_deadOnes_4 F ha ro g) F (0, 0)).bind fun x4 => some x4
theorem ok_Hair_deadOnes {γ : GG} {sh : List Sh} {tt : Bool} {F : Nat} {ha : Nat} {ro : Nat} {g : Mem} (hHair : isHair sh ha ro) {res : Int32} (h : sp_Hair_deadOnes F ha ro g = some res) : CA γ M_Hair_deadOnes 1 [.ref ha] sh g tt (0, 0) (pI sh res g tt) := by
  refine CA.of mw_Hair_deadOnes.1 2 rfl ?_
  show WA γ M_Hair_deadOnes 1 0 [some (.ref ha), none, none] [] sh g tt (0, 0) (pI sh res g tt)
  unfold sp_Hair_deadOnes at h
  refine w_iconst (q := 1) (v := 0) d_Hair_deadOnes_0 rfl (by decide) ?_
  refine w_istore_n (q := 2) (ls' := [some (.ref ha), some (.int 0), none]) d_Hair_deadOnes_1 rfl (by decide) rfl rfl ?_
  refine w_iconst (q := 3) (v := 0) d_Hair_deadOnes_2 rfl (by decide) ?_
  refine w_istore_n (q := 4) (ls' := [some (.ref ha), some (.int 0), some (.int 0)]) d_Hair_deadOnes_3 rfl (by decide) rfl rfl ?_
  obtain ⟨x4, hx, h⟩ := bnd h
  refine w_ls (ls' := [some (.ref ha), some (.int 0), some (.int 0)]) (And.intro rfl (And.intro rfl (And.intro rfl trivial))) ?_
  show PL_Hair_deadOnes_4 γ sh tt ha ro g _ _ (0, 0)
  refine lp_ok (kl_Hair_deadOnes_4 hHair) F _ x4 hx ?_
  unfold QL_Hair_deadOnes_4
  refine w_iload_n (q := 36) d_Hair_deadOnes_35 rfl rfl ?_
  cases h
  exact w_ireturn d_Hair_deadOnes_36 rfl rfl ⟨rfl, rfl, rfl, rfl⟩
def sp_Hair_yearOf (ha : Nat) (ro : Nat) (p0 : Int32) (g : Mem) : Option (Int32) := (rd g (ha + 2) 6 p0).bind fun v1 => if v1 = (-1) then some (g ha 3) else (rd g (ha + 2) 6 p0).bind fun v3 => some v3
theorem ok_Hair_yearOf {γ : GG} {sh : List Sh} {tt : Bool} {ha : Nat} {ro : Nat} {p0 : Int32} {g : Mem} (hHair : isHair sh ha ro) {res : Int32} (h : sp_Hair_yearOf ha ro p0 g = some res) : CA γ M_Hair_yearOf 0 [.ref ha, .int p0] sh g tt (0, 0) (pI sh res g tt) := by
  refine CA.of mw_Hair_yearOf.1 0 rfl ?_
  show WA γ M_Hair_yearOf 0 0 [some (.ref ha), some (.int p0)] [] sh g tt (0, 0) (pI sh res g tt)
  unfold sp_Hair_yearOf at h
  refine w_aload_n (q := 1) d_Hair_yearOf_0 rfl rfl ?_
  refine w_get (q := 4) (ci := 2) (j := 2) d_Hair_yearOf_1 rfl (by decide) fl_Hair_15 (by decide) hHair.2.1 hHair.1 rfl rfl ?_
  refine w_iload_n (q := 5) d_Hair_yearOf_4 rfl rfl ?_
  obtain ⟨v1, hv, h⟩ := bnd h
  obtain ⟨hi, hv⟩ := rd_ok hv
  refine w_iald (q := 6) (t := 0) d_Hair_yearOf_5 rfl hHair.2.2.2.1.2 hHair.2.2.2.1.1 hi rfl ?_
  rw [hv]
  refine w_iconst (q := 7) (v := (-1)) d_Hair_yearOf_6 rfl (by decide) ?_
  by_cases c2 : v1 = (-1)
  · rw [if_pos c2] at h
    refine w_icmp_ne_f (q := 10) d_Hair_yearOf_7 17 rfl rfl c2 ?_
    refine w_aload_n (q := 11) d_Hair_yearOf_10 rfl rfl ?_
    refine w_get (q := 14) (ci := 2) (j := 3) d_Hair_yearOf_11 rfl (by decide) fl_Hair_22 (by decide) hHair.2.1 hHair.1 rfl rfl ?_
    refine w_goto (q := 23) d_Hair_yearOf_14 rfl ?_
    cases h
    exact w_ireturn d_Hair_yearOf_23 rfl rfl ⟨rfl, rfl, rfl, rfl⟩
  · rw [if_neg c2] at h
    refine w_icmp_ne_t (q := 17) d_Hair_yearOf_7 rfl c2 ?_
    refine w_aload_n (q := 18) d_Hair_yearOf_17 rfl rfl ?_
    refine w_get (q := 21) (ci := 2) (j := 2) d_Hair_yearOf_18 rfl (by decide) fl_Hair_15 (by decide) hHair.2.1 hHair.1 rfl rfl ?_
    refine w_iload_n (q := 22) d_Hair_yearOf_21 rfl rfl ?_
    obtain ⟨v3, hv, h⟩ := bnd h
    obtain ⟨hi, hv⟩ := rd_ok hv
    refine w_iald (q := 23) (t := 0) d_Hair_yearOf_22 rfl hHair.2.2.2.1.2 hHair.2.2.2.1.1 hi rfl ?_
    rw [hv]
    cases h
    exact w_ireturn d_Hair_yearOf_23 rfl rfl ⟨rfl, rfl, rfl, rfl⟩
def sp_Hair_ageOf (ha : Nat) (ro : Nat) (p0 : Int32) (g : Mem) : Option (Int32) := (rd g (ro + 2) 6 p0).bind fun v1 => (sp_Hair_yearOf ha ro p0 g).bind fun v2 => some (v1 + v2)
theorem ok_Hair_ageOf {γ : GG} {sh : List Sh} {tt : Bool} {ha : Nat} {ro : Nat} {p0 : Int32} {g : Mem} (hHair : isHair sh ha ro) {res : Int32} (h : sp_Hair_ageOf ha ro p0 g = some res) : CA γ M_Hair_ageOf 1 [.ref ha, .int p0] sh g tt (0, 0) (pI sh res g tt) := by
  refine CA.of mw_Hair_ageOf.1 0 rfl ?_
  show WA γ M_Hair_ageOf 1 0 [some (.ref ha), some (.int p0)] [] sh g tt (0, 0) (pI sh res g tt)
  unfold sp_Hair_ageOf at h
  refine w_aload_n (q := 1) d_Hair_ageOf_0 rfl rfl ?_
  refine w_get (q := 4) (ci := 2) (j := 0) d_Hair_ageOf_1 rfl (by decide) fl_Hair_18 (by decide) hHair.2.1 hHair.1 rfl rfl ?_
  refine w_get (q := 7) (ci := 7) (j := 5) d_Hair_ageOf_4 rfl (by decide) fl_Hair_56 (by decide) hHair.2.2.2.2.2.1 hHair.2.2.2.2.1 rfl rfl ?_
  refine w_iload_n (q := 8) d_Hair_ageOf_7 rfl rfl ?_
  obtain ⟨v1, hv, h⟩ := bnd h
  obtain ⟨hi, hv⟩ := rd_ok hv
  refine w_iald (q := 9) (t := 0) d_Hair_ageOf_8 rfl hHair.2.2.2.2.2.2.2.1.2 hHair.2.2.2.2.2.2.2.1.1 hi rfl ?_
  rw [hv]
  refine w_aload_n (q := 10) d_Hair_ageOf_9 rfl rfl ?_
  refine w_iload_n (q := 11) d_Hair_ageOf_10 rfl rfl ?_
  obtain ⟨v2, hv, h⟩ := bnd h
  refine w_callVi (q := 14) (M' := M_Hair_yearOf) (n' := 0) (k := ha) (As := [.int p0]) (sh' := sh) (b1 := (0, 0)) d_Hair_ageOf_11 rfl mw_Hair_yearOf (by decide) (by decide) ml_Hair_59 hHair.2.1 hHair.1 (by decide) rfl rfl rfl (leb rfl) (bz _) (fun _ => rfl) (ok_Hair_yearOf hHair hv) ?_
  refine w_iadd (q := 15) d_Hair_ageOf_14 rfl ?_
  cases h
  exact w_ireturn d_Hair_ageOf_15 rfl rfl ⟨rfl, rfl, rfl, rfl⟩
def sp_Hair_isGrey (ha : Nat) (ro : Nat) (p0 : Int32) (g : Mem) : Option (Int32) := (sp_Hair_ageOf ha ro p0 g).bind fun v1 => if v1 < (g ro 2) then some 0 else some 1
theorem ok_Hair_isGrey {γ : GG} {sh : List Sh} {tt : Bool} {ha : Nat} {ro : Nat} {p0 : Int32} {g : Mem} (hHair : isHair sh ha ro) {res : Int32} (h : sp_Hair_isGrey ha ro p0 g = some res) : CA γ M_Hair_isGrey 2 [.ref ha, .int p0] sh g tt (0, 0) (pI sh res g tt) := by
  refine CA.of mw_Hair_isGrey.1 0 rfl ?_
  show WA γ M_Hair_isGrey 2 0 [some (.ref ha), some (.int p0)] [] sh g tt (0, 0) (pI sh res g tt)
  unfold sp_Hair_isGrey at h
  refine w_aload_n (q := 1) d_Hair_isGrey_0 rfl rfl ?_
  refine w_iload_n (q := 2) d_Hair_isGrey_1 rfl rfl ?_
  obtain ⟨v1, hv, h⟩ := bnd h
  refine w_callVi (q := 5) (M' := M_Hair_ageOf) (n' := 1) (k := ha) (As := [.int p0]) (sh' := sh) (b1 := (0, 0)) d_Hair_isGrey_2 rfl mw_Hair_ageOf (by decide) (by decide) ml_Hair_63 hHair.2.1 hHair.1 (by decide) rfl rfl rfl (leb rfl) (bz _) (fun _ => rfl) (ok_Hair_ageOf hHair hv) ?_
  refine w_aload_n (q := 6) d_Hair_isGrey_5 rfl rfl ?_
  refine w_get (q := 9) (ci := 2) (j := 0) d_Hair_isGrey_6 rfl (by decide) fl_Hair_18 (by decide) hHair.2.1 hHair.1 rfl rfl ?_
  refine w_get (q := 12) (ci := 7) (j := 2) d_Hair_isGrey_9 rfl (by decide) fl_Hair_66 (by decide) hHair.2.2.2.2.2.1 hHair.2.2.2.2.1 rfl rfl ?_
  by_cases c2 : v1 < (g ro 2)
  · rw [if_pos c2] at h
    refine w_icmp_lt_t (q := 19) d_Hair_isGrey_12 rfl c2 ?_
    refine w_iconst (q := 20) (v := 0) d_Hair_isGrey_19 rfl (by decide) ?_
    cases h
    exact w_ireturn d_Hair_isGrey_20 rfl rfl ⟨rfl, rfl, rfl, rfl⟩
  · rw [if_neg c2] at h
    refine w_icmp_lt_f (q := 15) d_Hair_isGrey_12 19 rfl rfl c2 ?_
    refine w_iconst (q := 16) (v := 1) d_Hair_isGrey_15 rfl (by decide) ?_
    refine w_goto (q := 20) d_Hair_isGrey_16 rfl ?_
    cases h
    exact w_ireturn d_Hair_isGrey_20 rfl rfl ⟨rfl, rfl, rfl, rfl⟩
def sp_Hair_breadths (ha : Nat) (ro : Nat) (p0 : Int32) (g : Mem) : Option (Int32) := (sp_Roll_cell ro p0 1 g).bind fun v1 => (sp_Hair_yearOf ha ro v1 g).bind fun v2 => (sp_Roll_cell ro p0 2 g).bind fun v3 => some (v2 - v3)
theorem ok_Hair_breadths {γ : GG} {sh : List Sh} {tt : Bool} {ha : Nat} {ro : Nat} {p0 : Int32} {g : Mem} (hHair : isHair sh ha ro) {res : Int32} (h : sp_Hair_breadths ha ro p0 g = some res) : CA γ M_Hair_breadths 1 [.ref ha, .int p0] sh g tt (0, 0) (pI sh res g tt) := by
  refine CA.of mw_Hair_breadths.1 0 rfl ?_
  show WA γ M_Hair_breadths 1 0 [some (.ref ha), some (.int p0)] [] sh g tt (0, 0) (pI sh res g tt)
  unfold sp_Hair_breadths at h
  refine w_aload_n (q := 1) d_Hair_breadths_0 rfl rfl ?_
  refine w_aload_n (q := 2) d_Hair_breadths_1 rfl rfl ?_
  refine w_get (q := 5) (ci := 2) (j := 0) d_Hair_breadths_2 rfl (by decide) fl_Hair_18 (by decide) hHair.2.1 hHair.1 rfl rfl ?_
  refine w_iload_n (q := 6) d_Hair_breadths_5 rfl rfl ?_
  refine w_iconst (q := 7) (v := 1) d_Hair_breadths_6 rfl (by decide) ?_
  obtain ⟨v1, hv, h⟩ := bnd h
  refine w_callVi (q := 10) (M' := M_Roll_cell) (n' := 0) (k := ro) (As := [.int p0, .int 1]) (sh' := sh) (b1 := (0, 0)) d_Hair_breadths_7 rfl mw_Roll_cell (by decide) (by decide) ml_Hair_69 hHair.2.2.2.2.2.1 hHair.2.2.2.2.1 (by decide) rfl rfl rfl (leb rfl) (bz _) (fun _ => rfl) (ok_Roll_cell hHair.2.2.2.2 hv) ?_
  obtain ⟨v2, hv, h⟩ := bnd h
  refine w_callVi (q := 13) (M' := M_Hair_yearOf) (n' := 0) (k := ha) (As := [.int v1]) (sh' := sh) (b1 := (0, 0)) d_Hair_breadths_10 rfl mw_Hair_yearOf (by decide) (by decide) ml_Hair_59 hHair.2.1 hHair.1 (by decide) rfl rfl rfl (leb rfl) (bz _) (fun _ => rfl) (ok_Hair_yearOf hHair hv) ?_
  refine w_aload_n (q := 14) d_Hair_breadths_13 rfl rfl ?_
  refine w_get (q := 17) (ci := 2) (j := 0) d_Hair_breadths_14 rfl (by decide) fl_Hair_18 (by decide) hHair.2.1 hHair.1 rfl rfl ?_
  refine w_iload_n (q := 18) d_Hair_breadths_17 rfl rfl ?_
  refine w_iconst (q := 19) (v := 2) d_Hair_breadths_18 rfl (by decide) ?_
  obtain ⟨v3, hv, h⟩ := bnd h
  refine w_callVi (q := 22) (M' := M_Roll_cell) (n' := 0) (k := ro) (As := [.int p0, .int 2]) (sh' := sh) (b1 := (0, 0)) d_Hair_breadths_19 rfl mw_Roll_cell (by decide) (by decide) ml_Hair_69 hHair.2.2.2.2.2.1 hHair.2.2.2.2.1 (by decide) rfl rfl rfl (leb rfl) (bz _) (fun _ => rfl) (ok_Roll_cell hHair.2.2.2.2 hv) ?_
  refine w_isub (q := 23) d_Hair_breadths_22 rfl ?_
  cases h
  exact w_ireturn d_Hair_breadths_23 rfl rfl ⟨rfl, rfl, rfl, rfl⟩
def sp_Hair_isFull (ha : Nat) (ro : Nat) (g : Mem) : Option (Int32) := if (g ha 4) < 24 then some 0 else some 1
theorem ok_Hair_isFull {γ : GG} {sh : List Sh} {tt : Bool} {ha : Nat} {ro : Nat} {g : Mem} (hHair : isHair sh ha ro) {res : Int32} (h : sp_Hair_isFull ha ro g = some res) : CA γ M_Hair_isFull 0 [.ref ha] sh g tt (0, 0) (pI sh res g tt) := by
  refine CA.of mw_Hair_isFull.1 0 rfl ?_
  show WA γ M_Hair_isFull 0 0 [some (.ref ha)] [] sh g tt (0, 0) (pI sh res g tt)
  unfold sp_Hair_isFull at h
  refine w_aload_n (q := 1) d_Hair_isFull_0 rfl rfl ?_
  refine w_get (q := 4) (ci := 2) (j := 4) d_Hair_isFull_1 rfl (by decide) fl_Hair_26 (by decide) hHair.2.1 hHair.1 rfl rfl ?_
  refine w_bipush (q := 6) (v := 24) d_Hair_isFull_4 rfl (by decide) ?_
  by_cases c1 : (g ha 4) < 24
  · rw [if_pos c1] at h
    refine w_icmp_lt_t (q := 13) d_Hair_isFull_6 rfl c1 ?_
    refine w_iconst (q := 14) (v := 0) d_Hair_isFull_13 rfl (by decide) ?_
    cases h
    exact w_ireturn d_Hair_isFull_14 rfl rfl ⟨rfl, rfl, rfl, rfl⟩
  · rw [if_neg c1] at h
    refine w_icmp_lt_f (q := 9) d_Hair_isFull_6 13 rfl rfl c1 ?_
    refine w_iconst (q := 10) (v := 1) d_Hair_isFull_9 rfl (by decide) ?_
    refine w_goto (q := 14) d_Hair_isFull_10 rfl ?_
    cases h
    exact w_ireturn d_Hair_isFull_14 rfl rfl ⟨rfl, rfl, rfl, rfl⟩
def sp_Hair_allThere (ha : Nat) (ro : Nat) (g : Mem) : Option (Int32) := some (((1 <<< ((g ha 4) &&& 31)) - 1) &&& ((g ha 5) ^^^ (-1)))
theorem ok_Hair_allThere {γ : GG} {sh : List Sh} {tt : Bool} {ha : Nat} {ro : Nat} {g : Mem} (hHair : isHair sh ha ro) {res : Int32} (h : sp_Hair_allThere ha ro g = some res) : CA γ M_Hair_allThere 0 [.ref ha] sh g tt (0, 0) (pI sh res g tt) := by
  refine CA.of mw_Hair_allThere.1 0 rfl ?_
  show WA γ M_Hair_allThere 0 0 [some (.ref ha)] [] sh g tt (0, 0) (pI sh res g tt)
  unfold sp_Hair_allThere at h
  refine w_iconst (q := 1) (v := 1) d_Hair_allThere_0 rfl (by decide) ?_
  refine w_aload_n (q := 2) d_Hair_allThere_1 rfl rfl ?_
  refine w_get (q := 5) (ci := 2) (j := 4) d_Hair_allThere_2 rfl (by decide) fl_Hair_26 (by decide) hHair.2.1 hHair.1 rfl rfl ?_
  refine w_ishl (q := 6) d_Hair_allThere_5 rfl ?_
  refine w_iconst (q := 7) (v := 1) d_Hair_allThere_6 rfl (by decide) ?_
  refine w_isub (q := 8) d_Hair_allThere_7 rfl ?_
  refine w_aload_n (q := 9) d_Hair_allThere_8 rfl rfl ?_
  refine w_get (q := 12) (ci := 2) (j := 5) d_Hair_allThere_9 rfl (by decide) fl_Hair_29 (by decide) hHair.2.1 hHair.1 rfl rfl ?_
  refine w_iconst (q := 13) (v := (-1)) d_Hair_allThere_12 rfl (by decide) ?_
  refine w_ixor (q := 14) d_Hair_allThere_13 rfl ?_
  refine w_iand (q := 15) d_Hair_allThere_14 rfl ?_
  cases h
  exact w_ireturn d_Hair_allThere_15 rfl rfl ⟨rfl, rfl, rfl, rfl⟩
def sp_Hair_isThere (ha : Nat) (ro : Nat) (p0 : Int32) (g : Mem) : Option (Int32) := (sp_Hair_allThere ha ro g).bind fun v1 => (sp_Hall_hasBit v1 p0 g).bind fun v2 => (bl v2).bind fun v3 => some v3
theorem ok_Hair_isThere {γ : GG} {sh : List Sh} {tt : Bool} {ha : Nat} {ro : Nat} {p0 : Int32} {g : Mem} (hHair : isHair sh ha ro) {res : Int32} (h : sp_Hair_isThere ha ro p0 g = some res) : CA γ M_Hair_isThere 1 [.ref ha, .int p0] sh g tt (0, 0) (pI sh res g tt) := by
  refine CA.of mw_Hair_isThere.1 0 rfl ?_
  show WA γ M_Hair_isThere 1 0 [some (.ref ha), some (.int p0)] [] sh g tt (0, 0) (pI sh res g tt)
  unfold sp_Hair_isThere at h
  refine w_aload_n (q := 1) d_Hair_isThere_0 rfl rfl ?_
  obtain ⟨v1, hv, h⟩ := bnd h
  refine w_callVi (q := 4) (M' := M_Hair_allThere) (n' := 0) (k := ha) (As := []) (sh' := sh) (b1 := (0, 0)) d_Hair_isThere_1 rfl mw_Hair_allThere (by decide) (by decide) ml_Hair_73 hHair.2.1 hHair.1 (by decide) rfl rfl rfl (leb rfl) (bz _) (fun _ => rfl) (ok_Hair_allThere hHair hv) ?_
  refine w_iload_n (q := 5) d_Hair_isThere_4 rfl rfl ?_
  obtain ⟨v2, hv, h⟩ := bnd h
  refine w_callNi (q := 8) (host := "BeardHall") (M' := M_Hall_hasBit) (n' := 0) (As := [.int v1, .int p0]) (sh' := sh) (b1 := (0, 0)) d_Hair_isThere_5 rfl mw_Hall_hasBit (by decide) (by decide) (by decide) rfl rfl (leb rfl) (bz _) (fun _ => rfl) (ok_Hall_hasBit hv) ?_
  obtain ⟨v3, hv, h⟩ := bnd h
  obtain ⟨hv, hn⟩ := bl_ok hv
  rw [hv] at h
  cases h
  exact w_ireturn d_Hair_isThere_8 rfl hn ⟨rfl, rfl, rfl, rfl⟩
def sp_Hair_isKnotted (ha : Nat) (ro : Nat) (p0 : Int32) (g : Mem) : Option (Int32) := (sp_Hall_hasBit (g ha 6) p0 g).bind fun v1 => (bl v1).bind fun v2 => some v2
theorem ok_Hair_isKnotted {γ : GG} {sh : List Sh} {tt : Bool} {ha : Nat} {ro : Nat} {p0 : Int32} {g : Mem} (hHair : isHair sh ha ro) {res : Int32} (h : sp_Hair_isKnotted ha ro p0 g = some res) : CA γ M_Hair_isKnotted 1 [.ref ha, .int p0] sh g tt (0, 0) (pI sh res g tt) := by
  refine CA.of mw_Hair_isKnotted.1 0 rfl ?_
  show WA γ M_Hair_isKnotted 1 0 [some (.ref ha), some (.int p0)] [] sh g tt (0, 0) (pI sh res g tt)
  unfold sp_Hair_isKnotted at h
  refine w_aload_n (q := 1) d_Hair_isKnotted_0 rfl rfl ?_
  refine w_get (q := 4) (ci := 2) (j := 6) d_Hair_isKnotted_1 rfl (by decide) fl_Hair_32 (by decide) hHair.2.1 hHair.1 rfl rfl ?_
  refine w_iload_n (q := 5) d_Hair_isKnotted_4 rfl rfl ?_
  obtain ⟨v1, hv, h⟩ := bnd h
  refine w_callNi (q := 8) (host := "BeardHall") (M' := M_Hall_hasBit) (n' := 0) (As := [.int (g ha 6), .int p0]) (sh' := sh) (b1 := (0, 0)) d_Hair_isKnotted_5 rfl mw_Hall_hasBit (by decide) (by decide) (by decide) rfl rfl (leb rfl) (bz _) (fun _ => rfl) (ok_Hall_hasBit hv) ?_
  obtain ⟨v2, hv, h⟩ := bnd h
  obtain ⟨hv, hn⟩ := bl_ok hv
  rw [hv] at h
  cases h
  exact w_ireturn d_Hair_isKnotted_8 rfl hn ⟨rfl, rfl, rfl, rfl⟩
def PL_Hair_thereOf_4 (γ : GG) (sh : List Sh) (tt : Bool) (ha : Nat) (ro : Nat) (p0 : Int32) (g : Mem) (k1 : Int32) (b : Nat × Nat) (Φ : PO) (s : Int32 × Int32) : Prop := WA γ M_Hair_thereOf 1 4 [some (.ref ha), some (.int k1), some (.int s.1), some (.int s.2)] [] sh g tt b Φ
def QL_Hair_thereOf_4 (γ : GG) (sh : List Sh) (tt : Bool) (ha : Nat) (ro : Nat) (p0 : Int32) (g : Mem) (k1 : Int32) (b : Nat × Nat) (Φ : PO) (x : (Int32)) : Prop := WA γ M_Hair_thereOf 1 37 [some (.ref ha), none, some (.int x), none] [] sh g tt b Φ
def st_Hair_thereOf_4 (F : Nat) (ha : Nat) (ro : Nat) (p0 : Int32) (g : Mem) (k1 : Int32) (s : Int32 × Int32) : Option ((Int32 × Int32) ⊕ ((Int32))) := if (g ha 4) ≤ s.2 then some (.inr s.1) else (sp_Roll_cell ro s.2 1 g).bind fun v2 => if v2 = k1 then some (.inl (s.1 ||| (1 <<< (s.2 &&& 31)), s.2 + 1)) else some (.inl (s.1, s.2 + 1))
theorem kl_Hair_thereOf_4 {γ : GG} {sh : List Sh} {tt : Bool} {F : Nat} {ha : Nat} {ro : Nat} {p0 : Int32} {g : Mem} {k1 : Int32} {b : Nat × Nat} {Φ : PO} (hHair : isHair sh ha ro) : ∀ (s : Int32 × Int32) (r : (Int32 × Int32) ⊕ ((Int32))), st_Hair_thereOf_4 F ha ro p0 g k1 s = some r → RQ (PL_Hair_thereOf_4 γ sh tt ha ro p0 g k1 b Φ) (QL_Hair_thereOf_4 γ sh tt ha ro p0 g k1 b Φ) r → PL_Hair_thereOf_4 γ sh tt ha ro p0 g k1 b Φ s := by
  intro s r h hr
  unfold st_Hair_thereOf_4 at h
  unfold PL_Hair_thereOf_4
  refine w_iload_n (q := 5) d_Hair_thereOf_4 rfl rfl ?_
  refine w_aload_n (q := 6) d_Hair_thereOf_5 rfl rfl ?_
  refine w_get (q := 9) (ci := 2) (j := 4) d_Hair_thereOf_6 rfl (by decide) fl_Hair_26 (by decide) hHair.2.1 hHair.1 rfl rfl ?_
  by_cases c1 : (g ha 4) ≤ s.2
  · rw [if_pos c1] at h
    refine w_icmp_ge_t (q := 37) d_Hair_thereOf_9 rfl c1 ?_
    cases h
    exact w_ls (by exact (And.intro rfl (And.intro rfl trivial))) hr
  · rw [if_neg c1] at h
    refine w_icmp_ge_f (q := 12) d_Hair_thereOf_9 37 rfl rfl c1 ?_
    refine w_aload_n (q := 13) d_Hair_thereOf_12 rfl rfl ?_
    refine w_get (q := 16) (ci := 2) (j := 0) d_Hair_thereOf_13 rfl (by decide) fl_Hair_18 (by decide) hHair.2.1 hHair.1 rfl rfl ?_
    refine w_iload_n (q := 17) d_Hair_thereOf_16 rfl rfl ?_
    refine w_iconst (q := 18) (v := 1) d_Hair_thereOf_17 rfl (by decide) ?_
    obtain ⟨v2, hv, h⟩ := bnd h
    refine w_callVi (q := 21) (M' := M_Roll_cell) (n' := 0) (k := ro) (As := [.int s.2, .int 1]) (sh' := sh) (b1 := (0, 0)) d_Hair_thereOf_18 rfl mw_Roll_cell (by decide) (by decide) ml_Hair_69 hHair.2.2.2.2.2.1 hHair.2.2.2.2.1 (by decide) rfl rfl rfl (leb rfl) (bz _) (fun _ => rfl) (ok_Roll_cell hHair.2.2.2.2 hv) ?_
    refine w_iload_n (q := 22) d_Hair_thereOf_21 rfl rfl ?_
    by_cases c3 : v2 = k1
    · rw [if_pos c3] at h
      refine w_icmp_ne_f (q := 25) d_Hair_thereOf_22 31 rfl rfl c3 ?_
      refine w_iload_n (q := 26) d_Hair_thereOf_25 rfl rfl ?_
      refine w_iconst (q := 27) (v := 1) d_Hair_thereOf_26 rfl (by decide) ?_
      refine w_iload_n (q := 28) d_Hair_thereOf_27 rfl rfl ?_
      refine w_ishl (q := 29) d_Hair_thereOf_28 rfl ?_
      refine w_ior (q := 30) d_Hair_thereOf_29 rfl ?_
      refine w_istore_n (q := 31) (ls' := [some (.ref ha), some (.int k1), some (.int (s.1 ||| (1 <<< (s.2 &&& 31)))), some (.int s.2)]) d_Hair_thereOf_30 rfl (by decide) rfl rfl ?_
      refine w_iinc (q := 34) (ls' := [some (.ref ha), some (.int k1), some (.int (s.1 ||| (1 <<< (s.2 &&& 31)))), some (.int (s.2 + 1))]) d_Hair_thereOf_31 rfl (by decide) rfl rfl rfl ?_
      refine w_goto (q := 4) d_Hair_thereOf_34 rfl ?_
      cases h
      exact w_ls (by exact (And.intro rfl (And.intro rfl (And.intro rfl (And.intro rfl trivial))))) hr
    · rw [if_neg c3] at h
      refine w_icmp_ne_t (q := 31) d_Hair_thereOf_22 rfl c3 ?_
      refine w_iinc (q := 34) (ls' := [some (.ref ha), some (.int k1), some (.int s.1), some (.int (s.2 + 1))]) d_Hair_thereOf_31 rfl (by decide) rfl rfl rfl ?_
      refine w_goto (q := 4) d_Hair_thereOf_34 rfl ?_
      cases h
      exact w_ls (by exact (And.intro rfl (And.intro rfl (And.intro rfl (And.intro rfl trivial))))) hr
def sp_Hair_thereOf (F : Nat) (ha : Nat) (ro : Nat) (p0 : Int32) (g : Mem) : Option (Int32) := (lpO (st_Hair_thereOf_4 F ha ro p0 g p0) F (0, 0)).bind fun x4 => some (x4 &&& ((g ha 5) ^^^ (-1)))
theorem ok_Hair_thereOf {γ : GG} {sh : List Sh} {tt : Bool} {F : Nat} {ha : Nat} {ro : Nat} {p0 : Int32} {g : Mem} (hHair : isHair sh ha ro) {res : Int32} (h : sp_Hair_thereOf F ha ro p0 g = some res) : CA γ M_Hair_thereOf 1 [.ref ha, .int p0] sh g tt (0, 0) (pI sh res g tt) := by
  refine CA.of mw_Hair_thereOf.1 2 rfl ?_
  show WA γ M_Hair_thereOf 1 0 [some (.ref ha), some (.int p0), none, none] [] sh g tt (0, 0) (pI sh res g tt)
  unfold sp_Hair_thereOf at h
  refine w_iconst (q := 1) (v := 0) d_Hair_thereOf_0 rfl (by decide) ?_
  refine w_istore_n (q := 2) (ls' := [some (.ref ha), some (.int p0), some (.int 0), none]) d_Hair_thereOf_1 rfl (by decide) rfl rfl ?_
  refine w_iconst (q := 3) (v := 0) d_Hair_thereOf_2 rfl (by decide) ?_
  refine w_istore_n (q := 4) (ls' := [some (.ref ha), some (.int p0), some (.int 0), some (.int 0)]) d_Hair_thereOf_3 rfl (by decide) rfl rfl ?_
  obtain ⟨x4, hx, h⟩ := bnd h
  refine w_ls (ls' := [some (.ref ha), some (.int p0), some (.int 0), some (.int 0)]) (And.intro rfl (And.intro rfl (And.intro rfl (And.intro rfl trivial)))) ?_
  show PL_Hair_thereOf_4 γ sh tt ha ro p0 g p0 _ _ (0, 0)
  refine lp_ok (kl_Hair_thereOf_4 hHair) F _ x4 hx ?_
  unfold QL_Hair_thereOf_4
  refine w_iload_n (q := 38) d_Hair_thereOf_37 rfl rfl ?_
  refine w_aload_n (q := 39) d_Hair_thereOf_38 rfl rfl ?_
  refine w_get (q := 42) (ci := 2) (j := 5) d_Hair_thereOf_39 rfl (by decide) fl_Hair_29 (by decide) hHair.2.1 hHair.1 rfl rfl ?_
  refine w_iconst (q := 43) (v := (-1)) d_Hair_thereOf_42 rfl (by decide) ?_
  refine w_ixor (q := 44) d_Hair_thereOf_43 rfl ?_
  refine w_iand (q := 45) d_Hair_thereOf_44 rfl ?_
  cases h
  exact w_ireturn d_Hair_thereOf_45 rfl rfl ⟨rfl, rfl, rfl, rfl⟩
def PL_Hair_recordsOf_4 (γ : GG) (sh : List Sh) (tt : Bool) (ha : Nat) (ro : Nat) (p0 : Int32) (g : Mem) (k1 : Int32) (b : Nat × Nat) (Φ : PO) (s : Int32 × Int32) : Prop := WA γ M_Hair_recordsOf 1 4 [some (.ref ha), some (.int k1), some (.int s.1), some (.int s.2)] [] sh g tt b Φ
def QL_Hair_recordsOf_4 (γ : GG) (sh : List Sh) (tt : Bool) (ha : Nat) (ro : Nat) (p0 : Int32) (g : Mem) (k1 : Int32) (b : Nat × Nat) (Φ : PO) (x : (Int32)) : Prop := WA γ M_Hair_recordsOf 1 41 [none, none, some (.int x), none] [] sh g tt b Φ
def st_Hair_recordsOf_4 (F : Nat) (ha : Nat) (ro : Nat) (p0 : Int32) (g : Mem) (k1 : Int32) (s : Int32 × Int32) : Option ((Int32 × Int32) ⊕ ((Int32))) := if (g ha 4) ≤ s.2 then some (.inr s.1) else (sp_Hall_hasBit k1 s.2 g).bind fun v2 => if v2 = 0 then some (.inl (s.1, s.2 + 1)) else (sp_Roll_cell ro s.2 7 g).bind fun v4 => some (.inl (s.1 ||| (1 <<< (v4 &&& 31)), s.2 + 1))
theorem kl_Hair_recordsOf_4 {γ : GG} {sh : List Sh} {tt : Bool} {F : Nat} {ha : Nat} {ro : Nat} {p0 : Int32} {g : Mem} {k1 : Int32} {b : Nat × Nat} {Φ : PO} (hHair : isHair sh ha ro) : ∀ (s : Int32 × Int32) (r : (Int32 × Int32) ⊕ ((Int32))), st_Hair_recordsOf_4 F ha ro p0 g k1 s = some r → RQ (PL_Hair_recordsOf_4 γ sh tt ha ro p0 g k1 b Φ) (QL_Hair_recordsOf_4 γ sh tt ha ro p0 g k1 b Φ) r → PL_Hair_recordsOf_4 γ sh tt ha ro p0 g k1 b Φ s := by
  intro s r h hr
  unfold st_Hair_recordsOf_4 at h
  unfold PL_Hair_recordsOf_4
  refine w_iload_n (q := 5) d_Hair_recordsOf_4 rfl rfl ?_
  refine w_aload_n (q := 6) d_Hair_recordsOf_5 rfl rfl ?_
  refine w_get (q := 9) (ci := 2) (j := 4) d_Hair_recordsOf_6 rfl (by decide) fl_Hair_26 (by decide) hHair.2.1 hHair.1 rfl rfl ?_
  by_cases c1 : (g ha 4) ≤ s.2
  · rw [if_pos c1] at h
    refine w_icmp_ge_t (q := 41) d_Hair_recordsOf_9 rfl c1 ?_
    cases h
    exact w_ls (by exact (And.intro rfl trivial)) hr
  · rw [if_neg c1] at h
    refine w_icmp_ge_f (q := 12) d_Hair_recordsOf_9 41 rfl rfl c1 ?_
    refine w_iload_n (q := 13) d_Hair_recordsOf_12 rfl rfl ?_
    refine w_iload_n (q := 14) d_Hair_recordsOf_13 rfl rfl ?_
    obtain ⟨v2, hv, h⟩ := bnd h
    refine w_callNi (q := 17) (host := "BeardHall") (M' := M_Hall_hasBit) (n' := 0) (As := [.int k1, .int s.2]) (sh' := sh) (b1 := (0, 0)) d_Hair_recordsOf_14 rfl mw_Hall_hasBit (by decide) (by decide) (by decide) rfl rfl (leb rfl) (bz _) (fun _ => rfl) (ok_Hall_hasBit hv) ?_
    by_cases c3 : v2 = 0
    · rw [if_pos c3] at h
      refine w_if_eq_t (q := 35) d_Hair_recordsOf_17 rfl c3 ?_
      refine w_iinc (q := 38) (ls' := [some (.ref ha), some (.int k1), some (.int s.1), some (.int (s.2 + 1))]) d_Hair_recordsOf_35 rfl (by decide) rfl rfl rfl ?_
      refine w_goto (q := 4) d_Hair_recordsOf_38 rfl ?_
      cases h
      exact w_ls (by exact (And.intro rfl (And.intro rfl (And.intro rfl (And.intro rfl trivial))))) hr
    · rw [if_neg c3] at h
      refine w_if_eq_f (q := 20) d_Hair_recordsOf_17 35 rfl rfl c3 ?_
      refine w_iload_n (q := 21) d_Hair_recordsOf_20 rfl rfl ?_
      refine w_iconst (q := 22) (v := 1) d_Hair_recordsOf_21 rfl (by decide) ?_
      refine w_aload_n (q := 23) d_Hair_recordsOf_22 rfl rfl ?_
      refine w_get (q := 26) (ci := 2) (j := 0) d_Hair_recordsOf_23 rfl (by decide) fl_Hair_18 (by decide) hHair.2.1 hHair.1 rfl rfl ?_
      refine w_iload_n (q := 27) d_Hair_recordsOf_26 rfl rfl ?_
      refine w_bipush (q := 29) (v := 7) d_Hair_recordsOf_27 rfl (by decide) ?_
      obtain ⟨v4, hv, h⟩ := bnd h
      refine w_callVi (q := 32) (M' := M_Roll_cell) (n' := 0) (k := ro) (As := [.int s.2, .int 7]) (sh' := sh) (b1 := (0, 0)) d_Hair_recordsOf_29 rfl mw_Roll_cell (by decide) (by decide) ml_Hair_69 hHair.2.2.2.2.2.1 hHair.2.2.2.2.1 (by decide) rfl rfl rfl (leb rfl) (bz _) (fun _ => rfl) (ok_Roll_cell hHair.2.2.2.2 hv) ?_
      refine w_ishl (q := 33) d_Hair_recordsOf_32 rfl ?_
      refine w_ior (q := 34) d_Hair_recordsOf_33 rfl ?_
      refine w_istore_n (q := 35) (ls' := [some (.ref ha), some (.int k1), some (.int (s.1 ||| (1 <<< (v4 &&& 31)))), some (.int s.2)]) d_Hair_recordsOf_34 rfl (by decide) rfl rfl ?_
      refine w_iinc (q := 38) (ls' := [some (.ref ha), some (.int k1), some (.int (s.1 ||| (1 <<< (v4 &&& 31)))), some (.int (s.2 + 1))]) d_Hair_recordsOf_35 rfl (by decide) rfl rfl rfl ?_
      refine w_goto (q := 4) d_Hair_recordsOf_38 rfl ?_
      cases h
      exact w_ls (by exact (And.intro rfl (And.intro rfl (And.intro rfl (And.intro rfl trivial))))) hr
def sp_Hair_recordsOf (F : Nat) (ha : Nat) (ro : Nat) (p0 : Int32) (g : Mem) : Option (Int32) := (lpO (st_Hair_recordsOf_4 F ha ro p0 g p0) F (0, 0)).bind fun x5 => some x5
theorem ok_Hair_recordsOf {γ : GG} {sh : List Sh} {tt : Bool} {F : Nat} {ha : Nat} {ro : Nat} {p0 : Int32} {g : Mem} (hHair : isHair sh ha ro) {res : Int32} (h : sp_Hair_recordsOf F ha ro p0 g = some res) : CA γ M_Hair_recordsOf 1 [.ref ha, .int p0] sh g tt (0, 0) (pI sh res g tt) := by
  refine CA.of mw_Hair_recordsOf.1 2 rfl ?_
  show WA γ M_Hair_recordsOf 1 0 [some (.ref ha), some (.int p0), none, none] [] sh g tt (0, 0) (pI sh res g tt)
  unfold sp_Hair_recordsOf at h
  refine w_iconst (q := 1) (v := 0) d_Hair_recordsOf_0 rfl (by decide) ?_
  refine w_istore_n (q := 2) (ls' := [some (.ref ha), some (.int p0), some (.int 0), none]) d_Hair_recordsOf_1 rfl (by decide) rfl rfl ?_
  refine w_iconst (q := 3) (v := 0) d_Hair_recordsOf_2 rfl (by decide) ?_
  refine w_istore_n (q := 4) (ls' := [some (.ref ha), some (.int p0), some (.int 0), some (.int 0)]) d_Hair_recordsOf_3 rfl (by decide) rfl rfl ?_
  obtain ⟨x5, hx, h⟩ := bnd h
  refine w_ls (ls' := [some (.ref ha), some (.int p0), some (.int 0), some (.int 0)]) (And.intro rfl (And.intro rfl (And.intro rfl (And.intro rfl trivial)))) ?_
  show PL_Hair_recordsOf_4 γ sh tt ha ro p0 g p0 _ _ (0, 0)
  refine lp_ok (kl_Hair_recordsOf_4 hHair) F _ x5 hx ?_
  unfold QL_Hair_recordsOf_4
  refine w_iload_n (q := 42) d_Hair_recordsOf_41 rfl rfl ?_
  cases h
  exact w_ireturn d_Hair_recordsOf_42 rfl rfl ⟨rfl, rfl, rfl, rfl⟩
def sp_Hair_recordsThere (F : Nat) (ha : Nat) (ro : Nat) (g : Mem) : Option (Int32) := (sp_Hair_allThere ha ro g).bind fun v1 => (sp_Hair_recordsOf F ha ro v1 g).bind fun v2 => some v2
theorem ok_Hair_recordsThere {γ : GG} {sh : List Sh} {tt : Bool} {F : Nat} {ha : Nat} {ro : Nat} {g : Mem} (hHair : isHair sh ha ro) {res : Int32} (h : sp_Hair_recordsThere F ha ro g = some res) : CA γ M_Hair_recordsThere 2 [.ref ha] sh g tt (0, 0) (pI sh res g tt) := by
  refine CA.of mw_Hair_recordsThere.1 0 rfl ?_
  show WA γ M_Hair_recordsThere 2 0 [some (.ref ha)] [] sh g tt (0, 0) (pI sh res g tt)
  unfold sp_Hair_recordsThere at h
  refine w_aload_n (q := 1) d_Hair_recordsThere_0 rfl rfl ?_
  refine w_aload_n (q := 2) d_Hair_recordsThere_1 rfl rfl ?_
  obtain ⟨v1, hv, h⟩ := bnd h
  refine w_callVi (q := 5) (M' := M_Hair_allThere) (n' := 0) (k := ha) (As := []) (sh' := sh) (b1 := (0, 0)) d_Hair_recordsThere_2 rfl mw_Hair_allThere (by decide) (by decide) ml_Hair_73 hHair.2.1 hHair.1 (by decide) rfl rfl rfl (leb rfl) (bz _) (fun _ => rfl) (ok_Hair_allThere hHair hv) ?_
  obtain ⟨v2, hv, h⟩ := bnd h
  refine w_callVi (q := 8) (M' := M_Hair_recordsOf) (n' := 1) (k := ha) (As := [.int v1]) (sh' := sh) (b1 := (0, 0)) d_Hair_recordsThere_5 rfl mw_Hair_recordsOf (by decide) (by decide) ml_Hair_81 hHair.2.1 hHair.1 (by decide) rfl rfl rfl (leb rfl) (bz _) (fun _ => rfl) (ok_Hair_recordsOf hHair hv) ?_
  cases h
  exact w_ireturn d_Hair_recordsThere_8 rfl rfl ⟨rfl, rfl, rfl, rfl⟩
def sp_Hair_recordsHeldBy (F : Nat) (ha : Nat) (ro : Nat) (p0 : Int32) (g : Mem) : Option (Int32) := (sp_Hair_thereOf F ha ro p0 g).bind fun v1 => (sp_Hair_recordsOf F ha ro v1 g).bind fun v2 => some v2
theorem ok_Hair_recordsHeldBy {γ : GG} {sh : List Sh} {tt : Bool} {F : Nat} {ha : Nat} {ro : Nat} {p0 : Int32} {g : Mem} (hHair : isHair sh ha ro) {res : Int32} (h : sp_Hair_recordsHeldBy F ha ro p0 g = some res) : CA γ M_Hair_recordsHeldBy 2 [.ref ha, .int p0] sh g tt (0, 0) (pI sh res g tt) := by
  refine CA.of mw_Hair_recordsHeldBy.1 0 rfl ?_
  show WA γ M_Hair_recordsHeldBy 2 0 [some (.ref ha), some (.int p0)] [] sh g tt (0, 0) (pI sh res g tt)
  unfold sp_Hair_recordsHeldBy at h
  refine w_aload_n (q := 1) d_Hair_recordsHeldBy_0 rfl rfl ?_
  refine w_aload_n (q := 2) d_Hair_recordsHeldBy_1 rfl rfl ?_
  refine w_iload_n (q := 3) d_Hair_recordsHeldBy_2 rfl rfl ?_
  obtain ⟨v1, hv, h⟩ := bnd h
  refine w_callVi (q := 6) (M' := M_Hair_thereOf) (n' := 1) (k := ha) (As := [.int p0]) (sh' := sh) (b1 := (0, 0)) d_Hair_recordsHeldBy_3 rfl mw_Hair_thereOf (by decide) (by decide) ml_Hair_84 hHair.2.1 hHair.1 (by decide) rfl rfl rfl (leb rfl) (bz _) (fun _ => rfl) (ok_Hair_thereOf hHair hv) ?_
  obtain ⟨v2, hv, h⟩ := bnd h
  refine w_callVi (q := 9) (M' := M_Hair_recordsOf) (n' := 1) (k := ha) (As := [.int v1]) (sh' := sh) (b1 := (0, 0)) d_Hair_recordsHeldBy_6 rfl mw_Hair_recordsOf (by decide) (by decide) ml_Hair_81 hHair.2.1 hHair.1 (by decide) rfl rfl rfl (leb rfl) (bz _) (fun _ => rfl) (ok_Hair_recordsOf hHair hv) ?_
  cases h
  exact w_ireturn d_Hair_recordsHeldBy_9 rfl rfl ⟨rfl, rfl, rfl, rfl⟩
def PL_Hair_monksWith_10 (γ : GG) (sh : List Sh) (tt : Bool) (ha : Nat) (ro : Nat) (p0 : Int32) (g : Mem) (k1 : Int32) (k2 : Int32) (b : Nat × Nat) (Φ : PO) (s : Int32 × Int32) : Prop := WA γ M_Hair_monksWith 1 10 [some (.ref ha), some (.int k1), some (.int k2), some (.int s.1), some (.int s.2)] [] sh g tt b Φ
def QL_Hair_monksWith_10 (γ : GG) (sh : List Sh) (tt : Bool) (ha : Nat) (ro : Nat) (p0 : Int32) (g : Mem) (k1 : Int32) (k2 : Int32) (b : Nat × Nat) (Φ : PO) (x : (Int32)) : Prop := WA γ M_Hair_monksWith 1 64 [none, none, none, some (.int x), none] [] sh g tt b Φ
def st_Hair_monksWith_10 (F : Nat) (ha : Nat) (ro : Nat) (p0 : Int32) (g : Mem) (k1 : Int32) (k2 : Int32) (s : Int32 × Int32) : Option ((Int32 × Int32) ⊕ ((Int32))) := if (g ha 4) ≤ s.2 then some (.inr s.1) else (sp_Hall_hasBit k2 s.2 g).bind fun v3 => if v3 = 0 then some (.inl (s.1, s.2 + 1)) else (sp_Roll_cell ro s.2 7 g).bind fun v5 => if v5 = k1 then (sp_Roll_cell ro s.2 1 g).bind fun v7 => some (.inl (s.1 ||| (1 <<< (v7 &&& 31)), s.2 + 1)) else some (.inl (s.1, s.2 + 1))
theorem kl_Hair_monksWith_10 {γ : GG} {sh : List Sh} {tt : Bool} {F : Nat} {ha : Nat} {ro : Nat} {p0 : Int32} {g : Mem} {k1 : Int32} {k2 : Int32} {b : Nat × Nat} {Φ : PO} (hHair : isHair sh ha ro) : ∀ (s : Int32 × Int32) (r : (Int32 × Int32) ⊕ ((Int32))), st_Hair_monksWith_10 F ha ro p0 g k1 k2 s = some r → RQ (PL_Hair_monksWith_10 γ sh tt ha ro p0 g k1 k2 b Φ) (QL_Hair_monksWith_10 γ sh tt ha ro p0 g k1 k2 b Φ) r → PL_Hair_monksWith_10 γ sh tt ha ro p0 g k1 k2 b Φ s := by
  intro s r h hr
  unfold st_Hair_monksWith_10 at h
  unfold PL_Hair_monksWith_10
  refine w_iload (q := 12) d_Hair_monksWith_10 rfl rfl ?_
  refine w_aload_n (q := 13) d_Hair_monksWith_12 rfl rfl ?_
  refine w_get (q := 16) (ci := 2) (j := 4) d_Hair_monksWith_13 rfl (by decide) fl_Hair_26 (by decide) hHair.2.1 hHair.1 rfl rfl ?_
  by_cases c2 : (g ha 4) ≤ s.2
  · rw [if_pos c2] at h
    refine w_icmp_ge_t (q := 64) d_Hair_monksWith_16 rfl c2 ?_
    cases h
    exact w_ls (by exact (And.intro rfl trivial)) hr
  · rw [if_neg c2] at h
    refine w_icmp_ge_f (q := 19) d_Hair_monksWith_16 64 rfl rfl c2 ?_
    refine w_iload_n (q := 20) d_Hair_monksWith_19 rfl rfl ?_
    refine w_iload (q := 22) d_Hair_monksWith_20 rfl rfl ?_
    obtain ⟨v3, hv, h⟩ := bnd h
    refine w_callNi (q := 25) (host := "BeardHall") (M' := M_Hall_hasBit) (n' := 0) (As := [.int k2, .int s.2]) (sh' := sh) (b1 := (0, 0)) d_Hair_monksWith_22 rfl mw_Hall_hasBit (by decide) (by decide) (by decide) rfl rfl (leb rfl) (bz _) (fun _ => rfl) (ok_Hall_hasBit hv) ?_
    by_cases c4 : v3 = 0
    · rw [if_pos c4] at h
      refine w_if_eq_t (q := 58) d_Hair_monksWith_25 rfl c4 ?_
      refine w_iinc (q := 61) (ls' := [some (.ref ha), some (.int k1), some (.int k2), some (.int s.1), some (.int (s.2 + 1))]) d_Hair_monksWith_58 rfl (by decide) rfl rfl rfl ?_
      refine w_goto (q := 10) d_Hair_monksWith_61 rfl ?_
      cases h
      exact w_ls (by exact (And.intro rfl (And.intro rfl (And.intro rfl (And.intro rfl (And.intro rfl trivial)))))) hr
    · rw [if_neg c4] at h
      refine w_if_eq_f (q := 28) d_Hair_monksWith_25 58 rfl rfl c4 ?_
      refine w_aload_n (q := 29) d_Hair_monksWith_28 rfl rfl ?_
      refine w_get (q := 32) (ci := 2) (j := 0) d_Hair_monksWith_29 rfl (by decide) fl_Hair_18 (by decide) hHair.2.1 hHair.1 rfl rfl ?_
      refine w_iload (q := 34) d_Hair_monksWith_32 rfl rfl ?_
      refine w_bipush (q := 36) (v := 7) d_Hair_monksWith_34 rfl (by decide) ?_
      obtain ⟨v5, hv, h⟩ := bnd h
      refine w_callVi (q := 39) (M' := M_Roll_cell) (n' := 0) (k := ro) (As := [.int s.2, .int 7]) (sh' := sh) (b1 := (0, 0)) d_Hair_monksWith_36 rfl mw_Roll_cell (by decide) (by decide) ml_Hair_69 hHair.2.2.2.2.2.1 hHair.2.2.2.2.1 (by decide) rfl rfl rfl (leb rfl) (bz _) (fun _ => rfl) (ok_Roll_cell hHair.2.2.2.2 hv) ?_
      refine w_iload_n (q := 40) d_Hair_monksWith_39 rfl rfl ?_
      by_cases c6 : v5 = k1
      · rw [if_pos c6] at h
        refine w_icmp_ne_f (q := 43) d_Hair_monksWith_40 58 rfl rfl c6 ?_
        refine w_iload_n (q := 44) d_Hair_monksWith_43 rfl rfl ?_
        refine w_iconst (q := 45) (v := 1) d_Hair_monksWith_44 rfl (by decide) ?_
        refine w_aload_n (q := 46) d_Hair_monksWith_45 rfl rfl ?_
        refine w_get (q := 49) (ci := 2) (j := 0) d_Hair_monksWith_46 rfl (by decide) fl_Hair_18 (by decide) hHair.2.1 hHair.1 rfl rfl ?_
        refine w_iload (q := 51) d_Hair_monksWith_49 rfl rfl ?_
        refine w_iconst (q := 52) (v := 1) d_Hair_monksWith_51 rfl (by decide) ?_
        obtain ⟨v7, hv, h⟩ := bnd h
        refine w_callVi (q := 55) (M' := M_Roll_cell) (n' := 0) (k := ro) (As := [.int s.2, .int 1]) (sh' := sh) (b1 := (0, 0)) d_Hair_monksWith_52 rfl mw_Roll_cell (by decide) (by decide) ml_Hair_69 hHair.2.2.2.2.2.1 hHair.2.2.2.2.1 (by decide) rfl rfl rfl (leb rfl) (bz _) (fun _ => rfl) (ok_Roll_cell hHair.2.2.2.2 hv) ?_
        refine w_ishl (q := 56) d_Hair_monksWith_55 rfl ?_
        refine w_ior (q := 57) d_Hair_monksWith_56 rfl ?_
        refine w_istore_n (q := 58) (ls' := [some (.ref ha), some (.int k1), some (.int k2), some (.int (s.1 ||| (1 <<< (v7 &&& 31)))), some (.int s.2)]) d_Hair_monksWith_57 rfl (by decide) rfl rfl ?_
        refine w_iinc (q := 61) (ls' := [some (.ref ha), some (.int k1), some (.int k2), some (.int (s.1 ||| (1 <<< (v7 &&& 31)))), some (.int (s.2 + 1))]) d_Hair_monksWith_58 rfl (by decide) rfl rfl rfl ?_
        refine w_goto (q := 10) d_Hair_monksWith_61 rfl ?_
        cases h
        exact w_ls (by exact (And.intro rfl (And.intro rfl (And.intro rfl (And.intro rfl (And.intro rfl trivial)))))) hr
      · rw [if_neg c6] at h
        refine w_icmp_ne_t (q := 58) d_Hair_monksWith_40 rfl c6 ?_
        refine w_iinc (q := 61) (ls' := [some (.ref ha), some (.int k1), some (.int k2), some (.int s.1), some (.int (s.2 + 1))]) d_Hair_monksWith_58 rfl (by decide) rfl rfl rfl ?_
        refine w_goto (q := 10) d_Hair_monksWith_61 rfl ?_
        cases h
        exact w_ls (by exact (And.intro rfl (And.intro rfl (And.intro rfl (And.intro rfl (And.intro rfl trivial)))))) hr
def sp_Hair_monksWith (F : Nat) (ha : Nat) (ro : Nat) (p0 : Int32) (g : Mem) : Option (Int32) := (sp_Hair_allThere ha ro g).bind fun v1 => (lpO (st_Hair_monksWith_10 F ha ro p0 g p0 v1) F (0, 0)).bind fun x8 => some x8
theorem ok_Hair_monksWith {γ : GG} {sh : List Sh} {tt : Bool} {F : Nat} {ha : Nat} {ro : Nat} {p0 : Int32} {g : Mem} (hHair : isHair sh ha ro) {res : Int32} (h : sp_Hair_monksWith F ha ro p0 g = some res) : CA γ M_Hair_monksWith 1 [.ref ha, .int p0] sh g tt (0, 0) (pI sh res g tt) := by
  refine CA.of mw_Hair_monksWith.1 3 rfl ?_
  show WA γ M_Hair_monksWith 1 0 [some (.ref ha), some (.int p0), none, none, none] [] sh g tt (0, 0) (pI sh res g tt)
  unfold sp_Hair_monksWith at h
  refine w_aload_n (q := 1) d_Hair_monksWith_0 rfl rfl ?_
  obtain ⟨v1, hv, h⟩ := bnd h
  refine w_callVi (q := 4) (M' := M_Hair_allThere) (n' := 0) (k := ha) (As := []) (sh' := sh) (b1 := (0, 0)) d_Hair_monksWith_1 rfl mw_Hair_allThere (by decide) (by decide) ml_Hair_73 hHair.2.1 hHair.1 (by decide) rfl rfl rfl (leb rfl) (bz _) (fun _ => rfl) (ok_Hair_allThere hHair hv) ?_
  refine w_istore_n (q := 5) (ls' := [some (.ref ha), some (.int p0), some (.int v1), none, none]) d_Hair_monksWith_4 rfl (by decide) rfl rfl ?_
  refine w_iconst (q := 6) (v := 0) d_Hair_monksWith_5 rfl (by decide) ?_
  refine w_istore_n (q := 7) (ls' := [some (.ref ha), some (.int p0), some (.int v1), some (.int 0), none]) d_Hair_monksWith_6 rfl (by decide) rfl rfl ?_
  refine w_iconst (q := 8) (v := 0) d_Hair_monksWith_7 rfl (by decide) ?_
  refine w_istore (q := 10) (ls' := [some (.ref ha), some (.int p0), some (.int v1), some (.int 0), some (.int 0)]) d_Hair_monksWith_8 rfl (by decide) rfl rfl ?_
  obtain ⟨x8, hx, h⟩ := bnd h
  refine w_ls (ls' := [some (.ref ha), some (.int p0), some (.int v1), some (.int 0), some (.int 0)]) (And.intro rfl (And.intro rfl (And.intro rfl (And.intro rfl (And.intro rfl trivial))))) ?_
  show PL_Hair_monksWith_10 γ sh tt ha ro p0 g p0 v1 _ _ (0, 0)
  refine lp_ok (kl_Hair_monksWith_10 hHair) F _ x8 hx ?_
  unfold QL_Hair_monksWith_10
  refine w_iload_n (q := 65) d_Hair_monksWith_64 rfl rfl ?_
  cases h
  exact w_ireturn d_Hair_monksWith_65 rfl rfl ⟨rfl, rfl, rfl, rfl⟩
def sp_Hair_holds (F : Nat) (ha : Nat) (ro : Nat) (p0 : Int32) (p1 : Int32) (g : Mem) : Option (Int32) := (sp_Hair_monksWith F ha ro p1 g).bind fun v1 => (sp_Hall_hasBit v1 p0 g).bind fun v2 => (bl v2).bind fun v3 => some v3
theorem ok_Hair_holds {γ : GG} {sh : List Sh} {tt : Bool} {F : Nat} {ha : Nat} {ro : Nat} {p0 : Int32} {p1 : Int32} {g : Mem} (hHair : isHair sh ha ro) {res : Int32} (h : sp_Hair_holds F ha ro p0 p1 g = some res) : CA γ M_Hair_holds 2 [.ref ha, .int p0, .int p1] sh g tt (0, 0) (pI sh res g tt) := by
  refine CA.of mw_Hair_holds.1 0 rfl ?_
  show WA γ M_Hair_holds 2 0 [some (.ref ha), some (.int p0), some (.int p1)] [] sh g tt (0, 0) (pI sh res g tt)
  unfold sp_Hair_holds at h
  refine w_aload_n (q := 1) d_Hair_holds_0 rfl rfl ?_
  refine w_iload_n (q := 2) d_Hair_holds_1 rfl rfl ?_
  obtain ⟨v1, hv, h⟩ := bnd h
  refine w_callVi (q := 5) (M' := M_Hair_monksWith) (n' := 1) (k := ha) (As := [.int p1]) (sh' := sh) (b1 := (0, 0)) d_Hair_holds_2 rfl mw_Hair_monksWith (by decide) (by decide) ml_Hair_87 hHair.2.1 hHair.1 (by decide) rfl rfl rfl (leb rfl) (bz _) (fun _ => rfl) (ok_Hair_monksWith hHair hv) ?_
  refine w_iload_n (q := 6) d_Hair_holds_5 rfl rfl ?_
  obtain ⟨v2, hv, h⟩ := bnd h
  refine w_callNi (q := 9) (host := "BeardHall") (M' := M_Hall_hasBit) (n' := 0) (As := [.int v1, .int p0]) (sh' := sh) (b1 := (0, 0)) d_Hair_holds_6 rfl mw_Hall_hasBit (by decide) (by decide) (by decide) rfl rfl (leb rfl) (bz _) (fun _ => rfl) (ok_Hall_hasBit hv) ?_
  obtain ⟨v3, hv, h⟩ := bnd h
  obtain ⟨hv, hn⟩ := bl_ok hv
  rw [hv] at h
  cases h
  exact w_ireturn d_Hair_holds_9 rfl hn ⟨rfl, rfl, rfl, rfl⟩
def sp_Hair_recordsLostBy (F : Nat) (ha : Nat) (ro : Nat) (p0 : Int32) (g : Mem) : Option (Int32) := (sp_Hair_allThere ha ro g).bind fun v1 => (sp_Hair_recordsOf F ha ro v1 g).bind fun v2 => (sp_Hair_recordsOf F ha ro (v1 &&& (p0 ^^^ (-1))) g).bind fun v3 => some (v2 &&& (v3 ^^^ (-1)))
theorem ok_Hair_recordsLostBy {γ : GG} {sh : List Sh} {tt : Bool} {F : Nat} {ha : Nat} {ro : Nat} {p0 : Int32} {g : Mem} (hHair : isHair sh ha ro) {res : Int32} (h : sp_Hair_recordsLostBy F ha ro p0 g = some res) : CA γ M_Hair_recordsLostBy 2 [.ref ha, .int p0] sh g tt (0, 0) (pI sh res g tt) := by
  refine CA.of mw_Hair_recordsLostBy.1 1 rfl ?_
  show WA γ M_Hair_recordsLostBy 2 0 [some (.ref ha), some (.int p0), none] [] sh g tt (0, 0) (pI sh res g tt)
  unfold sp_Hair_recordsLostBy at h
  refine w_aload_n (q := 1) d_Hair_recordsLostBy_0 rfl rfl ?_
  obtain ⟨v1, hv, h⟩ := bnd h
  refine w_callVi (q := 4) (M' := M_Hair_allThere) (n' := 0) (k := ha) (As := []) (sh' := sh) (b1 := (0, 0)) d_Hair_recordsLostBy_1 rfl mw_Hair_allThere (by decide) (by decide) ml_Hair_73 hHair.2.1 hHair.1 (by decide) rfl rfl rfl (leb rfl) (bz _) (fun _ => rfl) (ok_Hair_allThere hHair hv) ?_
  refine w_istore_n (q := 5) (ls' := [some (.ref ha), some (.int p0), some (.int v1)]) d_Hair_recordsLostBy_4 rfl (by decide) rfl rfl ?_
  refine w_aload_n (q := 6) d_Hair_recordsLostBy_5 rfl rfl ?_
  refine w_iload_n (q := 7) d_Hair_recordsLostBy_6 rfl rfl ?_
  obtain ⟨v2, hv, h⟩ := bnd h
  refine w_callVi (q := 10) (M' := M_Hair_recordsOf) (n' := 1) (k := ha) (As := [.int v1]) (sh' := sh) (b1 := (0, 0)) d_Hair_recordsLostBy_7 rfl mw_Hair_recordsOf (by decide) (by decide) ml_Hair_81 hHair.2.1 hHair.1 (by decide) rfl rfl rfl (leb rfl) (bz _) (fun _ => rfl) (ok_Hair_recordsOf hHair hv) ?_
  refine w_aload_n (q := 11) d_Hair_recordsLostBy_10 rfl rfl ?_
  refine w_iload_n (q := 12) d_Hair_recordsLostBy_11 rfl rfl ?_
  refine w_iload_n (q := 13) d_Hair_recordsLostBy_12 rfl rfl ?_
  refine w_iconst (q := 14) (v := (-1)) d_Hair_recordsLostBy_13 rfl (by decide) ?_
  refine w_ixor (q := 15) d_Hair_recordsLostBy_14 rfl ?_
  refine w_iand (q := 16) d_Hair_recordsLostBy_15 rfl ?_
  obtain ⟨v3, hv, h⟩ := bnd h
  refine w_callVi (q := 19) (M' := M_Hair_recordsOf) (n' := 1) (k := ha) (As := [.int (v1 &&& (p0 ^^^ (-1)))]) (sh' := sh) (b1 := (0, 0)) d_Hair_recordsLostBy_16 rfl mw_Hair_recordsOf (by decide) (by decide) ml_Hair_81 hHair.2.1 hHair.1 (by decide) rfl rfl rfl (leb rfl) (bz _) (fun _ => rfl) (ok_Hair_recordsOf hHair hv) ?_
  refine w_iconst (q := 20) (v := (-1)) d_Hair_recordsLostBy_19 rfl (by decide) ?_
  refine w_ixor (q := 21) d_Hair_recordsLostBy_20 rfl ?_
  refine w_iand (q := 22) d_Hair_recordsLostBy_21 rfl ?_
  cases h
  exact w_ireturn d_Hair_recordsLostBy_22 rfl rfl ⟨rfl, rfl, rfl, rfl⟩
def PL_Hair_valuesOf_5 (γ : GG) (sh : List Sh) (tt : Bool) (ha : Nat) (ro : Nat) (p0 : Int32) (p1 : Int32) (g : Mem) (k1 : Int32) (k2 : Int32) (b : Nat × Nat) (Φ : PO) (s : Int32 × Int32) : Prop := WA γ M_Hair_valuesOf 1 5 [some (.ref ha), some (.int k1), some (.int k2), some (.int s.1), some (.int s.2)] [] sh g tt b Φ
def QL_Hair_valuesOf_5 (γ : GG) (sh : List Sh) (tt : Bool) (ha : Nat) (ro : Nat) (p0 : Int32) (p1 : Int32) (g : Mem) (k1 : Int32) (k2 : Int32) (b : Nat × Nat) (Φ : PO) (x : (Int32)) : Prop := WA γ M_Hair_valuesOf 1 56 [none, none, none, some (.int x), none] [] sh g tt b Φ
def st_Hair_valuesOf_5 (F : Nat) (ha : Nat) (ro : Nat) (p0 : Int32) (p1 : Int32) (g : Mem) (k1 : Int32) (k2 : Int32) (s : Int32 × Int32) : Option ((Int32 × Int32) ⊕ ((Int32))) := if (g ha 4) ≤ s.2 then some (.inr s.1) else (sp_Hall_hasBit k1 s.2 g).bind fun v2 => if v2 = 0 then some (.inl (s.1, s.2 + 1)) else (sp_Roll_cell ro s.2 0 g).bind fun v4 => if v4 = k2 then (sp_Roll_cell ro s.2 4 g).bind fun v6 => some (.inl (s.1 + v6, s.2 + 1)) else some (.inl (s.1, s.2 + 1))
theorem kl_Hair_valuesOf_5 {γ : GG} {sh : List Sh} {tt : Bool} {F : Nat} {ha : Nat} {ro : Nat} {p0 : Int32} {p1 : Int32} {g : Mem} {k1 : Int32} {k2 : Int32} {b : Nat × Nat} {Φ : PO} (hHair : isHair sh ha ro) : ∀ (s : Int32 × Int32) (r : (Int32 × Int32) ⊕ ((Int32))), st_Hair_valuesOf_5 F ha ro p0 p1 g k1 k2 s = some r → RQ (PL_Hair_valuesOf_5 γ sh tt ha ro p0 p1 g k1 k2 b Φ) (QL_Hair_valuesOf_5 γ sh tt ha ro p0 p1 g k1 k2 b Φ) r → PL_Hair_valuesOf_5 γ sh tt ha ro p0 p1 g k1 k2 b Φ s := by
  intro s r h hr
  unfold st_Hair_valuesOf_5 at h
  unfold PL_Hair_valuesOf_5
  refine w_iload (q := 7) d_Hair_valuesOf_5 rfl rfl ?_
  refine w_aload_n (q := 8) d_Hair_valuesOf_7 rfl rfl ?_
  refine w_get (q := 11) (ci := 2) (j := 4) d_Hair_valuesOf_8 rfl (by decide) fl_Hair_26 (by decide) hHair.2.1 hHair.1 rfl rfl ?_
  by_cases c1 : (g ha 4) ≤ s.2
  · rw [if_pos c1] at h
    refine w_icmp_ge_t (q := 56) d_Hair_valuesOf_11 rfl c1 ?_
    cases h
    exact w_ls (by exact (And.intro rfl trivial)) hr
  · rw [if_neg c1] at h
    refine w_icmp_ge_f (q := 14) d_Hair_valuesOf_11 56 rfl rfl c1 ?_
    refine w_iload_n (q := 15) d_Hair_valuesOf_14 rfl rfl ?_
    refine w_iload (q := 17) d_Hair_valuesOf_15 rfl rfl ?_
    obtain ⟨v2, hv, h⟩ := bnd h
    refine w_callNi (q := 20) (host := "BeardHall") (M' := M_Hall_hasBit) (n' := 0) (As := [.int k1, .int s.2]) (sh' := sh) (b1 := (0, 0)) d_Hair_valuesOf_17 rfl mw_Hall_hasBit (by decide) (by decide) (by decide) rfl rfl (leb rfl) (bz _) (fun _ => rfl) (ok_Hall_hasBit hv) ?_
    by_cases c3 : v2 = 0
    · rw [if_pos c3] at h
      refine w_if_eq_t (q := 50) d_Hair_valuesOf_20 rfl c3 ?_
      refine w_iinc (q := 53) (ls' := [some (.ref ha), some (.int k1), some (.int k2), some (.int s.1), some (.int (s.2 + 1))]) d_Hair_valuesOf_50 rfl (by decide) rfl rfl rfl ?_
      refine w_goto (q := 5) d_Hair_valuesOf_53 rfl ?_
      cases h
      exact w_ls (by exact (And.intro rfl (And.intro rfl (And.intro rfl (And.intro rfl (And.intro rfl trivial)))))) hr
    · rw [if_neg c3] at h
      refine w_if_eq_f (q := 23) d_Hair_valuesOf_20 50 rfl rfl c3 ?_
      refine w_aload_n (q := 24) d_Hair_valuesOf_23 rfl rfl ?_
      refine w_get (q := 27) (ci := 2) (j := 0) d_Hair_valuesOf_24 rfl (by decide) fl_Hair_18 (by decide) hHair.2.1 hHair.1 rfl rfl ?_
      refine w_iload (q := 29) d_Hair_valuesOf_27 rfl rfl ?_
      refine w_iconst (q := 30) (v := 0) d_Hair_valuesOf_29 rfl (by decide) ?_
      obtain ⟨v4, hv, h⟩ := bnd h
      refine w_callVi (q := 33) (M' := M_Roll_cell) (n' := 0) (k := ro) (As := [.int s.2, .int 0]) (sh' := sh) (b1 := (0, 0)) d_Hair_valuesOf_30 rfl mw_Roll_cell (by decide) (by decide) ml_Hair_69 hHair.2.2.2.2.2.1 hHair.2.2.2.2.1 (by decide) rfl rfl rfl (leb rfl) (bz _) (fun _ => rfl) (ok_Roll_cell hHair.2.2.2.2 hv) ?_
      refine w_iload_n (q := 34) d_Hair_valuesOf_33 rfl rfl ?_
      by_cases c5 : v4 = k2
      · rw [if_pos c5] at h
        refine w_icmp_ne_f (q := 37) d_Hair_valuesOf_34 50 rfl rfl c5 ?_
        refine w_iload_n (q := 38) d_Hair_valuesOf_37 rfl rfl ?_
        refine w_aload_n (q := 39) d_Hair_valuesOf_38 rfl rfl ?_
        refine w_get (q := 42) (ci := 2) (j := 0) d_Hair_valuesOf_39 rfl (by decide) fl_Hair_18 (by decide) hHair.2.1 hHair.1 rfl rfl ?_
        refine w_iload (q := 44) d_Hair_valuesOf_42 rfl rfl ?_
        refine w_iconst (q := 45) (v := 4) d_Hair_valuesOf_44 rfl (by decide) ?_
        obtain ⟨v6, hv, h⟩ := bnd h
        refine w_callVi (q := 48) (M' := M_Roll_cell) (n' := 0) (k := ro) (As := [.int s.2, .int 4]) (sh' := sh) (b1 := (0, 0)) d_Hair_valuesOf_45 rfl mw_Roll_cell (by decide) (by decide) ml_Hair_69 hHair.2.2.2.2.2.1 hHair.2.2.2.2.1 (by decide) rfl rfl rfl (leb rfl) (bz _) (fun _ => rfl) (ok_Roll_cell hHair.2.2.2.2 hv) ?_
        refine w_iadd (q := 49) d_Hair_valuesOf_48 rfl ?_
        refine w_istore_n (q := 50) (ls' := [some (.ref ha), some (.int k1), some (.int k2), some (.int (s.1 + v6)), some (.int s.2)]) d_Hair_valuesOf_49 rfl (by decide) rfl rfl ?_
        refine w_iinc (q := 53) (ls' := [some (.ref ha), some (.int k1), some (.int k2), some (.int (s.1 + v6)), some (.int (s.2 + 1))]) d_Hair_valuesOf_50 rfl (by decide) rfl rfl rfl ?_
        refine w_goto (q := 5) d_Hair_valuesOf_53 rfl ?_
        cases h
        exact w_ls (by exact (And.intro rfl (And.intro rfl (And.intro rfl (And.intro rfl (And.intro rfl trivial)))))) hr
      · rw [if_neg c5] at h
        refine w_icmp_ne_t (q := 50) d_Hair_valuesOf_34 rfl c5 ?_
        refine w_iinc (q := 53) (ls' := [some (.ref ha), some (.int k1), some (.int k2), some (.int s.1), some (.int (s.2 + 1))]) d_Hair_valuesOf_50 rfl (by decide) rfl rfl rfl ?_
        refine w_goto (q := 5) d_Hair_valuesOf_53 rfl ?_
        cases h
        exact w_ls (by exact (And.intro rfl (And.intro rfl (And.intro rfl (And.intro rfl (And.intro rfl trivial)))))) hr
def sp_Hair_valuesOf (F : Nat) (ha : Nat) (ro : Nat) (p0 : Int32) (p1 : Int32) (g : Mem) : Option (Int32) := (lpO (st_Hair_valuesOf_5 F ha ro p0 p1 g p0 p1) F (0, 0)).bind fun x7 => some x7
theorem ok_Hair_valuesOf {γ : GG} {sh : List Sh} {tt : Bool} {F : Nat} {ha : Nat} {ro : Nat} {p0 : Int32} {p1 : Int32} {g : Mem} (hHair : isHair sh ha ro) {res : Int32} (h : sp_Hair_valuesOf F ha ro p0 p1 g = some res) : CA γ M_Hair_valuesOf 1 [.ref ha, .int p0, .int p1] sh g tt (0, 0) (pI sh res g tt) := by
  refine CA.of mw_Hair_valuesOf.1 2 rfl ?_
  show WA γ M_Hair_valuesOf 1 0 [some (.ref ha), some (.int p0), some (.int p1), none, none] [] sh g tt (0, 0) (pI sh res g tt)
  unfold sp_Hair_valuesOf at h
  refine w_iconst (q := 1) (v := 0) d_Hair_valuesOf_0 rfl (by decide) ?_
  refine w_istore_n (q := 2) (ls' := [some (.ref ha), some (.int p0), some (.int p1), some (.int 0), none]) d_Hair_valuesOf_1 rfl (by decide) rfl rfl ?_
  refine w_iconst (q := 3) (v := 0) d_Hair_valuesOf_2 rfl (by decide) ?_
  refine w_istore (q := 5) (ls' := [some (.ref ha), some (.int p0), some (.int p1), some (.int 0), some (.int 0)]) d_Hair_valuesOf_3 rfl (by decide) rfl rfl ?_
  obtain ⟨x7, hx, h⟩ := bnd h
  refine w_ls (ls' := [some (.ref ha), some (.int p0), some (.int p1), some (.int 0), some (.int 0)]) (And.intro rfl (And.intro rfl (And.intro rfl (And.intro rfl (And.intro rfl trivial))))) ?_
  show PL_Hair_valuesOf_5 γ sh tt ha ro p0 p1 g p0 p1 _ _ (0, 0)
  refine lp_ok (kl_Hair_valuesOf_5 hHair) F _ x7 hx ?_
  unfold QL_Hair_valuesOf_5
  refine w_iload_n (q := 57) d_Hair_valuesOf_56 rfl rfl ?_
  cases h
  exact w_ireturn d_Hair_valuesOf_57 rfl rfl ⟨rfl, rfl, rfl, rfl⟩
def PL_Hair_between_13 (γ : GG) (sh : List Sh) (tt : Bool) (ha : Nat) (ro : Nat) (p0 : Int32) (p1 : Int32) (p2 : Int32) (g : Mem) (k2 : Int32) (k3 : Int32) (k4 : Int32) (b : Nat × Nat) (Φ : PO) (s : Int32 × Int32) : Prop := WA γ M_Hair_between 2 13 [some (.ref ha), none, some (.int k2), some (.int k3), some (.int k4), some (.int s.1), some (.int s.2), none] [] sh g tt b Φ
def QL_Hair_between_13 (γ : GG) (sh : List Sh) (tt : Bool) (ha : Nat) (ro : Nat) (p0 : Int32) (p1 : Int32) (p2 : Int32) (g : Mem) (k2 : Int32) (k3 : Int32) (k4 : Int32) (b : Nat × Nat) (Φ : PO) (x : (Int32)) : Prop := WA γ M_Hair_between 2 67 [none, none, none, none, none, some (.int x), none, none] [] sh g tt b Φ
def st_Hair_between_13 (F : Nat) (ha : Nat) (ro : Nat) (p0 : Int32) (p1 : Int32) (p2 : Int32) (g : Mem) (k2 : Int32) (k3 : Int32) (k4 : Int32) (s : Int32 × Int32) : Option ((Int32 × Int32) ⊕ ((Int32))) := if (g ha 4) ≤ s.2 then some (.inr s.1) else (sp_Hair_breadths ha ro s.2 g).bind fun v3 => (sp_Hall_hasBit k4 s.2 g).bind fun v4 => if v4 = 0 then some (.inl (s.1, s.2 + 1)) else if v3 < k2 then some (.inl (s.1, s.2 + 1)) else if k3 < v3 then some (.inl (s.1, s.2 + 1)) else some (.inl (s.1 ||| (1 <<< (s.2 &&& 31)), s.2 + 1))
theorem kl_Hair_between_13 {γ : GG} {sh : List Sh} {tt : Bool} {F : Nat} {ha : Nat} {ro : Nat} {p0 : Int32} {p1 : Int32} {p2 : Int32} {g : Mem} {k2 : Int32} {k3 : Int32} {k4 : Int32} {b : Nat × Nat} {Φ : PO} (hHair : isHair sh ha ro) : ∀ (s : Int32 × Int32) (r : (Int32 × Int32) ⊕ ((Int32))), st_Hair_between_13 F ha ro p0 p1 p2 g k2 k3 k4 s = some r → RQ (PL_Hair_between_13 γ sh tt ha ro p0 p1 p2 g k2 k3 k4 b Φ) (QL_Hair_between_13 γ sh tt ha ro p0 p1 p2 g k2 k3 k4 b Φ) r → PL_Hair_between_13 γ sh tt ha ro p0 p1 p2 g k2 k3 k4 b Φ s := by
  intro s r h hr
  unfold st_Hair_between_13 at h
  unfold PL_Hair_between_13
  refine w_iload (q := 15) d_Hair_between_13 rfl rfl ?_
  refine w_aload_n (q := 16) d_Hair_between_15 rfl rfl ?_
  refine w_get (q := 19) (ci := 2) (j := 4) d_Hair_between_16 rfl (by decide) fl_Hair_26 (by decide) hHair.2.1 hHair.1 rfl rfl ?_
  by_cases c2 : (g ha 4) ≤ s.2
  · rw [if_pos c2] at h
    refine w_icmp_ge_t (q := 67) d_Hair_between_19 rfl c2 ?_
    cases h
    exact w_ls (by exact (And.intro rfl trivial)) hr
  · rw [if_neg c2] at h
    refine w_icmp_ge_f (q := 22) d_Hair_between_19 67 rfl rfl c2 ?_
    refine w_aload_n (q := 23) d_Hair_between_22 rfl rfl ?_
    refine w_iload (q := 25) d_Hair_between_23 rfl rfl ?_
    obtain ⟨v3, hv, h⟩ := bnd h
    refine w_callVi (q := 28) (M' := M_Hair_breadths) (n' := 1) (k := ha) (As := [.int s.2]) (sh' := sh) (b1 := (0, 0)) d_Hair_between_25 rfl mw_Hair_breadths (by decide) (by decide) ml_Hair_98 hHair.2.1 hHair.1 (by decide) rfl rfl rfl (leb rfl) (bz _) (fun _ => rfl) (ok_Hair_breadths hHair hv) ?_
    refine w_istore (q := 30) (ls' := [some (.ref ha), none, some (.int k2), some (.int k3), some (.int k4), some (.int s.1), some (.int s.2), some (.int v3)]) d_Hair_between_28 rfl (by decide) rfl rfl ?_
    refine w_iload (q := 32) d_Hair_between_30 rfl rfl ?_
    refine w_iload (q := 34) d_Hair_between_32 rfl rfl ?_
    obtain ⟨v4, hv, h⟩ := bnd h
    refine w_callNi (q := 37) (host := "BeardHall") (M' := M_Hall_hasBit) (n' := 0) (As := [.int k4, .int s.2]) (sh' := sh) (b1 := (0, 0)) d_Hair_between_34 rfl mw_Hall_hasBit (by decide) (by decide) (by decide) rfl rfl (leb rfl) (bz _) (fun _ => rfl) (ok_Hall_hasBit hv) ?_
    by_cases c5 : v4 = 0
    · rw [if_pos c5] at h
      refine w_if_eq_t (q := 61) d_Hair_between_37 rfl c5 ?_
      refine w_iinc (q := 64) (ls' := [some (.ref ha), none, some (.int k2), some (.int k3), some (.int k4), some (.int s.1), some (.int (s.2 + 1)), some (.int v3)]) d_Hair_between_61 rfl (by decide) rfl rfl rfl ?_
      refine w_goto (q := 13) d_Hair_between_64 rfl ?_
      cases h
      exact w_ls (by exact (And.intro rfl (And.intro rfl (And.intro rfl (And.intro rfl (And.intro rfl (And.intro rfl trivial))))))) hr
    · rw [if_neg c5] at h
      refine w_if_eq_f (q := 40) d_Hair_between_37 61 rfl rfl c5 ?_
      refine w_iload (q := 42) d_Hair_between_40 rfl rfl ?_
      refine w_iload_n (q := 43) d_Hair_between_42 rfl rfl ?_
      by_cases c6 : v3 < k2
      · rw [if_pos c6] at h
        refine w_icmp_lt_t (q := 61) d_Hair_between_43 rfl c6 ?_
        refine w_iinc (q := 64) (ls' := [some (.ref ha), none, some (.int k2), some (.int k3), some (.int k4), some (.int s.1), some (.int (s.2 + 1)), some (.int v3)]) d_Hair_between_61 rfl (by decide) rfl rfl rfl ?_
        refine w_goto (q := 13) d_Hair_between_64 rfl ?_
        cases h
        exact w_ls (by exact (And.intro rfl (And.intro rfl (And.intro rfl (And.intro rfl (And.intro rfl (And.intro rfl trivial))))))) hr
      · rw [if_neg c6] at h
        refine w_icmp_lt_f (q := 46) d_Hair_between_43 61 rfl rfl c6 ?_
        refine w_iload (q := 48) d_Hair_between_46 rfl rfl ?_
        refine w_iload_n (q := 49) d_Hair_between_48 rfl rfl ?_
        by_cases c7 : k3 < v3
        · rw [if_pos c7] at h
          refine w_icmp_gt_t (q := 61) d_Hair_between_49 rfl c7 ?_
          refine w_iinc (q := 64) (ls' := [some (.ref ha), none, some (.int k2), some (.int k3), some (.int k4), some (.int s.1), some (.int (s.2 + 1)), some (.int v3)]) d_Hair_between_61 rfl (by decide) rfl rfl rfl ?_
          refine w_goto (q := 13) d_Hair_between_64 rfl ?_
          cases h
          exact w_ls (by exact (And.intro rfl (And.intro rfl (And.intro rfl (And.intro rfl (And.intro rfl (And.intro rfl trivial))))))) hr
        · rw [if_neg c7] at h
          refine w_icmp_gt_f (q := 52) d_Hair_between_49 61 rfl rfl c7 ?_
          refine w_iload (q := 54) d_Hair_between_52 rfl rfl ?_
          refine w_iconst (q := 55) (v := 1) d_Hair_between_54 rfl (by decide) ?_
          refine w_iload (q := 57) d_Hair_between_55 rfl rfl ?_
          refine w_ishl (q := 58) d_Hair_between_57 rfl ?_
          refine w_ior (q := 59) d_Hair_between_58 rfl ?_
          refine w_istore (q := 61) (ls' := [some (.ref ha), none, some (.int k2), some (.int k3), some (.int k4), some (.int (s.1 ||| (1 <<< (s.2 &&& 31)))), some (.int s.2), some (.int v3)]) d_Hair_between_59 rfl (by decide) rfl rfl ?_
          refine w_iinc (q := 64) (ls' := [some (.ref ha), none, some (.int k2), some (.int k3), some (.int k4), some (.int (s.1 ||| (1 <<< (s.2 &&& 31)))), some (.int (s.2 + 1)), some (.int v3)]) d_Hair_between_61 rfl (by decide) rfl rfl rfl ?_
          refine w_goto (q := 13) d_Hair_between_64 rfl ?_
          cases h
          exact w_ls (by exact (And.intro rfl (And.intro rfl (And.intro rfl (And.intro rfl (And.intro rfl (And.intro rfl trivial))))))) hr
def sp_Hair_between (F : Nat) (ha : Nat) (ro : Nat) (p0 : Int32) (p1 : Int32) (p2 : Int32) (g : Mem) : Option (Int32) := (sp_Hair_thereOf F ha ro p0 g).bind fun v1 => (lpO (st_Hair_between_13 F ha ro p0 p1 p2 g p1 p2 v1) F (0, 0)).bind fun x8 => some x8
theorem ok_Hair_between {γ : GG} {sh : List Sh} {tt : Bool} {F : Nat} {ha : Nat} {ro : Nat} {p0 : Int32} {p1 : Int32} {p2 : Int32} {g : Mem} (hHair : isHair sh ha ro) {res : Int32} (h : sp_Hair_between F ha ro p0 p1 p2 g = some res) : CA γ M_Hair_between 2 [.ref ha, .int p0, .int p1, .int p2] sh g tt (0, 0) (pI sh res g tt) := by
  refine CA.of mw_Hair_between.1 4 rfl ?_
  show WA γ M_Hair_between 2 0 [some (.ref ha), some (.int p0), some (.int p1), some (.int p2), none, none, none, none] [] sh g tt (0, 0) (pI sh res g tt)
  unfold sp_Hair_between at h
  refine w_aload_n (q := 1) d_Hair_between_0 rfl rfl ?_
  refine w_iload_n (q := 2) d_Hair_between_1 rfl rfl ?_
  obtain ⟨v1, hv, h⟩ := bnd h
  refine w_callVi (q := 5) (M' := M_Hair_thereOf) (n' := 1) (k := ha) (As := [.int p0]) (sh' := sh) (b1 := (0, 0)) d_Hair_between_2 rfl mw_Hair_thereOf (by decide) (by decide) ml_Hair_84 hHair.2.1 hHair.1 (by decide) rfl rfl rfl (leb rfl) (bz _) (fun _ => rfl) (ok_Hair_thereOf hHair hv) ?_
  refine w_istore (q := 7) (ls' := [some (.ref ha), some (.int p0), some (.int p1), some (.int p2), some (.int v1), none, none, none]) d_Hair_between_5 rfl (by decide) rfl rfl ?_
  refine w_iconst (q := 8) (v := 0) d_Hair_between_7 rfl (by decide) ?_
  refine w_istore (q := 10) (ls' := [some (.ref ha), some (.int p0), some (.int p1), some (.int p2), some (.int v1), some (.int 0), none, none]) d_Hair_between_8 rfl (by decide) rfl rfl ?_
  refine w_iconst (q := 11) (v := 0) d_Hair_between_10 rfl (by decide) ?_
  refine w_istore (q := 13) (ls' := [some (.ref ha), some (.int p0), some (.int p1), some (.int p2), some (.int v1), some (.int 0), some (.int 0), none]) d_Hair_between_11 rfl (by decide) rfl rfl ?_
  obtain ⟨x8, hx, h⟩ := bnd h
  refine w_ls (ls' := [some (.ref ha), none, some (.int p1), some (.int p2), some (.int v1), some (.int 0), some (.int 0), none]) (And.intro rfl (And.intro rfl (And.intro rfl (And.intro rfl (And.intro rfl (And.intro rfl trivial)))))) ?_
  show PL_Hair_between_13 γ sh tt ha ro p0 p1 p2 g p1 p2 v1 _ _ (0, 0)
  refine lp_ok (kl_Hair_between_13 hHair) F _ x8 hx ?_
  unfold QL_Hair_between_13
  refine w_iload (q := 69) d_Hair_between_67 rfl rfl ?_
  cases h
  exact w_ireturn d_Hair_between_69 rfl rfl ⟨rfl, rfl, rfl, rfl⟩
def sp_Hair_beyond (F : Nat) (ha : Nat) (ro : Nat) (p0 : Int32) (p1 : Int32) (g : Mem) : Option (Int32) := (sp_Hair_between F ha ro p0 (p1 + 1) 2147483647 g).bind fun v1 => some v1
theorem ok_Hair_beyond {γ : GG} {sh : List Sh} {tt : Bool} {F : Nat} {ha : Nat} {ro : Nat} {p0 : Int32} {p1 : Int32} {g : Mem} (hHair : isHair sh ha ro) {res : Int32} (h : sp_Hair_beyond F ha ro p0 p1 g = some res) : CA γ M_Hair_beyond 3 [.ref ha, .int p0, .int p1] sh g tt (0, 0) (pI sh res g tt) := by
  refine CA.of mw_Hair_beyond.1 0 rfl ?_
  show WA γ M_Hair_beyond 3 0 [some (.ref ha), some (.int p0), some (.int p1)] [] sh g tt (0, 0) (pI sh res g tt)
  unfold sp_Hair_beyond at h
  refine w_aload_n (q := 1) d_Hair_beyond_0 rfl rfl ?_
  refine w_iload_n (q := 2) d_Hair_beyond_1 rfl rfl ?_
  refine w_iload_n (q := 3) d_Hair_beyond_2 rfl rfl ?_
  refine w_iconst (q := 4) (v := 1) d_Hair_beyond_3 rfl (by decide) ?_
  refine w_iadd (q := 5) d_Hair_beyond_4 rfl ?_
  refine w_ldc (q := 7) d_Hair_beyond_5 rfl co_Hair_90 ?_
  obtain ⟨v1, hv, h⟩ := bnd h
  refine w_callVi (q := 10) (M' := M_Hair_between) (n' := 2) (k := ha) (As := [.int p0, .int (p1 + 1), .int 2147483647]) (sh' := sh) (b1 := (0, 0)) d_Hair_beyond_7 rfl mw_Hair_between (by decide) (by decide) ml_Hair_91 hHair.2.1 hHair.1 (by decide) rfl rfl rfl (leb rfl) (bz _) (fun _ => rfl) (ok_Hair_between hHair hv) ?_
  cases h
  exact w_ireturn d_Hair_beyond_10 rfl rfl ⟨rfl, rfl, rfl, rfl⟩
def sp_Hair_eatable (F : Nat) (ha : Nat) (ro : Nat) (p0 : Int32) (p1 : Int32) (p2 : Int32) (g : Mem) : Option (Int32) := (rd g (ro + 1) 6 p0).bind fun v1 => if v1 = 3 then some 0 else (sp_Hair_between F ha ro p0 p1 p2 g).bind fun v3 => some (v3 &&& ((g ha 6) ^^^ (-1)))
theorem ok_Hair_eatable {γ : GG} {sh : List Sh} {tt : Bool} {F : Nat} {ha : Nat} {ro : Nat} {p0 : Int32} {p1 : Int32} {p2 : Int32} {g : Mem} (hHair : isHair sh ha ro) {res : Int32} (h : sp_Hair_eatable F ha ro p0 p1 p2 g = some res) : CA γ M_Hair_eatable 3 [.ref ha, .int p0, .int p1, .int p2] sh g tt (0, 0) (pI sh res g tt) := by
  refine CA.of mw_Hair_eatable.1 0 rfl ?_
  show WA γ M_Hair_eatable 3 0 [some (.ref ha), some (.int p0), some (.int p1), some (.int p2)] [] sh g tt (0, 0) (pI sh res g tt)
  unfold sp_Hair_eatable at h
  refine w_aload_n (q := 1) d_Hair_eatable_0 rfl rfl ?_
  refine w_get (q := 4) (ci := 2) (j := 0) d_Hair_eatable_1 rfl (by decide) fl_Hair_18 (by decide) hHair.2.1 hHair.1 rfl rfl ?_
  refine w_get (q := 7) (ci := 7) (j := 4) d_Hair_eatable_4 rfl (by decide) fl_Hair_95 (by decide) hHair.2.2.2.2.2.1 hHair.2.2.2.2.1 rfl rfl ?_
  refine w_iload_n (q := 8) d_Hair_eatable_7 rfl rfl ?_
  obtain ⟨v1, hv, h⟩ := bnd h
  obtain ⟨hi, hv⟩ := rd_ok hv
  refine w_iald (q := 9) (t := 0) d_Hair_eatable_8 rfl hHair.2.2.2.2.2.2.1.2 hHair.2.2.2.2.2.2.1.1 hi rfl ?_
  rw [hv]
  refine w_iconst (q := 10) (v := 3) d_Hair_eatable_9 rfl (by decide) ?_
  by_cases c2 : v1 = 3
  · rw [if_pos c2] at h
    refine w_icmp_ne_f (q := 13) d_Hair_eatable_10 17 rfl rfl c2 ?_
    refine w_iconst (q := 14) (v := 0) d_Hair_eatable_13 rfl (by decide) ?_
    refine w_goto (q := 31) d_Hair_eatable_14 rfl ?_
    cases h
    exact w_ireturn d_Hair_eatable_31 rfl rfl ⟨rfl, rfl, rfl, rfl⟩
  · rw [if_neg c2] at h
    refine w_icmp_ne_t (q := 17) d_Hair_eatable_10 rfl c2 ?_
    refine w_aload_n (q := 18) d_Hair_eatable_17 rfl rfl ?_
    refine w_iload_n (q := 19) d_Hair_eatable_18 rfl rfl ?_
    refine w_iload_n (q := 20) d_Hair_eatable_19 rfl rfl ?_
    refine w_iload_n (q := 21) d_Hair_eatable_20 rfl rfl ?_
    obtain ⟨v3, hv, h⟩ := bnd h
    refine w_callVi (q := 24) (M' := M_Hair_between) (n' := 2) (k := ha) (As := [.int p0, .int p1, .int p2]) (sh' := sh) (b1 := (0, 0)) d_Hair_eatable_21 rfl mw_Hair_between (by decide) (by decide) ml_Hair_91 hHair.2.1 hHair.1 (by decide) rfl rfl rfl (leb rfl) (bz _) (fun _ => rfl) (ok_Hair_between hHair hv) ?_
    refine w_aload_n (q := 25) d_Hair_eatable_24 rfl rfl ?_
    refine w_get (q := 28) (ci := 2) (j := 6) d_Hair_eatable_25 rfl (by decide) fl_Hair_32 (by decide) hHair.2.1 hHair.1 rfl rfl ?_
    refine w_iconst (q := 29) (v := (-1)) d_Hair_eatable_28 rfl (by decide) ?_
    refine w_ixor (q := 30) d_Hair_eatable_29 rfl ?_
    refine w_iand (q := 31) d_Hair_eatable_30 rfl ?_
    cases h
    exact w_ireturn d_Hair_eatable_31 rfl rfl ⟨rfl, rfl, rfl, rfl⟩
def sp_Hair_lose (ha : Nat) (ro : Nat) (p0 : Int32) (g : Mem) : Option (Int32 × Mem) := (sp_JInteger_bitCount p0 (mset g ha 5 ((g ha 5) ||| p0))).bind fun v1 => some (v1, (mset g ha 5 ((g ha 5) ||| p0)))
theorem ok_Hair_lose {γ : GG} {sh : List Sh} {tt : Bool} {ha : Nat} {ro : Nat} {p0 : Int32} {g : Mem} (hHair : isHair sh ha ro) {res : Int32 × Mem} (h : sp_Hair_lose ha ro p0 g = some res) : CA γ M_Hair_lose 1 [.ref ha, .int p0] sh g tt (0, 0) (pI sh res.1 res.2 tt) := by
  refine CA.of mw_Hair_lose.1 0 rfl ?_
  show WA γ M_Hair_lose 1 0 [some (.ref ha), some (.int p0)] [] sh g tt (0, 0) (pI sh res.1 res.2 tt)
  unfold sp_Hair_lose at h
  refine w_aload_n (q := 1) d_Hair_lose_0 rfl rfl ?_
  refine w_dup (q := 2) d_Hair_lose_1 rfl rfl ?_
  refine w_get (q := 5) (ci := 2) (j := 5) d_Hair_lose_2 rfl (by decide) fl_Hair_29 (by decide) hHair.2.1 hHair.1 rfl rfl ?_
  refine w_iload_n (q := 6) d_Hair_lose_5 rfl rfl ?_
  refine w_ior (q := 7) d_Hair_lose_6 rfl ?_
  refine w_put (q := 10) (ci := 2) (j := 5) d_Hair_lose_7 rfl (by decide) fl_Hair_29 (by decide) hHair.2.1 hHair.1 rfl rfl rfl rfl rfl rfl ?_
  refine w_iload_n (q := 11) d_Hair_lose_10 rfl rfl ?_
  obtain ⟨v1, hv, h⟩ := bnd h
  refine w_callSi (q := 14) (M' := M_JInteger_bitCount) (n' := 0) (As := [.int p0]) (sh' := sh) (b1 := (0, 0)) d_Hair_lose_11 rfl mw_JInteger_bitCount (by decide) (by decide) ml_Hair_101 rfl rfl (leb rfl) (bz _) (fun _ => rfl) (ok_JInteger_bitCount hv) ?_
  cases h
  exact w_ireturn d_Hair_lose_14 rfl rfl ⟨rfl, rfl, rfl, rfl⟩
def sp_Hair_shaveTo (F : Nat) (ha : Nat) (ro : Nat) (p0 : Int32) (p1 : Int32) (g : Mem) : Option (Int32 × Mem) := (wr g (ha + 1) 6 p0 p1).bind fun g1 => (sp_Hair_beyond F ha ro p0 p1 g1).bind fun v2 => (sp_Hair_lose ha ro v2 g1).bind fun v3 => some (v3.1, v3.2)
theorem ok_Hair_shaveTo {γ : GG} {sh : List Sh} {tt : Bool} {F : Nat} {ha : Nat} {ro : Nat} {p0 : Int32} {p1 : Int32} {g : Mem} (hHair : isHair sh ha ro) {res : Int32 × Mem} (h : sp_Hair_shaveTo F ha ro p0 p1 g = some res) : CA γ M_Hair_shaveTo 4 [.ref ha, .int p0, .int p1] sh g tt (0, 0) (pI sh res.1 res.2 tt) := by
  refine CA.of mw_Hair_shaveTo.1 0 rfl ?_
  show WA γ M_Hair_shaveTo 4 0 [some (.ref ha), some (.int p0), some (.int p1)] [] sh g tt (0, 0) (pI sh res.1 res.2 tt)
  unfold sp_Hair_shaveTo at h
  refine w_aload_n (q := 1) d_Hair_shaveTo_0 rfl rfl ?_
  refine w_get (q := 4) (ci := 2) (j := 1) d_Hair_shaveTo_1 rfl (by decide) fl_Hair_9 (by decide) hHair.2.1 hHair.1 rfl rfl ?_
  refine w_iload_n (q := 5) d_Hair_shaveTo_4 rfl rfl ?_
  refine w_iload_n (q := 6) d_Hair_shaveTo_5 rfl rfl ?_
  obtain ⟨g1, hv, h⟩ := bnd h
  obtain ⟨hi, hv⟩ := wr_ok hv
  refine w_iast (q := 7) d_Hair_shaveTo_6 rfl hHair.2.2.1.2 hHair.2.2.1.1 hi hv ?_
  refine w_aload_n (q := 8) d_Hair_shaveTo_7 rfl rfl ?_
  refine w_aload_n (q := 9) d_Hair_shaveTo_8 rfl rfl ?_
  refine w_iload_n (q := 10) d_Hair_shaveTo_9 rfl rfl ?_
  refine w_iload_n (q := 11) d_Hair_shaveTo_10 rfl rfl ?_
  obtain ⟨v2, hv, h⟩ := bnd h
  refine w_callVi (q := 14) (M' := M_Hair_beyond) (n' := 3) (k := ha) (As := [.int p0, .int p1]) (sh' := sh) (b1 := (0, 0)) d_Hair_shaveTo_11 rfl mw_Hair_beyond (by decide) (by decide) ml_Hair_106 hHair.2.1 hHair.1 (by decide) rfl rfl rfl (leb rfl) (bz _) (fun _ => rfl) (ok_Hair_beyond hHair hv) ?_
  obtain ⟨v3, hv, h⟩ := bnd h
  refine w_callVi (q := 17) (M' := M_Hair_lose) (n' := 1) (k := ha) (As := [.int v2]) (sh' := sh) (b1 := (0, 0)) d_Hair_shaveTo_14 rfl mw_Hair_lose (by decide) (by decide) ml_Hair_109 hHair.2.1 hHair.1 (by decide) rfl rfl rfl (leb rfl) (bz _) (fun _ => rfl) (ok_Hair_lose hHair hv) ?_
  cases h
  exact w_ireturn d_Hair_shaveTo_17 rfl rfl ⟨rfl, rfl, rfl, rfl⟩
def sp_Hair_tie (ha : Nat) (ro : Nat) (p0 : Int32) (g : Mem) : Option (Mem) := some (mset g ha 6 ((g ha 6) ||| (1 <<< (p0 &&& 31))))
theorem ok_Hair_tie {γ : GG} {sh : List Sh} {tt : Bool} {ha : Nat} {ro : Nat} {p0 : Int32} {g : Mem} (hHair : isHair sh ha ro) {res : Mem} (h : sp_Hair_tie ha ro p0 g = some res) : CA γ M_Hair_tie 0 [.ref ha, .int p0] sh g tt (0, 0) (pV sh res tt) := by
  refine CA.of mw_Hair_tie.1 0 rfl ?_
  show WA γ M_Hair_tie 0 0 [some (.ref ha), some (.int p0)] [] sh g tt (0, 0) (pV sh res tt)
  unfold sp_Hair_tie at h
  refine w_aload_n (q := 1) d_Hair_tie_0 rfl rfl ?_
  refine w_dup (q := 2) d_Hair_tie_1 rfl rfl ?_
  refine w_get (q := 5) (ci := 2) (j := 6) d_Hair_tie_2 rfl (by decide) fl_Hair_32 (by decide) hHair.2.1 hHair.1 rfl rfl ?_
  refine w_iconst (q := 6) (v := 1) d_Hair_tie_5 rfl (by decide) ?_
  refine w_iload_n (q := 7) d_Hair_tie_6 rfl rfl ?_
  refine w_ishl (q := 8) d_Hair_tie_7 rfl ?_
  refine w_ior (q := 9) d_Hair_tie_8 rfl ?_
  refine w_put (q := 12) (ci := 2) (j := 6) d_Hair_tie_9 rfl (by decide) fl_Hair_32 (by decide) hHair.2.1 hHair.1 rfl rfl rfl rfl rfl rfl ?_
  cases h
  exact w_return d_Hair_tie_12 rfl ⟨rfl, rfl, rfl, rfl⟩
def PL_Hair_pass_12 (γ : GG) (sh : List Sh) (tt : Bool) (ha : Nat) (ro : Nat) (p0 : Int32) (g : Mem) (k1 : Int32) (b : Nat × Nat) (Φ : PO) (s : Int32 × Mem) : Prop := WA γ M_Hair_pass 4 12 [some (.ref ha), some (.int k1), some (.int s.1)] [] sh s.2 tt b Φ
def QL_Hair_pass_12 (γ : GG) (sh : List Sh) (tt : Bool) (ha : Nat) (ro : Nat) (p0 : Int32) (g : Mem) (k1 : Int32) (b : Nat × Nat) (Φ : PO) (x : (Mem)) : Prop := WA γ M_Hair_pass 4 78 [none, none, none] [] sh x tt b Φ
def st_Hair_pass_12 (F : Nat) (ha : Nat) (ro : Nat) (p0 : Int32) (g : Mem) (k1 : Int32) (s : Int32 × Mem) : Option ((Int32 × Mem) ⊕ ((Mem))) := if (s.2 ro 0) ≤ s.1 then some (.inr s.2) else (sp_Hair_isDead ha ro s.1 s.2).bind fun v2 => if v2 = 0 then (rd s.2 (ha + 1) 6 s.1).bind fun v4 => (sp_Roll_longest ro s.1 s.2).bind fun v5 => (sp_JMath_min (v4 + k1) v5 s.2).bind fun v6 => (wr s.2 (ha + 1) 6 s.1 v6).bind fun g7 => (rd g7 (ha + 1) 6 s.1).bind fun v8 => (sp_Hair_beyond F ha ro s.1 v8 g7).bind fun v9 => (sp_Hair_lose ha ro v9 g7).bind fun v10 => some (.inl (s.1 + 1, v10.2)) else some (.inl (s.1 + 1, s.2))
theorem kl_Hair_pass_12 {γ : GG} {sh : List Sh} {tt : Bool} {F : Nat} {ha : Nat} {ro : Nat} {p0 : Int32} {g : Mem} {k1 : Int32} {b : Nat × Nat} {Φ : PO} (hHair : isHair sh ha ro) : ∀ (s : Int32 × Mem) (r : (Int32 × Mem) ⊕ ((Mem))), st_Hair_pass_12 F ha ro p0 g k1 s = some r → RQ (PL_Hair_pass_12 γ sh tt ha ro p0 g k1 b Φ) (QL_Hair_pass_12 γ sh tt ha ro p0 g k1 b Φ) r → PL_Hair_pass_12 γ sh tt ha ro p0 g k1 b Φ s := by
  intro s r h hr
  unfold st_Hair_pass_12 at h
  unfold PL_Hair_pass_12
  refine w_iload_n (q := 13) d_Hair_pass_12 rfl rfl ?_
  refine w_aload_n (q := 14) d_Hair_pass_13 rfl rfl ?_
  refine w_get (q := 17) (ci := 2) (j := 0) d_Hair_pass_14 rfl (by decide) fl_Hair_18 (by decide) hHair.2.1 hHair.1 rfl rfl ?_
  refine w_get (q := 20) (ci := 7) (j := 0) d_Hair_pass_17 rfl (by decide) fl_Hair_47 (by decide) hHair.2.2.2.2.2.1 hHair.2.2.2.2.1 rfl rfl ?_
  by_cases c1 : (s.2 ro 0) ≤ s.1
  · rw [if_pos c1] at h
    refine w_icmp_ge_t (q := 78) d_Hair_pass_20 rfl c1 ?_
    cases h
    exact w_ls (by exact trivial) hr
  · rw [if_neg c1] at h
    refine w_icmp_ge_f (q := 23) d_Hair_pass_20 78 rfl rfl c1 ?_
    refine w_aload_n (q := 24) d_Hair_pass_23 rfl rfl ?_
    refine w_iload_n (q := 25) d_Hair_pass_24 rfl rfl ?_
    obtain ⟨v2, hv, h⟩ := bnd h
    refine w_callVi (q := 28) (M' := M_Hair_isDead) (n' := 0) (k := ha) (As := [.int s.1]) (sh' := sh) (b1 := (0, 0)) d_Hair_pass_25 rfl mw_Hair_isDead (by decide) (by decide) ml_Hair_52 hHair.2.1 hHair.1 (by decide) rfl rfl rfl (leb rfl) (bz _) (fun _ => rfl) (ok_Hair_isDead hHair hv) ?_
    by_cases c3 : v2 = 0
    · rw [if_pos c3] at h
      refine w_if_ne_f (q := 31) d_Hair_pass_28 72 rfl rfl c3 ?_
      refine w_aload_n (q := 32) d_Hair_pass_31 rfl rfl ?_
      refine w_get (q := 35) (ci := 2) (j := 1) d_Hair_pass_32 rfl (by decide) fl_Hair_9 (by decide) hHair.2.1 hHair.1 rfl rfl ?_
      refine w_iload_n (q := 36) d_Hair_pass_35 rfl rfl ?_
      refine w_aload_n (q := 37) d_Hair_pass_36 rfl rfl ?_
      refine w_get (q := 40) (ci := 2) (j := 1) d_Hair_pass_37 rfl (by decide) fl_Hair_9 (by decide) hHair.2.1 hHair.1 rfl rfl ?_
      refine w_iload_n (q := 41) d_Hair_pass_40 rfl rfl ?_
      obtain ⟨v4, hv, h⟩ := bnd h
      obtain ⟨hi, hv⟩ := rd_ok hv
      refine w_iald (q := 42) (t := 0) d_Hair_pass_41 rfl hHair.2.2.1.2 hHair.2.2.1.1 hi rfl ?_
      rw [hv]
      refine w_iload_n (q := 43) d_Hair_pass_42 rfl rfl ?_
      refine w_iadd (q := 44) d_Hair_pass_43 rfl ?_
      refine w_aload_n (q := 45) d_Hair_pass_44 rfl rfl ?_
      refine w_get (q := 48) (ci := 2) (j := 0) d_Hair_pass_45 rfl (by decide) fl_Hair_18 (by decide) hHair.2.1 hHair.1 rfl rfl ?_
      refine w_iload_n (q := 49) d_Hair_pass_48 rfl rfl ?_
      obtain ⟨v5, hv, h⟩ := bnd h
      refine w_callVi (q := 52) (M' := M_Roll_longest) (n' := 1) (k := ro) (As := [.int s.1]) (sh' := sh) (b1 := (0, 0)) d_Hair_pass_49 rfl mw_Roll_longest (by decide) (by decide) ml_Hair_112 hHair.2.2.2.2.2.1 hHair.2.2.2.2.1 (by decide) rfl rfl rfl (leb rfl) (bz _) (fun _ => rfl) (ok_Roll_longest hHair.2.2.2.2 hv) ?_
      obtain ⟨v6, hv, h⟩ := bnd h
      refine w_callSi (q := 55) (M' := M_JMath_min) (n' := 0) (As := [.int (v4 + k1), .int v5]) (sh' := sh) (b1 := (0, 0)) d_Hair_pass_52 rfl mw_JMath_min (by decide) (by decide) ml_Hair_115 rfl rfl (leb rfl) (bz _) (fun _ => rfl) (ok_JMath_min hv) ?_
      obtain ⟨g7, hv, h⟩ := bnd h
      obtain ⟨hi, hv⟩ := wr_ok hv
      refine w_iast (q := 56) d_Hair_pass_55 rfl hHair.2.2.1.2 hHair.2.2.1.1 hi hv ?_
      refine w_aload_n (q := 57) d_Hair_pass_56 rfl rfl ?_
      refine w_aload_n (q := 58) d_Hair_pass_57 rfl rfl ?_
      refine w_iload_n (q := 59) d_Hair_pass_58 rfl rfl ?_
      refine w_aload_n (q := 60) d_Hair_pass_59 rfl rfl ?_
      refine w_get (q := 63) (ci := 2) (j := 1) d_Hair_pass_60 rfl (by decide) fl_Hair_9 (by decide) hHair.2.1 hHair.1 rfl rfl ?_
      refine w_iload_n (q := 64) d_Hair_pass_63 rfl rfl ?_
      obtain ⟨v8, hv, h⟩ := bnd h
      obtain ⟨hi, hv⟩ := rd_ok hv
      refine w_iald (q := 65) (t := 0) d_Hair_pass_64 rfl hHair.2.2.1.2 hHair.2.2.1.1 hi rfl ?_
      rw [hv]
      obtain ⟨v9, hv, h⟩ := bnd h
      refine w_callVi (q := 68) (M' := M_Hair_beyond) (n' := 3) (k := ha) (As := [.int s.1, .int v8]) (sh' := sh) (b1 := (0, 0)) d_Hair_pass_65 rfl mw_Hair_beyond (by decide) (by decide) ml_Hair_106 hHair.2.1 hHair.1 (by decide) rfl rfl rfl (leb rfl) (bz _) (fun _ => rfl) (ok_Hair_beyond hHair hv) ?_
      obtain ⟨v10, hv, h⟩ := bnd h
      refine w_callVi (q := 71) (M' := M_Hair_lose) (n' := 1) (k := ha) (As := [.int v9]) (sh' := sh) (b1 := (0, 0)) d_Hair_pass_68 rfl mw_Hair_lose (by decide) (by decide) ml_Hair_109 hHair.2.1 hHair.1 (by decide) rfl rfl rfl (leb rfl) (bz _) (fun _ => rfl) (ok_Hair_lose hHair hv) ?_
      refine w_pop (q := 72) d_Hair_pass_71 rfl rfl ?_
      refine w_iinc (q := 75) (ls' := [some (.ref ha), some (.int k1), some (.int (s.1 + 1))]) d_Hair_pass_72 rfl (by decide) rfl rfl rfl ?_
      refine w_goto (q := 12) d_Hair_pass_75 rfl ?_
      cases h
      exact w_ls (by exact (And.intro rfl (And.intro rfl (And.intro rfl trivial)))) hr
    · rw [if_neg c3] at h
      refine w_if_ne_t (q := 72) d_Hair_pass_28 rfl c3 ?_
      refine w_iinc (q := 75) (ls' := [some (.ref ha), some (.int k1), some (.int (s.1 + 1))]) d_Hair_pass_72 rfl (by decide) rfl rfl rfl ?_
      refine w_goto (q := 12) d_Hair_pass_75 rfl ?_
      cases h
      exact w_ls (by exact (And.intro rfl (And.intro rfl (And.intro rfl trivial)))) hr
def sp_Hair_pass (F : Nat) (ha : Nat) (ro : Nat) (p0 : Int32) (g : Mem) : Option (Mem) := (lpO (st_Hair_pass_12 F ha ro p0 g p0) F (0, (mset g ha 3 ((g ha 3) + p0)))).bind fun x11 => some x11
theorem ok_Hair_pass {γ : GG} {sh : List Sh} {tt : Bool} {F : Nat} {ha : Nat} {ro : Nat} {p0 : Int32} {g : Mem} (hHair : isHair sh ha ro) {res : Mem} (h : sp_Hair_pass F ha ro p0 g = some res) : CA γ M_Hair_pass 4 [.ref ha, .int p0] sh g tt (0, 0) (pV sh res tt) := by
  refine CA.of mw_Hair_pass.1 1 rfl ?_
  show WA γ M_Hair_pass 4 0 [some (.ref ha), some (.int p0), none] [] sh g tt (0, 0) (pV sh res tt)
  unfold sp_Hair_pass at h
  refine w_aload_n (q := 1) d_Hair_pass_0 rfl rfl ?_
  refine w_dup (q := 2) d_Hair_pass_1 rfl rfl ?_
  refine w_get (q := 5) (ci := 2) (j := 3) d_Hair_pass_2 rfl (by decide) fl_Hair_22 (by decide) hHair.2.1 hHair.1 rfl rfl ?_
  refine w_iload_n (q := 6) d_Hair_pass_5 rfl rfl ?_
  refine w_iadd (q := 7) d_Hair_pass_6 rfl ?_
  refine w_put (q := 10) (ci := 2) (j := 3) d_Hair_pass_7 rfl (by decide) fl_Hair_22 (by decide) hHair.2.1 hHair.1 rfl rfl rfl rfl rfl rfl ?_
  refine w_iconst (q := 11) (v := 0) d_Hair_pass_10 rfl (by decide) ?_
  refine w_istore_n (q := 12) (ls' := [some (.ref ha), some (.int p0), some (.int 0)]) d_Hair_pass_11 rfl (by decide) rfl rfl ?_
  obtain ⟨x11, hx, h⟩ := bnd h
  refine w_ls (ls' := [some (.ref ha), some (.int p0), some (.int 0)]) (And.intro rfl (And.intro rfl (And.intro rfl trivial))) ?_
  show PL_Hair_pass_12 γ sh tt ha ro p0 g p0 _ _ (0, (mset g ha 3 ((g ha 3) + p0)))
  refine lp_ok (kl_Hair_pass_12 hHair) F _ x11 hx ?_
  unfold QL_Hair_pass_12
  cases h
  exact w_return d_Hair_pass_78 rfl ⟨rfl, rfl, rfl, rfl⟩
def sp_Hair_settle (ha : Nat) (ro : Nat) (p0 : Int32) (p1 : Int32) (g : Mem) : Option (Mem) := (sp_Hair_breadths ha ro p0 (mset (mset (mset g ha 4 (p0 + 1)) ha 6 (((mset g ha 4 (p0 + 1)) ha 6) &&& ((1 <<< (p0 &&& 31)) ^^^ (-1)))) ha 5 (((mset (mset g ha 4 (p0 + 1)) ha 6 (((mset g ha 4 (p0 + 1)) ha 6) &&& ((1 <<< (p0 &&& 31)) ^^^ (-1)))) ha 5) &&& ((1 <<< (p0 &&& 31)) ^^^ (-1))))).bind fun v1 => (rd (mset (mset (mset g ha 4 (p0 + 1)) ha 6 (((mset g ha 4 (p0 + 1)) ha 6) &&& ((1 <<< (p0 &&& 31)) ^^^ (-1)))) ha 5 (((mset (mset g ha 4 (p0 + 1)) ha 6 (((mset g ha 4 (p0 + 1)) ha 6) &&& ((1 <<< (p0 &&& 31)) ^^^ (-1)))) ha 5) &&& ((1 <<< (p0 &&& 31)) ^^^ (-1)))) (ha + 1) 6 p1).bind fun v2 => if v1 ≤ v2 then some (mset (mset (mset g ha 4 (p0 + 1)) ha 6 (((mset g ha 4 (p0 + 1)) ha 6) &&& ((1 <<< (p0 &&& 31)) ^^^ (-1)))) ha 5 (((mset (mset g ha 4 (p0 + 1)) ha 6 (((mset g ha 4 (p0 + 1)) ha 6) &&& ((1 <<< (p0 &&& 31)) ^^^ (-1)))) ha 5) &&& ((1 <<< (p0 &&& 31)) ^^^ (-1)))) else some (mset (mset (mset (mset g ha 4 (p0 + 1)) ha 6 (((mset g ha 4 (p0 + 1)) ha 6) &&& ((1 <<< (p0 &&& 31)) ^^^ (-1)))) ha 5 (((mset (mset g ha 4 (p0 + 1)) ha 6 (((mset g ha 4 (p0 + 1)) ha 6) &&& ((1 <<< (p0 &&& 31)) ^^^ (-1)))) ha 5) &&& ((1 <<< (p0 &&& 31)) ^^^ (-1)))) ha 5 (((mset (mset (mset g ha 4 (p0 + 1)) ha 6 (((mset g ha 4 (p0 + 1)) ha 6) &&& ((1 <<< (p0 &&& 31)) ^^^ (-1)))) ha 5 (((mset (mset g ha 4 (p0 + 1)) ha 6 (((mset g ha 4 (p0 + 1)) ha 6) &&& ((1 <<< (p0 &&& 31)) ^^^ (-1)))) ha 5) &&& ((1 <<< (p0 &&& 31)) ^^^ (-1)))) ha 5) ||| (1 <<< (p0 &&& 31))))
theorem ok_Hair_settle {γ : GG} {sh : List Sh} {tt : Bool} {ha : Nat} {ro : Nat} {p0 : Int32} {p1 : Int32} {g : Mem} (hHair : isHair sh ha ro) {res : Mem} (h : sp_Hair_settle ha ro p0 p1 g = some res) : CA γ M_Hair_settle 2 [.ref ha, .int p0, .int p1] sh g tt (0, 0) (pV sh res tt) := by
  refine CA.of mw_Hair_settle.1 1 rfl ?_
  show WA γ M_Hair_settle 2 0 [some (.ref ha), some (.int p0), some (.int p1), none] [] sh g tt (0, 0) (pV sh res tt)
  unfold sp_Hair_settle at h
  refine w_iconst (q := 1) (v := 1) d_Hair_settle_0 rfl (by decide) ?_
  refine w_iload_n (q := 2) d_Hair_settle_1 rfl rfl ?_
  refine w_ishl (q := 3) d_Hair_settle_2 rfl ?_
  refine w_istore_n (q := 4) (ls' := [some (.ref ha), some (.int p0), some (.int p1), some (.int (1 <<< (p0 &&& 31)))]) d_Hair_settle_3 rfl (by decide) rfl rfl ?_
  refine w_aload_n (q := 5) d_Hair_settle_4 rfl rfl ?_
  refine w_iload_n (q := 6) d_Hair_settle_5 rfl rfl ?_
  refine w_iconst (q := 7) (v := 1) d_Hair_settle_6 rfl (by decide) ?_
  refine w_iadd (q := 8) d_Hair_settle_7 rfl ?_
  refine w_put (q := 11) (ci := 2) (j := 4) d_Hair_settle_8 rfl (by decide) fl_Hair_26 (by decide) hHair.2.1 hHair.1 rfl rfl rfl rfl rfl rfl ?_
  refine w_aload_n (q := 12) d_Hair_settle_11 rfl rfl ?_
  refine w_dup (q := 13) d_Hair_settle_12 rfl rfl ?_
  refine w_get (q := 16) (ci := 2) (j := 6) d_Hair_settle_13 rfl (by decide) fl_Hair_32 (by decide) hHair.2.1 hHair.1 rfl rfl ?_
  refine w_iload_n (q := 17) d_Hair_settle_16 rfl rfl ?_
  refine w_iconst (q := 18) (v := (-1)) d_Hair_settle_17 rfl (by decide) ?_
  refine w_ixor (q := 19) d_Hair_settle_18 rfl ?_
  refine w_iand (q := 20) d_Hair_settle_19 rfl ?_
  refine w_put (q := 23) (ci := 2) (j := 6) d_Hair_settle_20 rfl (by decide) fl_Hair_32 (by decide) hHair.2.1 hHair.1 rfl rfl rfl rfl rfl rfl ?_
  refine w_aload_n (q := 24) d_Hair_settle_23 rfl rfl ?_
  refine w_dup (q := 25) d_Hair_settle_24 rfl rfl ?_
  refine w_get (q := 28) (ci := 2) (j := 5) d_Hair_settle_25 rfl (by decide) fl_Hair_29 (by decide) hHair.2.1 hHair.1 rfl rfl ?_
  refine w_iload_n (q := 29) d_Hair_settle_28 rfl rfl ?_
  refine w_iconst (q := 30) (v := (-1)) d_Hair_settle_29 rfl (by decide) ?_
  refine w_ixor (q := 31) d_Hair_settle_30 rfl ?_
  refine w_iand (q := 32) d_Hair_settle_31 rfl ?_
  refine w_put (q := 35) (ci := 2) (j := 5) d_Hair_settle_32 rfl (by decide) fl_Hair_29 (by decide) hHair.2.1 hHair.1 rfl rfl rfl rfl rfl rfl ?_
  refine w_aload_n (q := 36) d_Hair_settle_35 rfl rfl ?_
  refine w_iload_n (q := 37) d_Hair_settle_36 rfl rfl ?_
  obtain ⟨v1, hv, h⟩ := bnd h
  refine w_callVi (q := 40) (M' := M_Hair_breadths) (n' := 1) (k := ha) (As := [.int p0]) (sh' := sh) (b1 := (0, 0)) d_Hair_settle_37 rfl mw_Hair_breadths (by decide) (by decide) ml_Hair_98 hHair.2.1 hHair.1 (by decide) rfl rfl rfl (leb rfl) (bz _) (fun _ => rfl) (ok_Hair_breadths hHair hv) ?_
  refine w_aload_n (q := 41) d_Hair_settle_40 rfl rfl ?_
  refine w_get (q := 44) (ci := 2) (j := 1) d_Hair_settle_41 rfl (by decide) fl_Hair_9 (by decide) hHair.2.1 hHair.1 rfl rfl ?_
  refine w_iload_n (q := 45) d_Hair_settle_44 rfl rfl ?_
  obtain ⟨v2, hv, h⟩ := bnd h
  obtain ⟨hi, hv⟩ := rd_ok hv
  refine w_iald (q := 46) (t := 0) d_Hair_settle_45 rfl hHair.2.2.1.2 hHair.2.2.1.1 hi rfl ?_
  rw [hv]
  by_cases c3 : v1 ≤ v2
  · rw [if_pos c3] at h
    refine w_icmp_le_t (q := 59) d_Hair_settle_46 rfl c3 ?_
    cases h
    exact w_return d_Hair_settle_59 rfl ⟨rfl, rfl, rfl, rfl⟩
  · rw [if_neg c3] at h
    refine w_icmp_le_f (q := 49) d_Hair_settle_46 59 rfl rfl c3 ?_
    refine w_aload_n (q := 50) d_Hair_settle_49 rfl rfl ?_
    refine w_dup (q := 51) d_Hair_settle_50 rfl rfl ?_
    refine w_get (q := 54) (ci := 2) (j := 5) d_Hair_settle_51 rfl (by decide) fl_Hair_29 (by decide) hHair.2.1 hHair.1 rfl rfl ?_
    refine w_iload_n (q := 55) d_Hair_settle_54 rfl rfl ?_
    refine w_ior (q := 56) d_Hair_settle_55 rfl ?_
    refine w_put (q := 59) (ci := 2) (j := 5) d_Hair_settle_56 rfl (by decide) fl_Hair_29 (by decide) hHair.2.1 hHair.1 rfl rfl rfl rfl rfl rfl ?_
    cases h
    exact w_return d_Hair_settle_59 rfl ⟨rfl, rfl, rfl, rfl⟩
def sp_Hair_braidIn (ha : Nat) (ro : Nat) (p0 : Int32) (p1 : Int32) (p2 : Int32) (p3 : Int32) (p4 : Int32) (g : Mem) : Option (Int32 × Mem) := (sp_Roll_put ro (g ha 4) 0 p2 g).bind fun v1 => (sp_Roll_put ro (g ha 4) 1 p0 v1).bind fun v2 => (sp_Roll_put ro (g ha 4) 2 p1 v2).bind fun v3 => (sp_Roll_put ro (g ha 4) 3 p3 v3).bind fun v4 => (sp_Roll_put ro (g ha 4) 4 p4 v4).bind fun v5 => (sp_Roll_put ro (g ha 4) 5 0 v5).bind fun v6 => (sp_Roll_put ro (g ha 4) 7 (g ha 4) v6).bind fun v7 => (sp_Hair_settle ha ro (g ha 4) p0 v7).bind fun v8 => some (g ha 4, v8)
theorem ok_Hair_braidIn {γ : GG} {sh : List Sh} {tt : Bool} {ha : Nat} {ro : Nat} {p0 : Int32} {p1 : Int32} {p2 : Int32} {p3 : Int32} {p4 : Int32} {g : Mem} (hHair : isHair sh ha ro) {res : Int32 × Mem} (h : sp_Hair_braidIn ha ro p0 p1 p2 p3 p4 g = some res) : CA γ M_Hair_braidIn 3 [.ref ha, .int p0, .int p1, .int p2, .int p3, .int p4] sh g tt (0, 0) (pI sh res.1 res.2 tt) := by
  refine CA.of mw_Hair_braidIn.1 1 rfl ?_
  show WA γ M_Hair_braidIn 3 0 [some (.ref ha), some (.int p0), some (.int p1), some (.int p2), some (.int p3), some (.int p4), none] [] sh g tt (0, 0) (pI sh res.1 res.2 tt)
  unfold sp_Hair_braidIn at h
  refine w_aload_n (q := 1) d_Hair_braidIn_0 rfl rfl ?_
  refine w_get (q := 4) (ci := 2) (j := 4) d_Hair_braidIn_1 rfl (by decide) fl_Hair_26 (by decide) hHair.2.1 hHair.1 rfl rfl ?_
  refine w_istore (q := 6) (ls' := [some (.ref ha), some (.int p0), some (.int p1), some (.int p2), some (.int p3), some (.int p4), some (.int (g ha 4))]) d_Hair_braidIn_4 rfl (by decide) rfl rfl ?_
  refine w_aload_n (q := 7) d_Hair_braidIn_6 rfl rfl ?_
  refine w_get (q := 10) (ci := 2) (j := 0) d_Hair_braidIn_7 rfl (by decide) fl_Hair_18 (by decide) hHair.2.1 hHair.1 rfl rfl ?_
  refine w_iload (q := 12) d_Hair_braidIn_10 rfl rfl ?_
  refine w_iconst (q := 13) (v := 0) d_Hair_braidIn_12 rfl (by decide) ?_
  refine w_iload_n (q := 14) d_Hair_braidIn_13 rfl rfl ?_
  obtain ⟨v1, hv, h⟩ := bnd h
  refine w_callVv (q := 17) (M' := M_Roll_put) (n' := 0) (k := ro) (As := [.int (g ha 4), .int 0, .int p2]) (sh' := sh) (b1 := (0, 0)) d_Hair_braidIn_14 rfl mw_Roll_put (by decide) (by decide) ml_Hair_120 hHair.2.2.2.2.2.1 hHair.2.2.2.2.1 (by decide) rfl rfl rfl (leb rfl) (bz _) (fun _ => rfl) (ok_Roll_put hHair.2.2.2.2 hv) ?_
  refine w_aload_n (q := 18) d_Hair_braidIn_17 rfl rfl ?_
  refine w_get (q := 21) (ci := 2) (j := 0) d_Hair_braidIn_18 rfl (by decide) fl_Hair_18 (by decide) hHair.2.1 hHair.1 rfl rfl ?_
  refine w_iload (q := 23) d_Hair_braidIn_21 rfl rfl ?_
  refine w_iconst (q := 24) (v := 1) d_Hair_braidIn_23 rfl (by decide) ?_
  refine w_iload_n (q := 25) d_Hair_braidIn_24 rfl rfl ?_
  obtain ⟨v2, hv, h⟩ := bnd h
  refine w_callVv (q := 28) (M' := M_Roll_put) (n' := 0) (k := ro) (As := [.int (g ha 4), .int 1, .int p0]) (sh' := sh) (b1 := (0, 0)) d_Hair_braidIn_25 rfl mw_Roll_put (by decide) (by decide) ml_Hair_120 hHair.2.2.2.2.2.1 hHair.2.2.2.2.1 (by decide) rfl rfl rfl (leb rfl) (bz _) (fun _ => rfl) (ok_Roll_put hHair.2.2.2.2 hv) ?_
  refine w_aload_n (q := 29) d_Hair_braidIn_28 rfl rfl ?_
  refine w_get (q := 32) (ci := 2) (j := 0) d_Hair_braidIn_29 rfl (by decide) fl_Hair_18 (by decide) hHair.2.1 hHair.1 rfl rfl ?_
  refine w_iload (q := 34) d_Hair_braidIn_32 rfl rfl ?_
  refine w_iconst (q := 35) (v := 2) d_Hair_braidIn_34 rfl (by decide) ?_
  refine w_iload_n (q := 36) d_Hair_braidIn_35 rfl rfl ?_
  obtain ⟨v3, hv, h⟩ := bnd h
  refine w_callVv (q := 39) (M' := M_Roll_put) (n' := 0) (k := ro) (As := [.int (g ha 4), .int 2, .int p1]) (sh' := sh) (b1 := (0, 0)) d_Hair_braidIn_36 rfl mw_Roll_put (by decide) (by decide) ml_Hair_120 hHair.2.2.2.2.2.1 hHair.2.2.2.2.1 (by decide) rfl rfl rfl (leb rfl) (bz _) (fun _ => rfl) (ok_Roll_put hHair.2.2.2.2 hv) ?_
  refine w_aload_n (q := 40) d_Hair_braidIn_39 rfl rfl ?_
  refine w_get (q := 43) (ci := 2) (j := 0) d_Hair_braidIn_40 rfl (by decide) fl_Hair_18 (by decide) hHair.2.1 hHair.1 rfl rfl ?_
  refine w_iload (q := 45) d_Hair_braidIn_43 rfl rfl ?_
  refine w_iconst (q := 46) (v := 3) d_Hair_braidIn_45 rfl (by decide) ?_
  refine w_iload (q := 48) d_Hair_braidIn_46 rfl rfl ?_
  obtain ⟨v4, hv, h⟩ := bnd h
  refine w_callVv (q := 51) (M' := M_Roll_put) (n' := 0) (k := ro) (As := [.int (g ha 4), .int 3, .int p3]) (sh' := sh) (b1 := (0, 0)) d_Hair_braidIn_48 rfl mw_Roll_put (by decide) (by decide) ml_Hair_120 hHair.2.2.2.2.2.1 hHair.2.2.2.2.1 (by decide) rfl rfl rfl (leb rfl) (bz _) (fun _ => rfl) (ok_Roll_put hHair.2.2.2.2 hv) ?_
  refine w_aload_n (q := 52) d_Hair_braidIn_51 rfl rfl ?_
  refine w_get (q := 55) (ci := 2) (j := 0) d_Hair_braidIn_52 rfl (by decide) fl_Hair_18 (by decide) hHair.2.1 hHair.1 rfl rfl ?_
  refine w_iload (q := 57) d_Hair_braidIn_55 rfl rfl ?_
  refine w_iconst (q := 58) (v := 4) d_Hair_braidIn_57 rfl (by decide) ?_
  refine w_iload (q := 60) d_Hair_braidIn_58 rfl rfl ?_
  obtain ⟨v5, hv, h⟩ := bnd h
  refine w_callVv (q := 63) (M' := M_Roll_put) (n' := 0) (k := ro) (As := [.int (g ha 4), .int 4, .int p4]) (sh' := sh) (b1 := (0, 0)) d_Hair_braidIn_60 rfl mw_Roll_put (by decide) (by decide) ml_Hair_120 hHair.2.2.2.2.2.1 hHair.2.2.2.2.1 (by decide) rfl rfl rfl (leb rfl) (bz _) (fun _ => rfl) (ok_Roll_put hHair.2.2.2.2 hv) ?_
  refine w_aload_n (q := 64) d_Hair_braidIn_63 rfl rfl ?_
  refine w_get (q := 67) (ci := 2) (j := 0) d_Hair_braidIn_64 rfl (by decide) fl_Hair_18 (by decide) hHair.2.1 hHair.1 rfl rfl ?_
  refine w_iload (q := 69) d_Hair_braidIn_67 rfl rfl ?_
  refine w_iconst (q := 70) (v := 5) d_Hair_braidIn_69 rfl (by decide) ?_
  refine w_iconst (q := 71) (v := 0) d_Hair_braidIn_70 rfl (by decide) ?_
  obtain ⟨v6, hv, h⟩ := bnd h
  refine w_callVv (q := 74) (M' := M_Roll_put) (n' := 0) (k := ro) (As := [.int (g ha 4), .int 5, .int 0]) (sh' := sh) (b1 := (0, 0)) d_Hair_braidIn_71 rfl mw_Roll_put (by decide) (by decide) ml_Hair_120 hHair.2.2.2.2.2.1 hHair.2.2.2.2.1 (by decide) rfl rfl rfl (leb rfl) (bz _) (fun _ => rfl) (ok_Roll_put hHair.2.2.2.2 hv) ?_
  refine w_aload_n (q := 75) d_Hair_braidIn_74 rfl rfl ?_
  refine w_get (q := 78) (ci := 2) (j := 0) d_Hair_braidIn_75 rfl (by decide) fl_Hair_18 (by decide) hHair.2.1 hHair.1 rfl rfl ?_
  refine w_iload (q := 80) d_Hair_braidIn_78 rfl rfl ?_
  refine w_bipush (q := 82) (v := 7) d_Hair_braidIn_80 rfl (by decide) ?_
  refine w_iload (q := 84) d_Hair_braidIn_82 rfl rfl ?_
  obtain ⟨v7, hv, h⟩ := bnd h
  refine w_callVv (q := 87) (M' := M_Roll_put) (n' := 0) (k := ro) (As := [.int (g ha 4), .int 7, .int (g ha 4)]) (sh' := sh) (b1 := (0, 0)) d_Hair_braidIn_84 rfl mw_Roll_put (by decide) (by decide) ml_Hair_120 hHair.2.2.2.2.2.1 hHair.2.2.2.2.1 (by decide) rfl rfl rfl (leb rfl) (bz _) (fun _ => rfl) (ok_Roll_put hHair.2.2.2.2 hv) ?_
  refine w_aload_n (q := 88) d_Hair_braidIn_87 rfl rfl ?_
  refine w_iload (q := 90) d_Hair_braidIn_88 rfl rfl ?_
  refine w_iload_n (q := 91) d_Hair_braidIn_90 rfl rfl ?_
  obtain ⟨v8, hv, h⟩ := bnd h
  refine w_callVv (q := 94) (M' := M_Hair_settle) (n' := 2) (k := ha) (As := [.int (g ha 4), .int p0]) (sh' := sh) (b1 := (0, 0)) d_Hair_braidIn_91 rfl mw_Hair_settle (by decide) (by decide) ml_Hair_124 hHair.2.1 hHair.1 (by decide) rfl rfl rfl (leb rfl) (bz _) (fun _ => rfl) (ok_Hair_settle hHair hv) ?_
  refine w_iload (q := 96) d_Hair_braidIn_94 rfl rfl ?_
  cases h
  exact w_ireturn d_Hair_braidIn_96 rfl rfl ⟨rfl, rfl, rfl, rfl⟩
def sp_Hair_copyInto (ha : Nat) (ro : Nat) (p0 : Int32) (p1 : Int32) (p2 : Int32) (g : Mem) : Option (Int32 × Mem) := (cy g (ro + 3) 192 (p0 * 8) (ro + 3) 192 ((g ha 4) * 8) 8).bind fun g1 => (sp_Roll_put ro (g ha 4) 1 p1 g1).bind fun v2 => (sp_Roll_put ro (g ha 4) 2 p2 v2).bind fun v3 => (sp_Hair_settle ha ro (g ha 4) p1 v3).bind fun v4 => some (g ha 4, v4)
theorem ok_Hair_copyInto {γ : GG} {sh : List Sh} {tt : Bool} {ha : Nat} {ro : Nat} {p0 : Int32} {p1 : Int32} {p2 : Int32} {g : Mem} (hHair : isHair sh ha ro) {res : Int32 × Mem} (h : sp_Hair_copyInto ha ro p0 p1 p2 g = some res) : CA γ M_Hair_copyInto 3 [.ref ha, .int p0, .int p1, .int p2] sh g tt (0, 0) (pI sh res.1 res.2 tt) := by
  refine CA.of mw_Hair_copyInto.1 1 rfl ?_
  show WA γ M_Hair_copyInto 3 0 [some (.ref ha), some (.int p0), some (.int p1), some (.int p2), none] [] sh g tt (0, 0) (pI sh res.1 res.2 tt)
  unfold sp_Hair_copyInto at h
  refine w_aload_n (q := 1) d_Hair_copyInto_0 rfl rfl ?_
  refine w_get (q := 4) (ci := 2) (j := 4) d_Hair_copyInto_1 rfl (by decide) fl_Hair_26 (by decide) hHair.2.1 hHair.1 rfl rfl ?_
  refine w_istore (q := 6) (ls' := [some (.ref ha), some (.int p0), some (.int p1), some (.int p2), some (.int (g ha 4))]) d_Hair_copyInto_4 rfl (by decide) rfl rfl ?_
  refine w_aload_n (q := 7) d_Hair_copyInto_6 rfl rfl ?_
  refine w_get (q := 10) (ci := 2) (j := 0) d_Hair_copyInto_7 rfl (by decide) fl_Hair_18 (by decide) hHair.2.1 hHair.1 rfl rfl ?_
  refine w_get (q := 13) (ci := 7) (j := 6) d_Hair_copyInto_10 rfl (by decide) fl_Hair_128 (by decide) hHair.2.2.2.2.2.1 hHair.2.2.2.2.1 rfl rfl ?_
  refine w_iload_n (q := 14) d_Hair_copyInto_13 rfl rfl ?_
  refine w_bipush (q := 16) (v := 8) d_Hair_copyInto_14 rfl (by decide) ?_
  refine w_imul (q := 17) d_Hair_copyInto_16 rfl ?_
  refine w_aload_n (q := 18) d_Hair_copyInto_17 rfl rfl ?_
  refine w_get (q := 21) (ci := 2) (j := 0) d_Hair_copyInto_18 rfl (by decide) fl_Hair_18 (by decide) hHair.2.1 hHair.1 rfl rfl ?_
  refine w_get (q := 24) (ci := 7) (j := 6) d_Hair_copyInto_21 rfl (by decide) fl_Hair_128 (by decide) hHair.2.2.2.2.2.1 hHair.2.2.2.2.1 rfl rfl ?_
  refine w_iload (q := 26) d_Hair_copyInto_24 rfl rfl ?_
  refine w_bipush (q := 28) (v := 8) d_Hair_copyInto_26 rfl (by decide) ?_
  refine w_imul (q := 29) d_Hair_copyInto_28 rfl ?_
  refine w_bipush (q := 31) (v := 8) d_Hair_copyInto_29 rfl (by decide) ?_
  obtain ⟨g1, hv, h⟩ := bnd h
  obtain ⟨hi, hv⟩ := cy_ok hv
  refine w_copy (q := 34) d_Hair_copyInto_31 rfl ml_Hair_41 wd_native wd_static wi_java_lang_System hHair.2.2.2.2.2.2.2.2.1.2 hHair.2.2.2.2.2.2.2.2.1.2 hHair.2.2.2.2.2.2.2.2.1.1 hHair.2.2.2.2.2.2.2.2.1.1 hi (leb rfl) hv ?_
  refine w_aload_n (q := 35) d_Hair_copyInto_34 rfl rfl ?_
  refine w_get (q := 38) (ci := 2) (j := 0) d_Hair_copyInto_35 rfl (by decide) fl_Hair_18 (by decide) hHair.2.1 hHair.1 rfl rfl ?_
  refine w_iload (q := 40) d_Hair_copyInto_38 rfl rfl ?_
  refine w_iconst (q := 41) (v := 1) d_Hair_copyInto_40 rfl (by decide) ?_
  refine w_iload_n (q := 42) d_Hair_copyInto_41 rfl rfl ?_
  obtain ⟨v2, hv, h⟩ := bnd h
  refine w_callVv (q := 45) (M' := M_Roll_put) (n' := 0) (k := ro) (As := [.int (g ha 4), .int 1, .int p1]) (sh' := sh) (b1 := (0, 0)) d_Hair_copyInto_42 rfl mw_Roll_put (by decide) (by decide) ml_Hair_120 hHair.2.2.2.2.2.1 hHair.2.2.2.2.1 (by decide) rfl rfl rfl (leb rfl) (bz _) (fun _ => rfl) (ok_Roll_put hHair.2.2.2.2 hv) ?_
  refine w_aload_n (q := 46) d_Hair_copyInto_45 rfl rfl ?_
  refine w_get (q := 49) (ci := 2) (j := 0) d_Hair_copyInto_46 rfl (by decide) fl_Hair_18 (by decide) hHair.2.1 hHair.1 rfl rfl ?_
  refine w_iload (q := 51) d_Hair_copyInto_49 rfl rfl ?_
  refine w_iconst (q := 52) (v := 2) d_Hair_copyInto_51 rfl (by decide) ?_
  refine w_iload_n (q := 53) d_Hair_copyInto_52 rfl rfl ?_
  obtain ⟨v3, hv, h⟩ := bnd h
  refine w_callVv (q := 56) (M' := M_Roll_put) (n' := 0) (k := ro) (As := [.int (g ha 4), .int 2, .int p2]) (sh' := sh) (b1 := (0, 0)) d_Hair_copyInto_53 rfl mw_Roll_put (by decide) (by decide) ml_Hair_120 hHair.2.2.2.2.2.1 hHair.2.2.2.2.1 (by decide) rfl rfl rfl (leb rfl) (bz _) (fun _ => rfl) (ok_Roll_put hHair.2.2.2.2 hv) ?_
  refine w_aload_n (q := 57) d_Hair_copyInto_56 rfl rfl ?_
  refine w_iload (q := 59) d_Hair_copyInto_57 rfl rfl ?_
  refine w_iload_n (q := 60) d_Hair_copyInto_59 rfl rfl ?_
  obtain ⟨v4, hv, h⟩ := bnd h
  refine w_callVv (q := 63) (M' := M_Hair_settle) (n' := 2) (k := ha) (As := [.int (g ha 4), .int p1]) (sh' := sh) (b1 := (0, 0)) d_Hair_copyInto_60 rfl mw_Hair_settle (by decide) (by decide) ml_Hair_124 hHair.2.1 hHair.1 (by decide) rfl rfl rfl (leb rfl) (bz _) (fun _ => rfl) (ok_Hair_settle hHair hv) ?_
  refine w_iload (q := 65) d_Hair_copyInto_63 rfl rfl ?_
  cases h
  exact w_ireturn d_Hair_copyInto_65 rfl rfl ⟨rfl, rfl, rfl, rfl⟩
