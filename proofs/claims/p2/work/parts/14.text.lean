/-! texts: length and charAt of a constant -/
section Txt
variable {γ : GG} {M : MI} {n pc q : Nat} {ls : List (Option Value)} {st : List Value} {sh : List Sh} {g : Mem} {tt : Bool} {b : Nat × Nat} {Φ : PO}
theorem w_fmt {i : Nat} (hd : decode M.2.1 pc = .ok (.getstatic i, 3)) (hq : pc + 3 = q) (hw : Cond.fieldLink M.1.cls i "jdk/internal/util/Preconditions" "SIOOBE_FORMATTER" "Ljava/util/function/BiFunction;" ∈ lwg) (k1 : WA γ M n q ls (.null :: st) sh g tt b Φ) (k2 : WA γ M n q ls (.ref 2097153 :: st) sh g tt b Φ) : WA γ M n pc ls st sh g tt b Φ := by
  subst hq
  intro p e R s m args below meth c H locs cells slots Ls C hR ht9 hS hc9 hs9 hl
  obtain ⟨hx, hb, hrt, hmx, hown, hlocks, -, htab, hf, hlo, hSF⟩ := id C
  rcases hSF.fm with h | h
  · exact va_gets hx hb h hS hown (hSF.2.1 args _ hw) (fun _ h9 => h9) hd (k1 p e R s m args below meth c H locs cells slots Ls C hR ht9 hS hc9 hs9 hl)
  · exact va_gets hx hb h hS hown (hSF.2.1 args _ hw) (fun _ h9 => h9) hd (k2 p e R s m args below meth c H locs cells slots Ls C hR ht9 hS hc9 hs9 hl)
theorem ok_checkIndex {i n9 : Int32} {v : Value} (hv : v.category = 1) (h0 : ¬ i < 0) (h1 : i < n9) : CA γ M_jdk_internal_util_Preconditions_checkIndex 0 [.int i, .int n9, v] sh g tt (0, 0) (pI sh i g tt) := by
  refine CA.of mw_jdk_internal_util_Preconditions_checkIndex.1 0 (by cases v <;> first | rfl | cases hv) ?_
  have e : entL [.int i, .int n9, v] ++ List.replicate 0 none = [some (.int i), some (.int n9), some v] := by cases v <;> first | rfl | cases hv
  rw [e]
  refine w_iload_n (q := 1) d_jdk_internal_util_Preconditions_checkIndex_0 rfl rfl ?_
  refine w_if_lt_f (q := 4) d_jdk_internal_util_Preconditions_checkIndex_1 9 rfl rfl h0 ?_
  refine w_iload_n (q := 5) d_jdk_internal_util_Preconditions_checkIndex_4 rfl rfl ?_
  refine w_iload_n (q := 6) d_jdk_internal_util_Preconditions_checkIndex_5 rfl rfl ?_
  refine w_icmp_lt_t (q := 16) d_jdk_internal_util_Preconditions_checkIndex_6 rfl h1 ?_
  refine w_iload_n (q := 17) d_jdk_internal_util_Preconditions_checkIndex_16 rfl rfl ?_
  exact w_ireturn d_jdk_internal_util_Preconditions_checkIndex_17 rfl rfl ⟨rfl, rfl, rfl, rfl⟩
theorem ok_JString_checkIndex {i n9 : Int32} (h0 : ¬ i < 0) (h1 : i < n9) : CA γ M_JString_checkIndex 1 [.int i, .int n9] sh g tt (0, 0) (pV sh g tt) := by
  refine CA.of mw_JString_checkIndex.1 0 rfl ?_
  show WA γ M_JString_checkIndex 1 0 [some (.int i), some (.int n9)] [] sh g tt (0, 0) (pV sh g tt)
  refine w_iload_n (q := 1) d_JString_checkIndex_0 rfl rfl ?_
  refine w_iload_n (q := 2) d_JString_checkIndex_1 rfl rfl ?_
  refine w_fmt (q := 5) d_JString_checkIndex_2 rfl fl_JString_1053 ?_ ?_
  · refine w_callSi (q := 8) (M' := M_jdk_internal_util_Preconditions_checkIndex) (n' := 0) (As := [.int i, .int n9, .null]) (sh' := sh) (b1 := (0, 0)) d_JString_checkIndex_5 rfl mw_jdk_internal_util_Preconditions_checkIndex (by decide) (by decide) ml_JString_1059 rfl rfl (leb rfl) (bz _) (fun _ => rfl) (ok_checkIndex rfl h0 h1) ?_
    refine w_pop (q := 9) d_JString_checkIndex_8 rfl rfl ?_
    exact w_return d_JString_checkIndex_9 rfl ⟨rfl, rfl, rfl, rfl⟩
  · refine w_callSi (q := 8) (M' := M_jdk_internal_util_Preconditions_checkIndex) (n' := 0) (As := [.int i, .int n9, .ref 2097153]) (sh' := sh) (b1 := (0, 0)) d_JString_checkIndex_5 rfl mw_jdk_internal_util_Preconditions_checkIndex (by decide) (by decide) ml_JString_1059 rfl rfl (leb rfl) (bz _) (fun _ => rfl) (ok_checkIndex rfl h0 h1) ?_
    refine w_pop (q := 9) d_JString_checkIndex_8 rfl rfl ?_
    exact w_return d_JString_checkIndex_9 rfl ⟨rfl, rfl, rfl, rfl⟩
theorem ok_JString_coder {j : Nat} (hj : j < 39) : CA γ M_JString_coder 0 [.ref (1048576 + j)] sh g tt (0, 0) (pI sh 0 g tt) := by
  refine CA.of mw_JString_coder.1 0 rfl ?_
  show WA γ M_JString_coder 0 0 [some (.ref (1048576 + j))] [] sh g tt (0, 0) (pI sh 0 g tt)
  refine w_strZ (q := 3) d_JString_coder_0 rfl fl_JString_38 ?_
  refine w_if_eq_f (q := 6) d_JString_coder_3 13 rfl rfl (by decide) ?_
  refine w_aload_n (q := 7) d_JString_coder_6 rfl rfl ?_
  refine w_strC (q := 10) d_JString_coder_7 rfl hj fl_JString_15 ?_
  refine w_goto (q := 14) d_JString_coder_10 rfl ?_
  exact w_ireturn d_JString_coder_14 rfl rfl ⟨rfl, rfl, rfl, rfl⟩
theorem ok_JString_isLatin1 {j : Nat} (hj : j < 39) : CA γ M_JString_isLatin1 0 [.ref (1048576 + j)] sh g tt (0, 0) (pI sh 1 g tt) := by
  refine CA.of mw_JString_isLatin1.1 0 rfl ?_
  show WA γ M_JString_isLatin1 0 0 [some (.ref (1048576 + j))] [] sh g tt (0, 0) (pI sh 1 g tt)
  refine w_strZ (q := 3) d_JString_isLatin1_0 rfl fl_JString_38 ?_
  refine w_if_eq_f (q := 6) d_JString_isLatin1_3 17 rfl rfl (by decide) ?_
  refine w_aload_n (q := 7) d_JString_isLatin1_6 rfl rfl ?_
  refine w_strC (q := 10) d_JString_isLatin1_7 rfl hj fl_JString_15 ?_
  refine w_if_ne_f (q := 13) d_JString_isLatin1_10 17 rfl rfl rfl ?_
  refine w_iconst (q := 14) (v := 1) d_JString_isLatin1_13 rfl (by decide) ?_
  refine w_goto (q := 18) d_JString_isLatin1_14 rfl ?_
  exact w_ireturn d_JString_isLatin1_18 rfl rfl ⟨rfl, rfl, rfl, rfl⟩
theorem ok_JString_length {j : Nat} (hj : j < 39) : CA γ M_JString_length 3 [.ref (1048576 + j)] sh g tt (0, 0) (pI sh (slen j) g tt) := by
  refine CA.of mw_JString_length.1 0 rfl ?_
  show WA γ M_JString_length 3 0 [some (.ref (1048576 + j))] [] sh g tt (0, 0) (pI sh (slen j) g tt)
  refine w_aload_n (q := 1) d_JString_length_0 rfl rfl ?_
  refine w_strV (q := 4) d_JString_length_1 rfl hj fl_JString_9 ?_
  refine w_strN (q := 5) d_JString_length_4 rfl hj rfl ?_
  refine w_aload_n (q := 6) d_JString_length_5 rfl rfl ?_
  refine w_callKi (q := 9) (M' := M_JString_coder) (n' := 0) (j := j) (As := []) d_JString_length_6 rfl mw_JString_coder (by decide) (by decide) ml_JString_335 hj rfl rfl rfl (leb rfl) (ok_JString_coder hj) ?_
  refine w_ishr (q := 10) d_JString_length_9 rfl ?_
  rw [sb_shr0]
  exact w_ireturn d_JString_length_10 rfl rfl ⟨rfl, rfl, rfl, rfl⟩
theorem sch_ok {j : Nat} {i v : Int32} (h : sch j i = some v) : inb i (lenL.getD j 0) = true ∧ (bytL.getD j []).getD i.toNatClampNeg 0 &&& 255 = v := by
  unfold sch at h
  split at h
  · rename_i h1; exact ⟨h1, Option.some.inj h⟩
  · cases h
theorem lenL_lt {j : Nat} (hj : j < 39) : lenL.getD j 0 < 2 ^ 31 := by
  have : ∀ j, j < 39 → lenL.getD j 0 < 2 ^ 31 := by decide +kernel
  exact this j hj
theorem ok_JLatin_charAt {j : Nat} {i v : Int32} (hj : j < 39) (h : sch j i = some v) : CA γ M_JLatin_charAt 2 [.ref (1572864 + j), .int i] sh g tt (0, 0) (pI sh v g tt) := by
  obtain ⟨hi, rfl⟩ := sch_ok h
  have hi2 := hi
  simp only [inb, Bool.and_eq_true, Bool.not_eq_true', decide_eq_false_iff_not, decide_eq_true_eq] at hi2
  have h1 : i < Int32.ofNat (lenL.getD j 0) := by
    obtain ⟨k, hk, rfl⟩ := nI_of hi2.1
    rw [nI_clamp hk] at hi2
    exact nI_lt hi2.2 (lenL_lt hj)
  refine CA.of mw_JLatin_charAt.1 0 rfl ?_
  show WA γ M_JLatin_charAt 2 0 [some (.ref (1572864 + j)), some (.int i)] [] sh g tt (0, 0) (pI sh _ g tt)
  refine w_iload_n (q := 1) d_JLatin_charAt_0 rfl rfl ?_
  refine w_aload_n (q := 2) d_JLatin_charAt_1 rfl rfl ?_
  refine w_strN (q := 3) d_JLatin_charAt_2 rfl hj rfl ?_
  refine w_callSv (q := 6) (M' := M_JString_checkIndex) (n' := 1) (As := [.int i, .int (Int32.ofNat (lenL.getD j 0))]) (sh' := sh) (b1 := (0, 0)) d_JLatin_charAt_3 rfl mw_JString_checkIndex (by decide) (by decide) ml_JLatin_9 rfl rfl (leb rfl) (bz _) (fun _ => rfl) (ok_JString_checkIndex hi2.1 h1) ?_
  refine w_aload_n (q := 7) d_JLatin_charAt_6 rfl rfl ?_
  refine w_iload_n (q := 8) d_JLatin_charAt_7 rfl rfl ?_
  refine w_strB (q := 9) d_JLatin_charAt_8 rfl hj hi ?_
  refine w_sipush (q := 12) (v := 255) d_JLatin_charAt_9 rfl (by decide) ?_
  refine w_iand (q := 13) d_JLatin_charAt_12 rfl ?_
  refine w_i2c (q := 14) d_JLatin_charAt_13 rfl (sc_c2 _) ?_
  exact w_ireturn d_JLatin_charAt_14 rfl (sc_nar _) ⟨rfl, rfl, rfl, rfl⟩
theorem ok_JString_charAt {j : Nat} {i v : Int32} (hj : j < 39) (h : sch j i = some v) : CA γ M_JString_charAt 4 [.ref (1048576 + j), .int i] sh g tt (0, 0) (pI sh v g tt) := by
  obtain ⟨hi, rfl⟩ := sch_ok h
  refine CA.of mw_JString_charAt.1 0 rfl ?_
  show WA γ M_JString_charAt 4 0 [some (.ref (1048576 + j)), some (.int i)] [] sh g tt (0, 0) (pI sh _ g tt)
  refine w_aload_n (q := 1) d_JString_charAt_0 rfl rfl ?_
  refine w_callKi (q := 4) (M' := M_JString_isLatin1) (n' := 0) (j := j) (As := []) d_JString_charAt_1 rfl mw_JString_isLatin1 (by decide) (by decide) ml_JString_492 hj rfl rfl rfl (leb rfl) (ok_JString_isLatin1 hj) ?_
  refine w_if_eq_f (q := 7) d_JString_charAt_4 16 rfl rfl (by decide) ?_
  refine w_aload_n (q := 8) d_JString_charAt_7 rfl rfl ?_
  refine w_strV (q := 11) d_JString_charAt_8 rfl hj fl_JString_9 ?_
  refine w_iload_n (q := 12) d_JString_charAt_11 rfl rfl ?_
  refine w_callSi (q := 15) (M' := M_JLatin_charAt) (n' := 2) (As := [.ref (1572864 + j), .int i]) (sh' := sh) (b1 := (0, 0)) d_JString_charAt_12 rfl mw_JLatin_charAt (by decide) (by decide) ml_JString_495 rfl rfl (leb rfl) (bz _) (fun _ => rfl) (ok_JLatin_charAt hj h) ?_
  exact w_ireturn d_JString_charAt_15 rfl (sc_nar _) ⟨rfl, rfl, rfl, rfl⟩
end Txt
