/-! functions and theorems of 20.jdk (by program: wip/gen/main.py) -/
def sp_JInteger_bitCount (p0 : Int32) (g : Mem) : Option (Int32) := (some (((p0 - ((ush p0 1) &&& 1431655765)) &&& 858993459) + ((ush (p0 - ((ush p0 1) &&& 1431655765)) 2) &&& 858993459))).bind fun v1 => (some (((v1 + (ush v1 4)) &&& 252645135) + (ush ((v1 + (ush v1 4)) &&& 252645135) 8))).bind fun v2 => some ((v2 + (ush v2 16)) &&& 63)
theorem ok_JInteger_bitCount {γ : GG} {sh : List Sh} {tt : Bool} {p0 : Int32} {g : Mem} {res : Int32} (h : sp_JInteger_bitCount p0 g = some res) : CA γ M_JInteger_bitCount 0 [.int p0] sh g tt (0, 0) (pI sh res g tt) := by
  refine CA.of mw_JInteger_bitCount.1 0 rfl ?_
  show WA γ M_JInteger_bitCount 0 0 [some (.int p0)] [] sh g tt (0, 0) (pI sh res g tt)
  unfold sp_JInteger_bitCount at h
  refine w_iload_n (q := 1) d_JInteger_bitCount_0 rfl rfl ?_
  refine w_iload_n (q := 2) d_JInteger_bitCount_1 rfl rfl ?_
  refine w_iconst (q := 3) (v := 1) d_JInteger_bitCount_2 rfl (by decide) ?_
  refine w_iushr (q := 4) d_JInteger_bitCount_3 rfl ?_
  refine w_ldcw (q := 7) d_JInteger_bitCount_4 rfl co_JInteger_265 ?_
  refine w_iand (q := 8) d_JInteger_bitCount_7 rfl ?_
  refine w_isub (q := 9) d_JInteger_bitCount_8 rfl ?_
  refine w_istore_n (q := 10) (ls' := [some (.int (p0 - ((ush p0 1) &&& 1431655765)))]) d_JInteger_bitCount_9 rfl (by decide) rfl rfl ?_
  refine w_iload_n (q := 11) d_JInteger_bitCount_10 rfl rfl ?_
  refine w_ldcw (q := 14) d_JInteger_bitCount_11 rfl co_JInteger_266 ?_
  refine w_iand (q := 15) d_JInteger_bitCount_14 rfl ?_
  refine w_iload_n (q := 16) d_JInteger_bitCount_15 rfl rfl ?_
  refine w_iconst (q := 17) (v := 2) d_JInteger_bitCount_16 rfl (by decide) ?_
  refine w_iushr (q := 18) d_JInteger_bitCount_17 rfl ?_
  refine w_ldcw (q := 21) d_JInteger_bitCount_18 rfl co_JInteger_266 ?_
  refine w_iand (q := 22) d_JInteger_bitCount_21 rfl ?_
  refine w_iadd (q := 23) d_JInteger_bitCount_22 rfl ?_
  obtain ⟨v1, hv, h⟩ := bnd h
  refine w_istore_n (q := 24) (ls' := [some (.int v1)]) d_JInteger_bitCount_23 rfl (by decide) rfl (by rw [Option.some.inj hv] <;> rfl) ?_
  refine w_iload_n (q := 25) d_JInteger_bitCount_24 rfl rfl ?_
  refine w_iload_n (q := 26) d_JInteger_bitCount_25 rfl rfl ?_
  refine w_iconst (q := 27) (v := 4) d_JInteger_bitCount_26 rfl (by decide) ?_
  refine w_iushr (q := 28) d_JInteger_bitCount_27 rfl ?_
  refine w_iadd (q := 29) d_JInteger_bitCount_28 rfl ?_
  refine w_ldcw (q := 32) d_JInteger_bitCount_29 rfl co_JInteger_267 ?_
  refine w_iand (q := 33) d_JInteger_bitCount_32 rfl ?_
  refine w_istore_n (q := 34) (ls' := [some (.int ((v1 + (ush v1 4)) &&& 252645135))]) d_JInteger_bitCount_33 rfl (by decide) rfl rfl ?_
  refine w_iload_n (q := 35) d_JInteger_bitCount_34 rfl rfl ?_
  refine w_iload_n (q := 36) d_JInteger_bitCount_35 rfl rfl ?_
  refine w_bipush (q := 38) (v := 8) d_JInteger_bitCount_36 rfl (by decide) ?_
  refine w_iushr (q := 39) d_JInteger_bitCount_38 rfl ?_
  refine w_iadd (q := 40) d_JInteger_bitCount_39 rfl ?_
  obtain ⟨v2, hv, h⟩ := bnd h
  refine w_istore_n (q := 41) (ls' := [some (.int v2)]) d_JInteger_bitCount_40 rfl (by decide) rfl (by rw [Option.some.inj hv] <;> rfl) ?_
  refine w_iload_n (q := 42) d_JInteger_bitCount_41 rfl rfl ?_
  refine w_iload_n (q := 43) d_JInteger_bitCount_42 rfl rfl ?_
  refine w_bipush (q := 45) (v := 16) d_JInteger_bitCount_43 rfl (by decide) ?_
  refine w_iushr (q := 46) d_JInteger_bitCount_45 rfl ?_
  refine w_iadd (q := 47) d_JInteger_bitCount_46 rfl ?_
  refine w_istore_n (q := 48) (ls' := [some (.int (v2 + (ush v2 16)))]) d_JInteger_bitCount_47 rfl (by decide) rfl rfl ?_
  refine w_iload_n (q := 49) d_JInteger_bitCount_48 rfl rfl ?_
  refine w_bipush (q := 51) (v := 63) d_JInteger_bitCount_49 rfl (by decide) ?_
  refine w_iand (q := 52) d_JInteger_bitCount_51 rfl ?_
  cases h
  exact w_ireturn d_JInteger_bitCount_52 rfl rfl ⟨rfl, rfl, rfl, rfl⟩
def sp_JMath_min (p0 : Int32) (p1 : Int32) (g : Mem) : Option (Int32) := if p1 < p0 then some p1 else some p0
theorem ok_JMath_min {γ : GG} {sh : List Sh} {tt : Bool} {p0 : Int32} {p1 : Int32} {g : Mem} {res : Int32} (h : sp_JMath_min p0 p1 g = some res) : CA γ M_JMath_min 0 [.int p0, .int p1] sh g tt (0, 0) (pI sh res g tt) := by
  refine CA.of mw_JMath_min.1 0 rfl ?_
  show WA γ M_JMath_min 0 0 [some (.int p0), some (.int p1)] [] sh g tt (0, 0) (pI sh res g tt)
  unfold sp_JMath_min at h
  refine w_iload_n (q := 1) d_JMath_min_0 rfl rfl ?_
  refine w_iload_n (q := 2) d_JMath_min_1 rfl rfl ?_
  by_cases c1 : p1 < p0
  · rw [if_pos c1] at h
    refine w_icmp_gt_t (q := 9) d_JMath_min_2 rfl c1 ?_
    refine w_iload_n (q := 10) d_JMath_min_9 rfl rfl ?_
    cases h
    exact w_ireturn d_JMath_min_10 rfl rfl ⟨rfl, rfl, rfl, rfl⟩
  · rw [if_neg c1] at h
    refine w_icmp_gt_f (q := 5) d_JMath_min_2 9 rfl rfl c1 ?_
    refine w_iload_n (q := 6) d_JMath_min_5 rfl rfl ?_
    refine w_goto (q := 10) d_JMath_min_6 rfl ?_
    cases h
    exact w_ireturn d_JMath_min_10 rfl rfl ⟨rfl, rfl, rfl, rfl⟩
def PL_JArrays_fill_5 (γ : GG) (sh : List Sh) (tt : Bool) (q0 : Nat) (q0n : Nat) (p1 : Int32) (g : Mem) (k1 : Int32) (k3 : Int32) (b : Nat × Nat) (Φ : PO) (s : Int32 × Mem) : Prop := WA γ M_JArrays_fill 0 5 [some (.ref q0), some (.int k1), some (.int s.1), some (.int k3)] [] sh s.2 tt b Φ
def QL_JArrays_fill_5 (γ : GG) (sh : List Sh) (tt : Bool) (q0 : Nat) (q0n : Nat) (p1 : Int32) (g : Mem) (k1 : Int32) (k3 : Int32) (b : Nat × Nat) (Φ : PO) (x : (Mem)) : Prop := WA γ M_JArrays_fill 0 20 [none, none, none, none] [] sh x tt b Φ
def st_JArrays_fill_5 (F : Nat) (q0 : Nat) (q0n : Nat) (p1 : Int32) (g : Mem) (k1 : Int32) (k3 : Int32) (s : Int32 × Mem) : Option ((Int32 × Mem) ⊕ ((Mem))) := if k3 ≤ s.1 then some (.inr s.2) else (wr s.2 q0 q0n s.1 k1).bind fun g2 => some (.inl (s.1 + 1, g2))
theorem kl_JArrays_fill_5 {γ : GG} {sh : List Sh} {tt : Bool} {F : Nat} {q0 : Nat} {q0n : Nat} {p1 : Int32} {g : Mem} {k1 : Int32} {k3 : Int32} {b : Nat × Nat} {Φ : PO} (hq0 : isA sh q0 q0n) : ∀ (s : Int32 × Mem) (r : (Int32 × Mem) ⊕ ((Mem))), st_JArrays_fill_5 F q0 q0n p1 g k1 k3 s = some r → RQ (PL_JArrays_fill_5 γ sh tt q0 q0n p1 g k1 k3 b Φ) (QL_JArrays_fill_5 γ sh tt q0 q0n p1 g k1 k3 b Φ) r → PL_JArrays_fill_5 γ sh tt q0 q0n p1 g k1 k3 b Φ s := by
  intro s r h hr
  unfold st_JArrays_fill_5 at h
  unfold PL_JArrays_fill_5
  refine w_iload_n (q := 6) d_JArrays_fill_5 rfl rfl ?_
  refine w_iload_n (q := 7) d_JArrays_fill_6 rfl rfl ?_
  by_cases c1 : k3 ≤ s.1
  · rw [if_pos c1] at h
    refine w_icmp_ge_t (q := 20) d_JArrays_fill_7 rfl c1 ?_
    cases h
    exact w_ls (by exact trivial) hr
  · rw [if_neg c1] at h
    refine w_icmp_ge_f (q := 10) d_JArrays_fill_7 20 rfl rfl c1 ?_
    refine w_aload_n (q := 11) d_JArrays_fill_10 rfl rfl ?_
    refine w_iload_n (q := 12) d_JArrays_fill_11 rfl rfl ?_
    refine w_iload_n (q := 13) d_JArrays_fill_12 rfl rfl ?_
    obtain ⟨g2, hv, h⟩ := bnd h
    obtain ⟨hi, hv⟩ := wr_ok hv
    refine w_iast (q := 14) d_JArrays_fill_13 rfl hq0.2 hq0.1 hi hv ?_
    refine w_iinc (q := 17) (ls' := [some (.ref q0), some (.int k1), some (.int (s.1 + 1)), some (.int k3)]) d_JArrays_fill_14 rfl (by decide) rfl rfl rfl ?_
    refine w_goto (q := 5) d_JArrays_fill_17 rfl ?_
    cases h
    exact w_ls (by exact (And.intro rfl (And.intro rfl (And.intro rfl (And.intro rfl trivial))))) hr
def sp_JArrays_fill (F : Nat) (q0 : Nat) (q0n : Nat) (p1 : Int32) (g : Mem) : Option (Mem) := (lpO (st_JArrays_fill_5 F q0 q0n p1 g p1 (Int32.ofNat q0n)) F (0, g)).bind fun x3 => some x3
theorem ok_JArrays_fill {γ : GG} {sh : List Sh} {tt : Bool} {F : Nat} {q0 : Nat} {q0n : Nat} {p1 : Int32} {g : Mem} (hq0 : isA sh q0 q0n) {res : Mem} (h : sp_JArrays_fill F q0 q0n p1 g = some res) : CA γ M_JArrays_fill 0 [.ref q0, .int p1] sh g tt (0, 0) (pV sh res tt) := by
  refine CA.of mw_JArrays_fill.1 2 rfl ?_
  show WA γ M_JArrays_fill 0 0 [some (.ref q0), some (.int p1), none, none] [] sh g tt (0, 0) (pV sh res tt)
  unfold sp_JArrays_fill at h
  refine w_iconst (q := 1) (v := 0) d_JArrays_fill_0 rfl (by decide) ?_
  refine w_istore_n (q := 2) (ls' := [some (.ref q0), some (.int p1), some (.int 0), none]) d_JArrays_fill_1 rfl (by decide) rfl rfl ?_
  refine w_aload_n (q := 3) d_JArrays_fill_2 rfl rfl ?_
  refine w_alen (q := 4) d_JArrays_fill_3 rfl hq0.2 hq0.1 (Or.inl ⟨rfl, Or.inl rfl⟩) rfl ?_
  refine w_istore_n (q := 5) (ls' := [some (.ref q0), some (.int p1), some (.int 0), some (.int (Int32.ofNat q0n))]) d_JArrays_fill_4 rfl (by decide) rfl rfl ?_
  obtain ⟨x3, hx, h⟩ := bnd h
  refine w_ls (ls' := [some (.ref q0), some (.int p1), some (.int 0), some (.int (Int32.ofNat q0n))]) (And.intro rfl (And.intro rfl (And.intro rfl (And.intro rfl trivial)))) ?_
  show PL_JArrays_fill_5 γ sh tt q0 q0n p1 g p1 (Int32.ofNat q0n) _ _ (0, g)
  refine lp_ok (kl_JArrays_fill_5 hq0) F _ x3 hx ?_
  unfold QL_JArrays_fill_5
  cases h
  exact w_return d_JArrays_fill_20 rfl ⟨rfl, rfl, rfl, rfl⟩
