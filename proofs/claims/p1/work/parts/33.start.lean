/-! what stands at the law's entry (by program: wip/gen/start.py) -/
def FL : List Cond := flatC (Jvm.Cond.and given_1 narrow_1)
def stm (i : Nat) : Term := Term.string (strL.getD i ("", 0, "")).1 (strL.getD i ("", 0, "")).2.1
set_option maxRecDepth 100000 in
theorem nar_s : ∀ i, i < 39 → (Cond.exactly (stm i) "java/lang/String" ∈ FL ∧ Cond.eq (.field (stm i) "java/lang/String" "coder" "B") (.int 0) ∈ FL ∧ Cond.arrayOf (.field (stm i) "java/lang/String" "value" "[B") .byte ∈ FL ∧ Cond.eq (.length (.field (stm i) "java/lang/String" "value" "[B")) (.int (Int32.ofNat (lenL.getD i 0))) ∈ FL ∧ ∀ j, j < lenL.getD i 0 → Cond.eq (.elem (.field (stm i) "java/lang/String" "value" "[B") (.int (Int32.ofNat j))) (.int ((bytL.getD i []).getD j 0)) ∈ FL) := by decide +kernel
theorem str_len : ∀ i, i < 39 → ∀ j, j < 39 → Int32.ofNat (lenL.getD i 0) = Int32.ofNat (lenL.getD j 0) → lenL.getD i 0 = lenL.getD j 0 := by decide +kernel
theorem str_inj : ∀ i, i < 39 → ∀ j, j < 39 → lenL.getD i 0 = lenL.getD j 0 → (∀ k, k < lenL.getD i 0 → (bytL.getD i []).getD k 0 = (bytL.getD j []).getD k 0) → i = j := by decide +kernel
theorem str_small : ∀ i, i < 39 → lenL.getD i 0 < 2 ^ 31 := by decide +kernel
theorem OF_same {o n d : String} {v v2 : Value} {t : Nat} {A : Nat → Prop} {U : State} {H : Heap} (h1 : va_OF o n d v t A U H) (h2 : va_OF o n d v2 t A U H) : v = v2 := by
  obtain ⟨cf, k, i, f, cell, a1, -, a2, -, a3, -⟩ := h1
  obtain ⟨cf', k', i', f', cell', b1, -, b2, -, b3, -⟩ := h2
  rw [a1] at b1
  cases b1
  rw [a2] at b2
  cases b2
  rw [a3] at b3
  exact Option.some.inj b3
theorem vk_mine {args : Array Value} {s : State} {A : Nat → Prop} (hA : ∀ a : Nat, a < s.heap.size → ¬ A a) (hin : ∀ c ∈ FL, c.before args s = true) : ∃ adK adV : Nat → Nat, vk_S 39 lenL bytL adK adV A s s.heap ∧ ∀ i : Nat, i < 39 → (stm i).eval args s none [] s = some (.ref (adK i)) := by
  have h0 : ∀ i : Nat, ∃ q : Nat × Nat, i < 39 → (stm i).eval args s none [] s = some (.ref q.1) ∧ va_O "java/lang/String" q.1 A s s.heap ∧ va_OF "java/lang/String" "coder" "B" (.int 0) q.1 A s s.heap ∧ va_OF "java/lang/String" "value" "[B" (.ref q.2) q.1 A s s.heap ∧ va_T .byte q.2 (lenL.getD i 0) (fun j => .int ((bytL.getD i []).getD j 0)) A s s.heap := by
    intro i
    by_cases hi : i < 39
    · obtain ⟨n1, n2, n3, n4, n5⟩ := nar_s i hi
      obtain ⟨aK, aV, hS, hE⟩ := vk_Sof (args := args) (s := s) (N := 1) (tm := fun _ => stm i) (len := [lenL.getD i 0]) (byt := [bytL.getD i []]) (A := A)
        (fun j hj => by have : j = 0 := by omega
                        subst this; exact str_small i hi)
        (fun _ _ => hin _ n1) (fun _ _ => hin _ n2) (fun _ _ => hin _ n3)
        (fun j hj => by have : j = 0 := by omega
                        subst this; exact hin _ n4)
        (fun j hj k hk => by have : j = 0 := by omega
                             subst this; exact hin _ (n5 k hk))
        (fun j k hj hk hne => absurd (show j = k by omega) hne) hA
      exact ⟨(aK 0, aV 0), fun _ => ⟨hE 0 (by decide), hS.1 0 (by decide)⟩⟩
    · exact ⟨(0, 0), fun h => absurd h hi⟩
  obtain ⟨ad, had⟩ := Classical.axiomOfChoice h0
  refine ⟨fun i => (ad i).1, fun i => (ad i).2, ⟨fun i hi => (had i hi).2, fun i j hi hj e => ?_⟩, fun i hi => (had i hi).1⟩
  obtain ⟨-, -, -, v1, t1⟩ := had i hi
  obtain ⟨-, -, -, v2, t2⟩ := had j hj
  have e1 : (ad i).1 = (ad j).1 := e
  rw [e1] at v1
  have e2 : (ad i).2 = (ad j).2 := by
    have := OF_same v1 v2
    cases this
    rfl
  rw [e2] at t1
  obtain ⟨c1, a1, -, -, -, a2, a3, -⟩ := t1
  obtain ⟨c2, b1, -, -, -, b2, b3, -⟩ := t2
  rw [a1] at b1
  cases b1
  have hl := str_len i hi j hj (a2.symm.trans b2)
  refine str_inj i hi j hj hl (fun k hk => ?_)
  have q1 := a3 k hk
  have q2 := b3 k (by rw [← hl]; exact hk)
  rw [q1] at q2
  have := Option.some.inj q2
  exact (Value.int.inj this)
theorem cu_all {s : State} {args : Array Value} (hts : ∀ w ∈ lwg, w.before args s = true) : ∀ c : Nat, ∃ q : ClassId × (Nat → Nat), c < 13 → u_Kn s (xC c) (xT c) (xN c) q.1 q.2 := by
  intro c
  by_cases hc : c < 13
  · match c, hc with
    | 0, _ => obtain ⟨a, b, h⟩ := u_known hts xin0 (hts _ wn_Acts); exact ⟨(a, b), fun _ => h⟩
    | 1, _ => obtain ⟨a, b, h⟩ := u_known hts xin1 (hts _ wn_Game); exact ⟨(a, b), fun _ => h⟩
    | 2, _ => obtain ⟨a, b, h⟩ := u_known hts xin2 (hts _ wn_Hair); exact ⟨(a, b), fun _ => h⟩
    | 3, _ => obtain ⟨a, b, h⟩ := u_known hts xin3 (hts _ wn_Image); exact ⟨(a, b), fun _ => h⟩
    | 4, _ => obtain ⟨a, b, h⟩ := u_known hts xin4 (hts _ wn_Keeping); exact ⟨(a, b), fun _ => h⟩
    | 5, _ => obtain ⟨a, b, h⟩ := u_known hts xin5 (hts _ wn_Laws); exact ⟨(a, b), fun _ => h⟩
    | 6, _ => obtain ⟨a, b, h⟩ := u_known hts xin6 (hts _ wn_Reader); exact ⟨(a, b), fun _ => h⟩
    | 7, _ => obtain ⟨a, b, h⟩ := u_known hts xin7 (hts _ wn_Roll); exact ⟨(a, b), fun _ => h⟩
    | 8, _ => obtain ⟨a, b, h⟩ := u_known hts xin8 (hts _ wn_Rule); exact ⟨(a, b), fun _ => h⟩
    | 9, _ => obtain ⟨a, b, h⟩ := u_known hts xin9 (hts _ wn_Season); exact ⟨(a, b), fun _ => h⟩
    | 10, _ => obtain ⟨a, b, h⟩ := u_known hts xin10 (hts _ wn_Seen); exact ⟨(a, b), fun _ => h⟩
    | 11, _ => obtain ⟨a, b, h⟩ := u_known hts xin11 (hts _ wn_Hall); exact ⟨(a, b), fun _ => h⟩
    | 12, _ => obtain ⟨a, b, h⟩ := u_known hts xin12 (hts _ wn_Model); exact ⟨(a, b), fun _ => h⟩
    | c + 13, h => exact absurd h (by omega)
  · exact ⟨(0, fun _ => 0), fun h => absurd h hc⟩
theorem xcl_of {k : Nat} {q : vw_C} (h : xcl[k]? = some q) : k < 13 ∧ q = (xC k, xT k, xN k) := by
  match k, h with
  | 0, h => cases h; exact ⟨by decide, rfl⟩
  | 1, h => cases h; exact ⟨by decide, rfl⟩
  | 2, h => cases h; exact ⟨by decide, rfl⟩
  | 3, h => cases h; exact ⟨by decide, rfl⟩
  | 4, h => cases h; exact ⟨by decide, rfl⟩
  | 5, h => cases h; exact ⟨by decide, rfl⟩
  | 6, h => cases h; exact ⟨by decide, rfl⟩
  | 7, h => cases h; exact ⟨by decide, rfl⟩
  | 8, h => cases h; exact ⟨by decide, rfl⟩
  | 9, h => cases h; exact ⟨by decide, rfl⟩
  | 10, h => cases h; exact ⟨by decide, rfl⟩
  | 11, h => cases h; exact ⟨by decide, rfl⟩
  | 12, h => cases h; exact ⟨by decide, rfl⟩
  | k + 13, h => simp [xcl] at h
theorem arr_of {s : State} {args : Array Value} {t : FieldType} (h : (Cond.arrayClass t).before args s = true) (ht : ∀ cA : ClassId, s.vm.findClass ("[" ++ t.toString) = some cA → va_RA s cA t) : ∃ cA : ClassId, ArrOfT s cA t ∧ va_RA s cA t := by
  obtain ⟨c, k, comp, h1, h2, h3⟩ := Cond.arrayClass_spec (args := args) (first := s) (o := none) (s := s) (idx := []) h
  exact ⟨c, fun n z => ⟨fun k h => (by cases h), k, h2, comp, h3⟩, ht c h1⟩
theorem arr_ofS {s : State} {args : Array Value} (h : (Cond.arrayOver (.object "java/lang/String")).before args s = true) : ∃ cA : ClassId, ArrOfT s cA (.object "java/lang/String") ∧ va_RA s cA (.object "java/lang/String") := by
  obtain ⟨comp, c, k, h1, h2, h3, h4, h5⟩ := Cond.arrayOver_spec (args := args) (first := s) (o := none) (s := s) (idx := []) h
  exact ⟨c, fun n z => ⟨fun k h => (by cases h), k, h3, comp, h4⟩, k, comp, h3, h4, h1, h5⟩
set_option maxRecDepth 100000 in
theorem sf_start {s : State} {b L : Nat} {xs : Nat → Int32} {l : Launch} (hl : l.stackTraces = false) (hts : ∀ w ∈ lw_tbl, w.before #[Value.ref b] s = true) (hX : va_X b L xs s s.heap) (hbl : b < s.heap.size) (hgv : (Jvm.Cond.and given_1 narrow_1).before #[Value.ref b] s = true) : ∃ γ : GG, gl γ = l ∧ gz γ = s.heap.size ∧ gS γ = (b, L, xs) ∧ SF γ s := by
  have hin : ∀ c ∈ FL, c.before #[Value.ref b] s = true := flat_of_before _ hgv
  have hg : ∀ (args : Array Value), ∀ w ∈ lwg, w.before args s = true := fun args w hw => gw_at (args := #[Value.ref b]) (State.WarmedH.refl s) (List.mem_filter.mp hw).2 (hts w (List.mem_filter.mp hw).1)
  obtain ⟨f, hf⟩ := Classical.axiomOfChoice (cu_all (hg #[]))
  obtain ⟨c0, h0⟩ := arr_of (hg #[] _ wa_cls_int) (fun _ h => h)
  obtain ⟨c1, h1⟩ := arr_of (hg #[] _ wa_cls_byte) (fun _ h => h)
  obtain ⟨c2, h2⟩ := arr_of (hg #[] _ wa_cls_long) (fun _ h => h)
  obtain ⟨c3, h3⟩ := arr_ofS (hts _ ka_6_152.1)
  have hA : ∀ a : Nat, a < s.heap.size → ¬ (fun q : Nat => s.heap.size ≤ q) a := fun a h h9 => absurd h (Nat.not_lt.mpr h9)
  obtain ⟨aK, aV, hS, hE⟩ := vk_mine (A := fun q : Nat => s.heap.size ≤ q) hA hin
  have hZ := va_Zqof (A := fun q : Nat => s.heap.size ≤ q) (hts _ ka_4_2.1) (hg #[Value.ref b] _ wi_jdk_internal_util_Preconditions) (hin (Cond.isRef (.static "jdk/internal/util/Preconditions" "SIOOBE_FORMATTER" "Ljava/util/function/BiFunction;")) (by decide +kernel)) hA
  obtain ⟨fm, hfm⟩ : ∃ fm : Nat, va_Z "jdk/internal/util/Preconditions" "SIOOBE_FORMATTER" "Ljava/util/function/BiFunction;" .null (fun q : Nat => s.heap.size ≤ q) s s.heap ∨ va_Z "jdk/internal/util/Preconditions" "SIOOBE_FORMATTER" "Ljava/util/function/BiFunction;" (.ref fm) (fun q : Nat => s.heap.size ≤ q) s s.heap := by
    rcases hZ with h | ⟨t, h⟩
    · exact ⟨0, Or.inl h⟩
    · exact ⟨t, Or.inr h⟩
  refine ⟨(l, s.heap.size, (fun c => (f c).1, fun c => (f c).2), fun k => match k with | 0 => c0 | 1 => c1 | 2 => c2 | _ => c3, aK, aV, (b, L, xs), fm), rfl, rfl, rfl, ?_⟩
  refine ⟨⟨fun c q hq => ?_, fun k q hk => ?_⟩, hg, ?_, ?_, hS, ?_, ?_, ?_, ?_, hX, Nat.le_refl _, hbl, hfm, ?_, hl⟩
  · obtain ⟨hc, rfl⟩ := xcl_of hq
    exact hf c hc
  · match k, hk with
    | 0, hk => cases hk; exact h0
    | 1, hk => cases hk; exact h1
    | 2, hk => cases hk; exact h2
    | 3, hk => cases hk; exact h3
    | k + 4, hk => simp [gtys] at hk
  · exact List.forall_mem_cons.mpr ⟨va_Nw.of rfl (hts _ ka_1_201.1), List.forall_mem_cons.mpr ⟨va_Nw.of rfl (hts _ ka_1_206.1), List.forall_mem_cons.mpr ⟨va_Nw.of rfl (hts _ ka_1_220.1), List.forall_mem_cons.mpr ⟨va_Nw.of rfl (hts _ ka_2_239.1), List.forall_mem_cons.mpr ⟨va_Nw.of rfl (hts _ ka_2_2.1), List.forall_mem_cons.mpr ⟨va_Nw.of rfl (hts _ ka_2_4.1), List.forall_mem_cons.mpr ⟨va_Nw.of rfl (hts _ ka_3_72.1), List.forall_mem_cons.mpr ⟨va_Nw.of rfl (hts _ ka_3_37.1), List.forall_mem_cons.mpr ⟨va_Nw.of rfl (hts _ ka_1_43.1), List.forall_mem_cons.mpr ⟨va_Nw.of rfl (hts _ ka_1_49.1), fun _ h => absurd h List.not_mem_nil⟩⟩⟩⟩⟩⟩⟩⟩⟩⟩
  · intro i q hq
    match i, hq with
    | 0, hq => cases hq; exact vk_R.of (hts _ ka_3_169.1) (hE 0 (by decide))
    | 1, hq => cases hq; exact vk_R.of (hts _ ka_3_216.1) (hE 1 (by decide))
    | 2, hq => cases hq; exact vk_R.of (hts _ ka_4_181.1) (hE 2 (by decide))
    | 3, hq => cases hq; exact vk_R.of (hts _ ka_4_199.1) (hE 3 (by decide))
    | 4, hq => cases hq; exact vk_R.of (hts _ ka_4_211.1) (hE 4 (by decide))
    | 5, hq => cases hq; exact vk_R.of (hts _ ka_4_223.1) (hE 5 (by decide))
    | 6, hq => cases hq; exact vk_R.of (hts _ ka_4_224.1) (hE 6 (by decide))
    | 7, hq => cases hq; exact vk_R.of (hts _ ka_5_115.1) (hE 7 (by decide))
    | 8, hq => cases hq; exact vk_R.of (hts _ ka_5_148.1) (hE 8 (by decide))
    | 9, hq => cases hq; exact vk_R.of (hts _ ka_5_184.1) (hE 9 (by decide))
    | 10, hq => cases hq; exact vk_R.of (hts _ ka_5_185.1) (hE 10 (by decide))
    | 11, hq => cases hq; exact vk_R.of (hts _ ka_5_207.1) (hE 11 (by decide))
    | 12, hq => cases hq; exact vk_R.of (hts _ ka_5_225.1) (hE 12 (by decide))
    | 13, hq => cases hq; exact vk_R.of (hts _ ka_6_25.1) (hE 13 (by decide))
    | 14, hq => cases hq; exact vk_R.of (hts _ ka_6_125.1) (hE 14 (by decide))
    | 15, hq => cases hq; exact vk_R.of (hts _ ka_6_153.1) (hE 15 (by decide))
    | 16, hq => cases hq; exact vk_R.of (hts _ ka_6_154.1) (hE 16 (by decide))
    | 17, hq => cases hq; exact vk_R.of (hts _ ka_6_155.1) (hE 17 (by decide))
    | 18, hq => cases hq; exact vk_R.of (hts _ ka_6_156.1) (hE 18 (by decide))
    | 19, hq => cases hq; exact vk_R.of (hts _ ka_6_157.1) (hE 19 (by decide))
    | 20, hq => cases hq; exact vk_R.of (hts _ ka_6_158.1) (hE 20 (by decide))
    | 21, hq => cases hq; exact vk_R.of (hts _ ka_6_159.1) (hE 21 (by decide))
    | 22, hq => cases hq; exact vk_R.of (hts _ ka_6_160.1) (hE 22 (by decide))
    | 23, hq => cases hq; exact vk_R.of (hts _ ka_6_161.1) (hE 23 (by decide))
    | 24, hq => cases hq; exact vk_R.of (hts _ ka_6_162.1) (hE 24 (by decide))
    | 25, hq => cases hq; exact vk_R.of (hts _ ka_6_163.1) (hE 25 (by decide))
    | 26, hq => cases hq; exact vk_R.of (hts _ ka_6_164.1) (hE 26 (by decide))
    | 27, hq => cases hq; exact vk_R.of (hts _ ka_6_165.1) (hE 27 (by decide))
    | 28, hq => cases hq; exact vk_R.of (hts _ ka_6_166.1) (hE 28 (by decide))
    | 29, hq => cases hq; exact vk_R.of (hts _ ka_6_167.1) (hE 29 (by decide))
    | 30, hq => cases hq; exact vk_R.of (hts _ ka_7_97.1) (hE 30 (by decide))
    | 31, hq => cases hq; exact vk_R.of (hts _ ka_7_104.1) (hE 31 (by decide))
    | 32, hq => cases hq; exact vk_R.of (hts _ ka_7_105.1) (hE 32 (by decide))
    | 33, hq => cases hq; exact vk_R.of (hts _ ka_7_138.1) (hE 33 (by decide))
    | 34, hq => cases hq; exact vk_R.of (hts _ ka_7_159.1) (hE 34 (by decide))
    | 35, hq => cases hq; exact vk_R.of (hts _ ka_7_160.1) (hE 35 (by decide))
    | 36, hq => cases hq; exact vk_R.of (hts _ ka_7_187.1) (hE 36 (by decide))
    | 37, hq => cases hq; exact vk_R.of (hts _ ka_7_188.1) (hE 37 (by decide))
    | 38, hq => cases hq; exact vk_R.of (hts _ ka_7_189.1) (hE 38 (by decide))
    | i + 39, hq => simp [strL] at hq
  · exact va_Zof (hts _ ka_3_226.1) (hg #[Value.ref b] _ wi_JString) (va_eqt (hin (Cond.eq (.static "java/lang/String" "COMPACT_STRINGS" "Z") (.int 1)) (by decide +kernel))) hA
  · exact vx_Zqof (hts _ ka_3_156.1) (hg #[Value.ref b] _ wi_java_lang_Throwable) (hin (Cond.isRef (.static "java/lang/Throwable" "UNASSIGNED_STACK" "[Ljava/lang/StackTraceElement;")) (by decide +kernel)) hA
  · exact vx_Zqof (hts _ ka_3_158.1) (hg #[Value.ref b] _ wi_java_lang_Throwable) (hin (Cond.isRef (.static "java/lang/Throwable" "SUPPRESSED_SENTINEL" "Ljava/util/List;")) (by decide +kernel)) hA
  · exact va_AO.of (hts _ ka_6_152.1)
  · exact va_Nc.of (hin (Cond.not (.castable "java/lang/IllegalArgumentException" "java/util/NoSuchElementException")) (by decide +kernel))
