/-! throws, and their catching -/
section Thr
variable {γ : GG} {M : MI} {n pc q : Nat} {ls : List (Option Value)} {st : List Value} {sh : List Sh} {g : Mem} {tt : Bool} {b : Nat × Nat} {Φ : PO}
theorem Rel.kept {H H1 : Heap} (h : Rel γ sh g H) (hz : H.size ≤ H1.size) (hk : ∀ q : Nat, q < H.size → H1[q]? = H[q]?) : Rel γ sh g H1 := ⟨h.1.kept (fun k x hx => hk x.1 ((h.1 k x hx).lt)), Nat.le_trans h.2 hz⟩
theorem w_throw {ik is ic j k1 : Nat} {by1 : ByteArray} {cls text : String} (b0 : decode by1 0 = .ok (.aload_n 0, 1) ∧ decode by1 1 = .ok (.aload_n 1, 1) ∧ decode by1 2 = .ok (.invokespecial k1, 3) ∧ decode by1 5 = .ok (.return_, 1)) (hcls : Bundle.fit cls = true) (hwk : Cond.classLink M.1.cls ik cls ∈ lwg) (hwi : Cond.initialized cls ∈ lwg) (hstr : strL[j]? = some (M.1.cls, is, text)) (hat : ∀ w ∈ xt_at M.1.cls ic cls k1 by1 exS exN, w ∈ lwg) (hgood : ∀ w ∈ Cond.classLink M.1.cls ik cls :: Cond.initialized cls :: xt_at M.1.cls ic cls k1 by1 exS exN, vx_ot w = true)
    (d0 : decode M.2.1 pc = .ok (.new ik, 3)) (d3 : decode M.2.1 (pc + 3) = .ok (.dup, 1)) (d4 : decode M.2.1 (pc + 4) = .ok (.ldc is, 2)) (d6 : decode M.2.1 (pc + 6) = .ok (.invokespecial ic, 3)) (d9 : decode M.2.1 (pc + 9) = .ok (.athrow, 1)) (hh : M.2.2.2.2 = []) (hcat : (st.map fun v => v.category).sum ≤ 8) (hb : b = (1, 6)) (hΦ : Φ (.inr cls) sh g false) : WA γ M n pc ls st sh g tt b Φ := by
  subst hb
  intro p e R s m args below meth c H locs cells slots Ls C hR ht9 hS hc9 hs9 hl
  obtain ⟨hx, hb, hrt, hmx, hown, hlocks, -, htab, hf, hlo, hSF⟩ := id C
  simp only [] at hc9 hs9
  refine xt_throw (names := exN) (sa := gK γ j) hx hb hSF.tr b0.1 b0.2.1 b0.2.2.1 b0.2.2.2 hown hcls exF.2.2.1 exF.2.2.2 (hSF.2.1 args _ hwk) (hSF.2.1 args _ hwi) (hSF.2.2.2.1 j _ hstr) (fun w hw => hSF.2.1 args _ (hat w hw)) hgood hSF.2.2.2.2.2.2.1 hSF.2.2.2.2.2.2.2.1 hS (hl.1.trans hmx.symm) d0 d3 d4 d6 d9 (by rw [htab, hh]; intro x hx; cases hx) ?_ ?_ hc9 hs9 hlocks ?_ hS.2.2 (Nat.le_refl _) (Nat.le_refl _)
  · simp only [frN] at hf; simp only [List.length_cons, List.length_nil]; omega
  · rw [cats]; simp only [loN] at hlo; simp only [List.length_cons, List.length_nil]; omega
  · intro t hW hz hk
    exact ⟨sh, g, false, hΦ, hR.kept hz hk, (fun h => by cases h), Nat.le_trans hS.1 hz, fun q9 h1 h2 => by rw [hk q9 (Nat.lt_of_lt_of_le h1 hS.1)]; exact hS.2.1 q9 h1 h2⟩
theorem w_throwW {ik is ic j k1 : Nat} {by1 : ByteArray} {cls text : String} (b0 : decode by1 0 = .ok (.aload_n 0, 1) ∧ decode by1 1 = .ok (.aload_n 1, 1) ∧ decode by1 2 = .ok (.invokespecial k1, 3) ∧ decode by1 5 = .ok (.return_, 1)) (hcls : Bundle.fit cls = true) (hwk : Cond.classLink M.1.cls ik cls ∈ lwg) (hwi : Cond.initialized cls ∈ lwg) (hstr : strL[j]? = some (M.1.cls, is, text)) (hat : ∀ w ∈ xt_at M.1.cls ic cls k1 by1 exS exN, w ∈ lwg) (hgood : ∀ w ∈ Cond.classLink M.1.cls ik cls :: Cond.initialized cls :: xt_at M.1.cls ic cls k1 by1 exS exN, vx_ot w = true)
    (d0 : decode M.2.1 pc = .ok (.new ik, 3)) (d3 : decode M.2.1 (pc + 3) = .ok (.dup, 1)) (d4 : decode M.2.1 (pc + 4) = .ok (.ldc_w is, 3)) (d6 : decode M.2.1 (pc + 7) = .ok (.invokespecial ic, 3)) (d9 : decode M.2.1 (pc + 10) = .ok (.athrow, 1)) (hh : M.2.2.2.2 = []) (hcat : (st.map fun v => v.category).sum ≤ 8) (hb : b = (1, 6)) (hΦ : Φ (.inr cls) sh g false) : WA γ M n pc ls st sh g tt b Φ := by
  subst hb
  intro p e R s m args below meth c H locs cells slots Ls C hR ht9 hS hc9 hs9 hl
  obtain ⟨hx, hb, hrt, hmx, hown, hlocks, -, htab, hf, hlo, hSF⟩ := id C
  simp only [] at hc9 hs9
  refine xt_throwW (names := exN) (sa := gK γ j) hx hb hSF.tr b0.1 b0.2.1 b0.2.2.1 b0.2.2.2 hown hcls exF.2.2.1 exF.2.2.2 (hSF.2.1 args _ hwk) (hSF.2.1 args _ hwi) (hSF.2.2.2.1 j _ hstr) (fun w hw => hSF.2.1 args _ (hat w hw)) hgood hSF.2.2.2.2.2.2.1 hSF.2.2.2.2.2.2.2.1 hS (hl.1.trans hmx.symm) d0 d3 d4 d6 d9 (by rw [htab, hh]; intro x hx; cases hx) ?_ ?_ hc9 hs9 hlocks ?_ hS.2.2 (Nat.le_refl _) (Nat.le_refl _)
  · simp only [frN] at hf; simp only [List.length_cons, List.length_nil]; omega
  · rw [cats]; simp only [loN] at hlo; simp only [List.length_cons, List.length_nil]; omega
  · intro t hW hz hk
    exact ⟨sh, g, false, hΦ, hR.kept hz hk, (fun h => by cases h), Nat.le_trans hS.1 hz, fun q9 h1 h2 => by rw [hk q9 (Nat.lt_of_lt_of_le h1 hS.1)]; exact hS.2.1 q9 h1 h2⟩
theorem LH.drop {Ls : Array Slot} {nL i : Nat} {w : Value} (hok : okS ls i = true) (h : lv_has Ls nL ((i, w) :: (la γ ls 0).filter (fun q => !(q.1 == i) && !(q.1 + 1 == i && q.2.category == 2)))) : LH γ Ls nL (ls.set i none) := by
  refine ⟨h.1, h.2.1, fun q hq => ?_⟩
  obtain ⟨j, v, h1, h2⟩ := (la_mem γ _ 0 q).mp hq
  rw [Nat.zero_add] at h2
  rw [List.getElem?_set] at h1
  by_cases hj : i = j
  · subst hj
    rw [if_pos rfl] at h1
    split at h1 <;> cases h1
  · rw [if_neg hj] at h1
    refine h.2.2 q (List.mem_cons_of_mem _ (List.mem_filter.mpr ⟨(la_mem γ ls 0 q).mpr ⟨j, v, h1, by rw [Nat.zero_add]; exact h2⟩, ?_⟩))
    subst h2
    simp only [Bool.and_eq_true, Bool.not_eq_true', beq_eq_false_iff_ne, ne_eq, Bool.and_eq_false_iff]
    refine ⟨fun e => hj e.symm, ?_⟩
    by_cases hji : j + 1 = i
    · right
      subst hji
      rw [cv_cat]
      simp only [okS, h1] at hok
      cases v <;> simp_all [Value.category]
    · left
      exact hji
/-- a call threw, and a row of this method's table takes it; behind the store of what was thrown -/
theorem w_callVc {M' : MI} {n' np idx k ci ln q0 li ct : Nat} {tm : List Nat} {As S : List Value} {g1 : Mem} {b1 b2 : Nat × Nat} {E nm : String} {ls' : List (Option Value)} (pre suf : List (Nat × Nat × Nat × Nat)) (lo hi : Nat)
    (hd : decode M.2.1 pc = .ok (.invokevirtual idx, 3)) (hM : MWv M' np) (hn : n' + 1 ≤ n) (hml : M'.2.2.1 ≤ 180) (hw : Cond.methodLink M.1.cls idx M'.1 ∈ lwg) (hk : k < 1048576) (hs : sh[k]? = some (0, ci, tm, ln)) (hci : ci < 13) (hcl : xC ci = M'.1.cls) (hS9 : S = As.reverse ++ .ref k :: st) (hlen : As.length = np) (hcat : (st.map fun v => v.category).sum ≤ 8)
    (hb : b = (b1.1 + b2.1, b1.2 + b2.2)) (hC : CA γ M' n' (.ref k :: As) sh g tt b1 (pX sh E g1))
    (hsp : M.2.2.2.2 = pre ++ (lo, hi, q0, ct) :: suf) (hlo : lo ≤ pc) (hhi : pc < hi) (hct : ct ≠ 0) (hwc : Cond.classLink M.1.cls ct nm ∈ lwg) (hca : Cond.castable E nm ∈ lwg)
    (hpass : ∀ z ∈ pre, z.2.2.2 ≠ 0 ∧ ∃ nm2 : String, Cond.classLink M.1.cls z.2.2.2 nm2 ∈ lwg ∧ ∀ s : State, SF γ s → va_Nc E nm2 s)
    (hd2 : (∃ f : Fin 4, (f : Nat) = li ∧ decode M.2.1 q0 = .ok (.astore_n f, 1) ∧ q0 + 1 = q) ∨ (decode M.2.1 q0 = .ok (.astore li, 2) ∧ q0 + 2 = q)) (hli : li < M.2.2.1) (hok : okS ls li = true) (hls : ls.set li none = ls')
    (kk : WA γ M n q ls' [] sh g1 false b2 Φ) : WA γ M n pc ls S sh g tt b Φ := by
  subst hls
  intro p e R s m args below meth c H locs cells slots Ls C hR ht9 hS hc9 hs9 hl T hT X
  have hbc : cells + b1.1 ≤ R.cells := by rw [hb] at hc9; simp only [] at hc9; omega
  have hbs : slots + b1.2 ≤ R.slots := by rw [hb] at hs9; simp only [] at hs9; omega
  obtain ⟨hx, hbt, hrt, hmx, hown, hlocks, -, htab, hf, hlo9, hSF⟩ := id C
  have hrun := run_V (M' := M') (n' := n') C hR ht9 hS hl hbc hbs (by rw [← hT]; exact X.heapSize) hd hM hn hml hw hk hs hci hcl hS9 hlen hcat hC
  rcases hrun T hT X with ⟨v9, st₀, t, T', L, h0, X', hL, e1, e2, ⟨w, s2, g2, t2, hv, hΦ, hER⟩, st1⟩ | ⟨q9, st₀, t, T', L, E9, ce, h0, X', hL, e1, e2, ⟨s2, g2, t2, hΦ, hER⟩, hce, hcv, hcl9, st1⟩
  · cases hΦ.1
  · obtain ⟨hw9, rfl, rfl, rfl⟩ := hΦ
    cases hw9
    obtain ⟨k1, k2, k3⟩ := vx_keep h0 e1 hS (fun _ _ h => h) (fun _ h => h) hL hER.2.2
    subst hb
    have kW : W p (gl γ) e R s m args below meth c T'.heap (locs ++ L) (cells + b1.1) (slots + b1.2) (vx_MQ below (QR γ Φ) (QX γ Φ) args s (cells + (b1.1 + b2.1)) (slots + (b1.2 + b2.2)) (gA γ)) (F0 m q0 Ls [.ref q9]) := by
      have k9 : ∀ Ls' : Array Slot, lv_has Ls' M.2.2.1 ((li, Value.ref q9) :: (la γ ls 0).filter (fun q => !(q.1 == li) && !(q.1 + 1 == li && q.2.category == 2))) → W p (gl γ) e R s m args below meth c T'.heap (locs ++ L) (cells + b1.1) (slots + b1.2) (vx_MQ below (QR γ Φ) (QX γ Φ) args s (cells + (b1.1 + b2.1)) (slots + (b1.2 + b2.2)) (gA γ)) (F0 m q Ls' []) := by
        intro Ls' hL'
        have := kk p e R s m args below meth c T'.heap (locs ++ L) (cells + b1.1) (slots + b1.2) Ls' C (by rw [e1]; exact hER.1) (fun h => by cases h) k3 (by rw [Nat.add_assoc]; exact hc9) (by rw [Nat.add_assoc]; exact hs9) (LH.drop hok hL')
        rw [Nat.add_assoc, Nat.add_assoc] at this
        exact this
      rcases hd2 with ⟨f, hf9, hdd, hqq⟩ | ⟨hdd, hqq⟩
      · subst hqq
        exact lv_astore_n hx hbt hdd hf9 hl hli rfl k9
      · subst hqq
        exact lv_astore hx hbt hdd hl hli rfl k9
    have hvx : vx_W p (gl γ) e R s m args below meth c T'.heap (locs ++ L) (cells + b1.1) (slots + b1.2) (vx_MQ below (QR γ Φ) (QX γ Φ) args s (cells + (b1.1 + b2.1)) (slots + (b1.2 + b2.2)) (gA γ)) (F0 m pc Ls (st.map (cv γ))) q9 := by
      refine vx_catch (own := M.1.cls) (name := nm) (E := E) (ce := ce) hown (tableOf pre) ⟨lo, hi, q0, ct⟩ (tableOf suf) ?_ ?_ ?_ hct (hSF.2.1 args _ hwc) (hSF.2.1 args _ hca) (by rw [e1]; exact hce) hcv hcl9 kW
      · rw [htab, hsp]
        simp [tableOf]
      · intro z hz
        obtain ⟨y, hy, rfl⟩ := List.mem_map.mp hz
        obtain ⟨a1, nm2, a2, a3⟩ := hpass y hy
        exact Or.inr ⟨a1, nm2, hSF.2.1 args _ a2, a3 s hSF⟩
      · simp [covers]; omega
    obtain ⟨t2, a1, b1⟩ := hvx T' rfl X'
    exact ⟨t2, st1.trans a1, b1⟩
end Thr
