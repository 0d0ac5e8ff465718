/-! a text by ldc_w -/
theorem w_ldcSW {γ : GG} {M : MI} {n pc q : Nat} {ls : List (Option Value)} {st : List Value} {sh : List Sh} {g : Mem} {tt : Bool} {b : Nat × Nat} {Φ : PO} {i j : Nat} {tx : String} (hd : decode M.2.1 pc = .ok (.ldc_w i, 3)) (hq : pc + 3 = q) (hj : j < 39) (hw : strL[j]? = some (M.1.cls, i, tx)) (k : WA γ M n q ls (.ref (1048576 + j) :: st) sh g tt b Φ) : WA γ M n pc ls st sh g tt b Φ := by
  subst hq
  intro p e R s m args below meth c H locs cells slots Ls C hR ht hS hc hs hl T hT X
  have hcr : cr γ (1048576 + j) = gK γ j := by unfold cr; rw [if_neg (by omega), if_pos (by omega), Nat.add_sub_cancel_left]
  have hZ : vk_R M.1.cls i tx (gK γ j) s := C.2.2.2.2.2.2.2.2.2.2.2.2.2.1 j _ hw
  obtain ⟨t, a1, b1⟩ := k p e R s m args below meth c H locs cells slots Ls C hR ht hS hc hs hl T hT X
  refine ⟨t, ?_, b1⟩
  have a2 : Steps p.tables e below (T.setTop (F0 m (pc + 3) Ls (Value.ref (gK γ j) :: st.map (cv γ)))) t := by
    rw [← hcr]; exact a1
  exact X.ldcStringW C.1 (own := M.1.cls) (text := tx) (index := i) (a := gK γ j) C.2.2.2.2.1 hZ.1 hZ.2 (g := F0 m pc Ls (st.map (cv γ))) rfl (by rw [C.2.1]; exact hd) t a2
