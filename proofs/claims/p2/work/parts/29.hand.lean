/-! calls of a static method that catches; more room than is needed; 'tight' forgotten; the script's cells -/
section Hand
variable {γ : GG} {M : MI} {n pc q : Nat} {ls : List (Option Value)} {st : List Value} {sh : List Sh} {g : Mem} {tt : Bool} {b : Nat × Nat} {Φ : PO}
theorem run_H {p : Program} {e : Env} {R : Room} {s : State} {m : MethodId} {args : Array Value} {below : List Frame} {meth : Method} {c : Code} {H : Heap} {locs : List Loc} {cells slots : Nat} {Ls : Array Slot} {M' : MI} {n' np idx : Nat} {b1 : Nat × Nat} {As S : List Value} {Φ1 : PO}
    (C : CX γ M n p e R s m args below meth c) (hR : Rel γ sh g H) (ht9 : TN γ tt sh s cells) (hS : va_S (gA γ) s.heap H locs) (hl : LH γ Ls M.2.2.1 ls) (hc9 : cells + b1.1 ≤ R.cells) (hs9 : slots + b1.2 ≤ R.slots) (hz : H.size ≤ s.heap.size + cells)
    (hd : decode M.2.1 pc = .ok (.invokestatic idx, 3)) (hM : MWh M' np) (hn : n' + 1 ≤ n) (hml : M'.2.2.1 ≤ 180) (hw : Cond.methodLink M.1.cls idx M'.1 ∈ lwg) (hS9 : S = As.reverse ++ st) (hlen : As.length = np) (hcat : (st.map fun v => v.category).sum ≤ 8)
    (hC : CA γ M' n' As sh g tt b1 Φ1) :
    vx_Run p (gl γ) e R s m args below meth c H locs cells slots b1.1 b1.2 (F0 m pc Ls (S.map (cv γ))) (st.map (cv γ)) (QR γ Φ1 (As.map (cv γ)).toArray) (QX γ Φ1) (gA γ) := by
  obtain ⟨hx, hb, hrt, hmx, hown, hlocks, -, htab, hf, hlo, hSF⟩ := id C
  have hT2 : TT γ tt sh H := TT.of hR ht9 hz
  have e1 : MWc M' = Cond.codeWith M'.1 M'.2.1 M'.2.2.1 M'.2.2.2.1 M'.2.2.2.2 := if_neg hM.2.1
  have hcw : Cond.codeWith M'.1 M'.2.1 M'.2.2.1 M'.2.2.2.1 M'.2.2.2.2 ∈ lwg := by rw [← e1]; exact hM.1.1
  have hB : vx_CSW R s args M.1.cls idx M'.1 M'.2.1 M'.2.2.1 M'.2.2.2.1 M'.2.2.2.2 [MWc M'] { frames := frN n', cells := b1.1, slots := b1.2, locals := loN n' } b1.1 b1.2 np := by
    refine ⟨⟨rfl, rfl, ?_, ?_, ?_, ?_⟩, hSF.2.1 args _ hcw, hSF.2.1 args _ hM.1.2.1, ⟨hM.1.2.2.2.1, hM.1.2.2.2.2.1⟩, ?_, hSF.2.1 args _ hw, hSF.2.1 args _ hM.2.2⟩
    · simp only [frN] at *; omega
    · simp only [loN] at *; omega
    · intro w hw9 a' U hW
      rw [List.mem_singleton.mp hw9]
      exact gw_at (args := args) hW (List.mem_filter.mp hM.1.1).2 (hSF.2.1 args _ hM.1.1)
    · rw [e1]; exact List.mem_cons_self
    · intro sig h
      have h2 := hM.1.2.2.2.2.2
      rw [h] at h2
      exact (Option.some.inj h2).symm
  refine vx_runSX (As := As.map (cv γ)) (rest := st.map (cv γ)) (nL := M.2.2.1) (Ts := lwg) ⟨hx, hb, hmx, hown, hSF.2.1 args⟩ (hC _ rfl rfl (Nat.le_refl _) (Nat.le_refl _)) hB ⟨PcA.blind, ?_⟩ rfl (by rw [List.length_map]; exact hlen) hl.1 ?_ ?_ hd ⟨hc9, hs9⟩
  · exact call_P (av := As) (cells := cells) hSF hR hT2 hS
  · show S.map (cv γ) = _
    rw [hS9, List.map_append, List.map_reverse]
  · show 2 * 0 + ((st.map (cv γ)).map fun v => v.category).sum ≤ 8
    rw [cats, Nat.mul_zero, Nat.zero_add]
    exact hcat
theorem w_callHi {M' : MI} {n' np idx : Nat} {As S : List Value} {g1 : Mem} {sh' : List Sh} {b1 b2 : Nat × Nat} {r : Int32} (hd : decode M.2.1 pc = .ok (.invokestatic idx, 3)) (hq : pc + 3 = q) (hM : MWh M' np) (hn : n' + 1 ≤ n) (hml : M'.2.2.1 ≤ 180) (hw : Cond.methodLink M.1.cls idx M'.1 ∈ lwg) (hS9 : S = As.reverse ++ st) (hlen : As.length = np) (hcat : (st.map fun v => v.category).sum ≤ 8) (hb : b = (b1.1 + b2.1, b1.2 + b2.2)) (hlen9 : tt = true → sh'.length = sh.length + b1.1) (hC : CA γ M' n' As sh g tt b1 (pI sh' r g1 tt)) (kk : WA γ M n q ls (.int r :: st) sh' g1 tt b2 Φ) : WA γ M n pc ls S sh g tt b Φ := by
  intro p e R s m args below meth c H locs cells slots Ls C hR ht9 hS hc9 hs9 hl T hT X
  have hbc : cells + b1.1 ≤ R.cells := by rw [hb] at hc9; simp only [] at hc9; omega
  have hbs : slots + b1.2 ≤ R.slots := by rw [hb] at hs9; simp only [] at hs9; omega
  exact (run_ret (b1 := b1) (b2 := b2) (v := some (.int r)) (sh' := sh') (g' := g1) (tt' := tt) (run_H (M' := M') (n' := n') C hR ht9 hS hl hbc hbs (by rw [← hT]; exact X.heapSize) hd hM hn hml hw hS9 hlen hcat hC) C hS ht9 hc9 hs9 hl hb hq (fun _ _ _ _ h => h) (fun h => ⟨h, hlen9 h⟩) kk) T hT X
theorem w_wide {b2 : Nat × Nat} (h1 : b.1 ≤ b2.1) (h2 : b.2 ≤ b2.2) (k : WA γ M n pc ls st sh g false b Φ) : WA γ M n pc ls st sh g false b2 Φ := by
  intro p e R s m args below meth c H locs cells slots Ls C hR ht9 hS hc9 hs9 hl
  have e1 : cells + (b2.1 - b.1) + b.1 = cells + b2.1 := by omega
  have e2 : slots + (b2.2 - b.2) + b.2 = slots + b2.2 := by omega
  have := k p e R s m args below meth c H locs (cells + (b2.1 - b.1)) (slots + (b2.2 - b.2)) Ls C hR (fun h => absurd h (by decide)) hS (by omega) (by omega) hl
  rw [e1, e2] at this
  exact W.widen (Nat.le_add_right _ _) (Nat.le_add_right _ _) this
theorem w_loose (k : WA γ M n pc ls st sh g false b Φ) : WA γ M n pc ls st sh g tt b Φ := by
  intro p e R s m args below meth c H locs cells slots Ls C hR ht9 hS hc9 hs9 hl
  exact k p e R s m args below meth c H locs cells slots Ls C hR (fun h => absurd h (by decide)) hS hc9 hs9 hl
end Hand
def rx (L : Nat) (xs : Nat → Int32) (i : Int32) : Option Int32 := if inb i L = true then some (xs i.toNatClampNeg) else none
theorem rx_ok {L : Nat} {xs : Nat → Int32} {i v : Int32} (h : rx L xs i = some v) : inb i L = true ∧ xs i.toNatClampNeg = v := by
  unfold rx at h
  split at h
  · rename_i h1; exact ⟨h1, Option.some.inj h⟩
  · cases h
