/-! the memory behind the constructors is well -/
theorem li_of {g : Mem} (h01 : g 0 1 = 0) (h54 : g 54 12 = 0) (hc : ∀ c ∈ cons, B c.2.2.1 c.2.2.2 (g c.1 c.2.1)) (z7 : ∀ j, g 7 j = 0) (z18 : ∀ j, g 18 j = 0) (z32 : ∀ j, g 32 j = 0) (z27 : ∀ j, g 27 j = 0) (z34 : ∀ j, g 34 j = 0) (z62 : ∀ j, g 62 j = 0) (z67 : ∀ j, g 67 j = 0) (z70 : ∀ j, g 70 j = 0) (z73 : ∀ j, g 73 j = 0) (z74 : ∀ j, g 74 j = 0) (ht : TO (g 58)) (e5 : (g 58 5).toNatClampNeg = 0) : LI g := by
  have o5 : B 0 5 (0 : Int32) := ⟨by decide, by decide⟩
  have o24 : B 0 24 (0 : Int32) := ⟨by decide, by decide⟩
  exact ⟨0, g 3, ⟨by decide, by decide⟩, ⟨h01, rfl⟩, h54, hc, ⟨fun j _ => by rw [z7]; exact o5, fun j _ => by rw [z18]; exact o5, fun j _ => by rw [z32]; exact o5⟩, ⟨fun j _ => by rw [z27]; exact o24, fun j _ => by rw [z34]; exact o24⟩, fun j _ => by rw [z62]; exact o5, ⟨fun j => ⟨fun _ => by rw [z67]; exact o24, fun _ _ => by rw [z67]; exact o5⟩, fun j => ⟨fun _ => by rw [z70]; exact o24, fun _ _ => by rw [z70]; exact o5⟩, fun j => ⟨fun _ => by rw [z73]; exact o24, fun _ _ => by rw [z73]; exact o5⟩, fun j => ⟨fun _ => by rw [z74]; exact o24, fun _ _ => by rw [z74]; exact o5⟩⟩, ht, 0, by rw [e5]; rfl⟩
def G0 : Mem := GF (fun _ _ => 0)
set_option maxRecDepth 100000 in
theorem g0_z : (∀ j, G0 7 j = 0) ∧ (∀ j, G0 18 j = 0) ∧ (∀ j, G0 32 j = 0) ∧ (∀ j, G0 27 j = 0) ∧ (∀ j, G0 34 j = 0) ∧ (∀ j, G0 62 j = 0) ∧ (∀ j, G0 67 j = 0) ∧ (∀ j, G0 70 j = 0) ∧ (∀ j, G0 73 j = 0) ∧ (∀ j, G0 74 j = 0) := ⟨fun _ => rfl, fun _ => rfl, fun _ => rfl, fun _ => rfl, fun _ => rfl, fun _ => rfl, fun _ => rfl, fun _ => rfl, fun _ => rfl, fun _ => rfl⟩
theorem g0_t : B 0 6 (G0 58 0) ∧ B 1 9 (G0 58 3) ∧ B 0 24 (G0 58 4) ∧ B 0 700 (G0 58 5) ∧ B 0 6 (G0 58 6) ∧ B 0 24 (G0 58 10) ∧ B 0 700 (G0 58 11) := by decide +kernel
theorem g0_c : ∀ c ∈ cons, B c.2.2.1 c.2.2.2 (G0 c.1 c.2.1) := by decide +kernel
theorem g0_5 : (G0 58 5).toNatClampNeg = 0 := by decide +kernel
theorem g0_a : G0 0 1 = 0 := by decide +kernel
theorem g0_b : G0 54 12 = 0 := by decide +kernel
theorem li_start : LI (GF (fun _ _ => 0)) := by
  obtain ⟨h1, h2, h3, h4, h5, h6, h7, h8, h9, h10⟩ := g0_z
  exact li_of (g := G0) g0_a g0_b g0_c h1 h2 h3 h4 h5 h6 h7 h8 h9 h10 g0_t g0_5
