/-! the memory behind the constructors is well -/
def G0 : Mem := GF (fun _ _ => 0)
theorem li_start : LI (GF (fun _ _ => 0)) := by
  show LI G0
  have z7 : ∀ j, G0 7 j = 0 := fun j => rfl
  have z18 : ∀ j, G0 18 j = 0 := fun j => rfl
  have z32 : ∀ j, G0 32 j = 0 := fun j => rfl
  have z27 : ∀ j, G0 27 j = 0 := fun j => rfl
  have z34 : ∀ j, G0 34 j = 0 := fun j => rfl
  have z62 : ∀ j, G0 62 j = 0 := fun j => rfl
  have z67 : ∀ j, G0 67 j = 0 := fun j => rfl
  have z70 : ∀ j, G0 70 j = 0 := fun j => rfl
  have z73 : ∀ j, G0 73 j = 0 := fun j => rfl
  have z74 : ∀ j, G0 74 j = 0 := fun j => rfl
  have o5 : B 0 5 (0 : Int32) := ⟨by decide, by decide⟩
  have o24 : B 0 24 (0 : Int32) := ⟨by decide, by decide⟩
  have e5 : (G0 58 5).toNatClampNeg = 0 := by decide +kernel
  refine ⟨0, G0 3, ⟨by decide, by decide⟩, ⟨by decide +kernel, rfl⟩, by decide +kernel, by decide +kernel, ⟨fun j _ => by rw [z7]; exact o5, fun j _ => by rw [z18]; exact o5, fun j _ => by rw [z32]; exact o5⟩, ⟨fun j _ => by rw [z27]; exact o24, fun j _ => by rw [z34]; exact o24⟩, fun j _ => by rw [z62]; exact o5, ⟨fun j => ⟨fun _ => by rw [z67]; exact o24, fun _ _ => by rw [z67]; exact o5⟩, fun j => ⟨fun _ => by rw [z70]; exact o24, fun _ _ => by rw [z70]; exact o5⟩, fun j => ⟨fun _ => by rw [z73]; exact o24, fun _ _ => by rw [z73]; exact o5⟩, fun j => ⟨fun _ => by rw [z74]; exact o24, fun _ _ => by rw [z74]; exact o5⟩⟩, ?_, 0, by rw [e5]; rfl⟩
  unfold TO
  decide +kernel
