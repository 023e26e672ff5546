/-! the memory behind the constructors -/
def sk_iT : List (Nat → Int32) := [(fun _ => 0), (fun _ => 0), (fun _ => 0), (fun _ => 0), (fun _ => 0), (fun _ => 0), (fun _ => 0), (fun _ => 0), (fun _ => 0), (upd (upd (upd (upd (upd (upd (fun _ => 0) 0 (-1)) 1 (-1)) 2 (-1)) 3 (-1)) 4 (-1)) 5 (-1)), (fun _ => 0), (fun _ => 0), (fun _ => 0), (fun _ => 0), (fun _ => 0), (fun _ => 0), (upd (upd (upd (upd (fun _ => 0) 0 (-1)) 1 (-1)) 2 (-1)) 3 (-1)), (upd (fun _ => 0) 5 (-1)), (fun _ => 0), (fun _ => 0), (fun _ => 0), (fun _ => 0), (fun _ => 0), (fun _ => 0), (fun _ => 0), (fun _ => 0), (fun _ => 0), (fun _ => 0), (fun _ => 0), (fun _ => 0), (fun _ => 0), (fun _ => 0), (fun _ => 0), (fun _ => 0), (fun _ => 0), (fun _ => 0), (fun _ => 0), (fun _ => 0), (fun _ => 0), (fun _ => 0), (fun _ => 0), (fun _ => 0), (fun _ => 0), (fun _ => 0), (fun _ => 0), (fun _ => 0), (fun _ => 0), (upd (fun _ => 0) 2 1), (fun _ => 0), (fun _ => 0), (upd (fun _ => 0) 2 1), (upd (fun _ => 0) 2 1), (upd (fun _ => 0) 2 1), (fun _ => 0), (fun _ => 0), (fun _ => 0), (upd (fun _ => 0) 2 1), (fun _ => 0), (fun _ => 0), (fun _ => 0), (fun _ => 0), (fun _ => 0), (fun _ => 0), (fun _ => 0), (upd (fun _ => 0) 10 1), (fun _ => 0), (upd (upd (upd (upd (upd (upd (fun _ => 0) 0 (-1)) 1 (-1)) 2 (-1)) 3 (-1)) 4 (-1)) 5 (-1)), (fun _ => 0), (fun _ => 0), (upd (upd (upd (upd (fun _ => 0) 0 (-1)) 1 (-1)) 2 (-1)) 3 (-1)), (fun _ => 0), (fun _ => 0), (fun _ => 0), (fun _ => 0), (fun _ => 0), (fun _ => 0), (fun _ => 0), (fun _ => 0), (fun _ => 0), (fun _ => 0), (fun _ => 0), (fun _ => 0), (fun _ => 0), (fun _ => 0), (fun _ => 0)]
def sk_g0 : sp_G := (fun c => sk_iT.getD c (fun _ => 0), fun c j => if c = 0 ∧ j = 14 then 1 else if c = 64 ∧ j = 4 then 1 else 0)
theorem sk_Rel : sp_Rel sk_g0 := by
  refine ⟨⟨rfl, fun f hf => rfl, rfl, rfl, rfl⟩, fun r hr => ?_, fun r hr => ?_, 0, 0, ⟨by omega, rfl, rfl, fun i hi => absurd hi (by omega)⟩, ⟨by omega, rfl, rfl, ⟨1, by omega, rfl, rfl⟩, fun j hj => ?_, fun j hj => absurd hj (by omega), fun i hi => rfl, fun j hj => ?_⟩, fun k hk => ?_⟩
  · rcases (show r = 0 ∨ r = 1 ∨ r = 2 ∨ r = 3 ∨ r = 4 ∨ r = 5 by omega) with rfl | rfl | rfl | rfl | rfl | rfl <;> exact ⟨rfl, Or.inl rfl, fun i hi => rfl⟩
  · rcases (show r = 0 ∨ r = 1 ∨ r = 2 ∨ r = 3 by omega) with rfl | rfl | rfl | rfl <;> exact ⟨rfl, Or.inl rfl, fun i hi => rfl⟩
  · unfold sp_sv
    by_cases h : j < 6
    · rw [if_pos h]; rfl
    · rw [if_neg h]; rfl
  · exact ⟨fun i hi => ⟨0, by omega, rfl⟩, ⟨0, by omega, rfl⟩, fun i h1 h2 => rfl⟩
  · rcases (show k = 0 ∨ k = 1 ∨ k = 2 by omega) with rfl | rfl | rfl <;> exact ⟨rfl, Or.inl rfl⟩
theorem sk_arrV {cA : ClassId} {n : Nat} {f g : Nat → Option Nat} (h : ∀ j, j < n → f j = g j) : vp_cell cA (n, .inr (.inr (.inr (.inr f)))) = vp_cell cA (n, .inr (.inr (.inr (.inr g)))) := by
  rw [vp_cell_q, vp_cell_q]
  unfold arrV
  rw [show (fun j : Fin n => va_rf (f j.val)) = (fun j : Fin n => va_rf (g j.val)) from funext fun j => by rw [h j.val j.isLt]]
