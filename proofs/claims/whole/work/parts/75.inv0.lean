/-! ===== at the start both hold the same ===== -/
def T00 : nT := Tup (fun _ _ => 0) 0 14 1
theorem TI00 : TI T00 := by
  refine ⟨by decide, by decide, fun c hc => absurd hc (by simp [T00, Tup]), fun p hp => absurd hp (by simp [T00, Tup]), by decide, by decide, by decide, by decide, fun k hk => by simp [T00, Tup]⟩
theorem TA00 : TA0 61 T00 sig0 := by
  refine ⟨⟨by decide +kernel, by decide +kernel, by decide +kernel, by decide +kernel, by decide +kernel, by decide +kernel, by decide +kernel⟩, fun c hc => absurd hc (by simp [T00, Tup]), fun c hc => absurd hc (by simp [T00, Tup]), fun c hc => absurd hc (by simp [T00, Tup]), ?_⟩
  intro k hk
  rcases (show k = 0 ∨ k = 1 ∨ k = 2 by omega) with rfl | rfl | rfl <;> decide +kernel
theorem inv0_IT : IT 0 (fun _ _ => 0) T00 sig0 := by
  refine ⟨⟨tw61, ⟨TA00, fun c hc => absurd hc (by simp [T00, Tup])⟩, TI00, fun j hj => absurd hj (by simp [T00, Tup]), fun j hj => absurd hj (by simp [T00, Tup]), Nat.le_refl _, by decide⟩, ⟨⟨⟨by decide +kernel, by decide +kernel, by decide +kernel, by decide +kernel, by decide +kernel, by decide +kernel, by decide +kernel⟩, fun c hc => absurd hc (by simp [T00, Tup]), fun c hc => absurd hc (by simp [T00, Tup])⟩, fun j hj => absurd hj (by simp [T00, Tup]), TI00, fun j hj => absurd hj (by simp [T00, Tup]), fun k hk => ⟨by simp [T00, Tup], fun h => absurd (by simp [T00, Tup]) h, fun j _ hj => absurd hj (by simp [T00, Tup])⟩⟩, by decide, by decide, by decide⟩
theorem inv0_IS : IS sig0 := by
  intro s hs
  rcases (show s = 0 ∨ s = 1 ∨ s = 2 ∨ s = 3 by omega) with rfl | rfl | rfl | rfl <;> exact ⟨by decide +kernel, Or.inl (by decide +kernel), ⟨0, by decide, by decide +kernel, by decide +kernel⟩, fun k _ => ⟨rfl, Or.inr ⟨by show (-99999 : Int) ≤ (0 : Int32).toInt; decide, by show (0 : Int32).toInt ≤ (99999 : Int); decide⟩⟩⟩
theorem inv0_IQ : IQ sig0 := by
  intro s hs
  refine ⟨0, by decide, ?_, rfl, fun h => absurd h (by decide), fun h => absurd h (by decide), fun h => absurd h (by decide)⟩
  rcases (show s = 0 ∨ s = 1 ∨ s = 2 ∨ s = 3 ∨ s = 4 by omega) with rfl | rfl | rfl | rfl | rfl <;> rfl
theorem inv0_IK : IK sig0 := by
  refine ⟨fun j hj => ?_, by decide +kernel, by decide +kernel, by decide +kernel, by decide +kernel⟩
  rcases (show j = 0 ∨ j = 1 ∨ j = 2 ∨ j = 3 ∨ j = 4 ∨ j = 5 ∨ j = 6 ∨ j = 7 ∨ j = 8 ∨ j = 9 ∨ j = 10 by omega) with rfl | rfl | rfl | rfl | rfl | rfl | rfl | rfl | rfl | rfl | rfl <;> decide +kernel
theorem inv0 : Inv 0 sig0 :=
  ⟨fun _ _ => 0, T00, fun _ _ => 0, 0, inv0_IT, ⟨rfl, rfl, by decide⟩, fun h => absurd h (by decide), inv0_IS, inv0_IQ, ⟨0, by decide, rfl, rfl, fun j hj => absurd hj (by omega)⟩, ⟨0, by decide, rfl, rfl, fun j hj => absurd hj (by omega)⟩, inv0_IK⟩
