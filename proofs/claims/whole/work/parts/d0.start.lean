/-! the start: class and reference as their constructors leave them -/
set_option maxRecDepth 1000000 in
theorem fs_1 : fsR.1.1 = 1 ∧ fsR.1.2.2.2.2.2.1 = 0 ∧ fsR.1.2.2.2.2.2.2 = -1 ∧ fsR.2.1 = (3, 3, 9) ∧ fsR.2.2.2.2.2.1 = 2 := by decide +kernel
set_option maxRecDepth 1000000 in
theorem fs_2 : (fsR.2.2.2.2.2.2.1 0 = 3 ∧ fsR.2.2.2.2.2.2.1 1 = 3) ∧ fsR.2.2.2.2.2.2.2.1 0 = 0 ∧ fsR.2.2.2.2.2.2.2.1 1 = 4 := by decide +kernel
theorem fs_pi : PIv fsR.2 := by
  obtain ⟨-, -, -, h1, h2⟩ := fs_1
  obtain ⟨⟨l0, l1⟩, p0, p1⟩ := fs_2
  unfold PIv
  rw [h1, h2]
  refine ⟨by decide, by decide, rfl, Or.inr (by decide), by decide, fun i hi => ?_, fun i hi => ?_⟩
  · rcases (show i = 0 ∨ i = 1 by omega) with rfl | rfl
    · rw [l0]; decide
    · rw [l1]; decide
  · rcases (show i = 0 ∨ i = 1 by omega) with rfl | rfl
    · exact ⟨0, by decide, p0⟩
    · exact ⟨4, by decide, p1⟩
set_option maxRecDepth 1000000 in
theorem fs_en : ∀ q, q < 443 → mdlM 0 1 q = enc (mdlM 0 1) fsR.2 (stT fsR.2 z2) q := by decide +kernel
theorem RL_start : RLe ctyM mdlM 0 := by
  have hx := fs_pi
  obtain ⟨f1, f2, f3, f4, f5⟩ := fs_1
  have hwz : WTi z2 := fun i hi => rfl
  refine ⟨fsR.2, 17, z2, rFb fsR z1, z1, mdlM 0 1, zT0 0, 0, fsB, fsR.1.2, 0, 0, 0, ?_⟩
  refine ⟨⟨Or.inl rfl, rfl, rfl, rfl⟩, ⟨hx, ?_, rFb_be (by rw [f1]; decide) hx⟩, ⟨gd_st hx rFr_fr (Int.le_refl 0), ?_⟩, ⟨rfl, by decide, fsB_fit, fun i hi => absurd hi (Nat.not_lt_zero i), rfl, f2.symm, f3.symm⟩, ⟨rfl, rfl, by decide, by decide, HR_0, rfl⟩, ?_, ⟨rfl, hwz, fun h => absurd rfl h⟩, ⟨by decide, rfl, rfl, fun i hi => absurd hi (Nat.not_lt_zero i)⟩⟩
  · unfold PVi; rw [f4]; decide
  · funext q
    by_cases hq : q < 443
    · exact fs_en q hq
    · exact (enc_big hx (by omega)).symm
  · intro z hz
    rcases (show z = 0 ∨ z = 1 ∨ z = 2 ∨ z = 3 ∨ z = 4 ∨ z = 5 ∨ z = 6 ∨ z = 7 by omega) with rfl | rfl | rfl | rfl | rfl | rfl | rfl | rfl <;> exact hwz
