def cmb (ks : List Nat) (lk : Nat → Nat → Nat) (ks' : List Nat) (lk' : Nat → Nat → Nat) (μ : List Nat) : Bool :=
  decide (μ.length ≤ 90) && (List.range ks'.length).all (fun j => decide (mu μ j < ks.length) && (ks'.getD j 0 == ks.getD (mu μ j) 0) && (List.range ks'.length).all (fun i => !(mu μ i == mu μ j) || (i == j)) && (!(ks'.getD j 0 == 7) || (List.range 8).all (fun i => mu μ (lk' j i) == lk (mu μ j) i)) && !(ks'.getD j 0 == 8))
theorem cm_of {ks : List Nat} {lk : Nat → Nat → Nat} {ks' : List Nat} {lk' : Nat → Nat → Nat} {μ : List Nat} (h : cmb ks lk ks' lk' μ = true) : CM ks lk ks' lk' μ := by
  unfold cmb at h
  rw [Bool.and_eq_true, decide_eq_true_eq, List.all_eq_true] at h
  obtain ⟨h1, h2⟩ := h
  have h3 : ∀ j, j < ks'.length → _ := fun j hj => h2 j (List.mem_range.mpr hj)
  simp only [Bool.and_eq_true, decide_eq_true_eq, beq_iff_eq, List.all_eq_true, List.mem_range, Bool.or_eq_true, Bool.not_eq_true', beq_eq_false_iff_ne, ne_eq] at h3
  refine ⟨h1, fun j hj => ⟨(h3 j hj).1.1.1.1, (h3 j hj).1.1.1.2⟩, fun i j hi hj he => ?_, fun j hj h7 i hi => ?_, fun j hj h8 => absurd h8 (h3 j hj).2⟩
  · exact ((h3 j hj).1.1.2 i hi).resolve_left (fun q => q he)
  · exact ((h3 j hj).1.2).resolve_left (fun q => q h7) i hi
theorem cm_id {ks : List Nat} {lk : Nat → Nat → Nat} : CM ks lk ks lk [] := by
  have hm : ∀ j, mu [] j = j := fun j => rfl
  exact ⟨by simp, fun j hj => ⟨hj, rfl⟩, fun i j _ _ h => h, fun j _ _ i _ => rfl, fun j _ _ => ⟨rfl, rfl⟩⟩
