theorem tnC_rg {b : Nat → Int32} {n p : Nat} {va lo hi : Int32} (h : tnC b n p va lo hi = 0) : lo ≤ tV b n p va ∧ tV b n p va ≤ hi := by
  unfold tnC at h
  by_cases h1 : tK b n p = 2
  · rw [if_pos h1] at h
    by_cases h2 : tV b n p va < lo
    · rw [if_pos h2] at h; exact absurd h (by decide)
    · rw [if_neg h2] at h
      by_cases h3 : hi < tV b n p va
      · rw [if_pos h3] at h; exact absurd h (by decide)
      · exact ⟨Int32.not_lt.mp h2, Int32.not_lt.mp h3⟩
  · rw [if_neg h1] at h; exact absurd h (by decide)
theorem upd_at {f : Nat → Int32} {i : Nat} {v : Int32} : upd f i v i = v := if_pos rfl
theorem upd_ne {f : Nat → Int32} {i j : Nat} {v : Int32} (h : j ≠ i) : upd f i v j = f j := if_neg h
