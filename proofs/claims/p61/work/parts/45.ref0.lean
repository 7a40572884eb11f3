/-! the reference: one module, its numbers in the array of tag 1 -/
def md (M : Mem) (A : Nat → Int32) : Mem := setm M 0 (sett (M 0) 1 A)
theorem md_a {M : Mem} {A : Nat → Int32} : md M A 0 1 = A := rfl
theorem md_s {M : Mem} {A f : Nat → Int32} : setm (md M A) 0 (sett (md M A 0) 1 f) = md M f := by
  unfold md
  rw [setm_setm, setm_s, sett_sett]
theorem md_of {M : Mem} {A : Nat → Int32} (h : M 0 1 = A) : md M A = M := by
  funext g
  unfold md setm
  split
  · rename_i h0
    subst h0
    funext t
    unfold sett
    split
    · rename_i h1; rw [h1, h]
    · rfl
  · rfl
theorem md_md {M : Mem} {A B : Nat → Int32} : md (md M A) B = md M B := by
  unfold md
  rw [setm_setm, setm_s, sett_sett]
theorem Mrg_md {N : Nat} {M M1 : Mem} {A B : Nat → Int32} (hN : 0 < N) (h1 : M1 = md (vw [] (md M A)) B) : Mrg N [] (md M A) M1 (md M B) := by
  rw [show md M B = md (md M A) B from md_md.symm]
  exact Mrg_e (i := 0) (fun j _ h => h) hN rfl h1
def iwI (v lo hi : Int64) : Int32 := if lg_cmp v lo < 0 then 0 else if 0 < lg_cmp v hi then 0 else 1
def c6 (c f : Nat) : Nat := 15 + 6 * c + f
theorem i64_lt {a b : Int32} : a.toInt64 < b.toInt64 ↔ a < b := by
  rw [Int64.lt_iff_toInt_lt, Int32.lt_iff_toInt_lt, Int32.toInt_toInt64, Int32.toInt_toInt64]
theorem i64_eq {a b : Int32} : a.toInt64 = b.toInt64 ↔ a = b := by
  rw [← Int64.toInt_inj, ← Int32.toInt_inj, Int32.toInt_toInt64, Int32.toInt_toInt64]
theorem lg_lt {a b : Int32} : lg_cmp a.toInt64 b.toInt64 < 0 ↔ a < b := by
  unfold lg_cmp
  by_cases h1 : a.toInt64 > b.toInt64
  · rw [if_pos h1]
    have h2 : b < a := i64_lt.mp h1
    exact ⟨fun h => absurd h (by decide), fun h => absurd h (Int32.not_lt.mpr (Int32.le_of_lt h2))⟩
  · rw [if_neg h1]
    by_cases h2 : a.toInt64 = b.toInt64
    · rw [if_pos h2]
      have h3 := i64_eq.mp h2
      subst h3
      exact ⟨fun h => absurd h (by decide), fun h => absurd h (Int32.not_lt.mpr (Int32.le_refl _))⟩
    · rw [if_neg h2]
      refine ⟨fun _ => ?_, fun _ => by decide⟩
      rcases Int32.lt_or_eq_of_le (Int32.not_lt.mp (fun q => h1 (i64_lt.mpr q))) with h | h
      · exact h
      · exact absurd (i64_eq.mpr h) h2
theorem lg_gt {a b : Int32} : 0 < lg_cmp a.toInt64 b.toInt64 ↔ b < a := by
  unfold lg_cmp
  by_cases h1 : a.toInt64 > b.toInt64
  · rw [if_pos h1]
    exact ⟨fun _ => i64_lt.mp h1, fun _ => by decide⟩
  · rw [if_neg h1]
    have h4 : ¬ b < a := fun q => h1 (i64_lt.mpr q)
    by_cases h2 : a.toInt64 = b.toInt64
    · rw [if_pos h2]
      exact ⟨fun h => absurd h (by decide), fun h => absurd h h4⟩
    · rw [if_neg h2]
      exact ⟨fun h => absurd h (by decide), fun h => absurd h h4⟩
theorem iw_1 {v lo hi : Int32} (h1 : lo ≤ v) (h2 : v ≤ hi) : iwI v.toInt64 lo.toInt64 hi.toInt64 = 1 := by
  unfold iwI
  rw [if_neg (fun q => Int32.not_lt.mpr h1 (lg_lt.mp q)), if_neg (fun q => Int32.not_lt.mpr h2 (lg_gt.mp q))]
theorem iw_0 {v lo hi : Int32} (h : ¬ (lo ≤ v ∧ v ≤ hi)) : iwI v.toInt64 lo.toInt64 hi.toInt64 = 0 := by
  unfold iwI
  by_cases h1 : v < lo
  · rw [if_pos (lg_lt.mpr h1)]
  · rw [if_neg (fun q => h1 (lg_lt.mp q)), if_pos]
    exact lg_gt.mpr (Int32.not_le.mp fun q => h ⟨Int32.not_lt.mp h1, q⟩)
theorem iw_b {v lo hi : Int64} : narrow .boolean (.int (iwI v lo hi)) = .int (iwI v lo hi) := by
  unfold iwI
  split
  · rfl
  · split <;> rfl
