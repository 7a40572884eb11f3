theorem nI_dv {a b : Nat} (ha : a < 2 ^ 31) (hb0 : 0 < b) (hb : b < 2 ^ 31) : nI a / nI b = nI (a / b) := by
  have hq : a / b ≤ a := Nat.div_le_self a b
  apply Int32.toInt_inj.mp
  rw [Int32.toInt_div_of_ne_left _ _ (fun h => by
    have h2 := nI_toInt ha
    rw [h] at h2
    have h3 : Int32.minValue.toInt = -2147483648 := by decide
    omega), nI_toInt ha, nI_toInt hb, nI_toInt (by omega), Int.tdiv_eq_ediv_of_nonneg (by omega)]
  rfl
theorem nI_md {a b : Nat} (ha : a < 2 ^ 31) (hb0 : 0 < b) (hb : b < 2 ^ 31) : nI a - nI a / nI b * nI b = nI (a % b) := by
  have h := Nat.div_add_mod a b
  have h2 : a / b * b = b * (a / b) := Nat.mul_comm _ _
  rw [nI_dv ha hb0 hb, pk_mul, nI_sb (by omega)]
  congr 1
  omega
theorem wI {a u : Nat} (hu : 0 < u) (hu2 : u < 2 ^ 20) (ha : a < 2 ^ 20) : iwI (nI a).toInt64 0 (nI u - 1).toInt64 = if a < u then 1 else 0 := by
  rw [show nI u - 1 = nI (u - 1) from nI_sb (b := 1) hu, show (0 : Int64) = (0 : Int32).toInt64 from rfl]
  by_cases h : a < u
  · rw [if_pos h]
    exact iw_1 (Int32.not_lt.mp (nI_pos (by omega))) ((nI_leI (by omega) (by omega)).mpr (by omega))
  · rw [if_neg h]
    exact iw_0 (fun q => h (by have := (nI_leI (a := a) (b := u - 1) (by omega) (by omega)).mp q.2; omega))
theorem wI_m {u : Nat} : iwI (nI 0 - 1).toInt64 0 (nI u - 1).toInt64 = 0 := by
  rw [show (0 : Int64) = (0 : Int32).toInt64 from rfl]
  exact iw_0 (fun q => absurd q.1 (by decide))
theorem rc_of {u v c : Nat} (hc : c < u * v) : ∃ r k, r < u ∧ k < v ∧ c = r * v + k := by
  have hv : 0 < v := Nat.pos_of_ne_zero fun q => by subst q; simp at hc
  refine ⟨c / v, c % v, Nat.div_lt_of_lt_mul (by rw [Nat.mul_comm]; exact hc), Nat.mod_lt c hv, ?_⟩
  have := Nat.div_add_mod c v
  rw [Nat.mul_comm] at this
  exact this.symm
