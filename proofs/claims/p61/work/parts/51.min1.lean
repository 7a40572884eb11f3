/-! the reference's minute is the class's -/
theorem upd_upd {f : Nat → Int32} {c : Nat} {u v : Int32} : upd (upd f c u) c v = upd f c v := by
  funext k
  unfold upd
  split <;> rfl
theorem vS_7 {T : Nat → Nat → Int32} {v : Int32} : sc T 0 7 v = (vS T (v) (T 0 8) (T 0 9) (T 0 10) (T 0 11) (T 0 12) (T 0 13) (T 0 14) (T 1) (T 2) (T 3) (T 4) (T 5) (T 6) (T 7)) := by
  have h := pfS_7 (B := T) (a7 := T 0 7) (a8 := T 0 8) (a9 := T 0 9) (a10 := T 0 10) (a11 := T 0 11) (a12 := T 0 12) (a13 := T 0 13) (a14 := T 0 14) (b1 := T 1) (b2 := T 2) (b3 := T 3) (b4 := T 4) (b5 := T 5) (b6 := T 6) (b7 := T 7) (x := v)
  rw [evS T] at h
  exact h
theorem raC_v {B : Nat → Nat → Int32} {a7 a8 a9 a10 a11 a12 a13 a14 : Int32} {b1 b2 b3 b4 b5 b6 b7 : Nat → Int32} {c : Nat} : raC (vS B a7 a8 a9 a10 a11 a12 a13 a14 b1 b2 b3 b4 b5 b6 b7) c = (vS B a7 a8 (a9 + a8) a10 a11 a12 a13 a14 (upd b1 c (b1 c + a8)) b2 b3 b4 b5 b6 b7) := (congrArg (fun W => sc W 0 9 (a9 + a8)) (paS_1 (x := upd b1 c (b1 c + a8)))).trans pfS_9
theorem guB_v {B : Nat → Nat → Int32} {a7 a8 a9 a10 a11 a12 a13 a14 : Int32} {b1 b2 b3 b4 b5 b6 b7 : Nat → Int32} {c : Nat} : guB (vS B a7 a8 a9 a10 a11 a12 a13 a14 b1 b2 b3 b4 b5 b6 b7) c = (vS B a7 a8 a9 (a10 + b3 c) a11 a12 a13 a14 (upd b1 c (b1 c + b3 c)) b2 b3 (upd b4 c (b4 c + -1)) b5 b6 b7) :=
  (congrArg (fun W => sc (sc W 0 10 (a10 + b3 c)) 4 c (b4 c + -1)) (paS_1 (x := upd b1 c (b1 c + b3 c)))).trans ((congrArg (fun W => sc W 4 c (b4 c + -1)) pfS_10).trans paS_4)
theorem r1C_0 {B : Nat → Nat → Int32} {a7 a8 a9 a10 a11 a12 a13 a14 : Int32} {b1 b2 b3 b4 b5 b6 b7 : Nat → Int32} {c : Nat} (h : b4 c = 0) : r1C (vS B a7 a8 a9 a10 a11 a12 a13 a14 b1 b2 b3 b4 b5 b6 b7) c = (vS B a7 a8 (a9 + a8) a10 a11 a12 a13 a14 (upd b1 c (b1 c + a8)) b2 b3 b4 b5 b6 b7) := by
  unfold r1C
  rw [raC_v]
  exact if_pos h
theorem r1C_1 {B : Nat → Nat → Int32} {a7 a8 a9 a10 a11 a12 a13 a14 : Int32} {b1 b2 b3 b4 b5 b6 b7 : Nat → Int32} {c : Nat} (h : ¬ b4 c = 0) : r1C (vS B a7 a8 a9 a10 a11 a12 a13 a14 b1 b2 b3 b4 b5 b6 b7) c = (vS B a7 a8 (a9 + a8) (a10 + b3 c) a11 a12 a13 a14 (upd b1 c (b1 c + a8 + b3 c)) b2 (if b4 c + -1 = 0 then upd b3 c 0 else b3) (upd b4 c (b4 c + -1)) b5 b6 b7) := by
  unfold r1C
  rw [raC_v]
  refine (if_neg h).trans ?_
  rw [guB_v, upd_at, upd_upd]
  by_cases h2 : b4 c + -1 = 0
  · rw [if_pos h2]
    exact (if_pos h2).trans paS_3
  · rw [if_neg h2]
    exact if_neg h2
theorem i32_m1 (a : Int32) : a + -1 = a - 1 := (Int32.sub_eq_add_neg a 1).symm
theorem q1_eq {x : PP} {T : Nat → Nat → Int32} (ht : ∀ c, c < x.1.2.2 → 0 ≤ T 4 c) : ∀ i, i ≤ x.1.2.2 → q1 x T i = (vS T (T 0 7 + 1) (T 0 8) (T 0 9 + T 0 8 * nI i) (T 0 10 + sm (oF (T 4) (T 3)) i) (T 0 11) (T 0 12) (T 0 13) (T 0 14) (fil (oW (T 4) (T 3) (fun k => T 1 k + T 0 8)) (T 1) i) (T 2) (fil (oR (T 4) (T 3)) (T 3) i) (fil (oT (T 4)) (T 4) i) (T 5) (T 6) (T 7))
  | 0, _ => by
    rw [fil_0, fil_0, fil_0, sm_0, show T 0 8 * nI 0 = 0 from Int32.mul_zero, Int32.add_zero]
    exact vS_7
  | i + 1, h => by
    show r1C (q1 x T i) i = _
    rw [q1_eq ht i (by omega)]
    have h9 : T 0 9 + T 0 8 * nI i + T 0 8 = T 0 9 + T 0 8 * nI (i + 1) := by rw [← nI_1 i, Int32.mul_add, Int32.mul_one, Int32.add_assoc]
    have hi := ht i (by omega)
    by_cases h0 : T 4 i = 0
    · rw [r1C_0 (by rw [fil_at]; exact h0), fil_at, h9, fil_upd (show T 1 i + T 0 8 = (oW (T 4) (T 3) (fun k => T 1 k + T 0 8)) i from (if_pos (by rw [h0]; decide)).symm), fil_same (g := oR (T 4) (T 3)) (if_pos (by rw [h0]; decide)), fil_same (g := oT (T 4)) (if_pos (by rw [h0]; decide)), sm_same _ (if_pos (by rw [h0]; decide))]
    · have hp : ¬ T 4 i ≤ 0 := fun q => h0 (Int32.le_antisymm q hi)
      rw [r1C_1 (by rw [fil_at]; exact h0)]
      simp only [fil_at]
      rw [h9, i32_m1, fil_upd (show T 1 i + T 0 8 + T 3 i = (oW (T 4) (T 3) (fun k => T 1 k + T 0 8)) i from (if_neg hp).symm), fil_upd (show T 4 i - 1 = oT (T 4) i from (if_neg hp).symm), ← sm_next _ (show T 3 i = oF (T 4) (T 3) i from (if_neg hp).symm)]
      by_cases h2 : T 4 i - 1 = 0
      · rw [if_pos h2, fil_upd (show 0 = oR (T 4) (T 3) i from ((if_neg hp).trans (if_pos h2)).symm)]
      · rw [if_neg h2, fil_same (g := oR (T 4) (T 3)) ((if_neg hp).trans (if_neg h2))]
theorem w2_eq {n : Nat} {T : Nat → Nat → Int32} : fil (oW (T 4) (T 3) (fun k => T 1 k + T 0 8)) (T 1) n = mw2 n T := by
  funext k
  unfold mw2 fil oW mw1
  by_cases h : k < n
  · simp only [if_pos h]
    unfold fil
    rw [if_pos h]
  · simp only [if_neg h]
    unfold fil
    rw [if_neg h]
