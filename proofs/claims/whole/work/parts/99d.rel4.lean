/-! the relation: input and output -/
section RLV
variable {x : PP} {M R M2 R2 : Mem} {L L2 : Int} {q : Nat} {BP : Nat → Nat → Int32} {be nm A0 : Nat → Int32} {B0 : Nat → Nat → Int32} {n : Nat} {bs : Nat → Int32} {u : TT} {o h k : Nat} {T : Nat → Nat → Int32}
theorem i8_fit (a : Int8) : fits .byte (.int a.toInt32) = true := by
  have h1 := Int8.le_toInt a
  have h2 := Int8.toInt_lt a
  have h3 : a.toInt32.toInt = a.toInt := Int8.toInt_toInt32 a
  simp only [fits, i_le, i_lt, h3, Bool.and_eq_true, decide_eq_true_eq]
  constructor
  · show (-128 : Int) ≤ _
    omega
  · show _ ≤ (127 : Int)
    omega
theorem upd_fit {b : Nat → Int32} {i : Nat} {v : Int32} (hb : ∀ i, fits .byte (.int (b i)) = true) (hv : fits .byte (.int v) = true) : ∀ j, fits .byte (.int (upd b i v j)) = true := by
  intro j
  by_cases he : j = i
  · rw [he, upd_at]; exact hv
  · rw [upd_ne he]; exact hb j
theorem pf4_fit {b : Nat → Int32} {i : Nat} {v : Int32} (hb : ∀ i, fits .byte (.int (b i)) = true) : ∀ j, fits .byte (.int (pf4 b i v j)) = true := upd_fit (upd_fit (upd_fit (upd_fit hb (i8_fit _)) (i8_fit _)) (i8_fit _)) (i8_fit _)
theorem ap5_fit {b : Nat → Int32} {i : Nat} {c d f g e : Int32} (hb : ∀ i, fits .byte (.int (b i)) = true) : ∀ j, fits .byte (.int (ap5 b i c d f g e j)) = true := pf4_fit (pf4_fit (pf4_fit (pf4_fit (pf4_fit hb))))
/-- both take the same text -/
theorem RL_text {n2 : Nat} {bs2 : Nat → Int32} (H : RLw x M R L q BP be nm A0 B0 n bs u o h k) (h2 : n2 ≤ 600) (hb : ∀ i, fits .byte (.int (bs2 i)) = true) (r10 : ∀ i, i < n2 → R2 0 10 i = bs2 i) (f10 : R2 0 0 10 = nI n2) (hr : R2 0 1 = R 0 1 ∧ R2 0 3 = R 0 3 ∧ R2 0 4 = R 0 4 ∧ R2 0 25 = R 0 25 ∧ R2 0 0 4 = R 0 0 4 ∧ R2 0 0 5 = R 0 0 5 ∧ R2 0 0 11 = R 0 0 11 ∧ R2 0 0 12 = R 0 0 12 ∧ R2 0 0 25 = R 0 0 25) : RLw x (setm M 1 (vTx B0 n2 bs2 u)) R2 L q BP be nm A0 B0 n2 bs2 u o h k := by
  obtain ⟨r1, r3, r4, r25, f4, f5, f11, f12, f25⟩ := hr
  obtain ⟨a1, a2, a3, a4, a5, a6, a7, a8⟩ := H
  have hq0 := a1.1
  have hj : ∀ {j : Nat}, j ≠ 1 → setm M 1 (vTx B0 n2 bs2 u) j = M j := fun h1 => setm_n h1
  unfold RLw
  rw [hj (j := 0) (by omega), hj (j := 3) (by omega), hj (j := 5) (by omega), hj (j := 6) (by omega), hj (j := q) (by omega), setm_s, r1, r3, r4, r25, f4, f5, f11, f12, f25]
  refine ⟨a1, a2, a3, ⟨rfl, h2, hb, r10, f10, a4.2.2.2.2.2⟩, ⟨a5.1, a5.2.1, a5.2.2.1, a5.2.2.2.1, HR_m a5.2.2.2.2.1 (fun j h7 h15 => hj (by omega)), a5.2.2.2.2.2⟩, ?_, a7, a8⟩
  intro z hz
  rw [hj (by omega)]
  exact a6 z hz
theorem pf4_c {b c : Nat → Int32} {m : Nat} {v : Int32} (h : ∀ i, i < m → b i = c i) : ∀ i, i < m + 4 → pf4 b m v i = pf4 c m v i := by
  intro i hi
  unfold pf4
  by_cases h3 : i = m + 3
  · rw [h3, upd_at, upd_at]
  · rw [upd_ne h3, upd_ne h3]
    by_cases h2 : i = m + 2
    · rw [h2, upd_at, upd_at]
    · rw [upd_ne h2, upd_ne h2]
      by_cases h1 : i = m + 1
      · rw [h1, upd_at, upd_at]
      · rw [upd_ne h1, upd_ne h1]
        by_cases h0 : i = m
        · rw [h0, upd_at, upd_at]
        · rw [upd_ne h0, upd_ne h0]; exact h i (by omega)
theorem ap5_c {b c : Nat → Int32} {m : Nat} {v1 v2 v3 v4 v5 : Int32} (h : ∀ i, i < m → b i = c i) : ∀ i, i < m + 20 → ap5 b m v1 v2 v3 v4 v5 i = ap5 c m v1 v2 v3 v4 v5 i := pf4_c (pf4_c (pf4_c (pf4_c (pf4_c h))))
theorem RL_append {a b d f g : Int32} (H : RLw x M R L q BP be nm A0 B0 n bs u o h k) (hn : n + 20 ≤ 600) : RLw x (setm M 1 (vTx B0 (n + 20) (ap5 bs n a b d f g) u)) (gM 10 10 (mt R 0) (ap5 (R 0 10) n a b d f g) (nI (n + 20))) L q BP be nm A0 B0 (n + 20) (ap5 bs n a b d f g) u o h k :=
  RL_text H hn (ap5_fit H.2.2.2.1.2.2.1) (ap5_c H.2.2.2.1.2.2.2.1) rfl ⟨rfl, rfl, rfl, rfl, rfl, rfl, rfl, rfl, rfl⟩
theorem RL_trunc {j : Nat} (H : RLw x M R L q BP be nm A0 B0 n bs u o h k) (hj : j ≤ n) : RLw x (leM M (nI j)) (setm (mt R 0) 0 (sett (mt R 0 0) 0 (upd (mt R 0 0 0) 10 (nI j)))) L q BP be nm A0 B0 j bs u o h k := by
  have e : leM M (nI j) = setm M 1 (vTx B0 j bs u) := by
    unfold leM
    rw [H.2.2.2.1.1]
    unfold vTx
    rw [pfT_1]
  rw [e]
  have hn := H.2.2.2.1.2.1
  exact RL_text H (by omega) H.2.2.2.1.2.2.1 (fun i hi => H.2.2.2.1.2.2.2.1 i (Nat.lt_of_lt_of_le hi hj)) rfl ⟨rfl, rfl, rfl, rfl, rfl, rfl, rfl, rfl, rfl⟩
/-- rows' signs where the rows before differ -/
theorem woF_eq {w lv : Nat → Int32} {b : Nat} {o1 o2 : Nat → Int32} : ∀ i, (woF w lv b o1 i).2 = (woF w lv b o2 i).2 ∧ ∀ z, z < (woF w lv b o1 i).2 → (woF w lv b o1 i).1 z = (woF w lv b o2 i).1 z
  | 0 => ⟨rfl, fun z hz => absurd hz (Nat.not_lt_zero z)⟩
  | i + 1 => by
    obtain ⟨e, f⟩ := woF_eq (w := w) (lv := lv) (b := b) (o1 := o1) (o2 := o2) i
    by_cases h0 : lv (b + i) ≤ 0
    · rw [woF_1 h0, woF_1 h0]
      refine ⟨by show _ + 1 = _ + 1; rw [e], ?_⟩
      intro z hz
      have hz2 : z < (woF w lv b o1 i).2 + 1 := hz
      show upd (woF w lv b o1 i).1 (woF w lv b o1 i).2 _ z = upd (woF w lv b o2 i).1 (woF w lv b o2 i).2 _ z
      rw [← e]
      by_cases he : z = (woF w lv b o1 i).2
      · rw [he, upd_at, upd_at]
      · rw [upd_ne he, upd_ne he]; exact f z (by omega)
    · rw [woF_2 h0, woF_2 h0]
      refine ⟨by show _ + 1 + 1 = _ + 1 + 1; rw [e], ?_⟩
      intro z hz
      have hz2 : z < (woF w lv b o1 i).2 + 1 + 1 := hz
      show upd (upd (woF w lv b o1 i).1 (woF w lv b o1 i).2 _) ((woF w lv b o1 i).2 + 1) _ z = upd (upd (woF w lv b o2 i).1 (woF w lv b o2 i).2 _) ((woF w lv b o2 i).2 + 1) _ z
      rw [← e]
      by_cases h1 : z = (woF w lv b o1 i).2 + 1
      · rw [h1, upd_at, upd_at]
      · rw [upd_ne h1, upd_ne h1]
        by_cases he : z = (woF w lv b o1 i).2
        · rw [he, upd_at, upd_at]
        · rw [upd_ne he, upd_ne he]; exact f z (by omega)
theorem RL_write {r : Nat} (H : RLw x M R L q BP be nm A0 B0 n bs u o h k) : RLw x (ouM M (woF (M 3 1) (M 3 2) (r * x.1.2.1) (M 0 9) x.1.2.1).1 (nI (woF (M 3 1) (M 3 2) (r * x.1.2.1) (M 0 9) x.1.2.1).2)) (gM 25 25 (mt R 0) (woF (M 3 1) (M 3 2) (r * x.1.2.1) (R 0 25) x.1.2.1).1 (nI (woF (M 3 1) (M 3 2) (r * x.1.2.1) (R 0 25) x.1.2.1).2)) L q BP be nm A0 B0 n bs u o h (woF (M 3 1) (M 3 2) (r * x.1.2.1) (M 0 9) x.1.2.1).2 := by
  obtain ⟨a1, a2, a3, a4, a5, a6, a7, a8⟩ := H
  have hq0 := a1.1
  have hc8 : x.1.2.1 ≤ 8 := a2.1.2.1
  have hle := woF_le (w := M 3 1) (lv := M 3 2) (b := r * x.1.2.1) (o := M 0 9) x.1.2.1
  obtain ⟨e, f⟩ := woF_eq (w := M 3 1) (lv := M 3 2) (b := r * x.1.2.1) (o1 := M 0 9) (o2 := R 0 25) x.1.2.1
  obtain ⟨w1, hw1⟩ : ∃ z, z = woF (M 3 1) (M 3 2) (r * x.1.2.1) (M 0 9) x.1.2.1 := ⟨_, rfl⟩
  obtain ⟨w2, hw2⟩ : ∃ z, z = woF (M 3 1) (M 3 2) (r * x.1.2.1) (R 0 25) x.1.2.1 := ⟨_, rfl⟩
  rw [← hw1] at e f hle ⊢
  rw [← hw2] at e f ⊢
  have hj : ∀ {j : Nat}, j ≠ 0 → ouM M w1.1 (nI w1.2) j = M j := fun h1 => setm_n h1
  unfold RLw
  rw [hj (j := 1) (by omega), hj (j := 3) (by omega), hj (j := 5) (by omega), hj (j := 6) (by omega), hj (j := q) (by omega)]
  refine ⟨a1, a2, a3, a4, ⟨a5.1, a5.2.1, a5.2.2.1, a5.2.2.2.1, HR_m a5.2.2.2.2.1 (fun j h7 h15 => hj (by omega)), a5.2.2.2.2.2⟩, ?_, a7, ⟨by omega, rfl, by rw [e]; rfl, f⟩⟩
  intro z hz
  rw [hj (by omega)]
  exact a6 z hz
theorem RL_byte (H : RLw x M R L q BP be nm A0 B0 n bs u o h k) (a : Int32) : obI M a = if a < 0 then -1 else if nI k ≤ a then -1 else R 0 25 a.toNatClampNeg := by
  obtain ⟨k16, k1, k2, f⟩ := H.2.2.2.2.2.2.2
  unfold obI
  rw [k1]
  by_cases h1 : a < 0
  · rw [if_pos h1, if_pos h1]
  · rw [if_neg h1, if_neg h1]
    by_cases h2 : nI k ≤ a
    · rw [if_pos h2, if_pos h2]
    · rw [if_neg h2, if_neg h2]
      obtain ⟨j, hj, rfl⟩ := rg_ex (k := 16) (by decide) (nlt_le h1) (Int32.le_trans (Int32.le_of_lt (nle_lt h2)) ((nlt (a := k) (b := 16) (by omega) (by decide)).2.1.mpr k16))
      rw [nI_clamp (by omega)]
      refine f j ?_
      have h3 := nle_lt h2
      exact (nlt (a := j) (b := k) (by omega) (by omega)).1.mp h3
end RLV
