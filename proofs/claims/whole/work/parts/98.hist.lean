/-! class and reference: histories -/
/-- what holds of every state that is kept -/
def gd (x : PP) (T : Nat → Nat → Int32) (L : Int) : Prop := ZI x T L ∧ PLi x T ∧ WTi T
theorem ZI_le {x : PP} {T : Nat → Nat → Int32} {L L2 : Int} (h : ZI x T L) (hl : L ≤ L2) : ZI x T L2 := ⟨h.1, h.2.1, NN_mono h.2.2 hl⟩
theorem gd_le {x : PP} {T : Nat → Nat → Int32} {L L2 : Int} (h : gd x T L) (hl : L ≤ L2) : gd x T L2 := ⟨ZI_le h.1 hl, h.2⟩
/-- the history's states stand in the reference's rows -/
def HR (x : PP) (M : Mem) (P : Nat → Int32) (o h : Nat) (L : Int) : Prop := ∀ j, j < h → gd x (M (7 + (o + j) % 8)) L ∧ ∃ A0, ∀ q, q < 443 → P (443 * j + q) = enc A0 x (M (7 + (o + j) % 8)) q
section HRS
variable {x : PP} {M M2 : Mem} {P P2 : Nat → Int32} {o h : Nat} {L L2 : Int} {A0 : Nat → Int32}
theorem HR_le (H : HR x M P o h L) (hl : L ≤ L2) : HR x M P o h L2 := fun j hj => ⟨gd_le (H j hj).1 hl, (H j hj).2⟩
theorem HR_m (H : HR x M P o h L) (hm : ∀ j, 7 ≤ j → j < 15 → M2 j = M j) : HR x M2 P o h L := fun j hj => by
  have e : M2 (7 + (o + j) % 8) = M (7 + (o + j) % 8) := hm _ (by omega) (by omega)
  rw [e]; exact H j hj
theorem HR_0 : HR x M P o 0 L := fun j hj => absurd hj (Nat.not_lt_zero j)
theorem kpM_h (ho : o < 8) (hh : h ≤ 8) : kpM M o h (7 + (o + h) % 8) = M 3 := by
  unfold kpM
  rw [setm_n (by omega), setm_s]
theorem kpM_o {j : Nat} (h6 : j ≠ 6) (hj : j ≠ 7 + (o + h) % 8) : kpM M o h j = M j := by
  unfold kpM
  rw [setm_n h6, setm_n hj]
theorem kpM_6 : kpM M o h 6 = if h < 8 then vH (M 6) (nI o) (nI (h + 1)) (M 6 1) else vH (M 6) (nI ((o + 1) % 8)) (nI h) (M 6 1) := by
  unfold kpM
  rw [setm_s]
def oK (o h : Nat) : Nat := if h < 8 then o else (o + 1) % 8
/-- a state is kept on both sides -/
theorem HR_keep (ho : o < 8) (hh : h ≤ 8) (H : HR x M P o h L) (g : gd x (M 3) L) : HR x (kpM M o h) (cpP (rmS P h) (enc A0 x (M 3)) (443 * rmK h) 443) (oK o h) (rmK h + 1) L ∧ kpM M o h 6 0 1 = nI (oK o h) ∧ kpM M o h 6 0 2 = nI (rmK h + 1) ∧ oK o h < 8 ∧ rmK h + 1 ≤ 8 := by
  by_cases h8 : h < 8
  · have e1 : rmS P h = P := if_neg (by omega)
    have e2 : rmK h = h := if_neg (by omega)
    have e3 : oK o h = o := if_pos h8
    rw [e1, e2, e3]
    refine ⟨?_, by rw [kpM_6, if_pos h8]; rfl, by rw [kpM_6, if_pos h8]; rfl, ho, by omega⟩
    intro j hj
    by_cases hjh : j = h
    · subst hjh
      rw [kpM_h ho hh]
      refine ⟨g, A0, fun q hq => ?_⟩
      unfold cpP
      rw [if_pos (by omega), show 443 * j + q - 443 * j = q by omega]
    · rw [kpM_o (by omega) (by omega)]
      obtain ⟨a1, B0, a2⟩ := H j (by omega)
      refine ⟨a1, B0, fun q hq => ?_⟩
      rw [← a2 q hq]
      unfold cpP
      rw [if_neg (by omega)]
  · have e0 : h = 8 := by omega
    subst e0
    have e2 : rmK 8 = 7 := rfl
    have e3 : oK o 8 = (o + 1) % 8 := if_neg (by decide)
    rw [e2, e3]
    refine ⟨?_, by rw [kpM_6, if_neg (by decide)]; rfl, by rw [kpM_6, if_neg (by decide)]; rfl, by omega, by omega⟩
    intro j hj
    by_cases hjh : j = 7
    · subst hjh
      rw [show ((o + 1) % 8 + 7) % 8 = (o + 8) % 8 by omega, kpM_h ho (by omega)]
      refine ⟨g, A0, fun q hq => ?_⟩
      unfold cpP
      rw [if_pos (by omega), show 443 * 7 + q - 443 * 7 = q by omega]
    · rw [show ((o + 1) % 8 + j) % 8 = (o + (j + 1)) % 8 by omega, kpM_o (by omega) (by omega)]
      obtain ⟨a1, B0, a2⟩ := H (j + 1) (by omega)
      refine ⟨a1, B0, fun q hq => ?_⟩
      rw [← a2 q hq]
      unfold cpP
      rw [if_neg (by omega)]
      have e1 : rmS P 8 = fil (fun q => P (q + 443)) P 3101 := if_pos rfl
      rw [e1]
      show (if 443 * j + q < 3101 then P (443 * j + q + 443) else P (443 * j + q)) = _
      rw [if_pos (by omega)]
      congr 1
      omega
/-- the newest state is taken back -/
theorem HR_undo (H : HR x M P o (h + 1) L) (hm : ∀ j, 7 ≤ j → j < 15 → M2 j = M j) : HR x M2 P o h L ∧ gd x (M (7 + (o + h) % 8)) L ∧ ∃ A1, ∀ q, q < 443 → P (443 * h + q) = enc A1 x (M (7 + (o + h) % 8)) q :=
  ⟨HR_m (fun j hj => H j (by omega)) hm, H h (Nat.lt_succ_self h)⟩
/-- numbers that agree with a state's up to 443 are such numbers -/
theorem enc_ch {A : Nat → Int32} {T : Nat → Nat → Int32} (hx : PIv x) (h : ∀ q, q < 443 → A q = enc A0 x T q) : ∃ A1, A = enc A1 x T := by
  refine ⟨fun q => if q < 443 then A0 q else A q, ?_⟩
  funext q
  by_cases hq : q < 443
  · rw [h q hq]
    unfold enc encF
    have e0 : (if q < 443 then A0 q else A q) = A0 q := if_pos hq
    by_cases c1 : q < 15
    · rw [if_pos c1, if_pos c1]
      rcases (show q = 0 ∨ q = 1 ∨ q = 2 ∨ q = 3 ∨ q = 4 ∨ q = 5 ∨ q = 6 ∨ q = 7 ∨ q = 8 ∨ q = 9 ∨ q = 10 ∨ 11 ≤ q by omega) with rfl | rfl | rfl | rfl | rfl | rfl | rfl | rfl | rfl | rfl | rfl | h11
      all_goals first
        | rfl
        | skip
      obtain ⟨i, rfl⟩ : ∃ i, q = i + 11 := ⟨q - 11, by omega⟩
      show A0 (i + 11) = if i + 11 < 443 then A0 (i + 11) else A (i + 11)
      rw [if_pos hq]
    · rw [if_neg c1, if_neg c1]
      by_cases c2 : q < 399
      · rw [if_pos c2, if_pos c2]
        by_cases c3 : (q - 15) / 6 < x.1.2.2
        · rw [if_pos c3, if_pos c3]
        · rw [if_neg c3, if_neg c3]; exact e0.symm
      · rw [if_neg c2, if_neg c2]
        by_cases c3 : (q - 399) / 11 < x.2.2.2.2.1
        · rw [if_pos c3, if_pos c3]
          obtain ⟨b, f, hf, rfl⟩ : ∃ b f, f < 11 ∧ q = 399 + 11 * b + f := ⟨(q - 399) / 11, (q - 399) % 11, by omega, by omega⟩
          rw [show (399 + 11 * b + f - 399) % 11 = f by omega, show (399 + 11 * b + f - 399) / 11 = b by omega]
          have g : ∀ (A9 : Nat → Int32), (1 ≤ f ∧ f ≤ 6) → bfT A9 x T f b = if f - 1 < (x.2.2.2.2.2.1 b).toNatClampNeg then x.2.2.2.2.2.2.2.2 b (f - 1) else A9 (399 + 11 * b + f) := by
            intro A9 h6
            rcases (show f = 1 ∨ f = 2 ∨ f = 3 ∨ f = 4 ∨ f = 5 ∨ f = 6 by omega) with rfl | rfl | rfl | rfl | rfl | rfl <;> rfl
          by_cases h6 : 1 ≤ f ∧ f ≤ 6
          · rw [g _ h6, g _ h6]
            by_cases c4 : f - 1 < (x.2.2.2.2.2.1 b).toNatClampNeg
            · rw [if_pos c4, if_pos c4]
            · rw [if_neg c4, if_neg c4, e0]
          · rcases (show f = 0 ∨ f = 7 ∨ f = 8 ∨ f = 9 ∨ f = 10 by omega) with rfl | rfl | rfl | rfl | rfl <;> rfl
        · rw [if_neg c3, if_neg c3]; exact e0.symm
  · rw [enc_big hx (by omega)]
    exact (if_neg hq).symm
end HRS
