/-! a setup's row: the reference against the class -/
theorem scn_all {P : Int32 → Bool} {b : Nat → Int32} : ∀ (d p i : Nat), p ≤ i → i < scn P b d p → P (b i) = true
  | 0, p, i, h1, h2 => absurd (show i < p from h2) (by omega)
  | d + 1, p, i, h1, h2 => by
    have e : scn P b (d + 1) p = if P (b p) then scn P b d (p + 1) else p := rfl
    rw [e] at h2
    by_cases hp : P (b p) = true
    · rw [if_pos hp] at h2
      by_cases hi : i = p
      · rw [hi]; exact hp
      · exact scn_all d (p + 1) i (by omega) h2
    · rw [if_neg hp] at h2
      omega
theorem cD_nI {x : Int32} (h : cD x = true) : ∃ k, k < 10 ∧ x = nI (48 + k) := by
  unfold cD at h
  rw [Bool.and_eq_true, Bool.not_eq_true', Bool.not_eq_true', decide_eq_false_iff_not, decide_eq_false_iff_not] at h
  obtain ⟨h1, h2⟩ := h
  obtain ⟨j, hj, rfl⟩ := nI_of (show ¬ x < 0 from fun q => h1 (Int32.lt_of_lt_of_le q (by decide)))
  have a1 : ¬ j < 48 := fun q => h1 ((nI_ltI (b := 48) hj (by decide)).mpr q)
  have a2 : ¬ 57 < j := fun q => h2 ((nI_ltI (a := 57) (by decide) hj).mpr q)
  exact ⟨j - 48, by omega, by rw [show 48 + (j - 48) = j by omega]⟩
theorem dig_nn : ∀ k, k < 10 → ∀ j, j < 10 → (0 : Int32) ≤ 10 * (10 * 0 + nI (48 + k) - 48) + nI (48 + j) - 48 := by decide +kernel
theorem dig_n1 : ∀ k, k < 10 → (0 : Int32) ≤ 10 * 0 + nI (48 + k) - 48 := by decide +kernel
theorem tV_nn {b : Nat → Int32} {n p : Nat} {va : Int32} (h : tK b n p = 2) : 0 ≤ tV b n p va := by
  unfold tK at h
  unfold tV
  by_cases h1 : n ≤ tS b n p
  · rw [if_pos h1] at h; exact absurd h (by decide)
  · rw [if_neg h1] at h ⊢
    by_cases h2 : cL (b (tS b n p))
    · rw [if_pos h2] at h
      unfold wK at h
      split at h <;> exact absurd h (by decide)
    · rw [if_neg h2] at h ⊢
      by_cases h3 : cD (b (tS b n p))
      · rw [if_pos h3] at h ⊢
        unfold dK at h
        by_cases h4 : scan cD b n (tS b n p) - tS b n p ≤ 2
        · generalize hs : tS b n p = s at h1 h3 h4 ⊢
          have hall : ∀ i, s ≤ i → i < scan cD b n s → cD (b i) = true := fun i a c => scn_all (n - s) s i a c
          rcases (show scan cD b n s - s = 0 ∨ scan cD b n s - s = 1 ∨ scan cD b n s - s = 2 by omega) with e | e | e
          · rw [e]; exact (by decide : (0 : Int32) ≤ 0)
          · rw [e]
            obtain ⟨k, hk, e0⟩ := cD_nI (hall s (Nat.le_refl s) (by omega))
            show (0 : Int32) ≤ 10 * 0 + b (s + 0) - 48
            rw [Nat.add_zero, e0]
            exact dig_n1 k hk
          · rw [e]
            obtain ⟨k, hk, e0⟩ := cD_nI (hall s (Nat.le_refl s) (by omega))
            obtain ⟨j, hj, e1⟩ := cD_nI (hall (s + 1) (by omega) (by omega))
            show (0 : Int32) ≤ 10 * (10 * 0 + b (s + 0) - 48) + b (s + 1) - 48
            rw [Nat.add_zero, e0, e1]
            exact dig_nn k hk j hj
        · rw [if_neg h4] at h; exact absurd h (by decide)
      · rw [if_neg h3] at h
        split at h <;> exact absurd h (by decide)
theorem tTk_0 {b : Nat → Int32} {n : Nat} {u : TT} : tTk 0 b n u = tNx b n u := by
  unfold tTk tNx
  rw [feI_0, feI_0]
section RWR
variable {b : Nat → Int32} {n z lea mo : Nat}
theorem rw_rel (hl : lea ≤ mo) (hm : mo ≤ 8) : ∀ (f c : Nat) (hs : Nat → Int32) (t : TT) (he : Nat → Int32) (u : TT), f = mo - c → c ≤ mo → rK b n t u → (∀ i, i < c → he (z + i) = hs i) →
    ∃ c3 hs3 t3, rwM b n lea mo (8 - c) c hs t = (c3, hs3, t3) ∧
      ((0 < t3.2.2.2.2.1 ∧ ∃ c' he' u', rwF b n z lea f c he u = (0, c', he', u') ∧ rX t3 u') ∨
       (∃ he3 u3, rK b n t3 u3 ∧ lea ≤ c3 ∧ c3 ≤ mo ∧ (∀ i, i < c3 → he3 (z + i) = hs3 i) ∧ (∀ q, q < z → he3 q = he q) ∧
         ((c3 < mo ∧ tK b n u3.1 = 3 ∧ rwF b n z lea f c he u = (1, c3, he3, tNx b n u3)) ∨
          (c3 < mo ∧ ¬ tK b n u3.1 = 3 ∧ rwF b n z lea f c he u = (0, c3, he3, tFl 1 (tNx b n u3))) ∨
          (c3 = mo ∧ rwF b n z lea f c he u = (2, mo, he3, u3))))) := by
  intro f
  induction f with
  | zero =>
    intro c hs t he u hf hc hK hh
    have e : c = mo := by omega
    subst e
    exact ⟨c, hs, t, rwM_no (fun q => by omega) _, Or.inr ⟨he, u, hK, hl, Nat.le_refl _, hh, fun _ _ => rfl, Or.inr (Or.inr ⟨rfl, rfl⟩)⟩⟩
  | succ f ih =>
    intro c hs t he u hf hc hK hh
    have hcm : c < mo := by omega
    have htok : t.2.1 = tK b n u.1 := hK.2.2.2.2.1
    have hrw : rwF b n z lea (f + 1) c he u = if tK b n u.1 = 3 ∧ lea ≤ c then (1, c, he, tNx b n u) else if tK b n u.1 ≠ 2 then (0, c, he, tFl 1 (tNx b n u)) else if 9 < tV b n u.1 u.2.2.2.1 then (0, c, he, tFl 2 (tNx b n u)) else rwF b n z lea f (c + 1) (upd he (z + c) (tV b n u.1 u.2.2.2.1)) (tNx b n u) := rfl
    obtain ⟨n1, n2⟩ := rK_n hK 0 9
    by_cases k3 : tK b n u.1 = 3 ∧ lea ≤ c
    · rw [if_pos k3] at hrw
      refine ⟨c, hs, t, rwM_no (fun q => ?_) _, Or.inr ⟨he, u, hK, k3.2, hc, hh, fun _ _ => rfl, Or.inl ⟨hcm, k3.1, hrw⟩⟩⟩
      rcases q.2 with q | q
      · omega
      · rw [htok, k3.1] at q; exact absurd q.2 (by decide)
    · rw [if_neg k3] at hrw
      by_cases k2 : tK b n u.1 = 2
      · rw [if_neg (fun q => q k2)] at hrw
        have hgo : rwM b n lea mo (8 - c) c hs t = rwM b n lea mo (8 - (c + 1)) (c + 1) (upd hs c (mNv t 0 9)) (mAd b n (mNe t 0 9)) := (rwM_go (by omega) ⟨hK.1, Or.inr ⟨hcm, htok.trans k2⟩⟩).symm
        by_cases c9 : 9 < tV b n u.1 u.2.2.2.1
        · rw [if_pos c9] at hrw
          have hC : tnC b n u.1 u.2.2.2.1 0 9 = 2 := by
            unfold tnC
            rw [if_pos k2]
            by_cases q : tV b n u.1 u.2.2.2.1 < 0
            · rw [if_pos q]
            · rw [if_neg q, if_pos c9]
          have x1 := n2 (by rw [hC]; decide)
          rw [hC] at x1
          refine ⟨c + 1, upd hs c (mNv t 0 9), mNe t 0 9, ?_, Or.inl ⟨x1.1, c, he, _, hrw, x1.1, x1.2.1, ?_⟩⟩
          · rw [hgo, mAd_x x1.1]
            exact rwM_no (fun q => fz x1.1 q.1) _
          · rw [x1.2.2]
            exact feI_2 (a := u.2.2.2.2.2)
        · rw [if_neg c9] at hrw
          have hC : tnC b n u.1 u.2.2.2.1 0 9 = 0 := by
            unfold tnC
            rw [if_pos k2, if_neg (Int32.not_lt.mpr (tV_nn k2)), if_neg c9]
          obtain ⟨f0, hK2, ev⟩ := n1 hC
          rw [tTk_0] at hK2
          obtain ⟨c3, hs3, t3, e3, hr⟩ := ih (c + 1) (upd hs c (mNv t 0 9)) (mAd b n (mNe t 0 9)) (upd he (z + c) (tV b n u.1 u.2.2.2.1)) (tNx b n u) (by omega) (by omega) hK2 (fun i hi => by
            by_cases hic : i = c
            · subst hic; rw [upd_at, upd_at, ev]
            · rw [upd_ne (by omega), upd_ne hic]; exact hh i (by omega))
          refine ⟨c3, hs3, t3, hgo.trans e3, ?_⟩
          rw [hrw]
          rcases hr with hr | ⟨he3, u3, r1, r2, r3, r4, r5, r6⟩
          · exact Or.inl hr
          · exact Or.inr ⟨he3, u3, r1, r2, r3, r4, fun q hq => (r5 q hq).trans (upd_ne (by omega)), r6⟩
      · rw [if_pos k2] at hrw
        by_cases hcl : c < lea
        · have hgo : rwM b n lea mo (8 - c) c hs t = rwM b n lea mo (8 - (c + 1)) (c + 1) (upd hs c (mNv t 0 9)) (mAd b n (mNe t 0 9)) := (rwM_go (by omega) ⟨hK.1, Or.inl hcl⟩).symm
          have hC : tnC b n u.1 u.2.2.2.1 0 9 = 1 := if_neg k2
          have x1 := n2 (by rw [hC]; decide)
          rw [hC] at x1
          refine ⟨c + 1, upd hs c (mNv t 0 9), mNe t 0 9, ?_, Or.inl ⟨x1.1, c, he, _, hrw, x1.1, x1.2.1, ?_⟩⟩
          · rw [hgo, mAd_x x1.1]
            exact rwM_no (fun q => fz x1.1 q.1) _
          · rw [x1.2.2]
            exact feI_1 (a := u.2.2.2.2.2)
        · refine ⟨c, hs, t, rwM_no (fun q => ?_) _, Or.inr ⟨he, u, hK, by omega, hc, hh, fun _ _ => rfl, Or.inr (Or.inl ⟨hcm, fun q => k3 ⟨q, by omega⟩, hrw⟩)⟩⟩
          rcases q.2 with q | q
          · exact hcl q
          · exact k2 (htok.symm.trans q.2)
end RWR
section ROK
variable {b : Nat → Int32} {n : Nat} {A0 he gu nl fp bh : Nat → Int32} {a v z k : Nat} {fr : Int32} {r : Nat → Nat → Int32} {t u : TT}
theorem row_ok {t4 : TT} {A2 : Nat → Int32} (hC : rC n t u) (hx : PIv (((a, v, z), he, gu, fr, k, nl, fp, bh, r) : PP)) (hg : ∀ q, z ≤ q → gu q = 0) (h0 : CA0 A0) (h : rwP b n ((a, v, z), he, gu, fr, k, nl, fp, bh, r) t (pE A0 ((a, v, z), he, gu, fr, k, nl, fp, bh, r)) t4 A2) :
    pR b n A0 ((rRw b n u a v z (leO a v) (moO a v) he).1, (((rRw b n u a v z (leO a v) (moO a v) he).2.2, (rRw b n u a v z (leO a v) (moO a v) he).2.1, gu, fr, k, nl, fp, bh, r) : PP)) t4 A2 := by
  have hz := PIv_z hx
  have hzu : z = a * v := hx.2.2.1
  obtain ⟨t2, t3, c, hs, hs0, h2, h3, hcm, h4, hA⟩ := h
  dsimp only at h2 h3 hcm h4 hA hz
  by_cases ha : a < 8
  · rw [if_pos ha, mEx_n (a := 1) (by decide)] at h2
    have hK : rK b n t2 u := by rw [h2]; exact rC_K hC
    have hlm : leO a v ≤ moO a v := by
      rcases hz.2.2.2.2 with ⟨_, p, q⟩ | ⟨_, p, q⟩ <;> omega
    obtain ⟨c3, hs3, t3', e3, hr⟩ := rw_rel (z := z) hlm hz.2.2.1 (moO a v - 0) 0 hs0 t2 he u rfl (Nat.zero_le _) hK (fun i hi => absurd hi (Nat.not_lt_zero i))
    rw [show 8 - 0 = 8 from rfl, h3] at e3
    obtain ⟨rfl, e3b⟩ : c = c3 ∧ (hs, t3) = (hs3, t3') := by
      injection e3 with p q
      exact ⟨p, q⟩
    obtain ⟨rfl, rfl⟩ : hs = hs3 ∧ t3 = t3' := by
      injection e3b with p q
      exact ⟨p, q⟩
    rw [show moO a v - 0 = moO a v from rfl] at hr
    rcases hr with ⟨f1, c', he', u', r1, r2⟩ | ⟨he3, u3, r1, r2, r3, r4, r5, r6⟩
    · rw [rRw_0 ha r1.symm]
      rw [mEx_x f1] at h4
      rw [h4]
      exact Or.inl ⟨r2, rfl⟩
    · have hcz : z + c ≤ 64 ∧ (a + 1) * c = z + c ∧ a * c = z := by
        rw [Nat.succ_mul]
        have h1 := hz.2.1 ha
        rcases hz.2.2.2.2 with ⟨p0, p, q⟩ | ⟨p0, p, q⟩
        · rw [hzu, p0, Nat.zero_mul, Nat.zero_mul]
          exact ⟨by omega, rfl, rfl⟩
        · have : c = v := by omega
          rw [hzu, this]
          rw [hzu] at h1
          exact ⟨by omega, rfl, rfl⟩
      rcases r6 with ⟨g1, g2, g3⟩ | ⟨g1, g2, g3⟩ | ⟨g1, g2⟩
      · have tk : t3.2.1 = 3 := r1.2.2.2.2.1.trans g2
        rw [if_pos tk, mEx_n (a := 1) (by decide)] at h4
        rw [rRw_1 ha g3.symm]
        refine Or.inr ⟨u3, ?_, by rw [h4]; exact r1, ?_⟩
        · show ((1 : Int32), tNx b n u3) = (feI (tsC b n u3.1) 1 0, tTk (tsC b n u3.1) b n u3)
          rw [show tsC b n u3.1 = 0 from if_pos g2, feI_0, tTk_0]
        · rw [hA, h4, if_pos r1.1, hcz.2.2]
          show _ = pE A0 ((a + 1, c, (a + 1) * c), he3, gu, fr, k, nl, fp, bh, r)
          rw [hcz.2.1]
          exact pE_row h0 hcz.1 hg r5 r4
      · have tk : ¬ t3.2.1 = 3 := fun q => g2 (r1.2.2.2.2.1.symm.trans q)
        rw [if_neg tk] at h4
        rw [rRw_0 ha g3.symm, h4]
        have x1 := rK_x r1 (show (0 : Int32) < 1 by decide)
        exact Or.inl ⟨⟨x1.1, x1.2.1, x1.2.2.trans (feI_1 (a := u3.2.2.2.2.2))⟩, rfl⟩
      · rw [rRw_2 ha g2.symm]
        by_cases tk : t3.2.1 = 3
        · rw [if_pos tk, mEx_n (a := 1) (by decide)] at h4
          refine Or.inr ⟨u3, rfl, by rw [h4]; exact r1, ?_⟩
          rw [hA, h4, if_pos r1.1, hcz.2.2]
          show _ = pE A0 ((a + 1, moO a v, (a + 1) * moO a v), he3, gu, fr, k, nl, fp, bh, r)
          rw [← g1, hcz.2.1]
          exact pE_row h0 hcz.1 hg r5 r4
        · rw [if_neg tk] at h4
          have g3 : ¬ tK b n u3.1 = 3 := fun q => tk (r1.2.2.2.2.1.trans q)
          have x1 := rK_x r1 (show (0 : Int32) < 1 by decide)
          rw [← h4] at x1
          have e5 : tSm b n u3 = (0, tTk 1 b n u3) := by
            show (feI (tsC b n u3.1) 1 0, tTk (tsC b n u3.1) b n u3) = _
            rw [show tsC b n u3.1 = 1 from if_neg g3, feI_1]
          rw [e5]
          exact Or.inl ⟨x1, rfl⟩
  · rw [rRw_f (show 8 ≤ a by omega)]
    rw [if_neg ha] at h2
    have x1 := rC_x hC (show (0 : Int32) < 4 by decide)
    rw [mAd_x x1.1] at h2
    rw [← h2] at x1
    rw [rwM_no (fun q => fz x1.1 q.1)] at h3
    have e3 : t2 = t3 := by
      injection h3 with p q
      injection q
    rw [h4, ← e3, mEx_x x1.1]
    exact Or.inl ⟨x1, rfl⟩
end ROK
