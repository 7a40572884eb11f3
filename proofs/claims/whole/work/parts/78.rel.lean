/-! the reference's text against the class's -/
/-- the reference's token is the one behind the class's place -/
def rK (b : Nat → Int32) (n : Nat) (t u : TT) : Prop := t.2.2.2.2.1 = 0 ∧ u.2.2.2.2.1 = 0 ∧ u.1 ≤ n ∧ t.1 = tP b n u.1 ∧ t.2.1 = tK b n u.1 ∧ t.2.2.1 = nI (tS b n u.1) ∧ (tK b n u.1 = 2 → t.2.2.2.1 = tV b n u.1 u.2.2.2.1) ∧ u.2.2.2.2.2 = -1
/-- both have the same fault -/
def rX (t u : TT) : Prop := 0 < t.2.2.2.2.1 ∧ t.2.2.2.2.1 = u.2.2.2.2.1 ∧ t.2.2.2.2.2 = u.2.2.2.2.2
/-- both stand at the same token -/
def rC (n : Nat) (t u : TT) : Prop := t.2.2.2.2.1 = 0 ∧ u.2.2.2.2.1 = 0 ∧ u.1 ≤ n ∧ t.1 = u.1 ∧ t.2.1 = u.2.1 ∧ t.2.2.1 = u.2.2.1 ∧ (∃ s, s ≤ u.1 ∧ u.2.2.1 = nI s) ∧ u.2.2.2.2.2 = -1
section RKL
variable {b : Nat → Int32} {n : Nat} {t u : TT} {lo hi a k : Int32}
theorem tV_2 {p : Nat} {va va2 : Int32} (h : tK b n p = 2) : tV b n p va = tV b n p va2 := by
  unfold tK at h
  unfold tV
  by_cases h1 : n ≤ tS b n p
  · rw [if_pos h1] at h; exact absurd h (by decide)
  · rw [if_neg h1] at h
    rw [if_neg h1, if_neg h1]
    by_cases h2 : cL (b (tS b n p))
    · rw [if_pos h2] at h
      unfold wK at h
      split at h <;> exact absurd h (by decide)
    · rw [if_neg h2, if_neg h2]
      by_cases h3 : cD (b (tS b n p))
      · rw [if_pos h3, if_pos h3]
      · rw [if_neg h2, if_neg h3] at h
        split at h <;> exact absurd h (by decide)
theorem mV_2 {p : Nat} {va va2 : Int32} (h : tK b n p = 2) : mV b n p va = tV b n p va2 := by
  unfold tK at h
  unfold tV mV
  by_cases h1 : n ≤ tS b n p
  · rw [if_pos h1] at h; exact absurd h (by decide)
  · rw [if_neg h1] at h
    rw [if_neg h1, if_neg h1]
    by_cases h2 : cL (b (tS b n p))
    · rw [if_pos h2] at h
      unfold wK at h
      split at h <;> exact absurd h (by decide)
    · rw [if_neg h2, if_neg h2]
      by_cases h3 : cD (b (tS b n p))
      · rw [if_pos h3, if_pos h3]
        rw [if_neg h2, if_pos h3] at h
        unfold dK at h
        by_cases h4 : scan cD b n (tS b n p) - tS b n p ≤ 2
        · rw [Nat.min_eq_left h4]
        · rw [if_neg h4] at h; exact absurd h (by decide)
      · rw [if_neg h2, if_neg h3] at h
        split at h <;> exact absurd h (by decide)
theorem fz {x : Int32} (h : 0 < x) : ¬ x = 0 := fun q => by rw [q] at h; exact absurd h (by decide)
theorem mAd_0 (h : t.2.2.2.2.1 = 0) : mAd b n t = (tP b n t.1, tK b n t.1, nI (tS b n t.1), mV b n t.1 t.2.2.2.1, t.2.2.2.2.1, t.2.2.2.2.2) := if_pos h
theorem mAd_x (h : 0 < t.2.2.2.2.1) : mAd b n t = t := if_neg (fz h)
theorem mEx_x (h : 0 < t.2.2.2.2.1) : mEx a k t = t := if_neg (fz h)
theorem mEx_0 (h : t.2.2.2.2.1 = 0) : mEx 0 k t = (t.1, t.2.1, t.2.2.1, t.2.2.2.1, k, t.2.2.1) := (if_pos h).trans (if_pos rfl)
theorem mEx_n (h : ¬ a = 0) : mEx a k t = t := by
  unfold mEx
  split <;> first | rfl | (rw [if_neg h])
theorem mNe_x (h : 0 < t.2.2.2.2.1) : mNe t lo hi = t := by unfold mNe; rw [mEx_x h, mEx_x h]
theorem mSm_x (h : 0 < t.2.2.2.2.1) : mSm b n t = t := by unfold mSm; rw [mEx_x h, mAd_x h]
theorem rK_C (h : rK b n t u) : rC n t (tNx b n u) := ⟨h.1, h.2.1, (tP_le h.2.2.1).2, h.2.2.2.1, h.2.2.2.2.1, h.2.2.2.2.2.1, ⟨_, (tP_le h.2.2.1).1, rfl⟩, h.2.2.2.2.2.2.2⟩
theorem rC_K (h : rC n t u) : rK b n (mAd b n t) u := by
  obtain ⟨h1, h2, h3, h4, h5, h6, _, h8⟩ := h
  rw [mAd_0 h1, h4]
  exact ⟨h1, h2, h3, rfl, rfl, rfl, fun q => mV_2 q, h8⟩
/-- the class's next token taken without a fault -/
theorem rK_t (h : rK b n t u) : rK b n (mAd b n t) (tTk 0 b n u) := by
  obtain ⟨h1, h2, h3, h4, h5, h6, h7, h8⟩ := h
  rw [mAd_0 h1, h4]
  exact ⟨h1, (show feI 0 u.2.2.2.2.1 0 = 0 from feI_0.trans h2), (tP_le h3).2, rfl, rfl, rfl, fun q => mV_2 q, (show feI 0 u.2.2.2.2.2 (nI (tS b n u.1)) = -1 from feI_0.trans h8)⟩
theorem rK_x {c : Int32} (h : rK b n t u) (hc : 0 < c) : rX (mEx 0 c t) (tTk c b n u) := by
  rw [mEx_0 h.1]
  exact ⟨hc, (show c = feI c u.2.2.2.2.1 c from (if_neg (fz hc)).symm), (show t.2.2.1 = feI c u.2.2.2.2.2 (nI (tS b n u.1)) from h.2.2.2.2.2.1.trans (if_neg (fz hc)).symm)⟩
theorem rC_x {c : Int32} (h : rC n t u) (hc : 0 < c) : rX (mEx 0 c t) (tFl c u) := by
  rw [mEx_0 h.1]
  exact ⟨hc, rfl, h.2.2.2.2.2.1⟩
theorem iw_31 {x lo hi : Int32} : iwI x.toInt64 lo.toInt64 hi.toInt64 = if x < lo then 0 else if hi < x then 0 else 1 := by
  by_cases h1 : x < lo
  · rw [if_pos h1]; exact iw_0 (fun q => absurd q.1 (Int32.not_le.mpr h1))
  · rw [if_neg h1]
    by_cases h2 : hi < x
    · rw [if_pos h2]; exact iw_0 (fun q => absurd q.2 (Int32.not_le.mpr h2))
    · rw [if_neg h2]; exact iw_1 (Int32.not_lt.mp h1) (Int32.not_lt.mp h2)
/-- a number: both right, or both the same fault -/
theorem rK_n (h : rK b n t u) (lo hi : Int32) : (tnC b n u.1 u.2.2.2.1 lo hi = 0 → (mNe t lo hi).2.2.2.2.1 = 0 ∧ rK b n (mAd b n (mNe t lo hi)) (tTk 0 b n u) ∧ mNv t lo hi = tV b n u.1 u.2.2.2.1) ∧ (¬ tnC b n u.1 u.2.2.2.1 lo hi = 0 → rX (mNe t lo hi) (tTk (tnC b n u.1 u.2.2.2.1 lo hi) b n u)) := by
  obtain ⟨h1, h2, h3, h4, h5, h6, h7, h8⟩ := h
  unfold tnC
  by_cases hk : tK b n u.1 = 2
  · rw [if_pos hk]
    have e1 : mNe t lo hi = mEx (iwI t.2.2.2.1.toInt64 lo.toInt64 hi.toInt64) 2 t := by
      unfold mNe
      rw [if_pos (show t.2.1 = 2 from h5.trans hk), mEx_n (a := 1) (by decide)]
    rw [iw_31, h7 hk] at e1
    by_cases c1 : tV b n u.1 u.2.2.2.1 < lo
    · rw [if_pos c1] at e1 ⊢
      refine ⟨fun q => absurd q (by decide), fun _ => ?_⟩
      rw [e1]
      exact rK_x ⟨h1, h2, h3, h4, h5, h6, h7, h8⟩ (by decide)
    · rw [if_neg c1] at e1 ⊢
      by_cases c2 : hi < tV b n u.1 u.2.2.2.1
      · rw [if_pos c2] at e1 ⊢
        refine ⟨fun q => absurd q (by decide), fun _ => ?_⟩
        rw [e1]
        exact rK_x ⟨h1, h2, h3, h4, h5, h6, h7, h8⟩ (by decide)
      · rw [if_neg c2] at e1 ⊢
        refine ⟨fun _ => ?_, fun q => absurd rfl q⟩
        rw [mEx_n (a := 1) (by decide)] at e1
        refine ⟨by rw [e1]; exact h1, by rw [e1]; exact rK_t ⟨h1, h2, h3, h4, h5, h6, h7, h8⟩, ?_⟩
        unfold mNv
        rw [e1, if_pos h1, h7 hk]
  · rw [if_neg hk]
    refine ⟨fun q => absurd q (by decide), fun _ => ?_⟩
    have e1 : mNe t lo hi = mEx 0 1 t := by
      unfold mNe
      rw [if_neg (show ¬ t.2.1 = 2 from fun q => hk (h5.symm.trans q))]
      exact mEx_x (by rw [mEx_0 h1]; exact (by decide : (0 : Int32) < 1))
    rw [e1]
    exact rK_x ⟨h1, h2, h3, h4, h5, h6, h7, h8⟩ (by decide)
/-- a semicolon -/
theorem rK_s (h : rK b n t u) : (¬ (tSm b n u).1 = 0 → rK b n (mSm b n t) (tSm b n u).2) ∧ ((tSm b n u).1 = 0 → rX (mSm b n t) (tSm b n u).2) := by
  have h5 := h.2.2.2.2.1
  show (¬ feI (tsC b n u.1) 1 0 = 0 → rK b n (mSm b n t) (tTk (tsC b n u.1) b n u)) ∧ (feI (tsC b n u.1) 1 0 = 0 → rX (mSm b n t) (tTk (tsC b n u.1) b n u))
  unfold tsC mSm
  by_cases hk : tK b n u.1 = 3
  · rw [if_pos hk, if_pos (show t.2.1 = 3 from h5.trans hk), mEx_n (a := 1) (by decide)]
    exact ⟨fun _ => rK_t h, fun q => absurd q (by rw [feI_0]; decide)⟩
  · rw [if_neg hk, if_neg (show ¬ t.2.1 = 3 from fun q => hk (h5.symm.trans q))]
    refine ⟨fun q => absurd feI_1 q, fun _ => ?_⟩
    have hx := rK_x h (show (0 : Int32) < 1 by decide)
    rw [mAd_x hx.1]
    exact hx
/-- a name -/
theorem rK_m (h : rK b n t u) : (tmC b n u.1 = 0 → t.2.1 = 1 ∧ tP b n u.1 - tS b n u.1 ≤ 6) ∧ (¬ tmC b n u.1 = 0 → tmC b n u.1 = 1 ∧ ¬ (t.2.1 = 1 ∧ tP b n u.1 - tS b n u.1 ≤ 6)) := by
  have h5 := h.2.2.2.2.1
  unfold tmC
  by_cases h1 : tK b n u.1 = 1
  · rw [if_pos h1]
    by_cases h2 : tP b n u.1 - tS b n u.1 ≤ 6
    · rw [if_pos h2]; exact ⟨fun _ => ⟨h5.trans h1, h2⟩, fun q => absurd rfl q⟩
    · rw [if_neg h2]; exact ⟨fun q => absurd q (by decide), fun _ => ⟨rfl, fun q => h2 q.2⟩⟩
  · rw [if_neg h1]
    exact ⟨fun q => absurd q (by decide), fun _ => ⟨rfl, fun q => h1 (h5.symm.trans q.1)⟩⟩
theorem rX_0 (h : rX t u) : 0 < t.2.2.2.2.1 := h.1
end RKL
/-! what a parser's step keeps of the reference -/
def kq (M M2 : Mem) : Prop := M2 0 2 = M 0 2 ∧ M2 0 3 = M 0 3 ∧ M2 0 4 = M 0 4 ∧ M2 0 10 = M 0 10 ∧ M2 0 25 = M 0 25 ∧ M2 0 0 4 = M 0 0 4 ∧ M2 0 0 5 = M 0 0 5 ∧ M2 0 0 6 = M 0 0 6 ∧ M2 0 0 10 = M 0 0 10 ∧ M2 0 0 11 = M 0 0 11 ∧ M2 0 0 12 = M 0 0 12 ∧ M2 0 0 25 = M 0 0 25
theorem kq_r {M : Mem} : kq M M := ⟨rfl, rfl, rfl, rfl, rfl, rfl, rfl, rfl, rfl, rfl, rfl, rfl⟩
theorem kq_t {M M1 M2 : Mem} (h : kq M M1) (g : kq M1 M2) : kq M M2 := by
  obtain ⟨a1, a2, a3, a4, a5, a6, a7, a8, a9, a10, a11, a12⟩ := h
  obtain ⟨b1, b2, b3, b4, b5, b6, b7, b8, b9, b10, b11, b12⟩ := g
  exact ⟨b1.trans a1, b2.trans a2, b3.trans a3, b4.trans a4, b5.trans a5, b6.trans a6, b7.trans a7, b8.trans a8, b9.trans a9, b10.trans a10, b11.trans a11, b12.trans a12⟩
/-- the array of numbers, the text; the rest kept -/
def PK (M M2 : Mem) (A : Nat → Int32) (t : TT) : Prop := kq M M2 ∧ M2 0 1 = A ∧ TI M2 t
/-- .. and the name spelled, the heights, the statements and their number -/
def PS (M M2 : Mem) : Prop := M2 0 8 = M 0 8 ∧ M2 0 0 8 = M 0 0 8 ∧ M2 0 20 = M 0 20 ∧ M2 0 21 = M 0 21 ∧ M2 0 0 21 = M 0 0 21
theorem PS_r {M : Mem} : PS M M := ⟨rfl, rfl, rfl, rfl, rfl⟩
theorem PS_t {M M1 M2 : Mem} (h : PS M M1) (g : PS M1 M2) : PS M M2 := ⟨g.1.trans h.1, g.2.1.trans h.2.1, g.2.2.1.trans h.2.2.1, g.2.2.2.1.trans h.2.2.2.1, g.2.2.2.2.trans h.2.2.2.2⟩
theorem PK_tt {M : Mem} {A : Nat → Int32} {t : TT} (h : M 0 1 = A) : PK M (ttM M t) A t := ⟨⟨rfl, rfl, rfl, rfl, rfl, rfl, rfl, rfl, rfl, rfl, rfl, rfl⟩, h, TI_tt⟩
theorem PS_tt {M : Mem} {t : TT} : PS M (ttM M t) := ⟨rfl, rfl, rfl, rfl, rfl⟩
theorem Mrg_m0 {M M9 : Mem} : Mrg 1 [] M M9 (setm M 0 (M9 0)) := by
  refine ⟨fun j hj => ?_, fun g hg => ?_⟩
  · obtain rfl : j = 0 := by omega
    rfl
  · exact setm_n (fun q => hg 0 Nat.zero_lt_one q.symm)
theorem Mrg_pk {M M9 : Mem} {A : Nat → Int32} {t : TT} (h : PK (vw [] M) M9 A t) (g : PS (vw [] M) M9) : ∃ M2, Mrg 1 [] M M9 M2 ∧ kq M M2 ∧ M2 0 1 = A ∧ TI M2 t ∧ PS M M2 := ⟨setm M 0 (M9 0), Mrg_m0, h.1, h.2.1, h.2.2, g⟩
