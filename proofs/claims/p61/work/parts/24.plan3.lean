/-! reading a plan: what holds from statement to statement -/
theorem nmS_congr {g g' : Nat → Int32} : ∀ (f i : Nat), (∀ q, i ≤ q → q < i + f → g q = g' q) → nmS g f i = nmS g' f i
  | 0, _, _ => rfl
  | f + 1, i, h => by
    show (if g i = 0 then nmS g f (i + 1) else nI i) = (if g' i = 0 then nmS g' f (i + 1) else nI i)
    rw [h i (Nat.le_refl i) (by omega), nmS_congr f (i + 1) (fun q h1 h2 => h q (by omega) (by omega))]
theorem rw4_lt {r : Nat → Nat → Int32} {k : Nat} (hk : k < 4) : rw4 (r 0) (r 1) (r 2) (r 3) k = r k := by
  rcases (show k = 0 ∨ k = 1 ∨ k = 2 ∨ k = 3 by omega) with rfl | rfl | rfl | rfl <;> rfl
theorem cpR_congr {b : Nat → Int32} {s P k j : Nat} {r r' : Nat → Nat → Int32} (h : r j = r' j) : cpR b s P k r j = cpR b s P k r' j := by
  unfold cpR
  rw [h]
theorem rBt_rw4 {b : Nat → Int32} {n : Nat} {t : TT} {z : Nat} {nlN : Nat → Nat} {k : Nat} {nl fp bh : Nat → Int32} {r r' : Nat → Nat → Int32} (hr : ∀ j, j < 4 → r j = r' j) :
    (rBt b n t z nlN (k, nl, fp, bh, r)).1 = (rBt b n t z nlN (k, nl, fp, bh, r')).1 ∧ (rBt b n t z nlN (k, nl, fp, bh, r)).2.1 = (rBt b n t z nlN (k, nl, fp, bh, r')).2.1 ∧ (rBt b n t z nlN (k, nl, fp, bh, r)).2.2.1 = (rBt b n t z nlN (k, nl, fp, bh, r')).2.2.1 ∧ (rBt b n t z nlN (k, nl, fp, bh, r)).2.2.2.1 = (rBt b n t z nlN (k, nl, fp, bh, r')).2.2.2.1 ∧ (rBt b n t z nlN (k, nl, fp, bh, r)).2.2.2.2.1 = (rBt b n t z nlN (k, nl, fp, bh, r')).2.2.2.2.1 ∧ ∀ j, j < 4 → (rBt b n t z nlN (k, nl, fp, bh, r)).2.2.2.2.2 j = (rBt b n t z nlN (k, nl, fp, bh, r')).2.2.2.2.2 j := by
  by_cases h4 : 4 ≤ k
  · unfold rBt
    simp only [if_pos h4]
    exact ⟨trivial, trivial, trivial, trivial, trivial, hr⟩
  · have e : nmS (fun i => isN b (tS b n t.1) (tP b n t.1) (r i) (nlN i)) k 0 = nmS (fun i => isN b (tS b n t.1) (tP b n t.1) (r' i) (nlN i)) k 0 := nmS_congr k 0 (fun q _ hq => by
      show isN _ _ _ (r q) _ = isN _ _ _ (r' q) _
      rw [hr q (by omega)])
    unfold rBt
    simp only [if_neg h4]
    rw [e]
    by_cases h1 : tmC b n t.1 ≠ 0
    · simp only [if_pos h1]
      exact ⟨trivial, trivial, trivial, trivial, trivial, hr⟩
    · simp only [if_neg h1]
      by_cases h2 : nmS (fun i => isN b (tS b n t.1) (tP b n t.1) (r' i) (nlN i)) k 0 ≠ -1
      · simp only [if_pos h2]
        exact ⟨trivial, trivial, trivial, trivial, trivial, hr⟩
      · simp only [if_neg h2]
        by_cases h3 : tnC b n (tTk 0 b n t).1 (tTk 0 b n t).2.2.2.1 0 (nI z - 1) ≠ 0
        · simp only [if_pos h3]
          exact ⟨trivial, trivial, trivial, trivial, trivial, fun j hj => cpR_congr (hr j hj)⟩
        · simp only [if_neg h3]
          by_cases h5 : tnC b n (tTk 0 b n (tTk 0 b n t)).1 (tTk 0 b n (tTk 0 b n t)).2.2.2.1 1 9 ≠ 0
          · simp only [if_pos h5]
            exact ⟨trivial, trivial, trivial, trivial, trivial, fun j hj => cpR_congr (hr j hj)⟩
          · simp only [if_neg h5]
            exact ⟨trivial, trivial, trivial, trivial, trivial, fun j hj => cpR_congr (hr j hj)⟩
theorem rwF_ok {b : Nat → Int32} {n z lea mo : Nat} (hlm : lea ≤ mo) : ∀ (f c : Nat) (he : Nat → Int32) (t : TT), t.1 ≤ n → c + f = mo → (rwF b n z lea f c he t).1 ≤ 2 ∧ t.1 ≤ (rwF b n z lea f c he t).2.2.2.1 ∧ (rwF b n z lea f c he t).2.2.2.1 ≤ n ∧ ((rwF b n z lea f c he t).1 = 1 → lea ≤ (rwF b n z lea f c he t).2.1 ∧ (rwF b n z lea f c he t).2.1 ≤ mo ∧ t.1 < (rwF b n z lea f c he t).2.2.2.1) ∧ ((rwF b n z lea f c he t).1 = 2 → (rwF b n z lea f c he t).2.1 = mo) := by
  intro f
  induction f with
  | zero =>
    intro c he t ht hc
    exact ⟨Nat.le_refl 2, Nat.le_refl _, ht, fun h => absurd (show (2 : Nat) = 1 from h) (by decide), fun _ => by show c = mo; omega⟩
  | succ f ih =>
    intro c he t ht hc
    have hP := tP_le (b := b) ht
    have hS := tS_le (b := b) ht
    by_cases h3 : tK b n t.1 = 3 ∧ lea ≤ c
    · have e : rwF b n z lea (f + 1) c he t = (1, c, he, tNx b n t) := if_pos h3
      rw [e]
      exact ⟨(by show (1 : Nat) ≤ 2; decide), (show t.1 ≤ tP b n t.1 by omega), hP.2, fun _ => ⟨h3.2, (show c ≤ mo by omega), tK_lt ht (by rw [h3.1]; decide)⟩, fun h => absurd (show (1 : Nat) = 2 from h) (by decide)⟩
    · by_cases h2 : tK b n t.1 ≠ 2
      · have e : rwF b n z lea (f + 1) c he t = (0, c, he, tFl 1 (tNx b n t)) := (if_neg h3).trans (if_pos h2)
        rw [e]
        exact ⟨(by show (0 : Nat) ≤ 2; decide), (show t.1 ≤ tP b n t.1 by omega), hP.2, fun h => absurd (show (0 : Nat) = 1 from h) (by decide), fun h => absurd (show (0 : Nat) = 2 from h) (by decide)⟩
      · by_cases h9 : 9 < tV b n t.1 t.2.2.2.1
        · have e : rwF b n z lea (f + 1) c he t = (0, c, he, tFl 2 (tNx b n t)) := (if_neg h3).trans ((if_neg h2).trans (if_pos h9))
          rw [e]
          exact ⟨(by show (0 : Nat) ≤ 2; decide), (show t.1 ≤ tP b n t.1 by omega), hP.2, fun h => absurd (show (0 : Nat) = 1 from h) (by decide), fun h => absurd (show (0 : Nat) = 2 from h) (by decide)⟩
        · have e : rwF b n z lea (f + 1) c he t = rwF b n z lea f (c + 1) (upd he (z + c) (tV b n t.1 t.2.2.2.1)) (tNx b n t) := (if_neg h3).trans ((if_neg h2).trans (if_neg h9))
          rw [e]
          have g0 : (tNx b n t).1 = tP b n t.1 := rfl
          obtain ⟨g5, g1, g2, g3, g4⟩ := ih (c + 1) (upd he (z + c) (tV b n t.1 t.2.2.2.1)) (tNx b n t) hP.2 (by omega)
          exact ⟨g5, by omega, g2, fun h => ⟨(g3 h).1, (g3 h).2.1, by have := (g3 h).2.2; omega⟩, g4⟩
theorem rRw_ok {b : Nat → Int32} {n u v z lea mo : Nat} {he : Nat → Int32} {t : TT} (ht : t.1 ≤ n) (hlm : lea ≤ mo) (h : (rRw b n t u v z lea mo he).1.1 ≠ 0) : u < 8 ∧ (rRw b n t u v z lea mo he).2.2.1 = u + 1 ∧ lea ≤ (rRw b n t u v z lea mo he).2.2.2.1 ∧ (rRw b n t u v z lea mo he).2.2.2.1 ≤ mo ∧ (rRw b n t u v z lea mo he).2.2.2.2 = (u + 1) * (rRw b n t u v z lea mo he).2.2.2.1 ∧ t.1 < (rRw b n t u v z lea mo he).1.2.1 ∧ (rRw b n t u v z lea mo he).1.2.1 ≤ n := by
  by_cases h8 : 8 ≤ u
  · rw [rRw_f h8] at h
    exact absurd rfl h
  · have hu : u < 8 := by omega
    obtain ⟨g5, g1, g2, g3, g4⟩ := rwF_ok (b := b) (z := z) hlm mo 0 he t ht (by omega)
    obtain ⟨k, c, he2, t2, e⟩ : ∃ k c he2 t2, (k, c, he2, t2) = rwF b n z lea mo 0 he t := ⟨_, _, _, _, rfl⟩
    rw [← e] at g1 g2 g3 g4 g5
    dsimp only at g1 g2 g3 g4 g5
    rcases (show k = 0 ∨ k = 1 ∨ k = 2 by omega) with rfl | rfl | rfl
    · rw [rRw_0 hu e] at h
      exact absurd rfl h
    · rw [rRw_1 hu e]
      obtain ⟨q1, q2, q3⟩ := g3 rfl
      exact ⟨hu, rfl, q1, q2, rfl, q3, g2⟩
    · rw [rRw_2 hu e] at h ⊢
      have hlt := tSm_lt (b := b) g2 h
      have hle := (tP_le (b := b) g2).2
      exact ⟨hu, rfl, hlm, Nat.le_refl _, rfl, Nat.lt_of_le_of_lt g1 hlt, hle⟩
theorem rGt_ok {b : Nat → Int32} {n z : Nat} {gu : Nat → Int32} {t : TT} (ht : t.1 ≤ n) (h : (rGt b n t z gu).1.1 ≠ 0) : t.1 < (rGt b n t z gu).1.2.1 ∧ (rGt b n t z gu).1.2.1 ≤ n := by
  have hS := tS_le (b := b) ht
  have hP := tP_le (b := b) ht
  have hS2 := tS_le (b := b) hP.2
  have hP2 := tP_le (b := b) hP.2
  by_cases h1 : tnC b n t.1 t.2.2.2.1 0 (nI z - 1) = 0
  · have e1 : rGt b n t z gu = rGt2 b n (tTk 0 b n t) (tV b n t.1 t.2.2.2.1).toNatClampNeg gu := if_pos h1
    rw [e1] at h ⊢
    by_cases h2 : tnC b n (tTk 0 b n t).1 (tTk 0 b n t).2.2.2.1 1 9 = 0
    · have e2 : rGt2 b n (tTk 0 b n t) (tV b n t.1 t.2.2.2.1).toNatClampNeg gu = (tSm b n (tTk 0 b n (tTk 0 b n t)), upd gu (tV b n t.1 t.2.2.2.1).toNatClampNeg (tV b n (tTk 0 b n t).1 (tTk 0 b n t).2.2.2.1)) := if_pos h2
      rw [e2] at h ⊢
      have hlt := tSm_lt (b := b) (t := tTk 0 b n (tTk 0 b n t)) hP2.2 h
      have hle := (tP_le (b := b) hP2.2).2
      have g1 : (tTk 0 b n (tTk 0 b n t)).1 = tP b n (tP b n t.1) := rfl
      exact ⟨Nat.lt_of_le_of_lt (show t.1 ≤ (tTk 0 b n (tTk 0 b n t)).1 by omega) hlt, hle⟩
    · have e2 : rGt2 b n (tTk 0 b n t) (tV b n t.1 t.2.2.2.1).toNatClampNeg gu = ((0, tTk (tnC b n (tTk 0 b n t).1 (tTk 0 b n t).2.2.2.1 1 9) b n (tTk 0 b n t)), gu) := if_neg h2
      rw [e2] at h
      exact absurd rfl h
  · have e1 : rGt b n t z gu = ((0, tTk (tnC b n t.1 t.2.2.2.1 0 (nI z - 1)) b n t), gu) := if_neg h1
    rw [e1] at h
    exact absurd rfl h
theorem rRn_ok {b : Nat → Int32} {n : Nat} {fr : Int32} {t : TT} (ht : t.1 ≤ n) (h : (rRn b n t fr).1.1 ≠ 0) : t.1 < (rRn b n t fr).1.2.1 ∧ (rRn b n t fr).1.2.1 ≤ n := by
  have hS := tS_le (b := b) ht
  have hP := tP_le (b := b) ht
  by_cases h1 : tnC b n t.1 t.2.2.2.1 0 9 = 0
  · have e1 : rRn b n t fr = (tSm b n (tTk 0 b n t), tV b n t.1 t.2.2.2.1) := if_pos h1
    rw [e1] at h ⊢
    have hlt := tSm_lt (b := b) (t := tTk 0 b n t) hP.2 h
    have hle := (tP_le (b := b) hP.2).2
    have g1 : (tTk 0 b n t).1 = tP b n t.1 := rfl
    exact ⟨Nat.lt_of_le_of_lt (show t.1 ≤ (tTk 0 b n t).1 by omega) hlt, hle⟩
  · have e1 : rRn b n t fr = ((0, tTk (tnC b n t.1 t.2.2.2.1 0 9) b n t), fr) := if_neg h1
    rw [e1] at h
    exact absurd rfl h
theorem rBt_ok {b : Nat → Int32} {n z k : Nat} {nlN : Nat → Nat} {nl fp bh : Nat → Int32} {r : Nat → Nat → Int32} {t : TT} (hz : z ≤ 64) (ht : t.1 ≤ n) (h : (rBt b n t z nlN (k, nl, fp, bh, r)).1.1 ≠ 0) : k < 4 ∧ (rBt b n t z nlN (k, nl, fp, bh, r)).2.1 = k + 1 ∧ (∃ L, L ≤ 6 ∧ (rBt b n t z nlN (k, nl, fp, bh, r)).2.2.1 = upd nl k (nI L)) ∧ (∃ q, q < z ∧ (rBt b n t z nlN (k, nl, fp, bh, r)).2.2.2.1 = upd fp k (nI q)) ∧ t.1 < (rBt b n t z nlN (k, nl, fp, bh, r)).1.2.1 ∧ (rBt b n t z nlN (k, nl, fp, bh, r)).1.2.1 ≤ n := by
  have hS := tS_le (b := b) ht
  have hP := tP_le (b := b) ht
  have hS2 := tS_le (b := b) hP.2
  have hP2 := tP_le (b := b) hP.2
  have hS3 := tS_le (b := b) hP2.2
  have hP3 := tP_le (b := b) hP2.2
  by_cases h4 : 4 ≤ k
  · have e : rBt b n t z nlN (k, nl, fp, bh, r) = _ := if_pos h4
    rw [e] at h; exact absurd rfl h
  · by_cases h1 : tmC b n t.1 ≠ 0
    · have e : rBt b n t z nlN (k, nl, fp, bh, r) = _ := (if_neg h4).trans (if_pos h1)
      rw [e] at h; exact absurd rfl h
    · by_cases h2 : nmS (fun i => isN b (tS b n t.1) (tP b n t.1) (r i) (nlN i)) k 0 ≠ -1
      · have e : rBt b n t z nlN (k, nl, fp, bh, r) = _ := (if_neg h4).trans ((if_neg h1).trans (if_pos h2))
        rw [e] at h; exact absurd rfl h
      · by_cases h3 : tnC b n (tTk 0 b n t).1 (tTk 0 b n t).2.2.2.1 0 (nI z - 1) ≠ 0
        · have e : rBt b n t z nlN (k, nl, fp, bh, r) = _ := (if_neg h4).trans ((if_neg h1).trans ((if_neg h2).trans (if_pos h3)))
          rw [e] at h; exact absurd rfl h
        · by_cases h5 : tnC b n (tTk 0 b n (tTk 0 b n t)).1 (tTk 0 b n (tTk 0 b n t)).2.2.2.1 1 9 ≠ 0
          · have e : rBt b n t z nlN (k, nl, fp, bh, r) = _ := (if_neg h4).trans ((if_neg h1).trans ((if_neg h2).trans ((if_neg h3).trans (if_pos h5))))
            rw [e] at h; exact absurd rfl h
          · have e : rBt b n t z nlN (k, nl, fp, bh, r) = _ := (if_neg h4).trans ((if_neg h1).trans ((if_neg h2).trans ((if_neg h3).trans (if_neg h5))))
            rw [e] at h ⊢
            have hc := tnC_in (Decidable.not_not.mp h3)
            obtain ⟨q, hq, hq2⟩ := nI_ex (by omega) hc.1 hc.2
            have hlt := tSm_lt (b := b) (t := tTk 0 b n (tTk 0 b n (tTk 0 b n t))) hP3.2 h
            have hle := (tP_le (b := b) hP3.2).2
            have g1 : (tTk 0 b n (tTk 0 b n (tTk 0 b n t))).1 = tP b n (tP b n (tP b n t.1)) := rfl
            refine ⟨by omega, rfl, ⟨_, tmC_in (Decidable.not_not.mp h1), rfl⟩, ⟨q, hq, ?_⟩, ?_, hle⟩
            · show upd fp k (tTk 0 b n (tTk 0 b n t)).2.2.2.1 = _
              rw [show (tTk 0 b n (tTk 0 b n t)).2.2.2.1 = nI q from hq2]
            · exact Nat.lt_of_le_of_lt (show t.1 ≤ (tTk 0 b n (tTk 0 b n (tTk 0 b n t))).1 by omega) hlt
/-- what holds of a plan while it is read -/
def PIv (x : PP) : Prop := x.1.1 ≤ 8 ∧ x.1.2.1 ≤ 8 ∧ x.1.2.2 = x.1.1 * x.1.2.1 ∧ (x.1.1 = 0 ∨ 2 ≤ x.1.2.1) ∧ x.2.2.2.2.1 ≤ 4 ∧ (∀ i, i < x.2.2.2.2.1 → x.2.2.2.2.2.1 i = nI (x.2.2.2.2.2.1 i).toNatClampNeg ∧ (x.2.2.2.2.2.1 i).toNatClampNeg ≤ 6) ∧ (∀ i, i < x.2.2.2.2.1 → ∃ q, q < x.1.2.2 ∧ x.2.2.2.2.2.2.1 i = nI q)
theorem PIv_z {x : PP} (h : PIv x) : x.1.2.2 ≤ 64 ∧ (x.1.1 < 8 → x.1.2.2 + moO x.1.1 x.1.2.1 ≤ 64) ∧ moO x.1.1 x.1.2.1 ≤ 8 ∧ leO x.1.1 x.1.2.1 ≤ 8 ∧ ((x.1.1 = 0 ∧ leO x.1.1 x.1.2.1 = 2 ∧ moO x.1.1 x.1.2.1 = 8) ∨ (0 < x.1.1 ∧ leO x.1.1 x.1.2.1 = x.1.2.1 ∧ moO x.1.1 x.1.2.1 = x.1.2.1)) := by
  obtain ⟨h1, h2, h3, h4, -⟩ := h
  have h64 : x.1.1 * x.1.2.1 ≤ 8 * 8 := Nat.mul_le_mul h1 h2
  refine ⟨by omega, fun h8 => ?_, ?_, ?_, ?_⟩
  · by_cases h0 : x.1.1 = 0
    · rw [h3, h0]; unfold moO; rw [if_pos rfl]; omega
    · unfold moO
      rw [if_neg h0, h3]
      have := Nat.mul_le_mul (show x.1.1 + 1 ≤ 8 by omega) h2
      rw [Nat.succ_mul] at this
      omega
  · unfold moO; split <;> omega
  · unfold leO; split <;> omega
  · by_cases h0 : x.1.1 = 0
    · exact Or.inl ⟨h0, if_pos h0, if_pos h0⟩
    · exact Or.inr ⟨by omega, if_neg h0, if_neg h0⟩
theorem rSt_ok {b : Nat → Int32} {n : Nat} {t : TT} {x : PP} (hx : PIv x) (ht : t.1 ≤ n) (h : (rSt b n t x).1.1 ≠ 0) : PIv (rSt b n t x).2 ∧ t.1 < (rSt b n t x).1.2.1 ∧ (rSt b n t x).1.2.1 ≤ n := by
  have hz := PIv_z hx
  obtain ⟨⟨u, v, z⟩, he, gu, fr, k, nl, fp, bh, r⟩ := x
  obtain ⟨x1, x2, x3, x4, x5, x6, x7⟩ := hx
  dsimp only at x1 x2 x3 x4 x5 x6 x7 hz
  by_cases w1 : tW b t wRow = 1
  · have e : rSt b n t ((u, v, z), he, gu, fr, k, nl, fp, bh, r) = _ := if_pos w1
    rw [e] at h ⊢
    have hlm : leO u v ≤ moO u v := by
      rcases hz.2.2.2.2 with ⟨_, a, c⟩ | ⟨_, a, c⟩ <;> omega
    obtain ⟨g1, g2, g3, g4, g5, g6, g7⟩ := rRw_ok ht hlm h
    refine ⟨⟨?_, ?_, ?_, ?_, x5, x6, fun i hi => ?_⟩, g6, g7⟩
    · show (rRw b n t u v z (leO u v) (moO u v) he).2.2.1 ≤ 8; omega
    · show (rRw b n t u v z (leO u v) (moO u v) he).2.2.2.1 ≤ 8; omega
    · show (rRw b n t u v z (leO u v) (moO u v) he).2.2.2.2 = (rRw b n t u v z (leO u v) (moO u v) he).2.2.1 * (rRw b n t u v z (leO u v) (moO u v) he).2.2.2.1; rw [g2]; exact g5
    · right
      show 2 ≤ (rRw b n t u v z (leO u v) (moO u v) he).2.2.2.1
      rcases hz.2.2.2.2 with ⟨_, a, c⟩ | ⟨a0, a, c⟩ <;> omega
    · obtain ⟨q, hq, hq2⟩ := x7 i hi
      refine ⟨q, ?_, hq2⟩
      show q < (rRw b n t u v z (leO u v) (moO u v) he).2.2.2.2
      rw [g5]
      rcases hz.2.2.2.2 with ⟨a0, a, c⟩ | ⟨a0, a, c⟩
      · rw [x3, a0, Nat.zero_mul] at hq; omega
      · have : (rRw b n t u v z (leO u v) (moO u v) he).2.2.2.1 = v := by omega
        rw [this, Nat.succ_mul]
        omega
  · by_cases w2 : tW b t wGutter = 1
    · have e : rSt b n t ((u, v, z), he, gu, fr, k, nl, fp, bh, r) = _ := (if_neg w1).trans (if_pos w2)
      rw [e] at h ⊢
      obtain ⟨g6, g7⟩ := rGt_ok ht h
      exact ⟨⟨x1, x2, x3, x4, x5, x6, x7⟩, g6, g7⟩
    · by_cases w3 : tW b t wBoots = 1
      · have e : rSt b n t ((u, v, z), he, gu, fr, k, nl, fp, bh, r) = _ := (if_neg w1).trans ((if_neg w2).trans (if_pos w3))
        rw [e] at h ⊢
        obtain ⟨g1, g2, ⟨L, hL, g3⟩, ⟨q, hq, g4⟩, g6, g7⟩ := rBt_ok hz.1 ht h
        refine ⟨⟨x1, x2, x3, x4, ?_, fun i hi => ?_, fun i hi => ?_⟩, g6, g7⟩
        · show (rBt b n t z _ (k, nl, fp, bh, r)).2.1 ≤ 4
          rw [g2]; omega
        · have hi2 : i < k + 1 := by rw [← g2]; exact hi
          show (rBt b n t z _ (k, nl, fp, bh, r)).2.2.1 i = nI ((rBt b n t z _ (k, nl, fp, bh, r)).2.2.1 i).toNatClampNeg ∧ ((rBt b n t z _ (k, nl, fp, bh, r)).2.2.1 i).toNatClampNeg ≤ 6
          rw [g3]
          by_cases hik : i = k
          · subst hik
            rw [pk_us, nI_clamp (by omega)]
            exact ⟨rfl, hL⟩
          · rw [pk_un hik]
            exact x6 i (show i < k by omega)
        · have hi2 : i < k + 1 := by rw [← g2]; exact hi
          show ∃ q, q < z ∧ (rBt b n t z _ (k, nl, fp, bh, r)).2.2.2.1 i = nI q
          rw [g4]
          by_cases hik : i = k
          · subst hik
            exact ⟨q, hq, pk_us⟩
          · rw [pk_un hik]
            exact x7 i (show i < k by omega)
      · by_cases w4 : tW b t wRain = 1
        · have e : rSt b n t ((u, v, z), he, gu, fr, k, nl, fp, bh, r) = _ := (if_neg w1).trans ((if_neg w2).trans ((if_neg w3).trans (if_pos w4)))
          rw [e] at h ⊢
          obtain ⟨g6, g7⟩ := rRn_ok ht h
          exact ⟨⟨x1, x2, x3, x4, x5, x6, x7⟩, g6, g7⟩
        · have e : rSt b n t ((u, v, z), he, gu, fr, k, nl, fp, bh, r) = _ := (if_neg w1).trans ((if_neg w2).trans ((if_neg w3).trans (if_neg w4)))
          rw [e] at h
          exact absurd rfl h
/-- a plan's module, a text's module, by what was read -/
def vPx (B1 : Nat → Nat → Int32) (be nm : Nat → Int32) (x : PP) : Nat → Nat → Int32 := vP B1 (nI x.1.1) (nI x.1.2.1) (nI x.1.2.2) (nI x.2.2.2.2.1) x.2.2.2.1 x.2.1 x.2.2.1 be nm x.2.2.2.2.2.1 x.2.2.2.2.2.2.2.1 x.2.2.2.2.2.2.1 (x.2.2.2.2.2.2.2.2 0) (x.2.2.2.2.2.2.2.2 1) (x.2.2.2.2.2.2.2.2 2) (x.2.2.2.2.2.2.2.2 3)
def vTx (B0 : Nat → Nat → Int32) (n : Nat) (bs : Nat → Int32) (t : TT) : Nat → Nat → Int32 := vT B0 (nI n) (nI t.1) t.2.1 t.2.2.1 t.2.2.2.1 t.2.2.2.2.1 t.2.2.2.2.2 bs
theorem tW_eq {b : Nat → Int32} {p s : Nat} {ki va ec eo : Int32} {w : List Int32} (hs : s ≤ 600) : tW b (p, ki, nI s, va, ec, eo) w = isW b ki s p w := by
  unfold tW
  show isW b ki (nI s).toNatClampNeg p w = _
  rw [nI_clamp (by omega)]
