/-! a script's statement: the reference against the class -/
def ch (b : Nat → Int32) (n : Nat) (x : PP) (v : Nat) (t : TT) : TT × Int32 × Int32 × Int32 := match v with
  | 0 => (mAd b n (mNe t 0 9), mNv t 0 9, 0, 0)
  | 1 => (mAd b n (mNe (mAd b n (mNe (mCl b n x.1.2.2 t) 1 20)) 1 60), mNv t 0 (nI x.1.2.2 - 1), mNv (mCl b n x.1.2.2 t) 1 20, mNv (mAd b n (mNe (mCl b n x.1.2.2 t) 1 20)) 1 60)
  | 3 => (mAd b n (mNe (mCl b n x.1.2.2 t) 1 9), mNv t 0 (nI x.1.2.2 - 1), mNv (mCl b n x.1.2.2 t) 1 9, 0)
  | 5 => (mAd b n (mNe (kbT b n x t) 0 3), imax 0 (kbO b x t), mNv (kbT b n x t) 0 3, 0)
  | 6 => (kbT b n x t, imax 0 (kbO b x t), 0, 0)
  | 7 => (mAd b n (mNe t 1 60), mNv t 1 60, 0, 0)
  | _ => (mCl b n x.1.2.2 t, mNv t 0 (nI x.1.2.2 - 1), 0, 0)
/-- what stands in the statements' array for statement k of kind v -/
def stC (S2 S : Nat → Int32) (k v : Nat) (c : Int32 × Int32 × Int32) : Prop := S2 (4 * k) = nI v ∧ S2 (4 * k + 1) = c.1 ∧ ((v = 1 ∨ v = 3 ∨ v = 5) → S2 (4 * k + 2) = c.2.1) ∧ (v = 1 → S2 (4 * k + 3) = c.2.2) ∧ ∀ q, q < 4 * k → S2 q = S q
/-- the reference's text behind the class's numbers -/
def rN (b : Nat → Int32) (n : Nat) (t : TT) (y : NR) : Prop := (¬ y.1.1 = 0 ∧ rK b n t y.1.2) ∨ (y.1.1 = 0 ∧ rX t y.1.2)
section CHO
variable {b : Nat → Int32} {n ct : Nat} {t u : TT} {f : CF}
theorem nu_a {lo hi : Int32} {g : CF} (h : rK b n t u) : rN b n (mAd b n (mNe t lo hi)) ((feI (tnC b n u.1 u.2.2.2.1 lo hi) 1 0, tTk (tnC b n u.1 u.2.2.2.1 lo hi) b n u), g) ∧ (¬ feI (tnC b n u.1 u.2.2.2.1 lo hi) 1 0 = 0 → mNv t lo hi = tV b n u.1 u.2.2.2.1) := by
  obtain ⟨n1, n2⟩ := rK_n h lo hi
  by_cases c : tnC b n u.1 u.2.2.2.1 lo hi = 0
  · obtain ⟨_, k1, e1⟩ := n1 c
    rw [c]
    exact ⟨Or.inl ⟨by show ¬ feI 0 1 0 = 0; rw [feI_0]; decide, k1⟩, fun _ => e1⟩
  · have x1 := n2 c
    have e0 : feI (tnC b n u.1 u.2.2.2.1 lo hi) 1 0 = 0 := if_neg c
    rw [mAd_x x1.1]
    exact ⟨Or.inr ⟨e0, x1⟩, fun q => absurd e0 q⟩
theorem nu_b {lo hi : Int32} (h : 0 < t.2.2.2.2.1) : mAd b n (mNe t lo hi) = t := by rw [mNe_x h, mAd_x h]
theorem kb_ok {x : PP} (hx : PIv x) (hn : n ≤ 600) (h : rK b n t u) : rN b n (kbT b n x t) (nuN b n ct x.2.2.2.2.1 (fun i => (x.2.2.2.2.2.1 i).toNatClampNeg) x.2.2.2.2.2.2.2.2 u f) ∧ (¬ (nuN b n ct x.2.2.2.2.1 (fun i => (x.2.2.2.2.2.1 i).toNatClampNeg) x.2.2.2.2.2.2.2.2 u f).1.1 = 0 → imax 0 (kbO b x t) = (nuN b n ct x.2.2.2.2.1 (fun i => (x.2.2.2.2.2.1 i).toNatClampNeg) x.2.2.2.2.2.2.2.2 u f).2.1 ct) := by
  obtain ⟨s1, s2⟩ := rK_st hn h
  obtain ⟨m1, m2⟩ := rK_m h
  unfold nuN
  by_cases c1 : tmC b n u.1 = 0
  · obtain ⟨g1, g2⟩ := m1 c1
    rw [if_pos c1]
    have e3 : kb3 t = t := by
      unfold kb3
      rw [show aNm t = 1 from if_pos ⟨g1, by omega⟩, mEx_n (a := 1) (by decide)]
    have eO : kbO b x t = nuG b n x.2.2.2.2.1 (fun i => (x.2.2.2.2.2.1 i).toNatClampNeg) x.2.2.2.2.2.2.2.2 u := by
      unfold kbO
      rw [e3, if_pos h.1, s1, s2, kNw_eq hx g2]
      rfl
    by_cases c2 : nuG b n x.2.2.2.2.1 (fun i => (x.2.2.2.2.2.1 i).toNatClampNeg) x.2.2.2.2.2.2.2.2 u = -1
    · rw [if_pos c2]
      have x1 : rX (mEx 0 3 t) (tFl 3 (tTk 0 b n u)) := by
        rw [mEx_0 h.1]
        exact ⟨(by decide : (0 : Int32) < 3), rfl, h.2.2.2.2.2.1⟩
      unfold kbT
      rw [eO, if_pos c2, e3, mAd_x x1.1]
      exact ⟨Or.inr ⟨rfl, x1⟩, fun q => absurd rfl q⟩
    · rw [if_neg c2]
      unfold kbT
      rw [eO, if_neg c2, e3, mEx_n (a := 1) (by decide)]
      refine ⟨Or.inl ⟨(by decide : ¬ (1 : Int32) = 0), rK_t h⟩, fun _ => ?_⟩
      show imax 0 _ = upd f.1 ct _ ct
      rw [upd_at]
      have : ∀ (g : Nat → Int32) (f i : Nat), f + i < 2 ^ 31 → nmS g f i = -1 ∨ 0 ≤ nmS g f i := by
        intro g f
        induction f with
        | zero => intro i _; exact Or.inl rfl
        | succ f ih =>
          intro i hi
          show (if g i = 0 then nmS g f (i + 1) else nI i) = -1 ∨ 0 ≤ (if g i = 0 then nmS g f (i + 1) else nI i)
          split
          · exact ih (i + 1) (by omega)
          · exact Or.inr (Int32.not_lt.mp (nI_pos (by omega)))
      rcases this (fun i => isN b (tS b n u.1) (tP b n u.1) (x.2.2.2.2.2.2.2.2 i) (x.2.2.2.2.2.1 i).toNatClampNeg) x.2.2.2.2.1 0 (by have := hx.2.2.2.2.1; omega) with q2 | q2
      · exact absurd q2 c2
      · have q3 : (0 : Int32) ≤ nuG b n x.2.2.2.2.1 (fun i => (x.2.2.2.2.2.1 i).toNatClampNeg) x.2.2.2.2.2.2.2.2 u := q2
        generalize nuG b n x.2.2.2.2.1 (fun i => (x.2.2.2.2.2.1 i).toNatClampNeg) x.2.2.2.2.2.2.2.2 u = w at q3 ⊢
        unfold imax
        by_cases q4 : 0 < w
        · rw [if_pos q4]
        · rw [if_neg q4]
          exact Int32.le_antisymm q3 (Int32.not_lt.mp q4)
  · obtain ⟨g1, g2⟩ := m2 c1
    rw [if_neg c1, g1]
    have x1 := rK_x h (show (0 : Int32) < 1 by decide)
    have e3 : kb3 t = mEx 0 1 t := by
      unfold kb3
      rw [show aNm t = 0 from if_neg (fun q => g2 ⟨q.1, by omega⟩)]
    have eO : kbO b x t = 0 := by
      unfold kbO
      rw [e3]
      exact if_neg (fz x1.1)
    unfold kbT
    rw [eO, if_neg (by decide), e3, mEx_x x1.1, mAd_x x1.1]
    exact ⟨Or.inr ⟨rfl, x1⟩, fun q => absurd rfl q⟩
end CHO
section CHP
variable {b : Nat → Int32} {n ct : Nat} {t u : TT} {f : CF} {x : PP}
theorem rN_x {y : NR} (h : rN b n t y) (h0 : y.1.1 = 0) : rX t y.1.2 := by
  rcases h with h | h
  · exact absurd h0 h.1
  · exact h.2
theorem rN_k {y : NR} (h : rN b n t y) (h0 : ¬ y.1.1 = 0) : rK b n t y.1.2 := by
  rcases h with h | h
  · exact h.2
  · exact absurd h.1 h0
/-- the chain of a statement's numbers -/
theorem ch_ok (hx : PIv x) (hn : n ≤ 600) (h : rK b n t u) : ∀ v, rN b n (ch b n x v t).1 (rNx b n x ct v u f) ∧ (¬ (rNx b n x ct v u f).1.1 = 0 → (ch b n x v t).2.1 = (rNx b n x ct v u f).2.1 ct ∧ ((v = 1 ∨ v = 3 ∨ v = 5) → (ch b n x v t).2.2.1 = (rNx b n x ct v u f).2.2.1 ct) ∧ (v = 1 → (ch b n x v t).2.2.2 = (rNx b n x ct v u f).2.2.2 ct)) := by
  have one : ∀ (lo hi : Int32), rN b n (mAd b n (mNe t lo hi)) (nu1 b n ct lo hi u f) ∧ (¬ (nu1 b n ct lo hi u f).1.1 = 0 → mNv t lo hi = (nu1 b n ct lo hi u f).2.1 ct) := by
    intro lo hi
    obtain ⟨a1, a2⟩ := nu_a (g := (nu1 b n ct lo hi u f).2) h (lo := lo) (hi := hi)
    exact ⟨a1, fun q => (a2 q).trans upd_at.symm⟩
  have two : ∀ (t1 : TT) (y : NR) (lo hi : Int32), rN b n t1 y → rN b n (mAd b n (mNe t1 lo hi)) (nuA y (fun t f => nu2 b n ct lo hi t f)) ∧ (¬ (nuA y (fun t f => nu2 b n ct lo hi t f)).1.1 = 0 → ¬ y.1.1 = 0 ∧ mNv t1 lo hi = (nuA y (fun t f => nu2 b n ct lo hi t f)).2.2.1 ct ∧ (nuA y (fun t f => nu2 b n ct lo hi t f)).2.1 = y.2.1) := by
    intro t1 y lo hi hy
    by_cases h0 : y.1.1 = 0
    · rw [nuA_0 h0, nu_b (rN_x hy h0).1]
      exact ⟨hy, fun q => absurd h0 q⟩
    · rw [nuA_1 h0]
      obtain ⟨a1, a2⟩ := nu_a (g := (nu2 b n ct lo hi y.1.2 y.2).2) (rN_k hy h0) (lo := lo) (hi := hi)
      exact ⟨a1, fun q => ⟨h0, (a2 q).trans upd_at.symm, rfl⟩⟩
  have three : ∀ (t1 : TT) (y : NR) (lo hi : Int32), rN b n t1 y → rN b n (mAd b n (mNe t1 lo hi)) (nuA y (fun t f => nu3 b n ct lo hi t f)) ∧ (¬ (nuA y (fun t f => nu3 b n ct lo hi t f)).1.1 = 0 → ¬ y.1.1 = 0 ∧ mNv t1 lo hi = (nuA y (fun t f => nu3 b n ct lo hi t f)).2.2.2 ct ∧ (nuA y (fun t f => nu3 b n ct lo hi t f)).2.1 = y.2.1 ∧ (nuA y (fun t f => nu3 b n ct lo hi t f)).2.2.1 = y.2.2.1) := by
    intro t1 y lo hi hy
    by_cases h0 : y.1.1 = 0
    · rw [nuA_0 h0, nu_b (rN_x hy h0).1]
      exact ⟨hy, fun q => absurd h0 q⟩
    · rw [nuA_1 h0]
      obtain ⟨a1, a2⟩ := nu_a (g := (nu3 b n ct lo hi y.1.2 y.2).2) (rN_k hy h0) (lo := lo) (hi := hi)
      exact ⟨a1, fun q => ⟨h0, (a2 q).trans upd_at.symm, rfl, rfl⟩⟩
  have no : ∀ {P : Prop} {v : Nat}, ¬ (v = 1 ∨ v = 3 ∨ v = 5) → (v = 1 ∨ v = 3 ∨ v = 5) → P := fun a c => absurd c a
  intro v
  match v with
  | 0 =>
    obtain ⟨a1, a2⟩ := one 0 9
    have ec : ch b n x (0) t = (mAd b n (mNe t 0 9), mNv t 0 9, 0, 0) := rfl
    have er : rNx b n x ct (0) u f = nu1 b n ct 0 9 u f := rfl
    rw [ec, er]
    exact ⟨a1, fun q => ⟨a2 q, fun c => absurd c (by omega), fun c => absurd c (by omega)⟩⟩
  | 1 =>
    obtain ⟨a1, a2⟩ := one 0 (nI x.1.2.2 - 1)
    have e : rNx b n x ct 1 u f = nuA (nuA (nu1 b n ct 0 (nI x.1.2.2 - 1) u f) (fun t f => nu2 b n ct 1 20 t f)) (fun t f => nu3 b n ct 1 60 t f) := by
      show nuA (nu1 b n ct 0 (nI x.1.2.2 - 1) u f) (fun t f => nuA (nu2 b n ct 1 20 t f) (fun t f => nu3 b n ct 1 60 t f)) = _
      by_cases h0 : (nu1 b n ct 0 (nI x.1.2.2 - 1) u f).1.1 = 0
      · rw [nuA_0 h0, nuA_0 h0, nuA_0 h0]
      · rw [nuA_1 h0, nuA_1 h0]
    have ec : ch b n x 1 t = (mAd b n (mNe (mAd b n (mNe (mCl b n x.1.2.2 t) 1 20)) 1 60), mNv t 0 (nI x.1.2.2 - 1), mNv (mCl b n x.1.2.2 t) 1 20, mNv (mAd b n (mNe (mCl b n x.1.2.2 t) 1 20)) 1 60) := rfl
    have a1' : rN b n (mCl b n x.1.2.2 t) (nu1 b n ct 0 (nI x.1.2.2 - 1) u f) := a1
    rw [ec, e]
    dsimp only
    clear ec e a1
    generalize mCl b n x.1.2.2 t = t1 at a1' ⊢
    generalize nu1 b n ct 0 (nI x.1.2.2 - 1) u f = y1 at a1' a2 ⊢
    generalize mNv t 0 (nI x.1.2.2 - 1) = w1 at a2 ⊢
    obtain ⟨b1, b2⟩ := two t1 y1 1 20 a1'
    generalize mAd b n (mNe t1 1 20) = t2 at b1 ⊢
    generalize nuA y1 (fun t f => nu2 b n ct 1 20 t f) = y2 at b1 b2 ⊢
    obtain ⟨c1, c2⟩ := three t2 y2 1 60 b1
    refine ⟨c1, fun q => ?_⟩
    obtain ⟨d1, d2, d3, d4⟩ := c2 q
    obtain ⟨e1, e2, e3⟩ := b2 d1
    exact ⟨by rw [d3, e3]; exact a2 e1, fun _ => by rw [d4]; exact e2, fun _ => d2⟩
  | 2 =>
    obtain ⟨a1, a2⟩ := one 0 (nI x.1.2.2 - 1)
    have ec : ch b n x (2) t = (mCl b n x.1.2.2 t, mNv t 0 (nI x.1.2.2 - 1), 0, 0) := rfl
    have er : rNx b n x ct (2) u f = nu1 b n ct 0 (nI x.1.2.2 - 1) u f := rfl
    rw [ec, er]
    exact ⟨a1, fun q => ⟨a2 q, fun c => absurd c (by omega), fun c => absurd c (by omega)⟩⟩
  | 3 =>
    obtain ⟨a1, a2⟩ := one 0 (nI x.1.2.2 - 1)
    have ec : ch b n x 3 t = (mAd b n (mNe (mCl b n x.1.2.2 t) 1 9), mNv t 0 (nI x.1.2.2 - 1), mNv (mCl b n x.1.2.2 t) 1 9, 0) := rfl
    have er : rNx b n x ct 3 u f = nuA (nu1 b n ct 0 (nI x.1.2.2 - 1) u f) (fun t f => nu2 b n ct 1 9 t f) := rfl
    have a1' : rN b n (mCl b n x.1.2.2 t) (nu1 b n ct 0 (nI x.1.2.2 - 1) u f) := a1
    rw [ec, er]
    dsimp only
    clear ec er a1
    generalize mCl b n x.1.2.2 t = t1 at a1' ⊢
    generalize nu1 b n ct 0 (nI x.1.2.2 - 1) u f = y1 at a1' a2 ⊢
    generalize mNv t 0 (nI x.1.2.2 - 1) = w1 at a2 ⊢
    obtain ⟨b1, b2⟩ := two t1 y1 1 9 a1'
    refine ⟨b1, fun q => ?_⟩
    obtain ⟨e1, e2, e3⟩ := b2 q
    exact ⟨(a2 e1).trans (congrFun e3 ct).symm, fun _ => e2, fun c => absurd c (by decide)⟩
  | 4 =>
    obtain ⟨a1, a2⟩ := one 0 (nI x.1.2.2 - 1)
    have ec : ch b n x (4) t = (mCl b n x.1.2.2 t, mNv t 0 (nI x.1.2.2 - 1), 0, 0) := rfl
    have er : rNx b n x ct (4) u f = nu1 b n ct 0 (nI x.1.2.2 - 1) u f := rfl
    rw [ec, er]
    exact ⟨a1, fun q => ⟨a2 q, fun c => absurd c (by omega), fun c => absurd c (by omega)⟩⟩
  | 5 =>
    obtain ⟨a1, a2⟩ := kb_ok (ct := ct) (f := f) hx hn h
    have ec : ch b n x 5 t = (mAd b n (mNe (kbT b n x t) 0 3), imax 0 (kbO b x t), mNv (kbT b n x t) 0 3, 0) := rfl
    have er : rNx b n x ct 5 u f = nuA (nuN b n ct x.2.2.2.2.1 (fun i => (x.2.2.2.2.2.1 i).toNatClampNeg) x.2.2.2.2.2.2.2.2 u f) (fun t f => nu2 b n ct 0 3 t f) := rfl
    have a1' : rN b n (kbT b n x t) (nuN b n ct x.2.2.2.2.1 (fun i => (x.2.2.2.2.2.1 i).toNatClampNeg) x.2.2.2.2.2.2.2.2 u f) := a1
    rw [ec, er]
    dsimp only
    clear ec er a1
    generalize kbT b n x t = t1 at a1' ⊢
    generalize nuN b n ct x.2.2.2.2.1 (fun i => (x.2.2.2.2.2.1 i).toNatClampNeg) x.2.2.2.2.2.2.2.2 u f = y1 at a1' a2 ⊢
    generalize imax 0 (kbO b x t) = w1 at a2 ⊢
    obtain ⟨b1, b2⟩ := two t1 y1 0 3 a1'
    refine ⟨b1, fun q => ?_⟩
    obtain ⟨e1, e2, e3⟩ := b2 q
    exact ⟨(a2 e1).trans (congrFun e3 ct).symm, fun _ => e2, fun c => absurd c (by decide)⟩
  | 6 =>
    obtain ⟨a1, a2⟩ := kb_ok (ct := ct) (f := f) hx hn h
    have ec : ch b n x 6 t = (kbT b n x t, imax 0 (kbO b x t), 0, 0) := rfl
    have er : rNx b n x ct 6 u f = nuN b n ct x.2.2.2.2.1 (fun i => (x.2.2.2.2.2.1 i).toNatClampNeg) x.2.2.2.2.2.2.2.2 u f := rfl
    rw [ec, er]
    exact ⟨a1, fun q => ⟨a2 q, fun c => absurd c (by decide), fun c => absurd c (by decide)⟩⟩
  | 7 =>
    obtain ⟨a1, a2⟩ := one 1 60
    have ec : ch b n x (7) t = (mAd b n (mNe t 1 60), mNv t 1 60, 0, 0) := rfl
    have er : rNx b n x ct (7) u f = nu1 b n ct 1 60 u f := rfl
    rw [ec, er]
    exact ⟨a1, fun q => ⟨a2 q, fun c => absurd c (by omega), fun c => absurd c (by omega)⟩⟩
  | v + 8 =>
    obtain ⟨a1, a2⟩ := one 0 (nI x.1.2.2 - 1)
    have ec : ch b n x (v + 8) t = (mCl b n x.1.2.2 t, mNv t 0 (nI x.1.2.2 - 1), 0, 0) := rfl
    have er : rNx b n x ct (v + 8) u f = nu1 b n ct 0 (nI x.1.2.2 - 1) u f := rfl
    rw [ec, er]
    exact ⟨a1, fun q => ⟨a2 q, fun c => absurd c (by omega), fun c => absurd c (by omega)⟩⟩
end CHP
