/-! the setup text as the law writes it, and what the class reads -/
def AtT (b : Nat → Int32) (p : Nat) (w : List Nat) : Prop := ∀ i, i < w.length → b (p + i) = nI (w.getD i 0)
theorem AtT_l {b : Nat → Int32} {p : Nat} {u w : List Nat} (h : AtT b p (u ++ w)) : AtT b p u := fun i hi => by
  rw [h i (by rw [List.length_append]; omega), getD_l hi]
theorem AtT_r {b : Nat → Int32} {p : Nat} {u w : List Nat} (h : AtT b p (u ++ w)) : AtT b (p + u.length) w := fun i hi => by
  have := h (u.length + i) (by rw [List.length_append]; omega)
  rw [getD_r (Nat.le_add_right _ _), Nat.add_sub_cancel_left, ← Nat.add_assoc] at this
  exact this
theorem AtT_0 {b : Nat → Int32} {p c : Nat} {w : List Nat} (h : AtT b p (c :: w)) : b p = nI c := h 0 (Nat.succ_pos _)
theorem AtT_s {b : Nat → Int32} {p c : Nat} {w : List Nat} (h : AtT b p (c :: w)) : AtT b (p + 1) w := AtT_r (u := [c]) h
theorem cLq : ∀ c, c < 128 → cL (nI c) = (decide (97 ≤ c) && decide (c ≤ 122)) := by decide +kernel
theorem cDq : ∀ c, c < 128 → cD (nI c) = (decide (48 ≤ c) && decide (c ≤ 57)) := by decide +kernel
theorem cBq : ∀ c, c < 128 → cB (nI c) = (decide (c = 32) || decide (c = 10)) := by decide +kernel
theorem dgq : ∀ c, c < 10 → 10 * (0 : Int32) + nI (48 + c) - 48 = nI c := by decide +kernel
theorem dgq2 : ∀ v, v < 100 → 10 * nI (v / 10) + nI (48 + v % 10) - 48 = nI v := by decide +kernel
theorem scan_run {P : Int32 → Bool} {b : Nat → Int32} {n p : Nat} : ∀ k, p + k < n → (∀ i, i < k → P (b (p + i)) = true) → P (b (p + k)) = false → scan P b n p = p + k
  | 0, h, _, h2 => scan_no h h2
  | k + 1, h, h1, h2 => by
    have h3 := h1 k (by omega)
    have : ∀ j, j ≤ k + 1 → scan P b n (p + j) = scan P b n p := by
      intro j
      induction j with
      | zero => intro _; rfl
      | succ j ih => intro hj; rw [← ih (by omega)]; exact scan_go (p := p + j) (show p + j < n by omega) (h1 j (by omega))
    rw [← this (k + 1) (Nat.le_refl _)]
    exact scan_no h h2
/-- a semicolon -/
theorem tk_sm {b : Nat → Int32} {n p : Nat} (h : p < n) (hb : b p = nI 59) : tS b n p = p ∧ tP b n p = p + 1 ∧ tK b n p = 3 := by
  have e1 : tS b n p = p := scan_no h (by rw [hb]; rfl)
  refine ⟨e1, ?_, ?_⟩
  · unfold tP
    rw [e1, if_neg (by omega), hb]
    rfl
  · unfold tK
    rw [e1, if_neg (by omega), hb]
    rfl
/-- a word -/
theorem tk_wd {b : Nat → Int32} {n p k : Nat} (h0 : 0 < k) (h8 : k ≤ 8) (h : p + k < n) (hb : ∀ i, i < k → cL (b (p + i)) = true ∧ cB (b (p + i)) = false) (he : cL (b (p + k)) = false) : tS b n p = p ∧ tP b n p = p + k ∧ tK b n p = 1 := by
  have e1 : tS b n p = p := scan_no (by omega) ((hb 0 h0).2)
  have e2 : scan cL b n p = p + k := scan_run k h (fun i hi => (hb i hi).1) he
  have e3 : cL (b p) = true := (hb 0 h0).1
  refine ⟨e1, ?_, ?_⟩
  · unfold tP
    rw [e1, if_neg (by omega), if_pos e3, e2]
  · unfold tK
    rw [e1, if_neg (by omega), if_pos e3, e2]
    unfold wK
    rw [if_pos (by omega)]
/-- a word behind a space -/
theorem tk_sw {b : Nat → Int32} {n p c : Nat} (h : p + 2 < n) (h0 : b p = nI 32) (h1 : b (p + 1) = nI c) (h2 : b (p + 2) = nI 32) (hc : 97 ≤ c ∧ c ≤ 122) : tS b n p = p + 1 ∧ tP b n p = p + 2 ∧ tK b n p = 1 := by
  have q1 : cB (b (p + 1)) = false := by rw [h1, cBq c (by omega)]; simp; omega
  have q2 : cL (b (p + 1)) = true := by rw [h1, cLq c (by omega)]; simp; omega
  have e1 : tS b n p = p + 1 := scan_run 1 (by omega) (fun i hi => by rw [show p + i = p by omega, h0]; rfl) q1
  have e2 : scan cL b n (p + 1) = p + 1 + 1 := scan_run 1 (by omega) (fun i hi => by rw [show p + 1 + i = p + 1 by omega]; exact q2) (by rw [h2]; rfl)
  refine ⟨e1, ?_, ?_⟩
  · unfold tP
    rw [e1, if_neg (by omega), if_pos q2, e2]
  · unfold tK
    rw [e1, if_neg (by omega), if_pos q2, e2]
    unfold wK
    rw [if_pos (by omega)]
/-- a number behind a space -/
theorem tk_nu {b : Nat → Int32} {n p v e : Nat} {va : Int32} (hv : v < 100) (he : e = 32 ∨ e = 59) (h : p + 1 + (digs v).length < n) (hb : AtT b p (32 :: digs v ++ [e])) : tS b n p = p + 1 ∧ tP b n p = p + 1 + (digs v).length ∧ tK b n p = 2 ∧ tV b n p va = nI v := by
  have h0 : b p = nI 32 := AtT_0 hb
  have h1 : AtT b (p + 1) (digs v) := AtT_l (AtT_s hb)
  have h2 : b (p + 1 + (digs v).length) = nI e := AtT_0 (AtT_r (u := digs v) (AtT_s hb))
  have hd : ∀ i, i < (digs v).length → cD (b (p + 1 + i)) = true ∧ cB (b (p + 1 + i)) = false ∧ cL (b (p + 1 + i)) = false := by
    intro i hi
    rw [h1 i hi]
    obtain ⟨q, hq, hq2⟩ : ∃ q, q < 10 ∧ (digs v).getD i 0 = 48 + q := by
      rcases Nat.lt_or_ge v 10 with h10 | h10
      · rw [digs_1 h10] at hi ⊢
        obtain rfl : i = 0 := Nat.lt_one_iff.mp hi
        exact ⟨v, h10, rfl⟩
      · rw [digs_2 (by omega)] at hi ⊢
        have hi2 : i < 2 := hi
        rcases (show i = 0 ∨ i = 1 by omega) with rfl | rfl
        · exact ⟨v / 10, by omega, rfl⟩
        · exact ⟨v % 10, by omega, rfl⟩
    rw [hq2, cDq _ (by omega), cBq _ (by omega), cLq _ (by omega)]
    simp
    omega
  have hl0 : 0 < (digs v).length := by unfold digs; split <;> exact Nat.succ_pos _
  have hl2 : (digs v).length ≤ 2 := by unfold digs; split <;> exact Nat.le_of_ble_eq_true rfl
  obtain ⟨d1, d2, d3⟩ := hd 0 hl0
  have e1 : tS b n p = p + 1 := scan_run 1 (by omega) (fun i hi => by rw [show p + i = p by omega, h0]; rfl) d2
  have e2 : scan cD b n (p + 1) = p + 1 + (digs v).length := scan_run _ h (fun i hi => (hd i hi).1) (by rw [h2]; rcases he with rfl | rfl <;> rfl)
  have d3' : ¬ cL (b (p + 1)) = true := by rw [show p + 1 = p + 1 + 0 from rfl, d3]; decide
  refine ⟨e1, ?_, ?_, ?_⟩
  · unfold tP
    rw [e1, if_neg (by omega), if_neg d3', if_pos d1, e2]
  · unfold tK
    rw [e1, if_neg (by omega), if_neg d3', if_pos d1, e2]
    unfold dK
    rw [if_pos (by omega)]
  · unfold tV
    rw [e1, if_neg (by omega), if_neg d3', if_pos d1, e2, Nat.add_sub_cancel_left]
    rcases Nat.lt_or_ge v 10 with h10 | h10
    · have h3 := h1 0 hl0
      rw [digs_1 h10] at h3 ⊢
      show 10 * (0 : Int32) + b (p + 1 + 0) - 48 = _
      rw [h3]
      exact dgq v h10
    · have h3 := h1 0 hl0
      have h4 := h1 1 (by rw [digs_2 (by omega)]; exact (show 1 < 2 by decide))
      rw [digs_2 (by omega)] at h3 h4 ⊢
      show 10 * (10 * (0 : Int32) + b (p + 1 + 0) - 48) + b (p + 1 + 1) - 48 = _
      rw [h3, h4]
      show 10 * (10 * (0 : Int32) + nI (48 + v / 10) - 48) + nI (48 + v % 10) - 48 = _
      rw [dgq (v / 10) (by omega)]
      exact dgq2 v hv
theorem tnC_ok {b : Nat → Int32} {n p v lo hi : Nat} {va : Int32} (hk : tK b n p = 2) (hv : tV b n p va = nI v) (h1 : lo ≤ v) (h2 : v ≤ hi) (h3 : hi < 2 ^ 31) : tnC b n p va (nI lo) (nI hi) = 0 := by
  unfold tnC
  rw [if_pos hk, hv, if_neg (nI_nlt h1 (by omega)), if_neg (nI_nlt h2 h3)]
/-- from a text to what is read -/
def PRd (tx : List Nat) (x x2 : PP) (k : Nat) : Prop := ∀ (b : Nat → Int32) (n p f : Nat) (t : TT), AtT b p tx → p + tx.length ≤ n → n ≤ 600 → t.1 = p → ∃ t2 : TT, t2.1 = p + tx.length ∧ rSs b n (f + k) (tNx b n t) x = rSs b n f (tNx b n t2) x2
theorem PRd_nil {x : PP} : PRd [] x x 0 := fun b n p f t _ _ _ h => ⟨t, h, rfl⟩
theorem PRd_app {u w : List Nat} {x y z : PP} {i j : Nat} (h1 : PRd u x y i) (h2 : PRd w y z j) : PRd (u ++ w) x z (i + j) := by
  intro b n p f t hA hn h6 ht
  rw [List.length_append] at hn
  obtain ⟨t2, a1, a2⟩ := h1 b n p (f + j) t (AtT_l hA) (by omega) h6 ht
  obtain ⟨t3, b1, b2⟩ := h2 b n (p + u.length) f t2 (AtT_r hA) (by omega) h6 a1
  refine ⟨t3, by rw [b1, List.length_append]; omega, ?_⟩
  rw [show f + (i + j) = f + j + i by omega, a2, b2]
/-- one statement that is read -/
theorem PRd_1 {w : List Nat} {x x2 : PP} (h : ∀ (b : Nat → Int32) (n p : Nat) (t : TT), AtT b p w → p + w.length ≤ n → n ≤ 600 → t.1 = p → (tNx b n t).2.1 = 1 ∧ (rSt b n (tNx b n t) x).1.1 = 1 ∧ (rSt b n (tNx b n t) x).1.2.1 = p + w.length ∧ (rSt b n (tNx b n t) x).2 = x2) : PRd w x x2 1 := by
  intro b n p f t hA hn h6 ht
  obtain ⟨h1, h2, h3, h4⟩ := h b n p t hA hn h6 ht
  refine ⟨(rSt b n (tNx b n t) x).1.2, h3, ?_⟩
  show (if (tNx b n t).2.1 = 0 then _ else if (rSt b n (tNx b n t) x).1.1 = 0 then _ else _) = _
  rw [if_neg (by rw [h1]; decide), if_neg (by rw [h2]; decide), h4]
theorem tW_y {b : Nat → Int32} {n p : Nat} {t : TT} {w : List Int32} (hn : n ≤ 600) (hk : tK b n t.1 = 1) (hs : tS b n t.1 = p) (hP : tP b n t.1 = p + w.length) (hp : p ≤ n) (hb : ∀ i, i < w.length → b (p + i) = w.getD i 0) : tW b (tNx b n t) w = 1 := by
  unfold tW isW tNx
  dsimp only
  rw [hs, nI_clamp (by omega), if_pos ⟨hk, by rw [hP]; omega, hb⟩]
theorem tW_n {b : Nat → Int32} {n p k : Nat} {t : TT} {w : List Int32} (hn : n ≤ 600) (hs : tS b n t.1 = p) (hP : tP b n t.1 = p + k) (hp : p ≤ n) (h : k ≠ w.length ∨ ∃ i, i < w.length ∧ b (p + i) ≠ w.getD i 0) : ¬ tW b (tNx b n t) w = 1 := by
  unfold tW isW tNx
  dsimp only
  rw [hs, nI_clamp (by omega), if_neg (fun q => by
    rcases h with h | ⟨i, hi, h⟩
    · rw [hP] at q; exact h (by have := q.2.1; omega)
    · exact h (q.2.2 i hi))]
  decide

theorem cS_10 : cS 10 = [114, 111, 119] := by decide +kernel
theorem cS_11 : cS 11 = [103, 117, 116, 116, 101, 114, 32] := by decide +kernel
theorem cS_12 : cS 12 = [98, 111, 111, 116, 115, 32] := by decide +kernel
theorem cS_13 : cS 13 = [114, 97, 105, 110, 32] := by decide +kernel
/-- the keyword at a statement's start -/
theorem kw_at {b : Nat → Int32} {n p c : Nat} {w : List Nat} {t : TT} (h0 : 0 < w.length) (h8 : w.length ≤ 8) (hw : ∀ i, i < w.length → 97 ≤ w.getD i 0 ∧ w.getD i 0 ≤ 122) (hc : c = 32) (hn : p + w.length < n) (ht : t.1 = p) (hA : AtT b p (w ++ [c])) : tS b n t.1 = p ∧ tP b n t.1 = p + w.length ∧ tK b n t.1 = 1 := by
  subst ht; subst hc
  refine tk_wd h0 h8 hn (fun i hi => ?_) ?_
  · have g := hw i hi
    rw [AtT_l hA i hi]
    generalize w.getD i 0 = y at g ⊢
    rw [cLq _ (by omega), cBq _ (by omega)]
    simp
    omega
  · have := AtT_0 (AtT_r (u := w) hA)
    rw [this]; rfl
theorem tSm_y {b : Nat → Int32} {n p : Nat} {t : TT} (h : p < n) (hb : b p = nI 59) (ht : t.1 = p) : (tSm b n t).1 = 1 ∧ (tSm b n t).2.1 = p + 1 := by
  subst ht
  obtain ⟨_, h2, h3⟩ := tk_sm h hb
  unfold tSm tTk tsC
  dsimp only
  rw [if_pos h3, h2]
  exact ⟨rfl, rfl⟩
theorem kw_b {b : Nat → Int32} {p : Nat} {w : List Nat} {W : List Int32} (hl : W.length = w.length) (he : ∀ i, i < w.length → nI (w.getD i 0) = W.getD i 0) (hA : AtT b p w) : ∀ i, i < W.length → b (p + i) = W.getD i 0 := fun i hi => (hA i (hl ▸ hi)).trans (he i (hl ▸ hi))
/-- rain -/
theorem PRd_rain {u v z : Nat} {he gu : Nat → Int32} {fr : Int32} {bb : BB} {r : Nat} (hr : r ≤ 9) : PRd (cS 13 ++ digs r ++ [59]) ((u, v, z), he, gu, fr, bb) ((u, v, z), he, gu, nI r, bb) 1 := by
  refine PRd_1 (fun b n p t hA hn h6 ht => ?_)
  rw [digs_1 (by omega), cS_13] at hA hn
  have hA2 : AtT b p ([114, 97, 105, 110] ++ ([32] ++ ([48 + r] ++ [59]))) := hA
  have hn2 : p + 7 ≤ n := hn
  obtain ⟨s1, s2, s3⟩ := kw_at (w := [114, 97, 105, 110]) (c := 32) (n := n) (t := t) (by decide) (by decide) (by decide) rfl (by show p + 4 < n; omega) ht (AtT_l (u := [114, 97, 105, 110] ++ [32]) (w := [48 + r] ++ [59]) hA)
  have hA3 : AtT b (p + 4) (32 :: digs r ++ [59]) := by rw [digs_1 (by omega)]; exact AtT_r (u := [114, 97, 105, 110]) hA2
  have hs : b (p + 4 + 2) = nI 59 := hA 6 (by show 6 < 7; decide)
  obtain ⟨q1, q2, q3, q4⟩ := tk_nu (va := (tNx b n t).2.2.2.1) (n := n) (by omega) (Or.inr rfl) (by rw [digs_1 (by omega)]; show p + 4 + 1 + 1 < n; omega) hA3
  rw [digs_1 (by omega)] at q2
  have w1 : tW b (tNx b n t) wRain = 1 := tW_y h6 s3 s1 s2 (by omega) (kw_b (w := [114, 97, 105, 110]) rfl (by decide +kernel) (AtT_l hA2))
  have n1 : ¬ tW b (tNx b n t) wRow = 1 := tW_n h6 s1 s2 (by omega) (Or.inl (by decide))
  have n2 : ¬ tW b (tNx b n t) wGutter = 1 := tW_n h6 s1 s2 (by omega) (Or.inl (by decide))
  have n3 : ¬ tW b (tNx b n t) wBoots = 1 := tW_n h6 s1 s2 (by omega) (Or.inl (by decide))
  have hp1 : (tNx b n t).1 = p + 4 := s2
  have e0 : rSt b n (tNx b n t) ((u, v, z), he, gu, fr, bb) = ((rRn b n (tNx b n t) fr).1, ((u, v, z), he, gu, (rRn b n (tNx b n t) fr).2, bb)) := by
    unfold rSt
    dsimp only
    rw [if_neg n1, if_neg n2, if_neg n3, if_pos w1]
  have e1 : rRn b n (tNx b n t) fr = (tSm b n (tTk 0 b n (tNx b n t)), nI r) := by
    unfold rRn
    rw [hp1, show tnC b n (p + 4) (tNx b n t).2.2.2.1 0 9 = 0 from tnC_ok (lo := 0) (hi := 9) q3 q4 (by omega) hr (by decide), if_pos rfl, q4]
  have hp2 : (tTk 0 b n (tNx b n t)).1 = p + 4 + 2 := by
    show tP b n (tNx b n t).1 = _
    rw [hp1, q2]
    rfl
  obtain ⟨z1, z2⟩ := tSm_y (n := n) (by omega) hs hp2
  rw [e0, e1]
  exact ⟨s3, z1, by rw [z2, digs_1 (by omega), cS_13]; rfl, rfl⟩
