/-! a plan being read, in the reference's numbers -/
def zT : Nat → Nat → Int32 := fun _ _ => 0
def pE (A0 : Nat → Int32) (x : PP) : Nat → Int32 := enc A0 x (stT x zT)
def CA0 (A0 : Nat → Int32) : Prop := ∀ q, q < 443 → A0 q = 0
def GUz (x : PP) : Prop := ∀ c, x.1.2.2 ≤ c → x.2.2.1 c = 0
section PEN
variable {A0 he he2 gu nl fp bh : Nat → Int32} {u v z k : Nat} {fr w a : Int32} {r r2 : Nat → Nat → Int32}
theorem pE_fr : upd (pE A0 ((u, v, z), he, gu, fr, k, nl, fp, bh, r)) 3 w = pE A0 ((u, v, z), he, gu, w, k, nl, fp, bh, r) := by
  unfold pE enc
  rw [encF_ug (by decide)]
  have h0 : upd (gT A0 (((u, v, z), he, gu, fr, k, nl, fp, bh, r) : PP) (stT (((u, v, z), he, gu, fr, k, nl, fp, bh, r) : PP) zT)) 3 w = gT A0 (((u, v, z), he, gu, w, k, nl, fp, bh, r) : PP) (stT (((u, v, z), he, gu, w, k, nl, fp, bh, r) : PP) zT) := by
    funext i
    match i with
    | 0 => rfl
    | 1 => rfl
    | 2 => rfl
    | 3 => rfl
    | 4 => rfl
    | 5 => rfl
    | 6 => rfl
    | 7 => rfl
    | 8 => rfl
    | 9 => rfl
    | 10 => rfl
    | i + 11 => rfl
  have h1 : cfT (((u, v, z), he, gu, fr, k, nl, fp, bh, r) : PP) (stT (((u, v, z), he, gu, fr, k, nl, fp, bh, r) : PP) zT) = cfT (((u, v, z), he, gu, w, k, nl, fp, bh, r) : PP) (stT (((u, v, z), he, gu, w, k, nl, fp, bh, r) : PP) zT) := by
    funext f
    match f with
    | 0 => rfl
    | 1 => rfl
    | 2 => rfl
    | 3 => rfl
    | 4 => rfl
    | 5 => rfl
    | f + 6 => rfl
  have h2 : bfT A0 (((u, v, z), he, gu, fr, k, nl, fp, bh, r) : PP) (stT (((u, v, z), he, gu, fr, k, nl, fp, bh, r) : PP) zT) = bfT A0 (((u, v, z), he, gu, w, k, nl, fp, bh, r) : PP) (stT (((u, v, z), he, gu, w, k, nl, fp, bh, r) : PP) zT) := by
    funext f
    match f with
    | 0 => rfl
    | 1 => rfl
    | 2 => rfl
    | 3 => rfl
    | 4 => rfl
    | 5 => rfl
    | 6 => rfl
    | 7 => rfl
    | 8 => rfl
    | 9 => rfl
    | 10 => rfl
    | f + 11 => rfl
  rw [h0, h1, h2]
theorem pE_gu {c : Nat} (hc : c < z) (hz : z ≤ 64) : upd (pE A0 ((u, v, z), he, gu, fr, k, nl, fp, bh, r)) (c6 c 3) w = pE A0 ((u, v, z), he, upd gu c w, fr, k, nl, fp, bh, r) := by
  unfold pE enc
  rw [encF_uc hc hz (by decide)]
  have h0 : gT A0 (((u, v, z), he, gu, fr, k, nl, fp, bh, r) : PP) (stT (((u, v, z), he, gu, fr, k, nl, fp, bh, r) : PP) zT) = gT A0 (((u, v, z), he, upd gu c w, fr, k, nl, fp, bh, r) : PP) (stT (((u, v, z), he, upd gu c w, fr, k, nl, fp, bh, r) : PP) zT) := by
    funext i
    match i with
    | 0 => rfl
    | 1 => rfl
    | 2 => rfl
    | 3 => rfl
    | 4 => rfl
    | 5 => rfl
    | 6 => rfl
    | 7 => rfl
    | 8 => rfl
    | 9 => rfl
    | 10 => rfl
    | i + 11 => rfl
  have h1 : (fun f2 c2 => if f2 = 3 ∧ c2 = c then w else cfT (((u, v, z), he, gu, fr, k, nl, fp, bh, r) : PP) (stT (((u, v, z), he, gu, fr, k, nl, fp, bh, r) : PP) zT) f2 c2) = cfT (((u, v, z), he, upd gu c w, fr, k, nl, fp, bh, r) : PP) (stT (((u, v, z), he, upd gu c w, fr, k, nl, fp, bh, r) : PP) zT) := by
    funext f2 c2
    match f2 with
    | 0 => exact (if_neg (fun q => absurd q.1 (by decide))).trans rfl
    | 1 => exact (if_neg (fun q => absurd q.1 (by decide))).trans rfl
    | 2 => exact (if_neg (fun q => absurd q.1 (by decide))).trans rfl
    | 3 =>
      show (if 3 = 3 ∧ c2 = c then w else gu c2) = upd gu c w c2
      unfold upd
      by_cases hcc : c2 = c
      · rw [if_pos ⟨rfl, hcc⟩, if_pos hcc]
      · rw [if_neg (fun q => hcc q.2), if_neg hcc]
    | 4 => exact (if_neg (fun q => absurd q.1 (by decide))).trans rfl
    | 5 => exact (if_neg (fun q => absurd q.1 (by decide))).trans rfl
    | k + 6 => exact (if_neg (fun q => absurd q.1 (by omega))).trans rfl
  have h2 : bfT A0 (((u, v, z), he, gu, fr, k, nl, fp, bh, r) : PP) (stT (((u, v, z), he, gu, fr, k, nl, fp, bh, r) : PP) zT) = bfT A0 (((u, v, z), he, upd gu c w, fr, k, nl, fp, bh, r) : PP) (stT (((u, v, z), he, upd gu c w, fr, k, nl, fp, bh, r) : PP) zT) := by
    funext f
    match f with
    | 0 => rfl
    | 1 => rfl
    | 2 => rfl
    | 3 => rfl
    | 4 => rfl
    | 5 => rfl
    | 6 => rfl
    | 7 => rfl
    | 8 => rfl
    | 9 => rfl
    | 10 => rfl
    | f + 11 => rfl
  rw [h0, h1, h2]
theorem pE_g {x : PP} {q : Nat} (h : q < 15) : pE A0 x q = gT A0 x (stT x zT) q := if_pos h
theorem pE_c {x : PP} {c f : Nat} (hc : c < x.1.2.2) (hz : x.1.2.2 ≤ 64) (hf : f < 6) : pE A0 x (c6 c f) = cfT x (stT x zT) f c := encF_ac hc hz hf
theorem pE_cn {x : PP} {c f : Nat} (hc : ¬ c < x.1.2.2) (hc2 : c < 64) (hf : f < 6) : pE A0 x (c6 c f) = A0 (c6 c f) := by
  unfold pE enc encF c6
  rw [if_neg (by omega), if_pos (by omega), show (15 + 6 * c + f - 15) / 6 = c by omega, if_neg hc]
theorem pE_b {x : PP} {b f : Nat} (hb : b < x.2.2.2.2.1) (hf : f < 11) : pE A0 x (399 + 11 * b + f) = bfT A0 x (stT x zT) f b := encF_ab hb hf
theorem pE_bn {x : PP} {b f : Nat} (hb : ¬ b < x.2.2.2.2.1) (hf : f < 11) : pE A0 x (399 + 11 * b + f) = A0 (399 + 11 * b + f) := by
  unfold pE enc encF
  rw [if_neg (by omega), if_neg (by omega), show (399 + 11 * b + f - 399) / 11 = b by omega, if_neg hb]
/-- heights laid into the cells from z on -/
def hgF (A : Nat → Int32) (z : Nat) (hs : Nat → Int32) : Nat → Nat → Int32
  | 0 => A
  | i + 1 => upd (hgF A z hs i) (c6 (z + i) 0) (hs i)
theorem hgF_n {A hs : Nat → Int32} {q : Nat} : ∀ {i : Nat}, (∀ j, j < i → q ≠ c6 (z + j) 0) → hgF A z hs i q = A q
  | 0, _ => rfl
  | i + 1, h => (upd_ne (h i (Nat.lt_succ_self i))).trans (hgF_n fun j hj => h j (by omega))
theorem hgF_i {A hs : Nat → Int32} {j : Nat} : ∀ {i : Nat}, j < i → hgF A z hs i (c6 (z + j) 0) = hs j
  | 0, h => absurd h (Nat.not_lt_zero j)
  | i + 1, h => by
    show upd (hgF A z hs i) (c6 (z + i) 0) (hs i) (c6 (z + j) 0) = hs j
    by_cases he : j = i
    · subst he; exact upd_at
    · rw [upd_ne (by unfold c6; omega)]
      exact hgF_i (by omega)
theorem q_split (q : Nat) : q < 15 ∨ (∃ c f, c < 64 ∧ f < 6 ∧ q = c6 c f) ∨ ∃ b f, f < 11 ∧ q = 399 + 11 * b + f := by
  by_cases h1 : q < 15
  · exact Or.inl h1
  · by_cases h2 : q < 399
    · exact Or.inr (Or.inl ⟨(q - 15) / 6, (q - 15) % 6, by omega, by omega, by unfold c6; omega⟩)
    · exact Or.inr (Or.inr ⟨(q - 399) / 11, (q - 399) % 11, by omega, by omega⟩)
theorem pE_row {hs : Nat → Int32} {c : Nat} (h0 : CA0 A0) (hz : z + c ≤ 64) (hg : ∀ q, z ≤ q → gu q = 0) (h1 : ∀ q, q < z → he2 q = he q) (h2 : ∀ i, i < c → he2 (z + i) = hs i) :
    upd (hgF (upd (pE A0 ((u, v, z), he, gu, fr, k, nl, fp, bh, r)) 1 (nI c)) z hs c) 2 (nI (u + 1)) = pE A0 ((u + 1, c, z + c), he2, gu, fr, k, nl, fp, bh, r) := by
  funext q
  rcases q_split q with hq | ⟨ce, f, hc, hf, rfl⟩ | ⟨b, f, hf, rfl⟩
  · have e1 : hgF (upd (pE A0 (((u, v, z), he, gu, fr, k, nl, fp, bh, r) : PP)) 1 (nI c)) z hs c q = upd (pE A0 (((u, v, z), he, gu, fr, k, nl, fp, bh, r) : PP)) 1 (nI c) q := hgF_n fun j _ => by unfold c6; omega
    have e2 : upd (hgF (upd (pE A0 (((u, v, z), he, gu, fr, k, nl, fp, bh, r) : PP)) 1 (nI c)) z hs c) 2 (nI (u + 1)) q = if q = 2 then nI (u + 1) else upd (pE A0 (((u, v, z), he, gu, fr, k, nl, fp, bh, r) : PP)) 1 (nI c) q := by rw [← e1]; rfl
    rw [e2]
    rcases (show q = 0 ∨ q = 1 ∨ q = 2 ∨ q = 3 ∨ q = 4 ∨ q = 5 ∨ q = 6 ∨ q = 7 ∨ q = 8 ∨ q = 9 ∨ q = 10 ∨ q = 11 ∨ q = 12 ∨ q = 13 ∨ q = 14 by omega) with rfl | rfl | rfl | rfl | rfl | rfl | rfl | rfl | rfl | rfl | rfl | rfl | rfl | rfl | rfl <;> rfl
  · have e3 : c6 ce f ≠ 2 := by unfold c6; omega
    have e4 : c6 ce f ≠ 1 := by unfold c6; omega
    rw [upd_ne e3]
    by_cases hz1 : z ≤ ce ∧ ce < z + c
    · obtain ⟨j, rfl⟩ : ∃ j, ce = z + j := ⟨ce - z, by omega⟩
      rw [pE_c (x := (((u + 1, c, z + c), he2, gu, fr, k, nl, fp, bh, r) : PP)) (show z + j < z + c from hz1.2) hz hf]
      by_cases hf0 : f = 0
      · subst hf0
        rw [hgF_i (show j < c by omega)]
        exact (h2 j (by omega)).symm
      · rw [hgF_n (fun i _ => by unfold c6; omega), upd_ne e4, pE_cn (x := (((u, v, z), he, gu, fr, k, nl, fp, bh, r) : PP)) (show ¬ z + j < z by omega) hc hf, h0 _ (by unfold c6; omega)]
        rcases (show f = 1 ∨ f = 2 ∨ f = 3 ∨ f = 4 ∨ f = 5 by omega) with rfl | rfl | rfl | rfl | rfl
        · rfl
        · rfl
        · exact (hg (z + j) (by omega)).symm
        · rfl
        · rfl
    · rw [hgF_n (fun i hi => by unfold c6; omega), upd_ne e4]
      by_cases hz2 : ce < z
      · rw [pE_c (x := (((u, v, z), he, gu, fr, k, nl, fp, bh, r) : PP)) hz2 (show z ≤ 64 by omega) hf, pE_c (x := (((u + 1, c, z + c), he2, gu, fr, k, nl, fp, bh, r) : PP)) (show ce < z + c by omega) hz hf]
        rcases (show f = 0 ∨ f = 1 ∨ f = 2 ∨ f = 3 ∨ f = 4 ∨ f = 5 by omega) with rfl | rfl | rfl | rfl | rfl | rfl
        · exact (h1 ce hz2).symm
        · rfl
        · rfl
        · rfl
        · rfl
        · rfl
      · rw [pE_cn (x := (((u, v, z), he, gu, fr, k, nl, fp, bh, r) : PP)) hz2 hc hf, pE_cn (x := (((u + 1, c, z + c), he2, gu, fr, k, nl, fp, bh, r) : PP)) (show ¬ ce < z + c by omega) hc hf]
  · rw [upd_ne (by omega), hgF_n (fun i hi => by unfold c6; omega), upd_ne (by omega)]
    by_cases hb : b < k
    · rw [pE_b (x := (((u, v, z), he, gu, fr, k, nl, fp, bh, r) : PP)) hb hf, pE_b (x := (((u + 1, c, z + c), he2, gu, fr, k, nl, fp, bh, r) : PP)) hb hf]
      rcases (show f = 0 ∨ f = 1 ∨ f = 2 ∨ f = 3 ∨ f = 4 ∨ f = 5 ∨ f = 6 ∨ f = 7 ∨ f = 8 ∨ f = 9 ∨ f = 10 by omega) with rfl | rfl | rfl | rfl | rfl | rfl | rfl | rfl | rfl | rfl | rfl <;> rfl
    · rw [pE_bn (x := (((u, v, z), he, gu, fr, k, nl, fp, bh, r) : PP)) hb hf, pE_bn (x := (((u + 1, c, z + c), he2, gu, fr, k, nl, fp, bh, r) : PP)) hb hf]
theorem pE_bg {sp : Nat → Int32} {L : Nat} {q : Nat} (hq : q < 15) (h0 : CA0 A0) (hz64 : z ≤ 64) (hk : k < 4) (hL : L ≤ 6) (h1 : ∀ i, i < L → r2 k i = sp i) (h2 : ∀ j, j ≠ k → r2 j = r j) : abF (pE A0 ((u, v, z), he, gu, fr, k, nl, fp, bh, r)) k L sp a w q = pE A0 ((u, v, z), he, gu, fr, k + 1, upd nl k (nI L), upd fp k a, upd bh k w, r2) q := by
  unfold abF
  have e1 : upd (upd (upd (lwF (upd (pE A0 (((u, v, z), he, gu, fr, k, nl, fp, bh, r) : PP)) (399 + 11 * k) (nI L)) (399 + 11 * k + 1) sp L) (399 + 11 * k + 7) a) (399 + 11 * k + 8) w) 4 (nI (k + 1)) q = if q = 4 then nI (k + 1) else pE A0 (((u, v, z), he, gu, fr, k, nl, fp, bh, r) : PP) q := by
    by_cases hq4 : q = 4
    · rw [hq4, upd_at, if_pos rfl]
    · rw [upd_ne hq4, if_neg hq4, upd_ne (by omega), upd_ne (by omega), lwF_a (Or.inl (by omega)), upd_ne (by omega)]
  rw [e1]
  rcases (show q = 0 ∨ q = 1 ∨ q = 2 ∨ q = 3 ∨ q = 4 ∨ q = 5 ∨ q = 6 ∨ q = 7 ∨ q = 8 ∨ q = 9 ∨ q = 10 ∨ q = 11 ∨ q = 12 ∨ q = 13 ∨ q = 14 by omega) with rfl | rfl | rfl | rfl | rfl | rfl | rfl | rfl | rfl | rfl | rfl | rfl | rfl | rfl | rfl <;> rfl
theorem pE_bc {sp : Nat → Int32} {L : Nat} {ce f : Nat} (hc : ce < 64) (hf : f < 6) (h0 : CA0 A0) (hz64 : z ≤ 64) (hk : k < 4) (hL : L ≤ 6) (h1 : ∀ i, i < L → r2 k i = sp i) (h2 : ∀ j, j ≠ k → r2 j = r j) : abF (pE A0 ((u, v, z), he, gu, fr, k, nl, fp, bh, r)) k L sp a w (c6 ce f) = pE A0 ((u, v, z), he, gu, fr, k + 1, upd nl k (nI L), upd fp k a, upd bh k w, r2) (c6 ce f) := by
  unfold abF
  have e3 : c6 ce f < 399 ∧ 15 ≤ c6 ce f := by unfold c6; omega
  rw [upd_ne (by omega), upd_ne (by omega), upd_ne (by omega), lwF_a (Or.inl (by omega)), upd_ne (by omega)]
  by_cases hz2 : ce < z
  · rw [pE_c (x := (((u, v, z), he, gu, fr, k, nl, fp, bh, r) : PP)) hz2 hz64 hf, pE_c (x := (((u, v, z), he, gu, fr, k + 1, upd nl k (nI L), upd fp k a, upd bh k w, r2) : PP)) hz2 hz64 hf]
    rcases (show f = 0 ∨ f = 1 ∨ f = 2 ∨ f = 3 ∨ f = 4 ∨ f = 5 by omega) with rfl | rfl | rfl | rfl | rfl | rfl <;> rfl
  · rw [pE_cn (x := (((u, v, z), he, gu, fr, k, nl, fp, bh, r) : PP)) hz2 hc hf, pE_cn (x := (((u, v, z), he, gu, fr, k + 1, upd nl k (nI L), upd fp k a, upd bh k w, r2) : PP)) hz2 hc hf]
theorem pE_b1 {sp : Nat → Int32} {L : Nat} {b f : Nat} (hf : f < 11) (hb : b < k) (h0 : CA0 A0) (hz64 : z ≤ 64) (hk : k < 4) (hL : L ≤ 6) (h1 : ∀ i, i < L → r2 k i = sp i) (h2 : ∀ j, j ≠ k → r2 j = r j) : abF (pE A0 ((u, v, z), he, gu, fr, k, nl, fp, bh, r)) k L sp a w (399 + 11 * b + f) = pE A0 ((u, v, z), he, gu, fr, k + 1, upd nl k (nI L), upd fp k a, upd bh k w, r2) (399 + 11 * b + f) := by
  unfold abF
  rw [upd_ne (show 399 + 11 * b + f ≠ 4 by omega)]
  rw [upd_ne (by omega), upd_ne (by omega), lwF_a (Or.inl (by omega)), upd_ne (by omega), pE_b (x := (((u, v, z), he, gu, fr, k, nl, fp, bh, r) : PP)) hb hf, pE_b (x := (((u, v, z), he, gu, fr, k + 1, upd nl k (nI L), upd fp k a, upd bh k w, r2) : PP)) (show b < k + 1 by omega) hf]
  have hbk : b ≠ k := by omega
  have hr := h2 b hbk
  have hnl : upd nl k (nI L) b = nl b := upd_ne hbk
  rcases (show f = 0 ∨ (1 ≤ f ∧ f ≤ 6) ∨ f = 7 ∨ f = 8 ∨ f = 9 ∨ f = 10 by omega) with rfl | h6 | rfl | rfl | rfl | rfl
  · exact hnl.symm
  · have g : ∀ (x : PP) (T : Nat → Nat → Int32), bfT A0 x T f b = if f - 1 < (x.2.2.2.2.2.1 b).toNatClampNeg then x.2.2.2.2.2.2.2.2 b (f - 1) else A0 (399 + 11 * b + f) := by
      intro x T
      rcases (show f = 1 ∨ f = 2 ∨ f = 3 ∨ f = 4 ∨ f = 5 ∨ f = 6 by omega) with rfl | rfl | rfl | rfl | rfl | rfl <;> rfl
    rw [g, g]
    show (if f - 1 < (nl b).toNatClampNeg then r b (f - 1) else A0 (399 + 11 * b + f)) = if f - 1 < (upd nl k (nI L) b).toNatClampNeg then r2 b (f - 1) else A0 (399 + 11 * b + f)
    by_cases hc2 : f - 1 < (nl b).toNatClampNeg
    · rw [if_pos hc2, if_pos (by rw [hnl]; exact hc2), hr]
    · rw [if_neg hc2, if_neg (by rw [hnl]; exact hc2)]
  · exact (upd_ne hbk).symm
  · exact (upd_ne hbk).symm
  · have e9 : ∀ x : PP, bfT A0 x (stT x zT) 9 b = 0 := fun _ => rfl
    rw [e9, e9]
  · have e9 : ∀ x : PP, bfT A0 x (stT x zT) 10 b = 0 := fun _ => rfl
    rw [e9, e9]
theorem pE_b2 {sp : Nat → Int32} {L : Nat} {b f : Nat} (hf : f < 11) (h0 : CA0 A0) (hz64 : z ≤ 64) (hk : b < 4) (hL : L ≤ 6) (h1 : ∀ i, i < L → r2 b i = sp i) (h2 : ∀ j, j ≠ b → r2 j = r j) : abF (pE A0 ((u, v, z), he, gu, fr, b, nl, fp, bh, r)) b L sp a w (399 + 11 * b + f) = pE A0 ((u, v, z), he, gu, fr, b + 1, upd nl b (nI L), upd fp b a, upd bh b w, r2) (399 + 11 * b + f) := by
  unfold abF
  rw [upd_ne (show 399 + 11 * b + f ≠ 4 by omega)]
  rw [pE_b (x := (((u, v, z), he, gu, fr, b + 1, upd nl b (nI L), upd fp b a, upd bh b w, r2) : PP)) (show b < b + 1 by omega) hf]
  by_cases f8 : f = 8
  · subst f8
    rw [upd_at]
    exact upd_at.symm
  · rw [upd_ne (by omega)]
    by_cases f7 : f = 7
    · subst f7
      rw [upd_at]
      exact upd_at.symm
    · rw [upd_ne (by omega)]
      by_cases fl : 1 ≤ f ∧ f < 1 + L
      · obtain ⟨i, rfl⟩ : ∃ i, f = 1 + i := ⟨f - 1, by omega⟩
        rw [show 399 + 11 * b + (1 + i) = 399 + 11 * b + 1 + i by omega, lwF_i (by omega)]
        have g : bfT A0 (((u, v, z), he, gu, fr, b + 1, upd nl b (nI L), upd fp b a, upd bh b w, r2) : PP) (stT (((u, v, z), he, gu, fr, b + 1, upd nl b (nI L), upd fp b a, upd bh b w, r2) : PP) zT) (1 + i) b = if 1 + i - 1 < (upd nl b (nI L) b).toNatClampNeg then r2 b (1 + i - 1) else A0 (399 + 11 * b + (1 + i)) := by
          rcases (show i = 0 ∨ i = 1 ∨ i = 2 ∨ i = 3 ∨ i = 4 ∨ i = 5 by omega) with rfl | rfl | rfl | rfl | rfl | rfl <;> rfl
        rw [g, upd_at, nI_clamp (by omega), if_pos (by omega), show 1 + i - 1 = i by omega]
        exact (h1 i (by omega)).symm
      · rw [lwF_a (by omega)]
        by_cases f0 : f = 0
        · subst f0
          rw [Nat.add_zero, upd_at]
          have g0 : bfT A0 (((u, v, z), he, gu, fr, b + 1, upd nl b (nI L), upd fp b a, upd bh b w, r2) : PP) (stT (((u, v, z), he, gu, fr, b + 1, upd nl b (nI L), upd fp b a, upd bh b w, r2) : PP) zT) 0 b = upd nl b (nI L) b := rfl
          rw [g0, upd_at]
        · rw [upd_ne (by omega), pE_bn (x := (((u, v, z), he, gu, fr, b, nl, fp, bh, r) : PP)) (show ¬ b < b by omega) hf]
          rcases (show (1 + L ≤ f ∧ f ≤ 6) ∨ f = 9 ∨ f = 10 by omega) with h6 | rfl | rfl
          · have g : bfT A0 (((u, v, z), he, gu, fr, b + 1, upd nl b (nI L), upd fp b a, upd bh b w, r2) : PP) (stT (((u, v, z), he, gu, fr, b + 1, upd nl b (nI L), upd fp b a, upd bh b w, r2) : PP) zT) f b = if f - 1 < (upd nl b (nI L) b).toNatClampNeg then r2 b (f - 1) else A0 (399 + 11 * b + f) := by
              rcases (show f = 1 ∨ f = 2 ∨ f = 3 ∨ f = 4 ∨ f = 5 ∨ f = 6 by omega) with rfl | rfl | rfl | rfl | rfl | rfl <;> rfl
            rw [g, upd_at, nI_clamp (by omega), if_neg (by omega)]
          · exact h0 _ (by omega)
          · exact h0 _ (by omega)
theorem pE_b3 {sp : Nat → Int32} {L : Nat} {b f : Nat} (hf : f < 11) (hb : k < b) (h0 : CA0 A0) (hz64 : z ≤ 64) (hk : k < 4) (hL : L ≤ 6) (h1 : ∀ i, i < L → r2 k i = sp i) (h2 : ∀ j, j ≠ k → r2 j = r j) : abF (pE A0 ((u, v, z), he, gu, fr, k, nl, fp, bh, r)) k L sp a w (399 + 11 * b + f) = pE A0 ((u, v, z), he, gu, fr, k + 1, upd nl k (nI L), upd fp k a, upd bh k w, r2) (399 + 11 * b + f) := by
  unfold abF
  rw [upd_ne (show 399 + 11 * b + f ≠ 4 by omega)]
  rw [upd_ne (by omega), upd_ne (by omega), lwF_a (Or.inr (by omega)), upd_ne (by omega), pE_bn (x := (((u, v, z), he, gu, fr, k, nl, fp, bh, r) : PP)) (show ¬ b < k by omega) hf, pE_bn (x := (((u, v, z), he, gu, fr, k + 1, upd nl k (nI L), upd fp k a, upd bh k w, r2) : PP)) (show ¬ b < k + 1 by omega) hf]

theorem pE_bt {sp : Nat → Int32} {L : Nat} (h0 : CA0 A0) (hz64 : z ≤ 64) (hk : k < 4) (hL : L ≤ 6) (h1 : ∀ i, i < L → r2 k i = sp i) (h2 : ∀ j, j ≠ k → r2 j = r j) :
    abF (pE A0 ((u, v, z), he, gu, fr, k, nl, fp, bh, r)) k L sp a w = pE A0 ((u, v, z), he, gu, fr, k + 1, upd nl k (nI L), upd fp k a, upd bh k w, r2) := by
  funext q
  rcases q_split q with hq | ⟨ce, f, hc, hf, rfl⟩ | ⟨b, f, hf, rfl⟩
  · exact pE_bg hq h0 hz64 hk hL h1 h2
  · exact pE_bc hc hf h0 hz64 hk hL h1 h2
  · rcases Nat.lt_trichotomy b k with hb | rfl | hb
    · exact pE_b1 hf hb h0 hz64 hk hL h1 h2
    · exact pE_b2 hf h0 hz64 hk hL h1 h2
    · exact pE_b3 hf hb h0 hz64 hk hL h1 h2
theorem pE_0 {bb : BB} (h0 : CA0 A0) : pE A0 ((0, 0, 0), he, (fun _ => 0), 0, (0, bb.2)) = A0 := by
  funext q
  rcases q_split q with hq | ⟨ce, f, hc, hf, rfl⟩ | ⟨b, f, hf, rfl⟩
  · have e := h0 q (by omega)
    rcases (show q = 0 ∨ q = 1 ∨ q = 2 ∨ q = 3 ∨ q = 4 ∨ q = 5 ∨ q = 6 ∨ q = 7 ∨ q = 8 ∨ q = 9 ∨ q = 10 ∨ 11 ≤ q by omega) with rfl | rfl | rfl | rfl | rfl | rfl | rfl | rfl | rfl | rfl | rfl | h
    all_goals first
      | exact e.symm
      | skip
    rw [pE_g hq]
    obtain ⟨i, rfl⟩ : ∃ i, q = i + 11 := ⟨q - 11, by omega⟩
    rfl
  · exact pE_cn (by show ¬ ce < 0; omega) hc hf
  · exact pE_bn (by show ¬ b < 0; omega) hf
theorem pE_big {x : PP} (hx : PIv x) {q : Nat} (h : 443 ≤ q) : pE A0 x q = A0 q := enc_big hx h
end PEN
