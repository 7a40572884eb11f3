/-! what holds of every state, also behind a script's statements -/
theorem ni_t {k : Nat} (h : k < 2 ^ 31) : (nI k).toInt = k := Int32.toInt_ofNat_of_lt h
def ZI (x : PP) (T : Nat → Nat → Int32) (L : Int) : Prop := SI x T (1856 * (T 0 7).toInt) ∧ (0 ≤ (T 0 7).toInt ∧ (T 0 7).toInt ≤ 999) ∧ NN x.1.2.2 (T 2) L
section ZIS
variable {x : PP} {T : Nat → Nat → Int32} {L : Int}
theorem ZI_ra (h : ZI x T L) {a : Int32} (h0 : 0 ≤ a) (h9 : a ≤ 9) : ZI x (raT T a) L := by
  obtain ⟨⟨_, s2, s3, s4, s5⟩, z2, z3⟩ := h
  exact ⟨⟨⟨i_le.mp h0, i_le.mp h9⟩, s2, s3, s4, s5⟩, z2, z3⟩
theorem ZI_op (h : ZI x T L) {c : Nat} {a b : Int32} (a1 : 1 ≤ a) (a2 : a ≤ 20) (b1 : 1 ≤ b) (b2 : b ≤ 60) : ZI x (opT T c a b) L := by
  obtain ⟨⟨s1, s2, s3, s4, s5⟩, z2, z3⟩ := h
  have o1 : (1 : Int32).toInt = 1 := rfl
  have o2 : (20 : Int32).toInt = 20 := rfl
  have o6 : (60 : Int32).toInt = 60 := rfl
  have p1 := i_le.mp a1
  have p2 := i_le.mp a2
  have p3 := i_le.mp b1
  have p4 := i_le.mp b2
  refine ⟨⟨s1, ?_, ?_, ?_, s5⟩, z2, z3⟩
  · intro k hk
    show 0 ≤ (upd (T 3) c a k).toInt ∧ (upd (T 3) c a k).toInt ≤ 20
    by_cases he : k = c
    · rw [he, upd_at]; omega
    · rw [upd_ne he]; exact s2 k hk
  · intro k hk
    show 0 ≤ (upd (T 4) c b k).toInt ∧ (upd (T 4) c b k).toInt ≤ 60
    by_cases he : k = c
    · rw [he, upd_at]; omega
    · rw [upd_ne he]; exact s3 k hk
  · intro k hk
    show upd (T 3) c a k = 0 ↔ upd (T 4) c b k = 0
    by_cases he : k = c
    · rw [he, upd_at, upd_at]
      exact ⟨fun q => absurd p1 (by rw [q, o1]; decide), fun q => absurd p3 (by rw [q, o1]; decide)⟩
    · rw [upd_ne he, upd_ne he]; exact s4 k hk
theorem ZI_sh (h : ZI x T L) {c : Nat} : ZI x (shT T c) L := by
  obtain ⟨⟨s1, s2, s3, s4, s5⟩, z2, z3⟩ := h
  refine ⟨⟨s1, ?_, ?_, ?_, s5⟩, z2, z3⟩
  · intro k hk
    show 0 ≤ (upd (T 3) c 0 k).toInt ∧ (upd (T 3) c 0 k).toInt ≤ 20
    by_cases he : k = c
    · rw [he, upd_at]; decide
    · rw [upd_ne he]; exact s2 k hk
  · intro k hk
    show 0 ≤ (upd (T 4) c 0 k).toInt ∧ (upd (T 4) c 0 k).toInt ≤ 60
    by_cases he : k = c
    · rw [he, upd_at]; decide
    · rw [upd_ne he]; exact s3 k hk
  · intro k hk
    show upd (T 3) c 0 k = 0 ↔ upd (T 4) c 0 k = 0
    by_cases he : k = c
    · rw [he, upd_at, upd_at]
    · rw [upd_ne he, upd_ne he]; exact s4 k hk
theorem lv_b (h : ZI x T L) {c : Nat} (hc : c < x.1.2.2) : 0 ≤ (T 2 c).toInt ∧ (T 2 c).toInt ≤ L := ⟨h.2.2.1 c hc, Int.le_trans (ws_le _ h.2.2.1 hc) h.2.2.2⟩
theorem ZI_lv (h : ZI x T L) (hL : L + 9 < 2147483648) {c : Nat} {b : Int32} (hc : c < x.1.2.2) (b1 : 1 ≤ b) (b2 : b ≤ 9) : ZI x (lvT T c b) (L + 9) ∧ 0 < lvT T c b 2 c := by
  have hl := lv_b h hc
  obtain ⟨s, z2, z3⟩ := h
  have o1 : (1 : Int32).toInt = 1 := rfl
  have o9 : (9 : Int32).toInt = 9 := rfl
  have p3 := i_le.mp b1
  have p4 := i_le.mp b2
  have e : (T 2 c + b).toInt = (T 2 c).toInt + b.toInt := i_add (by omega) (by omega)
  refine ⟨⟨s, z2, ?_, ?_⟩, ?_⟩
  · intro k hk
    show 0 ≤ (upd (T 2) c (T 2 c + b) k).toInt
    by_cases he : k = c
    · rw [he, upd_at, e]; omega
    · rw [upd_ne he]; exact z3.1 k hk
  · show ws (upd (T 2) c (T 2 c + b)) x.1.2.2 ≤ L + 9
    rw [ws_upd, if_pos hc, e]
    have := z3.2
    omega
  · show 0 < upd (T 2) c (T 2 c + b) c
    rw [upd_at]
    exact i_lt.mpr (by rw [e, i_0]; omega)
theorem ZI_sw (h : ZI x T L) {c : Nat} (hc : c < x.1.2.2) : ZI x (swT T c) L := by
  have hl := lv_b h hc
  obtain ⟨s, z2, z3⟩ := h
  refine ⟨s, z2, ?_, ?_⟩
  · intro k hk
    show 0 ≤ (upd (T 2) c 0 k).toInt
    by_cases he : k = c
    · rw [he, upd_at]; decide
    · rw [upd_ne he]; exact z3.1 k hk
  · show ws (upd (T 2) c 0) x.1.2.2 ≤ L
    rw [ws_upd, if_pos hc, i_0]
    have := z3.2
    omega
theorem ZI_wk (h : ZI x T L) {bh : Nat → Int32} {b o : Nat} : ZI x (wkT bh T b o) L := h
/-- water thrown from q to its neighbours -/
theorem thW_ok (hx : PIv x) {w : Nat → Int32} {B : Int} (hB : B < 2147483648) (hN : NN x.1.2.2 w B) {q m : Nat} (hq : q < x.1.2.2) (hm : w q = nI m) (hm2 : m < 2 ^ 31) : ∀ d, d ≤ 4 → ∃ k, k ≤ d ∧ (thW (nbx x) q (nI (m / 5)) w d).2 = nI (k * (m / 5)) ∧ (thW (nbx x) q (nI (m / 5)) w d).1 q = w q ∧ NN x.1.2.2 (upd (thW (nbx x) q (nI (m / 5)) w d).1 q (w q - nI (k * (m / 5)))) B
  | 0, _ => by
    refine ⟨0, Nat.le_refl 0, by rw [Nat.zero_mul]; rfl, rfl, ?_⟩
    rw [Nat.zero_mul, show w q - nI 0 = w q from Int32.sub_zero _]
    show NN x.1.2.2 (upd w q (w q)) B
    rw [show upd w q (w q) = w from by
      funext j
      by_cases he : j = q
      · rw [he, upd_at]
      · rw [upd_ne he]]
    exact hN
  | d + 1, hd => by
    obtain ⟨k, hk, h1, h2, h3⟩ := thW_ok hx hB hN hq hm hm2 d (by omega)
    cases hz : nbx x q d with
    | none =>
      rw [show thW (nbx x) q (nI (m / 5)) w (d + 1) = thW (nbx x) q (nI (m / 5)) w d by simp only [thW, hz]]
      exact ⟨k, by omega, h1, h2, h3⟩
    | some o =>
      have ho := nbx_lt hx q d o hz
      have hne : o ≠ q := gnb_ne hz
      rw [show thW (nbx x) q (nI (m / 5)) w (d + 1) = (upd (thW (nbx x) q (nI (m / 5)) w d).1 o ((thW (nbx x) q (nI (m / 5)) w d).1 o + nI (m / 5)), (thW (nbx x) q (nI (m / 5)) w d).2 + nI (m / 5)) by simp only [thW, hz]]
      generalize thW (nbx x) q (nI (m / 5)) w d = W at h1 h2 h3 ⊢
      obtain ⟨W1, W2⟩ := W
      dsimp only at h1 h2 h3 ⊢
      have hk5 : (k + 1) * (m / 5) ≤ m := by
        have a1 : (k + 1) * (m / 5) ≤ 4 * (m / 5) := Nat.mul_le_mul_right _ (by omega)
        omega
      have hkk : k * (m / 5) ≤ m := Nat.le_trans (Nat.mul_le_mul_right _ (Nat.le_succ k)) hk5
      have e1 : w q - nI (k * (m / 5)) = nI (m - k * (m / 5)) := by rw [hm, nI_sb hkk]
      refine ⟨k + 1, by omega, ?_, ?_, ?_⟩
      · rw [h1, nI_add, Nat.succ_mul]
      · rw [upd_ne (fun e => hne e.symm)]; exact h2
      · rw [Nat.succ_mul] at hk5
        have hmv := NN_mv h3 hB hq ho hne (v := nI (m / 5)) (by rw [ni_t (by omega)]; omega) (by rw [upd_at, e1, ni_t (by omega), ni_t (by omega)]; omega)
        rw [upd_at, e1] at hmv
        rw [show upd (upd W1 o (W1 o + nI (m / 5))) q (w q - nI ((k + 1) * (m / 5))) = upd (upd (upd W1 q (nI (m - k * (m / 5)))) q (nI (m - k * (m / 5)) - nI (m / 5))) o (upd (upd W1 q (nI (m - k * (m / 5)))) q (nI (m - k * (m / 5)) - nI (m / 5)) o + nI (m / 5)) from by
          funext j
          by_cases j1 : j = q
          · subst j1
            rw [upd_at, upd_ne (fun e => hne e.symm), upd_at, hm, nI_sb (by rw [Nat.succ_mul]; omega), nI_sb (by omega)]
            congr 1
            rw [Nat.succ_mul]; omega
          · rw [upd_ne j1]
            by_cases j2 : j = o
            · subst j2
              rw [upd_at, upd_at, upd_ne j1, upd_ne j1]
            · rw [upd_ne j2, upd_ne j2, upd_ne j1, upd_ne j1]]
        exact hmv
theorem ZI_th (hx : PIv x) (h : ZI x T L) {b q : Nat} (hq : q < x.1.2.2) : ZI x (thT x T b q) L ∧ 0 ≤ thR x T q := by
  obtain ⟨⟨s1, s2, s3, s4, s5⟩, z2, z3⟩ := h
  have h0 : ¬ T 1 q < 0 := fun c => by have := s5.1 q hq; have := i_lt.mp c; rw [i_0] at this; omega
  obtain ⟨m, hm, hm1⟩ := nI_of h0
  have e5 : T 1 q / 5 = nI (m / 5) := by
    rw [hm1, show (5 : Int32) = nI 5 from rfl]
    exact nI_dv hm (by decide) (by decide)
  obtain ⟨k, hk, h1, h2, h3⟩ := thW_ok hx (by omega) s5 hq hm1 hm 4 (Nat.le_refl 4)
  refine ⟨⟨⟨s1, s2, s3, s4, ?_⟩, z2, z3⟩, ?_⟩
  · show NN x.1.2.2 (upd (thW (nbx x) q (T 1 q / 5) (T 1) 4).1 q ((thW (nbx x) q (T 1 q / 5) (T 1) 4).1 q - (thW (nbx x) q (T 1 q / 5) (T 1) 4).2)) _
    rw [e5, h2, h1]
    exact h3
  · show 0 ≤ (thW (nbx x) q (T 1 q / 5) (T 1) 4).2
    rw [e5, h1]
    have a1 : k * (m / 5) ≤ 4 * (m / 5) := Nat.mul_le_mul_right _ hk
    exact Int32.not_lt.mp (nI_pos (by omega))
/-! minutes -/
theorem fwN_L (hx : PIv x) {w lv : Nat → Int32} (hL : L < 2147483648) (h : NN x.1.2.2 lv L) : ∀ i, i ≤ x.1.2.2 → NN x.1.2.2 (fwN x.2.1 x.2.2.1 (nbx x) (w, lv) i).2 L
  | 0, _ => h
  | i + 1, hi => by
    have ih := fwN_L hx (w := w) hL h i (by omega)
    show NN x.1.2.2 (fwS x.2.1 x.2.2.1 (nbx x) (fwN x.2.1 x.2.2.1 (nbx x) (w, lv) i) i).2 L
    generalize fwN x.2.1 x.2.2.1 (nbx x) (w, lv) i = y at ih ⊢
    unfold fwS
    cases hlo : loF (nbx x) (fun k => x.2.1 k + y.1 k) i 4 with
    | none => exact ih
    | some o =>
      dsimp only
      split
      · exact ih
      · have ho : o < x.1.2.2 := loF_lt (fun d k hk => nbx_lt hx i d k hk) 4 o hlo
        have hne : o ≠ i := loF_P (P := fun k => k ≠ i) (fun d k hk => gnb_ne hk) 4 o hlo
        show NN x.1.2.2 (if 0 < y.2 i ∧ x.2.2.1 i = 0 then upd (upd y.2 i (y.2 i - 1)) o (upd y.2 i (y.2 i - 1) o + 1) else y.2) L
        split
        · rename_i hc
          have h1 := i_lt.mp hc.1
          rw [i_0] at h1
          exact NN_mv ih hL (by omega) ho hne (v := 1) (by decide) (by show (1 : Int) ≤ _; omega)
        · exact ih
theorem sm_b {f w : Nat → Int32} {B : Int} (hB : B < 2147483648) : ∀ n, (∀ k, k < n → 0 ≤ (f k).toInt ∧ (f k).toInt ≤ (w k).toInt) → ws w n ≤ B → 0 ≤ (sm f n).toInt ∧ (sm f n).toInt ≤ ws w n
  | 0, _, _ => ⟨Int.le_refl 0, Int.le_refl 0⟩
  | n + 1, h, hs => by
    have h2 := h n (by omega)
    have hs2 : ws w n + (w n).toInt ≤ B := hs
    obtain ⟨i1, i2⟩ := sm_b hB n (fun k hk => h k (by omega)) (by omega)
    have e : (sm f n + f n).toInt = (sm f n).toInt + (f n).toInt := i_add (by omega) (by omega)
    show 0 ≤ (sm f n + f n).toInt ∧ (sm f n + f n).toInt ≤ ws w n + (w n).toInt
    rw [e]; omega
theorem dr_1 (hx : PIv x) {B : Int} (h : SI x T B) (hB : B + 1856 < 2147483648) : ∃ d : Int32, mnX x T 1 0 11 = T 0 11 + d ∧ 0 ≤ d.toInt ∧ d.toInt ≤ B + 1856 := by
  have hf := fwN_NN hx hB (lv := T 2) (mw2_NN hx h hB) x.1.2.2 (Nat.le_refl _)
  refine ⟨sm (dU x.2.2.1 (mf3 x.1.2.2 x.2.1 x.2.2.1 (nbx x) T).2 (mf3 x.1.2.2 x.2.1 x.2.2.1 (nbx x) T).1) x.1.2.2, rfl, ?_⟩
  have hb := sm_b (f := dU x.2.2.1 (mf3 x.1.2.2 x.2.1 x.2.2.1 (nbx x) T).2 (mf3 x.1.2.2 x.2.1 x.2.2.1 (nbx x) T).1) hB x.1.2.2 (fun k hk => dU_b (hf.1 k hk)) hf.2
  exact ⟨hb.1, Int.le_trans hb.2 hf.2⟩
theorem dr_n (hx : PIv x) {B : Int} (h0 : 0 ≤ B) (h : SI x T B) : ∀ t : Nat, B + 1856 * t < 2147483648 → (B + 1856 * t) * t < 2147483648 → ∃ d : Int32, mnX x T t 0 11 = T 0 11 + d ∧ 0 ≤ d.toInt ∧ d.toInt ≤ (B + 1856 * t) * t
  | 0, _, _ => ⟨0, (Int32.add_zero _).symm, Int.le_refl 0, by simp⟩
  | t + 1, hB, hC => by
    have a1 : (B + 1856 * (t : Int)) * t ≤ (B + 1856 * ((t + 1 : Nat) : Int)) * t := Int.mul_le_mul_of_nonneg_right (by omega) (by omega)
    have a2 : (B + 1856 * ((t + 1 : Nat) : Int)) * ((t + 1 : Nat) : Int) = (B + 1856 * ((t + 1 : Nat) : Int)) * t + (B + 1856 * ((t + 1 : Nat) : Int)) := by
      rw [show ((t + 1 : Nat) : Int) = (t : Int) + 1 from rfl, Int.mul_add, Int.mul_one]
    obtain ⟨d, d1, d2, d3⟩ := dr_n hx h0 h t (by omega) (by omega)
    obtain ⟨e, e1, e2, e3⟩ := dr_1 hx (SI_n hx h t (by omega)) (by omega)
    have es : (d + e).toInt = d.toInt + e.toInt := i_add (by omega) (by omega)
    refine ⟨d + e, ?_, by rw [es]; omega, by rw [es]; omega⟩
    show mnX x (mnX x T t) 1 0 11 = _
    rw [e1, d1, Int32.add_assoc]
theorem mn_7 : ∀ t : Nat, 0 ≤ (T 0 7).toInt → (T 0 7).toInt + t < 2147483648 → (mnX x T t 0 7).toInt = (T 0 7).toInt + t
  | 0, _, _ => by
    show (T 0 7).toInt = _
    simp
  | t + 1, h, h2 => by
    have ih := mn_7 t h (by omega)
    show (mnX x T t 0 7 + 1).toInt = _
    have o1 : (1 : Int32).toInt = 1 := rfl
    rw [i_add (by rw [ih, o1]; omega) (by rw [ih, o1]; omega), ih, o1]
    omega
theorem mn_L (hx : PIv x) (hL : L < 2147483648) (h : NN x.1.2.2 (T 2) L) : ∀ t : Nat, NN x.1.2.2 (mnX x T t 2) L
  | 0 => h
  | t + 1 => fwN_L hx hL (mn_L hx hL h t) x.1.2.2 (Nat.le_refl _)
theorem ZI_mn (hx : PIv x) (hL : L < 2147483648) (h : ZI x T L) {t : Nat} (ht : t ≤ 60) (h9 : (T 0 7).toInt + t ≤ 999) : ZI x (mnX x T t) L ∧ 0 ≤ mnX x T t 0 11 - T 0 11 := by
  obtain ⟨s, z2, z3⟩ := h
  have e7 : (mnX x T t 0 7).toInt = (T 0 7).toInt + t := mn_7 t z2.1 (by omega)
  have hS := SI_n hx s t (by omega)
  have hq : (1856 * (T 0 7).toInt + 1856 * (t : Int)) * t ≤ (1856 * 999) * 60 := by
    have a1 : (1856 * (T 0 7).toInt + 1856 * (t : Int)) * t ≤ (1856 * 999) * (t : Int) := Int.mul_le_mul_of_nonneg_right (by omega) (by omega)
    omega
  obtain ⟨d, d1, d2, d3⟩ := dr_n hx (by omega) s t (by omega) (by omega)
  refine ⟨⟨?_, by rw [e7]; omega, mn_L hx hL z3 t⟩, ?_⟩
  · rw [e7, Int.mul_add]; exact hS
  · rw [d1, Int32.add_comm, Int32.add_sub_cancel]
    exact i_le.mpr (by rw [i_0]; exact d2)
theorem cO_b {w : Nat → Int32} : ∀ n : Nat, n < 2 ^ 20 → 0 ≤ (sm (cO w) n).toInt ∧ (sm (cO w) n).toInt ≤ n ∧ ∀ c, c < n → 0 < w c → 1 ≤ (sm (cO w) n).toInt
  | 0, _ => ⟨Int.le_refl 0, Int.le_refl 0, fun c hc => absurd hc (Nat.not_lt_zero c)⟩
  | n + 1, hn => by
    obtain ⟨h1, h2, h3⟩ := cO_b (w := w) n (by omega)
    have hc : (cO w n).toInt = 0 ∨ (cO w n).toInt = 1 := by
      unfold cO
      split
      · exact Or.inl rfl
      · exact Or.inr rfl
    have e : (sm (cO w) n + cO w n).toInt = (sm (cO w) n).toInt + (cO w n).toInt := i_add (by omega) (by omega)
    show 0 ≤ (sm (cO w) n + cO w n).toInt ∧ (sm (cO w) n + cO w n).toInt ≤ ((n + 1 : Nat) : Int) ∧ _
    rw [e]
    refine ⟨by omega, by omega, fun c hc2 hw => ?_⟩
    show 1 ≤ (sm (cO w) n + cO w n).toInt
    rw [e]
    by_cases he : c = n
    · subst he
      have : (cO w c).toInt = 1 := by
        unfold cO
        rw [if_neg (Int32.not_le.mpr hw)]; rfl
      omega
    · have := h3 c (by omega) hw
      omega
end ZIS
