/-! the law's own city: a square with a wall around it; said by a plan x, a state T of the class, and what else stands in its arrays (B) -/
abbrev inC (x : PP) (r c : Nat) : Prop := (1 ≤ r ∧ r ≤ x.1.1) ∧ 1 ≤ c ∧ c ≤ x.1.2.1
def clC (x : PP) (r c : Nat) : Nat := (r - 1) * x.1.2.1 + (c - 1)
theorem cdiv {a b v : Nat} (h : b < v) : (a * v + b) / v = a := by rw [Nat.mul_comm a v, Nat.mul_add_div (by omega), Nat.div_eq_of_lt h, Nat.add_zero]
theorem cmod {a b v : Nat} (h : b < v) : (a * v + b) % v = b := by rw [Nat.mul_comm a v, Nat.mul_add_mod, Nat.mod_eq_of_lt h]
theorem clC_lt {x : PP} {r c : Nat} (hz : x.1.2.2 = x.1.1 * x.1.2.1) (h : inC x r c) : clC x r c < x.1.2.2 := by
  obtain ⟨⟨h1, h2⟩, h3, h4⟩ := h
  rw [hz]
  have h5 : (r - 1 + 1) * x.1.2.1 ≤ x.1.1 * x.1.2.1 := Nat.mul_le_mul_right _ (by omega)
  rw [Nat.succ_mul] at h5
  unfold clC
  omega
theorem clC_div {x : PP} {r c : Nat} (h : inC x r c) : clC x r c / x.1.2.1 = r - 1 := by
  obtain ⟨⟨h1, h2⟩, h3, h4⟩ := h
  exact cdiv (by omega)
theorem clC_mod {x : PP} {r c : Nat} (h : inC x r c) : clC x r c % x.1.2.1 = c - 1 := by
  obtain ⟨⟨h1, h2⟩, h3, h4⟩ := h
  exact cmod (by omega)
theorem clC_inj {x : PP} {r c r2 c2 : Nat} (h : inC x r c) (h2 : inC x r2 c2) (e : clC x r c = clC x r2 c2) : r = r2 ∧ c = c2 := by
  have e1 := clC_div h
  have e2 := clC_mod h
  rw [e, clC_div h2] at e1
  rw [e, clC_mod h2] at e2
  obtain ⟨⟨h3, h4⟩, h5, h6⟩ := h
  obtain ⟨⟨h7, h8⟩, h9, h10⟩ := h2
  omega
/-- the number of a cell, back to its row and column -/
theorem clC_of {x : PP} {k : Nat} (hz : x.1.2.2 = x.1.1 * x.1.2.1) (hk : k < x.1.2.2) : inC x (k / x.1.2.1 + 1) (k % x.1.2.1 + 1) ∧ clC x (k / x.1.2.1 + 1) (k % x.1.2.1 + 1) = k := by
  rw [hz] at hk
  have hv : 0 < x.1.2.1 := Nat.pos_of_ne_zero fun q => by rw [q] at hk; simp at hk
  have hd := Nat.div_add_mod k x.1.2.1
  have hm := Nat.mod_lt k hv
  have hr : k / x.1.2.1 < x.1.1 := Nat.div_lt_of_lt_mul (by rw [Nat.mul_comm]; exact hk)
  generalize k / x.1.2.1 = a at hd hr ⊢
  generalize k % x.1.2.1 = b at hd hm ⊢
  refine ⟨⟨⟨by omega, by omega⟩, by omega, by omega⟩, ?_⟩
  unfold clC
  rw [Nat.add_sub_cancel, Nat.add_sub_cancel, Nat.mul_comm]
  exact hd
/-- the plan's and the state's arrays: 0 heights, 1 water, 2 leaves, 3 gutters, 5 the hydrants' minutes -/
def lA (x : PP) (T : Nat → Nat → Int32) (a k : Nat) : Int32 := if a = 0 then x.2.1 k else if a = 1 then T 1 k else if a = 2 then T 2 k else if a = 3 then x.2.2.1 k else T 4 k
def lO (x : PP) (T : Nat → Nat → Int32) (b : Nat → Int32) (k : Nat) : Int32 := if k = 12 then nI x.1.1 else if k = 13 then nI x.1.2.1 else if k = 14 then nI x.2.2.2.2.1 else if k = 15 then T 0 8 else if k = 16 then T 0 7 else if k = 17 then T 0 9 else if k = 18 then T 0 10 else if k = 19 then T 0 11 else if k = 20 then T 0 12 else b k
/-- the boots: rows, columns, heights, splashes, wetness -/
def lB (x : PP) (T : Nat → Nat → Int32) (t k : Nat) : Int32 := if t = 8 then nI ((T 5 k).toNatClampNeg / x.1.2.1 + 1) else if t = 9 then nI ((T 5 k).toNatClampNeg % x.1.2.1 + 1) else if t = 10 then x.2.2.2.2.2.2.2.1 k else if t = 11 then T 6 k else T 7 k
def LE (B : Nat → Nat → Int32) (x : PP) (T : Nat → Nat → Int32) : Nat → Nat → Int32 := fun t k =>
  if t = 0 then lO x T (B 0) k
  else if t < 13 then (if 8 ≤ t ∧ k < x.2.2.2.2.1 then lB x T t k else B t k)
  else if (20 ≤ t ∧ t < 62 ∧ ¬ (48 ≤ t ∧ t < 55)) ∧ inC x ((t - 20) % 7) k then lA x T ((t - 20) / 7) (clC x ((t - 20) % 7) k)
  else B t k
section
variable {B : Nat → Nat → Int32} {x : PP} {T : Nat → Nat → Int32}
theorem LE_0 {k : Nat} : LE B x T 0 k = lO x T (B 0) k := rfl
theorem LE_b {t k : Nat} (h8 : 8 ≤ t) (h13 : t < 13) : LE B x T t k = if k < x.2.2.2.2.1 then lB x T t k else B t k := by
  unfold LE
  rw [if_neg (by omega), if_pos h13]
  by_cases h : k < x.2.2.2.2.1
  · rw [if_pos ⟨h8, h⟩, if_pos h]
  · rw [if_neg (fun q => h q.2), if_neg h]
theorem LE_bt {t k : Nat} (h8 : 8 ≤ t) (h13 : t < 13) (h : k < x.2.2.2.2.1) : LE B x T t k = lB x T t k := by rw [LE_b h8 h13, if_pos h]
theorem LE_t {a r k : Nat} (ha : a < 7) (hr : r < 7) : LE B x T (20 + 7 * a + r) k = if (a < 6 ∧ a ≠ 4) ∧ inC x r k then lA x T a (clC x r k) else B (20 + 7 * a + r) k := by
  unfold LE
  rw [if_neg (by omega), if_neg (by omega), show (20 + 7 * a + r - 20) % 7 = r by omega, show (20 + 7 * a + r - 20) / 7 = a by omega]
  by_cases h : inC x r k
  · by_cases h2 : a < 6 ∧ a ≠ 4
    · rw [if_pos ⟨by omega, h⟩, if_pos ⟨h2, h⟩]
    · rw [if_neg (fun q => h2 (by have := q.1; omega)), if_neg (fun q => h2 q.1)]
  · rw [if_neg (fun q => h q.2), if_neg (fun q => h q.2)]
theorem LE_in {a r k : Nat} (ha : a < 6 ∧ a ≠ 4) (hr : r < 7) (h : inC x r k) : LE B x T (20 + 7 * a + r) k = lA x T a (clC x r k) := by rw [LE_t (by omega) hr, if_pos ⟨ha, h⟩]
theorem LE_out {a r k : Nat} (ha : a < 7) (hr : r < 7) (h : ¬ inC x r k) : LE B x T (20 + 7 * a + r) k = B (20 + 7 * a + r) k := by rw [LE_t ha hr, if_neg (fun q => h q.2)]
theorem LE_raw {a r k : Nat} (ha : a = 4 ∨ a = 6) (hr : r < 7) : LE B x T (20 + 7 * a + r) k = B (20 + 7 * a + r) k := by rw [LE_t (by omega) hr, if_neg (fun q => by have := q.1; omega)]
theorem LE_h {r k : Nat} (hr : r < 7) (h : inC x r k) : LE B x T (20 + 7 * 0 + r) k = x.2.1 (clC x r k) := LE_in (by omega) hr h
theorem LE_w {r k : Nat} (hr : r < 7) (h : inC x r k) : LE B x T (20 + 7 * 1 + r) k = T 1 (clC x r k) := LE_in (by omega) hr h
theorem LE_l {r k : Nat} (hr : r < 7) (h : inC x r k) : LE B x T (20 + 7 * 2 + r) k = T 2 (clC x r k) := LE_in (by omega) hr h
theorem LE_g {r k : Nat} (hr : r < 7) (h : inC x r k) : LE B x T (20 + 7 * 3 + r) k = x.2.2.1 (clC x r k) := LE_in (by omega) hr h
theorem LE_m {r k : Nat} (hr : r < 7) (h : inC x r k) : LE B x T (20 + 7 * 5 + r) k = T 4 (clC x r k) := LE_in (by omega) hr h
/-- where two states say the same, so do the law's cities -/
theorem LE_congr {B' : Nat → Nat → Int32} {T' : Nat → Nat → Int32} (h0 : ∀ k, lO x T' (B' 0) k = lO x T (B 0) k) (hb : ∀ t k, 8 ≤ t → t < 13 → k < x.2.2.2.2.1 → lB x T' t k = lB x T t k) (hA : ∀ a r k, a < 6 → a ≠ 4 → r < 7 → inC x r k → lA x T' a (clC x r k) = lA x T a (clC x r k)) (hB : ∀ t k, t ≠ 0 → B' t k = B t k) : LE B' x T' = LE B x T := by
  funext t k
  unfold LE
  by_cases h1 : t = 0
  · rw [if_pos h1, if_pos h1]; exact h0 k
  · rw [if_neg h1, if_neg h1, hB t k h1]
    by_cases h2 : t < 13
    · rw [if_pos h2, if_pos h2]
      by_cases h3 : 8 ≤ t ∧ k < x.2.2.2.2.1
      · rw [if_pos h3, if_pos h3]; exact hb t k h3.1 h2 h3.2
      · rw [if_neg h3, if_neg h3]
    · rw [if_neg h2, if_neg h2]
      by_cases h3 : (20 ≤ t ∧ t < 62 ∧ ¬ (48 ≤ t ∧ t < 55)) ∧ inC x ((t - 20) % 7) k
      · rw [if_pos h3, if_pos h3]
        have h4 := h3.1
        exact hA _ _ k (by omega) (by omega) (by omega) h3.2
      · rw [if_neg h3, if_neg h3]
/-- one place of the square -/
theorem LE_set {T' : Nat → Nat → Int32} {a r c : Nat} {v : Int32} (ha : a < 6 ∧ a ≠ 4) (hr : r < 7) (hin : inC x r c) (h0 : ∀ b k, lO x T' b k = lO x T b k) (hb : ∀ t k, lB x T' t k = lB x T t k) (h1 : lA x T' a (clC x r c) = v) (h2 : ∀ a' r' k, a' < 6 → a' ≠ 4 → inC x r' k → ¬ (a' = a ∧ clC x r' k = clC x r c) → lA x T' a' (clC x r' k) = lA x T a' (clC x r' k)) : sett (LE B x T) (20 + 7 * a + r) (upd (LE B x T (20 + 7 * a + r)) c v) = LE B x T' := by
  funext t k
  by_cases ht : t = 20 + 7 * a + r
  · subst ht
    rw [sett_s, LE_t (by omega) hr]
    by_cases hk : k = c
    · subst hk
      rw [if_pos ⟨ha, hin⟩, h1]
      exact if_pos rfl
    · rw [show upd (LE B x T (20 + 7 * a + r)) c v k = LE B x T (20 + 7 * a + r) k from if_neg hk, LE_t (by omega) hr]
      by_cases h3 : (a < 6 ∧ a ≠ 4) ∧ inC x r k
      · rw [if_pos h3, if_pos h3, h2 a r k ha.1 ha.2 h3.2 (fun q => hk (clC_inj h3.2 hin q.2).2)]
      · rw [if_neg h3, if_neg h3]
  · rw [sett_n ht]
    unfold LE
    by_cases h3 : t = 0
    · rw [if_pos h3, if_pos h3, h0]
    · rw [if_neg h3, if_neg h3]
      by_cases h4 : t < 13
      · rw [if_pos h4, if_pos h4, hb]
      · rw [if_neg h4, if_neg h4]
        by_cases h5 : (20 ≤ t ∧ t < 62 ∧ ¬ (48 ≤ t ∧ t < 55)) ∧ inC x ((t - 20) % 7) k
        · rw [if_pos h5, if_pos h5]
          have h6 := h5.1
          refine (h2 _ _ k (by omega) (by omega) h5.2 (fun q => ht ?_)).symm
          have h7 := (clC_inj h5.2 hin q.2).1
          omega
        · rw [if_neg h5, if_neg h5]
theorem LE_sw {r c : Nat} {v : Int32} (hr : r < 7) (hin : inC x r c) : sett (LE B x T) (20 + 7 * 1 + r) (upd (LE B x T (20 + 7 * 1 + r)) c v) = LE B x (sc T 1 (clC x r c) v) :=
  LE_set (by omega) hr hin (fun _ _ => rfl) (fun _ _ => rfl) (if_pos rfl) (fun a r' k _ _ hk h => by
    unfold lA
    by_cases h1 : a = 1
    · subst h1
      exact if_neg (fun q => h ⟨rfl, q⟩)
    · rw [if_neg h1, if_neg h1]; rfl)
theorem LE_sl {r c : Nat} {v : Int32} (hr : r < 7) (hin : inC x r c) : sett (LE B x T) (20 + 7 * 2 + r) (upd (LE B x T (20 + 7 * 2 + r)) c v) = LE B x (sc T 2 (clC x r c) v) :=
  LE_set (by omega) hr hin (fun _ _ => rfl) (fun _ _ => rfl) (if_pos rfl) (fun a r' k _ _ hk h => by
    unfold lA
    by_cases h1 : a = 2
    · subst h1
      exact if_neg (fun q => h ⟨rfl, q⟩)
    · rw [if_neg h1, if_neg h1]; rfl)
theorem LE_sm {r c : Nat} {v : Int32} (hr : r < 7) (hin : inC x r c) : sett (LE B x T) (20 + 7 * 5 + r) (upd (LE B x T (20 + 7 * 5 + r)) c v) = LE B x (sc T 4 (clC x r c) v) :=
  LE_set (by omega) hr hin (fun _ _ => rfl) (fun _ _ => rfl) (if_pos rfl) (fun a r' k h6 h4 hk h => by
    unfold lA
    by_cases h1 : a = 5
    · subst h1
      exact if_neg (fun q => h ⟨rfl, q⟩)
    · by_cases h2 : a = 0
      · rw [if_pos h2, if_pos h2]
      · rw [if_neg h2, if_neg h2]
        by_cases h3 : a = 1
        · rw [if_pos h3, if_pos h3]; rfl
        · rw [if_neg h3, if_neg h3]
          by_cases h5 : a = 2
          · rw [if_pos h5, if_pos h5]; rfl
          · rw [if_neg h5, if_neg h5, if_pos (by omega), if_pos (by omega)])
/-- a place of an array that the class has no word for -/
theorem LE_sB {a r : Nat} {f : Nat → Int32} (ha : a = 4 ∨ a = 6) (hr : r < 7) : sett (LE B x T) (20 + 7 * a + r) f = LE (sett B (20 + 7 * a + r) f) x T := by
  funext t k
  by_cases ht : t = 20 + 7 * a + r
  · subst ht
    rw [sett_s, LE_raw ha hr, sett_s]
  · rw [sett_n ht]
    unfold LE
    rw [sett_n ht, sett_n (by omega)]
/-- a number of the object -/
theorem LE_s0 {T' : Nat → Nat → Int32} {f : Nat} {v : Int32} (h0 : ∀ b k, lO x T' b k = if k = f then v else lO x T b k) (hb : ∀ t k, lB x T' t k = lB x T t k) (hA : ∀ a k, lA x T' a k = lA x T a k) : sett (LE B x T) 0 (upd (LE B x T 0) f v) = LE B x T' := by
  funext t k
  by_cases ht : t = 0
  · subst ht
    rw [sett_s, LE_0, h0]
    rfl
  · rw [sett_n ht]
    unfold LE
    rw [if_neg ht, if_neg ht]
    simp only [hb, hA]
theorem LE_f16 {v : Int32} : sett (LE B x T) 0 (upd (LE B x T 0) 16 v) = LE B x (sc T 0 7 v) := LE_s0 (fun b k => by
  by_cases h : k = 16
  · subst h; rfl
  · rw [if_neg h]; unfold lO; rw [if_neg h, if_neg h]; rfl) (fun _ _ => rfl) (fun _ _ => rfl)
theorem LE_f15 {v : Int32} : sett (LE B x T) 0 (upd (LE B x T 0) 15 v) = LE B x (sc T 0 8 v) := LE_s0 (fun b k => by
  by_cases h : k = 15
  · subst h; rfl
  · rw [if_neg h]; unfold lO; rw [if_neg h, if_neg h]; rfl) (fun _ _ => rfl) (fun _ _ => rfl)
theorem LE_f17 {v : Int32} : sett (LE B x T) 0 (upd (LE B x T 0) 17 v) = LE B x (sc T 0 9 v) := LE_s0 (fun b k => by
  by_cases h : k = 17
  · subst h; rfl
  · rw [if_neg h]; unfold lO; rw [if_neg h, if_neg h]; rfl) (fun _ _ => rfl) (fun _ _ => rfl)
theorem LE_f18 {v : Int32} : sett (LE B x T) 0 (upd (LE B x T 0) 18 v) = LE B x (sc T 0 10 v) := LE_s0 (fun b k => by
  by_cases h : k = 18
  · subst h; rfl
  · rw [if_neg h]; unfold lO; rw [if_neg h, if_neg h]; rfl) (fun _ _ => rfl) (fun _ _ => rfl)
theorem LE_f19 {v : Int32} : sett (LE B x T) 0 (upd (LE B x T 0) 19 v) = LE B x (sc T 0 11 v) := LE_s0 (fun b k => by
  by_cases h : k = 19
  · subst h; rfl
  · rw [if_neg h]; unfold lO; rw [if_neg h, if_neg h]; rfl) (fun _ _ => rfl) (fun _ _ => rfl)
theorem LE_f20 {v : Int32} : sett (LE B x T) 0 (upd (LE B x T 0) 20 v) = LE B x (sc T 0 12 v) := LE_s0 (fun b k => by
  by_cases h : k = 20
  · subst h; rfl
  · rw [if_neg h]; unfold lO; rw [if_neg h, if_neg h]; rfl) (fun _ _ => rfl) (fun _ _ => rfl)
/-- a number of the boots -/
theorem LE_sb {T' : Nat → Nat → Int32} {t b : Nat} {v : Int32} (h8 : 8 ≤ t) (h13 : t < 13) (hb9 : b < x.2.2.2.2.1) (h0 : ∀ b k, lO x T' b k = lO x T b k) (hb : ∀ u k, 8 ≤ u → u < 13 → lB x T' u k = if u = t ∧ k = b then v else lB x T u k) (hA : ∀ a k, lA x T' a k = lA x T a k) : sett (LE B x T) t (upd (LE B x T t) b v) = LE B x T' := by
  funext u k
  by_cases hu : u = t
  · subst hu
    rw [sett_s, LE_b h8 h13]
    by_cases hk : k = b
    · subst hk
      rw [if_pos hb9, hb _ _ h8 h13, if_pos ⟨rfl, rfl⟩]
      exact if_pos rfl
    · rw [show upd (LE B x T u) b v k = LE B x T u k from if_neg hk, LE_b h8 h13]
      by_cases hlt : k < x.2.2.2.2.1
      · rw [if_pos hlt, if_pos hlt, hb _ _ h8 h13, if_neg (fun q => hk q.2)]
      · rw [if_neg hlt, if_neg hlt]
  · rw [sett_n hu]
    unfold LE
    by_cases h1 : u = 0
    · rw [if_pos h1, if_pos h1, h0]
    · rw [if_neg h1, if_neg h1]
      by_cases h2 : u < 13
      · rw [if_pos h2, if_pos h2]
        by_cases h3 : 8 ≤ u ∧ k < x.2.2.2.2.1
        · rw [if_pos h3, if_pos h3, hb u k h3.1 h2, if_neg (fun q => hu q.1)]
        · rw [if_neg h3, if_neg h3]
      · rw [if_neg h2, if_neg h2]
        simp only [hA]
theorem LE_s12 {b : Nat} {v : Int32} (hb : b < x.2.2.2.2.1) : sett (LE B x T) 12 (upd (LE B x T 12) b v) = LE B x (sc T 7 b v) :=
  LE_sb (by decide) (by decide) hb (fun _ _ => rfl) (fun u k h8 h13 => by
    rcases (show u = 8 ∨ u = 9 ∨ u = 10 ∨ u = 11 ∨ u = 12 by omega) with rfl | rfl | rfl | rfl | rfl
    · show lB x T 8 k = if 8 = 12 ∧ k = b then v else lB x T 8 k
      rw [if_neg (fun q => absurd q.1 (by decide))]
    · show lB x T 9 k = if 9 = 12 ∧ k = b then v else lB x T 9 k
      rw [if_neg (fun q => absurd q.1 (by decide))]
    · show lB x T 10 k = if 10 = 12 ∧ k = b then v else lB x T 10 k
      rw [if_neg (fun q => absurd q.1 (by decide))]
    · show lB x T 11 k = if 11 = 12 ∧ k = b then v else lB x T 11 k
      rw [if_neg (fun q => absurd q.1 (by decide))]
    · show upd (T 7) b v k = if 12 = 12 ∧ k = b then v else T 7 k
      by_cases h : k = b
      · rw [if_pos ⟨rfl, h⟩]; exact if_pos h
      · rw [if_neg (fun q => h q.2)]; exact if_neg h) (fun _ _ => rfl)
theorem LE_s11 {b : Nat} {v : Int32} (hb : b < x.2.2.2.2.1) : sett (LE B x T) 11 (upd (LE B x T 11) b v) = LE B x (sc T 6 b v) :=
  LE_sb (by decide) (by decide) hb (fun _ _ => rfl) (fun u k h8 h13 => by
    rcases (show u = 8 ∨ u = 9 ∨ u = 10 ∨ u = 11 ∨ u = 12 by omega) with rfl | rfl | rfl | rfl | rfl
    · show lB x T 8 k = if 8 = 11 ∧ k = b then v else lB x T 8 k
      rw [if_neg (fun q => absurd q.1 (by decide))]
    · show lB x T 9 k = if 9 = 11 ∧ k = b then v else lB x T 9 k
      rw [if_neg (fun q => absurd q.1 (by decide))]
    · show lB x T 10 k = if 10 = 11 ∧ k = b then v else lB x T 10 k
      rw [if_neg (fun q => absurd q.1 (by decide))]
    · show upd (T 6) b v k = if 11 = 11 ∧ k = b then v else T 6 k
      by_cases h : k = b
      · rw [if_pos ⟨rfl, h⟩]; exact if_pos h
      · rw [if_neg (fun q => h q.2)]; exact if_neg h
    · show lB x T 12 k = if 12 = 11 ∧ k = b then v else lB x T 12 k
      rw [if_neg (fun q => absurd q.1 (by decide))]) (fun _ _ => rfl)
/-- boots that walk: both their numbers -/
theorem LE_s89 {b r c : Nat} {v : Int32} (hb : b < x.2.2.2.2.1) (hz : x.1.2.2 = x.1.1 * x.1.2.1) (h64 : x.1.2.2 ≤ 64) (hin : inC x r c) (hv : v = nI (clC x r c)) : sett (sett (LE B x T) 8 (upd (LE B x T 8) b (nI r))) 9 (upd (LE B x T 9) b (nI c)) = LE B x (sc T 5 b v) := by
  have hlt := clC_lt hz hin
  have hcl : v.toNatClampNeg = clC x r c := by rw [hv, nI_clamp (by omega)]
  have hr : clC x r c / x.1.2.1 + 1 = r := by have := clC_div hin; obtain ⟨⟨_, _⟩, _, _⟩ := hin; omega
  have hc : clC x r c % x.1.2.1 + 1 = c := by have := clC_mod hin; obtain ⟨⟨_, _⟩, _, _⟩ := hin; omega
  have e5 : ∀ k, sc T 5 b v 5 k = if k = b then v else T 5 k := fun k => rfl
  funext u k
  by_cases h9 : u = 9
  · subst h9
    rw [sett_s, LE_b (by decide) (by decide)]
    by_cases hk : k = b
    · subst hk
      rw [if_pos hb]
      show (if k = k then nI c else _) = nI ((if k = k then v else T 5 k).toNatClampNeg % x.1.2.1 + 1)
      rw [if_pos rfl, if_pos rfl, hcl, hc]
    · rw [show upd (LE B x T 9) b (nI c) k = LE B x T 9 k from if_neg hk, LE_b (by decide) (by decide)]
      by_cases h1 : k < x.2.2.2.2.1
      · rw [if_pos h1, if_pos h1]
        show nI ((T 5 k).toNatClampNeg % x.1.2.1 + 1) = nI ((if k = b then v else T 5 k).toNatClampNeg % x.1.2.1 + 1)
        rw [if_neg hk]
      · rw [if_neg h1, if_neg h1]
  · rw [sett_n h9]
    by_cases h8 : u = 8
    · subst h8
      rw [sett_s, LE_b (by decide) (by decide)]
      by_cases hk : k = b
      · subst hk
        rw [if_pos hb]
        show (if k = k then nI r else _) = nI ((if k = k then v else T 5 k).toNatClampNeg / x.1.2.1 + 1)
        rw [if_pos rfl, if_pos rfl, hcl, hr]
      · rw [show upd (LE B x T 8) b (nI r) k = LE B x T 8 k from if_neg hk, LE_b (by decide) (by decide)]
        by_cases h1 : k < x.2.2.2.2.1
        · rw [if_pos h1, if_pos h1]
          show nI ((T 5 k).toNatClampNeg / x.1.2.1 + 1) = nI ((if k = b then v else T 5 k).toNatClampNeg / x.1.2.1 + 1)
          rw [if_neg hk]
        · rw [if_neg h1, if_neg h1]
    · rw [sett_n h8]
      unfold LE
      by_cases h1 : u = 0
      · rw [if_pos h1, if_pos h1]; rfl
      · rw [if_neg h1, if_neg h1]
        by_cases h2 : u < 13
        · rw [if_pos h2, if_pos h2]
          by_cases h3 : 8 ≤ u ∧ k < x.2.2.2.2.1
          · rw [if_pos h3, if_pos h3]
            unfold lB
            rw [if_neg h8, if_neg h8, if_neg h9, if_neg h9]
            rfl
          · rw [if_neg h3, if_neg h3]
        · rw [if_neg h2, if_neg h2]
          rfl
end
