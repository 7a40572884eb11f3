/-! sums of water -/
def ws (w : Nat → Int32) : Nat → Int
  | 0 => 0
  | n + 1 => ws w n + (w n).toInt
/-- no water is below 0, all of it at most B -/
def NN (n : Nat) (w : Nat → Int32) (B : Int) : Prop := (∀ k, k < n → 0 ≤ (w k).toInt) ∧ ws w n ≤ B
theorem ws_upd {w : Nat → Int32} {c : Nat} {v : Int32} : ∀ n, ws (upd w c v) n = if c < n then ws w n - (w c).toInt + v.toInt else ws w n
  | 0 => (if_neg (Nat.not_lt_zero c)).symm
  | n + 1 => by
    show ws (upd w c v) n + (upd w c v n).toInt = _
    rw [ws_upd n]
    show _ = if c < n + 1 then ws w n + (w n).toInt - (w c).toInt + v.toInt else ws w n + (w n).toInt
    by_cases h : c = n
    · subst h
      rw [upd_at, if_neg (Nat.lt_irrefl _), if_pos (Nat.lt_succ_self _)]
      omega
    · rw [upd_ne (fun q => h q.symm)]
      by_cases h2 : c < n
      · rw [if_pos h2, if_pos (by omega)]; omega
      · rw [if_neg h2, if_neg (by omega)]
theorem ws_nn {w : Nat → Int32} : ∀ n, (∀ k, k < n → 0 ≤ (w k).toInt) → 0 ≤ ws w n
  | 0, _ => Int.le_refl 0
  | n + 1, h => by
    have h1 := ws_nn n (fun k hk => h k (by omega))
    have h2 := h n (by omega)
    show 0 ≤ ws w n + (w n).toInt
    omega
theorem ws_le {w : Nat → Int32} {c : Nat} : ∀ n, (∀ k, k < n → 0 ≤ (w k).toInt) → c < n → (w c).toInt ≤ ws w n
  | 0, _, hc => absurd hc (Nat.not_lt_zero c)
  | n + 1, h, hc => by
    have h1 := ws_nn n (fun k hk => h k (by omega))
    have h2 := h n (by omega)
    show (w c).toInt ≤ ws w n + (w n).toInt
    by_cases he : c = n
    · subst he; omega
    · have := ws_le (c := c) n (fun k hk => h k (by omega)) (by omega)
      omega
theorem i_add {a b : Int32} (h1 : -2147483648 ≤ a.toInt + b.toInt) (h2 : a.toInt + b.toInt < 2147483648) : (a + b).toInt = a.toInt + b.toInt := by
  rw [Int32.toInt_add]
  exact Int.bmod_eq_of_le_mul_two (by omega) (by omega)
theorem i_sub {a b : Int32} (h1 : -2147483648 ≤ a.toInt - b.toInt) (h2 : a.toInt - b.toInt < 2147483648) : (a - b).toInt = a.toInt - b.toInt := by
  rw [Int32.toInt_sub]
  exact Int.bmod_eq_of_le_mul_two (by omega) (by omega)
theorem i_le {a b : Int32} : a ≤ b ↔ a.toInt ≤ b.toInt := Int32.le_iff_toInt_le
theorem i_lt {a b : Int32} : a < b ↔ a.toInt < b.toInt := Int32.lt_iff_toInt_lt
theorem i_0 : (0 : Int32).toInt = 0 := rfl
theorem i_rg (a : Int32) : -2147483648 ≤ a.toInt ∧ a.toInt < 2147483648 := ⟨Int32.le_toInt a, Int32.toInt_lt a⟩
/-- d units go from c to o -/
theorem NN_mv {n : Nat} {w : Nat → Int32} {B : Int} (h : NN n w B) (hB : B < 2147483648) {c o : Nat} (hc : c < n) (ho : o < n) (hne : o ≠ c) {v : Int32} (h0 : 0 ≤ v.toInt) (h1 : v.toInt ≤ (w c).toInt) :
    NN n (upd (upd w c (w c - v)) o (upd w c (w c - v) o + v)) B := by
  obtain ⟨hn, hs⟩ := h
  have rc := i_rg (w c)
  have es : (w c - v).toInt = (w c).toInt - v.toInt := i_sub (by omega) (by omega)
  have hn2 : ∀ k, k < n → 0 ≤ (upd w c (w c - v) k).toInt := fun k hk => by
    by_cases he : k = c
    · rw [he, upd_at, es]; omega
    · rw [upd_ne he]; exact hn k hk
  have s2 : ws (upd w c (w c - v)) n = ws w n - v.toInt := by
    rw [ws_upd, if_pos hc, es]; omega
  have hle := ws_le (c := o) n hn2 ho
  have ro := hn2 o ho
  have eo : (upd w c (w c - v) o + v).toInt = (upd w c (w c - v) o).toInt + v.toInt := i_add (by omega) (by omega)
  refine ⟨fun k hk => ?_, ?_⟩
  · by_cases he : k = o
    · rw [he, upd_at, eo]; omega
    · rw [upd_ne he]; exact hn2 k hk
  · rw [ws_upd, if_pos ho, eo, s2]; omega
theorem fl_b {df w : Int32} (hw : 0 ≤ w.toInt) : 0 ≤ (flA df w).toInt ∧ (flA df w).toInt ≤ w.toInt := by
  unfold flA
  by_cases h : 0 < df
  · rw [if_pos h]
    have h1 : 0 ≤ (df / 2).toInt := by
      obtain ⟨j, hj, rfl⟩ := nI_of (show ¬ df < 0 from Int32.not_lt.mpr (Int32.le_of_lt h))
      rw [show (2 : Int32) = nI 2 from rfl, nI_dv hj (by decide) (by decide), nI_toInt (by omega)]
      omega
    unfold imin
    by_cases h2 : w < df / 2
    · rw [if_pos h2]; exact ⟨hw, Int.le_refl _⟩
    · rw [if_neg h2]
      exact ⟨h1, i_le.mp (Int32.not_lt.mp h2)⟩
  · rw [if_neg h]
    exact ⟨Int.le_refl _, hw⟩
theorem loF_P {nb : Nat → Nat → Option Nat} {lev : Nat → Int32} {c : Nat} {P : Nat → Prop} (hn : ∀ d k, nb c d = some k → P k) : ∀ d b, loF nb lev c d = some b → P b
  | 0, b, h => by simp [loF] at h
  | d + 1, b, h => by
    cases h1 : nb c d with
    | none => rw [loF_n h1] at h; exact loF_P hn d b h
    | some o =>
      cases h2 : loF nb lev c d with
      | none => simp only [loF, h1, h2] at h; cases h; exact hn d _ h1
      | some b2 =>
        simp only [loF, h1, h2] at h
        split at h
        · cases h; exact hn d _ h1
        · cases h; exact loF_P hn d _ h2
theorem gnb_ne {u v c d o : Nat} (h : gnb u v c d = some o) : o ≠ c := by
  unfold gnb at h
  by_cases hc : c < u * v
  · rw [if_pos hc] at h
    have hv : 0 < v := Nat.pos_of_ne_zero fun q => by subst q; simp at hc
    have hd := Nat.div_add_mod c v
    unfold gN at h
    have hvd : 0 < c / v → v ≤ c := fun q => by
      have := Nat.mul_le_mul_left v (show 1 ≤ c / v from q)
      rw [Nat.mul_one] at this
      omega
    split at h
    · by_cases q : 0 < c / v
      · rw [if_pos q] at h; cases h; have := hvd q; omega
      · rw [if_neg q] at h; cases h
    · split at h
      · cases h; omega
      · cases h
    · split at h
      · cases h; omega
      · cases h
    · by_cases q : 0 < c % v
      · rw [if_pos q] at h; cases h; omega
      · rw [if_neg q] at h; cases h
  · rw [if_neg hc] at h; cases h
theorem fwS_NN {x : PP} (hx : PIv x) {w lv : Nat → Int32} {B : Int} (hB : B < 2147483648) {c : Nat} (hc : c < x.1.2.2) (h : NN x.1.2.2 w B) : NN x.1.2.2 (fwS x.2.1 x.2.2.1 (nbx x) (w, lv) c).1 B := by
  unfold fwS
  cases hlo : loF (nbx x) (fun k => x.2.1 k + w k) c 4 with
  | none => exact h
  | some o =>
    dsimp only
    split
    · exact h
    · have ho : o < x.1.2.2 := loF_lt (fun d k hk => nbx_lt hx c d k hk) 4 o hlo
      have hne : o ≠ c := loF_P (P := fun k => k ≠ c) (fun d k hk => gnb_ne hk) 4 o hlo
      have hf := fl_b (df := x.2.1 c + w c - x.2.1 o - w o) (h.1 c hc)
      exact NN_mv h hB hc ho hne hf.1 hf.2
theorem fwN_NN {x : PP} (hx : PIv x) {w lv : Nat → Int32} {B : Int} (hB : B < 2147483648) (h : NN x.1.2.2 w B) : ∀ i, i ≤ x.1.2.2 → NN x.1.2.2 (fwN x.2.1 x.2.2.1 (nbx x) (w, lv) i).1 B
  | 0, _ => h
  | i + 1, hi => fwS_NN hx hB (by omega) (fwN_NN hx hB h i (by omega))
