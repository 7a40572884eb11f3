/-! what holds of every state -/
def SI (x : PP) (T : Nat → Nat → Int32) (B : Int) : Prop := (0 ≤ (T 0 8).toInt ∧ (T 0 8).toInt ≤ 9) ∧ (∀ c, c < x.1.2.2 → 0 ≤ (T 3 c).toInt ∧ (T 3 c).toInt ≤ 20) ∧ (∀ c, c < x.1.2.2 → 0 ≤ (T 4 c).toInt ∧ (T 4 c).toInt ≤ 60) ∧ (∀ c, c < x.1.2.2 → (T 3 c = 0 ↔ T 4 c = 0)) ∧ NN x.1.2.2 (T 1) B
theorem NN_mono {n : Nat} {w : Nat → Int32} {B C : Int} (h : NN n w B) (hBC : B ≤ C) : NN n w C := ⟨h.1, Int.le_trans h.2 hBC⟩
theorem ws_step {w v : Nat → Int32} {d : Nat} : ∀ n, (∀ k, k < n → (v k).toInt ≤ (w k).toInt + d) → ws v n ≤ ws w n + (n : Int) * d
  | 0, _ => by
    show (0 : Int) ≤ 0 + ((0 : Nat) : Int) * d
    simp
  | n + 1, h => by
    have h1 := ws_step n (fun k hk => h k (by omega))
    have h2 := h n (by omega)
    show ws v n + (v n).toInt ≤ ws w n + (w n).toInt + ((n + 1 : Nat) : Int) * d
    rw [Int.natCast_add, Int.add_mul]
    omega
theorem mw2_at {n : Nat} {T : Nat → Nat → Int32} {k : Nat} (h : k < n) : mw2 n T k = (oW (T 4) (T 3) (fun k => T 1 k + T 0 8)) k := by
  rw [← w2_eq]; exact if_pos h
theorem mw2_NN {x : PP} {T : Nat → Nat → Int32} {B : Int} (hx : PIv x) (h : SI x T B) (hB : B + 1856 < 2147483648) : NN x.1.2.2 (mw2 x.1.2.2 T) (B + 1856) := by
  obtain ⟨hr, hh, ht, -, hw⟩ := h
  have h64 := (PIv_z hx).1
  have hk : ∀ k, k < x.1.2.2 → 0 ≤ (mw2 x.1.2.2 T k).toInt ∧ (mw2 x.1.2.2 T k).toInt ≤ (T 1 k).toInt + (29 : Nat) := fun k hk => by
    rw [mw2_at hk]
    have h0 := hw.1 k hk
    have h1 := Int.le_trans (ws_le (c := k) _ hw.1 hk) hw.2
    have h2 := hh k hk
    have e1 : (T 1 k + T 0 8).toInt = (T 1 k).toInt + (T 0 8).toInt := i_add (by omega) (by omega)
    unfold oW
    by_cases hp : T 4 k ≤ 0
    · rw [if_pos hp, e1]; omega
    · rw [if_neg hp, i_add (by rw [e1]; omega) (by rw [e1]; omega), e1]; omega
  refine ⟨fun k h => (hk k h).1, ?_⟩
  have h3 := ws_step (d := 29) x.1.2.2 (fun k h => (hk k h).2)
  have h4 := hw.2
  omega
theorem mw5_NN {x : PP} {T : Nat → Nat → Int32} {B : Int} (hx : PIv x) (hB : B < 2147483648) (h : NN x.1.2.2 (mw2 x.1.2.2 T) B) : NN x.1.2.2 (mw5 x.1.2.2 x.2.1 x.2.2.1 (nbx x) T) B := by
  have hf := fwN_NN hx hB (lv := T 2) h x.1.2.2 (Nat.le_refl _)
  have hk : ∀ k, k < x.1.2.2 → 0 ≤ ((mw5 x.1.2.2 x.2.1 x.2.2.1 (nbx x) T) k).toInt ∧ ((mw5 x.1.2.2 x.2.1 x.2.2.1 (nbx x) T) k).toInt ≤ ((mf3 x.1.2.2 x.2.1 x.2.2.1 (nbx x) T).1 k).toInt + (0 : Nat) := fun k hk => by
    have h0 : 0 ≤ ((mf3 x.1.2.2 x.2.1 x.2.2.1 (nbx x) T).1 k).toInt := hf.1 k hk
    have hd := dU_b (gu := x.2.2.1) (lv := (mf3 x.1.2.2 x.2.1 x.2.2.1 (nbx x) T).2) h0
    have rg := i_rg ((mf3 x.1.2.2 x.2.1 x.2.2.1 (nbx x) T).1 k)
    have e4 : ((mw4 x.1.2.2 x.2.1 x.2.2.1 (nbx x) T) k).toInt = ((mf3 x.1.2.2 x.2.1 x.2.2.1 (nbx x) T).1 k).toInt - ((dU x.2.2.1 (mf3 x.1.2.2 x.2.1 x.2.2.1 (nbx x) T).2 (mf3 x.1.2.2 x.2.1 x.2.2.1 (nbx x) T).1) k).toInt := by
      rw [mw4_at hk]; exact i_sub (by have := hd.1; have := hd.2; omega) (by have := hd.1; omega)
    unfold mw5
    have g4 : 0 ≤ ((mw4 x.1.2.2 x.2.1 x.2.2.1 (nbx x) T) k).toInt ∧ ((mw4 x.1.2.2 x.2.1 x.2.2.1 (nbx x) T) k).toInt ≤ ((mf3 x.1.2.2 x.2.1 x.2.2.1 (nbx x) T).1 k).toInt := by rw [e4]; have := hd.1; have := hd.2; omega
    by_cases hm : mz T = 0
    · rw [if_pos hm, show fil (eW (mw4 x.1.2.2 x.2.1 x.2.2.1 (nbx x) T)) (mw4 x.1.2.2 x.2.1 x.2.2.1 (nbx x) T) x.1.2.2 k = eW (mw4 x.1.2.2 x.2.1 x.2.2.1 (nbx x) T) k from if_pos hk]
      unfold eW
      by_cases hp : (mw4 x.1.2.2 x.2.1 x.2.2.1 (nbx x) T) k ≤ 0
      · rw [if_pos hp]; have := g4.1; have := g4.2; omega
      · rw [if_neg hp]
        have hp2 := i_lt.mp (i32_nle hp)
        have := i_0
        rw [i_sub (by have h1 : (1 : Int32).toInt = 1 := rfl; have := g4.1; omega) (by have h1 : (1 : Int32).toInt = 1 := rfl; omega), show (1 : Int32).toInt = 1 from rfl]
        have := g4.2
        omega
    · rw [if_neg hm]; have := g4.1; have := g4.2; omega
  refine ⟨fun k h => (hk k h).1, ?_⟩
  have h3 := ws_step (d := 0) x.1.2.2 (fun k h => (hk k h).2)
  have h4 : ws (mf3 x.1.2.2 x.2.1 x.2.2.1 (nbx x) T).1 x.1.2.2 ≤ B := hf.2
  rw [show ((0 : Nat) : Int) = 0 from rfl, Int.mul_zero, Int.add_zero] at h3
  exact Int.le_trans h3 h4
theorem SI_1 {x : PP} {T : Nat → Nat → Int32} {B : Int} (hx : PIv x) (h : SI x T B) (hB : B + 1856 < 2147483648) : SI x (mnX x T 1) (B + 1856) := by
  have h2 := mw5_NN hx hB (mw2_NN hx h hB)
  obtain ⟨hr, hh, ht, hi, hw⟩ := h
  have e3 : ∀ c, c < x.1.2.2 → mnX x T 1 3 c = oR (T 4) (T 3) c := fun c hc => if_pos hc
  have e4 : ∀ c, c < x.1.2.2 → mnX x T 1 4 c = oT (T 4) c := fun c hc => if_pos hc
  have one : (1 : Int32).toInt = 1 := rfl
  have zer := i_0
  refine ⟨hr, fun c hc => ?_, fun c hc => ?_, fun c hc => ?_, h2⟩
  · rw [e3 c hc]
    have a := hh c hc
    unfold oR
    split
    · exact a
    · split
      · exact ⟨Int.le_refl _, by decide⟩
      · exact a
  · rw [e4 c hc]
    have a := ht c hc
    unfold oT
    by_cases hp : T 4 c ≤ 0
    · rw [if_pos hp]; exact a
    · rw [if_neg hp]
      have hp2 := i_lt.mp (i32_nle hp)
      rw [i_sub (by omega) (by omega), one]
      omega
  · rw [e3 c hc, e4 c hc]
    have a := hi c hc
    have b := ht c hc
    unfold oR oT
    by_cases hp : T 4 c ≤ 0
    · rw [if_pos hp, if_pos hp]; exact a
    · rw [if_neg hp, if_neg hp]
      have h4 : ¬ T 4 c = 0 := fun q => hp (by rw [q]; decide)
      by_cases h1 : T 4 c - 1 = 0
      · rw [if_pos h1]; exact ⟨fun _ => h1, fun _ => rfl⟩
      · rw [if_neg h1]; exact ⟨fun q => absurd (a.mp q) h4, fun q => absurd q h1⟩
theorem SI_n {x : PP} {T : Nat → Nat → Int32} {B : Int} (hx : PIv x) (h : SI x T B) : ∀ t : Nat, B + 1856 * t < 2147483648 → SI x (mnX x T t) (B + 1856 * t)
  | 0, _ => by
    rw [show B + 1856 * ((0 : Nat) : Int) = B by omega]
    exact h
  | t + 1, hB => by
    have h1 := SI_1 hx (SI_n hx h t (by omega)) (by omega)
    rw [show B + 1856 * (t : Int) + 1856 = B + 1856 * ((t + 1 : Nat) : Int) by omega] at h1
    exact h1
theorem SI_ht {x : PP} {T : Nat → Nat → Int32} {B : Int} (h : SI x T B) : ∀ c, c < x.1.2.2 → 0 ≤ T 4 c := fun c hc => i_le.mpr (h.2.2.1 c hc).1
theorem mm_n {x : PP} {T : Nat → Nat → Int32} {B : Int} (hx : PIv x) (hv : PVi x) (h : SI x T B) (hpl : PLi x T) (t : Nat) (hB : B + 1856 * (t + 1 : Nat) < 2147483648) : mmS x (mnX x T t) = mnX x T (t + 1) ∧ q3 x (mnX x T t) x.1.2.2 0 11 - q2 x (mnX x T t) x.1.2.2 0 11 = mnX x T (t + 1) 0 11 - mnX x T t 0 11 := by
  have h1 := SI_n hx h t (by omega)
  have h2 := mw2_NN hx h1 (by omega)
  have hb : B + 1856 * (t : Int) + 1856 < 2147483648 := by omega
  refine ⟨mmS_eq hx hv (SI_ht h1) hb h2 (by intro b hb; rw [show mnX x T t 5 = T 5 from mnN_5 t]; exact hpl b hb), ?_⟩
  rw [q3_11 hx hv (SI_ht h1) hb h2, q2_11 hx hv (SI_ht h1) hb h2]
  rfl
