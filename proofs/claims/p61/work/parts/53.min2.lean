theorem flC2_v {B : Nat → Nat → Int32} {a7 a8 a9 a10 a11 a12 a13 a14 : Int32} {b1 b2 b3 b4 b5 b6 b7 : Nat → Int32} {c o : Nat} {v : Int32} : flC2 (vS B a7 a8 a9 a10 a11 a12 a13 a14 b1 b2 b3 b4 b5 b6 b7) c o v = (vS B a7 a8 a9 a10 a11 a12 a13 a14 (upd (upd b1 c (b1 c - v)) o (upd b1 c (b1 c - v) o + v)) b2 b3 b4 b5 b6 b7) := by
  unfold flC2
  rw [← Int32.sub_eq_add_neg]
  exact (congrArg (fun W => sc W 1 o (upd b1 c (b1 c - v) o + v)) (paS_1 (x := upd b1 c (b1 c - v)))).trans paS_1
theorem flC3_v {B : Nat → Nat → Int32} {a7 a8 a9 a10 a11 a12 a13 a14 : Int32} {b1 b2 b3 b4 b5 b6 b7 : Nat → Int32} {c o : Nat} : flC3 (vS B a7 a8 a9 a10 a11 a12 a13 a14 b1 b2 b3 b4 b5 b6 b7) c o = (vS B a7 a8 a9 a10 a11 a12 a13 a14 b1 (upd (upd b2 c (b2 c - 1)) o (upd b2 c (b2 c - 1) o + 1)) b3 b4 b5 b6 b7) := by
  unfold flC3
  rw [i32_m1]
  exact (congrArg (fun W => sc W 2 o (upd b2 c (b2 c - 1) o + 1)) (paS_2 (x := upd b2 c (b2 c - 1)))).trans paS_2
theorem drC_v {x : PP} {B : Nat → Nat → Int32} {a7 a8 a9 a10 a11 a12 a13 a14 : Int32} {b1 b2 b3 b4 b5 b6 b7 : Nat → Int32} {c : Nat} : drC x (vS B a7 a8 a9 a10 a11 a12 a13 a14 b1 b2 b3 b4 b5 b6 b7) c = (vS B a7 a8 a9 a10 (a11 + dU x.2.2.1 b2 b1 c) a12 a13 a14 (upd b1 c (b1 c - dU x.2.2.1 b2 b1 c)) b2 b3 b4 b5 b6 b7) := by
  unfold drC
  rw [← Int32.sub_eq_add_neg]
  exact (congrArg (fun W => sc W 0 11 (a11 + dU x.2.2.1 b2 b1 c)) (paS_1 (x := upd b1 c (b1 c - dU x.2.2.1 b2 b1 c)))).trans pfS_11
theorem evC1_v {B : Nat → Nat → Int32} {a7 a8 a9 a10 a11 a12 a13 a14 : Int32} {b1 b2 b3 b4 b5 b6 b7 : Nat → Int32} {c : Nat} (h : ¬ b1 c = 0) : evC1 (vS B a7 a8 a9 a10 a11 a12 a13 a14 b1 b2 b3 b4 b5 b6 b7) c = (vS B a7 a8 a9 a10 a11 (a12 + 1) a13 a14 (upd b1 c (b1 c - 1)) b2 b3 b4 b5 b6 b7) := by
  refine (if_neg h).trans ?_
  rw [i32_m1]
  exact (congrArg (fun W => sc W 0 12 (a12 + 1)) (paS_1 (x := upd b1 c (b1 c - 1)))).trans pfS_12
theorem r2C_v {x : PP} {B : Nat → Nat → Int32} {a7 a8 a9 a10 a11 a12 a13 a14 : Int32} {b1 b2 b3 b4 b5 b6 b7 : Nat → Int32} {i o : Nat} (hlo : loF (nbx x) (fun k => x.2.1 k + b1 k) i 4 = some o) (hw : 0 ≤ (b1 i).toInt) : r2C x (vS B a7 a8 a9 a10 a11 a12 a13 a14 b1 b2 b3 b4 b5 b6 b7) i = (vS B a7 a8 a9 a10 a11 a12 a13 a14 ((fwS x.2.1 x.2.2.1 (nbx x) (b1, b2) i).1) ((fwS x.2.1 x.2.2.1 (nbx x) (b1, b2) i).2) b3 b4 b5 b6 b7) := by
  refine (r2C_s (T := (vS B a7 a8 a9 a10 a11 a12 a13 a14 b1 b2 b3 b4 b5 b6 b7)) (o := o) hlo).trans ?_
  have hf := fl_b (df := x.2.1 i + b1 i - x.2.1 o - b1 o) hw
  by_cases h0 : flO x.2.1 b1 i (some o) ≤ 0
  · have h1 : flO x.2.1 b1 i (some o) = 0 := Int32.le_antisymm h0 (i_le.mpr hf.1)
    rw [fwS_1 (x := (b1, b2)) hlo h0]
    exact if_pos h1
  · rw [fwS_2 (x := (b1, b2)) hlo h0]
    have h1 : ¬ flO x.2.1 b1 i (some o) = 0 := fun q => h0 (by rw [q]; decide)
    refine (if_neg h1).trans ?_
    by_cases hl : 0 < b2 i ∧ x.2.2.1 i = 0
    · refine (if_pos hl).trans ?_
      dsimp only
      rw [if_pos hl]
      exact (congrArg (fun W => flC3 W i o) flC2_v).trans flC3_v
    · refine (if_neg hl).trans ?_
      dsimp only
      rw [if_neg hl]
      exact flC2_v
theorem q2_eq {x : PP} {T : Nat → Nat → Int32} (hx : PIv x) (hv : PVi x) (ht : ∀ c, c < x.1.2.2 → 0 ≤ T 4 c) {B : Int} (hB : B < 2147483648) (hN : NN x.1.2.2 (mw2 x.1.2.2 T) B) : ∀ i, i ≤ x.1.2.2 → q2 x T i = (vS T (T 0 7 + 1) (T 0 8) (T 0 9 + T 0 8 * nI x.1.2.2) (T 0 10 + sm (oF (T 4) (T 3)) x.1.2.2) (T 0 11) (T 0 12) (T 0 13) (T 0 14) ((fwN x.2.1 x.2.2.1 (nbx x) (mw2 x.1.2.2 T, T 2) i).1) ((fwN x.2.1 x.2.2.1 (nbx x) (mw2 x.1.2.2 T, T 2) i).2) (fil (oR (T 4) (T 3)) (T 3) x.1.2.2) (fil (oT (T 4)) (T 4) x.1.2.2) (T 5) (T 6) (T 7))
  | 0, _ => by
    show q1 x T x.1.2.2 = _
    rw [q1_eq ht _ (Nat.le_refl _), w2_eq]
    rfl
  | i + 1, h => by
    have hn := fwN_NN hx hB (lv := T 2) hN i (by omega)
    obtain ⟨o, ho, hlo⟩ := lo_ex (lev := fun k => x.2.1 k + (fwN x.2.1 x.2.2.1 (nbx x) (mw2 x.1.2.2 T, T 2) i).1 k) hx hv (show i < x.1.2.2 by omega)
    exact (congrArg (fun W => r2C x W i) (q2_eq hx hv ht hB hN i (by omega))).trans (r2C_v hlo (hn.1 i (by omega)))
theorem dU_b {gu lv w : Nat → Int32} {k : Nat} (h : 0 ≤ (w k).toInt) : 0 ≤ (dU gu lv w k).toInt ∧ (dU gu lv w k).toInt ≤ (w k).toInt := by
  unfold dU
  have h1 : 0 ≤ (imax (gu k - lv k) 0).toInt := by
    unfold imax
    by_cases h2 : gu k - lv k < 0
    · rw [if_pos h2]; decide
    · rw [if_neg h2]; exact i_le.mp (Int32.not_lt.mp h2)
  generalize imax (gu k - lv k) 0 = z at h1
  unfold imin
  by_cases h2 : w k < z
  · rw [if_pos h2]; exact ⟨h, Int.le_refl _⟩
  · rw [if_neg h2]; exact ⟨h1, i_le.mp (Int32.not_lt.mp h2)⟩
theorem mw4_at {n : Nat} {he gu : Nat → Int32} {nb : Nat → Nat → Option Nat} {T : Nat → Nat → Int32} {k : Nat} (h : k < n) : mw4 n he gu nb T k = (mf3 n he gu nb T).1 k - dU gu (mf3 n he gu nb T).2 (mf3 n he gu nb T).1 k := if_pos h
theorem q3_eq {x : PP} {T : Nat → Nat → Int32} (hx : PIv x) (hv : PVi x) (ht : ∀ c, c < x.1.2.2 → 0 ≤ T 4 c) {B : Int} (hB : B < 2147483648) (hN : NN x.1.2.2 (mw2 x.1.2.2 T) B) : ∀ i, i ≤ x.1.2.2 → q3 x T i = (vS T (T 0 7 + 1) (T 0 8) (T 0 9 + T 0 8 * nI x.1.2.2) (T 0 10 + sm (oF (T 4) (T 3)) x.1.2.2) (T 0 11 + sm (dU x.2.2.1 (mf3 x.1.2.2 x.2.1 x.2.2.1 (nbx x) T).2 (mf3 x.1.2.2 x.2.1 x.2.2.1 (nbx x) T).1) i) (if mz T = 0 then T 0 12 + sm (eE (mw4 x.1.2.2 x.2.1 x.2.2.1 (nbx x) T)) i else T 0 12) (T 0 13) (T 0 14) (fil (fun k => if mz T = 0 then eW (mw4 x.1.2.2 x.2.1 x.2.2.1 (nbx x) T) k else (mf3 x.1.2.2 x.2.1 x.2.2.1 (nbx x) T).1 k - (dU x.2.2.1 (mf3 x.1.2.2 x.2.1 x.2.2.1 (nbx x) T).2 (mf3 x.1.2.2 x.2.1 x.2.2.1 (nbx x) T).1) k) (mf3 x.1.2.2 x.2.1 x.2.2.1 (nbx x) T).1 i) ((mf3 x.1.2.2 x.2.1 x.2.2.1 (nbx x) T).2) (fil (oR (T 4) (T 3)) (T 3) x.1.2.2) (fil (oT (T 4)) (T 4) x.1.2.2) (T 5) (T 6) (T 7))
  | 0, _ => by
    show q2 x T x.1.2.2 = _
    rw [q2_eq hx hv ht hB hN _ (Nat.le_refl _), fil_0, sm_0, sm_0, ite_self]
    rfl
  | i + 1, h => by
    show r3C x (q3 x T i) i = _
    rw [q3_eq hx hv ht hB hN i (by omega)]
    have hn := (fwN_NN hx hB (lv := T 2) hN x.1.2.2 (Nat.le_refl _)).1 i (by omega)
    have hd := dU_b (gu := x.2.2.1) (lv := (mf3 x.1.2.2 x.2.1 x.2.2.1 (nbx x) T).2) (w := (mf3 x.1.2.2 x.2.1 x.2.2.1 (nbx x) T).1) (k := i) hn
    have rg := i_rg ((mf3 x.1.2.2 x.2.1 x.2.2.1 (nbx x) T).1 i)
    have hz : ((mf3 x.1.2.2 x.2.1 x.2.2.1 (nbx x) T).1 i - (dU x.2.2.1 (mf3 x.1.2.2 x.2.1 x.2.2.1 (nbx x) T).2 (mf3 x.1.2.2 x.2.1 x.2.2.1 (nbx x) T).1) i).toInt = ((mf3 x.1.2.2 x.2.1 x.2.2.1 (nbx x) T).1 i).toInt - ((dU x.2.2.1 (mf3 x.1.2.2 x.2.1 x.2.2.1 (nbx x) T).2 (mf3 x.1.2.2 x.2.1 x.2.2.1 (nbx x) T).1) i).toInt := i_sub (by have := hd.1; have := hd.2; omega) (by have := hd.1; omega)
    have hz0 : 0 ≤ (mf3 x.1.2.2 x.2.1 x.2.2.1 (nbx x) T).1 i - (dU x.2.2.1 (mf3 x.1.2.2 x.2.1 x.2.2.1 (nbx x) T).2 (mf3 x.1.2.2 x.2.1 x.2.2.1 (nbx x) T).1) i := i_le.mpr (by rw [hz]; have := hd.2; have := i_0; omega)
    have h4 : (mw4 x.1.2.2 x.2.1 x.2.2.1 (nbx x) T) i = (mf3 x.1.2.2 x.2.1 x.2.2.1 (nbx x) T).1 i - (dU x.2.2.1 (mf3 x.1.2.2 x.2.1 x.2.2.1 (nbx x) T).2 (mf3 x.1.2.2 x.2.1 x.2.2.1 (nbx x) T).1) i := mw4_at (by omega)
    have hdu : dU x.2.2.1 (mf3 x.1.2.2 x.2.1 x.2.2.1 (nbx x) T).2 (fil (fun k => if mz T = 0 then eW (mw4 x.1.2.2 x.2.1 x.2.2.1 (nbx x) T) k else (mf3 x.1.2.2 x.2.1 x.2.2.1 (nbx x) T).1 k - (dU x.2.2.1 (mf3 x.1.2.2 x.2.1 x.2.2.1 (nbx x) T).2 (mf3 x.1.2.2 x.2.1 x.2.2.1 (nbx x) T).1) k) (mf3 x.1.2.2 x.2.1 x.2.2.1 (nbx x) T).1 i) i = (dU x.2.2.1 (mf3 x.1.2.2 x.2.1 x.2.2.1 (nbx x) T).2 (mf3 x.1.2.2 x.2.1 x.2.2.1 (nbx x) T).1) i := by
      unfold dU
      rw [fil_at]
    unfold r3C
    rw [drC_v, hdu, fil_at, show zm (vS T (T 0 7 + 1) (T 0 8) (T 0 9 + T 0 8 * nI x.1.2.2) (T 0 10 + sm (oF (T 4) (T 3)) x.1.2.2) (T 0 11 + sm (dU x.2.2.1 (mf3 x.1.2.2 x.2.1 x.2.2.1 (nbx x) T).2 (mf3 x.1.2.2 x.2.1 x.2.2.1 (nbx x) T).1) i + (dU x.2.2.1 (mf3 x.1.2.2 x.2.1 x.2.2.1 (nbx x) T).2 (mf3 x.1.2.2 x.2.1 x.2.2.1 (nbx x) T).1) i) (if mz T = 0 then T 0 12 + sm (eE (mw4 x.1.2.2 x.2.1 x.2.2.1 (nbx x) T)) i else T 0 12) (T 0 13) (T 0 14) (upd (fil (fun k => if mz T = 0 then eW (mw4 x.1.2.2 x.2.1 x.2.2.1 (nbx x) T) k else (mf3 x.1.2.2 x.2.1 x.2.2.1 (nbx x) T).1 k - (dU x.2.2.1 (mf3 x.1.2.2 x.2.1 x.2.2.1 (nbx x) T).2 (mf3 x.1.2.2 x.2.1 x.2.2.1 (nbx x) T).1) k) (mf3 x.1.2.2 x.2.1 x.2.2.1 (nbx x) T).1 i) i ((mf3 x.1.2.2 x.2.1 x.2.2.1 (nbx x) T).1 i - (dU x.2.2.1 (mf3 x.1.2.2 x.2.1 x.2.2.1 (nbx x) T).2 (mf3 x.1.2.2 x.2.1 x.2.2.1 (nbx x) T).1) i)) ((mf3 x.1.2.2 x.2.1 x.2.2.1 (nbx x) T).2) (fil (oR (T 4) (T 3)) (T 3) x.1.2.2) (fil (oT (T 4)) (T 4) x.1.2.2) (T 5) (T 6) (T 7)) = mz T from rfl, ← sm_next _ (show (dU x.2.2.1 (mf3 x.1.2.2 x.2.1 x.2.2.1 (nbx x) T).2 (mf3 x.1.2.2 x.2.1 x.2.2.1 (nbx x) T).1) i = (dU x.2.2.1 (mf3 x.1.2.2 x.2.1 x.2.2.1 (nbx x) T).2 (mf3 x.1.2.2 x.2.1 x.2.2.1 (nbx x) T).1) i from rfl)]
    by_cases hm : mz T = 0
    · rw [if_pos hm, if_pos hm, if_pos hm]
      by_cases h0 : (mf3 x.1.2.2 x.2.1 x.2.2.1 (nbx x) T).1 i - (dU x.2.2.1 (mf3 x.1.2.2 x.2.1 x.2.2.1 (nbx x) T).2 (mf3 x.1.2.2 x.2.1 x.2.2.1 (nbx x) T).1) i = 0
      · refine (if_pos (show upd _ i _ i = 0 by rw [upd_at]; exact h0)).trans ?_
        rw [fil_upd (show (mf3 x.1.2.2 x.2.1 x.2.2.1 (nbx x) T).1 i - (dU x.2.2.1 (mf3 x.1.2.2 x.2.1 x.2.2.1 (nbx x) T).2 (mf3 x.1.2.2 x.2.1 x.2.2.1 (nbx x) T).1) i = (fun k => if mz T = 0 then eW (mw4 x.1.2.2 x.2.1 x.2.2.1 (nbx x) T) k else (mf3 x.1.2.2 x.2.1 x.2.2.1 (nbx x) T).1 k - (dU x.2.2.1 (mf3 x.1.2.2 x.2.1 x.2.2.1 (nbx x) T).2 (mf3 x.1.2.2 x.2.1 x.2.2.1 (nbx x) T).1) k) i by (show _ = if mz T = 0 then eW (mw4 x.1.2.2 x.2.1 x.2.2.1 (nbx x) T) i else _); rw [if_pos hm]; unfold eW; rw [h4, if_pos (by rw [h0]; decide)]), sm_same _ (show eE (mw4 x.1.2.2 x.2.1 x.2.2.1 (nbx x) T) i = 0 by unfold eE; rw [h4, if_pos (by rw [h0]; decide)])]
      · have hp : ¬ (mf3 x.1.2.2 x.2.1 x.2.2.1 (nbx x) T).1 i - (dU x.2.2.1 (mf3 x.1.2.2 x.2.1 x.2.2.1 (nbx x) T).2 (mf3 x.1.2.2 x.2.1 x.2.2.1 (nbx x) T).1) i ≤ 0 := fun q => h0 (Int32.le_antisymm q hz0)
        rw [evC1_v (by rw [upd_at]; exact h0), upd_at, upd_upd, fil_upd (show (mf3 x.1.2.2 x.2.1 x.2.2.1 (nbx x) T).1 i - (dU x.2.2.1 (mf3 x.1.2.2 x.2.1 x.2.2.1 (nbx x) T).2 (mf3 x.1.2.2 x.2.1 x.2.2.1 (nbx x) T).1) i - 1 = (fun k => if mz T = 0 then eW (mw4 x.1.2.2 x.2.1 x.2.2.1 (nbx x) T) k else (mf3 x.1.2.2 x.2.1 x.2.2.1 (nbx x) T).1 k - (dU x.2.2.1 (mf3 x.1.2.2 x.2.1 x.2.2.1 (nbx x) T).2 (mf3 x.1.2.2 x.2.1 x.2.2.1 (nbx x) T).1) k) i by (show _ = if mz T = 0 then eW (mw4 x.1.2.2 x.2.1 x.2.2.1 (nbx x) T) i else _); rw [if_pos hm]; unfold eW; rw [h4, if_neg hp]), ← sm_next _ (show 1 = eE (mw4 x.1.2.2 x.2.1 x.2.2.1 (nbx x) T) i by unfold eE; rw [h4, if_neg hp])]
    · rw [if_neg hm, if_neg hm, if_neg hm, fil_upd (show (mf3 x.1.2.2 x.2.1 x.2.2.1 (nbx x) T).1 i - (dU x.2.2.1 (mf3 x.1.2.2 x.2.1 x.2.2.1 (nbx x) T).2 (mf3 x.1.2.2 x.2.1 x.2.2.1 (nbx x) T).1) i = (fun k => if mz T = 0 then eW (mw4 x.1.2.2 x.2.1 x.2.2.1 (nbx x) T) k else (mf3 x.1.2.2 x.2.1 x.2.2.1 (nbx x) T).1 k - (dU x.2.2.1 (mf3 x.1.2.2 x.2.1 x.2.2.1 (nbx x) T).2 (mf3 x.1.2.2 x.2.1 x.2.2.1 (nbx x) T).1) k) i by (show _ = if mz T = 0 then _ else _); rw [if_neg hm])]
theorem w5_eq {x : PP} {T : Nat → Nat → Int32} : fil (fun k => if mz T = 0 then eW (mw4 x.1.2.2 x.2.1 x.2.2.1 (nbx x) T) k else (mf3 x.1.2.2 x.2.1 x.2.2.1 (nbx x) T).1 k - (dU x.2.2.1 (mf3 x.1.2.2 x.2.1 x.2.2.1 (nbx x) T).2 (mf3 x.1.2.2 x.2.1 x.2.2.1 (nbx x) T).1) k) (mf3 x.1.2.2 x.2.1 x.2.2.1 (nbx x) T).1 x.1.2.2 = (mw5 x.1.2.2 x.2.1 x.2.2.1 (nbx x) T) := by
  unfold mw5
  by_cases hm : mz T = 0
  · rw [if_pos hm]
    funext k
    unfold fil
    by_cases hk : k < x.1.2.2
    · rw [if_pos hk, if_pos hk]
      exact if_pos hm
    · rw [if_neg hk, if_neg hk]
      exact (if_neg hk).symm
  · rw [if_neg hm]
    funext k
    unfold fil
    by_cases hk : k < x.1.2.2
    · rw [if_pos hk]
      exact (if_neg hm).trans (mw4_at hk).symm
    · rw [if_neg hk]
      exact (if_neg hk).symm
theorem q4_eq {x : PP} {T : Nat → Nat → Int32} (hx : PIv x) (hv : PVi x) (ht : ∀ c, c < x.1.2.2 → 0 ≤ T 4 c) {B : Int} (hB : B < 2147483648) (hN : NN x.1.2.2 (mw2 x.1.2.2 T) B) (hpl : PLi x T) : ∀ i, i ≤ x.2.2.2.2.1 → q4 x T i = (vS T (T 0 7 + 1) (T 0 8) (T 0 9 + T 0 8 * nI x.1.2.2) (T 0 10 + sm (oF (T 4) (T 3)) x.1.2.2) (T 0 11 + sm (dU x.2.2.1 (mf3 x.1.2.2 x.2.1 x.2.2.1 (nbx x) T).2 (mf3 x.1.2.2 x.2.1 x.2.2.1 (nbx x) T).1) x.1.2.2) (if mz T = 0 then T 0 12 + sm (eE (mw4 x.1.2.2 x.2.1 x.2.2.1 (nbx x) T)) x.1.2.2 else T 0 12) (T 0 13) (T 0 14) ((mw5 x.1.2.2 x.2.1 x.2.2.1 (nbx x) T)) ((mf3 x.1.2.2 x.2.1 x.2.2.1 (nbx x) T).2) (fil (oR (T 4) (T 3)) (T 3) x.1.2.2) (fil (oT (T 4)) (T 4) x.1.2.2) (T 5) (T 6) (fil (wtF (mw5 x.1.2.2 x.2.1 x.2.2.1 (nbx x) T) (T 5) x.2.2.2.2.2.2.2.1 (T 7)) (T 7) i))
  | 0, _ => by
    show q3 x T x.1.2.2 = _
    rw [q3_eq hx hv ht hB hN _ (Nat.le_refl _), w5_eq, fil_0]
  | i + 1, h => by
    show r4C x (q4 x T i) i = _
    obtain ⟨q, hq, hqe⟩ := hpl i (by omega)
    have h64 := (PIv_z hx).1
    rw [r4C_s (q := q) (by rw [q4_5]; exact hqe) (by omega), q4_eq hx hv ht hB hN hpl i (by omega)]
    by_cases hw : x.2.2.2.2.2.2.2.1 i < (mw5 x.1.2.2 x.2.1 x.2.2.1 (nbx x) T) q
    · refine (if_pos hw).trans ?_
      rw [show fil (wtF (mw5 x.1.2.2 x.2.1 x.2.2.1 (nbx x) T) (T 5) x.2.2.2.2.2.2.2.1 (T 7)) (T 7) (i + 1) = upd (fil (wtF (mw5 x.1.2.2 x.2.1 x.2.2.1 (nbx x) T) (T 5) x.2.2.2.2.2.2.2.1 (T 7)) (T 7) i) i 1 from (fil_upd (wt_1 hqe (by omega) hw).symm).symm]
      exact paS_7
    · refine (if_neg hw).trans ?_
      rw [fil_same (wt_2 hqe (by omega) hw)]
theorem mmS_eq {x : PP} {T : Nat → Nat → Int32} (hx : PIv x) (hv : PVi x) (ht : ∀ c, c < x.1.2.2 → 0 ≤ T 4 c) {B : Int} (hB : B < 2147483648) (hN : NN x.1.2.2 (mw2 x.1.2.2 T) B) (hpl : PLi x T) : mmS x T = mnX x T 1 := q4_eq hx hv ht hB hN hpl _ (Nat.le_refl _)
theorem q2_11 {x : PP} {T : Nat → Nat → Int32} (hx : PIv x) (hv : PVi x) (ht : ∀ c, c < x.1.2.2 → 0 ≤ T 4 c) {B : Int} (hB : B < 2147483648) (hN : NN x.1.2.2 (mw2 x.1.2.2 T) B) : q2 x T x.1.2.2 0 11 = T 0 11 := by
  rw [q2_eq hx hv ht hB hN _ (Nat.le_refl _)]; rfl
theorem q3_11 {x : PP} {T : Nat → Nat → Int32} (hx : PIv x) (hv : PVi x) (ht : ∀ c, c < x.1.2.2 → 0 ≤ T 4 c) {B : Int} (hB : B < 2147483648) (hN : NN x.1.2.2 (mw2 x.1.2.2 T) B) : q3 x T x.1.2.2 0 11 = mnX x T 1 0 11 := by
  rw [q3_eq hx hv ht hB hN _ (Nat.le_refl _)]; rfl
