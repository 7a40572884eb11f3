/-! the law's minute: what holds on the way -/
/-- an open hydrant's rate stands in the law's row -/
def RTi (B : Nat → Nat → Int32) (x : PP) (T : Nat → Nat → Int32) : Prop := ∀ r c, inC x r c → ¬ T 4 (clC x r c) = 0 → B (20 + 7 * 4 + r) c = T 3 (clC x r c)
def GUi (x : PP) : Prop := ∀ k, k < x.1.2.2 → 0 ≤ (x.2.2.1 k).toInt ∧ (x.2.2.1 k).toInt ≤ 9
/-- the law's rain and rates are small; so is the water, by the minutes -/
def XJ (x : PP) (T : Nat → Nat → Int32) : Prop := (T 0 8).toInt ≤ 2 ∧ (∀ c, c < x.1.2.2 → (T 3 c).toInt ≤ 16) ∧ NN x.1.2.2 (T 1) (450 * (T 0 7).toInt)
theorem LW_25 {x : PP} (hx : PIv x) (hw : LWi x) : x.1.2.2 ≤ 25 := by
  rw [hx.2.2.1]
  exact Nat.le_trans (Nat.mul_le_mul hw.1.2 hw.2.1.2) (by decide)
theorem mw2_NJ {x : PP} {T : Nat → Nat → Int32} {B : Int} (hx : PIv x) (hw9 : LWi x) {C : Int} (h : SI x T C) (h8 : (T 0 8).toInt ≤ 2) (h3 : ∀ c, c < x.1.2.2 → (T 3 c).toInt ≤ 16) (hw : NN x.1.2.2 (T 1) B) (hB : B + 450 < 2147483648) : NN x.1.2.2 (mw2 x.1.2.2 T) (B + 450) := by
  obtain ⟨hr, hh, ht, -, -⟩ := h
  have h25 := LW_25 hx hw9
  have hk : ∀ k, k < x.1.2.2 → 0 ≤ (mw2 x.1.2.2 T k).toInt ∧ (mw2 x.1.2.2 T k).toInt ≤ (T 1 k).toInt + (18 : Nat) := fun k hk => by
    rw [mw2_at hk]
    have h0 := hw.1 k hk
    have h1 := Int.le_trans (ws_le (c := k) _ hw.1 hk) hw.2
    have h2 := hh k hk
    have h4 := h3 k hk
    have e1 : (T 1 k + T 0 8).toInt = (T 1 k).toInt + (T 0 8).toInt := i_add (by omega) (by omega)
    unfold oW
    by_cases hp : T 4 k ≤ 0
    · rw [if_pos hp, e1]; omega
    · rw [if_neg hp, i_add (by rw [e1]; omega) (by rw [e1]; omega), e1]; omega
  refine ⟨fun k h => (hk k h).1, ?_⟩
  have h3 := ws_step (d := 18) x.1.2.2 (fun k h => (hk k h).2)
  have h4 := hw.2
  omega
section
variable {B : Nat → Nat → Int32} {x : PP} {T U : Nat → Nat → Int32}
theorem LE_sc3 {V : Nat → Nat → Int32} {c : Nat} {v : Int32} : LE B x (sc V 3 c v) = LE B x V := LE_congr (fun _ => rfl) (fun _ _ _ _ _ => rfl) (fun _ _ _ _ _ _ _ => rfl) (fun _ _ _ => rfl)
theorem sc_self {t c : Nat} : sc T t c (T t c) = T := by
  funext u k
  unfold sc
  by_cases h : u = t
  · subst h
    rw [sett_s]
    unfold upd
    by_cases h2 : k = c
    · subst h2; exact if_pos rfl
    · exact if_neg h2
  · exact sett_n h ▸ rfl
theorem q1_k (ht : ∀ c, c < x.1.2.2 → 0 ≤ T 4 c) {i : Nat} (hi : i < x.1.2.2) : q1 x T i 4 i = T 4 i ∧ q1 x T i 3 i = T 3 i := by
  rw [q1_eq ht i (by omega)]
  exact ⟨fil_at, fil_at⟩
theorem r1_a {k : Nat} (h : U 4 k = 0) : r1C U k = raC U k := if_pos (show raC U k 4 k = 0 from h)
theorem r1_b {k : Nat} (h : ¬ U 4 k = 0) : LE B x (sc (sc (sc (raC U k) 1 k (raC U k 1 k + U 3 k)) 0 10 (raC U k 0 10 + U 3 k)) 4 k (raC U k 4 k - 1)) = LE B x (r1C U k) := by
  show _ = LE B x (guC (raC U k) k)
  unfold guC
  rw [if_neg (show ¬ raC U k 4 k = 0 from h), ← i32_m1]
  by_cases h2 : raC U k 4 k + -1 = 0
  · rw [if_pos h2, LE_sc3]; rfl
  · rw [if_neg h2]; rfl
theorem zi_N (hx : PIv x) (hw : LWi x) {L : Int} (hZ : ZI x T L) (hX : XJ x T) (hm : (T 0 7).toInt + 1 ≤ 200) : NN x.1.2.2 (mw2 x.1.2.2 T) 90000 := by
  have h := mw2_NJ hx hw hZ.1 hX.1 hX.2.1 hX.2.2 (by omega)
  exact NN_mono h (by omega)
theorem q2_w (hx : PIv x) (hw : LWi x) (ht : ∀ c, c < x.1.2.2 → 0 ≤ T 4 c) (hN : NN x.1.2.2 (mw2 x.1.2.2 T) 90000) {i : Nat} (hi : i ≤ x.1.2.2) : WBi x (q2 x T i) := by
  unfold WBi
  rw [q2_eq hx (LW_PV hw) ht (by decide) hN i hi]
  exact fwN_NN hx (by decide) hN i hi
theorem q2_l (hx : PIv x) (hw : LWi x) (ht : ∀ c, c < x.1.2.2 → 0 ≤ T 4 c) (hN : NN x.1.2.2 (mw2 x.1.2.2 T) 90000) {L : Int} (hL : L < 2147483648) (hl : NN x.1.2.2 (T 2) L) {i : Nat} (hi : i ≤ x.1.2.2) : NN x.1.2.2 (q2 x T i 2) L := by
  rw [q2_eq hx (LW_PV hw) ht (by decide) hN i hi]
  exact fwN_L hx hL hl i hi
theorem q1_0 : q1 x T 0 = sc T 0 7 (T 0 7 + 1) := rfl
/-- what a flow does, by the law's steps -/
theorem r2_0 {k o : Nat} (hlo : loF (nbx x) (fun k => x.2.1 k + U 1 k) k 4 = some o) (h : flO x.2.1 (U 1) k (some o) = 0) : r2C x U k = U := by
  unfold r2C loO flC
  rw [hlo]
  exact if_pos h
theorem r2_1 {k o : Nat} {f : Int32} (hf : f = flO x.2.1 (U 1) k (some o)) (hlo : loF (nbx x) (fun k => x.2.1 k + U 1 k) k 4 = some o) (h : ¬ f = 0) (h2 : ¬ (0 < U 2 k ∧ x.2.2.1 k = 0)) : r2C x U k = sc (sc U 1 k (U 1 k - f)) 1 o (sc U 1 k (U 1 k - f) 1 o + f) := by
  subst hf
  unfold r2C loO flC
  rw [hlo]
  refine (if_neg h).trans ((if_neg h2).trans ?_)
  unfold flC2
  rw [← Int32.sub_eq_add_neg]
  rfl
theorem r2_2 {k o : Nat} {f : Int32} (hf : f = flO x.2.1 (U 1) k (some o)) (hlo : loF (nbx x) (fun k => x.2.1 k + U 1 k) k 4 = some o) (h : ¬ f = 0) (h2 : 0 < U 2 k ∧ x.2.2.1 k = 0) : r2C x U k = sc (sc (sc (sc U 1 k (U 1 k - f)) 1 o (sc U 1 k (U 1 k - f) 1 o + f)) 2 k (U 2 k - 1)) 2 o (sc (sc (sc U 1 k (U 1 k - f)) 1 o (sc U 1 k (U 1 k - f) 1 o + f)) 2 k (U 2 k - 1) 2 o + 1) := by
  subst hf
  unfold r2C loO flC
  rw [hlo]
  refine (if_neg h).trans ((if_pos h2).trans ?_)
  unfold flC3 flC2
  rw [← Int32.sub_eq_add_neg, ← i32_m1]
  rfl
theorem q2_7 {i : Nat} : q2 x T i 0 7 = T 0 7 + 1 := by
  have h2 : ∀ i, q2 x T i 0 = q1 x T x.1.2.2 0 := fun i => foldC_k (t := 0) (fun U c => by
    unfold r2C flC flC3 flC2
    split
    · rfl
    · split <;> rfl) i
  rw [h2]
  have h1 : ∀ i, q1 x T i 0 7 = T 0 7 + 1 := fun i => by
    induction i with
    | zero => rfl
    | succ i ih =>
      rw [← ih]
      show guC (raC (q1 x T i) i) i 0 7 = _
      unfold guC
      split
      · rfl
      · split <;> rfl
  exact h1 _
theorem r3_7 {k : Nat} : r3C x U k 0 7 = U 0 7 := by
  unfold r3C evC1
  split
  · split <;> rfl
  · rfl
theorem q3_7 : ∀ i, q3 x T i 0 7 = T 0 7 + 1
  | 0 => q2_7
  | i + 1 => by rw [← q3_7 i]; exact r3_7
/-- the water and the leaves that a cell still has when its turn comes to drain -/
theorem q3_k (hx : PIv x) (hw : LWi x) (ht : ∀ c, c < x.1.2.2 → 0 ≤ T 4 c) (hN : NN x.1.2.2 (mw2 x.1.2.2 T) 90000) {i : Nat} (hi : i < x.1.2.2) : q3 x T i 1 i = q2 x T x.1.2.2 1 i ∧ q3 x T i 2 i = q2 x T x.1.2.2 2 i := by
  rw [q3_eq hx (LW_PV hw) ht (by decide) hN i (by omega), q2_eq hx (LW_PV hw) ht (by decide) hN x.1.2.2 (Nat.le_refl _)]
  exact ⟨fil_at, rfl⟩
theorem r4_5 {b : Nat} : r4C x U b 5 = U 5 := by
  unfold r4C soC
  split <;> rfl
theorem r3_5 {k : Nat} : r3C x U k 5 = U 5 := by
  unfold r3C evC1
  split
  · split <;> rfl
  · rfl
theorem r2_5 {k : Nat} : r2C x U k 5 = U 5 := by
  unfold r2C flC flC3 flC2
  split
  · rfl
  · split <;> rfl
theorem r1_5 {k : Nat} : r1C U k 5 = U 5 := by
  unfold r1C guC
  split
  · rfl
  · split <;> rfl
theorem q4_5 (i : Nat) : q4 x T i 5 = T 5 := by
  unfold q4
  rw [foldC_k (t := 5) (fun U c => r4_5) i]
  unfold q3
  rw [foldC_k (t := 5) (fun U c => r3_5) _]
  unfold q2
  rw [foldC_k (t := 5) (fun U c => r2_5) _]
  unfold q1
  rw [foldC_k (t := 5) (fun U c => r1_5) _]
  rfl
theorem r3_tw {k : Nat} : r3C x U k 7 = U 7 := by
  unfold r3C evC1
  split
  · split <;> rfl
  · rfl
theorem r2_tw {k : Nat} : r2C x U k 7 = U 7 := by
  unfold r2C flC flC3 flC2
  split
  · rfl
  · split <;> rfl
theorem r1_tw {k : Nat} : r1C U k 7 = U 7 := by
  unfold r1C guC
  split
  · rfl
  · split <;> rfl
theorem q3_tw (i : Nat) : q3 x T i 7 = T 7 := by
  unfold q3
  rw [foldC_k (t := 7) (fun U c => r3_tw) _]
  unfold q2
  rw [foldC_k (t := 7) (fun U c => r2_tw) _]
  unfold q1
  rw [foldC_k (t := 7) (fun U c => r1_tw) _]
  rfl
theorem wt_01 (h : WTi T) {b : Nat} (hb : b < 4) : T 7 b = 0 ∨ T 7 b = 1 := by
  have h1 := h b hb
  simp only [fits, Bool.or_eq_true, beq_iff_eq] at h1
  exact h1
theorem q4_wt (h : WTi T) : ∀ i, WTi (q4 x T i)
  | 0 => fun b hb => by
    show fits .boolean (.int (q3 x T x.1.2.2 7 b)) = true
    rw [q3_tw]; exact h b hb
  | i + 1 => fun b hb => by
    have ih := q4_wt h i b hb
    show fits .boolean (.int (r4C x (q4 x T i) i 7 b)) = true
    unfold r4C soC
    split
    · show fits .boolean (.int (upd (q4 x T i 7) i 1 b)) = true
      unfold upd
      split
      · rfl
      · exact ih
    · exact ih
theorem nar_0 {a : Int32} (h : a = 0 ∨ a = 1) : vp_nar .boolean (a ||| 0) = a := by rcases h with rfl | rfl <;> decide
theorem nar_1 {a : Int32} (h : a = 0 ∨ a = 1) : vp_nar .boolean (a ||| 1) = 1 := by rcases h with rfl | rfl <;> decide
theorem LE_b8 {k q : Nat} (h : k < x.2.2.2.2.1) (hq : T 5 k = nI q) (hq2 : q < 2 ^ 31) : LE B x T 8 k = nI (q / x.1.2.1 + 1) := by
  rw [LE_bt (by decide) (by decide) h]
  show nI ((T 5 k).toNatClampNeg / x.1.2.1 + 1) = _
  rw [hq, nI_clamp hq2]
theorem LE_b9 {k q : Nat} (h : k < x.2.2.2.2.1) (hq : T 5 k = nI q) (hq2 : q < 2 ^ 31) : LE B x T 9 k = nI (q % x.1.2.1 + 1) := by
  rw [LE_bt (by decide) (by decide) h]
  show nI ((T 5 k).toNatClampNeg % x.1.2.1 + 1) = _
  rw [hq, nI_clamp hq2]
theorem LE_b10 {k : Nat} (h : k < x.2.2.2.2.1) : LE B x T 10 k = x.2.2.2.2.2.2.2.1 k := LE_bt (by decide) (by decide) h
theorem LE_b11 {k : Nat} (h : k < x.2.2.2.2.1) : LE B x T 11 k = T 6 k := LE_bt (by decide) (by decide) h
theorem LE_b12 {k : Nat} (h : k < x.2.2.2.2.1) : LE B x T 12 k = T 7 k := LE_bt (by decide) (by decide) h
/-- how much a cell drains, counted -/
theorem dr_N {k : Nat} (hw : 0 ≤ (U 1 k).toInt ∧ (U 1 k).toInt ≤ 90000) (hl : 0 ≤ (U 2 k).toInt) (hg : 0 ≤ (x.2.2.1 k).toInt ∧ (x.2.2.1 k).toInt ≤ 9) : ∃ N : Nat, drA x U k = nI N ∧ N ≤ 9 ∧ (N : Int) ≤ (U 1 k).toInt ∧ (∀ d : Nat, d < N → U 2 k + nI d < x.2.2.1 k ∧ 0 < U 1 k - nI d) ∧ (x.2.2.1 k ≤ U 2 k + nI N ∨ U 1 k - nI N ≤ 0) := by
  have rl := i_rg (U 2 k)
  have i0 := i_0
  by_cases h1 : (x.2.2.1 k).toInt ≤ (U 2 k).toInt
  · -- plugged
    have hd : drA x U k = nI 0 := by
      unfold drA imax
      have e := i_sub (a := x.2.2.1 k) (b := U 2 k) (by omega) (by omega)
      rw [show (if x.2.2.1 k - U 2 k < 0 then (0 : Int32) else x.2.2.1 k - U 2 k) = 0 from by
        by_cases h2 : x.2.2.1 k - U 2 k < 0
        · exact if_pos h2
        · rw [if_neg h2]
          have := fun q => h2 (i_lt.mpr q)
          exact Int32.toInt_inj.mp (by rw [i0]; omega)]
      unfold imin
      exact if_neg (fun q => by have := i_lt.mp q; omega)
    refine ⟨0, hd, by omega, by omega, fun d h => by omega, Or.inl ?_⟩
    rw [show U 2 k + nI 0 = U 2 k from Int32.add_zero _]
    exact i_le.mpr h1
  · have e := i_sub (a := x.2.2.1 k) (b := U 2 k) (by omega) (by omega)
    have hm : imax (x.2.2.1 k - U 2 k) 0 = x.2.2.1 k - U 2 k := if_neg (fun q => by have := i_lt.mp q; omega)
    have tn : ∀ d : Nat, d < 2 ^ 20 → (nI d).toInt = d := fun d hd => ni_t (by omega)
    by_cases h2 : (U 1 k).toInt < (x.2.2.1 k).toInt - (U 2 k).toInt
    · have hN : (((U 1 k).toInt.toNat : Nat) : Int) = (U 1 k).toInt := Int.toNat_of_nonneg hw.1
      have hd : drA x U k = nI (U 1 k).toInt.toNat := by
        unfold drA imin
        rw [hm, if_pos (i_lt.mpr (by omega))]
        exact Int32.toInt_inj.mp (by rw [tn _ (by omega), hN])
      refine ⟨_, hd, by omega, by omega, fun d h => ⟨i_lt.mpr ?_, i_lt.mpr ?_⟩, Or.inr (i_le.mpr ?_)⟩
      · rw [i_add (by rw [tn _ (by omega)]; omega) (by rw [tn _ (by omega)]; omega), tn _ (by omega)]; omega
      · rw [i_sub (by rw [tn _ (by omega)]; omega) (by rw [tn _ (by omega)]; omega), tn _ (by omega), i0]; omega
      · rw [i_sub (by rw [tn _ (by omega)]; omega) (by rw [tn _ (by omega)]; omega), tn _ (by omega), i0]; omega
    · have hN : ((((x.2.2.1 k).toInt - (U 2 k).toInt).toNat : Nat) : Int) = (x.2.2.1 k).toInt - (U 2 k).toInt := Int.toNat_of_nonneg (by omega)
      have hd : drA x U k = nI ((x.2.2.1 k).toInt - (U 2 k).toInt).toNat := by
        unfold drA imin
        rw [hm, if_neg (fun q => by have := i_lt.mp q; omega)]
        exact Int32.toInt_inj.mp (by rw [tn _ (by omega), hN, e])
      refine ⟨_, hd, by omega, by omega, fun d h => ⟨i_lt.mpr ?_, i_lt.mpr ?_⟩, Or.inl (i_le.mpr ?_)⟩
      · rw [i_add (by rw [tn _ (by omega)]; omega) (by rw [tn _ (by omega)]; omega), tn _ (by omega)]; omega
      · rw [i_sub (by rw [tn _ (by omega)]; omega) (by rw [tn _ (by omega)]; omega), tn _ (by omega), i0]; omega
      · rw [i_add (by rw [tn _ (by omega)]; omega) (by rw [tn _ (by omega)]; omega), tn _ (by omega)]; omega
/-- d units drained -/
def dV (V : Nat → Nat → Int32) (k d : Nat) : Nat → Nat → Int32 := sc (sc V 1 k (V 1 k - nI d)) 0 11 (V 0 11 + nI d)
theorem dV_1 {k d : Nat} : dV U k d 1 k = U 1 k - nI d := by
  show upd (U 1) k (U 1 k - nI d) k = _
  exact upd_at
theorem dV_0 {k : Nat} : dV U k 0 = U := by
  unfold dV
  rw [show nI 0 = 0 from rfl, Int32.sub_zero, Int32.add_zero, sc_self, sc_self]
theorem dV_s {k d : Nat} : sc (sc (dV U k d) 1 k (dV U k d 1 k - 1)) 0 11 (sc (dV U k d) 1 k (dV U k d 1 k - 1) 0 11 + 1) = dV U k (d + 1) := by
  have e1 : dV U k d 1 k - 1 = U 1 k - nI (d + 1) := by rw [dV_1, i32_sub2, nI_1]
  have e2 : sc (dV U k d) 1 k (dV U k d 1 k - 1) 0 11 + 1 = U 0 11 + nI (d + 1) := by
    show (U 0 11 + nI d) + 1 = _
    rw [Int32.add_assoc, nI_1]
  rw [e2, e1]
  unfold dV
  funext t c
  by_cases h0 : t = 0
  · subst h0
    show upd (upd (U 0) 11 (U 0 11 + nI d)) 11 _ c = upd (U 0) 11 _ c
    rw [upd_upd]
  · by_cases h1 : t = 1
    · subst h1
      show upd (upd (U 1) k (U 1 k - nI d)) k _ c = upd (U 1) k _ c
      rw [upd_upd]
    · unfold sc
      rw [sett_n h0, sett_n h1, sett_n h0, sett_n h1, sett_n h0, sett_n h1]
theorem dr_V {k N : Nat} (h : drA x U k = nI N) : drC x U k = dV U k N := by
  unfold drC dV
  rw [h, ← Int32.sub_eq_add_neg]
theorem zm_N {m : Nat} (h : U 0 7 = nI m) (hm : m < 2 ^ 20) : zm U = nI (m % 10) := by
  unfold zm
  rw [h]
  exact nI_md (b := 10) (by omega) (by decide) (by decide)
theorem r3_1 {k N m : Nat} (h : drA x U k = nI N) (h7 : U 0 7 = nI m) (hm : m < 2 ^ 20) (hz : 0 < dV U k N 0 7 - dV U k N 0 7 / 10 * 10) : r3C x U k = dV U k N := by
  unfold r3C
  rw [dr_V h]
  refine if_neg (fun q => ?_)
  rw [show dV U k N 0 7 - dV U k N 0 7 / 10 * 10 = zm (dV U k N) from rfl, q] at hz
  exact absurd hz (by decide)
theorem zm_le {k N m : Nat} (h7 : U 0 7 = nI m) (hm : m < 2 ^ 20) (hz : ¬ 0 < dV U k N 0 7 - dV U k N 0 7 / 10 * 10) : zm (dV U k N) = 0 := by
  have e := zm_N (U := dV U k N) (m := m) h7 hm
  rw [show dV U k N 0 7 - dV U k N 0 7 / 10 * 10 = zm (dV U k N) from rfl] at hz
  rw [e] at hz ⊢
  have h1 : ¬ 0 < (nI (m % 10)).toInt := fun q => hz (i_lt.mpr q)
  rw [ni_t (by omega)] at h1
  rw [show m % 10 = 0 by omega]
theorem r3_2 {k N m : Nat} (h : drA x U k = nI N) (h7 : U 0 7 = nI m) (hm : m < 2 ^ 20) (hz : ¬ 0 < dV U k N 0 7 - dV U k N 0 7 / 10 * 10) (hw : dV U k N 1 k = 0) : r3C x U k = dV U k N := by
  unfold r3C
  rw [dr_V h, if_pos (zm_le h7 hm hz)]
  exact if_pos hw
theorem r3_3 {k N m : Nat} (h : drA x U k = nI N) (h7 : U 0 7 = nI m) (hm : m < 2 ^ 20) (hz : ¬ 0 < dV U k N 0 7 - dV U k N 0 7 / 10 * 10) (hw : ¬ dV U k N 1 k = 0) : r3C x U k = sc (sc (dV U k N) 1 k (dV U k N 1 k - 1)) 0 12 (sc (dV U k N) 1 k (dV U k N 1 k - 1) 0 12 + 1) := by
  unfold r3C
  rw [dr_V h, if_pos (zm_le h7 hm hz), ← i32_m1]
  exact if_neg hw
end
set_option maxRecDepth 100000 in
set_option maxHeartbeats 4000000 in
theorem sp_L_soak (l : Launch) (G : GT) (B : Nat → Nat → Int32) (x : PP) (T : Nat → Nat → Int32) (b : Nat) (M : Mem) (hA0 : M 0 = (LE B x T)) (hx : PIv x) (hw : LWi x) (hpl : PLi x T) (hwt : WTi T) (hb : b < x.2.2.2.2.1) : MC l G yL_soak cL_soak 2 none ({ frames := 0, cells := 0, slots := 0, locals := 0 } : Room) [9] lk0 [rv 0 0, iv (nI b)] (M) (fun r M2 => r = none ∧ M2 = setm M 0 (LE B x (r4C x T b))) := by
  obtain ⟨M0, rfl⟩ : ∃ M0, M = m1 ((LE B x T)) M0 := ⟨M, (m1_of hA0).symm⟩
  clear hA0
  refine MC.of RL [some (rv 0 0), some (iv (nI b))] 0 (by decide +kernel) rfl rfl rfl ?_
  intro pp ee ss mm aa bb me cd ad E
  obtain ⟨q, hq, hpq⟩ := hpl b hb
  obtain ⟨hin, hcl⟩ := clC_of hx.2.2.1 hq
  obtain ⟨⟨hr1, hr5⟩, hc1, hc5⟩ := LW_r hw hin
  have h25 := LW_25 hx hw
  have hb2 := hw.2.2
  have h7 := wt_01 hwt (b := b) (by omega)
  have hso : r4C x T b = if x.2.2.2.2.2.2.2.1 b < T 1 q then sc T 7 b 1 else T := by
    unfold r4C soC
    rw [hpq, nI_clamp (by omega)]
  refine r_aload_n E (dat dkL_soak 0 rfl) rfl rfl ?_
  refine q_geta E fl_L_45 (dat dkL_soak 1 rfl) rfl rfl rfl ?_
  refine r_iload_n E (dat dkL_soak 2 rfl) rfl rfl ?_
  refine r_dup2 E (dat dkL_soak 3 rfl) rfl rfl ?_
  refine q_zalv E (dat dkL_soak 4 rfl) rfl rfl (by decide) rfl (by omega) (gh1_0 (LE_b12 hb)) ?_
  refine r_aload_n E (dat dkL_soak 5 rfl) rfl rfl ?_
  refine q_geta E fl_L_14 (dat dkL_soak 6 rfl) rfl rfl rfl ?_
  refine r_aload_n E (dat dkL_soak 7 rfl) rfl rfl ?_
  refine q_geta E fl_L_32 (dat dkL_soak 8 rfl) rfl rfl rfl ?_
  refine r_iload_n E (dat dkL_soak 9 rfl) rfl rfl ?_
  refine q_ialv E (dat dkL_soak 10 rfl) rfl rfl (by decide) rfl (by omega) (gh1_0 (LE_b8 hb hpq (by omega))) ?_
  refine q_laa (a := 1) E (dat dkL_soak 11 rfl) rfl rfl rfl (by decide) rfl (by omega) ?_
  refine r_aload_n E (dat dkL_soak 12 rfl) rfl rfl ?_
  refine q_geta E fl_L_36 (dat dkL_soak 13 rfl) rfl rfl rfl ?_
  refine r_iload_n E (dat dkL_soak 14 rfl) rfl rfl ?_
  refine q_ialv E (dat dkL_soak 15 rfl) rfl rfl (by decide) rfl (by omega) (gh1_0 (LE_b9 hb hpq (by omega))) ?_
  refine q_ialv E (dat dkL_soak 16 rfl) (lae (by decide) (by omega)) (lok (Nat.le_of_ble_eq_true rfl) rfl (by decide) (by omega)) (by decide) rfl (by omega) (gh1_0 ((LE_w (by omega) hin).trans (by rw [hcl]))) ?_
  refine r_aload_n E (dat dkL_soak 17 rfl) rfl rfl ?_
  refine q_geta E fl_L_39 (dat dkL_soak 18 rfl) rfl rfl rfl ?_
  refine r_iload_n E (dat dkL_soak 19 rfl) rfl rfl ?_
  refine q_ialv E (dat dkL_soak 20 rfl) rfl rfl (by decide) rfl (by omega) (gh1_0 (LE_b10 hb)) ?_
  refine r_icmp_le (tgt := 38) E (dat dkL_soak 21 rfl) rfl (fun h31 => ?_) (fun h31 => ?_)
  ·
    have hz := nar_0 h7
    have hso2 : r4C x T b = sc T 7 b (T 7 b) := by rw [hso, if_neg (i32_nlt h31), sc_self]
    refine r_iconst (v := 0) E (dat dkL_soak 24 rfl) rfl ?_
    refine r_ior E (dat dkL_soak 25 rfl) ?_
    refine q_zasv E (dat dkL_soak 26 rfl) rfl rfl (by decide) rfl (by omega) hz (sa1_0 (LE_s12 hb)) ?_
    refine r_vreturn E (dat dkL_soak 27 rfl) (by decide) (by decide) ?_
    exact ⟨rfl, by rw [pm1_0, hso2]⟩
  ·
    have hz := nar_1 h7
    have hso2 : r4C x T b = sc T 7 b 1 := by rw [hso, if_pos (i32_lt h31)]
    refine r_iconst (v := 1) E (dat dkL_soak 22 rfl) rfl ?_
    refine r_goto (tgt := 39) E (dat dkL_soak 23 rfl) rfl ?_
    refine r_ior E (dat dkL_soak 25 rfl) ?_
    refine q_zasv E (dat dkL_soak 26 rfl) rfl rfl (by decide) rfl (by omega) hz (sa1_0 (LE_s12 hb)) ?_
    refine r_vreturn E (dat dkL_soak 27 rfl) (by decide) (by decide) ?_
    exact ⟨rfl, by rw [pm1_0, hso2]⟩

set_option maxRecDepth 100000 in
set_option maxHeartbeats 16000000 in
theorem sp_L_passes (l : Launch) (G : GT) (B : Nat → Nat → Int32) (x : PP) (T : Nat → Nat → Int32) (n : Nat) (M : Mem) (hA0 : M 0 = (LE B x T)) (hx : PIv x) (hw : LWi x) (hB : WLi B x) (hh : HTi x) (hg : GUi x) (L9 : Int) (hL9 : L9 < 2147483648) (hS : ∀ i, i ≤ n → ZI x (mnX x T i) L9 ∧ XJ x (mnX x T i) ∧ (mnX x T i 0 7).toInt + (n - i : Nat) ≤ 200 ∧ PLi x (mnX x T i) ∧ WTi (mnX x T i) ∧ RTi B x (mnX x T i)) (hn : n ≤ 200) : MC l G yL_passes cL_passes 8 (some .int) ({ frames := 3, cells := 0, slots := 0, locals := 70 } : Room) [9] lk0 [rv 0 0, iv (nI n)] (M) (fun r M2 => r = some (iv (mnX x T n 0 11 - T 0 11)) ∧ M2 = setm M 0 (LE B x (mnX x T n))) := by
  obtain ⟨M0, rfl⟩ : ∃ M0, M = m1 ((LE B x T)) M0 := ⟨M, (m1_of hA0).symm⟩
  clear hA0
  refine MC.of RL [some (rv 0 0), some (iv (nI n)), none, none, none, none, none, none] 6 (by decide +kernel) rfl rfl rfl ?_
  intro pp ee ss mm aa bb me cd ad E
  refine r_aload_n E (dat dkL_passes_k0 0 rfl) rfl rfl ?_
  refine q_getn E fl_L_88 (dat dkL_passes_k0 1 rfl) rfl rfl rfl (gh1_0 LE_v19) ?_
  refine r_istore_2 E (dat dkL_passes_k0 2 rfl) rfl rfl ?_
  refine r_iconst (v := 0) E (dat dkL_passes_k0 3 rfl) rfl ?_
  refine r_istore_3 E (dat dkL_passes_k0 4 rfl) rfl rfl ?_
  refine r_for (n) (fun _ => True) (fun i0 => m1 (LE B x (mnX x T i0)) M0) (fun i0 => [some (rv 0 0), some (iv (nI n)), some (iv (T 0 11)), some (iv (nI i0)), none, none, none, none]) trivial rfl rfl ?_ ?_
  · intro i0 hi0 hIi0 ki0
    obtain ⟨hZ, hX, h200, hpl, hwt, hrt⟩ := hS i0 (by omega)
    have hmm := (mm_n hx (LW_PV hw) (hS 0 (Nat.zero_le _)).1.1 (hS 0 (Nat.zero_le _)).2.2.2.1 i0 (by
      have h0 := (hS 0 (Nat.zero_le _)).2.2.1
      have h1 : mnX x T 0 0 7 = T 0 7 := rfl
      rw [h1] at h0 ⊢
      omega)).1
    rw [show mnX x (mnX x T 0) i0 = mnX x T i0 from rfl, show mnX x (mnX x T 0) (i0 + 1) = mnX x T (i0 + 1) from rfl] at hmm
    rw [← hmm] at ki0
    clear hmm
    generalize mnX x T i0 = U at ki0 hZ hX h200 hpl hwt hrt ⊢
    have ht := SI_ht hZ.1
    have hm200 : (U 0 7).toInt + 1 ≤ 200 := by omega
    have hN := zi_N hx hw hZ hX hm200
    have hl2 := hZ.2.2
    obtain ⟨m, hm7, hm9⟩ : ∃ m : Nat, U 0 7 + 1 = nI m ∧ m ≤ 200 := by
      have h0 := hZ.2.1.1
      have e : (U 0 7 + 1).toInt = (U 0 7).toInt + 1 := i_add (by show _ ≤ _ + (1 : Int); omega) (by show _ + (1 : Int) < _; omega)
      refine ⟨((U 0 7).toInt + 1).toNat, Int32.toInt_inj.mp ?_, by omega⟩
      rw [e, ni_t (by omega)]
      omega
    refine r_iload_n E (dat dkL_passes_k0 5 rfl) rfl rfl ?_
    refine r_iload_n E (dat dkL_passes_k0 6 rfl) rfl rfl ?_
    refine q_icmp_ge (tgt := 521) E (dat dkL_passes_k0 7 rfl) rfl rfl rfl (by omega) (by omega) (fun h9 => ?_) (fun h9 => ?_)
    ·
      omega
    ·
      refine r_aload_n E (dat dkL_passes_k0 8 rfl) rfl rfl ?_
      refine r_dup E (dat dkL_passes_k0 9 rfl) rfl ?_
      refine q_getn E fl_L_92 (dat dkL_passes_k0 10 rfl) rfl rfl rfl (gh1_0 LE_v16) ?_
      refine r_iconst (v := 1) E (dat dkL_passes_k0 11 rfl) rfl ?_
      refine r_iadd E (dat dkL_passes_k0 12 rfl) ?_
      refine q_putn E ft_L_92 (dat dkL_passes_k0 13 rfl) rfl rfl rfl (sf1_0 LE_f16) ?_
      refine r_iconst (v := 1) E (dat dkL_passes_k0 14 rfl) rfl ?_
      refine r_istore_4 E (dat dkL_passes_k0 15 rfl) rfl rfl ?_
      refine r_for (x.1.1) (fun _ => True) (fun r => m1 (LE B x (q1 x U (r * x.1.2.1))) M0) (fun r => [some (rv 0 0), some (iv (nI n)), some (iv (T 0 11)), some (iv (nI i0)), some (iv (nI (r + 1))), none, none, none]) trivial (by rw [Nat.zero_mul]; rfl) rfl ?_ ?_
      · intro r hr hIr kr
        refine r_iload E (dat dkL_passes_k0 16 rfl) rfl ?_
        refine r_aload_n E (dat dkL_passes_k0 17 rfl) rfl rfl ?_
        refine q_getn E fl_L_95 (dat dkL_passes_k0 18 rfl) rfl rfl rfl (gh1_0 LE_v12) ?_
        refine q_icmp_gt (tgt := 160) E (dat dkL_passes_k0 19 rfl) rfl rfl rfl (by omega) (by omega) (fun h31 => ?_) (fun h31 => ?_)
        ·
          omega
        ·
          refine r_iconst (v := 1) E (dat dkL_passes_k0 20 rfl) rfl ?_
          refine r_istore_5 E (dat dkL_passes_k0 21 rfl) rfl rfl ?_
          refine r_for (x.1.2.1) (fun _ => True) (fun c => m1 (LE B x (q1 x U (r * x.1.2.1 + c))) M0) (fun c => [some (rv 0 0), some (iv (nI n)), some (iv (T 0 11)), some (iv (nI i0)), some (iv (nI (r + 1))), some (iv (nI (c + 1))), none, none]) trivial rfl rfl ?_ ?_
          · intro c hc hIc kc
            have hin : inC x (r + 1) (c + 1) := ⟨⟨by omega, by omega⟩, by omega, by omega⟩
            have hkn : r * x.1.2.1 + c < x.1.2.2 := clC_lt hx.2.2.1 hin
            have hr7 : r + 1 < 7 := by have := hw.1.2; omega
            have hc7 : c + 1 < 7 := by have := hw.2.1.2; omega
            obtain ⟨e4, e3⟩ := q1_k ht hkn
            rw [show q1 x U (r * x.1.2.1 + (c + 1)) = r1C (q1 x U (r * x.1.2.1 + c)) (r * x.1.2.1 + c) from rfl] at kc
            generalize q1 x U (r * x.1.2.1 + c) = V at e4 e3 kc ⊢
            refine r_iload E (dat dkL_passes_k0 22 rfl) rfl ?_
            refine r_aload_n E (dat dkL_passes_k0 23 rfl) rfl rfl ?_
            refine q_getn E fl_L_98 (dat dkL_passes_k0 24 rfl) rfl rfl rfl (gh1_0 LE_v13) ?_
            refine q_icmp_gt (tgt := 154) E (dat dkL_passes_k0 25 rfl) rfl rfl rfl (by omega) (by omega) (fun h43 => ?_) (fun h43 => ?_)
            ·
              omega
            ·
              refine r_aload_n E (dat dkL_passes_k0 26 rfl) rfl rfl ?_
              refine q_geta E fl_L_14 (dat dkL_passes_k0 27 rfl) rfl rfl rfl ?_
              refine r_iload E (dat dkL_passes_k0 28 rfl) rfl ?_
              refine q_laa (a := 1) E (dat dkL_passes_k0 29 rfl) rfl rfl rfl (by decide) rfl hr7 ?_
              refine r_iload E (dat dkL_passes_k0 30 rfl) rfl ?_
              refine r_dup2 E (dat dkL_passes_k0 31 rfl) rfl rfl ?_
              refine q_ialv E (dat dkL_passes_k0 32 rfl) (lae (by decide) hr7) (lok (Nat.le_of_ble_eq_true rfl) rfl (by decide) hr7) (by decide) rfl hc7 (gh1_0 (LE_w hr7 hin)) ?_
              refine r_aload_n E (dat dkL_passes_k0 33 rfl) rfl rfl ?_
              refine q_getn E fl_L_101 (dat dkL_passes_k0 34 rfl) rfl rfl rfl (gh1_0 LE_v15) ?_
              refine r_iadd E (dat dkL_passes_k0 35 rfl) ?_
              refine q_iasv E (dat dkL_passes_k0 36 rfl) (lae (by decide) hr7) (lok (Nat.le_of_ble_eq_true rfl) rfl (by decide) hr7) (by decide) rfl hc7 (sa1_0 (LE_sw hr7 hin)) ?_
              refine r_aload_n E (dat dkL_passes_k0 37 rfl) rfl rfl ?_
              refine r_dup E (dat dkL_passes_k0 38 rfl) rfl ?_
              refine q_getn E fl_L_104 (dat dkL_passes_k0 39 rfl) rfl rfl rfl (gh1_0 LE_v17) ?_
              refine r_aload_n E (dat dkL_passes_k0 40 rfl) rfl rfl ?_
              refine q_getn E fl_L_101 (dat dkL_passes_k0 41 rfl) rfl rfl rfl (gh1_0 LE_v15) ?_
              refine r_iadd E (dat dkL_passes_k0 42 rfl) ?_
              refine q_putn E ft_L_104 (dat dkL_passes_k0 43 rfl) rfl rfl rfl (sf1_0 LE_f17) ?_
              refine r_aload_n E (dat dkL_passes_k0 44 rfl) rfl rfl ?_
              refine q_geta E fl_L_26 (dat dkL_passes_k0 45 rfl) rfl rfl rfl ?_
              refine r_iload E (dat dkL_passes_k0 46 rfl) rfl ?_
              refine q_laa (a := 5) E (dat dkL_passes_k0 47 rfl) rfl rfl rfl (by decide) rfl (by omega) ?_
              refine r_iload E (dat dkL_passes_k0 48 rfl) rfl ?_
              refine q_ialv E (dat dkL_passes_k0 49 rfl) (lae (by decide) (by omega)) (lok (Nat.le_of_ble_eq_true rfl) rfl (by decide) (by omega)) (by decide) rfl hc7 (gh1_0 (LE_m (by omega) hin)) ?_
              refine r_if_ne (tgt := 92) E (dat dkL_passes_k1 0 rfl) rfl (fun h86 => ?_) (fun h86 => ?_)
              ·
                have hrate : B (20 + 7 * 4 + (r + 1)) (c + 1) = V 3 (clC x (r + 1) (c + 1)) := by
                  rw [show V 3 (clC x (r + 1) (c + 1)) = U 3 (clC x (r + 1) (c + 1)) from e3]
                  exact hrt (r + 1) (c + 1) hin (fun q => h86 (e4.trans q))
                refine r_aload_n E (dat dkL_passes_k1 2 rfl) rfl rfl ?_
                refine q_geta E fl_L_14 (dat dkL_passes_k1 3 rfl) rfl rfl rfl ?_
                refine r_iload E (dat dkL_passes_k1 4 rfl) rfl ?_
                refine q_laa (a := 1) E (dat dkL_passes_k1 5 rfl) rfl rfl rfl (by decide) rfl (by omega) ?_
                refine r_iload E (dat dkL_passes_k1 6 rfl) rfl ?_
                refine r_dup2 E (dat dkL_passes_k1 7 rfl) rfl rfl ?_
                refine q_ialv E (dat dkL_passes_k1 8 rfl) (lae (by decide) (by omega)) (lok (Nat.le_of_ble_eq_true rfl) rfl (by decide) (by omega)) (by decide) rfl hc7 (gh1_0 (LE_w (by omega) hin)) ?_
                refine r_aload_n E (dat dkL_passes_k1 9 rfl) rfl rfl ?_
                refine q_geta E fl_L_23 (dat dkL_passes_k1 10 rfl) rfl rfl rfl ?_
                refine r_iload E (dat dkL_passes_k1 11 rfl) rfl ?_
                refine q_laa (a := 4) E (dat dkL_passes_k1 12 rfl) rfl rfl rfl (by decide) rfl hr7 ?_
                refine r_iload E (dat dkL_passes_k1 13 rfl) rfl ?_
                refine q_ialv E (dat dkL_passes_k1 14 rfl) (lae (by decide) hr7) (lok (Nat.le_of_ble_eq_true rfl) rfl (by decide) hr7) (by decide) rfl hc7 (gh1_0 ((LE_raw (by decide) hr7).trans hrate)) ?_
                refine r_iadd E (dat dkL_passes_k1 15 rfl) ?_
                refine q_iasv E (dat dkL_passes_k1 16 rfl) (lae (by decide) (by omega)) (lok (Nat.le_of_ble_eq_true rfl) rfl (by decide) (by omega)) (by decide) rfl hc7 (sa1_0 (LE_sw (by omega) hin)) ?_
                refine r_aload_n E (dat dkL_passes_k1 17 rfl) rfl rfl ?_
                refine r_dup E (dat dkL_passes_k1 18 rfl) rfl ?_
                refine q_getn E fl_L_107 (dat dkL_passes_k1 19 rfl) rfl rfl rfl (gh1_0 LE_v18) ?_
                refine r_aload_n E (dat dkL_passes_k1 20 rfl) rfl rfl ?_
                refine q_geta E fl_L_23 (dat dkL_passes_k1 21 rfl) rfl rfl rfl ?_
                refine r_iload E (dat dkL_passes_k1 22 rfl) rfl ?_
                refine q_laa (a := 4) E (dat dkL_passes_k1 23 rfl) rfl rfl rfl (by decide) rfl hr7 ?_
                refine r_iload E (dat dkL_passes_k1 24 rfl) rfl ?_
                refine q_ialv E (dat dkL_passes_k1 25 rfl) (lae (by decide) hr7) (lok (Nat.le_of_ble_eq_true rfl) rfl (by decide) hr7) (by decide) rfl hc7 (gh1_0 ((LE_raw (by decide) hr7).trans hrate)) ?_
                refine r_iadd E (dat dkL_passes_k1 26 rfl) ?_
                refine q_putn E ft_L_107 (dat dkL_passes_k1 27 rfl) rfl rfl rfl (sf1_0 LE_f18) ?_
                refine r_aload_n E (dat dkL_passes_k1 28 rfl) rfl rfl ?_
                refine q_geta E fl_L_26 (dat dkL_passes_k1 29 rfl) rfl rfl rfl ?_
                refine r_iload E (dat dkL_passes_k1 30 rfl) rfl ?_
                refine q_laa (a := 5) E (dat dkL_passes_k1 31 rfl) rfl rfl rfl (by decide) rfl hr7 ?_
                refine r_iload E (dat dkL_passes_k1 32 rfl) rfl ?_
                refine r_dup2 E (dat dkL_passes_k1 33 rfl) rfl rfl ?_
                refine q_ialv E (dat dkL_passes_k1 34 rfl) (lae (by decide) hr7) (lok (Nat.le_of_ble_eq_true rfl) rfl (by decide) hr7) (by decide) rfl hc7 (gh1_0 (LE_m hr7 hin)) ?_
                refine r_iconst (v := 1) E (dat dkL_passes_k1 35 rfl) rfl ?_
                refine r_isub E (dat dkL_passes_k1 36 rfl) ?_
                refine q_iasv E (dat dkL_passes_k1 37 rfl) (lae (by decide) hr7) (lok (Nat.le_of_ble_eq_true rfl) rfl (by decide) hr7) (by decide) rfl hc7 (sa1_0 (LE_sm hr7 hin)) ?_
                refine q_iinc_5 E (dat dkL_passes_k1 38 rfl) rfl rfl ?_
                refine r_goto (tgt := 37) E (dat dkL_passes_k1 39 rfl) rfl ?_
                refine r_back ?_ ?_ (kc trivial)
                rotate_left
                · exact ⟨rfl, rfl, rfl, rfl, rfl, rfl, trivial⟩
                first
                  | exact congrArg (fun Z => m1 Z M0) (r1_b (k := r * x.1.2.1 + c) h86).symm
                  | exact congrArg (fun Z => m1 (LE B x Z) M0) (r1_a (U := V) (k := r * x.1.2.1 + c) h86)
              ·
                refine r_goto (tgt := 148) E (dat dkL_passes_k1 1 rfl) rfl ?_
                refine q_iinc_5 E (dat dkL_passes_k1 38 rfl) rfl rfl ?_
                refine r_goto (tgt := 37) E (dat dkL_passes_k1 39 rfl) rfl ?_
                refine r_back ?_ ?_ (kc trivial)
                rotate_left
                · exact ⟨rfl, rfl, rfl, rfl, rfl, rfl, trivial⟩
                first
                  | exact congrArg (fun Z => m1 Z M0) (r1_b (k := r * x.1.2.1 + c) h86).symm
                  | exact congrArg (fun Z => m1 (LE B x Z) M0) (r1_a (U := V) (k := r * x.1.2.1 + c) h86)
          · intro hIc
            refine r_iload E (dat dkL_passes_k0 22 rfl) rfl ?_
            refine r_aload_n E (dat dkL_passes_k0 23 rfl) rfl rfl ?_
            refine q_getn E fl_L_98 (dat dkL_passes_k0 24 rfl) rfl rfl rfl (gh1_0 LE_v13) ?_
            refine q_icmp_gt (tgt := 154) E (dat dkL_passes_k0 25 rfl) rfl rfl rfl (by omega) (by omega) (fun h43 => ?_) (fun h43 => ?_)
            ·
              refine q_iinc_4 E (dat dkL_passes_k1 40 rfl) rfl rfl ?_
              refine r_goto (tgt := 25) E (dat dkL_passes_k1 41 rfl) rfl ?_
              refine r_back ?_ ?_ (kr trivial)
              rotate_left
              · exact ⟨rfl, rfl, rfl, rfl, rfl, trivial⟩
              · rw [Nat.succ_mul]
            ·
              omega
      · intro hIr
        refine r_iload E (dat dkL_passes_k0 16 rfl) rfl ?_
        refine r_aload_n E (dat dkL_passes_k0 17 rfl) rfl rfl ?_
        refine q_getn E fl_L_95 (dat dkL_passes_k0 18 rfl) rfl rfl rfl (gh1_0 LE_v12) ?_
        refine q_icmp_gt (tgt := 160) E (dat dkL_passes_k0 19 rfl) rfl rfl rfl (by omega) (by omega) (fun h31 => ?_) (fun h31 => ?_)
        ·
          refine r_iconst (v := 1) E (dat dkL_passes_k1 42 rfl) rfl ?_
          refine r_istore_4 E (dat dkL_passes_k1 43 rfl) rfl rfl ?_
          refine r_for (x.1.1) (fun _ => True) (fun r => m1 (LE B x (q2 x U (r * x.1.2.1))) M0) (fun r => [some (rv 0 0), some (iv (nI n)), some (iv (T 0 11)), some (iv (nI i0)), some (iv (nI (r + 1))), none, none, none]) trivial (by rw [Nat.zero_mul, ← hx.2.2.1]; rfl) rfl ?_ ?_
          · intro r hr hIr kr
            refine r_iload E (dat dkL_passes_k1 44 rfl) rfl ?_
            refine r_aload_n E (dat dkL_passes_k1 45 rfl) rfl rfl ?_
            refine q_getn E fl_L_95 (dat dkL_passes_k1 46 rfl) rfl rfl rfl (gh1_0 LE_v12) ?_
            refine q_icmp_gt (tgt := 335) E (dat dkL_passes_k1 47 rfl) rfl rfl rfl (by omega) (by omega) (fun h169 => ?_) (fun h169 => ?_)
            ·
              omega
            ·
              refine r_iconst (v := 1) E (dat dkL_passes_k1 48 rfl) rfl ?_
              refine r_istore_5 E (dat dkL_passes_k1 49 rfl) rfl rfl ?_
              refine r_for (x.1.2.1) (fun _ => True) (fun c => m1 (LE B x (q2 x U (r * x.1.2.1 + c))) M0) (fun c => [some (rv 0 0), some (iv (nI n)), some (iv (T 0 11)), some (iv (nI i0)), some (iv (nI (r + 1))), some (iv (nI (c + 1))), none, none]) trivial rfl rfl ?_ ?_
              · intro c hc hIc kc
                have hin : inC x (r + 1) (c + 1) := ⟨⟨by omega, by omega⟩, by omega, by omega⟩
                have hkn : r * x.1.2.1 + c < x.1.2.2 := clC_lt hx.2.2.1 hin
                have hr7 : r + 1 < 7 := by have := hw.1.2; omega
                have hc7 : c + 1 < 7 := by have := hw.2.1.2; omega
                have hWB := q2_w hx hw ht hN (i := r * x.1.2.1 + c) (by omega)
                have hLV := (q2_l hx hw ht hN hL9 hl2 (i := r * x.1.2.1 + c) (by omega)).1 _ hkn
                rw [show q2 x U (r * x.1.2.1 + (c + 1)) = r2C x (q2 x U (r * x.1.2.1 + c)) (r * x.1.2.1 + c) from rfl] at kc
                generalize q2 x U (r * x.1.2.1 + c) = V at hWB hLV kc ⊢
                obtain ⟨hin2, hlo⟩ := lwW_of hx hw hB hh hWB hin
                have hw4 := @lwW_lt B x V (r + 1) (c + 1)
                have hd1 := @dR_b (r + 1) (lwW B x V (r + 1) (c + 1))
                have hd2 := @dC_b (c + 1) (lwW B x V (r + 1) (c + 1))
                have hr2 : dR (r + 1) (lwW B x V (r + 1) (c + 1)) < 7 := by have := hw.1.2; omega
                have hc2 : dC (c + 1) (lwW B x V (r + 1) (c + 1)) < 7 := by have := hw.2.1.2; omega
                have hgk := (hg _ hkn).1
                refine r_iload E (dat dkL_passes_k2 0 rfl) rfl ?_
                refine r_aload_n E (dat dkL_passes_k2 1 rfl) rfl rfl ?_
                refine q_getn E fl_L_98 (dat dkL_passes_k2 2 rfl) rfl rfl rfl (gh1_0 LE_v13) ?_
                refine q_icmp_gt (tgt := 329) E (dat dkL_passes_k2 3 rfl) rfl rfl rfl (by omega) (by omega) (fun h181 => ?_) (fun h181 => ?_)
                ·
                  omega
                ·
                  refine r_aload_n E (dat dkL_passes_k2 4 rfl) rfl rfl ?_
                  refine r_iload E (dat dkL_passes_k2 5 rfl) rfl ?_
                  refine r_iload E (dat dkL_passes_k2 6 rfl) rfl ?_
                  refine r_callV (κ := 9) (μ := [0]) E (sp_L_flow l G B x V (r + 1) (c + 1) _ rfl hx hw hB hh hWB hin) my_L_flow iv_L_flow ml_L_110 (cm_of rfl) ⟨by decide, rfl, rfl⟩ rfl rfl rfl rfl (by decide) (Nat.le_of_ble_eq_true rfl) (dat dkL_passes_k2 7 rfl) ?_
                  rintro _ _ ⟨rfl, rfl⟩
                  refine ⟨_, Mrg_z rfl, ?_⟩
                  rw [hlo]
                  refine r_istore_6 E (dat dkL_passes_k2 8 rfl) rfl rfl ?_
                  refine r_iload E (dat dkL_passes_k2 9 rfl) rfl ?_
                  refine r_if_ne (tgt := 202) E (dat dkL_passes_k2 10 rfl) rfl (fun h196 => ?_) (fun h196 => ?_)
                  ·
                    refine r_aload_n E (dat dkL_passes_k2 12 rfl) rfl rfl ?_
                    refine r_iload E (dat dkL_passes_k2 13 rfl) rfl ?_
                    refine r_iload E (dat dkL_passes_k2 14 rfl) rfl ?_
                    refine r_callV (κ := 9) (μ := [0]) E (sp_L_lowest l G B x V (r + 1) (c + 1) _ rfl (by omega) (by omega) (by omega) (by omega)) my_L_lowest iv_L_lowest ml_L_80 (cm_of rfl) ⟨by decide, rfl, rfl⟩ rfl rfl rfl rfl (by decide) (Nat.le_of_ble_eq_true rfl) (dat dkL_passes_k2 15 rfl) ?_
                    rintro _ _ ⟨rfl, rfl⟩
                    refine ⟨_, Mrg_z rfl, ?_⟩
                    refine r_istore_7 E (dat dkL_passes_k2 16 rfl) rfl rfl ?_
                    refine r_aload_n E (dat dkL_passes_k2 17 rfl) rfl rfl ?_
                    refine q_geta E fl_L_14 (dat dkL_passes_k2 18 rfl) rfl rfl rfl ?_
                    refine r_iload E (dat dkL_passes_k2 19 rfl) rfl ?_
                    refine q_laa (a := 1) E (dat dkL_passes_k2 20 rfl) rfl rfl rfl (by decide) rfl hr7 ?_
                    refine r_iload E (dat dkL_passes_k2 21 rfl) rfl ?_
                    refine r_dup2 E (dat dkL_passes_k2 22 rfl) rfl rfl ?_
                    refine q_ialv E (dat dkL_passes_k2 23 rfl) (lae (by decide) hr7) (lok (Nat.le_of_ble_eq_true rfl) rfl (by decide) hr7) (by decide) rfl hc7 (gh1_0 (LE_w hr7 hin)) ?_
                    refine r_iload E (dat dkL_passes_k2 24 rfl) rfl ?_
                    refine r_isub E (dat dkL_passes_k2 25 rfl) ?_
                    refine q_iasv E (dat dkL_passes_k2 26 rfl) (lae (by decide) hr7) (lok (Nat.le_of_ble_eq_true rfl) rfl (by decide) hr7) (by decide) rfl hc7 (sa1_0 (LE_sw hr7 hin)) ?_
                    refine r_aload_n E (dat dkL_passes_k2 27 rfl) rfl rfl ?_
                    refine q_geta E fl_L_14 (dat dkL_passes_k2 28 rfl) rfl rfl rfl ?_
                    refine r_iload E (dat dkL_passes_k2 29 rfl) rfl ?_
                    refine r_iload E (dat dkL_passes_k2 30 rfl) rfl ?_
                    refine r_callS (μ := []) E (sp_L_down l G (lwW B x V (r + 1) (c + 1)) _ (by omega)) my_L_down is_L_down ml_L_69 cm_nil rfl rfl (by decide) (Nat.le_of_ble_eq_true rfl) (dat dkL_passes_k2 31 rfl) ?_
                    rintro _ _ ⟨rfl, rfl⟩
                    refine ⟨_, Mrg_z rfl, ?_⟩
                    refine r_iadd E (dat dkL_passes_k2 32 rfl) ?_
                    refine q_laa (a := 1) E (dat dkL_passes_k2 33 rfl) rfl rfl rfl (by decide) (dn_r (by omega)) hr2 ?_
                    refine r_iload E (dat dkL_passes_k2 34 rfl) rfl ?_
                    refine r_iload E (dat dkL_passes_k2 35 rfl) rfl ?_
                    refine r_callS (μ := []) E (sp_L_right l G (lwW B x V (r + 1) (c + 1)) _ (by omega)) my_L_right is_L_right ml_L_73 cm_nil rfl rfl (by decide) (Nat.le_of_ble_eq_true rfl) (dat dkL_passes_k2 36 rfl) ?_
                    rintro _ _ ⟨rfl, rfl⟩
                    refine ⟨_, Mrg_z rfl, ?_⟩
                    refine r_iadd E (dat dkL_passes_k2 37 rfl) ?_
                    refine r_dup2 E (dat dkL_passes_k2 38 rfl) rfl rfl ?_
                    refine q_ialv E (dat dkL_passes_k2 39 rfl) (lae (by decide) hr2) (lok (Nat.le_of_ble_eq_true rfl) rfl (by decide) hr2) (by decide) (rt_c (by omega)) hc2 (gh1_0 (LE_w hr2 hin2)) ?_
                    refine r_iload E (dat dkL_passes_k2 40 rfl) rfl ?_
                    refine r_iadd E (dat dkL_passes_k2 41 rfl) ?_
                    refine q_iasv E (dat dkL_passes_k2 42 rfl) (lae (by decide) hr2) (lok (Nat.le_of_ble_eq_true rfl) rfl (by decide) hr2) (by decide) (rt_c (by omega)) hc2 (sa1_0 (LE_sw hr2 hin2)) ?_
                    refine r_aload_n E (dat dkL_passes_k2 43 rfl) rfl rfl ?_
                    refine q_geta E fl_L_17 (dat dkL_passes_k2 44 rfl) rfl rfl rfl ?_
                    refine r_iload E (dat dkL_passes_k2 45 rfl) rfl ?_
                    refine q_laa (a := 2) E (dat dkL_passes_k2 46 rfl) rfl rfl rfl (by decide) rfl hr7 ?_
                    refine r_iload E (dat dkL_passes_k2 47 rfl) rfl ?_
                    refine q_ialv E (dat dkL_passes_k2 48 rfl) (lae (by decide) hr7) (lok (Nat.le_of_ble_eq_true rfl) rfl (by decide) hr7) (by decide) rfl hc7 (gh1_0 (LE_l hr7 hin)) ?_
                    refine r_if_eq (tgt := 323) E (dat dkL_passes_k2 49 rfl) rfl (fun h264 => ?_) (fun h264 => ?_)
                    ·
                      have hcd : ¬ (0 < V 2 (r * x.1.2.1 + c) ∧ x.2.2.1 (r * x.1.2.1 + c) = 0) := fun q => by rw [show V 2 (r * x.1.2.1 + c) = 0 from h264] at q; exact absurd q.1 (by decide)
                      refine q_iinc_5 E (dat dkL_passes_k3 34 rfl) rfl rfl ?_
                      refine r_goto (tgt := 175) E (dat dkL_passes_k3 35 rfl) rfl ?_
                      refine r_back ?_ ?_ (kc trivial)
                      rotate_left
                      · exact ⟨rfl, rfl, rfl, rfl, rfl, rfl, trivial⟩
                      first
                        | exact congrArg (fun Z => m1 (LE B x Z) M0) (r2_0 hlo h196)
                        | exact congrArg (fun Z => m1 (LE B x Z) M0) (r2_1 rfl hlo h196 hcd)
                        | exact congrArg (fun Z => m1 (LE B x Z) M0) (r2_2 rfl hlo h196 hcd)
                    ·
                      refine r_aload_n E (dat dkL_passes_k3 0 rfl) rfl rfl ?_
                      refine q_geta E fl_L_20 (dat dkL_passes_k3 1 rfl) rfl rfl rfl ?_
                      refine r_iload E (dat dkL_passes_k3 2 rfl) rfl ?_
                      refine q_laa (a := 3) E (dat dkL_passes_k3 3 rfl) rfl rfl rfl (by decide) rfl hr7 ?_
                      refine r_iload E (dat dkL_passes_k3 4 rfl) rfl ?_
                      refine q_ialv E (dat dkL_passes_k3 5 rfl) (lae (by decide) hr7) (lok (Nat.le_of_ble_eq_true rfl) rfl (by decide) hr7) (by decide) rfl hc7 (gh1_0 (LE_g hr7 hin)) ?_
                      refine r_if_le (tgt := 283) E (dat dkL_passes_k3 6 rfl) rfl (fun h277 => ?_) (fun h277 => ?_)
                      ·
                        have hcd : 0 < V 2 (r * x.1.2.1 + c) ∧ x.2.2.1 (r * x.1.2.1 + c) = 0 := ⟨i_lt.mpr (by have := i_0; have : ¬ (V 2 (r * x.1.2.1 + c)).toInt = 0 := fun q => h264 (Int32.toInt_inj.mp (q.trans i_0.symm)); omega), Int32.le_antisymm h277 (i_le.mpr (by rw [i_0]; exact hgk))⟩
                        refine r_aload_n E (dat dkL_passes_k3 8 rfl) rfl rfl ?_
                        refine q_geta E fl_L_17 (dat dkL_passes_k3 9 rfl) rfl rfl rfl ?_
                        refine r_iload E (dat dkL_passes_k3 10 rfl) rfl ?_
                        refine q_laa (a := 2) E (dat dkL_passes_k3 11 rfl) rfl rfl rfl (by decide) rfl hr7 ?_
                        refine r_iload E (dat dkL_passes_k3 12 rfl) rfl ?_
                        refine r_dup2 E (dat dkL_passes_k3 13 rfl) rfl rfl ?_
                        refine q_ialv E (dat dkL_passes_k3 14 rfl) (lae (by decide) hr7) (lok (Nat.le_of_ble_eq_true rfl) rfl (by decide) hr7) (by decide) rfl hc7 (gh1_0 (LE_l hr7 hin)) ?_
                        refine r_iconst (v := 1) E (dat dkL_passes_k3 15 rfl) rfl ?_
                        refine r_isub E (dat dkL_passes_k3 16 rfl) ?_
                        refine q_iasv E (dat dkL_passes_k3 17 rfl) (lae (by decide) hr7) (lok (Nat.le_of_ble_eq_true rfl) rfl (by decide) hr7) (by decide) rfl hc7 (sa1_0 (LE_sl hr7 hin)) ?_
                        refine r_aload_n E (dat dkL_passes_k3 18 rfl) rfl rfl ?_
                        refine q_geta E fl_L_17 (dat dkL_passes_k3 19 rfl) rfl rfl rfl ?_
                        refine r_iload E (dat dkL_passes_k3 20 rfl) rfl ?_
                        refine r_iload E (dat dkL_passes_k3 21 rfl) rfl ?_
                        refine r_callS (μ := []) E (sp_L_down l G (lwW B x V (r + 1) (c + 1)) _ (by omega)) my_L_down is_L_down ml_L_69 cm_nil rfl rfl (by decide) (Nat.le_of_ble_eq_true rfl) (dat dkL_passes_k3 22 rfl) ?_
                        rintro _ _ ⟨rfl, rfl⟩
                        refine ⟨_, Mrg_z rfl, ?_⟩
                        refine r_iadd E (dat dkL_passes_k3 23 rfl) ?_
                        refine q_laa (a := 2) E (dat dkL_passes_k3 24 rfl) rfl rfl rfl (by decide) (dn_r (by omega)) hr2 ?_
                        refine r_iload E (dat dkL_passes_k3 25 rfl) rfl ?_
                        refine r_iload E (dat dkL_passes_k3 26 rfl) rfl ?_
                        refine r_callS (μ := []) E (sp_L_right l G (lwW B x V (r + 1) (c + 1)) _ (by omega)) my_L_right is_L_right ml_L_73 cm_nil rfl rfl (by decide) (Nat.le_of_ble_eq_true rfl) (dat dkL_passes_k3 27 rfl) ?_
                        rintro _ _ ⟨rfl, rfl⟩
                        refine ⟨_, Mrg_z rfl, ?_⟩
                        refine r_iadd E (dat dkL_passes_k3 28 rfl) ?_
                        refine r_dup2 E (dat dkL_passes_k3 29 rfl) rfl rfl ?_
                        refine q_ialv E (dat dkL_passes_k3 30 rfl) (lae (by decide) hr2) (lok (Nat.le_of_ble_eq_true rfl) rfl (by decide) hr2) (by decide) (rt_c (by omega)) hc2 (gh1_0 (LE_l hr2 hin2)) ?_
                        refine r_iconst (v := 1) E (dat dkL_passes_k3 31 rfl) rfl ?_
                        refine r_iadd E (dat dkL_passes_k3 32 rfl) ?_
                        refine q_iasv E (dat dkL_passes_k3 33 rfl) (lae (by decide) hr2) (lok (Nat.le_of_ble_eq_true rfl) rfl (by decide) hr2) (by decide) (rt_c (by omega)) hc2 (sa1_0 (LE_sl hr2 hin2)) ?_
                        refine q_iinc_5 E (dat dkL_passes_k3 34 rfl) rfl rfl ?_
                        refine r_goto (tgt := 175) E (dat dkL_passes_k3 35 rfl) rfl ?_
                        refine r_back ?_ ?_ (kc trivial)
                        rotate_left
                        · exact ⟨rfl, rfl, rfl, rfl, rfl, rfl, trivial⟩
                        first
                          | exact congrArg (fun Z => m1 (LE B x Z) M0) (r2_0 hlo h196)
                          | exact congrArg (fun Z => m1 (LE B x Z) M0) (r2_1 rfl hlo h196 hcd)
                          | exact congrArg (fun Z => m1 (LE B x Z) M0) (r2_2 rfl hlo h196 hcd)
                      ·
                        have hcd : ¬ (0 < V 2 (r * x.1.2.1 + c) ∧ x.2.2.1 (r * x.1.2.1 + c) = 0) := fun q => h277 (by show x.2.2.1 (r * x.1.2.1 + c) ≤ 0; rw [q.2]; decide)
                        refine r_goto (tgt := 323) E (dat dkL_passes_k3 7 rfl) rfl ?_
                        refine q_iinc_5 E (dat dkL_passes_k3 34 rfl) rfl rfl ?_
                        refine r_goto (tgt := 175) E (dat dkL_passes_k3 35 rfl) rfl ?_
                        refine r_back ?_ ?_ (kc trivial)
                        rotate_left
                        · exact ⟨rfl, rfl, rfl, rfl, rfl, rfl, trivial⟩
                        first
                          | exact congrArg (fun Z => m1 (LE B x Z) M0) (r2_0 hlo h196)
                          | exact congrArg (fun Z => m1 (LE B x Z) M0) (r2_1 rfl hlo h196 hcd)
                          | exact congrArg (fun Z => m1 (LE B x Z) M0) (r2_2 rfl hlo h196 hcd)
                  ·
                    refine r_goto (tgt := 323) E (dat dkL_passes_k2 11 rfl) rfl ?_
                    refine q_iinc_5 E (dat dkL_passes_k3 34 rfl) rfl rfl ?_
                    refine r_goto (tgt := 175) E (dat dkL_passes_k3 35 rfl) rfl ?_
                    refine r_back ?_ ?_ (kc trivial)
                    rotate_left
                    · exact ⟨rfl, rfl, rfl, rfl, rfl, rfl, trivial⟩
                    first
                      | exact congrArg (fun Z => m1 (LE B x Z) M0) (r2_0 hlo h196)
                      | exact congrArg (fun Z => m1 (LE B x Z) M0) (r2_1 rfl hlo h196 hcd)
                      | exact congrArg (fun Z => m1 (LE B x Z) M0) (r2_2 rfl hlo h196 hcd)
              · intro hIc
                refine r_iload E (dat dkL_passes_k2 0 rfl) rfl ?_
                refine r_aload_n E (dat dkL_passes_k2 1 rfl) rfl rfl ?_
                refine q_getn E fl_L_98 (dat dkL_passes_k2 2 rfl) rfl rfl rfl (gh1_0 LE_v13) ?_
                refine q_icmp_gt (tgt := 329) E (dat dkL_passes_k2 3 rfl) rfl rfl rfl (by omega) (by omega) (fun h181 => ?_) (fun h181 => ?_)
                ·
                  refine q_iinc_4 E (dat dkL_passes_k3 36 rfl) rfl rfl ?_
                  refine r_goto (tgt := 163) E (dat dkL_passes_k3 37 rfl) rfl ?_
                  refine r_back ?_ ?_ (kr trivial)
                  rotate_left
                  · exact ⟨rfl, rfl, rfl, rfl, rfl, trivial⟩
                  · rw [Nat.succ_mul]
                ·
                  omega
          · intro hIr
            refine r_iload E (dat dkL_passes_k1 44 rfl) rfl ?_
            refine r_aload_n E (dat dkL_passes_k1 45 rfl) rfl rfl ?_
            refine q_getn E fl_L_95 (dat dkL_passes_k1 46 rfl) rfl rfl rfl (gh1_0 LE_v12) ?_
            refine q_icmp_gt (tgt := 335) E (dat dkL_passes_k1 47 rfl) rfl rfl rfl (by omega) (by omega) (fun h169 => ?_) (fun h169 => ?_)
            ·
              refine r_iconst (v := 1) E (dat dkL_passes_k3 38 rfl) rfl ?_
              refine r_istore_4 E (dat dkL_passes_k3 39 rfl) rfl rfl ?_
              refine r_for (x.1.1) (fun _ => True) (fun r => m1 (LE B x (q3 x U (r * x.1.2.1))) M0) (fun r => [some (rv 0 0), some (iv (nI n)), some (iv (T 0 11)), some (iv (nI i0)), some (iv (nI (r + 1))), none, none, none]) trivial (by rw [Nat.zero_mul, ← hx.2.2.1]; rfl) rfl ?_ ?_
              · intro r hr hIr kr
                refine r_iload E (dat dkL_passes_k3 40 rfl) rfl ?_
                refine r_aload_n E (dat dkL_passes_k3 41 rfl) rfl rfl ?_
                refine q_getn E fl_L_95 (dat dkL_passes_k3 42 rfl) rfl rfl rfl (gh1_0 LE_v12) ?_
                refine q_icmp_gt (tgt := 491) E (dat dkL_passes_k3 43 rfl) rfl rfl rfl (by omega) (by omega) (fun h344 => ?_) (fun h344 => ?_)
                ·
                  omega
                ·
                  refine r_iconst (v := 1) E (dat dkL_passes_k3 44 rfl) rfl ?_
                  refine r_istore_5 E (dat dkL_passes_k3 45 rfl) rfl rfl ?_
                  refine r_for (x.1.2.1) (fun _ => True) (fun c => m1 (LE B x (q3 x U (r * x.1.2.1 + c))) M0) (fun c => [some (rv 0 0), some (iv (nI n)), some (iv (T 0 11)), some (iv (nI i0)), some (iv (nI (r + 1))), some (iv (nI (c + 1))), none, none]) trivial rfl rfl ?_ ?_
                  · intro c hc hIc kc
                    have hin : inC x (r + 1) (c + 1) := ⟨⟨by omega, by omega⟩, by omega, by omega⟩
                    have hkn : r * x.1.2.1 + c < x.1.2.2 := clC_lt hx.2.2.1 hin
                    have hr7 : r + 1 < 7 := by have := hw.1.2; omega
                    have hc7 : c + 1 < 7 := by have := hw.2.1.2; omega
                    obtain ⟨e1, e2⟩ := q3_k hx hw ht hN hkn
                    have hw3 := WB_k (q2_w hx hw ht hN (Nat.le_refl _)) hkn
                    have hl3 := (q2_l hx hw ht hN hL9 hl2 (Nat.le_refl _)).1 _ hkn
                    rw [← e1] at hw3
                    rw [← e2] at hl3
                    have h7 := q3_7 (x := x) (T := U) (r * x.1.2.1 + c)
                    rw [hm7] at h7
                    clear e1 e2
                    rw [show q3 x U (r * x.1.2.1 + (c + 1)) = r3C x (q3 x U (r * x.1.2.1 + c)) (r * x.1.2.1 + c) from rfl] at kc
                    generalize q3 x U (r * x.1.2.1 + c) = V at hw3 hl3 h7 kc ⊢
                    obtain ⟨N, hdN, hN9, hNw, hNs, hNe⟩ := dr_N (x := x) hw3 hl3 (hg _ hkn)
                    refine r_iload E (dat dkL_passes_k3 46 rfl) rfl ?_
                    refine r_aload_n E (dat dkL_passes_k3 47 rfl) rfl rfl ?_
                    refine q_getn E fl_L_98 (dat dkL_passes_k3 48 rfl) rfl rfl rfl (gh1_0 LE_v13) ?_
                    refine q_icmp_gt (tgt := 485) E (dat dkL_passes_k3 49 rfl) rfl rfl rfl (by omega) (by omega) (fun h356 => ?_) (fun h356 => ?_)
                    ·
                      omega
                    ·
                      refine r_aload_n E (dat dkL_passes_k4 0 rfl) rfl rfl ?_
                      refine q_geta E fl_L_17 (dat dkL_passes_k4 1 rfl) rfl rfl rfl ?_
                      refine r_iload E (dat dkL_passes_k4 2 rfl) rfl ?_
                      refine q_laa (a := 2) E (dat dkL_passes_k4 3 rfl) rfl rfl rfl (by decide) rfl hr7 ?_
                      refine r_iload E (dat dkL_passes_k4 4 rfl) rfl ?_
                      refine q_ialv E (dat dkL_passes_k4 5 rfl) (lae (by decide) hr7) (lok (Nat.le_of_ble_eq_true rfl) rfl (by decide) hr7) (by decide) rfl hc7 (gh1_0 (LE_l hr7 hin)) ?_
                      refine r_istore_6 E (dat dkL_passes_k4 6 rfl) rfl rfl ?_
                      refine r_for (N) (fun _ => True) (fun d => m1 (LE B x (dV V (r * x.1.2.1 + c) d)) M0) (fun d => [some (rv 0 0), some (iv (nI n)), some (iv (T 0 11)), some (iv (nI i0)), some (iv (nI (r + 1))), some (iv (nI (c + 1))), some (iv (V 2 (r * x.1.2.1 + c) + nI d)), none]) trivial (by rw [dV_0]) (by rw [show nI 0 = 0 from rfl, Int32.add_zero]; rfl) ?_ ?_
                      · intro d hd hId kd
                        refine r_iload E (dat dkL_passes_k4 7 rfl) rfl ?_
                        refine r_aload_n E (dat dkL_passes_k4 8 rfl) rfl rfl ?_
                        refine q_geta E fl_L_20 (dat dkL_passes_k4 9 rfl) rfl rfl rfl ?_
                        refine r_iload E (dat dkL_passes_k4 10 rfl) rfl ?_
                        refine q_laa (a := 3) E (dat dkL_passes_k4 11 rfl) rfl rfl rfl (by decide) rfl hr7 ?_
                        refine r_iload E (dat dkL_passes_k4 12 rfl) rfl ?_
                        refine q_ialv E (dat dkL_passes_k4 13 rfl) (lae (by decide) hr7) (lok (Nat.le_of_ble_eq_true rfl) rfl (by decide) hr7) (by decide) rfl hc7 (gh1_0 (LE_g hr7 hin)) ?_
                        refine r_icmp_ge (tgt := 429) E (dat dkL_passes_k4 14 rfl) rfl (fun h383 => ?_) (fun h383 => ?_)
                        ·
                          exact absurd h383 (Int32.not_le.mpr (hNs d hd).1)
                        ·
                          refine r_aload_n E (dat dkL_passes_k4 15 rfl) rfl rfl ?_
                          refine q_geta E fl_L_14 (dat dkL_passes_k4 16 rfl) rfl rfl rfl ?_
                          refine r_iload E (dat dkL_passes_k4 17 rfl) rfl ?_
                          refine q_laa (a := 1) E (dat dkL_passes_k4 18 rfl) rfl rfl rfl (by decide) rfl hr7 ?_
                          refine r_iload E (dat dkL_passes_k4 19 rfl) rfl ?_
                          refine q_ialv E (dat dkL_passes_k4 20 rfl) (lae (by decide) hr7) (lok (Nat.le_of_ble_eq_true rfl) rfl (by decide) hr7) (by decide) rfl hc7 (gh1_0 (LE_w hr7 hin)) ?_
                          refine r_if_le (tgt := 429) E (dat dkL_passes_k4 21 rfl) rfl (fun h396 => ?_) (fun h396 => ?_)
                          ·
                            exact absurd (show V 1 (r * x.1.2.1 + c) - nI d ≤ 0 by rw [← dV_1 (U := V)]; exact h396) (Int32.not_le.mpr (hNs d hd).2)
                          ·
                            refine r_aload_n E (dat dkL_passes_k4 22 rfl) rfl rfl ?_
                            refine q_geta E fl_L_14 (dat dkL_passes_k4 23 rfl) rfl rfl rfl ?_
                            refine r_iload E (dat dkL_passes_k4 24 rfl) rfl ?_
                            refine q_laa (a := 1) E (dat dkL_passes_k4 25 rfl) rfl rfl rfl (by decide) rfl hr7 ?_
                            refine r_iload E (dat dkL_passes_k4 26 rfl) rfl ?_
                            refine r_dup2 E (dat dkL_passes_k4 27 rfl) rfl rfl ?_
                            refine q_ialv E (dat dkL_passes_k4 28 rfl) (lae (by decide) hr7) (lok (Nat.le_of_ble_eq_true rfl) rfl (by decide) hr7) (by decide) rfl hc7 (gh1_0 (LE_w hr7 hin)) ?_
                            refine r_iconst (v := 1) E (dat dkL_passes_k4 29 rfl) rfl ?_
                            refine r_isub E (dat dkL_passes_k4 30 rfl) ?_
                            refine q_iasv E (dat dkL_passes_k4 31 rfl) (lae (by decide) hr7) (lok (Nat.le_of_ble_eq_true rfl) rfl (by decide) hr7) (by decide) rfl hc7 (sa1_0 (LE_sw hr7 hin)) ?_
                            refine r_aload_n E (dat dkL_passes_k4 32 rfl) rfl rfl ?_
                            refine r_dup E (dat dkL_passes_k4 33 rfl) rfl ?_
                            refine q_getn E fl_L_88 (dat dkL_passes_k4 34 rfl) rfl rfl rfl (gh1_0 LE_v19) ?_
                            refine r_iconst (v := 1) E (dat dkL_passes_k4 35 rfl) rfl ?_
                            refine r_iadd E (dat dkL_passes_k4 36 rfl) ?_
                            refine q_putn E ft_L_88 (dat dkL_passes_k4 37 rfl) rfl rfl rfl (sf1_0 LE_f19) ?_
                            refine r_iinc_6 E (dat dkL_passes_k4 38 rfl) rfl rfl ?_
                            refine r_goto (tgt := 371) E (dat dkL_passes_k4 39 rfl) rfl ?_
                            refine r_back ?_ ?_ (kd trivial)
                            rotate_left
                            · exact ⟨rfl, rfl, rfl, rfl, rfl, rfl, (by rw [← nI_1 d, ← Int32.add_assoc]; rfl), trivial⟩
                            · exact congrArg (fun Z => m1 (LE B x Z) M0) dV_s.symm
                      · intro hId
                        refine r_iload E (dat dkL_passes_k4 7 rfl) rfl ?_
                        refine r_aload_n E (dat dkL_passes_k4 8 rfl) rfl rfl ?_
                        refine q_geta E fl_L_20 (dat dkL_passes_k4 9 rfl) rfl rfl rfl ?_
                        refine r_iload E (dat dkL_passes_k4 10 rfl) rfl ?_
                        refine q_laa (a := 3) E (dat dkL_passes_k4 11 rfl) rfl rfl rfl (by decide) rfl hr7 ?_
                        refine r_iload E (dat dkL_passes_k4 12 rfl) rfl ?_
                        refine q_ialv E (dat dkL_passes_k4 13 rfl) (lae (by decide) hr7) (lok (Nat.le_of_ble_eq_true rfl) rfl (by decide) hr7) (by decide) rfl hc7 (gh1_0 (LE_g hr7 hin)) ?_
                        refine r_icmp_ge (tgt := 429) E (dat dkL_passes_k4 14 rfl) rfl (fun h383 => ?_) (fun h383 => ?_)
                        ·
                          have hdone := trivial
                          refine r_aload_n E (dat dkL_passes_k4 40 rfl) rfl rfl ?_
                          refine q_getn E fl_L_92 (dat dkL_passes_k4 41 rfl) rfl rfl rfl (gh1_0 LE_v16) ?_
                          refine r_bipush (v := 10) E (dat dkL_passes_k4 42 rfl) rfl ?_
                          refine r_irem E (dat dkL_passes_k4 43 rfl) (by decide) ?_
                          refine r_if_gt (tgt := 479) E (dat dkL_passes_k4 44 rfl) rfl (fun h436 => ?_) (fun h436 => ?_)
                          ·
                            refine q_iinc_5 E (dat dkL_passes_k5 19 rfl) rfl rfl ?_
                            refine r_goto (tgt := 350) E (dat dkL_passes_k5 20 rfl) rfl ?_
                            refine r_back ?_ ?_ (kc trivial)
                            rotate_left
                            · exact ⟨rfl, rfl, rfl, rfl, rfl, rfl, trivial⟩
                            first
                              | exact congrArg (fun Z => m1 (LE B x Z) M0) (r3_1 hdN h7 (by omega) h436)
                              | exact congrArg (fun Z => m1 (LE B x Z) M0) (r3_2 hdN h7 (by omega) h436 h449)
                              | exact congrArg (fun Z => m1 (LE B x Z) M0) (r3_3 hdN h7 (by omega) h436 h449)
                          ·
                            refine r_aload_n E (dat dkL_passes_k4 45 rfl) rfl rfl ?_
                            refine q_geta E fl_L_14 (dat dkL_passes_k4 46 rfl) rfl rfl rfl ?_
                            refine r_iload E (dat dkL_passes_k4 47 rfl) rfl ?_
                            refine q_laa (a := 1) E (dat dkL_passes_k4 48 rfl) rfl rfl rfl (by decide) rfl hr7 ?_
                            refine r_iload E (dat dkL_passes_k4 49 rfl) rfl ?_
                            refine q_ialv E (dat dkL_passes_k5 0 rfl) (lae (by decide) hr7) (lok (Nat.le_of_ble_eq_true rfl) rfl (by decide) hr7) (by decide) rfl hc7 (gh1_0 (LE_w hr7 hin)) ?_
                            refine r_if_ne (tgt := 455) E (dat dkL_passes_k5 1 rfl) rfl (fun h449 => ?_) (fun h449 => ?_)
                            ·
                              refine r_aload_n E (dat dkL_passes_k5 3 rfl) rfl rfl ?_
                              refine q_geta E fl_L_14 (dat dkL_passes_k5 4 rfl) rfl rfl rfl ?_
                              refine r_iload E (dat dkL_passes_k5 5 rfl) rfl ?_
                              refine q_laa (a := 1) E (dat dkL_passes_k5 6 rfl) rfl rfl rfl (by decide) rfl hr7 ?_
                              refine r_iload E (dat dkL_passes_k5 7 rfl) rfl ?_
                              refine r_dup2 E (dat dkL_passes_k5 8 rfl) rfl rfl ?_
                              refine q_ialv E (dat dkL_passes_k5 9 rfl) (lae (by decide) hr7) (lok (Nat.le_of_ble_eq_true rfl) rfl (by decide) hr7) (by decide) rfl hc7 (gh1_0 (LE_w hr7 hin)) ?_
                              refine r_iconst (v := 1) E (dat dkL_passes_k5 10 rfl) rfl ?_
                              refine r_isub E (dat dkL_passes_k5 11 rfl) ?_
                              refine q_iasv E (dat dkL_passes_k5 12 rfl) (lae (by decide) hr7) (lok (Nat.le_of_ble_eq_true rfl) rfl (by decide) hr7) (by decide) rfl hc7 (sa1_0 (LE_sw hr7 hin)) ?_
                              refine r_aload_n E (dat dkL_passes_k5 13 rfl) rfl rfl ?_
                              refine r_dup E (dat dkL_passes_k5 14 rfl) rfl ?_
                              refine q_getn E fl_L_113 (dat dkL_passes_k5 15 rfl) rfl rfl rfl (gh1_0 LE_v20) ?_
                              refine r_iconst (v := 1) E (dat dkL_passes_k5 16 rfl) rfl ?_
                              refine r_iadd E (dat dkL_passes_k5 17 rfl) ?_
                              refine q_putn E ft_L_113 (dat dkL_passes_k5 18 rfl) rfl rfl rfl (sf1_0 LE_f20) ?_
                              refine q_iinc_5 E (dat dkL_passes_k5 19 rfl) rfl rfl ?_
                              refine r_goto (tgt := 350) E (dat dkL_passes_k5 20 rfl) rfl ?_
                              refine r_back ?_ ?_ (kc trivial)
                              rotate_left
                              · exact ⟨rfl, rfl, rfl, rfl, rfl, rfl, trivial⟩
                              first
                                | exact congrArg (fun Z => m1 (LE B x Z) M0) (r3_1 hdN h7 (by omega) h436)
                                | exact congrArg (fun Z => m1 (LE B x Z) M0) (r3_2 hdN h7 (by omega) h436 h449)
                                | exact congrArg (fun Z => m1 (LE B x Z) M0) (r3_3 hdN h7 (by omega) h436 h449)
                            ·
                              refine r_goto (tgt := 479) E (dat dkL_passes_k5 2 rfl) rfl ?_
                              refine q_iinc_5 E (dat dkL_passes_k5 19 rfl) rfl rfl ?_
                              refine r_goto (tgt := 350) E (dat dkL_passes_k5 20 rfl) rfl ?_
                              refine r_back ?_ ?_ (kc trivial)
                              rotate_left
                              · exact ⟨rfl, rfl, rfl, rfl, rfl, rfl, trivial⟩
                              first
                                | exact congrArg (fun Z => m1 (LE B x Z) M0) (r3_1 hdN h7 (by omega) h436)
                                | exact congrArg (fun Z => m1 (LE B x Z) M0) (r3_2 hdN h7 (by omega) h436 h449)
                                | exact congrArg (fun Z => m1 (LE B x Z) M0) (r3_3 hdN h7 (by omega) h436 h449)
                        ·
                          refine r_aload_n E (dat dkL_passes_k4 15 rfl) rfl rfl ?_
                          refine q_geta E fl_L_14 (dat dkL_passes_k4 16 rfl) rfl rfl rfl ?_
                          refine r_iload E (dat dkL_passes_k4 17 rfl) rfl ?_
                          refine q_laa (a := 1) E (dat dkL_passes_k4 18 rfl) rfl rfl rfl (by decide) rfl hr7 ?_
                          refine r_iload E (dat dkL_passes_k4 19 rfl) rfl ?_
                          refine q_ialv E (dat dkL_passes_k4 20 rfl) (lae (by decide) hr7) (lok (Nat.le_of_ble_eq_true rfl) rfl (by decide) hr7) (by decide) rfl hc7 (gh1_0 (LE_w hr7 hin)) ?_
                          refine r_if_le (tgt := 429) E (dat dkL_passes_k4 21 rfl) rfl (fun h396 => ?_) (fun h396 => ?_)
                          ·
                            refine r_aload_n E (dat dkL_passes_k4 40 rfl) rfl rfl ?_
                            refine q_getn E fl_L_92 (dat dkL_passes_k4 41 rfl) rfl rfl rfl (gh1_0 LE_v16) ?_
                            refine r_bipush (v := 10) E (dat dkL_passes_k4 42 rfl) rfl ?_
                            refine r_irem E (dat dkL_passes_k4 43 rfl) (by decide) ?_
                            refine r_if_gt (tgt := 479) E (dat dkL_passes_k4 44 rfl) rfl (fun h436 => ?_) (fun h436 => ?_)
                            ·
                              refine q_iinc_5 E (dat dkL_passes_k5 19 rfl) rfl rfl ?_
                              refine r_goto (tgt := 350) E (dat dkL_passes_k5 20 rfl) rfl ?_
                              refine r_back ?_ ?_ (kc trivial)
                              rotate_left
                              · exact ⟨rfl, rfl, rfl, rfl, rfl, rfl, trivial⟩
                              first
                                | exact congrArg (fun Z => m1 (LE B x Z) M0) (r3_1 hdN h7 (by omega) h436)
                                | exact congrArg (fun Z => m1 (LE B x Z) M0) (r3_2 hdN h7 (by omega) h436 h449)
                                | exact congrArg (fun Z => m1 (LE B x Z) M0) (r3_3 hdN h7 (by omega) h436 h449)
                            ·
                              refine r_aload_n E (dat dkL_passes_k4 45 rfl) rfl rfl ?_
                              refine q_geta E fl_L_14 (dat dkL_passes_k4 46 rfl) rfl rfl rfl ?_
                              refine r_iload E (dat dkL_passes_k4 47 rfl) rfl ?_
                              refine q_laa (a := 1) E (dat dkL_passes_k4 48 rfl) rfl rfl rfl (by decide) rfl hr7 ?_
                              refine r_iload E (dat dkL_passes_k4 49 rfl) rfl ?_
                              refine q_ialv E (dat dkL_passes_k5 0 rfl) (lae (by decide) hr7) (lok (Nat.le_of_ble_eq_true rfl) rfl (by decide) hr7) (by decide) rfl hc7 (gh1_0 (LE_w hr7 hin)) ?_
                              refine r_if_ne (tgt := 455) E (dat dkL_passes_k5 1 rfl) rfl (fun h449 => ?_) (fun h449 => ?_)
                              ·
                                refine r_aload_n E (dat dkL_passes_k5 3 rfl) rfl rfl ?_
                                refine q_geta E fl_L_14 (dat dkL_passes_k5 4 rfl) rfl rfl rfl ?_
                                refine r_iload E (dat dkL_passes_k5 5 rfl) rfl ?_
                                refine q_laa (a := 1) E (dat dkL_passes_k5 6 rfl) rfl rfl rfl (by decide) rfl hr7 ?_
                                refine r_iload E (dat dkL_passes_k5 7 rfl) rfl ?_
                                refine r_dup2 E (dat dkL_passes_k5 8 rfl) rfl rfl ?_
                                refine q_ialv E (dat dkL_passes_k5 9 rfl) (lae (by decide) hr7) (lok (Nat.le_of_ble_eq_true rfl) rfl (by decide) hr7) (by decide) rfl hc7 (gh1_0 (LE_w hr7 hin)) ?_
                                refine r_iconst (v := 1) E (dat dkL_passes_k5 10 rfl) rfl ?_
                                refine r_isub E (dat dkL_passes_k5 11 rfl) ?_
                                refine q_iasv E (dat dkL_passes_k5 12 rfl) (lae (by decide) hr7) (lok (Nat.le_of_ble_eq_true rfl) rfl (by decide) hr7) (by decide) rfl hc7 (sa1_0 (LE_sw hr7 hin)) ?_
                                refine r_aload_n E (dat dkL_passes_k5 13 rfl) rfl rfl ?_
                                refine r_dup E (dat dkL_passes_k5 14 rfl) rfl ?_
                                refine q_getn E fl_L_113 (dat dkL_passes_k5 15 rfl) rfl rfl rfl (gh1_0 LE_v20) ?_
                                refine r_iconst (v := 1) E (dat dkL_passes_k5 16 rfl) rfl ?_
                                refine r_iadd E (dat dkL_passes_k5 17 rfl) ?_
                                refine q_putn E ft_L_113 (dat dkL_passes_k5 18 rfl) rfl rfl rfl (sf1_0 LE_f20) ?_
                                refine q_iinc_5 E (dat dkL_passes_k5 19 rfl) rfl rfl ?_
                                refine r_goto (tgt := 350) E (dat dkL_passes_k5 20 rfl) rfl ?_
                                refine r_back ?_ ?_ (kc trivial)
                                rotate_left
                                · exact ⟨rfl, rfl, rfl, rfl, rfl, rfl, trivial⟩
                                first
                                  | exact congrArg (fun Z => m1 (LE B x Z) M0) (r3_1 hdN h7 (by omega) h436)
                                  | exact congrArg (fun Z => m1 (LE B x Z) M0) (r3_2 hdN h7 (by omega) h436 h449)
                                  | exact congrArg (fun Z => m1 (LE B x Z) M0) (r3_3 hdN h7 (by omega) h436 h449)
                              ·
                                refine r_goto (tgt := 479) E (dat dkL_passes_k5 2 rfl) rfl ?_
                                refine q_iinc_5 E (dat dkL_passes_k5 19 rfl) rfl rfl ?_
                                refine r_goto (tgt := 350) E (dat dkL_passes_k5 20 rfl) rfl ?_
                                refine r_back ?_ ?_ (kc trivial)
                                rotate_left
                                · exact ⟨rfl, rfl, rfl, rfl, rfl, rfl, trivial⟩
                                first
                                  | exact congrArg (fun Z => m1 (LE B x Z) M0) (r3_1 hdN h7 (by omega) h436)
                                  | exact congrArg (fun Z => m1 (LE B x Z) M0) (r3_2 hdN h7 (by omega) h436 h449)
                                  | exact congrArg (fun Z => m1 (LE B x Z) M0) (r3_3 hdN h7 (by omega) h436 h449)
                          ·
                            exact absurd hNe (fun q => q.elim h383 (fun q2 => h396 (show dV V (r * x.1.2.1 + c) N 1 (r * x.1.2.1 + c) ≤ 0 by rw [dV_1]; exact q2)))
                  · intro hIc
                    refine r_iload E (dat dkL_passes_k3 46 rfl) rfl ?_
                    refine r_aload_n E (dat dkL_passes_k3 47 rfl) rfl rfl ?_
                    refine q_getn E fl_L_98 (dat dkL_passes_k3 48 rfl) rfl rfl rfl (gh1_0 LE_v13) ?_
                    refine q_icmp_gt (tgt := 485) E (dat dkL_passes_k3 49 rfl) rfl rfl rfl (by omega) (by omega) (fun h356 => ?_) (fun h356 => ?_)
                    ·
                      refine q_iinc_4 E (dat dkL_passes_k5 21 rfl) rfl rfl ?_
                      refine r_goto (tgt := 338) E (dat dkL_passes_k5 22 rfl) rfl ?_
                      refine r_back ?_ ?_ (kr trivial)
                      rotate_left
                      · exact ⟨rfl, rfl, rfl, rfl, rfl, trivial⟩
                      · rw [Nat.succ_mul]
                    ·
                      omega
              · intro hIr
                refine r_iload E (dat dkL_passes_k3 40 rfl) rfl ?_
                refine r_aload_n E (dat dkL_passes_k3 41 rfl) rfl rfl ?_
                refine q_getn E fl_L_95 (dat dkL_passes_k3 42 rfl) rfl rfl rfl (gh1_0 LE_v12) ?_
                refine q_icmp_gt (tgt := 491) E (dat dkL_passes_k3 43 rfl) rfl rfl rfl (by omega) (by omega) (fun h344 => ?_) (fun h344 => ?_)
                ·
                  refine r_iconst (v := 0) E (dat dkL_passes_k5 23 rfl) rfl ?_
                  refine r_istore_4 E (dat dkL_passes_k5 24 rfl) rfl rfl ?_
                  refine r_for (x.2.2.2.2.1) (fun _ => True) (fun b => m1 (LE B x (q4 x U b)) M0) (fun b => [some (rv 0 0), some (iv (nI n)), some (iv (T 0 11)), some (iv (nI i0)), some (iv (nI b)), none, none, none]) trivial (by show m1 (LE B x (q3 x U x.1.2.2)) M0 = _; rw [hx.2.2.1]) rfl ?_ ?_
                  · intro b hb hIb kb
                    refine r_iload E (dat dkL_passes_k5 25 rfl) rfl ?_
                    refine r_aload_n E (dat dkL_passes_k5 26 rfl) rfl rfl ?_
                    refine q_getn E fl_L_116 (dat dkL_passes_k5 27 rfl) rfl rfl rfl (gh1_0 LE_v14) ?_
                    refine q_icmp_ge (tgt := 515) E (dat dkL_passes_k5 28 rfl) rfl rfl rfl (by omega) (by omega) (fun h500 => ?_) (fun h500 => ?_)
                    ·
                      omega
                    ·
                      refine r_aload_n E (dat dkL_passes_k5 29 rfl) rfl rfl ?_
                      refine r_iload E (dat dkL_passes_k5 30 rfl) rfl ?_
                      refine r_callV (κ := 9) (μ := [0]) E (sp_L_soak l G B x (q4 x U b) b _ rfl hx hw (fun z hz => by rw [q4_5]; exact hpl z hz) (q4_wt hwt b) hb) my_L_soak iv_L_soak ml_L_119 (cm_of rfl) ⟨by decide, rfl, rfl⟩ rfl rfl rfl rfl (by decide) (Nat.le_of_ble_eq_true rfl) (dat dkL_passes_k5 31 rfl) ?_
                      rintro _ _ ⟨rfl, rfl⟩
                      refine ⟨_, Mrg_e (by decide) (by decide) pm1_0 rfl, ?_⟩
                      refine q_iinc_4 E (dat dkL_passes_k5 32 rfl) rfl rfl ?_
                      refine r_goto (tgt := 494) E (dat dkL_passes_k5 33 rfl) rfl ?_
                      exact r_back rfl ⟨rfl, rfl, rfl, rfl, rfl, trivial⟩ (kb trivial)
                  · intro hIb
                    refine r_iload E (dat dkL_passes_k5 25 rfl) rfl ?_
                    refine r_aload_n E (dat dkL_passes_k5 26 rfl) rfl rfl ?_
                    refine q_getn E fl_L_116 (dat dkL_passes_k5 27 rfl) rfl rfl rfl (gh1_0 LE_v14) ?_
                    refine q_icmp_ge (tgt := 515) E (dat dkL_passes_k5 28 rfl) rfl rfl rfl (by omega) (by omega) (fun h500 => ?_) (fun h500 => ?_)
                    ·
                      refine q_iinc_3 E (dat dkL_passes_k5 34 rfl) rfl rfl ?_
                      refine r_goto (tgt := 7) E (dat dkL_passes_k5 35 rfl) rfl ?_
                      exact r_back rfl ⟨rfl, rfl, rfl, rfl, trivial⟩ (ki0 trivial)
                    ·
                      omega
                ·
                  omega
            ·
              omega
        ·
          omega
  · intro hIi0
    refine r_iload_n E (dat dkL_passes_k0 5 rfl) rfl rfl ?_
    refine r_iload_n E (dat dkL_passes_k0 6 rfl) rfl rfl ?_
    refine q_icmp_ge (tgt := 521) E (dat dkL_passes_k0 7 rfl) rfl rfl rfl (by omega) (by omega) (fun h9 => ?_) (fun h9 => ?_)
    ·
      refine r_aload_n E (dat dkL_passes_k5 36 rfl) rfl rfl ?_
      refine q_getn E fl_L_88 (dat dkL_passes_k5 37 rfl) rfl rfl rfl (gh1_0 LE_v19) ?_
      refine r_iload_n E (dat dkL_passes_k5 38 rfl) rfl rfl ?_
      refine r_isub E (dat dkL_passes_k5 39 rfl) ?_
      refine r_ireturn E (dat dkL_passes_k5 40 rfl) (by decide) (by decide) ?_
      exact ⟨rfl, by rw [pm1_0]⟩
    ·
      omega
