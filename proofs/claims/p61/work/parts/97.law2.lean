/-! the law's minute: what holds on the way -/
/-- an open hydrant's rate stands in the law's row -/
def RTi (B : Nat → Nat → Int32) (x : PP) (T : Nat → Nat → Int32) : Prop := ∀ r c, inC x r c → ¬ T 4 (clC x r c) = 0 → B (20 + 7 * 4 + r) c = T 3 (clC x r c)
def GUi (x : PP) : Prop := ∀ k, k < x.1.2.2 → 0 ≤ (x.2.2.1 k).toInt ∧ (x.2.2.1 k).toInt ≤ 9
/-- the law's rain and rates are small; so is the water, by the minutes -/
def XJ (x : PP) (T : Nat → Nat → Int32) : Prop := (T 0 8).toInt ≤ 2 ∧ (∀ c, c < x.1.2.2 → (T 3 c).toInt ≤ 16) ∧ NN x.1.2.2 (T 1) (450 * (T 0 7).toInt)
theorem LW_25 {x : PP} (hx : PIv x) (hw : LWi x) : x.1.2.2 ≤ 25 := by
  rw [hx.2.2.1]
  exact Nat.le_trans (Nat.mul_le_mul hw.1.2 hw.2.1.2) (by decide)
theorem mw2_NJ {x : PP} {T : Nat → Nat → Int32} {B : Int} (hx : PIv x) (hw9 : LWi x) {C : Int} (h : SI x T C) (h8 : (T 0 8).toInt ≤ 2) (h3 : ∀ c, c < x.1.2.2 → (T 3 c).toInt ≤ 16) (hw : NN x.1.2.2 (T 1) B) (hB : B + 450 < 2147483648) : NN x.1.2.2 (mw2 x.1.2.2 T) (B + 450) := by
  obtain ⟨hr, hh, ht, -, -⟩ := h
  have h25 := LW_25 hx hw9
  have hk : ∀ k, k < x.1.2.2 → 0 ≤ (mw2 x.1.2.2 T k).toInt ∧ (mw2 x.1.2.2 T k).toInt ≤ (T 1 k).toInt + (18 : Nat) := fun k hk => by
    rw [mw2_at hk]
    have h0 := hw.1 k hk
    have h1 := Int.le_trans (ws_le (c := k) _ hw.1 hk) hw.2
    have h2 := hh k hk
    have h4 := h3 k hk
    have e1 : (T 1 k + T 0 8).toInt = (T 1 k).toInt + (T 0 8).toInt := i_add (by omega) (by omega)
    unfold oW
    by_cases hp : T 4 k ≤ 0
    · rw [if_pos hp, e1]; omega
    · rw [if_neg hp, i_add (by rw [e1]; omega) (by rw [e1]; omega), e1]; omega
  refine ⟨fun k h => (hk k h).1, ?_⟩
  have h3 := ws_step (d := 18) x.1.2.2 (fun k h => (hk k h).2)
  have h4 := hw.2
  omega
section
variable {B : Nat → Nat → Int32} {x : PP} {T U : Nat → Nat → Int32}
theorem LE_sc3 {V : Nat → Nat → Int32} {c : Nat} {v : Int32} : LE B x (sc V 3 c v) = LE B x V := LE_congr (fun _ => rfl) (fun _ _ _ _ _ => rfl) (fun _ _ _ _ _ _ _ => rfl) (fun _ _ _ => rfl)
theorem sc_self {t c : Nat} : sc T t c (T t c) = T := by
  funext u k
  unfold sc
  by_cases h : u = t
  · subst h
    rw [sett_s]
    unfold upd
    by_cases h2 : k = c
    · subst h2; exact if_pos rfl
    · exact if_neg h2
  · exact sett_n h ▸ rfl
theorem sc_r {t c u k : Nat} {v : Int32} (h : u ≠ t) : sc T t c v u k = T u k := congrFun (sett_n h) k
theorem LE_hk {r c k : Nat} (hr : r < 7) (h : inC x r c) (hk : clC x r c = k) : LE B x T (20 + 7 * 0 + r) c = x.2.1 k := hk ▸ LE_h hr h
theorem LE_wk {r c k : Nat} (hr : r < 7) (h : inC x r c) (hk : clC x r c = k) : LE B x T (20 + 7 * 1 + r) c = T 1 k := hk ▸ LE_w hr h
theorem LE_lk {r c k : Nat} (hr : r < 7) (h : inC x r c) (hk : clC x r c = k) : LE B x T (20 + 7 * 2 + r) c = T 2 k := hk ▸ LE_l hr h
theorem LE_gk {r c k : Nat} (hr : r < 7) (h : inC x r c) (hk : clC x r c = k) : LE B x T (20 + 7 * 3 + r) c = x.2.2.1 k := hk ▸ LE_g hr h
theorem LE_mk {r c k : Nat} (hr : r < 7) (h : inC x r c) (hk : clC x r c = k) : LE B x T (20 + 7 * 5 + r) c = T 4 k := hk ▸ LE_m hr h
theorem LE_swk {r c k : Nat} {v : Int32} (hr : r < 7) (h : inC x r c) (hk : clC x r c = k) : sett (LE B x T) (20 + 7 * 1 + r) (upd (LE B x T (20 + 7 * 1 + r)) c v) = LE B x (sc T 1 k v) := hk ▸ LE_sw hr h
theorem LE_slk {r c k : Nat} {v : Int32} (hr : r < 7) (h : inC x r c) (hk : clC x r c = k) : sett (LE B x T) (20 + 7 * 2 + r) (upd (LE B x T (20 + 7 * 2 + r)) c v) = LE B x (sc T 2 k v) := hk ▸ LE_sl hr h
theorem LE_smk {r c k : Nat} {v : Int32} (hr : r < 7) (h : inC x r c) (hk : clC x r c = k) : sett (LE B x T) (20 + 7 * 5 + r) (upd (LE B x T (20 + 7 * 5 + r)) c v) = LE B x (sc T 4 k v) := hk ▸ LE_sm hr h
theorem q1_k (ht : ∀ c, c < x.1.2.2 → 0 ≤ T 4 c) {i : Nat} (hi : i < x.1.2.2) : q1 x T i 4 i = T 4 i ∧ q1 x T i 3 i = T 3 i := by
  rw [q1_eq ht i (by omega)]
  exact ⟨fil_at, fil_at⟩
theorem raC_4 {k : Nat} : raC U k 4 k = U 4 k := (sc_r (by decide)).trans (sc_r (by decide))
theorem r1_a {k : Nat} (h : U 4 k = 0) : r1C U k = raC U k := if_pos (raC_4.trans h)
theorem r1_b {k : Nat} (h : ¬ U 4 k = 0) : LE B x (sc (sc (sc (raC U k) 1 k (raC U k 1 k + U 3 k)) 0 10 (raC U k 0 10 + U 3 k)) 4 k (raC U k 4 k - 1)) = LE B x (r1C U k) := by
  show _ = LE B x (guC (raC U k) k)
  unfold guC
  rw [if_neg (show ¬ raC U k 4 k = 0 from h), ← i32_m1]
  by_cases h2 : raC U k 4 k + -1 = 0
  · rw [if_pos h2, LE_sc3]; rfl
  · rw [if_neg h2]; rfl
theorem zi_N (hx : PIv x) (hw : LWi x) {L : Int} (hZ : ZI x T L) (hX : XJ x T) (hm : (T 0 7).toInt + 1 ≤ 200) : NN x.1.2.2 (mw2 x.1.2.2 T) 90000 := by
  have h := mw2_NJ hx hw hZ.1 hX.1 hX.2.1 hX.2.2 (by omega)
  exact NN_mono h (by omega)
theorem q2_w (hx : PIv x) (hw : LWi x) (ht : ∀ c, c < x.1.2.2 → 0 ≤ T 4 c) (hN : NN x.1.2.2 (mw2 x.1.2.2 T) 90000) {i : Nat} (hi : i ≤ x.1.2.2) : WBi x (q2 x T i) := by
  unfold WBi
  rw [q2_eq hx (LW_PV hw) ht (by decide) hN i hi]
  exact fwN_NN hx (by decide) hN i hi
theorem q2_l (hx : PIv x) (hw : LWi x) (ht : ∀ c, c < x.1.2.2 → 0 ≤ T 4 c) (hN : NN x.1.2.2 (mw2 x.1.2.2 T) 90000) {L : Int} (hL : L < 2147483648) (hl : NN x.1.2.2 (T 2) L) {i : Nat} (hi : i ≤ x.1.2.2) : NN x.1.2.2 (q2 x T i 2) L := by
  rw [q2_eq hx (LW_PV hw) ht (by decide) hN i hi]
  exact fwN_L hx hL hl i hi
theorem q1_0 : q1 x T 0 = sc T 0 7 (T 0 7 + 1) := rfl
/-- what a flow does, by the law's steps -/
theorem r2_0 {k o : Nat} (hlo : loF (nbx x) (fun k => x.2.1 k + U 1 k) k 4 = some o) (h : flO x.2.1 (U 1) k (some o) = 0) : r2C x U k = U := by
  unfold r2C loO flC
  rw [hlo]
  exact if_pos h
theorem r2_1 {k o : Nat} {f : Int32} (hf : f = flO x.2.1 (U 1) k (some o)) (hlo : loF (nbx x) (fun k => x.2.1 k + U 1 k) k 4 = some o) (h : ¬ f = 0) (h2 : ¬ (0 < U 2 k ∧ x.2.2.1 k = 0)) : r2C x U k = sc (sc U 1 k (U 1 k - f)) 1 o (sc U 1 k (U 1 k - f) 1 o + f) := by
  subst hf
  unfold r2C loO flC
  rw [hlo]
  refine (if_neg h).trans ((if_neg h2).trans ?_)
  unfold flC2
  rw [← Int32.sub_eq_add_neg]
  rfl
theorem r2_2 {k o : Nat} {f : Int32} (hf : f = flO x.2.1 (U 1) k (some o)) (hlo : loF (nbx x) (fun k => x.2.1 k + U 1 k) k 4 = some o) (h : ¬ f = 0) (h2 : 0 < U 2 k ∧ x.2.2.1 k = 0) : r2C x U k = sc (sc (sc (sc U 1 k (U 1 k - f)) 1 o (sc U 1 k (U 1 k - f) 1 o + f)) 2 k (U 2 k - 1)) 2 o (sc (sc (sc U 1 k (U 1 k - f)) 1 o (sc U 1 k (U 1 k - f) 1 o + f)) 2 k (U 2 k - 1) 2 o + 1) := by
  subst hf
  unfold r2C loO flC
  rw [hlo]
  refine (if_neg h).trans ((if_pos h2).trans ?_)
  unfold flC3 flC2
  rw [← Int32.sub_eq_add_neg, ← i32_m1]
  rfl
theorem q2_7 {i : Nat} : q2 x T i 0 7 = T 0 7 + 1 := by
  have h2 : ∀ i, q2 x T i 0 = q1 x T x.1.2.2 0 := fun i => foldC_k (t := 0) (fun U c => by
    unfold r2C flC flC3 flC2
    split
    · rfl
    · split <;> rfl) i
  rw [h2]
  have h1 : ∀ i, q1 x T i 0 7 = T 0 7 + 1 := fun i => by
    induction i with
    | zero => rfl
    | succ i ih =>
      rw [← ih]
      show guC (raC (q1 x T i) i) i 0 7 = _
      unfold guC
      split
      · rfl
      · split <;> rfl
  exact h1 _
theorem r3_7 {k : Nat} : r3C x U k 0 7 = U 0 7 := by
  unfold r3C evC1
  split
  · split <;> rfl
  · rfl
theorem q3_7 : ∀ i, q3 x T i 0 7 = T 0 7 + 1
  | 0 => q2_7
  | i + 1 => by rw [← q3_7 i]; exact r3_7
/-- the water and the leaves that a cell still has when its turn comes to drain -/
theorem q3_k (hx : PIv x) (hw : LWi x) (ht : ∀ c, c < x.1.2.2 → 0 ≤ T 4 c) (hN : NN x.1.2.2 (mw2 x.1.2.2 T) 90000) {i : Nat} (hi : i < x.1.2.2) : q3 x T i 1 i = q2 x T x.1.2.2 1 i ∧ q3 x T i 2 i = q2 x T x.1.2.2 2 i := by
  rw [q3_eq hx (LW_PV hw) ht (by decide) hN i (by omega), q2_eq hx (LW_PV hw) ht (by decide) hN x.1.2.2 (Nat.le_refl _)]
  rw [gaS_1, gaS_1, gaS_2, gaS_2]
  exact ⟨fil_at, rfl⟩
theorem r4_5 {b : Nat} : r4C x U b 5 = U 5 := by
  unfold r4C soC
  split <;> rfl
theorem r3_5 {k : Nat} : r3C x U k 5 = U 5 := by
  unfold r3C evC1
  split
  · split <;> rfl
  · rfl
theorem r2_5 {k : Nat} : r2C x U k 5 = U 5 := by
  unfold r2C flC flC3 flC2
  split
  · rfl
  · split <;> rfl
theorem r1_5 {k : Nat} : r1C U k 5 = U 5 := by
  unfold r1C guC
  split
  · rfl
  · split <;> rfl
theorem r3_tw {k : Nat} : r3C x U k 7 = U 7 := by
  unfold r3C evC1
  split
  · split <;> rfl
  · rfl
theorem r2_tw {k : Nat} : r2C x U k 7 = U 7 := by
  unfold r2C flC flC3 flC2
  split
  · rfl
  · split <;> rfl
theorem r1_tw {k : Nat} : r1C U k 7 = U 7 := by
  unfold r1C guC
  split
  · rfl
  · split <;> rfl
theorem q3_tw (i : Nat) : q3 x T i 7 = T 7 := by
  unfold q3
  rw [foldC_k (t := 7) (fun U c => r3_tw) _]
  unfold q2
  rw [foldC_k (t := 7) (fun U c => r2_tw) _]
  unfold q1
  rw [foldC_k (t := 7) (fun U c => r1_tw) _]
  rfl
theorem wt_01 (h : WTi T) {b : Nat} (hb : b < 4) : T 7 b = 0 ∨ T 7 b = 1 := by
  have h1 := h b hb
  simp only [fits, Bool.or_eq_true, beq_iff_eq] at h1
  exact h1
theorem q4_wt (h : WTi T) : ∀ i, WTi (q4 x T i)
  | 0 => fun b hb => by
    show fits .boolean (.int (q3 x T x.1.2.2 7 b)) = true
    rw [q3_tw]; exact h b hb
  | i + 1 => fun b hb => by
    have ih := q4_wt h i b hb
    show fits .boolean (.int (r4C x (q4 x T i) i 7 b)) = true
    unfold r4C soC
    split
    · show fits .boolean (.int (upd (q4 x T i 7) i 1 b)) = true
      unfold upd
      split
      · rfl
      · exact ih
    · exact ih
theorem nar_0 {a : Int32} (h : a = 0 ∨ a = 1) : vp_nar .boolean (a ||| 0) = a := by rcases h with rfl | rfl <;> decide
theorem nar_1 {a : Int32} (h : a = 0 ∨ a = 1) : vp_nar .boolean (a ||| 1) = 1 := by rcases h with rfl | rfl <;> decide
theorem LE_b8 {k q : Nat} (h : k < x.2.2.2.2.1) (hq : T 5 k = nI q) (hq2 : q < 2 ^ 31) : LE B x T 8 k = nI (q / x.1.2.1 + 1) := by
  rw [LE_bt (by decide) (by decide) h]
  show nI ((T 5 k).toNatClampNeg / x.1.2.1 + 1) = _
  rw [hq, nI_clamp hq2]
theorem LE_b9 {k q : Nat} (h : k < x.2.2.2.2.1) (hq : T 5 k = nI q) (hq2 : q < 2 ^ 31) : LE B x T 9 k = nI (q % x.1.2.1 + 1) := by
  rw [LE_bt (by decide) (by decide) h]
  show nI ((T 5 k).toNatClampNeg % x.1.2.1 + 1) = _
  rw [hq, nI_clamp hq2]
theorem LE_b10 {k : Nat} (h : k < x.2.2.2.2.1) : LE B x T 10 k = x.2.2.2.2.2.2.2.1 k := LE_bt (by decide) (by decide) h
theorem LE_b11 {k : Nat} (h : k < x.2.2.2.2.1) : LE B x T 11 k = T 6 k := LE_bt (by decide) (by decide) h
theorem LE_b12 {k : Nat} (h : k < x.2.2.2.2.1) : LE B x T 12 k = T 7 k := LE_bt (by decide) (by decide) h
/-- how much a cell drains, counted -/
theorem dr_N {k : Nat} (hw : 0 ≤ (U 1 k).toInt ∧ (U 1 k).toInt ≤ 90000) (hl : 0 ≤ (U 2 k).toInt) (hg : 0 ≤ (x.2.2.1 k).toInt ∧ (x.2.2.1 k).toInt ≤ 9) : ∃ N : Nat, drA x U k = nI N ∧ N ≤ 9 ∧ (N : Int) ≤ (U 1 k).toInt ∧ (∀ d : Nat, d < N → U 2 k + nI d < x.2.2.1 k ∧ 0 < U 1 k - nI d) ∧ (x.2.2.1 k ≤ U 2 k + nI N ∨ U 1 k - nI N ≤ 0) := by
  have rl := i_rg (U 2 k)
  have i0 := i_0
  by_cases h1 : (x.2.2.1 k).toInt ≤ (U 2 k).toInt
  · -- plugged
    have hd : drA x U k = nI 0 := by
      unfold drA imax
      have e := i_sub (a := x.2.2.1 k) (b := U 2 k) (by omega) (by omega)
      rw [show (if x.2.2.1 k - U 2 k < 0 then (0 : Int32) else x.2.2.1 k - U 2 k) = 0 from by
        by_cases h2 : x.2.2.1 k - U 2 k < 0
        · exact if_pos h2
        · rw [if_neg h2]
          have h3 : ¬ (x.2.2.1 k - U 2 k).toInt < (0 : Int32).toInt := fun q => h2 (i_lt.mpr q)
          exact Int32.toInt_inj.mp (by rw [i0] at h3 ⊢; omega)]
      unfold imin
      exact if_neg (fun q => by have := i_lt.mp q; omega)
    refine ⟨0, hd, by omega, by omega, fun d h => by omega, Or.inl ?_⟩
    rw [show U 2 k + nI 0 = U 2 k from Int32.add_zero _]
    exact i_le.mpr h1
  · have e := i_sub (a := x.2.2.1 k) (b := U 2 k) (by omega) (by omega)
    have hm : imax (x.2.2.1 k - U 2 k) 0 = x.2.2.1 k - U 2 k := if_neg (fun q => by have := i_lt.mp q; omega)
    have tn : ∀ d : Nat, d < 2 ^ 20 → (nI d).toInt = d := fun d hd => ni_t (by omega)
    by_cases h2 : (U 1 k).toInt < (x.2.2.1 k).toInt - (U 2 k).toInt
    · have hN : (((U 1 k).toInt.toNat : Nat) : Int) = (U 1 k).toInt := Int.toNat_of_nonneg hw.1
      have hd : drA x U k = nI (U 1 k).toInt.toNat := by
        unfold drA imin
        rw [hm, if_pos (i_lt.mpr (by omega))]
        exact Int32.toInt_inj.mp (by rw [tn _ (by omega), hN])
      refine ⟨_, hd, by omega, by omega, fun d h => ⟨i_lt.mpr ?_, i_lt.mpr ?_⟩, Or.inr (i_le.mpr ?_)⟩
      · rw [i_add (by rw [tn _ (by omega)]; omega) (by rw [tn _ (by omega)]; omega), tn _ (by omega)]; omega
      · rw [i_sub (by rw [tn _ (by omega)]; omega) (by rw [tn _ (by omega)]; omega), tn _ (by omega), i0]; omega
      · rw [i_sub (by rw [tn _ (by omega)]; omega) (by rw [tn _ (by omega)]; omega), tn _ (by omega), i0]; omega
    · have hN : ((((x.2.2.1 k).toInt - (U 2 k).toInt).toNat : Nat) : Int) = (x.2.2.1 k).toInt - (U 2 k).toInt := Int.toNat_of_nonneg (by omega)
      have hd : drA x U k = nI ((x.2.2.1 k).toInt - (U 2 k).toInt).toNat := by
        unfold drA imin
        rw [hm, if_neg (fun q => by have := i_lt.mp q; omega)]
        exact Int32.toInt_inj.mp (by rw [tn _ (by omega), hN, e])
      refine ⟨_, hd, by omega, by omega, fun d h => ⟨i_lt.mpr ?_, i_lt.mpr ?_⟩, Or.inl (i_le.mpr ?_)⟩
      · rw [i_add (by rw [tn _ (by omega)]; omega) (by rw [tn _ (by omega)]; omega), tn _ (by omega)]; omega
      · rw [i_sub (by rw [tn _ (by omega)]; omega) (by rw [tn _ (by omega)]; omega), tn _ (by omega), i0]; omega
      · rw [i_add (by rw [tn _ (by omega)]; omega) (by rw [tn _ (by omega)]; omega), tn _ (by omega)]; omega
/-- d units drained -/
def dV (V : Nat → Nat → Int32) (k d : Nat) : Nat → Nat → Int32 := sc (sc V 1 k (V 1 k - nI d)) 0 11 (V 0 11 + nI d)
theorem dV_1 {k d : Nat} : dV U k d 1 k = U 1 k - nI d := by
  show upd (U 1) k (U 1 k - nI d) k = _
  exact upd_at
theorem dV_0 {k : Nat} : dV U k 0 = U := by
  unfold dV
  rw [show nI 0 = 0 from rfl, Int32.sub_zero, Int32.add_zero, sc_self, sc_self]
theorem dV_s {k d : Nat} : sc (sc (dV U k d) 1 k (dV U k d 1 k - 1)) 0 11 (sc (dV U k d) 1 k (dV U k d 1 k - 1) 0 11 + 1) = dV U k (d + 1) := by
  have e1 : dV U k d 1 k - 1 = U 1 k - nI (d + 1) := by rw [dV_1, i32_sub2, nI_1]
  have e2 : sc (dV U k d) 1 k (dV U k d 1 k - 1) 0 11 + 1 = U 0 11 + nI (d + 1) := by
    show (U 0 11 + nI d) + 1 = _
    rw [Int32.add_assoc, nI_1]
  rw [e2, e1]
  unfold dV
  funext t c
  by_cases h0 : t = 0
  · subst h0
    show upd (upd (U 0) 11 (U 0 11 + nI d)) 11 _ c = upd (U 0) 11 _ c
    rw [upd_upd]
  · by_cases h1 : t = 1
    · subst h1
      show upd (upd (U 1) k (U 1 k - nI d)) k _ c = upd (U 1) k _ c
      rw [upd_upd]
    · unfold sc
      rw [sett_n h0, sett_n h1, sett_n h0, sett_n h1, sett_n h0, sett_n h1]
theorem dr_V {k N : Nat} (h : drA x U k = nI N) : drC x U k = dV U k N := by
  unfold drC dV
  rw [h, ← Int32.sub_eq_add_neg]
theorem zm_N {m : Nat} (h : U 0 7 = nI m) (hm : m < 2 ^ 20) : zm U = nI (m % 10) := by
  unfold zm
  rw [h]
  exact nI_md (b := 10) (by omega) (by decide) (by decide)
theorem r3_1 {k N m : Nat} (h : drA x U k = nI N) (h7 : U 0 7 = nI m) (hm : m < 2 ^ 20) (hz : 0 < dV U k N 0 7 - dV U k N 0 7 / 10 * 10) : r3C x U k = dV U k N := by
  unfold r3C
  rw [dr_V h]
  refine if_neg (fun q => ?_)
  rw [show dV U k N 0 7 - dV U k N 0 7 / 10 * 10 = zm (dV U k N) from rfl, q] at hz
  exact absurd hz (by decide)
theorem zm_le {k N m : Nat} (h7 : U 0 7 = nI m) (hm : m < 2 ^ 20) (hz : ¬ 0 < dV U k N 0 7 - dV U k N 0 7 / 10 * 10) : zm (dV U k N) = 0 := by
  have e := zm_N (U := dV U k N) (m := m) h7 hm
  rw [show dV U k N 0 7 - dV U k N 0 7 / 10 * 10 = zm (dV U k N) from rfl] at hz
  rw [e] at hz ⊢
  have h1 : ¬ 0 < (nI (m % 10)).toInt := fun q => hz (i_lt.mpr q)
  rw [ni_t (by omega)] at h1
  rw [show m % 10 = 0 by omega]
  rfl
theorem r3_2 {k N m : Nat} (h : drA x U k = nI N) (h7 : U 0 7 = nI m) (hm : m < 2 ^ 20) (hz : ¬ 0 < dV U k N 0 7 - dV U k N 0 7 / 10 * 10) (hw : dV U k N 1 k = 0) : r3C x U k = dV U k N := by
  unfold r3C
  rw [dr_V h, if_pos (zm_le h7 hm hz)]
  exact if_pos hw
theorem r3_3 {k N m : Nat} (h : drA x U k = nI N) (h7 : U 0 7 = nI m) (hm : m < 2 ^ 20) (hz : ¬ 0 < dV U k N 0 7 - dV U k N 0 7 / 10 * 10) (hw : ¬ dV U k N 1 k = 0) : r3C x U k = sc (sc (dV U k N) 1 k (dV U k N 1 k - 1)) 0 12 (sc (dV U k N) 1 k (dV U k N 1 k - 1) 0 12 + 1) := by
  unfold r3C
  rw [dr_V h, if_pos (zm_le h7 hm hz)]
  clear hz h h7
  generalize dV U k N = W at hw ⊢
  unfold evC1
  rw [if_neg hw, i32_m1, show sc W 1 k (W 1 k - 1) 0 12 = W 0 12 from congrFun (sett_n (by decide)) 12]
end
set_option maxRecDepth 100000 in
set_option maxHeartbeats 4000000 in
theorem sp_L_soak (l : Launch) (G : GT) (B : Nat → Nat → Int32) (x : PP) (T : Nat → Nat → Int32) (b : Nat) (M : Mem) (hA0 : M 0 = (LE B x T)) (hx : PIv x) (hw : LWi x) (hpl : PLi x T) (hwt : WTi T) (hb : b < x.2.2.2.2.1) : MC l G yL_soak cL_soak 2 none ({ frames := 0, cells := 0, slots := 0, locals := 0 } : Room) [9] lk0 [rv 0 0, iv (nI b)] (M) (fun r M2 => r = none ∧ M2 = setm M 0 (LE B x (r4C x T b))) := by
  obtain ⟨M0, rfl⟩ : ∃ M0, M = m1 ((LE B x T)) M0 := ⟨M, (m1_of hA0).symm⟩
  clear hA0
  refine MC.of RL [some (rv 0 0), some (iv (nI b))] 0 (by decide +kernel) rfl rfl rfl ?_
  intro pp ee ss mm aa bb me cd ad E
  obtain ⟨q, hq, hpq⟩ := hpl b hb
  obtain ⟨hin, hcl⟩ := clC_of hx.2.2.1 hq
  obtain ⟨⟨hr1, hr5⟩, hc1, hc5⟩ := LW_r hw hin
  have h25 := LW_25 hx hw
  have hb2 := hw.2.2
  have h7 := wt_01 hwt (b := b) (by omega)
  have hso : r4C x T b = if x.2.2.2.2.2.2.2.1 b < T 1 q then sc T 7 b 1 else T := by
    unfold r4C soC
    rw [hpq, nI_clamp (by omega)]
  refine r_aload_n E (dat dkL_soak 0 rfl) rfl rfl ?_
  refine q_geta E fl_L_45 (dat dkL_soak 1 rfl) rfl rfl rfl ?_
  refine r_iload_n E (dat dkL_soak 2 rfl) rfl rfl ?_
  refine r_dup2 E (dat dkL_soak 3 rfl) rfl rfl ?_
  refine q_zalv E (dat dkL_soak 4 rfl) rfl rfl (by decide) rfl (by omega) (gh1_0 (LE_b12 hb)) ?_
  refine r_aload_n E (dat dkL_soak 5 rfl) rfl rfl ?_
  refine q_geta E fl_L_14 (dat dkL_soak 6 rfl) rfl rfl rfl ?_
  refine r_aload_n E (dat dkL_soak 7 rfl) rfl rfl ?_
  refine q_geta E fl_L_32 (dat dkL_soak 8 rfl) rfl rfl rfl ?_
  refine r_iload_n E (dat dkL_soak 9 rfl) rfl rfl ?_
  refine q_ialv E (dat dkL_soak 10 rfl) rfl rfl (by decide) rfl (by omega) (gh1_0 (LE_b8 hb hpq (by omega))) ?_
  refine q_laa (a := 1) E (dat dkL_soak 11 rfl) rfl rfl rfl (by decide) rfl (by omega) ?_
  refine r_aload_n E (dat dkL_soak 12 rfl) rfl rfl ?_
  refine q_geta E fl_L_36 (dat dkL_soak 13 rfl) rfl rfl rfl ?_
  refine r_iload_n E (dat dkL_soak 14 rfl) rfl rfl ?_
  refine q_ialv E (dat dkL_soak 15 rfl) rfl rfl (by decide) rfl (by omega) (gh1_0 (LE_b9 hb hpq (by omega))) ?_
  refine q_ialv E (dat dkL_soak 16 rfl) (lae (by decide) (by omega)) (lok (Nat.le_of_ble_eq_true rfl) rfl (by decide) (by omega)) (by decide) rfl (by omega) (gh1_0 ((LE_w (by omega) hin).trans (by rw [hcl]))) ?_
  refine r_aload_n E (dat dkL_soak 17 rfl) rfl rfl ?_
  refine q_geta E fl_L_39 (dat dkL_soak 18 rfl) rfl rfl rfl ?_
  refine r_iload_n E (dat dkL_soak 19 rfl) rfl rfl ?_
  refine q_ialv E (dat dkL_soak 20 rfl) rfl rfl (by decide) rfl (by omega) (gh1_0 (LE_b10 hb)) ?_
  refine r_icmp_le (tgt := 38) E (dat dkL_soak 21 rfl) rfl (fun h31 => ?_) (fun h31 => ?_)
  ·
    have hz := nar_0 h7
    have hso2 : r4C x T b = sc T 7 b (T 7 b) := by rw [hso, if_neg (i32_nlt h31), sc_self]
    refine r_iconst (v := 0) E (dat dkL_soak 24 rfl) rfl ?_
    refine r_ior E (dat dkL_soak 25 rfl) ?_
    refine q_zasv E (dat dkL_soak 26 rfl) rfl rfl (by decide) rfl (by omega) hz (sa1_0 (LE_s12 hb)) ?_
    refine r_vreturn E (dat dkL_soak 27 rfl) (by decide) (by decide) ?_
    exact ⟨rfl, by rw [pm1_0, hso2]⟩
  ·
    have hz := nar_1 h7
    have hso2 : r4C x T b = sc T 7 b 1 := by rw [hso, if_pos (i32_lt h31)]
    refine r_iconst (v := 1) E (dat dkL_soak 22 rfl) rfl ?_
    refine r_goto (tgt := 39) E (dat dkL_soak 23 rfl) rfl ?_
    refine r_ior E (dat dkL_soak 25 rfl) ?_
    refine q_zasv E (dat dkL_soak 26 rfl) rfl rfl (by decide) rfl (by omega) hz (sa1_0 (LE_s12 hb)) ?_
    refine r_vreturn E (dat dkL_soak 27 rfl) (by decide) (by decide) ?_
    exact ⟨rfl, by rw [pm1_0, hso2]⟩
