/-! what every state keeps: the water and the leaves -/
theorem sm_cg {f g : Nat → Int32} : ∀ n, (∀ k, k < n → f k = g k) → sm f n = sm g n
  | 0, _ => rfl
  | n + 1, h => by
    show sm f n + f n = sm g n + g n
    rw [sm_cg n (fun k hk => h k (by omega)), h n (by omega)]
theorem sm_upd {w : Nat → Int32} {c : Nat} {v : Int32} : ∀ n, c < n → sm (upd w c v) n = sm w n + (v - w c)
  | 0, h => absurd h (Nat.not_lt_zero c)
  | n + 1, h => by
    show sm (upd w c v) n + upd w c v n = sm w n + w n + (v - w c)
    by_cases h1 : c = n
    · subst h1
      rw [upd_at, sm_cg (g := w) c (fun k hk => upd_ne (by omega))]
      grind
    · rw [upd_ne (fun q => h1 q.symm), sm_upd n (by omega)]
      grind
theorem sm_ad {f g : Nat → Int32} : ∀ n, sm (fun k => f k + g k) n = sm f n + sm g n
  | 0 => rfl
  | n + 1 => by
    show sm (fun k => f k + g k) n + (f n + g n) = sm f n + f n + (sm g n + g n)
    rw [sm_ad n]
    grind
theorem sm_sb {f g : Nat → Int32} : ∀ n, sm (fun k => f k - g k) n = sm f n - sm g n
  | 0 => by
    show (0 : Int32) = 0 - 0
    decide
  | n + 1 => by
    show sm (fun k => f k - g k) n + (f n - g n) = sm f n + f n - (sm g n + g n)
    rw [sm_sb n]
    grind
theorem sm_c {a : Int32} : ∀ n, sm (fun _ => a) n = a * nI n
  | 0 => (Int32.mul_zero).symm
  | n + 1 => by
    show sm (fun _ => a) n + a = a * nI (n + 1)
    rw [sm_c n, ← nI_1 n, Int32.mul_add, Int32.mul_one]
/-- nothing is lost: water, leaves -/
def CNi (x : PP) (T : Nat → Nat → Int32) : Prop := T 0 9 + T 0 10 = sm (T 1) x.1.2.2 + T 0 11 + T 0 12 ∧ T 0 13 = sm (T 2) x.1.2.2 + T 0 14
theorem CN_bl {x : PP} {T : Nat → Nat → Int32} (h : CNi x T) : blI x T = 1 := by
  unfold blI
  rw [if_pos h.1, if_pos h.2]
section
variable {x : PP} {T : Nat → Nat → Int32}
theorem CN_ra {a : Int32} (h : CNi x T) : CNi x (raT T a) := h
theorem CN_op {c : Nat} {a b : Int32} (h : CNi x T) : CNi x (opT T c a b) := h
theorem CN_sh {c : Nat} (h : CNi x T) : CNi x (shT T c) := h
theorem CN_wk {bh : Nat → Int32} {b o : Nat} (h : CNi x T) : CNi x (wkT bh T b o) := h
theorem CN_lv {c : Nat} {a : Int32} (hc : c < x.1.2.2) (h : CNi x T) : CNi x (lvT T c a) := by
  refine ⟨h.1, ?_⟩
  show T 0 13 + a = sm (upd (T 2) c (T 2 c + a)) x.1.2.2 + T 0 14
  rw [sm_upd _ hc, h.2]
  grind
theorem CN_sw {c : Nat} (hc : c < x.1.2.2) (h : CNi x T) : CNi x (swT T c) := by
  refine ⟨h.1, ?_⟩
  show T 0 13 = sm (upd (T 2) c 0) x.1.2.2 + (T 0 14 + T 2 c)
  rw [sm_upd _ hc, h.2]
  grind
theorem thW_sm {nb : Nat → Nat → Option Nat} {n q : Nat} {f : Int32} {w : Nat → Int32} (hlt : ∀ c d o, nb c d = some o → o < n) : ∀ d, sm (thW nb q f w d).1 n = sm w n + (thW nb q f w d).2
  | 0 => (Int32.add_zero _).symm
  | d + 1 => by
    cases h : nb q d with
    | none => rw [thW_n h]; exact thW_sm hlt d
    | some o =>
      rw [thW_s h]
      show sm (upd _ o _) n = _ + (_ + f)
      rw [sm_upd _ (hlt _ _ _ h), thW_sm hlt d]
      grind
theorem CN_th (hx : PIv x) {b q : Nat} (hq : q < x.1.2.2) (h : CNi x T) : CNi x (thT x T b q) := by
  refine ⟨?_, h.2⟩
  show T 0 9 + T 0 10 = sm (upd (thW (nbx x) q (T 1 q / 5) (T 1) 4).1 q ((thW (nbx x) q (T 1 q / 5) (T 1) 4).1 q - (thW (nbx x) q (T 1 q / 5) (T 1) 4).2)) x.1.2.2 + T 0 11 + T 0 12
  rw [sm_upd _ hq, thW_sm (nbx_lt hx), h.1]
  grind
theorem fwS_sm (hx : PIv x) {w lv : Nat → Int32} {c : Nat} (hc : c < x.1.2.2) : sm (fwS x.2.1 x.2.2.1 (nbx x) (w, lv) c).1 x.1.2.2 = sm w x.1.2.2 ∧ sm (fwS x.2.1 x.2.2.1 (nbx x) (w, lv) c).2 x.1.2.2 = sm lv x.1.2.2 := by
  cases h : loF (nbx x) (fun k => x.2.1 k + w k) c 4 with
  | none => rw [fwS_0 (he := x.2.1) (gu := x.2.2.1) (nb := nbx x) (x := (w, lv)) (c := c) h]; exact ⟨rfl, rfl⟩
  | some o =>
    have ho : o < x.1.2.2 := loF_lt (nbx_lt hx c) 4 o h
    by_cases h2 : flO x.2.1 w c (some o) ≤ 0
    · rw [fwS_1 (he := x.2.1) (gu := x.2.2.1) (nb := nbx x) (x := (w, lv)) (c := c) h h2]; exact ⟨rfl, rfl⟩
    · have e : fwS x.2.1 x.2.2.1 (nbx x) (w, lv) c = (upd (upd w c (w c - flO x.2.1 w c (some o))) o (upd w c (w c - flO x.2.1 w c (some o)) o + flO x.2.1 w c (some o)), if 0 < lv c ∧ x.2.2.1 c = 0 then upd (upd lv c (lv c - 1)) o (upd lv c (lv c - 1) o + 1) else lv) := by
        unfold fwS
        rw [h]
        exact if_neg h2
      rw [e]
      generalize flO x.2.1 w c (some o) = f
      constructor
      · show sm (upd (upd w c (w c - f)) o (upd w c (w c - f) o + f)) x.1.2.2 = _
        rw [sm_upd _ ho, sm_upd _ hc]
        grind
      · show sm (if 0 < lv c ∧ x.2.2.1 c = 0 then upd (upd lv c (lv c - 1)) o (upd lv c (lv c - 1) o + 1) else lv) x.1.2.2 = _
        split
        · rw [sm_upd _ ho, sm_upd _ hc]
          grind
        · rfl
theorem fwN_sm (hx : PIv x) {w lv : Nat → Int32} : ∀ i, i ≤ x.1.2.2 → sm (fwN x.2.1 x.2.2.1 (nbx x) (w, lv) i).1 x.1.2.2 = sm w x.1.2.2 ∧ sm (fwN x.2.1 x.2.2.1 (nbx x) (w, lv) i).2 x.1.2.2 = sm lv x.1.2.2
  | 0, _ => ⟨rfl, rfl⟩
  | i + 1, h => by
    have ih := fwN_sm hx (w := w) (lv := lv) i (by omega)
    have e := fwS_sm hx (w := (fwN x.2.1 x.2.2.1 (nbx x) (w, lv) i).1) (lv := (fwN x.2.1 x.2.2.1 (nbx x) (w, lv) i).2) (c := i) (by omega)
    exact ⟨e.1.trans ih.1, e.2.trans ih.2⟩
theorem mw2_sm (n : Nat) : sm (mw2 n T) n = sm (T 1) n + T 0 8 * nI n + sm (oF (T 4) (T 3)) n := by
  rw [sm_cg (g := fun k => (T 1 k + T 0 8) + oF (T 4) (T 3) k) n (fun k hk => ?_), sm_ad, sm_ad, sm_c]
  rw [mw2_at hk]
  unfold oW oF
  split
  · exact (Int32.add_zero _).symm
  · rfl
theorem CN_1 (hx : PIv x) (h : CNi x T) : CNi x (mnX x T 1) := by
  have e := fwN_sm hx (w := mw2 x.1.2.2 T) (lv := T 2) x.1.2.2 (Nat.le_refl _)
  have e1 : sm (mf3 x.1.2.2 x.2.1 x.2.2.1 (nbx x) T).1 x.1.2.2 = sm (mw2 x.1.2.2 T) x.1.2.2 := e.1
  have e2 : sm (mf3 x.1.2.2 x.2.1 x.2.2.1 (nbx x) T).2 x.1.2.2 = sm (T 2) x.1.2.2 := e.2
  have e4 : sm (mw4 x.1.2.2 x.2.1 x.2.2.1 (nbx x) T) x.1.2.2 = sm (mf3 x.1.2.2 x.2.1 x.2.2.1 (nbx x) T).1 x.1.2.2 - sm (dU x.2.2.1 (mf3 x.1.2.2 x.2.1 x.2.2.1 (nbx x) T).2 (mf3 x.1.2.2 x.2.1 x.2.2.1 (nbx x) T).1) x.1.2.2 := by
    rw [← sm_sb]
    exact sm_cg _ (fun k hk => mw4_at hk)
  have h2 := mw2_sm (T := T) x.1.2.2
  obtain ⟨h8, h9⟩ := h
  generalize hA : mf3 x.1.2.2 x.2.1 x.2.2.1 (nbx x) T = A at e1 e2 e4
  constructor
  · show T 0 9 + T 0 8 * nI x.1.2.2 + (T 0 10 + sm (oF (T 4) (T 3)) x.1.2.2) = sm (mw5 x.1.2.2 x.2.1 x.2.2.1 (nbx x) T) x.1.2.2 + (T 0 11 + sm (dU x.2.2.1 (mf3 x.1.2.2 x.2.1 x.2.2.1 (nbx x) T).2 (mf3 x.1.2.2 x.2.1 x.2.2.1 (nbx x) T).1) x.1.2.2) + (if mz T = 0 then T 0 12 + sm (eE (mw4 x.1.2.2 x.2.1 x.2.2.1 (nbx x) T)) x.1.2.2 else T 0 12)
    rw [hA]
    unfold mw5
    by_cases hm : mz T = 0
    · rw [if_pos hm, if_pos hm]
      have e5 : sm (fil (eW (mw4 x.1.2.2 x.2.1 x.2.2.1 (nbx x) T)) (mw4 x.1.2.2 x.2.1 x.2.2.1 (nbx x) T) x.1.2.2) x.1.2.2 = sm (mw4 x.1.2.2 x.2.1 x.2.2.1 (nbx x) T) x.1.2.2 - sm (eE (mw4 x.1.2.2 x.2.1 x.2.2.1 (nbx x) T)) x.1.2.2 := by
        rw [← sm_sb]
        refine sm_cg _ (fun k hk => ?_)
        rw [show fil (eW (mw4 x.1.2.2 x.2.1 x.2.2.1 (nbx x) T)) (mw4 x.1.2.2 x.2.1 x.2.2.1 (nbx x) T) x.1.2.2 k = eW (mw4 x.1.2.2 x.2.1 x.2.2.1 (nbx x) T) k from if_pos hk]
        unfold eW eE
        split
        · exact (Int32.sub_zero _).symm
        · rfl
      rw [e5]
      generalize sm (mw4 x.1.2.2 x.2.1 x.2.2.1 (nbx x) T) x.1.2.2 = W4 at e4
      generalize sm (eE (mw4 x.1.2.2 x.2.1 x.2.2.1 (nbx x) T)) x.1.2.2 = E4
      generalize sm (mw2 x.1.2.2 T) x.1.2.2 = W2 at e1 h2
      generalize sm (dU x.2.2.1 A.2 A.1) x.1.2.2 = D at e4
      generalize sm A.1 x.1.2.2 = W3 at e1 e4
      generalize sm (oF (T 4) (T 3)) x.1.2.2 = F at h2
      generalize T 0 8 * nI x.1.2.2 = R at h2
      subst e4 e1 h2
      clear e2 h9 e5
      grind
    · rw [if_neg hm, if_neg hm]
      generalize sm (mw4 x.1.2.2 x.2.1 x.2.2.1 (nbx x) T) x.1.2.2 = W4 at e4
      generalize sm (mw2 x.1.2.2 T) x.1.2.2 = W2 at e1 h2
      generalize sm (dU x.2.2.1 A.2 A.1) x.1.2.2 = D at e4
      generalize sm A.1 x.1.2.2 = W3 at e1 e4
      generalize sm (oF (T 4) (T 3)) x.1.2.2 = F at h2
      generalize T 0 8 * nI x.1.2.2 = R at h2
      subst e4 e1 h2
      clear e2 h9
      grind
  · show T 0 13 = sm (mf3 x.1.2.2 x.2.1 x.2.2.1 (nbx x) T).2 x.1.2.2 + T 0 14
    rw [hA, e2]
    exact h9
theorem CN_n (hx : PIv x) (h : CNi x T) : ∀ t, CNi x (mnX x T t)
  | 0 => h
  | t + 1 => CN_1 hx (CN_n hx h t)
/-! the law's bounds -/
theorem XJ_ra {a : Int32} (h : XJ x T) (ha : a.toInt ≤ 2) : XJ x (raT T a) := ⟨ha, h.2⟩
theorem XJ_op {c : Nat} {a b : Int32} (h : XJ x T) (ha : a.toInt ≤ 16) : XJ x (opT T c a b) := by
  refine ⟨h.1, fun k hk => ?_, h.2.2⟩
  show (upd (T 3) c a k).toInt ≤ 16
  by_cases h1 : k = c
  · subst h1; rw [upd_at]; exact ha
  · rw [upd_ne h1]; exact h.2.1 k hk
theorem XJ_sh {c : Nat} (h : XJ x T) : XJ x (shT T c) := by
  refine ⟨h.1, fun k hk => ?_, h.2.2⟩
  show (upd (T 3) c 0 k).toInt ≤ 16
  by_cases h1 : k = c
  · subst h1; rw [upd_at]; decide
  · rw [upd_ne h1]; exact h.2.1 k hk
theorem XJ_lv {c : Nat} {a : Int32} (h : XJ x T) : XJ x (lvT T c a) := h
theorem XJ_sw {c : Nat} (h : XJ x T) : XJ x (swT T c) := h
theorem XJ_wk {bh : Nat → Int32} {b o : Nat} (h : XJ x T) : XJ x (wkT bh T b o) := h
theorem XJ_th (hx : PIv x) {L : Int} (hZ : ZI x T L) (h : XJ x T) {b q : Nat} (hq : q < x.1.2.2) (hm : (T 0 7).toInt ≤ 200) : XJ x (thT x T b q) := by
  obtain ⟨h1, h2, h3⟩ := h
  have h0 : ¬ T 1 q < 0 := fun c => by have := h3.1 q hq; have := i_lt.mp c; rw [i_0] at this; omega
  obtain ⟨m, hm1, hmm⟩ := nI_of h0
  have e5 : T 1 q / 5 = nI (m / 5) := by rw [hmm]; exact nI_dv (b := 5) hm1 (by decide) (by decide)
  obtain ⟨k, -, k2, k3, k4⟩ := thW_ok hx (B := 450 * (T 0 7).toInt) (by omega) h3 hq hmm hm1 4 (Nat.le_refl _)
  refine ⟨h1, h2, ?_⟩
  show NN x.1.2.2 (upd (thW (nbx x) q (T 1 q / 5) (T 1) 4).1 q ((thW (nbx x) q (T 1 q / 5) (T 1) 4).1 q - (thW (nbx x) q (T 1 q / 5) (T 1) 4).2)) _
  rw [e5, k2, k3]
  exact k4
theorem XJ_1 (hx : PIv x) (hw : LWi x) {L : Int} (hZ : ZI x T L) (h : XJ x T) (hm : (T 0 7).toInt + 1 ≤ 200) : XJ x (mnX x T 1) := by
  have h2 := mw2_NJ hx hw hZ.1 h.1 h.2.1 h.2.2 (by omega)
  have h5 := mw5_NN hx (by omega) h2
  have e7 := mn_7 (x := x) (T := T) 1 hZ.2.1.1 (by omega)
  refine ⟨h.1, fun c hc => ?_, ?_⟩
  · rw [show mnX x T 1 3 c = oR (T 4) (T 3) c from if_pos hc]
    have := h.2.1 c hc
    unfold oR
    split
    · exact this
    · split
      · decide
      · exact this
  · rw [e7]
    refine NN_mono (B := 450 * (T 0 7).toInt + 450) h5 (by omega)
end
/-- a minute keeps what the law's steps ask -/
theorem mn_1t {x : PP} {T : Nat → Nat → Int32} (t : Nat) : mnX x (mnX x T t) 1 = mnX x T (t + 1) := rfl
def LSt (x : PP) (B : Nat → Nat → Int32) (T : Nat → Nat → Int32) (L : Int) : Prop := ZI x T L ∧ XJ x T ∧ PLi x T ∧ WTi T ∧ RTi B x T ∧ CNi x T
theorem LS_1 {x : PP} {B T : Nat → Nat → Int32} {L : Int} (hx : PIv x) (hw : LWi x) (hL : L < 2147483648) (h : LSt x B T L) (hm : (T 0 7).toInt + 1 ≤ 200) : LSt x B (mnX x T 1) L := by
  obtain ⟨hZ, hX, hpl, hwt, hrt, hcn⟩ := h
  refine ⟨(ZI_mn hx hL hZ (t := 1) (by decide) (by omega)).1, XJ_1 hx hw hZ hX hm, fun b hb => ?_, fun b hb => ?_, fun r c hin h4 => ?_, CN_1 hx hcn⟩
  · exact hpl b hb
  · show fits .boolean (.int (fil (wtF (mw5 x.1.2.2 x.2.1 x.2.2.1 (nbx x) T) (T 5) x.2.2.2.2.2.2.2.1 (T 7)) (T 7) x.2.2.2.2.1 b)) = true
    unfold fil wtF
    have h1 := hwt b hb
    split
    · split
      · rfl
      · exact h1
    · exact h1
  · have hk := clC_lt hx.2.2.1 hin
    have e4 : mnX x T 1 4 (clC x r c) = oT (T 4) (clC x r c) := if_pos hk
    have e3 : mnX x T 1 3 (clC x r c) = oR (T 4) (T 3) (clC x r c) := if_pos hk
    rw [e4] at h4
    rw [e3]
    have h5 := hZ.1.2.2.1 _ hk
    unfold oT at h4
    unfold oR
    by_cases h6 : T 4 (clC x r c) ≤ 0
    · rw [if_pos h6] at h4 ⊢
      exact hrt r c hin h4
    · rw [if_neg h6] at h4 ⊢
      rw [if_neg h4]
      exact hrt r c hin (fun q => h6 (by rw [q]; decide))
theorem LS_n {x : PP} {B T : Nat → Nat → Int32} {L : Int} (hx : PIv x) (hw : LWi x) (hL : L < 2147483648) (h : LSt x B T L) : ∀ t : Nat, (T 0 7).toInt + t ≤ 200 → LSt x B (mnX x T t) L
  | 0, _ => h
  | t + 1, hm => by
    have h0 := h.1.2.1.1
    have e7 := mn_7 (x := x) (T := T) t h0 (by omega)
    exact LS_1 hx hw hL (LS_n hx hw hL h t (by omega)) (by show (mnX x T t 0 7).toInt + 1 ≤ 200; rw [e7]; omega)
/-! the puddles by their least cells -/
theorem least {P : Nat → Prop} : ∀ n, P n → ∃ m, m ≤ n ∧ P m ∧ ∀ k, k < m → ¬ P k := by
  intro n
  induction n using Nat.strongRecOn with
  | ind n ih =>
    intro h
    by_cases h1 : ∃ k, k < n ∧ P k
    · obtain ⟨k, hk, hp⟩ := h1
      obtain ⟨m, a, b, c⟩ := ih k hk hp
      exact ⟨m, by omega, b, c⟩
    · exact ⟨n, Nat.le_refl n, h, fun k hk hp => h1 ⟨k, hk, hp⟩⟩
theorem Rch_t {nb : Nat → Nat → Option Nat} {w : Nat → Int32} {n a b : Nat} {s : Nat} (h : Rch nb w n a s b) : ∀ (t c : Nat), Rch nb w n b t c → Rch nb w n a (s + t) c
  | 0, c, hc => by
    have : c = b := hc
    rw [this]; exact h
  | t + 1, c, hc => by
    obtain ⟨e, d, h1, h2⟩ := hc
    exact ⟨e, d, Rch_t h t e h1, h2⟩
theorem pd_ex {x : PP} (hx : PIv x) (w : Nat → Int32) : ∃ p, pdP (nbx x) w x.1.2.2 p := by
  have hex : ∀ c, ∃ m, (c < x.1.2.2 → 0 < w c → m ≤ c ∧ (0 < w m ∧ ∃ t, Rch (nbx x) w x.1.2.2 m t c) ∧ ∀ k, k < m → ¬ (0 < w k ∧ ∃ t, Rch (nbx x) w x.1.2.2 k t c)) := by
    intro c
    by_cases h : c < x.1.2.2 ∧ 0 < w c
    · obtain ⟨m, a, b, d⟩ := least (P := fun k => 0 < w k ∧ ∃ t, Rch (nbx x) w x.1.2.2 k t c) c ⟨h.2, 0, rfl⟩
      exact ⟨m, fun _ _ => ⟨a, b, d⟩⟩
    · exact ⟨0, fun h1 h2 => absurd ⟨h1, h2⟩ h⟩
  obtain ⟨p, hp⟩ := Classical.axiomOfChoice hex
  refine ⟨p, fun c hc hw => ?_, fun c d o hc hd ho hw hwo => ?_⟩
  · obtain ⟨h1, ⟨h2, t, h3⟩, h4⟩ := hp c hc hw
    refine ⟨h1, h2, ?_, t, h3⟩
    obtain ⟨g1, ⟨g2, s, g3⟩, g4⟩ := hp (p c) (by omega) h2
    have : ¬ p (p c) < p c := fun q => h4 _ q ⟨g2, s + t, Rch_t g3 t c h3⟩
    omega
  · have hol := nbx_lt hx c d o ho
    obtain ⟨h1, ⟨h2, t, h3⟩, h4⟩ := hp c hc hw
    obtain ⟨g1, ⟨g2, s, g3⟩, g4⟩ := hp o hol hwo
    obtain ⟨e, he, hoe⟩ := nbx_sy hx c d o hc hd ho
    have a1 : ¬ p c < p o := fun q => g4 _ q ⟨h2, t + 1, c, d, h3, hc, hd, ho, hwo⟩
    have a2 : ¬ p o < p c := fun q => h4 _ q ⟨g2, s + 1, o, e, g3, hol, he, hoe, hw⟩
    omega
/-! isConsistent says true -/
theorem sQ_or {a b : Nat → Bool} {w : Nat → Int32} : ∀ n, (∀ c, c < n → a c = true → b c = false) → sQ (fun c => a c || b c) w n = sQ a w n + sQ b w n
  | 0, _ => rfl
  | n + 1, h => by
    have ih := sQ_or (a := a) (b := b) (w := w) n (fun c hc => h c (by omega))
    by_cases ha : a n = true
    · have hb := h n (by omega) ha
      rw [sQ_1 (by show (a n || b n) = true; rw [ha]; rfl), sQ_1 ha, sQ_0 (b := b) (by rw [hb]; decide), ih]
      grind
    · by_cases hb : b n = true
      · rw [sQ_1 (by show (a n || b n) = true; rw [hb]; simp), sQ_0 ha, sQ_1 hb, ih]
        grind
      · rw [sQ_0 (by show ¬ (a n || b n) = true; simp [ha, hb]), sQ_0 ha, sQ_0 hb, ih]
theorem pud_sum {x : PP} (hx : PIv x) {w : Nat → Int32} {p : Nat → Nat} {L : Nat → Int32} (hP : pdP (nbx x) w x.1.2.2 p) (hL : pdL w x.1.2.2 p L) {X : PT} (hR : PR w x.1.2.2 L X) : ∀ i, i ≤ x.1.2.2 → sm X.2.2.2.1 (kN (rp L) i) = sQ (fun c => decide (0 < w c ∧ p c < i)) w x.1.2.2
  | 0, _ => by
    rw [sQ_z (fun c _ h => by have := of_decide_eq_true h; omega)]
    rfl
  | i + 1, hi => by
    have h64 := ce_64 hx
    have ih := pud_sum hx hP hL hR i (by omega)
    have hrp := rp_p h64 hP hL (c := i) (by omega)
    have hlq : ∀ c, c < x.1.2.2 → (lq L (nI i) c = true ↔ 0 < w c ∧ p c = i) := fun c hc => by
      rw [lq_1, hL c hc]
      by_cases hw : 0 < w c
      · rw [if_pos hw]
        have hle := (hP.1 c hc hw).1
        exact ⟨fun q => ⟨hw, nI_ij (by omega) (by omega) q⟩, fun q => by rw [q.2]⟩
      · rw [if_neg hw]
        exact ⟨fun q => absurd q.symm (nI_m1 (by omega)), fun q => absurd q.1 hw⟩
    have hsplit : sQ (fun c => decide (0 < w c ∧ p c < i + 1)) w x.1.2.2 = sQ (fun c => decide (0 < w c ∧ p c < i)) w x.1.2.2 + sQ (lq L (nI i)) w x.1.2.2 := by
      rw [← sQ_or]
      · refine sQ_cg (fun c hc => ?_)
        by_cases h1 : lq L (nI i) c = true
        · have h2 := (hlq c hc).mp h1
          rw [h1, Bool.or_true]
          exact decide_eq_true ⟨h2.1, by omega⟩
        · have h2 : ¬ (0 < w c ∧ p c = i) := fun q => h1 ((hlq c hc).mpr q)
          have h3 : lq L (nI i) c = false := by cases hq : lq L (nI i) c with
            | true => exact absurd hq h1
            | false => rfl
          rw [h3, Bool.or_false]
          refine decide_eq_decide.mpr ⟨fun q => ⟨q.1, ?_⟩, fun q => ⟨q.1, by omega⟩⟩
          have : ¬ p c = i := fun e => h2 ⟨q.1, e⟩
          omega
      · intro c hc h1
        have h2 := of_decide_eq_true h1
        cases hq : lq L (nI i) c with
        | true => have := (hlq c hc).mp hq; omega
        | false => rfl
    rw [hsplit]
    by_cases h1 : rp L i = true
    · rw [kN_1 h1, ← ih]
      show sm X.2.2.2.1 (kN (rp L) i) + X.2.2.2.1 (kN (rp L) i) = _
      rw [(hR.2.2 i (by omega) h1).2]
    · rw [kN_0 h1, ih, sQ_z (b := lq L (nI i)) (fun c hc h2 => ?_)]
      · exact (Int32.add_zero _).symm
      · obtain ⟨h3, h4⟩ := (hlq c hc).mp h2
        obtain ⟨g1, g2, g3, -⟩ := hP.1 c hc h3
        rw [h4] at g2 g3
        exact h1 (hrp.mpr ⟨g2, g3⟩)
theorem sQ_sm {b : Nat → Bool} {w : Nat → Int32} : ∀ n, (∀ c, c < n → b c = false → w c = 0) → sQ b w n = sm w n
  | 0, _ => rfl
  | n + 1, h => by
    have ih := sQ_sm n (fun c hc => h c (by omega))
    by_cases h1 : b n = true
    · rw [sQ_1 h1, ih]; rfl
    · rw [sQ_0 h1, ih]
      show sm w n = sm w n + w n
      rw [h n (by omega) (by cases hq : b n with
        | true => exact absurd hq h1
        | false => rfl), Int32.add_zero]
theorem cs_1 {x : PP} {M : Mem} {L : Int} (hx : PIv x) (hZ : ZI x (M 3) L) (hc : CNi x (M 3)) : csI x M = 1 := by
  obtain ⟨p, hP⟩ := pd_ex hx (M 3 1)
  have hL : pdL (M 3 1) x.1.2.2 p (fun c => if 0 < M 3 1 c then nI (p c) else -1) := fun c _ => rfl
  have hR := puT_PR hx hP hL
  unfold csI
  rw [CN_bl hc, if_neg (by decide), hR.1, pud_sum hx hP hL hR _ (Nat.le_refl _), sQ_sm, if_pos rfl]
  intro c hcc h1
  have h2 := of_decide_eq_false h1
  have h3 := hZ.1.2.2.2.2.1 c hcc
  by_cases hw : 0 < M 3 1 c
  · have := (hP.1 c hcc hw).1
    exact absurd ⟨hw, by omega⟩ h2
  · exact Int32.le_antisymm (Int32.not_lt.mp hw) (i_le.mpr (by rw [i_0]; exact h3))
