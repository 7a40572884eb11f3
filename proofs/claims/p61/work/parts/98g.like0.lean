/-! the law's comparison: marks by cells, sizes and sums by puddles -/
/-- i rows of marks are bare, and k places of the next -/
def MB (B : Nat → Nat → Int32) (i k : Nat) : Nat → Nat → Int32 := fun t s => if (62 ≤ t ∧ t < 62 + i ∧ s < 7) ∨ (t = 62 + i ∧ s < k) then -1 else B t s
theorem MB_0 {B : Nat → Nat → Int32} : MB B 0 0 = B := by
  funext t s
  exact if_neg (fun q => by omega)
theorem MB_7 {B : Nat → Nat → Int32} {i : Nat} : MB B i 7 = MB B (i + 1) 0 := by
  funext t s
  unfold MB
  by_cases h : (62 ≤ t ∧ t < 62 + i ∧ s < 7) ∨ (t = 62 + i ∧ s < 7)
  · rw [if_pos h, if_pos (by omega)]
  · rw [if_neg h, if_neg (by omega)]
theorem MB_s {B : Nat → Nat → Int32} {x : PP} {T : Nat → Nat → Int32} {i k : Nat} (hi : i < 7) : sett (LE (MB B i k) x T) (20 + 7 * 6 + i) (upd (LE (MB B i k) x T (20 + 7 * 6 + i)) k (-1)) = LE (MB B i (k + 1)) x T := by
  rw [LE_sB (Or.inr rfl) hi]
  refine congrArg (fun Z => LE Z x T) ?_
  funext t s
  by_cases ht : t = 20 + 7 * 6 + i
  · subst ht
    rw [sett_s]
    by_cases hs : s = k
    · subst hs
      rw [upd_at]
      exact (if_pos (by omega)).symm
    · rw [upd_ne hs, LE_raw (Or.inr rfl) hi]
      unfold MB
      by_cases h : (62 ≤ 20 + 7 * 6 + i ∧ 20 + 7 * 6 + i < 62 + i ∧ s < 7) ∨ (20 + 7 * 6 + i = 62 + i ∧ s < k)
      · rw [if_pos h, if_pos (by omega)]
      · rw [if_neg h, if_neg (by omega)]
  · rw [sett_n ht]
    unfold MB
    by_cases h : (62 ≤ t ∧ t < 62 + i ∧ s < 7) ∨ (t = 62 + i ∧ s < k)
    · rw [if_pos h, if_pos (by omega)]
    · rw [if_neg h, if_neg (by omega)]
theorem MB_lo {B : Nat → Nat → Int32} {i k t s : Nat} (h : t < 62) : MB B i k t s = B t s := if_neg (fun q => by omega)
theorem MB_W {B : Nat → Nat → Int32} {x : PP} {i k : Nat} (h : WLi B x) : WLi (MB B i k) x := fun r c hr hc hn => by
  rw [MB_lo (by omega), MB_lo (by omega)]
  exact h r c hr hc hn
theorem MB_R {B : Nat → Nat → Int32} {x : PP} {T : Nat → Nat → Int32} {i k : Nat} (hw : LWi x) (h : RTi B x T) : RTi (MB B i k) x T := fun r c hin hz => by
  have := (LW_r hw hin).1
  rw [MB_lo (by omega)]
  exact h r c hin hz
theorem MB_K {B : Nat → Nat → Int32} {x : PP} (hw : LWi x) : LK (MB B 7 0) x (fun _ => -1) = MB B 7 0 := by
  funext t k
  unfold LK
  by_cases h : (62 ≤ t ∧ t < 69) ∧ inC x (t - 62) k
  · rw [if_pos h]
    have := LW_r hw h.2
    exact (if_pos (Or.inl (by omega))).symm
  · rw [if_neg h]
section
variable {x : PP} {w : Nat → Int32} {p : Nat → Nat} {Lq : Nat → Int32} {i : Nat} {mk m2 : Nat → Int32}
/-- the marks behind i cells -/
def mI (x : PP) (w : Nat → Int32) (p : Nat → Nat) (Lq : Nat → Int32) (i : Nat) (mk : Nat → Int32) : Prop := ∀ c, c < x.1.2.2 → mk c = if 0 < w c ∧ p c < i then nI (kN (rp Lq) (p c)) else -1
theorem mI_0 : mI x w p Lq 0 (fun _ => -1) := fun c _ => (if_neg (fun q => absurd q.2 (Nat.not_lt_zero _))).symm
theorem mI_K (h64 : x.1.2.2 ≤ 64) (hP : pdP (nbx x) w x.1.2.2 p) (h : mI x w p Lq i mk) : MKi x.1.2.2 mk := fun e he => by
  rw [h e he]
  by_cases h1 : 0 < w e ∧ p e < i
  · rw [if_pos h1]
    have h2 := (hP.1 e he h1.1).1
    have h3 := kN_le (rp Lq) (p e)
    exact Or.inr ⟨_, by omega, rfl⟩
  · rw [if_neg h1]
    exact Or.inl rfl
theorem mI_at (h64 : x.1.2.2 ≤ 64) (hP : pdP (nbx x) w x.1.2.2 p) (h : mI x w p Lq i mk) {c : Nat} (hc : c < x.1.2.2) : mk c = -1 ↔ ¬ (0 < w c ∧ p c < i) := by
  rw [h c hc]
  by_cases h1 : 0 < w c ∧ p c < i
  · rw [if_pos h1]
    have h2 := (hP.1 c hc h1.1).1
    have h3 := kN_le (rp Lq) (p c)
    exact ⟨fun q => absurd q (nI_m1 (by omega)), fun q => absurd h1 q⟩
  · rw [if_neg h1]
    exact ⟨fun _ => h1, fun _ => rfl⟩
theorem mI_skip (h64 : x.1.2.2 ≤ 64) (hP : pdP (nbx x) w x.1.2.2 p) (hL : pdL w x.1.2.2 p Lq) (hi : i < x.1.2.2) (h : mI x w p Lq i mk) (h1 : ¬ 0 < w i ∨ ¬ mk i = -1) : mI x w p Lq (i + 1) mk ∧ kN (rp Lq) (i + 1) = kN (rp Lq) i := by
  have hn : ¬ (0 < w i ∧ p i = i) := by
    rintro ⟨h2, h3⟩
    rcases h1 with h1 | h1
    · exact h1 h2
    · exact h1 ((mI_at h64 hP h hi).mpr (fun q => by omega))
  refine ⟨fun c hc => ?_, kN_0 (fun q => hn ((rp_p h64 hP hL hi).mp q))⟩
  rw [h c hc]
  by_cases h2 : 0 < w c ∧ p c < i
  · rw [if_pos h2, if_pos ⟨h2.1, by omega⟩]
  · rw [if_neg h2, if_neg (fun q => ?_)]
    have h3 : p c = i := by
      have := q.2
      by_cases h4 : p c < i
      · exact absurd ⟨q.1, h4⟩ h2
      · omega
    have h5 := hP.1 c hc q.1
    rw [h3] at h5
    exact hn ⟨h5.2.1, h5.2.2.1⟩
theorem mI_fill (h64 : x.1.2.2 ≤ 64) (hlt : ∀ c d o, nbx x c d = some o → o < x.1.2.2) (hP : pdP (nbx x) w x.1.2.2 p) (hL : pdL w x.1.2.2 p Lq) (hi : i < x.1.2.2) (h : mI x w p Lq i mk) (hw : 0 < w i) (hm : mk i = -1) (hF : FSp x w p i (nI (kN (rp Lq) i)) mk m2) : mI x w p Lq (i + 1) m2 ∧ kN (rp Lq) (i + 1) = kN (rp Lq) i + 1 := by
  obtain ⟨s1, s2, s3, s4, -⟩ := hF
  have hpi : p i = i := by
    have h2 := (hP.1 i hi hw).1
    have h3 := (mI_at h64 hP h hi).mp hm
    by_cases h4 : p i < i
    · exact absurd ⟨hw, h4⟩ h3
    · omega
  have hmk : ∀ c, c < x.1.2.2 → p c = i → mk c = -1 := fun c hc hp => (mI_at h64 hP h hc).mpr (fun q => by omega)
  have hreach : ∀ t c, c < x.1.2.2 → Rch (nbx x) w x.1.2.2 i t c → 0 < w c ∧ p c = i ∧ ¬ m2 c = -1 := by
    intro t
    induction t with
    | zero =>
      intro c hc hr
      have : c = i := hr
      subst this
      exact ⟨hw, hpi, s3 hw⟩
    | succ t ih =>
      rintro c hc ⟨b, d, hb, hbn, hd, hbd, hwc⟩
      obtain ⟨h5, h6, h7⟩ := ih b hbn hb
      refine ⟨hwc, ?_, s4 b hbn (hmk b hbn h6) h7 d c hd hbd hwc⟩
      rw [hP.2 b d c hbn hd hbd h5 hwc, h6]
  refine ⟨fun c hc => ?_, kN_1 ((rp_p h64 hP hL hi).mpr ⟨hw, hpi⟩)⟩
  by_cases h2 : 0 < w c ∧ p c < i
  · rw [if_pos ⟨h2.1, by omega⟩, s1 c hc (fun q => (mI_at h64 hP h hc).mp q h2), h c hc, if_pos h2]
  · have h3 : mk c = -1 := (mI_at h64 hP h hc).mpr h2
    by_cases h4 : 0 < w c ∧ p c < i + 1
    · have h5 : p c = i := by
        have := h4.2
        by_cases h6 : p c < i
        · exact absurd ⟨h4.1, h6⟩ h2
        · omega
      rw [if_pos h4, h5]
      obtain ⟨-, -, -, t, ht⟩ := hP.1 c hc h4.1
      rw [h5] at ht
      exact (s2 c hc h3 (hreach t c hc ht).2.2).1
    · rw [if_neg h4]
      by_cases h6 : m2 c = -1
      · exact h6
      · obtain ⟨-, h7, h8⟩ := s2 c hc h3 h6
        exact absurd ⟨h7, by omega⟩ h4
/-- the puddle's cells -/
def bqL (w : Nat → Int32) (p : Nat → Nat) (Lq : Nat → Int32) (j c : Nat) : Bool := decide (0 < w c ∧ kN (rp Lq) (p c) = j)
def szA (w : Nat → Int32) (p : Nat → Nat) (Lq : Nat → Int32) (i j : Nat) : Int32 := nI (kN (bqL w p Lq j) i)
def smA (w : Nat → Int32) (p : Nat → Nat) (Lq : Nat → Int32) (i j : Nat) : Int32 := sQ (bqL w p Lq j) w i
theorem szA_0 : szA w p Lq 0 = fun _ => 0 := by
  funext j
  show nI 0 = 0
  decide
theorem smA_0 : smA w p Lq 0 = fun _ => 0 := rfl
theorem szA_s {j : Nat} (hw : 0 < w i) (hj : kN (rp Lq) (p i) = j) : upd (szA w p Lq i) j (szA w p Lq i j + 1) = szA w p Lq (i + 1) := by
  funext k
  unfold szA
  by_cases hk : k = j
  · subst hk
    rw [upd_at, nI_1, kN_1 (decide_eq_true ⟨hw, hj⟩)]
  · rw [upd_ne hk, kN_0 (fun q => hk ((of_decide_eq_true q).2.symm.trans hj))]
theorem smA_s {j : Nat} (hw : 0 < w i) (hj : kN (rp Lq) (p i) = j) : upd (smA w p Lq i) j (smA w p Lq i j + w i) = smA w p Lq (i + 1) := by
  funext k
  unfold smA
  by_cases hk : k = j
  · subst hk
    rw [upd_at, sQ_1 (decide_eq_true ⟨hw, hj⟩)]
  · rw [upd_ne hk, sQ_0 (fun q => hk ((of_decide_eq_true q).2.symm.trans hj))]
theorem szA_n (hw : ¬ 0 < w i) : szA w p Lq (i + 1) = szA w p Lq i := by
  funext k
  unfold szA
  rw [kN_0 (fun q => hw (of_decide_eq_true q).1)]
theorem smA_n (hw : ¬ 0 < w i) : smA w p Lq (i + 1) = smA w p Lq i := by
  funext k
  unfold smA
  rw [sQ_0 (fun q => hw (of_decide_eq_true q).1)]
theorem bq_lq (h64 : x.1.2.2 ≤ 64) (hP : pdP (nbx x) w x.1.2.2 p) (hL : pdL w x.1.2.2 p Lq) {m : Nat} (hm : m < x.1.2.2) (hr : rp Lq m = true) {c : Nat} (hc : c < x.1.2.2) : bqL w p Lq (kN (rp Lq) m) c = lq Lq (nI m) c := by
  have h : (0 < w c ∧ kN (rp Lq) (p c) = kN (rp Lq) m) ↔ Lq c = nI m := by
    rw [hL c hc]
    by_cases h1 : 0 < w c
    · obtain ⟨h2, h3, h4, -⟩ := hP.1 c hc h1
      rw [if_pos h1, nI_eq (by omega) (by omega)]
      exact ⟨fun q => kN_inj ((rp_p h64 hP hL (by omega)).mpr ⟨h3, h4⟩) hr q.2, fun q => ⟨h1, by rw [q]⟩⟩
    · rw [if_neg h1]
      exact ⟨fun q => absurd q.1 h1, fun q => absurd q.symm (nI_m1 (by omega))⟩
  unfold bqL lq
  exact decide_eq_decide.mpr h
theorem szA_z (h64 : x.1.2.2 ≤ 64) (hP : pdP (nbx x) w x.1.2.2 p) (hL : pdL w x.1.2.2 p Lq) {m : Nat} (hm : m < x.1.2.2) (hr : rp Lq m = true) : szA w p Lq x.1.2.2 (kN (rp Lq) m) = nI (kN (lq Lq (nI m)) x.1.2.2) := congrArg nI (kN_cg (fun c hc => bq_lq h64 hP hL hm hr hc))
theorem smA_z (h64 : x.1.2.2 ≤ 64) (hP : pdP (nbx x) w x.1.2.2 p) (hL : pdL w x.1.2.2 p Lq) {m : Nat} (hm : m < x.1.2.2) (hr : rp Lq m = true) : smA w p Lq x.1.2.2 (kN (rp Lq) m) = sQ (lq Lq (nI m)) w x.1.2.2 := sQ_cg (fun c hc => bq_lq h64 hP hL hm hr hc)
end
/-- an array of its own -/
def c40 (f : Nat → Int32) : Nat → Nat → Int32 := fun t => if t = 0 then f else fun _ => 0
theorem c40_0 : c40 (fun _ => 0) = fun _ _ => 0 := by
  funext t
  unfold c40
  split <;> rfl
theorem c40_s {f g : Nat → Int32} : sett (c40 f) 0 g = c40 g := by
  funext t
  unfold sett c40
  by_cases h : t = 0
  · rw [if_pos h, if_pos h]
  · rw [if_neg h, if_neg h, if_neg h]
/-- the comparison's modules -/
def XM (M : Mem) (Z : Nat → Nat → Int32) (f g : Nat → Int32) : Mem := setm (setm (setm M 15 Z) 20 (c40 f)) 21 (c40 g)
section
variable {M : Mem} {Z Z2 : Nat → Nat → Int32} {f g h : Nat → Int32}
theorem XM_o {j : Nat} (h1 : j ≠ 15) (h2 : j ≠ 20) (h3 : j ≠ 21) : XM M Z f g j = M j := by
  unfold XM
  rw [setm_n h3, setm_n h2, setm_n h1]
theorem setm_ss {j : Nat} : setm (setm M j Z) j Z2 = setm M j Z2 := by
  funext t
  by_cases ht : t = j
  · subst ht; rw [setm_s, setm_s]
  · rw [setm_n ht, setm_n ht, setm_n ht]
theorem setm_cm {i j : Nat} (h : i ≠ j) : setm (setm M i Z) j Z2 = setm (setm M j Z2) i Z := by
  funext t
  by_cases ht : t = j
  · subst ht; rw [setm_s, setm_n (fun q => h q.symm), setm_s]
  · rw [setm_n ht]
    by_cases h2 : t = i
    · subst h2; rw [setm_s, setm_s]
    · rw [setm_n h2, setm_n h2, setm_n ht]
theorem XM_15 : setm (XM M Z f g) 15 Z2 = XM M Z2 f g := by
  unfold XM
  rw [setm_cm (by decide), setm_cm (i := 20) (j := 15) (by decide), setm_ss]
theorem XM_20 : XM M Z f g 20 0 = f := rfl
theorem XM_21 : XM M Z f g 21 0 = g := rfl
theorem XM_s20 : setm (XM M Z f g) 20 (sett (XM M Z f g 20) 0 h) = XM M Z h g := by
  show setm (XM M Z f g) 20 (sett (c40 f) 0 h) = _
  rw [c40_s]
  unfold XM
  rw [setm_cm (by decide), setm_ss]
theorem XM_s21 : setm (XM M Z f g) 21 (sett (XM M Z f g 21) 0 h) = XM M Z f h := by
  show setm (XM M Z f g) 21 (sett (c40 g) 0 h) = _
  rw [c40_s]
  unfold XM
  rw [setm_ss]
theorem XM_i : setm (setm M 20 (fun _ _ => 0)) 21 (fun _ _ => 0) = XM M (M 15) (fun _ => 0) (fun _ => 0) := by
  unfold XM
  rw [c40_0]
  congr 2
  funext t
  by_cases ht : t = 15
  · subst ht; rw [setm_s]
  · rw [setm_n ht]
theorem CI_X {x : PP} {be nm : Nat → Int32} {BP : Nat → Nat → Int32} {q : Nat} (hC : CI x be nm BP q M) : CI x be nm BP q (XM M Z f g) := by
  obtain ⟨h1, h2, h3, h4, h5⟩ := hC
  refine ⟨h1, h2, ?_, h4, h5⟩
  rw [XM_o (by omega) (by omega) (by omega)]
  exact h3
theorem CI_19 {x : PP} {be nm : Nat → Int32} {BP : Nat → Nat → Int32} {q : Nat} (hC : CI x be nm BP q M) : CI x be nm BP q (setm M 19 Z) := by
  obtain ⟨h1, h2, h3, h4, h5⟩ := hC
  refine ⟨h1, h2, ?_, h4, h5⟩
  rw [setm_n (by omega)]
  exact h3
end
/-- the cell's number as the law counts it -/
theorem cl_I {x : PP} {r c : Nat} : (nI (r + 1) - 1) * nI x.1.2.1 + nI (c + 1) - 1 = nI (r * x.1.2.1 + c) := by
  have e1 : nI (r + 1) = nI r + 1 := (nI_1 r).symm
  have e2 : nI (c + 1) = nI c + 1 := (nI_1 c).symm
  rw [e1, e2, ← nI_add, ← pk_mul]
  grind
