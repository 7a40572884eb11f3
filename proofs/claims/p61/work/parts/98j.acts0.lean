/-! the law's acts: what they do to the law's city and to the class's state -/
section
variable {B : Nat → Nat → Int32} {x : PP} {T : Nat → Nat → Int32}
theorem LE_ra {v : Int32} : LE B x (sc T 0 8 v) = LE B x (raT T v) := LE_congr (fun k => by
    unfold lO
    rfl) (fun _ _ _ _ _ => rfl) (fun _ _ _ _ _ _ _ => rfl) (fun _ _ _ => rfl)
theorem LE_op {c : Nat} {a b : Int32} : LE B x (sc T 4 c b) = LE B x (opT T c a b) := LE_congr (fun _ => rfl) (fun _ _ _ _ _ => rfl) (fun _ _ _ _ _ _ _ => rfl) (fun _ _ _ => rfl)
theorem LE_sh {c : Nat} : LE B x (sc T 4 c 0) = LE B x (shT T c) := LE_congr (fun _ => rfl) (fun _ _ _ _ _ => rfl) (fun _ _ _ _ _ _ _ => rfl) (fun _ _ _ => rfl)
theorem LE_lv {c : Nat} {a : Int32} : LE B x (sc T 2 c (T 2 c + a)) = LE B x (lvT T c a) := LE_congr (fun _ => rfl) (fun _ _ _ _ _ => rfl) (fun _ _ _ _ _ _ _ => rfl) (fun _ _ _ => rfl)
theorem LE_sw2 {c : Nat} : LE B x (sc T 2 c 0) = LE B x (swT T c) := LE_congr (fun _ => rfl) (fun _ _ _ _ _ => rfl) (fun _ _ _ _ _ _ _ => rfl) (fun _ _ _ => rfl)
theorem LE_wk2 {b o : Nat} (ho : o < 2 ^ 31) : LE B x (r4C x (sc T 5 b (nI o)) b) = LE B x (wkT x.2.2.2.2.2.2.2.1 T b o) := by
  have e5 : (sc T 5 b (nI o) 5 b).toNatClampNeg = o := by
    show (upd (T 5) b (nI o) b).toNatClampNeg = o
    rw [upd_at, nI_clamp ho]
  unfold r4C soC
  rw [e5]
  show LE B x (if x.2.2.2.2.2.2.2.1 b < T 1 o then sc (sc T 5 b (nI o)) 7 b 1 else sc T 5 b (nI o)) = _
  by_cases h : x.2.2.2.2.2.2.2.1 b < T 1 o
  · rw [if_pos h]
    refine LE_congr (fun _ => rfl) (fun t k h8 h13 _ => ?_) (fun _ _ _ _ _ _ _ => rfl) (fun _ _ _ => rfl)
    have e7 : wkT x.2.2.2.2.2.2.2.1 T b o 7 = upd (T 7) b 1 := if_pos h
    unfold lB
    rw [e7]
    rfl
  · rw [if_neg h]
    refine LE_congr (fun _ => rfl) (fun t k h8 h13 _ => ?_) (fun _ _ _ _ _ _ _ => rfl) (fun _ _ _ => rfl)
    have e7 : wkT x.2.2.2.2.2.2.2.1 T b o 7 = T 7 := if_neg h
    unfold lB
    rw [e7]
    rfl
/-- a splash on the way -/
def tWs (T : Nat → Nat → Int32) (w : Nat → Int32) : Nat → Nat → Int32 := sett T 1 w
theorem tWs_0 : tWs T (T 1) = T := by
  funext t
  by_cases h : t = 1
  · subst h; exact sett_s
  · exact sett_n h
theorem tWs_s {w : Nat → Int32} {o : Nat} {v : Int32} : sc (tWs T w) 1 o v = tWs T (upd w o v) := by
  funext t
  unfold sc tWs
  by_cases h : t = 1
  · subst h
    rw [sett_s, sett_s, sett_s]
  · rw [sett_n h, sett_n h, sett_n h]
theorem LE_th {b k : Nat} : LE B x (sc (sc (tWs T (thW (nbx x) k (T 1 k / 5) (T 1) 4).1) 1 k ((thW (nbx x) k (T 1 k / 5) (T 1) 4).1 k - (thW (nbx x) k (T 1 k / 5) (T 1) 4).2)) 6 b (T 6 b + 1)) = LE B x (thT x T b k) := by
  rw [tWs_s]
  exact LE_congr (fun _ => rfl) (fun _ _ _ _ _ => rfl) (fun _ _ _ _ _ _ _ => rfl) (fun _ _ _ => rfl)
/-- what the states keep -/
theorem LS_ra {L : Int} (h : LSt x B T L) {a : Nat} (ha : a < 3) : LSt x B (raT T (nI a)) L := by
  obtain ⟨hZ, hX, hpl, hwt, hrt, hcn⟩ := h
  have e : (nI a).toInt = a := ni_t (by omega)
  exact ⟨ZI_ra hZ (i_le.mpr (by rw [i_0, e]; omega)) (i_le.mpr (by rw [e]; show (a : Int) ≤ 9; omega)), XJ_ra hX (by rw [e]; omega), hpl, hwt, hrt, CN_ra hcn⟩
theorem LS_sh {L : Int} (h : LSt x B T L) {c : Nat} : LSt x B (shT T c) L := by
  obtain ⟨hZ, hX, hpl, hwt, hrt, hcn⟩ := h
  refine ⟨ZI_sh hZ, XJ_sh hX, hpl, hwt, fun r k hin hz => ?_, CN_sh hcn⟩
  by_cases hk : clC x r k = c
  · exact absurd (by rw [hk]; exact upd_at) hz
  · have e4 : shT T c 4 (clC x r k) = T 4 (clC x r k) := upd_ne hk
    have e3 : shT T c 3 (clC x r k) = T 3 (clC x r k) := upd_ne hk
    rw [e4] at hz
    rw [e3]
    exact hrt r k hin hz
theorem LS_lv {L : Int} (h : LSt x B T L) (hL : L + 9 < 2147483648) {c a : Nat} (hc : c < x.1.2.2) (a1 : 1 ≤ a) (a9 : a ≤ 9) : LSt x B (lvT T c (nI a)) (L + 9) := by
  obtain ⟨hZ, hX, hpl, hwt, hrt, hcn⟩ := h
  exact ⟨(ZI_lv hZ hL hc (nI_le1 a1 (by omega)) ((nI_leI (b := 9) (by omega) (by decide)).mpr a9)).1, XJ_lv hX, hpl, hwt, hrt, CN_lv hc hcn⟩
theorem LS_sw {L : Int} (h : LSt x B T L) {c : Nat} (hc : c < x.1.2.2) : LSt x B (swT T c) L := by
  obtain ⟨hZ, hX, hpl, hwt, hrt, hcn⟩ := h
  exact ⟨ZI_sw hZ hc, XJ_sw hX, hpl, hwt, hrt, CN_sw hc hcn⟩
theorem fit_1 : fits .boolean (.int 1) = true := by decide
theorem LS_wk {L : Int} (h : LSt x B T L) {b o : Nat} (ho : o < x.1.2.2) : LSt x B (wkT x.2.2.2.2.2.2.2.1 T b o) L := by
  obtain ⟨hZ, hX, hpl, hwt, hrt, hcn⟩ := h
  refine ⟨ZI_wk hZ, XJ_wk hX, fun b2 hb2 => ?_, fun i hi => ?_, hrt, CN_wk hcn⟩
  · by_cases hb : b2 = b
    · subst hb; exact ⟨o, ho, upd_at⟩
    · obtain ⟨q, hq, e⟩ := hpl b2 hb2
      exact ⟨q, hq, (upd_ne hb).trans e⟩
  · show fits .boolean (.int ((if x.2.2.2.2.2.2.2.1 b < T 1 o then upd (T 7) b 1 else T 7) i)) = true
    by_cases h1 : x.2.2.2.2.2.2.2.1 b < T 1 o
    · rw [if_pos h1]
      by_cases hb : i = b
      · subst hb; rw [upd_at]; exact fit_1
      · rw [upd_ne hb]; exact hwt i hi
    · rw [if_neg h1]; exact hwt i hi
theorem LS_th (hx : PIv x) {L : Int} (h : LSt x B T L) {b k : Nat} (hk : k < x.1.2.2) (hm : (T 0 7).toInt ≤ 200) : LSt x B (thT x T b k) L := by
  obtain ⟨hZ, hX, hpl, hwt, hrt, hcn⟩ := h
  exact ⟨(ZI_th hx hZ hk).1, XJ_th hx hZ hX hk hm, hpl, hwt, hrt, CN_th hx hk hcn⟩
/-- a hydrant opened: the law's rates too -/
def B4 (B : Nat → Nat → Int32) (r c : Nat) (v : Int32) : Nat → Nat → Int32 := sett B (20 + 7 * 4 + r) (upd (B (20 + 7 * 4 + r)) c v)
theorem LE_B4 {r c : Nat} {v : Int32} (hr : r < 7) : sett (LE B x T) (20 + 7 * 4 + r) (upd (LE B x T (20 + 7 * 4 + r)) c v) = LE (B4 B r c v) x T := by
  rw [LE_sB (Or.inl rfl) hr]
  unfold B4
  rw [show LE B x T (20 + 7 * 4 + r) = B (20 + 7 * 4 + r) from funext fun k => LE_raw (Or.inl rfl) hr]
theorem B4_at {r c : Nat} {v : Int32} : B4 B r c v (20 + 7 * 4 + r) c = v := by
  unfold B4
  rw [sett_s, upd_at]
theorem B4_ne {r c t k : Nat} {v : Int32} (h : ¬ (t = 20 + 7 * 4 + r ∧ k = c)) : B4 B r c v t k = B t k := by
  unfold B4
  by_cases ht : t = 20 + 7 * 4 + r
  · subst ht
    rw [sett_s, upd_ne (fun q => h ⟨rfl, q⟩)]
  · rw [sett_n ht]
theorem B4_W {r c : Nat} {v : Int32} (h : WLi B x) : WLi (B4 B r c v) x := fun r2 c2 hr2 hc2 hn => by
  rw [B4_ne (by omega), B4_ne (by omega)]
  exact h r2 c2 hr2 hc2 hn
theorem LS_op {L : Int} (h : LSt x B T L) {c r k a b : Nat} (hin : inC x r k) (hc : clC x r k = c) (a1 : 1 ≤ a) (a16 : a ≤ 16) (b1 : 1 ≤ b) (b60 : b ≤ 60) : LSt x (B4 B r k (nI a)) (opT T c (nI a) (nI b)) L := by
  obtain ⟨hZ, hX, hpl, hwt, hrt, hcn⟩ := h
  refine ⟨ZI_op hZ (nI_le1 a1 (by omega)) ((nI_leI (b := 20) (by omega) (by decide)).mpr (by omega)) (nI_le1 b1 (by omega)) ((nI_leI (b := 60) (by omega) (by decide)).mpr b60), XJ_op hX (by rw [ni_t (by omega)]; omega), hpl, hwt, fun r2 k2 hin2 hz => ?_, CN_op hcn⟩
  by_cases hk : clC x r2 k2 = c
  · obtain ⟨rfl, rfl⟩ := clC_inj hin2 hin (hk.trans hc.symm)
    rw [B4_at]
    show _ = upd (T 3) c (nI a) (clC x r2 k2)
    rw [hk, upd_at]
  · have e4 : opT T c (nI a) (nI b) 4 (clC x r2 k2) = T 4 (clC x r2 k2) := upd_ne hk
    have e3 : opT T c (nI a) (nI b) 3 (clC x r2 k2) = T 3 (clC x r2 k2) := upd_ne hk
    rw [e4] at hz
    rw [e3, B4_ne (fun q => hk ?_)]
    · exact hrt r2 k2 hin2 hz
    · have h1 := q.1
      have h2 : r2 = r := by omega
      have h3 := q.2
      subst h2 h3
      exact hc
end
/-- what the law's loop keeps -/
def LIV (x : PP) (be nm : Nat → Int32) (BP : Nat → Nat → Int32) (q : Nat) (M : Mem) (B T : Nat → Nat → Int32) (L : Int) (o h : Nat) : Prop :=
  CI x be nm BP q M ∧ (M 0 0 10).toNatClampNeg < 20 ∧ M 3 = T ∧ M 19 = LE B x T ∧ WLi B x ∧ LSt x B T L ∧ (M 6 0 1 = nI o ∧ M 6 0 2 = nI h) ∧ o < 8 ∧ h ≤ 8
theorem kp_o {M : Mem} {o h j : Nat} {Z : Nat → Nat → Int32} (h1 : j < 7 ∨ 15 ≤ j) (h2 : j ≠ 6) (h3 : j ≠ 3) : setm (kpM M o h) 3 Z j = M j := by
  unfold kpM
  rw [setm_n h3, setm_n h2, setm_n (by omega)]
theorem MrgKp {M : Mem} {o h : Nat} {Z : Nat → Nat → Int32} : Mrg KC.length [] M (setm (kpM (vw [] M) o h) 3 Z) (setm (kpM M o h) 3 Z) := by
  refine ⟨fun j hj => rfl, fun g hg => ?_⟩
  have hg2 : 19 ≤ g := by
    rcases Nat.lt_or_ge g 19 with h1 | h1
    · exact absurd rfl (hg g h1)
    · exact h1
  exact kp_o (by omega) (by omega) (by omega)
theorem LIV_kp {x : PP} {be nm : Nat → Int32} {BP : Nat → Nat → Int32} {q : Nat} {M : Mem} {B T A : Nat → Nat → Int32} {L : Int} {o h : Nat} (hV : LIV x be nm BP q M B T L o h) {B2 T2 : Nat → Nat → Int32} {L2 : Int} (hA : A = LE B2 x T2) (hB : WLi B2 x) (hS : LSt x B2 T2 L2) : ∃ o2 h2, LIV x be nm BP q (setm (kpM (setm M 19 A) o h) 3 T2) B2 T2 L2 o2 h2 := by
  obtain ⟨⟨c1, c2, c3, c4, c5⟩, h10, -, -, -, -, ⟨g1, g2⟩, g3, g4⟩ := hV
  have hM : ∀ j, j ≠ 19 → (j < 7 ∨ 15 ≤ j) → j ≠ 6 → j ≠ 3 → setm (kpM (setm M 19 A) o h) 3 T2 j = M j := fun j j1 j2 j3 j4 => by rw [kp_o j2 j3 j4, setm_n j1]
  have e0 := hM 0 (by decide) (by decide) (by decide) (by decide)
  have h6 : setm (kpM (setm M 19 A) o h) 3 T2 6 = if h < 8 then vH (M 6) (nI o) (nI (h + 1)) (M 6 1) else vH (M 6) (nI ((o + 1) % 8)) (nI h) (M 6 1) := by
    rw [setm_n (by decide)]
    unfold kpM
    rw [setm_s]
    rfl
  have hc : CI x be nm BP q (setm (kpM (setm M 19 A) o h) 3 T2) := ⟨by rw [e0]; exact c1, c2, by rw [hM q (by omega) (by omega) (by omega) (by omega)]; exact c3, c4, c5⟩
  have h19 : setm (kpM (setm M 19 A) o h) 3 T2 19 = LE B2 x T2 := by rw [kp_o (by decide) (by decide) (by decide), setm_s, hA]
  by_cases h8 : h < 8
  · rw [if_pos h8] at h6
    exact ⟨o, h + 1, hc, by rw [e0]; exact h10, setm_s, h19, hB, hS, ⟨by rw [h6]; rfl, by rw [h6]; rfl⟩, g3, h8⟩
  · rw [if_neg h8] at h6
    exact ⟨(o + 1) % 8, h, hc, by rw [e0]; exact h10, setm_s, h19, hB, hS, ⟨by rw [h6]; rfl, by rw [h6]; rfl⟩, Nat.mod_lt _ (by decide), g4⟩
theorem one_nI {a : Nat} : 1 + nI a = nI (a + 1) := by rw [Int32.add_comm]; exact nI_1 a
theorem md3 {a : Nat} (h : a < 16) : nI a - nI a / 3 * 3 = nI (a % 3) := nI_md (b := 3) (by omega) (by decide) (by decide)
section
variable {p : Program} {l : Launch} {e : Env} {R : Room} {s : State} {m : MethodId} {args : Array Value} {below : List Frame} {meth : Method} {c : Code} {G : GT} {Y : LV} {nL : Nat} {Q : State → Prop} {M : Mem} {k n pc : Nat} {L : List (Option AV)} {S : List AV}
theorem r_cutX {β : Type} (P : β → Prop) {M2 : Mem} {pc2 k2 n2 : Nat} {L2 : β → List (Option AV)} {S2 : List AV} (h : (∀ y, P y → WM p l e R s m args below meth c G Y nL Q M2 k2 n2 pc2 (L2 y) S2) → WM p l e R s m args below meth c G Y nL Q M k n pc L S) (kk : ∀ y, P y → WM p l e R s m args below meth c G Y nL Q M2 k2 n2 pc2 (L2 y) S2) : WM p l e R s m args below meth c G Y nL Q M k n pc L S := h kk
end
