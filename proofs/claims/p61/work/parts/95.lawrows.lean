/-! rows for the law's arrays; its directions -/
theorem LE_v12 {B : Nat → Nat → Int32} {x : PP} {T : Nat → Nat → Int32} : LE B x T 0 12 = nI x.1.1 := rfl
theorem LE_v13 {B : Nat → Nat → Int32} {x : PP} {T : Nat → Nat → Int32} : LE B x T 0 13 = nI x.1.2.1 := rfl
theorem LE_v14 {B : Nat → Nat → Int32} {x : PP} {T : Nat → Nat → Int32} : LE B x T 0 14 = nI x.2.2.2.2.1 := rfl
theorem LE_v15 {B : Nat → Nat → Int32} {x : PP} {T : Nat → Nat → Int32} : LE B x T 0 15 = T 0 8 := rfl
theorem LE_v16 {B : Nat → Nat → Int32} {x : PP} {T : Nat → Nat → Int32} : LE B x T 0 16 = T 0 7 := rfl
theorem LE_v17 {B : Nat → Nat → Int32} {x : PP} {T : Nat → Nat → Int32} : LE B x T 0 17 = T 0 9 := rfl
theorem LE_v18 {B : Nat → Nat → Int32} {x : PP} {T : Nat → Nat → Int32} : LE B x T 0 18 = T 0 10 := rfl
theorem LE_v19 {B : Nat → Nat → Int32} {x : PP} {T : Nat → Nat → Int32} : LE B x T 0 19 = T 0 11 := rfl
theorem LE_v20 {B : Nat → Nat → Int32} {x : PP} {T : Nat → Nat → Int32} : LE B x T 0 20 = T 0 12 := rfl
theorem gh1_0 {A0 : Nat → Nat → Int32} {M0 : Mem} {t k : Nat} {v : Int32} (h : A0 t k = v) : m1 A0 M0 0 t k = v := h
theorem lae0 : ∀ a, a < 7 → ∀ r, r < 7 → ae 9 (20 + 7 * a + r) = some (0, 7) := by decide +kernel
theorem lae {a r : Nat} (ha : a < 7) (hr : r < 7) : ae 9 (20 + 7 * a + r) = some (0, 7) := lae0 a ha r hr
theorem lok0 : ∀ a, a < 7 → ∀ r, r < 7 → (KT 9).contains (20 + 7 * a + r) = true := by decide +kernel
theorem lok {Y : LV} {j a r : Nat} (hj : j < Y.1.length) (hk : kdY Y j = 9) (ha : a < 7) (hr : r < 7) : okb Y j (20 + 7 * a + r) = true := by
  unfold okb
  rw [hk, lok0 a ha r hr, decide_eq_true hj]
  rfl
section RL1
variable {p : Program} {l : Launch} {e : Env} {R : Room} {s : State} {m : MethodId} {args : Array Value} {below : List Frame} {meth : Method} {c : Code} {G : GT} {Y : LV} {nL : Nat} {Q : State → Prop} {M : Mem} {k n pc : Nat} {L : List (Option AV)} {S : List AV} {cc : ByteArray} {own : String} {ret : Option FieldType}
theorem lao0 : ∀ a, a < 7 → ae 9 (a + 1) = some (7 + a, 7) := by decide +kernel
/-- a row of one of the law's seven -/
theorem q_laa (E : EN p s m args meth c G Y cc own nL ret) {j t a i : Nat} {x : Int32} (hd : decode cc pc = .ok (.aaload, 1)) (hκ : kdY Y j = 9) (hj : okb Y j t = true) (ht : t = a + 1) (ha : a < 7) (hx : x = nI i) (hi : i < 7) (kk : WM p l e R s m args below meth c G Y nL Q M k n (pc + 1) L (rv j (20 + 7 * a + i) :: S)) : WM p l e R s m args below meth c G Y nL Q M k n pc L (iv x :: rv j t :: S) := by
  intro H locs ls hP hS hl
  obtain ⟨hx0, hb, hml, hown, hts, hr, hlk, ⟨hnw, hK, hX⟩, hD⟩ := E
  obtain ⟨q0, hq, hw⟩ := wl_at (G := G) (M := M) (okb_ok hj)
  subst ht
  rw [ar_ce (q := (7 + a, 7)) (by rw [hκ]; exact lao0 a ha)] at hw
  have hin := vp_nI hx hi (N := 7) (by decide)
  have hlt : x.toNatClampNeg < 7 := Nat.not_le.mp fun q => hin (Or.inr q)
  have hcl := cl_nI hx hi (N := 7) (by decide)
  rcases (show a = 0 ∨ a = 1 ∨ a = 2 ∨ a = 3 ∨ a = 4 ∨ a = 5 ∨ a = 6 by omega) with rfl | rfl | rfl | rfl | rfl | rfl | rfl
  · exact W.aald (v := .ref (Y.2.2 j (20 + 7 * 0 + i))) (ty := .array .int) hx0 hb (hP q0 _ hw) ((hK.2 7 _ rfl).1 7 (fun z => va_rf (rr Y 7 j z (M j 1 z)))) rfl (fun q => by cases q) (by show ¬ (x < 0 ∨ (arrV _ _ _).slots.size ≤ _); rw [arrV_size]; exact hin) (by show (arrV _ _ _).slots[_]? = _; rw [arrV_read _ _ hlt, hcl]; rfl) rfl rfl hd (kk H locs ls hP hS hl)
  · exact W.aald (v := .ref (Y.2.2 j (20 + 7 * 1 + i))) (ty := .array .int) hx0 hb (hP q0 _ hw) ((hK.2 8 _ rfl).1 7 (fun z => va_rf (rr Y 8 j z (M j 2 z)))) rfl (fun q => by cases q) (by show ¬ (x < 0 ∨ (arrV _ _ _).slots.size ≤ _); rw [arrV_size]; exact hin) (by show (arrV _ _ _).slots[_]? = _; rw [arrV_read _ _ hlt, hcl]; rfl) rfl rfl hd (kk H locs ls hP hS hl)
  · exact W.aald (v := .ref (Y.2.2 j (20 + 7 * 2 + i))) (ty := .array .int) hx0 hb (hP q0 _ hw) ((hK.2 9 _ rfl).1 7 (fun z => va_rf (rr Y 9 j z (M j 3 z)))) rfl (fun q => by cases q) (by show ¬ (x < 0 ∨ (arrV _ _ _).slots.size ≤ _); rw [arrV_size]; exact hin) (by show (arrV _ _ _).slots[_]? = _; rw [arrV_read _ _ hlt, hcl]; rfl) rfl rfl hd (kk H locs ls hP hS hl)
  · exact W.aald (v := .ref (Y.2.2 j (20 + 7 * 3 + i))) (ty := .array .int) hx0 hb (hP q0 _ hw) ((hK.2 10 _ rfl).1 7 (fun z => va_rf (rr Y 10 j z (M j 4 z)))) rfl (fun q => by cases q) (by show ¬ (x < 0 ∨ (arrV _ _ _).slots.size ≤ _); rw [arrV_size]; exact hin) (by show (arrV _ _ _).slots[_]? = _; rw [arrV_read _ _ hlt, hcl]; rfl) rfl rfl hd (kk H locs ls hP hS hl)
  · exact W.aald (v := .ref (Y.2.2 j (20 + 7 * 4 + i))) (ty := .array .int) hx0 hb (hP q0 _ hw) ((hK.2 11 _ rfl).1 7 (fun z => va_rf (rr Y 11 j z (M j 5 z)))) rfl (fun q => by cases q) (by show ¬ (x < 0 ∨ (arrV _ _ _).slots.size ≤ _); rw [arrV_size]; exact hin) (by show (arrV _ _ _).slots[_]? = _; rw [arrV_read _ _ hlt, hcl]; rfl) rfl rfl hd (kk H locs ls hP hS hl)
  · exact W.aald (v := .ref (Y.2.2 j (20 + 7 * 5 + i))) (ty := .array .int) hx0 hb (hP q0 _ hw) ((hK.2 12 _ rfl).1 7 (fun z => va_rf (rr Y 12 j z (M j 6 z)))) rfl (fun q => by cases q) (by show ¬ (x < 0 ∨ (arrV _ _ _).slots.size ≤ _); rw [arrV_size]; exact hin) (by show (arrV _ _ _).slots[_]? = _; rw [arrV_read _ _ hlt, hcl]; rfl) rfl rfl hd (kk H locs ls hP hS hl)
  · exact W.aald (v := .ref (Y.2.2 j (20 + 7 * 6 + i))) (ty := .array .int) hx0 hb (hP q0 _ hw) ((hK.2 13 _ rfl).1 7 (fun z => va_rf (rr Y 13 j z (M j 7 z)))) rfl (fun q => by cases q) (by show ¬ (x < 0 ∨ (arrV _ _ _).slots.size ≤ _); rw [arrV_size]; exact hin) (by show (arrV _ _ _).slots[_]? = _; rw [arrV_read _ _ hlt, hcl]; rfl) rfl rfl hd (kk H locs ls hP hS hl)
theorem q_ialv (E : EN p s m args meth c G Y cc own nL ret) {j t N i : Nat} {x v : Int32} (hd : decode cc pc = .ok (.iaload, 1)) (ha : ae (kdY Y j) t = some (0, N)) (hj : okb Y j t = true) (hN : N ≤ 4096) (hx : x = nI i) (hi : i < N) (hv : M j t i = v) (kk : WM p l e R s m args below meth c G Y nL Q M k n (pc + 1) L (iv v :: S)) : WM p l e R s m args below meth c G Y nL Q M k n pc L (iv x :: rv j t :: S) := r_iald E hd ha hj (vp_nI hx hi hN) (by rw [cl_nI hx hi hN, hv]; exact kk)
theorem q_zalv (E : EN p s m args meth c G Y cc own nL ret) {j t N i : Nat} {x v : Int32} (hd : decode cc pc = .ok (.baload, 1)) (ha : ae (kdY Y j) t = some (2, N)) (hj : okb Y j t = true) (hN : N ≤ 4096) (hx : x = nI i) (hi : i < N) (hv : M j t i = v) (kk : WM p l e R s m args below meth c G Y nL Q M k n (pc + 1) L (iv v :: S)) : WM p l e R s m args below meth c G Y nL Q M k n pc L (iv x :: rv j t :: S) := r_zald E hd ha hj (vp_nI hx hi hN) (by rw [cl_nI hx hi hN, hv]; exact kk)
theorem q_iasv (E : EN p s m args meth c G Y cc own nL ret) {j t N i : Nat} {x y : Int32} {M2 : Mem} (hd : decode cc pc = .ok (.iastore, 1)) (ha : ae (kdY Y j) t = some (0, N)) (hj : okb Y j t = true) (hN : N ≤ 4096) (hx : x = nI i) (hi : i < N) (hs : setm M j (sett (M j) t (upd (M j t) i y)) = M2) (kk : WM p l e R s m args below meth c G Y nL Q M2 k n (pc + 1) L S) : WM p l e R s m args below meth c G Y nL Q M k n pc L (iv y :: iv x :: rv j t :: S) := r_iast E hd ha hj (vp_nI hx hi hN) (by rw [cl_nI hx hi hN, hs]; exact kk)
theorem q_zasv (E : EN p s m args meth c G Y cc own nL ret) {j t N i : Nat} {x y z : Int32} {M2 : Mem} (hd : decode cc pc = .ok (.bastore, 1)) (ha : ae (kdY Y j) t = some (2, N)) (hj : okb Y j t = true) (hN : N ≤ 4096) (hx : x = nI i) (hi : i < N) (hz : vp_nar .boolean y = z) (hs : setm M j (sett (M j) t (upd (M j t) i z)) = M2) (kk : WM p l e R s m args below meth c G Y nL Q M2 k n (pc + 1) L S) : WM p l e R s m args below meth c G Y nL Q M k n pc L (iv y :: iv x :: rv j t :: S) := r_zast E hd ha hj (vp_nI hx hi hN) hz (by rw [cl_nI hx hi hN, hs]; exact kk)
end RL1
/-- one step from a place: 0 up, 1 right, 2 down, 3 left -/
def dR (r w : Nat) : Nat := if w = 0 then r - 1 else if w = 2 then r + 1 else r
def dC (c w : Nat) : Nat := if w = 1 then c + 1 else if w = 3 then c - 1 else c
def dnI (w : Nat) : Int32 := if w = 0 then -1 else if w = 2 then 1 else 0
def rtI (w : Nat) : Int32 := if w = 1 then 1 else if w = 3 then -1 else 0
theorem nI_d1 {r : Nat} (h : 1 ≤ r) : nI r + -1 = nI (r - 1) := by
  obtain ⟨q, rfl⟩ : ∃ q, r = q + 1 := ⟨r - 1, by omega⟩
  rw [Nat.add_sub_cancel, ← nI_1 q, Int32.add_assoc, show (1 : Int32) + -1 = 0 from by decide, Int32.add_zero]
theorem dn_r {r w : Nat} (h : 1 ≤ r) : nI r + dnI w = nI (dR r w) := by
  unfold dnI dR
  by_cases h0 : w = 0
  · rw [if_pos h0, if_pos h0]; exact nI_d1 h
  · rw [if_neg h0, if_neg h0]
    by_cases h2 : w = 2
    · rw [if_pos h2, if_pos h2]; exact nI_1 r
    · rw [if_neg h2, if_neg h2]; exact Int32.add_zero _
theorem rt_c {c w : Nat} (h : 1 ≤ c) : nI c + rtI w = nI (dC c w) := by
  unfold rtI dC
  by_cases h0 : w = 1
  · rw [if_pos h0, if_pos h0]; exact nI_1 c
  · rw [if_neg h0, if_neg h0]
    by_cases h2 : w = 3
    · rw [if_pos h2, if_pos h2]; exact nI_d1 h
    · rw [if_neg h2, if_neg h2]; exact Int32.add_zero _
theorem dR_b {r w : Nat} : dR r w ≤ r + 1 := by unfold dR; split <;> (try split) <;> omega
theorem dC_b {c w : Nat} : dC c w ≤ c + 1 := by unfold dC; split <;> (try split) <;> omega
/-- the plans that the law makes -/
def LWi (x : PP) : Prop := (2 ≤ x.1.1 ∧ x.1.1 ≤ 5) ∧ (2 ≤ x.1.2.1 ∧ x.1.2.1 ≤ 5) ∧ x.2.2.2.2.1 ≤ 2
theorem LW_r {x : PP} {r c : Nat} (hw : LWi x) (h : inC x r c) : (1 ≤ r ∧ r ≤ 5) ∧ 1 ≤ c ∧ c ≤ 5 := by
  obtain ⟨⟨_, _⟩, ⟨_, _⟩, _⟩ := hw
  obtain ⟨⟨_, _⟩, _, _⟩ := h
  omega
theorem LW_PV {x : PP} (hw : LWi x) : PVi x := ⟨hw.1.1, hw.2.1.1⟩
/-- the wall: where no cell is, its height and no water -/
def WLi (B : Nat → Nat → Int32) (x : PP) : Prop := ∀ r c, r < 7 → c < 7 → ¬ inC x r c → B (20 + 7 * 0 + r) c = 100000 ∧ B (20 + 7 * 1 + r) c = 0
theorem nbx_d {x : PP} (hx : PIv x) {r c w : Nat} (hin : inC x r c) (hw : w < 4) : nbx x (clC x r c) w = if inC x (dR r w) (dC c w) then some (clC x (dR r w) (dC c w)) else none := by
  obtain ⟨⟨h1, h2⟩, h3, h4⟩ := hin
  unfold nbx
  obtain ⟨q, rfl⟩ : ∃ q, r = q + 1 := ⟨r - 1, by omega⟩
  obtain ⟨d, rfl⟩ : ∃ d, c = d + 1 := ⟨c - 1, by omega⟩
  rw [show clC x (q + 1) (d + 1) = q * x.1.2.1 + d from rfl, gnb_rc (by omega) (by omega)]
  rcases (show w = 0 ∨ w = 1 ∨ w = 2 ∨ w = 3 by omega) with rfl | rfl | rfl | rfl
  · show (if 0 < q then some (q * x.1.2.1 + d - x.1.2.1) else none) = if inC x q (d + 1) then some (clC x q (d + 1)) else none
    by_cases h : 0 < q
    · rw [if_pos h, if_pos ⟨⟨by omega, by omega⟩, by omega, by omega⟩]
      obtain ⟨z, rfl⟩ : ∃ z, q = z + 1 := ⟨q - 1, by omega⟩
      rw [show clC x (z + 1) (d + 1) = z * x.1.2.1 + d from rfl, Nat.succ_mul]
      congr 1
      omega
    · rw [if_neg h, if_neg (fun y => h y.1.1)]
  · show (if d + 1 < x.1.2.1 then some (q * x.1.2.1 + d + 1) else none) = if inC x (q + 1) (d + 1 + 1) then some (clC x (q + 1) (d + 1 + 1)) else none
    by_cases h : d + 1 < x.1.2.1
    · rw [if_pos h, if_pos ⟨⟨by omega, by omega⟩, by omega, by omega⟩]
      rfl
    · rw [if_neg h, if_neg (fun y => h y.2.2)]
  · show (if q + 1 < x.1.1 then some (q * x.1.2.1 + d + x.1.2.1) else none) = if inC x (q + 1 + 1) (d + 1) then some (clC x (q + 1 + 1) (d + 1)) else none
    by_cases h : q + 1 < x.1.1
    · rw [if_pos h, if_pos ⟨⟨by omega, by omega⟩, by omega, by omega⟩]
      rw [show clC x (q + 1 + 1) (d + 1) = (q + 1) * x.1.2.1 + d from rfl, Nat.succ_mul]
      congr 1
      omega
    · rw [if_neg h, if_neg (fun y => h y.1.2)]
  · show (if 0 < d then some (q * x.1.2.1 + d - 1) else none) = if inC x (q + 1) d then some (clC x (q + 1) d) else none
    by_cases h : 0 < d
    · rw [if_pos h, if_pos ⟨⟨by omega, by omega⟩, by omega, by omega⟩]
      obtain ⟨z, rfl⟩ : ∃ z, d = z + 1 := ⟨d - 1, by omega⟩
      rfl
    · rw [if_neg h, if_neg (fun y => h y.2.1)]
/-- the lowest of the first i + 1 neighbours, by its way -/
def lwD (lev : Nat → Nat → Int32) (r c : Nat) : Nat → Nat
  | 0 => 0
  | i + 1 => if lev (dR r (i + 1)) (dC c (i + 1)) < lev (dR r (lwD lev r c i)) (dC c (lwD lev r c i)) then i + 1 else lwD lev r c i
theorem lwD_le {lev : Nat → Nat → Int32} {r c : Nat} : ∀ i, lwD lev r c i ≤ i
  | 0 => Nat.le_refl _
  | i + 1 => by
    unfold lwD
    split
    · exact Nat.le_refl _
    · exact Nat.le_succ_of_le (lwD_le i)
theorem lwD_inv {x : PP} (hx : PIv x) {lev : Nat → Nat → Int32} {L : Nat → Int32} {r c : Nat} (hin : inC x r c) (hlev : ∀ w, w < 4 → inC x (dR r w) (dC c w) → lev (dR r w) (dC c w) = L (clC x (dR r w) (dC c w)) ∧ L (clC x (dR r w) (dC c w)) < 100000) (hwall : ∀ w, w < 4 → ¬ inC x (dR r w) (dC c w) → lev (dR r w) (dC c w) = 100000) :
    ∀ d, d < 4 → (inC x (dR r (lwD lev r c d)) (dC c (lwD lev r c d)) ∧ loF (nbx x) L (clC x r c) (d + 1) = some (clC x (dR r (lwD lev r c d)) (dC c (lwD lev r c d)))) ∨ ((∀ w, w ≤ d → ¬ inC x (dR r w) (dC c w)) ∧ loF (nbx x) L (clC x r c) (d + 1) = none)
  | 0, _ => by
    have e := nbx_d hx hin (w := 0) (by decide)
    show (inC x (dR r 0) (dC c 0) ∧ _) ∨ _
    by_cases h : inC x (dR r 0) (dC c 0)
    · rw [if_pos h] at e
      refine Or.inl ⟨h, ?_⟩
      show loF (nbx x) L (clC x r c) (0 + 1) = some (clC x (dR r 0) (dC c 0))
      rw [loF, e]
      rfl
    · rw [if_neg h] at e
      have h9 : ∀ w, w ≤ 0 → ¬ inC x (dR r w) (dC c w) := fun w hw => (Nat.le_zero.mp hw) ▸ h
      refine Or.inr ⟨h9, ?_⟩
      show loF (nbx x) L (clC x r c) (0 + 1) = none
      rw [loF, e]
      rfl
  | d + 1, hd => by
    have ih := lwD_inv hx hin hlev hwall d (by omega)
    have e := nbx_d hx hin (w := d + 1) hd
    have hle := lwD_le (lev := lev) (r := r) (c := c) d
    have hu : lwD lev r c (d + 1) = if lev (dR r (d + 1)) (dC c (d + 1)) < lev (dR r (lwD lev r c d)) (dC c (lwD lev r c d)) then d + 1 else lwD lev r c d := rfl
    generalize lwD lev r c d = b at ih hle hu
    rw [hu]
    by_cases h : inC x (dR r (d + 1)) (dC c (d + 1))
    · rw [if_pos h] at e
      obtain ⟨g1, g2⟩ := hlev _ hd h
      rcases ih with ⟨i1, i2⟩ | ⟨i1, i2⟩
      · obtain ⟨k1, k2⟩ := hlev b (by omega) i1
        left
        have e2 : loF (nbx x) L (clC x r c) (d + 1 + 1) = if L (clC x (dR r (d + 1)) (dC c (d + 1))) < L (clC x (dR r b) (dC c b)) then some (clC x (dR r (d + 1)) (dC c (d + 1))) else some (clC x (dR r b) (dC c b)) := by
          rw [loF, e]
          simp only [i2]
        rw [e2, g1, k1]
        by_cases h3 : L (clC x (dR r (d + 1)) (dC c (d + 1))) < L (clC x (dR r b) (dC c b))
        · rw [if_pos h3, if_pos h3]; exact ⟨h, rfl⟩
        · rw [if_neg h3, if_neg h3]; exact ⟨i1, rfl⟩
      · left
        have k1 := hwall b (by omega) (i1 b hle)
        rw [g1, k1, if_pos g2]
        refine ⟨h, ?_⟩
        rw [loF, e]
        simp only [i2]
    · rw [if_neg h] at e
      have g1 := hwall _ hd h
      rcases ih with ⟨i1, i2⟩ | ⟨i1, i2⟩
      · obtain ⟨k1, k2⟩ := hlev b (by omega) i1
        left
        rw [g1, k1, if_neg (fun q => Int32.lt_irrefl (Int32.lt_trans q k2)), loF_n e]
        exact ⟨i1, i2⟩
      · right
        rw [loF_n e]
        refine ⟨fun w hw => ?_, i2⟩
        by_cases h4 : w = d + 1
        · subst h4; exact h
        · exact i1 w (by omega)
/-- the lowest beside a cell, by the law and by the class -/
theorem lw_of {x : PP} (hx : PIv x) (hv : PVi x) {lev : Nat → Nat → Int32} {L : Nat → Int32} {r c : Nat} (hin : inC x r c) (hlev : ∀ w, w < 4 → inC x (dR r w) (dC c w) → lev (dR r w) (dC c w) = L (clC x (dR r w) (dC c w)) ∧ L (clC x (dR r w) (dC c w)) < 100000) (hwall : ∀ w, w < 4 → ¬ inC x (dR r w) (dC c w) → lev (dR r w) (dC c w) = 100000) :
    inC x (dR r (lwD lev r c 3)) (dC c (lwD lev r c 3)) ∧ loF (nbx x) L (clC x r c) 4 = some (clC x (dR r (lwD lev r c 3)) (dC c (lwD lev r c 3))) := by
  rcases lwD_inv hx hin hlev hwall 3 (by decide) with h | ⟨h1, -⟩
  · exact h
  · exfalso
    obtain ⟨⟨a1, a2⟩, a3, a4⟩ := hin
    have b0 := h1 0 (by decide)
    have b2 := h1 2 (by decide)
    by_cases h : 1 ≤ r - 1
    · exact b0 ⟨⟨h, by show r - 1 ≤ _; omega⟩, a3, a4⟩
    · exact b2 ⟨⟨by show 1 ≤ r + 1; omega, by show r + 1 ≤ _; have := hv.1; omega⟩, a3, a4⟩
