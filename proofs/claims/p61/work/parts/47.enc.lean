/-! the reference's numbers, from a plan and a state; A0: what else stands there -/
def gT (A0 : Nat → Int32) (x : PP) (T : Nat → Nat → Int32) : Nat → Int32
  | 0 => T 0 7
  | 1 => nI x.1.2.1
  | 2 => nI x.1.1
  | 3 => T 0 8
  | 4 => nI x.2.2.2.2.1
  | 5 => T 0 9
  | 6 => T 0 10
  | 7 => T 0 11
  | 8 => T 0 12
  | 9 => T 0 13
  | 10 => T 0 14
  | i => A0 i
def cfT (x : PP) (T : Nat → Nat → Int32) : Nat → Nat → Int32
  | 0 => x.2.1
  | 1 => T 1
  | 2 => T 2
  | 3 => x.2.2.1
  | 4 => T 3
  | 5 => T 4
  | _ => fun _ => 0
def bfT (A0 : Nat → Int32) (x : PP) (T : Nat → Nat → Int32) : Nat → Nat → Int32
  | 0 => x.2.2.2.2.2.1
  | 7 => T 5
  | 8 => x.2.2.2.2.2.2.2.1
  | 9 => T 7
  | 10 => T 6
  | f => fun b => if f - 1 < (x.2.2.2.2.2.1 b).toNatClampNeg then x.2.2.2.2.2.2.2.2 b (f - 1) else A0 (399 + 11 * b + f)
def encF (n bc : Nat) (g : Nat → Int32) (cf bf : Nat → Nat → Int32) (A0 : Nat → Int32) (i : Nat) : Int32 :=
  if i < 15 then g i else if i < 399 then (if (i - 15) / 6 < n then cf ((i - 15) % 6) ((i - 15) / 6) else A0 i) else if (i - 399) / 11 < bc then bf ((i - 399) % 11) ((i - 399) / 11) else A0 i
def enc (A0 : Nat → Int32) (x : PP) (T : Nat → Nat → Int32) : Nat → Int32 := encF x.1.2.2 x.2.2.2.2.1 (gT A0 x T) (cfT x T) (bfT A0 x T) A0
section ENC
variable {n bc : Nat} {g A0 : Nat → Int32} {cf bf : Nat → Nat → Int32} {x : PP} {T : Nat → Nat → Int32} {v : Int32}
theorem encF_ac {c f : Nat} (hc : c < n) (hn : n ≤ 64) (hf : f < 6) : encF n bc g cf bf A0 (c6 c f) = cf f c := by
  unfold encF c6
  rw [if_neg (by omega), if_pos (by omega), show (15 + 6 * c + f - 15) / 6 = c by omega, show (15 + 6 * c + f - 15) % 6 = f by omega, if_pos hc]
theorem encF_ab {b f : Nat} (hb : b < bc) (hf : f < 11) : encF n bc g cf bf A0 (399 + 11 * b + f) = bf f b := by
  unfold encF
  rw [if_neg (by omega), if_neg (by omega), show (399 + 11 * b + f - 399) / 11 = b by omega, show (399 + 11 * b + f - 399) % 11 = f by omega, if_pos hb]
theorem encF_uc {c f : Nat} (hc : c < n) (hn : n ≤ 64) (hf : f < 6) : upd (encF n bc g cf bf A0) (c6 c f) v = encF n bc g (fun f' c' => if f' = f ∧ c' = c then v else cf f' c') bf A0 := by
  funext i
  unfold upd
  by_cases h : i = c6 c f
  · rw [if_pos h, h, encF_ac hc hn hf, if_pos ⟨rfl, rfl⟩]
  · rw [if_neg h]
    unfold encF
    by_cases h1 : i < 15
    · rw [if_pos h1, if_pos h1]
    · rw [if_neg h1, if_neg h1]
      by_cases h2 : i < 399
      · rw [if_pos h2, if_pos h2]
        by_cases h3 : (i - 15) / 6 < n
        · rw [if_pos h3, if_pos h3]
          show cf _ _ = if (i - 15) % 6 = f ∧ (i - 15) / 6 = c then v else cf _ _
          rw [if_neg (fun q => h (by unfold c6; omega))]
        · rw [if_neg h3, if_neg h3]
      · rw [if_neg h2, if_neg h2]
theorem encF_ub {b f : Nat} (hb : b < bc) (hf : f < 11) : upd (encF n bc g cf bf A0) (399 + 11 * b + f) v = encF n bc g cf (fun f' b' => if f' = f ∧ b' = b then v else bf f' b') A0 := by
  funext i
  unfold upd
  by_cases h : i = 399 + 11 * b + f
  · rw [if_pos h, h, encF_ab hb hf, if_pos ⟨rfl, rfl⟩]
  · rw [if_neg h]
    unfold encF
    by_cases h1 : i < 15
    · rw [if_pos h1, if_pos h1]
    · rw [if_neg h1, if_neg h1]
      by_cases h2 : i < 399
      · rw [if_pos h2, if_pos h2]
      · rw [if_neg h2, if_neg h2]
        by_cases h3 : (i - 399) / 11 < bc
        · rw [if_pos h3, if_pos h3]
          show bf _ _ = if (i - 399) % 11 = f ∧ (i - 399) / 11 = b then v else bf _ _
          rw [if_neg (fun q => h (by omega))]
        · rw [if_neg h3, if_neg h3]
theorem encF_ug {j : Nat} (hj : j < 15) : upd (encF n bc g cf bf A0) j v = encF n bc (upd g j v) cf bf A0 := by
  funext i
  by_cases h : i = j
  · show (if i = j then v else encF n bc g cf bf A0 i) = _
    unfold encF
    rw [if_pos h, if_pos (by omega)]
    exact (if_pos h).symm
  · show (if i = j then v else encF n bc g cf bf A0 i) = _
    rw [if_neg h]
    unfold encF
    by_cases h1 : i < 15
    · rw [if_pos h1, if_pos h1]
      exact (if_neg h).symm
    · rw [if_neg h1, if_neg h1]
/-- one slot of a state -/
def sc (T : Nat → Nat → Int32) (t c : Nat) (v : Int32) : Nat → Nat → Int32 := sett T t (upd (T t) c v)
theorem e_w {c : Nat} (hc : c < x.1.2.2) (hn : x.1.2.2 ≤ 64) : enc A0 x T (c6 c 1) = T 1 c := encF_ac hc hn (by decide)
theorem u_w {c : Nat} (hc : c < x.1.2.2) (hn : x.1.2.2 ≤ 64) : upd (enc A0 x T) (c6 c 1) v = enc A0 x (sc T 1 c v) := by
  unfold enc
  rw [encF_uc hc hn (by decide)]
  have h0 : gT A0 x (sc T 1 c v) = gT A0 x T := by
    funext i
    match i with
    | 0 => rfl
    | 1 => rfl
    | 2 => rfl
    | 3 => rfl
    | 4 => rfl
    | 5 => rfl
    | 6 => rfl
    | 7 => rfl
    | 8 => rfl
    | 9 => rfl
    | 10 => rfl
    | i + 11 => rfl
  have h1 : bfT A0 x (sc T 1 c v) = bfT A0 x T := by
    funext f
    match f with
    | 0 => rfl
    | 1 => rfl
    | 2 => rfl
    | 3 => rfl
    | 4 => rfl
    | 5 => rfl
    | 6 => rfl
    | 7 => rfl
    | 8 => rfl
    | 9 => rfl
    | 10 => rfl
    | f + 11 => rfl
  have h2 : (fun f2 c2 => if f2 = 1 ∧ c2 = c then v else cfT x T f2 c2) = cfT x (sc T 1 c v) := by
    funext f2 c2
    match f2 with
    | 0 => exact (if_neg (fun q => absurd q.1 (by decide))).trans rfl
    | 1 =>
      show (if 1 = 1 ∧ c2 = c then v else T 1 c2) = upd (T 1) c v c2
      unfold upd
      by_cases hcc : c2 = c
      · rw [if_pos ⟨rfl, hcc⟩, if_pos hcc]
      · rw [if_neg (fun q => hcc q.2), if_neg hcc]
    | 2 => exact (if_neg (fun q => absurd q.1 (by decide))).trans rfl
    | 3 => exact (if_neg (fun q => absurd q.1 (by decide))).trans rfl
    | 4 => exact (if_neg (fun q => absurd q.1 (by decide))).trans rfl
    | 5 => exact (if_neg (fun q => absurd q.1 (by decide))).trans rfl
    | k + 6 => exact (if_neg (fun q => absurd q.1 (by omega))).trans rfl
  rw [h0, h1, h2]
theorem e_l {c : Nat} (hc : c < x.1.2.2) (hn : x.1.2.2 ≤ 64) : enc A0 x T (c6 c 2) = T 2 c := encF_ac hc hn (by decide)
theorem u_l {c : Nat} (hc : c < x.1.2.2) (hn : x.1.2.2 ≤ 64) : upd (enc A0 x T) (c6 c 2) v = enc A0 x (sc T 2 c v) := by
  unfold enc
  rw [encF_uc hc hn (by decide)]
  have h0 : gT A0 x (sc T 2 c v) = gT A0 x T := by
    funext i
    match i with
    | 0 => rfl
    | 1 => rfl
    | 2 => rfl
    | 3 => rfl
    | 4 => rfl
    | 5 => rfl
    | 6 => rfl
    | 7 => rfl
    | 8 => rfl
    | 9 => rfl
    | 10 => rfl
    | i + 11 => rfl
  have h1 : bfT A0 x (sc T 2 c v) = bfT A0 x T := by
    funext f
    match f with
    | 0 => rfl
    | 1 => rfl
    | 2 => rfl
    | 3 => rfl
    | 4 => rfl
    | 5 => rfl
    | 6 => rfl
    | 7 => rfl
    | 8 => rfl
    | 9 => rfl
    | 10 => rfl
    | f + 11 => rfl
  have h2 : (fun f2 c2 => if f2 = 2 ∧ c2 = c then v else cfT x T f2 c2) = cfT x (sc T 2 c v) := by
    funext f2 c2
    match f2 with
    | 0 => exact (if_neg (fun q => absurd q.1 (by decide))).trans rfl
    | 1 => exact (if_neg (fun q => absurd q.1 (by decide))).trans rfl
    | 2 =>
      show (if 2 = 2 ∧ c2 = c then v else T 2 c2) = upd (T 2) c v c2
      unfold upd
      by_cases hcc : c2 = c
      · rw [if_pos ⟨rfl, hcc⟩, if_pos hcc]
      · rw [if_neg (fun q => hcc q.2), if_neg hcc]
    | 3 => exact (if_neg (fun q => absurd q.1 (by decide))).trans rfl
    | 4 => exact (if_neg (fun q => absurd q.1 (by decide))).trans rfl
    | 5 => exact (if_neg (fun q => absurd q.1 (by decide))).trans rfl
    | k + 6 => exact (if_neg (fun q => absurd q.1 (by omega))).trans rfl
  rw [h0, h1, h2]
theorem e_r {c : Nat} (hc : c < x.1.2.2) (hn : x.1.2.2 ≤ 64) : enc A0 x T (c6 c 4) = T 3 c := encF_ac hc hn (by decide)
theorem u_r {c : Nat} (hc : c < x.1.2.2) (hn : x.1.2.2 ≤ 64) : upd (enc A0 x T) (c6 c 4) v = enc A0 x (sc T 3 c v) := by
  unfold enc
  rw [encF_uc hc hn (by decide)]
  have h0 : gT A0 x (sc T 3 c v) = gT A0 x T := by
    funext i
    match i with
    | 0 => rfl
    | 1 => rfl
    | 2 => rfl
    | 3 => rfl
    | 4 => rfl
    | 5 => rfl
    | 6 => rfl
    | 7 => rfl
    | 8 => rfl
    | 9 => rfl
    | 10 => rfl
    | i + 11 => rfl
  have h1 : bfT A0 x (sc T 3 c v) = bfT A0 x T := by
    funext f
    match f with
    | 0 => rfl
    | 1 => rfl
    | 2 => rfl
    | 3 => rfl
    | 4 => rfl
    | 5 => rfl
    | 6 => rfl
    | 7 => rfl
    | 8 => rfl
    | 9 => rfl
    | 10 => rfl
    | f + 11 => rfl
  have h2 : (fun f2 c2 => if f2 = 4 ∧ c2 = c then v else cfT x T f2 c2) = cfT x (sc T 3 c v) := by
    funext f2 c2
    match f2 with
    | 0 => exact (if_neg (fun q => absurd q.1 (by decide))).trans rfl
    | 1 => exact (if_neg (fun q => absurd q.1 (by decide))).trans rfl
    | 2 => exact (if_neg (fun q => absurd q.1 (by decide))).trans rfl
    | 3 => exact (if_neg (fun q => absurd q.1 (by decide))).trans rfl
    | 4 =>
      show (if 4 = 4 ∧ c2 = c then v else T 3 c2) = upd (T 3) c v c2
      unfold upd
      by_cases hcc : c2 = c
      · rw [if_pos ⟨rfl, hcc⟩, if_pos hcc]
      · rw [if_neg (fun q => hcc q.2), if_neg hcc]
    | 5 => exact (if_neg (fun q => absurd q.1 (by decide))).trans rfl
    | k + 6 => exact (if_neg (fun q => absurd q.1 (by omega))).trans rfl
  rw [h0, h1, h2]
theorem e_t {c : Nat} (hc : c < x.1.2.2) (hn : x.1.2.2 ≤ 64) : enc A0 x T (c6 c 5) = T 4 c := encF_ac hc hn (by decide)
theorem u_t {c : Nat} (hc : c < x.1.2.2) (hn : x.1.2.2 ≤ 64) : upd (enc A0 x T) (c6 c 5) v = enc A0 x (sc T 4 c v) := by
  unfold enc
  rw [encF_uc hc hn (by decide)]
  have h0 : gT A0 x (sc T 4 c v) = gT A0 x T := by
    funext i
    match i with
    | 0 => rfl
    | 1 => rfl
    | 2 => rfl
    | 3 => rfl
    | 4 => rfl
    | 5 => rfl
    | 6 => rfl
    | 7 => rfl
    | 8 => rfl
    | 9 => rfl
    | 10 => rfl
    | i + 11 => rfl
  have h1 : bfT A0 x (sc T 4 c v) = bfT A0 x T := by
    funext f
    match f with
    | 0 => rfl
    | 1 => rfl
    | 2 => rfl
    | 3 => rfl
    | 4 => rfl
    | 5 => rfl
    | 6 => rfl
    | 7 => rfl
    | 8 => rfl
    | 9 => rfl
    | 10 => rfl
    | f + 11 => rfl
  have h2 : (fun f2 c2 => if f2 = 5 ∧ c2 = c then v else cfT x T f2 c2) = cfT x (sc T 4 c v) := by
    funext f2 c2
    match f2 with
    | 0 => exact (if_neg (fun q => absurd q.1 (by decide))).trans rfl
    | 1 => exact (if_neg (fun q => absurd q.1 (by decide))).trans rfl
    | 2 => exact (if_neg (fun q => absurd q.1 (by decide))).trans rfl
    | 3 => exact (if_neg (fun q => absurd q.1 (by decide))).trans rfl
    | 4 => exact (if_neg (fun q => absurd q.1 (by decide))).trans rfl
    | 5 =>
      show (if 5 = 5 ∧ c2 = c then v else T 4 c2) = upd (T 4) c v c2
      unfold upd
      by_cases hcc : c2 = c
      · rw [if_pos ⟨rfl, hcc⟩, if_pos hcc]
      · rw [if_neg (fun q => hcc q.2), if_neg hcc]
    | k + 6 => exact (if_neg (fun q => absurd q.1 (by omega))).trans rfl
  rw [h0, h1, h2]
theorem e_pl {b : Nat} (hb : b < x.2.2.2.2.1) : enc A0 x T (399 + 11 * b + 7) = T 5 b := encF_ab hb (by decide)
theorem u_pl {c : Nat} (hb : c < x.2.2.2.2.1) : upd (enc A0 x T) (399 + 11 * c + 7) v = enc A0 x (sc T 5 c v) := by
  unfold enc
  rw [encF_ub hb (by decide)]
  have h0 : gT A0 x (sc T 5 c v) = gT A0 x T := by
    funext i
    match i with
    | 0 => rfl
    | 1 => rfl
    | 2 => rfl
    | 3 => rfl
    | 4 => rfl
    | 5 => rfl
    | 6 => rfl
    | 7 => rfl
    | 8 => rfl
    | 9 => rfl
    | 10 => rfl
    | i + 11 => rfl
  have h1 : cfT x (sc T 5 c v) = cfT x T := by
    funext f
    match f with
    | 0 => rfl
    | 1 => rfl
    | 2 => rfl
    | 3 => rfl
    | 4 => rfl
    | 5 => rfl
    | f + 6 => rfl
  have h2 : (fun f2 c2 => if f2 = 7 ∧ c2 = c then v else bfT A0 x T f2 c2) = bfT A0 x (sc T 5 c v) := by
    funext f2 c2
    match f2 with
    | 0 => exact (if_neg (fun q => absurd q.1 (by decide))).trans rfl
    | 1 => exact (if_neg (fun q => absurd q.1 (by decide))).trans rfl
    | 2 => exact (if_neg (fun q => absurd q.1 (by decide))).trans rfl
    | 3 => exact (if_neg (fun q => absurd q.1 (by decide))).trans rfl
    | 4 => exact (if_neg (fun q => absurd q.1 (by decide))).trans rfl
    | 5 => exact (if_neg (fun q => absurd q.1 (by decide))).trans rfl
    | 6 => exact (if_neg (fun q => absurd q.1 (by decide))).trans rfl
    | 7 =>
      show (if 7 = 7 ∧ c2 = c then v else T 5 c2) = upd (T 5) c v c2
      unfold upd
      by_cases hcc : c2 = c
      · rw [if_pos ⟨rfl, hcc⟩, if_pos hcc]
      · rw [if_neg (fun q => hcc q.2), if_neg hcc]
    | 8 => exact (if_neg (fun q => absurd q.1 (by decide))).trans rfl
    | 9 => exact (if_neg (fun q => absurd q.1 (by decide))).trans rfl
    | 10 => exact (if_neg (fun q => absurd q.1 (by decide))).trans rfl
    | k + 11 => exact (if_neg (fun q => absurd q.1 (by omega))).trans rfl
  rw [h0, h1, h2]
theorem e_wt {b : Nat} (hb : b < x.2.2.2.2.1) : enc A0 x T (399 + 11 * b + 9) = T 7 b := encF_ab hb (by decide)
theorem u_wt {c : Nat} (hb : c < x.2.2.2.2.1) : upd (enc A0 x T) (399 + 11 * c + 9) v = enc A0 x (sc T 7 c v) := by
  unfold enc
  rw [encF_ub hb (by decide)]
  have h0 : gT A0 x (sc T 7 c v) = gT A0 x T := by
    funext i
    match i with
    | 0 => rfl
    | 1 => rfl
    | 2 => rfl
    | 3 => rfl
    | 4 => rfl
    | 5 => rfl
    | 6 => rfl
    | 7 => rfl
    | 8 => rfl
    | 9 => rfl
    | 10 => rfl
    | i + 11 => rfl
  have h1 : cfT x (sc T 7 c v) = cfT x T := by
    funext f
    match f with
    | 0 => rfl
    | 1 => rfl
    | 2 => rfl
    | 3 => rfl
    | 4 => rfl
    | 5 => rfl
    | f + 6 => rfl
  have h2 : (fun f2 c2 => if f2 = 9 ∧ c2 = c then v else bfT A0 x T f2 c2) = bfT A0 x (sc T 7 c v) := by
    funext f2 c2
    match f2 with
    | 0 => exact (if_neg (fun q => absurd q.1 (by decide))).trans rfl
    | 1 => exact (if_neg (fun q => absurd q.1 (by decide))).trans rfl
    | 2 => exact (if_neg (fun q => absurd q.1 (by decide))).trans rfl
    | 3 => exact (if_neg (fun q => absurd q.1 (by decide))).trans rfl
    | 4 => exact (if_neg (fun q => absurd q.1 (by decide))).trans rfl
    | 5 => exact (if_neg (fun q => absurd q.1 (by decide))).trans rfl
    | 6 => exact (if_neg (fun q => absurd q.1 (by decide))).trans rfl
    | 7 => exact (if_neg (fun q => absurd q.1 (by decide))).trans rfl
    | 8 => exact (if_neg (fun q => absurd q.1 (by decide))).trans rfl
    | 9 =>
      show (if 9 = 9 ∧ c2 = c then v else T 7 c2) = upd (T 7) c v c2
      unfold upd
      by_cases hcc : c2 = c
      · rw [if_pos ⟨rfl, hcc⟩, if_pos hcc]
      · rw [if_neg (fun q => hcc q.2), if_neg hcc]
    | 10 => exact (if_neg (fun q => absurd q.1 (by decide))).trans rfl
    | k + 11 => exact (if_neg (fun q => absurd q.1 (by omega))).trans rfl
  rw [h0, h1, h2]
theorem e_sh {b : Nat} (hb : b < x.2.2.2.2.1) : enc A0 x T (399 + 11 * b + 10) = T 6 b := encF_ab hb (by decide)
theorem u_sh {c : Nat} (hb : c < x.2.2.2.2.1) : upd (enc A0 x T) (399 + 11 * c + 10) v = enc A0 x (sc T 6 c v) := by
  unfold enc
  rw [encF_ub hb (by decide)]
  have h0 : gT A0 x (sc T 6 c v) = gT A0 x T := by
    funext i
    match i with
    | 0 => rfl
    | 1 => rfl
    | 2 => rfl
    | 3 => rfl
    | 4 => rfl
    | 5 => rfl
    | 6 => rfl
    | 7 => rfl
    | 8 => rfl
    | 9 => rfl
    | 10 => rfl
    | i + 11 => rfl
  have h1 : cfT x (sc T 6 c v) = cfT x T := by
    funext f
    match f with
    | 0 => rfl
    | 1 => rfl
    | 2 => rfl
    | 3 => rfl
    | 4 => rfl
    | 5 => rfl
    | f + 6 => rfl
  have h2 : (fun f2 c2 => if f2 = 10 ∧ c2 = c then v else bfT A0 x T f2 c2) = bfT A0 x (sc T 6 c v) := by
    funext f2 c2
    match f2 with
    | 0 => exact (if_neg (fun q => absurd q.1 (by decide))).trans rfl
    | 1 => exact (if_neg (fun q => absurd q.1 (by decide))).trans rfl
    | 2 => exact (if_neg (fun q => absurd q.1 (by decide))).trans rfl
    | 3 => exact (if_neg (fun q => absurd q.1 (by decide))).trans rfl
    | 4 => exact (if_neg (fun q => absurd q.1 (by decide))).trans rfl
    | 5 => exact (if_neg (fun q => absurd q.1 (by decide))).trans rfl
    | 6 => exact (if_neg (fun q => absurd q.1 (by decide))).trans rfl
    | 7 => exact (if_neg (fun q => absurd q.1 (by decide))).trans rfl
    | 8 => exact (if_neg (fun q => absurd q.1 (by decide))).trans rfl
    | 9 => exact (if_neg (fun q => absurd q.1 (by decide))).trans rfl
    | 10 =>
      show (if 10 = 10 ∧ c2 = c then v else T 6 c2) = upd (T 6) c v c2
      unfold upd
      by_cases hcc : c2 = c
      · rw [if_pos ⟨rfl, hcc⟩, if_pos hcc]
      · rw [if_neg (fun q => hcc q.2), if_neg hcc]
    | k + 11 => exact (if_neg (fun q => absurd q.1 (by omega))).trans rfl
  rw [h0, h1, h2]
theorem e_bh {b : Nat} (hb : b < x.2.2.2.2.1) : enc A0 x T (399 + 11 * b + 8) = x.2.2.2.2.2.2.2.1 b := encF_ab hb (by decide)
theorem e_nl {b : Nat} (hb : b < x.2.2.2.2.1) : enc A0 x T (399 + 11 * b + 0) = x.2.2.2.2.2.1 b := encF_ab hb (by decide)
theorem e_h {c : Nat} (hc : c < x.1.2.2) (hn : x.1.2.2 ≤ 64) : enc A0 x T (c6 c 0) = x.2.1 c := encF_ac hc hn (by decide)
theorem e_k {c : Nat} (hc : c < x.1.2.2) (hn : x.1.2.2 ≤ 64) : enc A0 x T (c6 c 3) = x.2.2.1 c := encF_ac hc hn (by decide)
theorem u_mi : upd (enc A0 x T) 0 v = enc A0 x (sc T 0 7 v) := by
  unfold enc
  rw [encF_ug (by decide)]
  have h0 : upd (gT A0 x T) 0 v = gT A0 x (sc T 0 7 v) := by
    funext j
    match j with
    | 0 => rfl
    | 1 => rfl
    | 2 => rfl
    | 3 => rfl
    | 4 => rfl
    | 5 => rfl
    | 6 => rfl
    | 7 => rfl
    | 8 => rfl
    | 9 => rfl
    | 10 => rfl
    | j + 11 => exact (if_neg (by omega)).trans rfl
  have h1 : cfT x (sc T 0 7 v) = cfT x T := by
    funext f
    match f with
    | 0 => rfl
    | 1 => rfl
    | 2 => rfl
    | 3 => rfl
    | 4 => rfl
    | 5 => rfl
    | f + 6 => rfl
  have h2 : bfT A0 x (sc T 0 7 v) = bfT A0 x T := by
    funext f
    match f with
    | 0 => rfl
    | 1 => rfl
    | 2 => rfl
    | 3 => rfl
    | 4 => rfl
    | 5 => rfl
    | 6 => rfl
    | 7 => rfl
    | 8 => rfl
    | 9 => rfl
    | 10 => rfl
    | f + 11 => rfl
  rw [h0, h1, h2]
theorem u_ra : upd (enc A0 x T) 3 v = enc A0 x (sc T 0 8 v) := by
  unfold enc
  rw [encF_ug (by decide)]
  have h0 : upd (gT A0 x T) 3 v = gT A0 x (sc T 0 8 v) := by
    funext j
    match j with
    | 0 => rfl
    | 1 => rfl
    | 2 => rfl
    | 3 => rfl
    | 4 => rfl
    | 5 => rfl
    | 6 => rfl
    | 7 => rfl
    | 8 => rfl
    | 9 => rfl
    | 10 => rfl
    | j + 11 => exact (if_neg (by omega)).trans rfl
  have h1 : cfT x (sc T 0 8 v) = cfT x T := by
    funext f
    match f with
    | 0 => rfl
    | 1 => rfl
    | 2 => rfl
    | 3 => rfl
    | 4 => rfl
    | 5 => rfl
    | f + 6 => rfl
  have h2 : bfT A0 x (sc T 0 8 v) = bfT A0 x T := by
    funext f
    match f with
    | 0 => rfl
    | 1 => rfl
    | 2 => rfl
    | 3 => rfl
    | 4 => rfl
    | 5 => rfl
    | 6 => rfl
    | 7 => rfl
    | 8 => rfl
    | 9 => rfl
    | 10 => rfl
    | f + 11 => rfl
  rw [h0, h1, h2]
theorem u_rd : upd (enc A0 x T) 5 v = enc A0 x (sc T 0 9 v) := by
  unfold enc
  rw [encF_ug (by decide)]
  have h0 : upd (gT A0 x T) 5 v = gT A0 x (sc T 0 9 v) := by
    funext j
    match j with
    | 0 => rfl
    | 1 => rfl
    | 2 => rfl
    | 3 => rfl
    | 4 => rfl
    | 5 => rfl
    | 6 => rfl
    | 7 => rfl
    | 8 => rfl
    | 9 => rfl
    | 10 => rfl
    | j + 11 => exact (if_neg (by omega)).trans rfl
  have h1 : cfT x (sc T 0 9 v) = cfT x T := by
    funext f
    match f with
    | 0 => rfl
    | 1 => rfl
    | 2 => rfl
    | 3 => rfl
    | 4 => rfl
    | 5 => rfl
    | f + 6 => rfl
  have h2 : bfT A0 x (sc T 0 9 v) = bfT A0 x T := by
    funext f
    match f with
    | 0 => rfl
    | 1 => rfl
    | 2 => rfl
    | 3 => rfl
    | 4 => rfl
    | 5 => rfl
    | 6 => rfl
    | 7 => rfl
    | 8 => rfl
    | 9 => rfl
    | 10 => rfl
    | f + 11 => rfl
  rw [h0, h1, h2]
theorem u_gs : upd (enc A0 x T) 6 v = enc A0 x (sc T 0 10 v) := by
  unfold enc
  rw [encF_ug (by decide)]
  have h0 : upd (gT A0 x T) 6 v = gT A0 x (sc T 0 10 v) := by
    funext j
    match j with
    | 0 => rfl
    | 1 => rfl
    | 2 => rfl
    | 3 => rfl
    | 4 => rfl
    | 5 => rfl
    | 6 => rfl
    | 7 => rfl
    | 8 => rfl
    | 9 => rfl
    | 10 => rfl
    | j + 11 => exact (if_neg (by omega)).trans rfl
  have h1 : cfT x (sc T 0 10 v) = cfT x T := by
    funext f
    match f with
    | 0 => rfl
    | 1 => rfl
    | 2 => rfl
    | 3 => rfl
    | 4 => rfl
    | 5 => rfl
    | f + 6 => rfl
  have h2 : bfT A0 x (sc T 0 10 v) = bfT A0 x T := by
    funext f
    match f with
    | 0 => rfl
    | 1 => rfl
    | 2 => rfl
    | 3 => rfl
    | 4 => rfl
    | 5 => rfl
    | 6 => rfl
    | 7 => rfl
    | 8 => rfl
    | 9 => rfl
    | 10 => rfl
    | f + 11 => rfl
  rw [h0, h1, h2]
theorem u_dr : upd (enc A0 x T) 7 v = enc A0 x (sc T 0 11 v) := by
  unfold enc
  rw [encF_ug (by decide)]
  have h0 : upd (gT A0 x T) 7 v = gT A0 x (sc T 0 11 v) := by
    funext j
    match j with
    | 0 => rfl
    | 1 => rfl
    | 2 => rfl
    | 3 => rfl
    | 4 => rfl
    | 5 => rfl
    | 6 => rfl
    | 7 => rfl
    | 8 => rfl
    | 9 => rfl
    | 10 => rfl
    | j + 11 => exact (if_neg (by omega)).trans rfl
  have h1 : cfT x (sc T 0 11 v) = cfT x T := by
    funext f
    match f with
    | 0 => rfl
    | 1 => rfl
    | 2 => rfl
    | 3 => rfl
    | 4 => rfl
    | 5 => rfl
    | f + 6 => rfl
  have h2 : bfT A0 x (sc T 0 11 v) = bfT A0 x T := by
    funext f
    match f with
    | 0 => rfl
    | 1 => rfl
    | 2 => rfl
    | 3 => rfl
    | 4 => rfl
    | 5 => rfl
    | 6 => rfl
    | 7 => rfl
    | 8 => rfl
    | 9 => rfl
    | 10 => rfl
    | f + 11 => rfl
  rw [h0, h1, h2]
theorem u_ev : upd (enc A0 x T) 8 v = enc A0 x (sc T 0 12 v) := by
  unfold enc
  rw [encF_ug (by decide)]
  have h0 : upd (gT A0 x T) 8 v = gT A0 x (sc T 0 12 v) := by
    funext j
    match j with
    | 0 => rfl
    | 1 => rfl
    | 2 => rfl
    | 3 => rfl
    | 4 => rfl
    | 5 => rfl
    | 6 => rfl
    | 7 => rfl
    | 8 => rfl
    | 9 => rfl
    | 10 => rfl
    | j + 11 => exact (if_neg (by omega)).trans rfl
  have h1 : cfT x (sc T 0 12 v) = cfT x T := by
    funext f
    match f with
    | 0 => rfl
    | 1 => rfl
    | 2 => rfl
    | 3 => rfl
    | 4 => rfl
    | 5 => rfl
    | f + 6 => rfl
  have h2 : bfT A0 x (sc T 0 12 v) = bfT A0 x T := by
    funext f
    match f with
    | 0 => rfl
    | 1 => rfl
    | 2 => rfl
    | 3 => rfl
    | 4 => rfl
    | 5 => rfl
    | 6 => rfl
    | 7 => rfl
    | 8 => rfl
    | 9 => rfl
    | 10 => rfl
    | f + 11 => rfl
  rw [h0, h1, h2]
theorem u_dp : upd (enc A0 x T) 9 v = enc A0 x (sc T 0 13 v) := by
  unfold enc
  rw [encF_ug (by decide)]
  have h0 : upd (gT A0 x T) 9 v = gT A0 x (sc T 0 13 v) := by
    funext j
    match j with
    | 0 => rfl
    | 1 => rfl
    | 2 => rfl
    | 3 => rfl
    | 4 => rfl
    | 5 => rfl
    | 6 => rfl
    | 7 => rfl
    | 8 => rfl
    | 9 => rfl
    | 10 => rfl
    | j + 11 => exact (if_neg (by omega)).trans rfl
  have h1 : cfT x (sc T 0 13 v) = cfT x T := by
    funext f
    match f with
    | 0 => rfl
    | 1 => rfl
    | 2 => rfl
    | 3 => rfl
    | 4 => rfl
    | 5 => rfl
    | f + 6 => rfl
  have h2 : bfT A0 x (sc T 0 13 v) = bfT A0 x T := by
    funext f
    match f with
    | 0 => rfl
    | 1 => rfl
    | 2 => rfl
    | 3 => rfl
    | 4 => rfl
    | 5 => rfl
    | 6 => rfl
    | 7 => rfl
    | 8 => rfl
    | 9 => rfl
    | 10 => rfl
    | f + 11 => rfl
  rw [h0, h1, h2]
theorem u_sp : upd (enc A0 x T) 10 v = enc A0 x (sc T 0 14 v) := by
  unfold enc
  rw [encF_ug (by decide)]
  have h0 : upd (gT A0 x T) 10 v = gT A0 x (sc T 0 14 v) := by
    funext j
    match j with
    | 0 => rfl
    | 1 => rfl
    | 2 => rfl
    | 3 => rfl
    | 4 => rfl
    | 5 => rfl
    | 6 => rfl
    | 7 => rfl
    | 8 => rfl
    | 9 => rfl
    | 10 => rfl
    | j + 11 => exact (if_neg (by omega)).trans rfl
  have h1 : cfT x (sc T 0 14 v) = cfT x T := by
    funext f
    match f with
    | 0 => rfl
    | 1 => rfl
    | 2 => rfl
    | 3 => rfl
    | 4 => rfl
    | 5 => rfl
    | f + 6 => rfl
  have h2 : bfT A0 x (sc T 0 14 v) = bfT A0 x T := by
    funext f
    match f with
    | 0 => rfl
    | 1 => rfl
    | 2 => rfl
    | 3 => rfl
    | 4 => rfl
    | 5 => rfl
    | 6 => rfl
    | 7 => rfl
    | 8 => rfl
    | 9 => rfl
    | 10 => rfl
    | f + 11 => rfl
  rw [h0, h1, h2]
end ENC
