/-! the relation: loading, restoring, scripts, input, output -/
section RLT
variable {x : PP} {M R M2 R2 : Mem} {L L2 : Int} {q : Nat} {BP : Nat → Nat → Int32} {be nm A0 : Nat → Int32} {B0 : Nat → Nat → Int32} {n : Nat} {bs : Nat → Int32} {u : TT} {o h k : Nat}
theorem RL_restore (H : RLw x M R L q BP be nm A0 B0 n bs u o h k) (hs : ¬ M 0 0 11 = 0) : ∃ A1, RLw x (setm (setm M 3 (M 5)) 6 (vH (M 6) (M 6 0 1) 0 (M 6 1))) (pcR (md (mt R 0) (fil (R 0 3) (R 0 1) 443)) 0) L q BP be nm A1 B0 n bs u o 0 k := by
  obtain ⟨a1, a2, a3, a4, a5, a6, a7, a8⟩ := H
  have hq0 := a1.1
  obtain ⟨g5, B1, g6⟩ := a7.2.2 hs
  obtain ⟨A1, e1⟩ := enc_ch (A := fil (R 0 3) (R 0 1) 443) (T := M 5) (A0 := B1) a2.1 (fun q hq => by
    rw [show fil (R 0 3) (R 0 1) 443 q = R 0 3 q from if_pos hq]
    exact g6 q hq)
  refine ⟨A1, ?_⟩
  have hj : ∀ {j : Nat}, j ≠ 6 → j ≠ 3 → setm (setm M 3 (M 5)) 6 (vH (M 6) (M 6 0 1) 0 (M 6 1)) j = M j := fun h6 h3 => (setm_n h6).trans (setm_n h3)
  have e3 : setm (setm M 3 (M 5)) 6 (vH (M 6) (M 6 0 1) 0 (M 6 1)) 3 = M 5 := (setm_n (by decide)).trans setm_s
  have e6 : setm (setm M 3 (M 5)) 6 (vH (M 6) (M 6 0 1) 0 (M 6 1)) 6 = vH (M 6) (M 6 0 1) 0 (M 6 1) := setm_s
  unfold RLw
  rw [hj (j := 0) (by omega) (by omega), hj (j := 1) (by omega) (by omega), hj (j := 5) (by omega) (by omega), hj (j := q) (by omega) (by omega), e3, e6]
  refine ⟨a1, a2, ⟨g5, e1⟩, a4, ⟨a5.1, rfl, a5.2.2.1, Nat.zero_le _, HR_0, rfl⟩, ?_, a7, a8⟩
  intro z hz
  rw [hj (by omega) (by omega)]
  exact a6 z hz
theorem RL_load0 (H : RLw x M R L q BP be nm A0 B0 n bs u o h k) {r : Option AV} (hb : lsBad R R2 (R 0 1) (lsR M (35 - q) bs n u) r) : ∃ A1, RLw x (lsM M (35 - q) B0 bs n u) R2 L q BP be nm A1 B0 0 bs (lsR M (35 - q) bs n u).1.2 o h k := by
  obtain ⟨a1, a2, a3, a4, a5, a6, a7, a8⟩ := H
  have hq0 := a1.1
  obtain ⟨b1, b2, ⟨c3, c4, c10, c25, c26, c6, c11⟩, b4, b5, b6, b7, b8, b9⟩ := hb
  obtain ⟨A1, e1⟩ := enc_ch (A := R2 0 1) (T := M 3) (A0 := A0) a2.1 (fun q hq => by rw [b4 q hq, a3.2])
  refine ⟨A1, ?_⟩
  have hj : ∀ {j : Nat}, j ≠ 1 → j ≠ 35 - q → lsM M (35 - q) B0 bs n u j = M j := fun h6 h3 => by
    unfold lsM
    rw [setm_n h6, setm_n h3]
  have e9 : lsM M (35 - q) B0 bs n u 1 = vTx B0 0 bs (lsR M (35 - q) bs n u).1.2 := by
    unfold lsM
    rw [setm_s]
  unfold RLw
  rw [hj (j := 0) (by omega) (by omega), e9, hj (j := 3) (by omega) (by omega), hj (j := 5) (by omega) (by omega), hj (j := 6) (by omega) (by omega), hj (j := q) (by omega) (by omega), c3, c4, c10, c25, c26, c11, b5, b6, b7, b8]
  refine ⟨a1, a2, ⟨a3.1, e1⟩, ⟨rfl, Nat.zero_le _, a4.2.2.1, fun i hi => absurd hi (Nat.not_lt_zero i), rfl, rfl, rfl⟩, ⟨a5.1, a5.2.1, a5.2.2.1, a5.2.2.2.1, HR_m a5.2.2.2.2.1 (fun j h7 h15 => hj (by omega) (by omega)), a5.2.2.2.2.2⟩, ?_, a7, a8⟩
  intro z hz
  rw [hj (by omega) (by omega)]
  exact a6 z hz
theorem stT_z {T : Nat → Nat → Int32} : pE A0 x = enc A0 x (stT x T) := by
  unfold pE enc
  have h0 : gT A0 x (stT x zT) = gT A0 x (stT x T) := by
    funext i
    match i with
    | 0 => rfl
    | 1 => rfl
    | 2 => rfl
    | 3 => rfl
    | 4 => rfl
    | 5 => rfl
    | 6 => rfl
    | 7 => rfl
    | 8 => rfl
    | 9 => rfl
    | 10 => rfl
    | i + 11 => rfl
  have h1 : cfT x (stT x zT) = cfT x (stT x T) := by
    funext f
    match f with
    | 0 => rfl
    | 1 => rfl
    | 2 => rfl
    | 3 => rfl
    | 4 => rfl
    | 5 => rfl
    | f + 6 => rfl
  have h2 : bfT A0 x (stT x zT) = bfT A0 x (stT x T) := by
    funext f
    match f with
    | 0 => rfl
    | 1 => rfl
    | 2 => rfl
    | 3 => rfl
    | 4 => rfl
    | 5 => rfl
    | 6 => rfl
    | 7 => rfl
    | 8 => rfl
    | 9 => rfl
    | 10 => rfl
    | f + 11 => rfl
  rw [h0, h1, h2]
theorem rFb_be {Rr : (Int32 × TT) × PP} {b2 : Nat → Int32} (h0 : ¬ Rr.1.1 = 0) (hx : PIv Rr.2) : BEx (rFb Rr b2) Rr.2 := by
  intro c d hc hd
  have e : rFb Rr b2 = fil (gB Rr.2.1.1 Rr.2.1.2.1) b2 (Rr.2.1.1 * Rr.2.1.2.1 * 4) := if_neg h0
  have hz := hx.2.2.1
  rw [e, show fil (gB Rr.2.1.1 Rr.2.1.2.1) b2 (Rr.2.1.1 * Rr.2.1.2.1 * 4) (c * 4 + d) = gB Rr.2.1.1 Rr.2.1.2.1 (c * 4 + d) from if_pos (by omega)]
  unfold gB nbx
  rw [show (c * 4 + d) / 4 = c by omega, show (c * 4 + d) % 4 = d by omega]
/-- the first rain is a digit -/
theorem rSt_fr {b : Nat → Int32} {t : TT} {y : PP} (h : 0 ≤ y.2.2.2.1 ∧ y.2.2.2.1 ≤ 9) : 0 ≤ (rSt b n t y).2.2.2.2.1 ∧ (rSt b n t y).2.2.2.2.1 ≤ 9 := by
  obtain ⟨⟨a, v, z⟩, he, gu, fr, bb⟩ := y
  have h2 : 0 ≤ fr ∧ fr ≤ 9 := h
  by_cases w1 : tW b t wRow = 1
  · rw [show rSt b n t ((a, v, z), he, gu, fr, bb) = _ from if_pos w1]; exact h2
  · by_cases w2 : tW b t wGutter = 1
    · rw [show rSt b n t ((a, v, z), he, gu, fr, bb) = _ from (if_neg w1).trans (if_pos w2)]; exact h2
    · by_cases w3 : tW b t wBoots = 1
      · rw [show rSt b n t ((a, v, z), he, gu, fr, bb) = _ from (if_neg w1).trans ((if_neg w2).trans (if_pos w3))]; exact h2
      · by_cases w4 : tW b t wRain = 1
        · rw [show rSt b n t ((a, v, z), he, gu, fr, bb) = _ from (if_neg w1).trans ((if_neg w2).trans ((if_neg w3).trans (if_pos w4)))]
          show 0 ≤ (rRn b n t fr).2 ∧ (rRn b n t fr).2 ≤ 9
          unfold rRn
          split
          · rename_i c
            exact tnC_in c
          · exact h2
        · rw [show rSt b n t ((a, v, z), he, gu, fr, bb) = _ from (if_neg w1).trans ((if_neg w2).trans ((if_neg w3).trans (if_neg w4)))]; exact h2
theorem rSs_fr {b : Nat → Int32} : ∀ (f : Nat) {t : TT} {y : PP}, (0 ≤ y.2.2.2.1 ∧ y.2.2.2.1 ≤ 9) → 0 ≤ (rSs b n f t y).2.2.2.2.1 ∧ (rSs b n f t y).2.2.2.2.1 ≤ 9
  | 0, _, _, h => h
  | f + 1, t, y, h => by
    have e : rSs b n (f + 1) t y = if t.2.1 = 0 then ((1, t), y) else if (rSt b n t y).1.1 = 0 then rSt b n t y else rSs b n f (tNx b n (rSt b n t y).1.2) (rSt b n t y).2 := rfl
    rw [e]
    by_cases c1 : t.2.1 = 0
    · rw [if_pos c1]; exact h
    · rw [if_neg c1]
      by_cases c2 : (rSt b n t y).1.1 = 0
      · rw [if_pos c2]; exact rSt_fr h
      · rw [if_neg c2]; exact rSs_fr f (rSt_fr h)
theorem rFr_fr {b : Nat → Int32} {t : TT} {bb : BB} {he : Nat → Int32} : 0 ≤ (rFr b n t bb he).2.2.2.2.1 ∧ (rFr b n t bb he).2.2.2.2.1 ≤ 9 := by
  have hy := rSs_fr (b := b) (n := n) 600 (t := tNx b n (0, t.2.1, t.2.2.1, t.2.2.2.1, 0, -1)) (y := ((0, 0, 0), he, (fun _ => 0), 0, (0, bb.2))) ⟨Int32.le_refl _, (by decide : (0 : Int32) ≤ 9)⟩
  by_cases h1 : (rFy b n t bb he).1.1 = 0
  · rw [rFr_0 h1]; exact hy
  · by_cases h2 : (rFy b n t bb he).2.1.1 < 2
    · rw [rFr_1 h1 h2]; exact hy
    · rw [rFr_2 h1 h2]; exact hy
theorem ws_0 : ∀ n, ws (fun _ => 0) n = 0
  | 0 => rfl
  | n + 1 => by
    show ws (fun _ => 0) n + 0 = 0
    rw [ws_0 n]; rfl
theorem gd_st {T : Nat → Nat → Int32} (hx : PIv x) (hf : 0 ≤ x.2.2.2.1 ∧ x.2.2.2.1 ≤ 9) (hL : 0 ≤ L) : gd x (stT x T) L := by
  have z0 : NN x.1.2.2 (fun _ => 0) L := ⟨fun _ _ => Int.le_refl 0, by rw [ws_0]; exact hL⟩
  have z1 : NN x.1.2.2 (fun _ => 0) (1856 * (0 : Int32).toInt) := ⟨fun _ _ => Int.le_refl 0, by rw [ws_0]; decide⟩
  exact ⟨⟨⟨⟨i_le.mp hf.1, i_le.mp hf.2⟩, fun _ _ => ⟨Int.le_refl 0, by show (0 : Int) ≤ 20; decide⟩, fun _ _ => ⟨Int.le_refl 0, by show (0 : Int) ≤ 60; decide⟩, fun _ _ => Iff.rfl, z1⟩, ⟨Int.le_refl 0, by show (0 : Int) ≤ 999; decide⟩, z0⟩, hx.2.2.2.2.2.2, fun i _ => by show fits .boolean (.int 0) = true; rfl⟩
theorem RL_load1 (H : RLw x M R L q BP be nm A0 B0 n bs u o h k) (hL : 0 ≤ L) {r : Option AV} (hb : lsOk R R2 (lsR M (35 - q) bs n u) r) : ∃ A1, RLw (lsR M (35 - q) bs n u).2 (lsN M (35 - q) q B0 bs n u) R2 L (35 - q) (M (35 - q)) (rFb (lsR M (35 - q) bs n u) (M (35 - q) 3)) (M (35 - q) 4) A1 B0 0 bs (lsR M (35 - q) bs n u).1.2 o 0 k := by
  obtain ⟨a1, a2, a3, a4, a5, a6, a7, a8⟩ := H
  have hq0 := a1.1
  obtain ⟨b1, b2, ⟨c3, c4, c10, c25, c26, c6, c11⟩, ⟨A1, b4⟩, b5, b6, b7, b8, b9, b10, b11, b12⟩ := hb
  refine ⟨A1, ?_⟩
  have hfr : 0 ≤ (lsR M (35 - q) bs n u).2.2.2.2.1 ∧ (lsR M (35 - q) bs n u).2.2.2.2.1 ≤ 9 := rFr_fr
  have hpv : 2 ≤ (lsR M (35 - q) bs n u).2.1.2.1 := by
    rcases b11.2.2.2.1 with c | c
    · omega
    · exact c
  have hj : ∀ {j : Nat}, j ≠ 0 → j ≠ 1 → j ≠ 3 → j ≠ 6 → j ≠ 35 - q → lsN M (35 - q) q B0 bs n u j = M j := fun h0 h1 h3 h6 h9 => by
    unfold lsN isM pdM lsM
    rw [setm_n h0, setm_n h6, setm_n h3, setm_n h0, setm_n h0, setm_n h1, setm_n h9]
  have e1 : lsN M (35 - q) q B0 bs n u 1 = vTx B0 0 bs (lsR M (35 - q) bs n u).1.2 := by
    unfold lsN isM pdM lsM
    rw [setm_n (by decide), setm_n (by decide), setm_n (by decide), setm_n (by decide), setm_n (by decide), setm_s]
  have e3 : lsN M (35 - q) q B0 bs n u 3 = stT (lsR M (35 - q) bs n u).2 (M 3) := by
    unfold lsN isM
    rw [setm_n (by decide), setm_n (by decide), setm_s]
  have e6 : lsN M (35 - q) q B0 bs n u 6 = vH (M 6) (M 6 0 1) 0 (M 6 1) := by
    unfold lsN isM
    rw [setm_n (by decide), setm_s]
  have es : lsN M (35 - q) q B0 bs n u (35 - q) = lsP M (35 - q) bs n u := by
    unfold lsN isM pdM lsM
    rw [setm_n (by omega), setm_n (by omega), setm_n (by omega), setm_n (by omega), setm_n (by omega), setm_n (by omega), setm_s]
  have hL0 : lsM M (35 - q) B0 bs n u 0 = M 0 := by
    unfold lsM
    rw [setm_n (by decide), setm_n (by omega)]
  have e0 : ∀ f, lsN M (35 - q) q B0 bs n u 0 0 f = if f = 11 then 0 else if f = 10 then nI q else if f = 9 then nI (35 - q) else M 0 0 f := by
    intro f
    show (if f = 11 then (0 : Int32) else if f = 10 then nI q else if f = 9 then nI (35 - q) else lsM M (35 - q) B0 bs n u 0 0 f) = _
    rw [hL0]
  have e09 : lsN M (35 - q) q B0 bs n u 0 9 = M 0 9 := by
    show lsM M (35 - q) B0 bs n u 0 9 = M 0 9
    rw [hL0]
  unfold RLw
  rw [e0 9, e0 10, e0 11, e0 12, e09, e1, e3, e6, hj (j := 5) (by omega) (by omega) (by omega) (by omega) (by omega), es, c3, c10, c25, c26, c11, b4, b5, b6, b7, b8, b9, b10]
  refine ⟨⟨by omega, ?_, ?_, rfl⟩, ⟨b11, ⟨b12, hpv⟩, rFb_be b1 b11⟩, ⟨gd_st b11 hfr hL, stT_z⟩, ⟨rfl, Nat.zero_le _, a4.2.2.1, fun i hi => absurd hi (Nat.not_lt_zero i), rfl, rfl, rfl⟩, ⟨a5.1, rfl, a5.2.2.1, Nat.zero_le _, HR_0, rfl⟩, ?_, ⟨rfl, a7.2.1, fun c => absurd rfl c⟩, a8⟩
  · show (nI (35 - q)).toNatClampNeg = 35 - q
    exact nI_clamp (by omega)
  · show (nI q).toNatClampNeg = 35 - (35 - q)
    rw [nI_clamp (by omega)]
    omega
  · intro z hz
    rw [hj (by omega) (by omega) (by omega) (by omega) (by omega)]
    exact a6 z hz
end RLT
