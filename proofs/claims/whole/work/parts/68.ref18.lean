/-! puddles and ways of the reference: one cell's step -/
abbrev LC : Type := (Nat → Int32) × Int32
def spN (nb : Nat → Nat → Option Nat) (c : Nat) (ls : Nat → Int32) : Nat → LC
  | 0 => (ls, 0)
  | d + 1 => match nb c d with
    | none => spN nb c ls d
    | some o => if ¬ (spN nb c ls d).1 o = -1 ∧ (spN nb c ls d).1 o < (spN nb c ls d).1 c then (upd (spN nb c ls d).1 c ((spN nb c ls d).1 o), 1) else spN nb c ls d
def stN (nb : Nat → Nat → Option Nat) (w : Nat → Int32) (h : Int32) (c : Nat) (st : Nat → Int32) : Nat → LC
  | 0 => (st, 0)
  | d + 1 => match nb c d with
    | none => stN nb w h c st d
    | some o => if (stN nb w h c st d).1 o = -1 ∧ w o ≤ h then (upd (stN nb w h c st d).1 o ((stN nb w h c st d).1 c + 1), 1) else stN nb w h c st d
section SPN
variable {nb : Nat → Nat → Option Nat} {w ls : Nat → Int32} {h : Int32} {c d o : Nat}
theorem spN_n (hz : nb c d = none) : spN nb c ls (d + 1) = spN nb c ls d := by simp only [spN, hz]
theorem spN_0 (hz : nb c d = some o) (hh : ¬ (¬ (spN nb c ls d).1 o = -1 ∧ (spN nb c ls d).1 o < (spN nb c ls d).1 c)) : spN nb c ls (d + 1) = spN nb c ls d := by simp only [spN, hz]; exact if_neg hh
theorem spN_1 (hz : nb c d = some o) (h1 : ¬ (spN nb c ls d).1 o = -1) (h2 : (spN nb c ls d).1 o < (spN nb c ls d).1 c) : spN nb c ls (d + 1) = (upd (spN nb c ls d).1 c ((spN nb c ls d).1 o), 1) := by simp only [spN, hz]; exact if_pos ⟨h1, h2⟩
theorem stN_n (hz : nb c d = none) : stN nb w h c ls (d + 1) = stN nb w h c ls d := by simp only [stN, hz]
theorem stN_0 (hz : nb c d = some o) (hh : ¬ ((stN nb w h c ls d).1 o = -1 ∧ w o ≤ h)) : stN nb w h c ls (d + 1) = stN nb w h c ls d := by simp only [stN, hz]; exact if_neg hh
theorem stN_1 (hz : nb c d = some o) (h1 : (stN nb w h c ls d).1 o = -1) (h2 : w o ≤ h) : stN nb w h c ls (d + 1) = (upd (stN nb w h c ls d).1 o ((stN nb w h c ls d).1 c + 1), 1) := by simp only [stN, hz]; exact if_pos ⟨h1, h2⟩
theorem spN_b : ∀ d, narrow .boolean (.int (spN nb c ls d).2) = .int (spN nb c ls d).2
  | 0 => bn_0
  | d + 1 => by
    cases hz : nb c d with
    | none => rw [spN_n hz]; exact spN_b d
    | some o =>
      by_cases hh : ¬ (spN nb c ls d).1 o = -1 ∧ (spN nb c ls d).1 o < (spN nb c ls d).1 c
      · rw [spN_1 hz hh.1 hh.2]; exact bn_1
      · rw [spN_0 hz hh]; exact spN_b d
theorem stN_b : ∀ d, narrow .boolean (.int (stN nb w h c ls d).2) = .int (stN nb w h c ls d).2
  | 0 => bn_0
  | d + 1 => by
    cases hz : nb c d with
    | none => rw [stN_n hz]; exact stN_b d
    | some o =>
      by_cases hh : (stN nb w h c ls d).1 o = -1 ∧ w o ≤ h
      · rw [stN_1 hz hh.1 hh.2]; exact bn_1
      · rw [stN_0 hz hh]; exact stN_b d
end SPN
theorem ar_a23 {M : Mem} {S : Nat → Int32} : ar 23 M S 0 23 = S := rfl
theorem ar_a24 {M : Mem} {S : Nat → Int32} : ar 24 M S 0 24 = S := rfl
set_option maxRecDepth 100000 in
set_option maxHeartbeats 8000000 in
theorem sp_X10_spreads (l : Launch) (G : GT) (A0 : Nat → Int32) (x : PP) (T : Nat → Nat → Int32) (c : Nat) (ls : Nat → Int32) (M : Mem) (hA : M 0 1 = enc A0 x T) (hx : PIv x) (hc : c < x.1.2.2) (hL : M 0 23 = ls) : MC l G yX10_spreads cX10_spreads 5 (some .boolean) ({ frames := 2, cells := 0, slots := 0, locals := 52 } : Room) [9] lk0 [rv 0 0, iv (nI c)] (M) (fun r M2 => r = some (iv (spN (nbx x) c ls 4).2) ∧ M2 = ar 23 M (spN (nbx x) c ls 4).1) := by
  refine MC.of RX10 [some (rv 0 0), some (iv (nI c)), none, none, none] 3 (by decide +kernel) rfl rfl rfl ?_
  intro pp ee ss mm aa bb me cd ad E
  obtain ⟨M0, rfl, hA0⟩ : ∃ M0, M = ar 23 M0 ls ∧ M0 0 1 = enc A0 x T := ⟨M, (ar_of hL).symm, hA⟩
  clear hL hA
  have hn64 := (PIv_z hx).1
  
  refine r_iconst (v := 0) E (dat dkX10_spreads 0 rfl) rfl ?_
  refine r_istore_2 E (dat dkX10_spreads 1 rfl) rfl rfl ?_
  refine r_iconst (v := 0) E (dat dkX10_spreads 2 rfl) rfl ?_
  refine r_istore_3 E (dat dkX10_spreads 3 rfl) rfl rfl ?_
  refine r_for (4) (fun _ => True) (fun i => ar 23 M0 (spN (nbx x) c ls i).1) (fun i => [some (rv 0 0), some (iv (nI c)), some (iv (spN (nbx x) c ls i).2), some (iv (nI i)), none]) trivial rfl rfl ?_ ?_
  · intro i hi hI kk
    refine r_iload_n E (dat dkX10_spreads 4 rfl) rfl rfl ?_
    refine r_iconst (v := 4) E (dat dkX10_spreads 5 rfl) rfl ?_
    refine q_icmp_ge (tgt := 71) E (dat dkX10_spreads 6 rfl) rfl rfl (b := 4) rfl (by omega) (by omega) (fun h6 => ?_) (fun h6 => ?_)
    ·
      omega
    ·
      refine r_aload_n E (dat dkX10_spreads 7 rfl) rfl rfl ?_
      refine r_iload_n E (dat dkX10_spreads 8 rfl) rfl rfl ?_
      refine r_iload_n E (dat dkX10_spreads 9 rfl) rfl rfl ?_
      refine r_callV (κ := 9) (μ := []) E (sp_X10_beside l G x.1.1 x.1.2.1 c i _ (enc A0 x T) hA0 rfl rfl hx.1 hx.2.1 (by have := hx.2.2.1; omega) hi) my_X10_beside iv_X10_beside ml_X10_84 cm_id ⟨by decide, rfl, rfl⟩ rfl rfl rfl rfl (by decide) (Nat.le_of_ble_eq_true rfl) (dat dkX10_spreads 10 rfl) ?_
      rintro _ _ ⟨rfl, rfl⟩
      refine ⟨_, Mrg_z rfl, ?_⟩
      rw [show gnb x.1.1 x.1.2.1 c i = nbx x c i from rfl]
      rcases hz : nbx x c i with _ | o
      ·
        refine r_istore_4 E (dat dkX10_spreads 11 rfl) rfl rfl ?_
        refine r_iload E (dat dkX10_spreads 12 rfl) rfl ?_
        refine r_iconst (v := -1) E (dat dkX10_spreads 13 rfl) rfl ?_
        refine r_icmp_eq (tgt := 65) E (dat dkX10_spreads 14 rfl) rfl (fun h20 => ?_) (fun h20 => ?_)
        ·
          refine q_iinc_3 E (dat dkX10_spreads 40 rfl) rfl rfl ?_
          refine r_goto (tgt := 4) E (dat dkX10_spreads 41 rfl) rfl ?_
          first
            | (rw [spN_n hz] at kk; refine r_back rfl ?_ (kk trivial); exact (And.intro rfl (And.intro rfl (And.intro rfl (And.intro rfl trivial)))))
            | (rw [spN_0 hz (fun q => q.1 h31)] at kk; refine r_back rfl ?_ (kk trivial); exact (And.intro rfl (And.intro rfl (And.intro rfl (And.intro rfl trivial)))))
            | (rw [spN_0 hz (fun q => absurd q.2 (Int32.not_lt.mpr h47))] at kk; refine r_back rfl ?_ (kk trivial); exact (And.intro rfl (And.intro rfl (And.intro rfl (And.intro rfl trivial)))))
            | (rw [spN_1 hz h31 (by first | exact h47 | exact Int32.not_le.mp h47)] at kk; refine r_back rfl ?_ (kk trivial); exact (And.intro rfl (And.intro rfl (And.intro rfl (And.intro rfl trivial)))))
        ·
          exact absurd rfl h20
      ·
        have ho := nbx_lt hx c i o hz
        refine r_istore_4 E (dat dkX10_spreads 11 rfl) rfl rfl ?_
        refine r_iload E (dat dkX10_spreads 12 rfl) rfl ?_
        refine r_iconst (v := -1) E (dat dkX10_spreads 13 rfl) rfl ?_
        refine r_icmp_eq (tgt := 65) E (dat dkX10_spreads 14 rfl) rfl (fun h20 => ?_) (fun h20 => ?_)
        ·
          exact absurd h20 (oI_nm (by omega))
        ·
          refine r_aload_n E (dat dkX10_spreads 15 rfl) rfl rfl ?_
          refine q_geta E fl_X10_39 (dat dkX10_spreads 16 rfl) rfl rfl rfl ?_
          refine r_iload E (dat dkX10_spreads 17 rfl) rfl ?_
          refine q_iald E (dat dkX10_spreads 18 rfl) rfl rfl (by decide) ar_a23 rfl (by omega) ?_
          refine r_iconst (v := -1) E (dat dkX10_spreads 19 rfl) rfl ?_
          refine r_icmp_eq (tgt := 65) E (dat dkX10_spreads 20 rfl) rfl (fun h31 => ?_) (fun h31 => ?_)
          ·
            refine q_iinc_3 E (dat dkX10_spreads 40 rfl) rfl rfl ?_
            refine r_goto (tgt := 4) E (dat dkX10_spreads 41 rfl) rfl ?_
            first
              | (rw [spN_n hz] at kk; refine r_back rfl ?_ (kk trivial); exact (And.intro rfl (And.intro rfl (And.intro rfl (And.intro rfl trivial)))))
              | (rw [spN_0 hz (fun q => q.1 h31)] at kk; refine r_back rfl ?_ (kk trivial); exact (And.intro rfl (And.intro rfl (And.intro rfl (And.intro rfl trivial)))))
              | (rw [spN_0 hz (fun q => absurd q.2 (Int32.not_lt.mpr h47))] at kk; refine r_back rfl ?_ (kk trivial); exact (And.intro rfl (And.intro rfl (And.intro rfl (And.intro rfl trivial)))))
              | (rw [spN_1 hz h31 (by first | exact h47 | exact Int32.not_le.mp h47)] at kk; refine r_back rfl ?_ (kk trivial); exact (And.intro rfl (And.intro rfl (And.intro rfl (And.intro rfl trivial)))))
          ·
            refine r_aload_n E (dat dkX10_spreads 21 rfl) rfl rfl ?_
            refine q_geta E fl_X10_39 (dat dkX10_spreads 22 rfl) rfl rfl rfl ?_
            refine r_iload E (dat dkX10_spreads 23 rfl) rfl ?_
            refine q_iald E (dat dkX10_spreads 24 rfl) rfl rfl (by decide) ar_a23 rfl (by omega) ?_
            refine r_aload_n E (dat dkX10_spreads 25 rfl) rfl rfl ?_
            refine q_geta E fl_X10_39 (dat dkX10_spreads 26 rfl) rfl rfl rfl ?_
            refine r_iload_n E (dat dkX10_spreads 27 rfl) rfl rfl ?_
            refine q_iald E (dat dkX10_spreads 28 rfl) rfl rfl (by decide) ar_a23 rfl (by omega) ?_
            refine r_icmp_ge (tgt := 65) E (dat dkX10_spreads 29 rfl) rfl (fun h47 => ?_) (fun h47 => ?_)
            ·
              refine q_iinc_3 E (dat dkX10_spreads 40 rfl) rfl rfl ?_
              refine r_goto (tgt := 4) E (dat dkX10_spreads 41 rfl) rfl ?_
              first
                | (rw [spN_n hz] at kk; refine r_back rfl ?_ (kk trivial); exact (And.intro rfl (And.intro rfl (And.intro rfl (And.intro rfl trivial)))))
                | (rw [spN_0 hz (fun q => q.1 h31)] at kk; refine r_back rfl ?_ (kk trivial); exact (And.intro rfl (And.intro rfl (And.intro rfl (And.intro rfl trivial)))))
                | (rw [spN_0 hz (fun q => absurd q.2 (Int32.not_lt.mpr h47))] at kk; refine r_back rfl ?_ (kk trivial); exact (And.intro rfl (And.intro rfl (And.intro rfl (And.intro rfl trivial)))))
                | (rw [spN_1 hz h31 (by first | exact h47 | exact Int32.not_le.mp h47)] at kk; refine r_back rfl ?_ (kk trivial); exact (And.intro rfl (And.intro rfl (And.intro rfl (And.intro rfl trivial)))))
            ·
              refine r_aload_n E (dat dkX10_spreads 30 rfl) rfl rfl ?_
              refine q_geta E fl_X10_39 (dat dkX10_spreads 31 rfl) rfl rfl rfl ?_
              refine r_iload_n E (dat dkX10_spreads 32 rfl) rfl rfl ?_
              refine r_aload_n E (dat dkX10_spreads 33 rfl) rfl rfl ?_
              refine q_geta E fl_X10_39 (dat dkX10_spreads 34 rfl) rfl rfl rfl ?_
              refine r_iload E (dat dkX10_spreads 35 rfl) rfl ?_
              refine q_iald E (dat dkX10_spreads 36 rfl) rfl rfl (by decide) ar_a23 rfl (by omega) ?_
              refine q_iast E (dat dkX10_spreads 37 rfl) rfl rfl (by decide) ar_a23 (fun _ => ar_s) rfl (by omega) ?_
              refine r_iconst (v := 1) E (dat dkX10_spreads 38 rfl) rfl ?_
              refine r_istore_2 E (dat dkX10_spreads 39 rfl) rfl rfl ?_
              refine q_iinc_3 E (dat dkX10_spreads 40 rfl) rfl rfl ?_
              refine r_goto (tgt := 4) E (dat dkX10_spreads 41 rfl) rfl ?_
              first
                | (rw [spN_n hz] at kk; refine r_back rfl ?_ (kk trivial); exact (And.intro rfl (And.intro rfl (And.intro rfl (And.intro rfl trivial)))))
                | (rw [spN_0 hz (fun q => q.1 h31)] at kk; refine r_back rfl ?_ (kk trivial); exact (And.intro rfl (And.intro rfl (And.intro rfl (And.intro rfl trivial)))))
                | (rw [spN_0 hz (fun q => absurd q.2 (Int32.not_lt.mpr h47))] at kk; refine r_back rfl ?_ (kk trivial); exact (And.intro rfl (And.intro rfl (And.intro rfl (And.intro rfl trivial)))))
                | (rw [spN_1 hz h31 (by first | exact h47 | exact Int32.not_le.mp h47)] at kk; refine r_back rfl ?_ (kk trivial); exact (And.intro rfl (And.intro rfl (And.intro rfl (And.intro rfl trivial)))))
  · intro hI
    refine r_iload_n E (dat dkX10_spreads 4 rfl) rfl rfl ?_
    refine r_iconst (v := 4) E (dat dkX10_spreads 5 rfl) rfl ?_
    refine q_icmp_ge (tgt := 71) E (dat dkX10_spreads 6 rfl) rfl rfl (b := 4) rfl (by omega) (by omega) (fun h6 => ?_) (fun h6 => ?_)
    ·
      refine r_iload_n E (dat dkX10_spreads 42 rfl) rfl rfl ?_
      refine r_zreturn E (dat dkX10_spreads 43 rfl) (spN_b 4) (by decide) (by decide) ?_
      exact ⟨rfl, by rw [ar_ar]⟩
    ·
      omega

set_option maxRecDepth 100000 in
set_option maxHeartbeats 8000000 in
theorem sp_X10_stepsOn (l : Launch) (G : GT) (A0 : Nat → Int32) (x : PP) (T : Nat → Nat → Int32) (c : Nat) (h : Int32) (ls : Nat → Int32) (M : Mem) (hA : M 0 1 = enc A0 x T) (hx : PIv x) (hc : c < x.1.2.2) (hL : M 0 24 = ls) : MC l G yX10_stepsOn cX10_stepsOn 7 (some .boolean) ({ frames := 2, cells := 0, slots := 0, locals := 52 } : Room) [9] lk0 [rv 0 0, iv (nI c), iv h] (M) (fun r M2 => r = some (iv (stN (nbx x) (T 1) h c ls 4).2) ∧ M2 = ar 24 M (stN (nbx x) (T 1) h c ls 4).1) := by
  refine MC.of RX10 [some (rv 0 0), some (iv (nI c)), some (iv h), none, none, none, none] 4 (by decide +kernel) rfl rfl rfl ?_
  intro pp ee ss mm aa bb me cd ad E
  obtain ⟨M0, rfl, hA0⟩ : ∃ M0, M = ar 24 M0 ls ∧ M0 0 1 = enc A0 x T := ⟨M, (ar_of hL).symm, hA⟩
  clear hL hA
  have hn64 := (PIv_z hx).1
  
  refine r_iconst (v := 0) E (dat dkX10_stepsOn 0 rfl) rfl ?_
  refine r_istore_3 E (dat dkX10_stepsOn 1 rfl) rfl rfl ?_
  refine r_iconst (v := 0) E (dat dkX10_stepsOn 2 rfl) rfl ?_
  refine r_istore_4 E (dat dkX10_stepsOn 3 rfl) rfl rfl ?_
  refine r_for (4) (fun _ => True) (fun i => ar 24 M0 (stN (nbx x) (T 1) h c ls i).1) (fun i => [some (rv 0 0), some (iv (nI c)), some (iv h), some (iv (stN (nbx x) (T 1) h c ls i).2), some (iv (nI i)), none, none]) trivial rfl rfl ?_ ?_
  · intro i hi hI kk
    refine r_iload E (dat dkX10_stepsOn 4 rfl) rfl ?_
    refine r_iconst (v := 4) E (dat dkX10_stepsOn 5 rfl) rfl ?_
    refine q_icmp_ge (tgt := 83) E (dat dkX10_stepsOn 6 rfl) rfl rfl (b := 4) rfl (by omega) (by omega) (fun h8 => ?_) (fun h8 => ?_)
    ·
      omega
    ·
      refine r_aload_n E (dat dkX10_stepsOn 7 rfl) rfl rfl ?_
      refine r_iload_n E (dat dkX10_stepsOn 8 rfl) rfl rfl ?_
      refine r_iload E (dat dkX10_stepsOn 9 rfl) rfl ?_
      refine r_callV (κ := 9) (μ := []) E (sp_X10_beside l G x.1.1 x.1.2.1 c i _ (enc A0 x T) hA0 rfl rfl hx.1 hx.2.1 (by have := hx.2.2.1; omega) hi) my_X10_beside iv_X10_beside ml_X10_84 cm_id ⟨by decide, rfl, rfl⟩ rfl rfl rfl rfl (by decide) (Nat.le_of_ble_eq_true rfl) (dat dkX10_stepsOn 10 rfl) ?_
      rintro _ _ ⟨rfl, rfl⟩
      refine ⟨_, Mrg_z rfl, ?_⟩
      rw [show gnb x.1.1 x.1.2.1 c i = nbx x c i from rfl]
      rcases hz : nbx x c i with _ | o
      ·
        refine r_istore_5 E (dat dkX10_stepsOn 11 rfl) rfl rfl ?_
        refine r_iload E (dat dkX10_stepsOn 12 rfl) rfl ?_
        refine r_iconst (v := -1) E (dat dkX10_stepsOn 13 rfl) rfl ?_
        refine r_icmp_eq (tgt := 52) E (dat dkX10_stepsOn 14 rfl) rfl (fun h23 => ?_) (fun h23 => ?_)
        ·
          refine r_iconst (v := 0) E (dat dkX10_stepsOn 29 rfl) rfl ?_
          refine r_istore_6 E (dat dkX10_stepsOn 30 rfl) rfl rfl ?_
          refine r_iload E (dat dkX10_stepsOn 31 rfl) rfl ?_
          refine r_if_eq (tgt := 77) E (dat dkX10_stepsOn 32 rfl) rfl (fun h57 => ?_) (fun h57 => ?_)
          ·
            refine q_iinc_4 E (dat dkX10_stepsOn 45 rfl) rfl rfl ?_
            refine r_goto (tgt := 5) E (dat dkX10_stepsOn 46 rfl) rfl ?_
            first
              | (rw [stN_n hz] at kk; refine r_back rfl ?_ (kk trivial); exact (And.intro rfl (And.intro rfl (And.intro rfl (And.intro rfl (And.intro rfl trivial))))))
              | (rw [stN_1 hz (by first | exact h34 | exact Decidable.not_not.mp h34) (by first | exact h45 | exact Int32.not_lt.mp h45)] at kk; refine r_back rfl ?_ (kk trivial); exact (And.intro rfl (And.intro rfl (And.intro rfl (And.intro rfl (And.intro rfl trivial))))))
              | (rw [stN_0 hz (fun q => absurd q.2 (by first | exact Int32.not_le.mpr h45 | exact h45))] at kk; refine r_back rfl ?_ (kk trivial); exact (And.intro rfl (And.intro rfl (And.intro rfl (And.intro rfl (And.intro rfl trivial))))))
              | (rw [stN_0 hz (fun q => h34 q.1)] at kk; refine r_back rfl ?_ (kk trivial); exact (And.intro rfl (And.intro rfl (And.intro rfl (And.intro rfl (And.intro rfl trivial))))))
          ·
            first
              | exact absurd h57 (by decide)
              | exact absurd rfl h57
              | exact absurd (by decide) h57
        ·
          exact absurd rfl h23
      ·
        have ho := nbx_lt hx c i o hz
        refine r_istore_5 E (dat dkX10_stepsOn 11 rfl) rfl rfl ?_
        refine r_iload E (dat dkX10_stepsOn 12 rfl) rfl ?_
        refine r_iconst (v := -1) E (dat dkX10_stepsOn 13 rfl) rfl ?_
        refine r_icmp_eq (tgt := 52) E (dat dkX10_stepsOn 14 rfl) rfl (fun h23 => ?_) (fun h23 => ?_)
        ·
          exact absurd h23 (oI_nm (by omega))
        ·
          refine r_aload_n E (dat dkX10_stepsOn 15 rfl) rfl rfl ?_
          refine q_geta E fl_X10_42 (dat dkX10_stepsOn 16 rfl) rfl rfl rfl ?_
          refine r_iload E (dat dkX10_stepsOn 17 rfl) rfl ?_
          refine q_iald E (dat dkX10_stepsOn 18 rfl) rfl rfl (by decide) ar_a24 rfl (by omega) ?_
          refine r_iconst (v := -1) E (dat dkX10_stepsOn 19 rfl) rfl ?_
          refine r_icmp_ne (tgt := 52) E (dat dkX10_stepsOn 20 rfl) rfl (fun h34 => ?_) (fun h34 => ?_)
          ·
            refine r_iconst (v := 0) E (dat dkX10_stepsOn 29 rfl) rfl ?_
            refine r_istore_6 E (dat dkX10_stepsOn 30 rfl) rfl rfl ?_
            refine r_iload E (dat dkX10_stepsOn 31 rfl) rfl ?_
            refine r_if_eq (tgt := 77) E (dat dkX10_stepsOn 32 rfl) rfl (fun h57 => ?_) (fun h57 => ?_)
            ·
              refine q_iinc_4 E (dat dkX10_stepsOn 45 rfl) rfl rfl ?_
              refine r_goto (tgt := 5) E (dat dkX10_stepsOn 46 rfl) rfl ?_
              first
                | (rw [stN_n hz] at kk; refine r_back rfl ?_ (kk trivial); exact (And.intro rfl (And.intro rfl (And.intro rfl (And.intro rfl (And.intro rfl trivial))))))
                | (rw [stN_1 hz (by first | exact h34 | exact Decidable.not_not.mp h34) (by first | exact h45 | exact Int32.not_lt.mp h45)] at kk; refine r_back rfl ?_ (kk trivial); exact (And.intro rfl (And.intro rfl (And.intro rfl (And.intro rfl (And.intro rfl trivial))))))
                | (rw [stN_0 hz (fun q => absurd q.2 (by first | exact Int32.not_le.mpr h45 | exact h45))] at kk; refine r_back rfl ?_ (kk trivial); exact (And.intro rfl (And.intro rfl (And.intro rfl (And.intro rfl (And.intro rfl trivial))))))
                | (rw [stN_0 hz (fun q => h34 q.1)] at kk; refine r_back rfl ?_ (kk trivial); exact (And.intro rfl (And.intro rfl (And.intro rfl (And.intro rfl (And.intro rfl trivial))))))
            ·
              first
                | exact absurd h57 (by decide)
                | exact absurd rfl h57
                | exact absurd (by decide) h57
          ·
            refine r_aload_n E (dat dkX10_stepsOn 21 rfl) rfl rfl ?_
            refine r_iload E (dat dkX10_stepsOn 22 rfl) rfl ?_
            refine r_iconst (v := 1) E (dat dkX10_stepsOn 23 rfl) rfl ?_
            refine r_callV (κ := 9) (μ := []) E (sp_X10_get l G o 1 _ (enc A0 x T) hA0 (by omega) (by decide)) my_X10_get iv_X10_get ml_X10_76 cm_id ⟨by decide, rfl, rfl⟩ rfl rfl rfl rfl (by decide) (Nat.le_of_ble_eq_true rfl) (dat dkX10_stepsOn 24 rfl) ?_
            rintro _ _ ⟨rfl, rfl⟩
            refine ⟨_, Mrg_z rfl, ?_⟩
            rw [e_w ho hn64]
            refine r_iload_n E (dat dkX10_stepsOn 25 rfl) rfl rfl ?_
            refine r_icmp_gt (tgt := 52) E (dat dkX10_stepsOn 26 rfl) rfl (fun h45 => ?_) (fun h45 => ?_)
            ·
              refine r_iconst (v := 0) E (dat dkX10_stepsOn 29 rfl) rfl ?_
              refine r_istore_6 E (dat dkX10_stepsOn 30 rfl) rfl rfl ?_
              refine r_iload E (dat dkX10_stepsOn 31 rfl) rfl ?_
              refine r_if_eq (tgt := 77) E (dat dkX10_stepsOn 32 rfl) rfl (fun h57 => ?_) (fun h57 => ?_)
              ·
                refine q_iinc_4 E (dat dkX10_stepsOn 45 rfl) rfl rfl ?_
                refine r_goto (tgt := 5) E (dat dkX10_stepsOn 46 rfl) rfl ?_
                first
                  | (rw [stN_n hz] at kk; refine r_back rfl ?_ (kk trivial); exact (And.intro rfl (And.intro rfl (And.intro rfl (And.intro rfl (And.intro rfl trivial))))))
                  | (rw [stN_1 hz (by first | exact h34 | exact Decidable.not_not.mp h34) (by first | exact h45 | exact Int32.not_lt.mp h45)] at kk; refine r_back rfl ?_ (kk trivial); exact (And.intro rfl (And.intro rfl (And.intro rfl (And.intro rfl (And.intro rfl trivial))))))
                  | (rw [stN_0 hz (fun q => absurd q.2 (by first | exact Int32.not_le.mpr h45 | exact h45))] at kk; refine r_back rfl ?_ (kk trivial); exact (And.intro rfl (And.intro rfl (And.intro rfl (And.intro rfl (And.intro rfl trivial))))))
                  | (rw [stN_0 hz (fun q => h34 q.1)] at kk; refine r_back rfl ?_ (kk trivial); exact (And.intro rfl (And.intro rfl (And.intro rfl (And.intro rfl (And.intro rfl trivial))))))
              ·
                first
                  | exact absurd h57 (by decide)
                  | exact absurd rfl h57
                  | exact absurd (by decide) h57
            ·
              refine r_iconst (v := 1) E (dat dkX10_stepsOn 27 rfl) rfl ?_
              refine r_goto (tgt := 53) E (dat dkX10_stepsOn 28 rfl) rfl ?_
              refine r_istore_6 E (dat dkX10_stepsOn 30 rfl) rfl rfl ?_
              refine r_iload E (dat dkX10_stepsOn 31 rfl) rfl ?_
              refine r_if_eq (tgt := 77) E (dat dkX10_stepsOn 32 rfl) rfl (fun h57 => ?_) (fun h57 => ?_)
              ·
                first
                  | exact absurd h57 (by decide)
                  | exact absurd rfl h57
                  | exact absurd (by decide) h57
              ·
                refine r_aload_n E (dat dkX10_stepsOn 33 rfl) rfl rfl ?_
                refine q_geta E fl_X10_42 (dat dkX10_stepsOn 34 rfl) rfl rfl rfl ?_
                refine r_iload E (dat dkX10_stepsOn 35 rfl) rfl ?_
                refine r_aload_n E (dat dkX10_stepsOn 36 rfl) rfl rfl ?_
                refine q_geta E fl_X10_42 (dat dkX10_stepsOn 37 rfl) rfl rfl rfl ?_
                refine r_iload_n E (dat dkX10_stepsOn 38 rfl) rfl rfl ?_
                refine q_iald E (dat dkX10_stepsOn 39 rfl) rfl rfl (by decide) ar_a24 rfl (by omega) ?_
                refine r_iconst (v := 1) E (dat dkX10_stepsOn 40 rfl) rfl ?_
                refine r_iadd E (dat dkX10_stepsOn 41 rfl) ?_
                refine q_iast E (dat dkX10_stepsOn 42 rfl) rfl rfl (by decide) ar_a24 (fun _ => ar_s) rfl (by omega) ?_
                refine r_iconst (v := 1) E (dat dkX10_stepsOn 43 rfl) rfl ?_
                refine r_istore_3 E (dat dkX10_stepsOn 44 rfl) rfl rfl ?_
                refine q_iinc_4 E (dat dkX10_stepsOn 45 rfl) rfl rfl ?_
                refine r_goto (tgt := 5) E (dat dkX10_stepsOn 46 rfl) rfl ?_
                first
                  | (rw [stN_n hz] at kk; refine r_back rfl ?_ (kk trivial); exact (And.intro rfl (And.intro rfl (And.intro rfl (And.intro rfl (And.intro rfl trivial))))))
                  | (rw [stN_1 hz (by first | exact h34 | exact Decidable.not_not.mp h34) (by first | exact h45 | exact Int32.not_lt.mp h45)] at kk; refine r_back rfl ?_ (kk trivial); exact (And.intro rfl (And.intro rfl (And.intro rfl (And.intro rfl (And.intro rfl trivial))))))
                  | (rw [stN_0 hz (fun q => absurd q.2 (by first | exact Int32.not_le.mpr h45 | exact h45))] at kk; refine r_back rfl ?_ (kk trivial); exact (And.intro rfl (And.intro rfl (And.intro rfl (And.intro rfl (And.intro rfl trivial))))))
                  | (rw [stN_0 hz (fun q => h34 q.1)] at kk; refine r_back rfl ?_ (kk trivial); exact (And.intro rfl (And.intro rfl (And.intro rfl (And.intro rfl (And.intro rfl trivial))))))
  · intro hI
    refine r_iload E (dat dkX10_stepsOn 4 rfl) rfl ?_
    refine r_iconst (v := 4) E (dat dkX10_stepsOn 5 rfl) rfl ?_
    refine q_icmp_ge (tgt := 83) E (dat dkX10_stepsOn 6 rfl) rfl rfl (b := 4) rfl (by omega) (by omega) (fun h8 => ?_) (fun h8 => ?_)
    ·
      refine r_iload_n E (dat dkX10_stepsOn 47 rfl) rfl rfl ?_
      refine r_zreturn E (dat dkX10_stepsOn 48 rfl) (stN_b 4) (by decide) (by decide) ?_
      exact ⟨rfl, by rw [ar_ar]⟩
    ·
      omega
