/-! the reference: puddles -/
def gP (w : Nat → Int32) (c : Nat) : Int32 := if w c = 0 then -1 else nI c
theorem rI_0 {nb : Nat → Nat → Option Nat} {w ls : Nat → Int32} {n : Nat} (hw : ∀ c, c < n → 0 ≤ w c) : rI nb w n (fil (gP w) ls n) := by
  intro c hc
  have hf : fil (gP w) ls n c = gP w c := if_pos hc
  by_cases h : w c = 0
  · exact Or.inl ⟨h, by rw [hf]; exact if_pos h⟩
  · have h0 : 0 < w c := by
      rcases Int32.lt_or_eq_of_le (hw c hc) with q | q
      · exact q
      · exact absurd q.symm h
    exact Or.inr ⟨h0, c, 0, Nat.le_refl c, by rw [hf]; exact if_neg h, h0, rfl⟩
theorem kN64 {L : Nat → Int32} {n : Nat} (h : n ≤ 64) : kN (rp L) n ≤ 64 := Nat.le_trans (kN_le _ _) h
set_option maxRecDepth 100000 in
set_option maxHeartbeats 8000000 in
theorem sp_X10_findPuddles (l : Launch) (G : GT) (A0 : Nat → Int32) (x : PP) (T : Nat → Nat → Int32) (M : Mem) (hA : M 0 1 = enc A0 x T) (hx : PIv x) (hw0 : ∀ c, c < x.1.2.2 → 0 ≤ T 1 c) : MC l G yX10_findPuddles cX10_findPuddles 3 none ({ frames := 3, cells := 0, slots := 0, locals := 76 } : Room) [9] lk0 [rv 0 0] (M) (fun r M2 => r = none ∧ ∃ L, M2 = ar 23 M L ∧ PL (nbx x) (T 1) x.1.2.2 L) := by
  refine MC.of RX10 [some (rv 0 0), none, none] 2 (by decide +kernel) rfl rfl rfl ?_
  intro pp ee ss mm aa bb me cd ad E
  obtain ⟨ls, hL⟩ : ∃ ls, M 0 23 = ls := ⟨_, rfl⟩
  obtain ⟨M0, rfl, hA0⟩ : ∃ M0, M = ar 23 M0 ls ∧ M0 0 1 = enc A0 x T := ⟨M, (ar_of hL).symm, hA⟩
  clear hL hA
  have hn64 := (PIv_z hx).1
  
  refine r_iconst (v := 0) E (dat dkX10_findPuddles 0 rfl) rfl ?_
  refine r_istore_1 E (dat dkX10_findPuddles 1 rfl) rfl rfl ?_
  refine r_for (x.1.2.2) (fun _ => True) (fun i => ar 23 M0 (fil (gP (T 1)) ls i)) (fun i => [some (rv 0 0), some (iv (nI i)), none]) trivial (by rw [fil_0]) rfl ?_ ?_
  · intro i hi hI kk
    refine r_iload_n E (dat dkX10_findPuddles 2 rfl) rfl rfl ?_
    refine r_aload_n E (dat dkX10_findPuddles 3 rfl) rfl rfl ?_
    refine r_callV (κ := 9) (μ := []) E (sp_X10_cells l G _ (enc A0 x T) hA0) my_X10_cells iv_X10_cells ml_X10_115 cm_id ⟨by decide, rfl, rfl⟩ rfl rfl rfl rfl (by decide) (Nat.le_of_ble_eq_true rfl) (dat dkX10_findPuddles 4 rfl) ?_
    rintro _ _ ⟨rfl, rfl⟩
    refine ⟨_, Mrg_z rfl, ?_⟩
    rw [ce_x hx]
    refine q_icmp_ge (tgt := 35) E (dat dkX10_findPuddles 5 rfl) rfl rfl rfl (by omega) (by omega) (fun h7 => ?_) (fun h7 => ?_)
    ·
      omega
    ·
      refine r_aload_n E (dat dkX10_findPuddles 6 rfl) rfl rfl ?_
      refine q_geta E fl_X10_39 (dat dkX10_findPuddles 7 rfl) rfl rfl rfl ?_
      refine r_iload_n E (dat dkX10_findPuddles 8 rfl) rfl rfl ?_
      refine r_aload_n E (dat dkX10_findPuddles 9 rfl) rfl rfl ?_
      refine r_iload_n E (dat dkX10_findPuddles 10 rfl) rfl rfl ?_
      refine r_callV (κ := 9) (μ := []) E (sp_X10_isDry l G A0 x T i _ hA0 hx hi) my_X10_isDry iv_X10_isDry ml_X10_111 cm_id ⟨by decide, rfl, rfl⟩ rfl rfl rfl rfl (by decide) (Nat.le_of_ble_eq_true rfl) (dat dkX10_findPuddles 11 rfl) ?_
      rintro _ _ ⟨rfl, rfl⟩
      refine ⟨_, Mrg_z rfl, ?_⟩
      by_cases hd : T 1 i = 0
      ·
        rw [if_pos hd]
        refine r_if_eq (tgt := 27) E (dat dkX10_findPuddles 12 rfl) rfl (fun h20 => ?_) (fun h20 => ?_)
        ·
          exact absurd h20 (by decide)
        ·
          refine r_iconst (v := -1) E (dat dkX10_findPuddles 13 rfl) rfl ?_
          refine r_goto (tgt := 28) E (dat dkX10_findPuddles 14 rfl) rfl ?_
          refine q_iast E (dat dkX10_findPuddles 16 rfl) rfl rfl (by decide) ar_a23 (fun _ => ar_s) rfl (by omega) ?_
          refine q_iinc_1 E (dat dkX10_findPuddles 17 rfl) rfl rfl ?_
          refine r_goto (tgt := 2) E (dat dkX10_findPuddles 18 rfl) rfl ?_
          first
            | (rw [← fil_upd (f := ls) (g := gP (T 1)) (i := i) (v := -1) (by unfold gP; rw [if_pos hd])] at kk; exact kk trivial)
            | (rw [← fil_upd (f := ls) (g := gP (T 1)) (i := i) (v := nI i) (by unfold gP; rw [if_neg hd])] at kk; exact kk trivial)
      ·
        rw [if_neg hd]
        refine r_if_eq (tgt := 27) E (dat dkX10_findPuddles 12 rfl) rfl (fun h20 => ?_) (fun h20 => ?_)
        ·
          refine r_iload_n E (dat dkX10_findPuddles 15 rfl) rfl rfl ?_
          refine q_iast E (dat dkX10_findPuddles 16 rfl) rfl rfl (by decide) ar_a23 (fun _ => ar_s) rfl (by omega) ?_
          refine q_iinc_1 E (dat dkX10_findPuddles 17 rfl) rfl rfl ?_
          refine r_goto (tgt := 2) E (dat dkX10_findPuddles 18 rfl) rfl ?_
          first
            | (rw [← fil_upd (f := ls) (g := gP (T 1)) (i := i) (v := -1) (by unfold gP; rw [if_pos hd])] at kk; exact kk trivial)
            | (rw [← fil_upd (f := ls) (g := gP (T 1)) (i := i) (v := nI i) (by unfold gP; rw [if_neg hd])] at kk; exact kk trivial)
        ·
          exact absurd rfl h20
  · intro hI
    refine r_iload_n E (dat dkX10_findPuddles 2 rfl) rfl rfl ?_
    refine r_aload_n E (dat dkX10_findPuddles 3 rfl) rfl rfl ?_
    refine r_callV (κ := 9) (μ := []) E (sp_X10_cells l G _ (enc A0 x T) hA0) my_X10_cells iv_X10_cells ml_X10_115 cm_id ⟨by decide, rfl, rfl⟩ rfl rfl rfl rfl (by decide) (Nat.le_of_ble_eq_true rfl) (dat dkX10_findPuddles 4 rfl) ?_
    rintro _ _ ⟨rfl, rfl⟩
    refine ⟨_, Mrg_z rfl, ?_⟩
    rw [ce_x hx]
    refine q_icmp_ge (tgt := 35) E (dat dkX10_findPuddles 5 rfl) rfl rfl rfl (by omega) (by omega) (fun h7 => ?_) (fun h7 => ?_)
    ·
      refine r_iconst (v := 1) E (dat dkX10_findPuddles 19 rfl) rfl ?_
      refine r_istore_1 E (dat dkX10_findPuddles 20 rfl) rfl rfl ?_
      refine r_while (β := LC) (fun y => if y.2 = 0 then 0 else mS y.1 x.1.2.2 + 1) (fun y => rI (nbx x) (T 1) x.1.2.2 y.1 ∧ (y.2 = 0 → ∀ c, c < x.1.2.2 → ¬ y.1 c = -1 → xF (nbx x) y.1 c 4)) (fun y => ar 23 M0 y.1) (fun y => [some (rv 0 0), some (iv y.2), none]) ((fil (gP (T 1)) ls x.1.2.2, 1)) ⟨rI_0 hw0, fun h => absurd (show (1 : Int32) = 0 from h) (by decide)⟩ rfl rfl ?_
      intro y hI kk0
      refine r_iload_n E (dat dkX10_findPuddles 21 rfl) rfl rfl ?_
      refine r_if_eq (tgt := 82) E (dat dkX10_findPuddles 22 rfl) rfl (fun h38 => ?_) (fun h38 => ?_)
      ·
        refine r_vreturn E (dat dkX10_findPuddles 46 rfl) (by decide) (by decide) ?_
        refine ⟨rfl, y.1, by rw [ar_ar], PL_of hn64 (nbx_lt hx) (nbx_sy hx) hI.1 (hI.2 (by first | exact h38 | exact Decidable.not_not.mp h38))⟩
      ·
        refine r_iconst (v := 0) E (dat dkX10_findPuddles 23 rfl) rfl ?_
        refine r_istore_1 E (dat dkX10_findPuddles 24 rfl) rfl rfl ?_
        refine r_iconst (v := 0) E (dat dkX10_findPuddles 25 rfl) rfl ?_
        refine r_istore_2 E (dat dkX10_findPuddles 26 rfl) rfl rfl ?_
        refine r_for (x.1.2.2) (fun _ => True) (fun i => ar 23 M0 (psN (nbx x) y.1 i).1) (fun i => [some (rv 0 0), some (iv (psN (nbx x) y.1 i).2), some (iv (nI i))]) trivial rfl rfl ?_ ?_
        · intro i hi hI9 kk
          refine r_iload_n E (dat dkX10_findPuddles 27 rfl) rfl rfl ?_
          refine r_aload_n E (dat dkX10_findPuddles 28 rfl) rfl rfl ?_
          refine r_callV (κ := 9) (μ := []) E (sp_X10_cells l G _ (enc A0 x T) hA0) my_X10_cells iv_X10_cells ml_X10_115 cm_id ⟨by decide, rfl, rfl⟩ rfl rfl rfl rfl (by decide) (Nat.le_of_ble_eq_true rfl) (dat dkX10_findPuddles 29 rfl) ?_
          rintro _ _ ⟨rfl, rfl⟩
          refine ⟨_, Mrg_z rfl, ?_⟩
          rw [ce_x hx]
          refine q_icmp_ge (tgt := 79) E (dat dkX10_findPuddles 30 rfl) rfl rfl rfl (by omega) (by omega) (fun h50 => ?_) (fun h50 => ?_)
          ·
            omega
          ·
            refine r_aload_n E (dat dkX10_findPuddles 31 rfl) rfl rfl ?_
            refine q_geta E fl_X10_39 (dat dkX10_findPuddles 32 rfl) rfl rfl rfl ?_
            refine r_iload_n E (dat dkX10_findPuddles 33 rfl) rfl rfl ?_
            refine q_iald E (dat dkX10_findPuddles 34 rfl) rfl rfl (by decide) ar_a23 rfl (by omega) ?_
            refine r_iconst (v := -1) E (dat dkX10_findPuddles 35 rfl) rfl ?_
            refine r_icmp_eq (tgt := 73) E (dat dkX10_findPuddles 36 rfl) rfl (fun h60 => ?_) (fun h60 => ?_)
            ·
              refine q_iinc_2 E (dat dkX10_findPuddles 43 rfl) rfl rfl ?_
              refine r_goto (tgt := 45) E (dat dkX10_findPuddles 44 rfl) rfl ?_
              first
                | (rw [psN_0 (by first | exact h60 | exact Decidable.not_not.mp h60)] at kk; exact kk trivial)
                | (rw [psN_1 h60 (by first | exact h68 | exact Decidable.not_not.mp h68)] at kk; exact kk trivial)
                | (rw [psN_2 h60 h68] at kk; exact kk trivial)
            ·
              refine r_aload_n E (dat dkX10_findPuddles 37 rfl) rfl rfl ?_
              refine r_iload_n E (dat dkX10_findPuddles 38 rfl) rfl rfl ?_
              refine r_callV (κ := 9) (μ := []) E (sp_X10_spreads l G A0 x T i (psN (nbx x) y.1 i).1 _ hA0 hx hi rfl) my_X10_spreads iv_X10_spreads ml_X10_347 cm_id ⟨by decide, rfl, rfl⟩ rfl rfl rfl rfl (by decide) (Nat.le_of_ble_eq_true rfl) (dat dkX10_findPuddles 39 rfl) ?_
              rintro _ _ ⟨rfl, rfl⟩
              refine ⟨_, Mrg_ar (by decide) rfl, ?_⟩
              rw [ar_ar]
              refine r_if_eq (tgt := 73) E (dat dkX10_findPuddles 40 rfl) rfl (fun h68 => ?_) (fun h68 => ?_)
              ·
                refine q_iinc_2 E (dat dkX10_findPuddles 43 rfl) rfl rfl ?_
                refine r_goto (tgt := 45) E (dat dkX10_findPuddles 44 rfl) rfl ?_
                first
                  | (rw [psN_0 (by first | exact h60 | exact Decidable.not_not.mp h60)] at kk; exact kk trivial)
                  | (rw [psN_1 h60 (by first | exact h68 | exact Decidable.not_not.mp h68)] at kk; exact kk trivial)
                  | (rw [psN_2 h60 h68] at kk; exact kk trivial)
              ·
                refine r_iconst (v := 1) E (dat dkX10_findPuddles 41 rfl) rfl ?_
                refine r_istore_1 E (dat dkX10_findPuddles 42 rfl) rfl rfl ?_
                refine q_iinc_2 E (dat dkX10_findPuddles 43 rfl) rfl rfl ?_
                refine r_goto (tgt := 45) E (dat dkX10_findPuddles 44 rfl) rfl ?_
                first
                  | (rw [psN_0 (by first | exact h60 | exact Decidable.not_not.mp h60)] at kk; exact kk trivial)
                  | (rw [psN_1 h60 (by first | exact h68 | exact Decidable.not_not.mp h68)] at kk; exact kk trivial)
                  | (rw [psN_2 h60 h68] at kk; exact kk trivial)
        · intro hI9
          refine r_iload_n E (dat dkX10_findPuddles 27 rfl) rfl rfl ?_
          refine r_aload_n E (dat dkX10_findPuddles 28 rfl) rfl rfl ?_
          refine r_callV (κ := 9) (μ := []) E (sp_X10_cells l G _ (enc A0 x T) hA0) my_X10_cells iv_X10_cells ml_X10_115 cm_id ⟨by decide, rfl, rfl⟩ rfl rfl rfl rfl (by decide) (Nat.le_of_ble_eq_true rfl) (dat dkX10_findPuddles 29 rfl) ?_
          rintro _ _ ⟨rfl, rfl⟩
          refine ⟨_, Mrg_z rfl, ?_⟩
          rw [ce_x hx]
          refine q_icmp_ge (tgt := 79) E (dat dkX10_findPuddles 30 rfl) rfl rfl rfl (by omega) (by omega) (fun h50 => ?_) (fun h50 => ?_)
          ·
            refine r_goto (tgt := 37) E (dat dkX10_findPuddles 45 rfl) rfl ?_
            have hps := psN_k hn64 (nbx_lt hx) (nbx_sy hx) hI.1 x.1.2.2 (Nat.le_refl _)
            refine r_back rfl ?_ (kk0 (psN (nbx x) y.1 x.1.2.2) ⟨hps.1, ?_⟩ ?_)
            · exact (And.intro rfl (And.intro rfl trivial))
            · intro h0
              rcases hps.2 with q | q
              · rw [q.2.1]; exact q.2.2
              · rw [q.1] at h0; exact absurd h0 (by decide)
            · show (if (psN (nbx x) y.1 x.1.2.2).2 = 0 then 0 else mS (psN (nbx x) y.1 x.1.2.2).1 x.1.2.2 + 1) < (if y.2 = 0 then 0 else mS y.1 x.1.2.2 + 1)
              rw [if_neg h38]
              rcases hps.2 with q | q
              · rw [if_pos q.1]; omega
              · rw [if_neg (by rw [q.1]; decide)]; omega
          ·
            omega
    ·
      omega

set_option maxRecDepth 100000 in
set_option maxHeartbeats 8000000 in
theorem sp_X10_countPuddles (l : Launch) (G : GT) (A0 : Nat → Int32) (x : PP) (T : Nat → Nat → Int32) (M : Mem) (hA : M 0 1 = enc A0 x T) (hx : PIv x) (hw0 : ∀ c, c < x.1.2.2 → 0 ≤ T 1 c) : MC l G yX10_countPuddles cX10_countPuddles 3 (some .int) ({ frames := 4, cells := 0, slots := 0, locals := 98 } : Room) [9] lk0 [rv 0 0] (M) (fun r M2 => ∃ L, PL (nbx x) (T 1) x.1.2.2 L ∧ M2 = ar 23 M L ∧ r = some (iv (nI (kN (rp L) x.1.2.2)))) := by
  refine MC.of RX10 [some (rv 0 0), none, none] 2 (by decide +kernel) rfl rfl rfl ?_
  intro pp ee ss mm aa bb me cd ad E
  have hn64 := (PIv_z hx).1
  
  refine r_aload_n E (dat dkX10_countPuddles 0 rfl) rfl rfl ?_
  refine r_callV (κ := 9) (μ := []) E (sp_X10_findPuddles l G A0 x T _ hA hx hw0) my_X10_findPuddles iv_X10_findPuddles ml_X10_350 cm_id ⟨by decide, rfl, rfl⟩ rfl rfl rfl rfl (by decide) (Nat.le_of_ble_eq_true rfl) (dat dkX10_countPuddles 1 rfl) ?_
  rintro _ M9 ⟨rfl, L, hM9, hPL⟩
  dsimp only
  refine ⟨_, Mrg_ar (by decide) hM9, ?_⟩
  refine r_iconst (v := 0) E (dat dkX10_countPuddles 2 rfl) rfl ?_
  refine r_istore_1 E (dat dkX10_countPuddles 3 rfl) rfl rfl ?_
  refine r_iconst (v := 0) E (dat dkX10_countPuddles 4 rfl) rfl ?_
  refine r_istore_2 E (dat dkX10_countPuddles 5 rfl) rfl rfl ?_
  refine r_for (x.1.2.2) (fun _ => True) (fun i => ar 23 M L) (fun i => [some (rv 0 0), some (iv (nI (kN (rp L) i))), some (iv (nI i))]) trivial rfl rfl ?_ ?_
  · intro i hi hI kk
    refine r_iload_n E (dat dkX10_countPuddles 6 rfl) rfl rfl ?_
    refine r_aload_n E (dat dkX10_countPuddles 7 rfl) rfl rfl ?_
    refine r_callV (κ := 9) (μ := []) E (sp_X10_cells l G _ (enc A0 x T) hA) my_X10_cells iv_X10_cells ml_X10_115 cm_id ⟨by decide, rfl, rfl⟩ rfl rfl rfl rfl (by decide) (Nat.le_of_ble_eq_true rfl) (dat dkX10_countPuddles 8 rfl) ?_
    rintro _ _ ⟨rfl, rfl⟩
    refine ⟨_, Mrg_z rfl, ?_⟩
    rw [ce_x hx]
    refine q_icmp_ge (tgt := 43) E (dat dkX10_countPuddles 9 rfl) rfl rfl rfl (by omega) (by omega) (fun h13 => ?_) (fun h13 => ?_)
    ·
      omega
    ·
      refine r_iload_n E (dat dkX10_countPuddles 10 rfl) rfl rfl ?_
      refine r_aload_n E (dat dkX10_countPuddles 11 rfl) rfl rfl ?_
      refine q_geta E fl_X10_39 (dat dkX10_countPuddles 12 rfl) rfl rfl rfl ?_
      refine r_iload_n E (dat dkX10_countPuddles 13 rfl) rfl rfl ?_
      refine q_iald E (dat dkX10_countPuddles 14 rfl) rfl rfl (by decide) ar_a23 rfl (by omega) ?_
      refine r_iload_n E (dat dkX10_countPuddles 15 rfl) rfl rfl ?_
      refine r_icmp_ne (tgt := 31) E (dat dkX10_countPuddles 16 rfl) rfl (fun h24 => ?_) (fun h24 => ?_)
      ·
        refine r_iconst (v := 0) E (dat dkX10_countPuddles 19 rfl) rfl ?_
        refine r_callS (μ := []) E (sp_X10_one l G _ _) my_X10_one is_X10_one ml_X10_141 cm_nil rfl rfl (by decide) (Nat.le_of_ble_eq_true rfl) (dat dkX10_countPuddles 20 rfl) ?_
        rintro _ _ ⟨rfl, hM⟩
        refine ⟨_, Mrg_z hM, ?_⟩
        clear hM
        refine r_iadd E (dat dkX10_countPuddles 21 rfl) ?_
        first
          | rw [if_neg (show ¬ (1 : Int32) = 0 by decide), show nI (kN (rp L) i) + 1 = nI (kN (rp L) i + 1) from nI_1 _]
          | rw [if_pos (rfl : (0 : Int32) = 0), Int32.add_zero]
        refine r_istore_1 E (dat dkX10_countPuddles 22 rfl) rfl rfl ?_
        refine q_iinc_2 E (dat dkX10_countPuddles 23 rfl) rfl rfl ?_
        refine r_goto (tgt := 8) E (dat dkX10_countPuddles 24 rfl) rfl ?_
        first
          | (rw [kN_1 (rp_1.mpr (by first | exact h24 | exact Decidable.not_not.mp h24))] at kk; exact kk trivial)
          | (rw [kN_0 (fun q => h24 (rp_1.mp q))] at kk; exact kk trivial)
      ·
        refine r_iconst (v := 1) E (dat dkX10_countPuddles 17 rfl) rfl ?_
        refine r_goto (tgt := 32) E (dat dkX10_countPuddles 18 rfl) rfl ?_
        refine r_callS (μ := []) E (sp_X10_one l G _ _) my_X10_one is_X10_one ml_X10_141 cm_nil rfl rfl (by decide) (Nat.le_of_ble_eq_true rfl) (dat dkX10_countPuddles 20 rfl) ?_
        rintro _ _ ⟨rfl, hM⟩
        refine ⟨_, Mrg_z hM, ?_⟩
        clear hM
        refine r_iadd E (dat dkX10_countPuddles 21 rfl) ?_
        first
          | rw [if_neg (show ¬ (1 : Int32) = 0 by decide), show nI (kN (rp L) i) + 1 = nI (kN (rp L) i + 1) from nI_1 _]
          | rw [if_pos (rfl : (0 : Int32) = 0), Int32.add_zero]
        refine r_istore_1 E (dat dkX10_countPuddles 22 rfl) rfl rfl ?_
        refine q_iinc_2 E (dat dkX10_countPuddles 23 rfl) rfl rfl ?_
        refine r_goto (tgt := 8) E (dat dkX10_countPuddles 24 rfl) rfl ?_
        first
          | (rw [kN_1 (rp_1.mpr (by first | exact h24 | exact Decidable.not_not.mp h24))] at kk; exact kk trivial)
          | (rw [kN_0 (fun q => h24 (rp_1.mp q))] at kk; exact kk trivial)
  · intro hI
    refine r_iload_n E (dat dkX10_countPuddles 6 rfl) rfl rfl ?_
    refine r_aload_n E (dat dkX10_countPuddles 7 rfl) rfl rfl ?_
    refine r_callV (κ := 9) (μ := []) E (sp_X10_cells l G _ (enc A0 x T) hA) my_X10_cells iv_X10_cells ml_X10_115 cm_id ⟨by decide, rfl, rfl⟩ rfl rfl rfl rfl (by decide) (Nat.le_of_ble_eq_true rfl) (dat dkX10_countPuddles 8 rfl) ?_
    rintro _ _ ⟨rfl, rfl⟩
    refine ⟨_, Mrg_z rfl, ?_⟩
    rw [ce_x hx]
    refine q_icmp_ge (tgt := 43) E (dat dkX10_countPuddles 9 rfl) rfl rfl rfl (by omega) (by omega) (fun h13 => ?_) (fun h13 => ?_)
    ·
      refine r_iload_n E (dat dkX10_countPuddles 25 rfl) rfl rfl ?_
      refine r_ireturn E (dat dkX10_countPuddles 26 rfl) (by decide) (by decide) ?_
      exact ⟨L, hPL, rfl, rfl⟩
    ·
      omega

set_option maxRecDepth 100000 in
set_option maxHeartbeats 8000000 in
theorem sp_X10_puddleCount (l : Launch) (G : GT) (A0 : Nat → Int32) (x : PP) (T : Nat → Nat → Int32) (M : Mem) (sz wa qu : Nat → Int32) (hA : M 0 1 = enc A0 x T) (hx : PIv x) (hw0 : ∀ c, c < x.1.2.2 → 0 ≤ T 1 c) : MC l G yX10_puddleCount cX10_puddleCount 1 (some .int) ({ frames := 5, cells := 0, slots := 0, locals := 120 } : Room) [9] lk0 [rv 0 0] (M) (fun r M2 => (∃ L, M2 = ar 23 (mt M 0) L) ∧ r = some (iv (nI (pN (nbx x) (T 1) (0, (fun _ => -1), sz, wa, qu) x.1.2.2).1))) := by
  refine MC.of RX10 [some (rv 0 0)] 0 (by decide +kernel) rfl rfl rfl ?_
  intro pp ee ss mm aa bb me cd ad E
  have hn64 := (PIv_z hx).1
  
  refine r_aload_n E (dat dkX10_puddleCount 0 rfl) rfl rfl ?_
  refine r_iconst (v := 0) E (dat dkX10_puddleCount 1 rfl) rfl ?_
  refine q_putn E ft_X10_67 (dat dkX10_puddleCount 2 rfl) rfl rfl rfl rfl ?_
  refine r_aload_n E (dat dkX10_puddleCount 3 rfl) rfl rfl ?_
  refine r_callV (κ := 9) (μ := []) E (sp_X10_countPuddles l G A0 x T _ hA hx hw0) my_X10_countPuddles iv_X10_countPuddles ml_X10_353 cm_id ⟨by decide, rfl, rfl⟩ rfl rfl rfl rfl (by decide) (Nat.le_of_ble_eq_true rfl) (dat dkX10_puddleCount 4 rfl) ?_
  rintro _ M9 ⟨L, hPL, hM9, rfl⟩
  have hPR := PR_of (sz := sz) (wa := wa) (qu := qu) hn64 (nbx_lt hx) hPL
  refine ⟨_, Mrg_ar (by decide) hM9, ?_⟩
  refine r_ireturn E (dat dkX10_puddleCount 5 rfl) (by decide) (by decide) ?_
  exact ⟨⟨L, rfl⟩, by rw [hPR.1]⟩

set_option maxRecDepth 100000 in
set_option maxHeartbeats 8000000 in
theorem sp_X10_puddleOf (l : Launch) (G : GT) (A0 : Nat → Int32) (x : PP) (T : Nat → Nat → Int32) (M : Mem) (sz wa qu : Nat → Int32) (a : Int32) (hA : M 0 1 = enc A0 x T) (hx : PIv x) (hw0 : ∀ c, c < x.1.2.2 → 0 ≤ T 1 c) : MC l G yX10_puddleOf cX10_puddleOf 4 (some .int) ({ frames := 4, cells := 0, slots := 0, locals := 98 } : Room) [9] lk0 [rv 0 0, iv a] (M) (fun r M2 => (∃ c, c < x.1.2.2 ∧ a = nI c ∧ (∃ L, M2 = ar 23 (mt M 0) L) ∧ r = some (iv ((pN (nbx x) (T 1) (0, (fun _ => -1), sz, wa, qu) x.1.2.2).2.1 c))) ∨ (¬ okc x a ∧ M2 = mt M 1 ∧ r = some (iv 0))) := by
  refine MC.of RX10 [some (rv 0 0), some (iv a), none, none] 2 (by decide +kernel) rfl rfl rfl ?_
  intro pp ee ss mm aa bb me cd ad E
  have hn64 := (PIv_z hx).1
  
  by_cases hk : okc x a
  ·
    obtain ⟨c, hc, rfl⟩ := hk
    refine r_aload_n E (dat dkX10_puddleOf 0 rfl) rfl rfl ?_
    refine r_iload_n E (dat dkX10_puddleOf 1 rfl) rfl rfl ?_
    refine r_callV (κ := 9) (μ := []) E (sp_X10_checkCell l G A0 x T (nI c) _ hA hx) my_X10_checkCell iv_X10_checkCell ml_X10_333 cm_id ⟨by decide, rfl, rfl⟩ rfl rfl rfl rfl (by decide) (Nat.le_of_ble_eq_true rfl) (dat dkX10_puddleOf 2 rfl) ?_
    rintro _ _ ⟨rfl, rfl⟩
    refine ⟨_, Mrg_mt (by decide) rfl, ?_⟩
    rw [ic_1 hx ⟨c, hc, rfl⟩, show ckI 1 1 1 = 0 from rfl, if_pos rfl]
    refine r_if_ne (tgt := 10) E (dat dkX10_puddleOf 3 rfl) rfl (fun h5 => ?_) (fun h5 => ?_)
    ·
      refine r_aload_n E (dat dkX10_puddleOf 6 rfl) rfl rfl ?_
      refine r_callV (κ := 9) (μ := []) E (sp_X10_findPuddles l G A0 x T _ hA hx hw0) my_X10_findPuddles iv_X10_findPuddles ml_X10_350 cm_id ⟨by decide, rfl, rfl⟩ rfl rfl rfl rfl (by decide) (Nat.le_of_ble_eq_true rfl) (dat dkX10_puddleOf 7 rfl) ?_
      rintro _ M9 ⟨rfl, L, hM9, hPL⟩
      dsimp only
      have hPR := PR_of (sz := sz) (wa := wa) (qu := qu) hn64 (nbx_lt hx) hPL
      refine ⟨_, Mrg_ar (by decide) hM9, ?_⟩
      refine r_aload_n E (dat dkX10_puddleOf 8 rfl) rfl rfl ?_
      refine q_geta E fl_X10_39 (dat dkX10_puddleOf 9 rfl) rfl rfl rfl ?_
      refine r_iload_n E (dat dkX10_puddleOf 10 rfl) rfl rfl ?_
      refine q_iald E (dat dkX10_puddleOf 11 rfl) rfl rfl (by decide) ar_a23 rfl (by omega) ?_
      rcases hPR.2.1 c hc with ⟨hL1, hX1⟩ | ⟨m, hm, hLm, hX1⟩
      ·
        rw [hL1]
        refine r_iconst (v := -1) E (dat dkX10_puddleOf 12 rfl) rfl ?_
        refine r_icmp_ne (tgt := 26) E (dat dkX10_puddleOf 13 rfl) rfl (fun h21 => ?_) (fun h21 => ?_)
        ·
          exact absurd rfl h21
        ·
          refine r_iconst (v := -1) E (dat dkX10_puddleOf 14 rfl) rfl ?_
          refine r_ireturn E (dat dkX10_puddleOf 15 rfl) (by decide) (by decide) ?_
          exact Or.inl ⟨c, hc, rfl, ⟨L, rfl⟩, by rw [hX1]⟩
      ·
        rw [hLm]
        refine r_iconst (v := -1) E (dat dkX10_puddleOf 12 rfl) rfl ?_
        refine r_icmp_ne (tgt := 26) E (dat dkX10_puddleOf 13 rfl) rfl (fun h21 => ?_) (fun h21 => ?_)
        ·
          refine r_iconst (v := 0) E (dat dkX10_puddleOf 16 rfl) rfl ?_
          refine r_istore_2 E (dat dkX10_puddleOf 17 rfl) rfl rfl ?_
          refine r_iconst (v := 0) E (dat dkX10_puddleOf 18 rfl) rfl ?_
          refine r_istore_3 E (dat dkX10_puddleOf 19 rfl) rfl rfl ?_
          refine r_for (m) (fun _ => True) (fun i => ar 23 (mt M 0) L) (fun i => [some (rv 0 0), some (iv (nI c)), some (iv (nI (kN (rp L) i))), some (iv (nI i))]) trivial rfl rfl ?_ ?_
          · intro i hi hI kk
            refine r_iload_n E (dat dkX10_puddleOf 20 rfl) rfl rfl ?_
            refine r_aload_n E (dat dkX10_puddleOf 21 rfl) rfl rfl ?_
            refine q_geta E fl_X10_39 (dat dkX10_puddleOf 22 rfl) rfl rfl rfl ?_
            refine r_iload_n E (dat dkX10_puddleOf 23 rfl) rfl rfl ?_
            refine q_iald E (dat dkX10_puddleOf 24 rfl) rfl rfl (by decide) ar_a23 rfl (by omega) ?_
            rw [hLm]
            refine q_icmp_ge (tgt := 67) E (dat dkX10_puddleOf 25 rfl) rfl rfl rfl (by omega) (by omega) (fun h37 => ?_) (fun h37 => ?_)
            ·
              omega
            ·
              refine r_iload_n E (dat dkX10_puddleOf 26 rfl) rfl rfl ?_
              refine r_aload_n E (dat dkX10_puddleOf 27 rfl) rfl rfl ?_
              refine q_geta E fl_X10_39 (dat dkX10_puddleOf 28 rfl) rfl rfl rfl ?_
              refine r_iload_n E (dat dkX10_puddleOf 29 rfl) rfl rfl ?_
              refine q_iald E (dat dkX10_puddleOf 30 rfl) rfl rfl (by decide) ar_a23 rfl (by omega) ?_
              refine r_iload_n E (dat dkX10_puddleOf 31 rfl) rfl rfl ?_
              refine r_icmp_ne (tgt := 55) E (dat dkX10_puddleOf 32 rfl) rfl (fun h48 => ?_) (fun h48 => ?_)
              ·
                refine r_iconst (v := 0) E (dat dkX10_puddleOf 35 rfl) rfl ?_
                refine r_callS (μ := []) E (sp_X10_one l G _ _) my_X10_one is_X10_one ml_X10_141 cm_nil rfl rfl (by decide) (Nat.le_of_ble_eq_true rfl) (dat dkX10_puddleOf 36 rfl) ?_
                rintro _ _ ⟨rfl, hM⟩
                refine ⟨_, Mrg_z hM, ?_⟩
                clear hM
                refine r_iadd E (dat dkX10_puddleOf 37 rfl) ?_
                first
                  | rw [if_neg (show ¬ (1 : Int32) = 0 by decide), show nI (kN (rp L) i) + 1 = nI (kN (rp L) i + 1) from nI_1 _]
                  | rw [if_pos (rfl : (0 : Int32) = 0), Int32.add_zero]
                refine r_istore_2 E (dat dkX10_puddleOf 38 rfl) rfl rfl ?_
                refine q_iinc_3 E (dat dkX10_puddleOf 39 rfl) rfl rfl ?_
                refine r_goto (tgt := 30) E (dat dkX10_puddleOf 40 rfl) rfl ?_
                first
                  | (rw [kN_1 (rp_1.mpr (by first | exact h48 | exact Decidable.not_not.mp h48))] at kk; exact kk trivial)
                  | (rw [kN_0 (fun q => h48 (rp_1.mp q))] at kk; exact kk trivial)
              ·
                refine r_iconst (v := 1) E (dat dkX10_puddleOf 33 rfl) rfl ?_
                refine r_goto (tgt := 56) E (dat dkX10_puddleOf 34 rfl) rfl ?_
                refine r_callS (μ := []) E (sp_X10_one l G _ _) my_X10_one is_X10_one ml_X10_141 cm_nil rfl rfl (by decide) (Nat.le_of_ble_eq_true rfl) (dat dkX10_puddleOf 36 rfl) ?_
                rintro _ _ ⟨rfl, hM⟩
                refine ⟨_, Mrg_z hM, ?_⟩
                clear hM
                refine r_iadd E (dat dkX10_puddleOf 37 rfl) ?_
                first
                  | rw [if_neg (show ¬ (1 : Int32) = 0 by decide), show nI (kN (rp L) i) + 1 = nI (kN (rp L) i + 1) from nI_1 _]
                  | rw [if_pos (rfl : (0 : Int32) = 0), Int32.add_zero]
                refine r_istore_2 E (dat dkX10_puddleOf 38 rfl) rfl rfl ?_
                refine q_iinc_3 E (dat dkX10_puddleOf 39 rfl) rfl rfl ?_
                refine r_goto (tgt := 30) E (dat dkX10_puddleOf 40 rfl) rfl ?_
                first
                  | (rw [kN_1 (rp_1.mpr (by first | exact h48 | exact Decidable.not_not.mp h48))] at kk; exact kk trivial)
                  | (rw [kN_0 (fun q => h48 (rp_1.mp q))] at kk; exact kk trivial)
          · intro hI
            refine r_iload_n E (dat dkX10_puddleOf 20 rfl) rfl rfl ?_
            refine r_aload_n E (dat dkX10_puddleOf 21 rfl) rfl rfl ?_
            refine q_geta E fl_X10_39 (dat dkX10_puddleOf 22 rfl) rfl rfl rfl ?_
            refine r_iload_n E (dat dkX10_puddleOf 23 rfl) rfl rfl ?_
            refine q_iald E (dat dkX10_puddleOf 24 rfl) rfl rfl (by decide) ar_a23 rfl (by omega) ?_
            rw [hLm]
            refine q_icmp_ge (tgt := 67) E (dat dkX10_puddleOf 25 rfl) rfl rfl rfl (by omega) (by omega) (fun h37 => ?_) (fun h37 => ?_)
            ·
              refine r_iload_n E (dat dkX10_puddleOf 41 rfl) rfl rfl ?_
              refine r_ireturn E (dat dkX10_puddleOf 42 rfl) (by decide) (by decide) ?_
              exact Or.inl ⟨c, hc, rfl, ⟨L, rfl⟩, by rw [hX1]⟩
            ·
              omega
        ·
          exact absurd h21 (nI_m1 (by omega))
    ·
      exact absurd h5 (by decide)
  ·
    refine r_aload_n E (dat dkX10_puddleOf 0 rfl) rfl rfl ?_
    refine r_iload_n E (dat dkX10_puddleOf 1 rfl) rfl rfl ?_
    refine r_callV (κ := 9) (μ := []) E (sp_X10_checkCell l G A0 x T a _ hA hx) my_X10_checkCell iv_X10_checkCell ml_X10_333 cm_id ⟨by decide, rfl, rfl⟩ rfl rfl rfl rfl (by decide) (Nat.le_of_ble_eq_true rfl) (dat dkX10_puddleOf 2 rfl) ?_
    rintro _ _ ⟨rfl, rfl⟩
    refine ⟨_, Mrg_mt (by decide) rfl, ?_⟩
    rw [ic_0 hx hk, show ckI 0 1 1 = 1 from rfl, if_neg (by decide)]
    refine r_if_ne (tgt := 10) E (dat dkX10_puddleOf 3 rfl) rfl (fun h5 => ?_) (fun h5 => ?_)
    ·
      exact absurd rfl h5
    ·
      refine r_iconst (v := 0) E (dat dkX10_puddleOf 4 rfl) rfl ?_
      refine r_ireturn E (dat dkX10_puddleOf 5 rfl) (by decide) (by decide) ?_
      exact Or.inr ⟨hk, rfl, rfl⟩

set_option maxRecDepth 100000 in
set_option maxHeartbeats 4000000 in
theorem sp_X10_firstOf (l : Launch) (G : GT) (A0 : Nat → Int32) (x : PP) (T : Nat → Nat → Int32) (L : Nat → Int32) (k : Nat) (M : Mem) (hA : M 0 1 = enc A0 x T) (hx : PIv x) (hL : M 0 23 = L) (hk : k < kN (rp L) x.1.2.2) : MC l G yX10_firstOf cX10_firstOf 4 (some .int) ({ frames := 1, cells := 0, slots := 0, locals := 20 } : Room) [9] lk0 [rv 0 0, iv (nI k)] (M) (fun r M2 => (∃ m, m < x.1.2.2 ∧ rp L m = true ∧ kN (rp L) m = k ∧ r = some (iv (nI m))) ∧ M2 = M) := by
  refine MC.of RX10 [some (rv 0 0), some (iv (nI k)), none, none] 2 (by decide +kernel) rfl rfl rfl ?_
  intro pp ee ss mm aa bb me cd ad E
  have hn64 := (PIv_z hx).1
  have hk64 := kN64 (L := L) hn64
  
  refine r_iconst (v := 0) E (dat dkX10_firstOf 0 rfl) rfl ?_
  refine r_istore_2 E (dat dkX10_firstOf 1 rfl) rfl rfl ?_
  refine r_iconst (v := 0) E (dat dkX10_firstOf 2 rfl) rfl ?_
  refine r_istore_3 E (dat dkX10_firstOf 3 rfl) rfl rfl ?_
  refine r_for (x.1.2.2) (fun i => kN (rp L) i ≤ k) (fun i => M) (fun i => [some (rv 0 0), some (iv (nI k)), some (iv (nI (kN (rp L) i))), some (iv (nI i))]) (Nat.zero_le _) rfl rfl ?_ ?_
  · intro i hi hI kk
    refine r_iload_n E (dat dkX10_firstOf 4 rfl) rfl rfl ?_
    refine r_aload_n E (dat dkX10_firstOf 5 rfl) rfl rfl ?_
    refine r_callV (κ := 9) (μ := []) E (sp_X10_cells l G _ (enc A0 x T) hA) my_X10_cells iv_X10_cells ml_X10_115 cm_id ⟨by decide, rfl, rfl⟩ rfl rfl rfl rfl (by decide) (Nat.le_of_ble_eq_true rfl) (dat dkX10_firstOf 6 rfl) ?_
    rintro _ _ ⟨rfl, rfl⟩
    refine ⟨_, Mrg_z rfl, ?_⟩
    rw [ce_x hx]
    refine q_icmp_ge (tgt := 41) E (dat dkX10_firstOf 7 rfl) rfl rfl rfl (by omega) (by omega) (fun h9 => ?_) (fun h9 => ?_)
    ·
      omega
    ·
      refine r_aload_n E (dat dkX10_firstOf 8 rfl) rfl rfl ?_
      refine q_geta E fl_X10_39 (dat dkX10_firstOf 9 rfl) rfl rfl rfl ?_
      refine r_iload_n E (dat dkX10_firstOf 10 rfl) rfl rfl ?_
      refine q_iald E (dat dkX10_firstOf 11 rfl) rfl rfl (by decide) (show (_ : Nat → Int32) = L from hL) rfl (by omega) ?_
      refine r_iload_n E (dat dkX10_firstOf 12 rfl) rfl rfl ?_
      refine r_icmp_eq (tgt := 25) E (dat dkX10_firstOf 13 rfl) rfl (fun h19 => ?_) (fun h19 => ?_)
      ·
        refine r_iload_n E (dat dkX10_firstOf 15 rfl) rfl rfl ?_
        refine r_iload_n E (dat dkX10_firstOf 16 rfl) rfl rfl ?_
        refine q_icmp_ne (tgt := 32) E (dat dkX10_firstOf 17 rfl) rfl rfl rfl (by omega) (by omega) (fun h27 => ?_) (fun h27 => ?_)
        ·
          refine q_iinc_2 E (dat dkX10_firstOf 20 rfl) rfl rfl ?_
          refine q_iinc_3 E (dat dkX10_firstOf 21 rfl) rfl rfl ?_
          refine r_goto (tgt := 4) E (dat dkX10_firstOf 22 rfl) rfl ?_
          first
            | (rw [kN_1 (rp_1.mpr (by first | exact h19 | exact Decidable.not_not.mp h19))] at kk; exact kk (show kN (rp L) i + 1 ≤ k by omega))
            | (rw [kN_0 (fun q => h19 (rp_1.mp q))] at kk; exact kk hI)
        ·
          refine r_iload_n E (dat dkX10_firstOf 18 rfl) rfl rfl ?_
          refine r_ireturn E (dat dkX10_firstOf 19 rfl) (by decide) (by decide) ?_
          exact ⟨⟨i, hi, rp_1.mpr (by first | exact h19 | exact Decidable.not_not.mp h19), by omega, rfl⟩, rfl⟩
      ·
        refine r_goto (tgt := 35) E (dat dkX10_firstOf 14 rfl) rfl ?_
        refine q_iinc_3 E (dat dkX10_firstOf 21 rfl) rfl rfl ?_
        refine r_goto (tgt := 4) E (dat dkX10_firstOf 22 rfl) rfl ?_
        first
          | (rw [kN_1 (rp_1.mpr (by first | exact h19 | exact Decidable.not_not.mp h19))] at kk; exact kk (show kN (rp L) i + 1 ≤ k by omega))
          | (rw [kN_0 (fun q => h19 (rp_1.mp q))] at kk; exact kk hI)
  · intro hI
    refine r_iload_n E (dat dkX10_firstOf 4 rfl) rfl rfl ?_
    refine r_aload_n E (dat dkX10_firstOf 5 rfl) rfl rfl ?_
    refine r_callV (κ := 9) (μ := []) E (sp_X10_cells l G _ (enc A0 x T) hA) my_X10_cells iv_X10_cells ml_X10_115 cm_id ⟨by decide, rfl, rfl⟩ rfl rfl rfl rfl (by decide) (Nat.le_of_ble_eq_true rfl) (dat dkX10_firstOf 6 rfl) ?_
    rintro _ _ ⟨rfl, rfl⟩
    refine ⟨_, Mrg_z rfl, ?_⟩
    rw [ce_x hx]
    refine q_icmp_ge (tgt := 41) E (dat dkX10_firstOf 7 rfl) rfl rfl rfl (by omega) (by omega) (fun h9 => ?_) (fun h9 => ?_)
    ·
      refine r_iconst (v := -1) E (dat dkX10_firstOf 23 rfl) rfl ?_
      refine r_ireturn E (dat dkX10_firstOf 24 rfl) (by decide) (by decide) ?_
      exact absurd hI (by omega)
    ·
      omega

set_option maxRecDepth 100000 in
set_option maxHeartbeats 8000000 in
theorem sp_X10_sumOfPuddle (l : Launch) (G : GT) (A0 : Nat → Int32) (x : PP) (T : Nat → Nat → Int32) (L : Nat → Int32) (k : Nat) (z : Int32) (M : Mem) (hA : M 0 1 = enc A0 x T) (hx : PIv x) (hL : M 0 23 = L) (hk : k < kN (rp L) x.1.2.2) (hz : z = 0 ∨ z = 1) : MC l G yX10_sumOfPuddle cX10_sumOfPuddle 6 (some .int) ({ frames := 2, cells := 0, slots := 0, locals := 43 } : Room) [9] lk0 [rv 0 0, iv (nI k), iv z] (M) (fun r M2 => (∃ m, m < x.1.2.2 ∧ rp L m = true ∧ kN (rp L) m = k ∧ r = some (iv (if z = 0 then (nI (kN (lq L (nI m)) x.1.2.2)) else (sQ (lq L (nI m)) (T 1) x.1.2.2)))) ∧ M2 = M) := by
  refine MC.of RX10 [some (rv 0 0), some (iv (nI k)), some (iv z), none, none, none] 3 (by decide +kernel) rfl rfl rfl ?_
  intro pp ee ss mm aa bb me cd ad E
  have hn64 := (PIv_z hx).1
  
  rcases hz with rfl | rfl
  ·
    refine r_aload_n E (dat dkX10_sumOfPuddle 0 rfl) rfl rfl ?_
    refine r_iload_n E (dat dkX10_sumOfPuddle 1 rfl) rfl rfl ?_
    refine r_callV (κ := 9) (μ := []) E (sp_X10_firstOf l G A0 x T L k _ hA hx hL hk) my_X10_firstOf iv_X10_firstOf ml_X10_356 cm_id ⟨by decide, rfl, rfl⟩ rfl rfl rfl rfl (by decide) (Nat.le_of_ble_eq_true rfl) (dat dkX10_sumOfPuddle 2 rfl) ?_
    rintro _ M9 ⟨⟨m, hm, hr, hkm, rfl⟩, hM9⟩
    refine ⟨_, Mrg_z hM9, ?_⟩
    refine r_istore_3 E (dat dkX10_sumOfPuddle 3 rfl) rfl rfl ?_
    refine r_iconst (v := 0) E (dat dkX10_sumOfPuddle 4 rfl) rfl ?_
    refine r_istore_4 E (dat dkX10_sumOfPuddle 5 rfl) rfl rfl ?_
    refine r_iconst (v := 0) E (dat dkX10_sumOfPuddle 6 rfl) rfl ?_
    refine r_istore_5 E (dat dkX10_sumOfPuddle 7 rfl) rfl rfl ?_
    refine r_for (x.1.2.2) (fun _ => True) (fun i => M) (fun i => [some (rv 0 0), some (iv (nI k)), some (iv 0), some (iv (nI m)), some (iv (nI (kN (lq L (nI m)) i))), some (iv (nI i))]) trivial rfl rfl ?_ ?_
    · intro i hi hI kk
      refine r_iload E (dat dkX10_sumOfPuddle 8 rfl) rfl ?_
      refine r_aload_n E (dat dkX10_sumOfPuddle 9 rfl) rfl rfl ?_
      refine r_callV (κ := 9) (μ := []) E (sp_X10_cells l G _ (enc A0 x T) hA) my_X10_cells iv_X10_cells ml_X10_115 cm_id ⟨by decide, rfl, rfl⟩ rfl rfl rfl rfl (by decide) (Nat.le_of_ble_eq_true rfl) (dat dkX10_sumOfPuddle 10 rfl) ?_
      rintro _ _ ⟨rfl, rfl⟩
      refine ⟨_, Mrg_z rfl, ?_⟩
      rw [ce_x hx]
      refine q_icmp_ge (tgt := 58) E (dat dkX10_sumOfPuddle 11 rfl) rfl rfl rfl (by omega) (by omega) (fun h18 => ?_) (fun h18 => ?_)
      ·
        omega
      ·
        refine r_aload_n E (dat dkX10_sumOfPuddle 12 rfl) rfl rfl ?_
        refine q_geta E fl_X10_39 (dat dkX10_sumOfPuddle 13 rfl) rfl rfl rfl ?_
        refine r_iload E (dat dkX10_sumOfPuddle 14 rfl) rfl ?_
        refine q_iald E (dat dkX10_sumOfPuddle 15 rfl) rfl rfl (by decide) (show (_ : Nat → Int32) = L from hL) rfl (by omega) ?_
        refine r_iload_n E (dat dkX10_sumOfPuddle 16 rfl) rfl rfl ?_
        refine r_icmp_ne (tgt := 52) E (dat dkX10_sumOfPuddle 17 rfl) rfl (fun h29 => ?_) (fun h29 => ?_)
        ·
          refine q_iinc_5 E (dat dkX10_sumOfPuddle 29 rfl) rfl rfl ?_
          refine r_goto (tgt := 12) E (dat dkX10_sumOfPuddle 30 rfl) rfl ?_
          first
            | (rw [kN_1 (lq_1.mpr (by first | exact h29 | exact Decidable.not_not.mp h29))] at kk; exact kk trivial)
            | (rw [kN_0 (fun q => h29 (lq_1.mp q))] at kk; exact kk trivial)
        ·
          refine r_iload E (dat dkX10_sumOfPuddle 18 rfl) rfl ?_
          refine r_iload_n E (dat dkX10_sumOfPuddle 19 rfl) rfl rfl ?_
          refine r_if_eq (tgt := 48) E (dat dkX10_sumOfPuddle 20 rfl) rfl (fun h35 => ?_) (fun h35 => ?_)
          ·
            refine r_iconst (v := 1) E (dat dkX10_sumOfPuddle 26 rfl) rfl ?_
            refine r_iadd E (dat dkX10_sumOfPuddle 27 rfl) ?_
            rw [show (nI (kN (lq L (nI m)) i)) + 1 = nI (kN (lq L (nI m)) i + 1) from nI_1 _]
            refine r_istore_4 E (dat dkX10_sumOfPuddle 28 rfl) rfl rfl ?_
            refine q_iinc_5 E (dat dkX10_sumOfPuddle 29 rfl) rfl rfl ?_
            refine r_goto (tgt := 12) E (dat dkX10_sumOfPuddle 30 rfl) rfl ?_
            first
              | (rw [kN_1 (lq_1.mpr (by first | exact h29 | exact Decidable.not_not.mp h29))] at kk; exact kk trivial)
              | (rw [kN_0 (fun q => h29 (lq_1.mp q))] at kk; exact kk trivial)
          ·
            exact absurd rfl h35
    · intro hI
      refine r_iload E (dat dkX10_sumOfPuddle 8 rfl) rfl ?_
      refine r_aload_n E (dat dkX10_sumOfPuddle 9 rfl) rfl rfl ?_
      refine r_callV (κ := 9) (μ := []) E (sp_X10_cells l G _ (enc A0 x T) hA) my_X10_cells iv_X10_cells ml_X10_115 cm_id ⟨by decide, rfl, rfl⟩ rfl rfl rfl rfl (by decide) (Nat.le_of_ble_eq_true rfl) (dat dkX10_sumOfPuddle 10 rfl) ?_
      rintro _ _ ⟨rfl, rfl⟩
      refine ⟨_, Mrg_z rfl, ?_⟩
      rw [ce_x hx]
      refine q_icmp_ge (tgt := 58) E (dat dkX10_sumOfPuddle 11 rfl) rfl rfl rfl (by omega) (by omega) (fun h18 => ?_) (fun h18 => ?_)
      ·
        refine r_iload E (dat dkX10_sumOfPuddle 31 rfl) rfl ?_
        refine r_ireturn E (dat dkX10_sumOfPuddle 32 rfl) (by decide) (by decide) ?_
        exact ⟨⟨m, hm, hr, hkm, by rw [if_pos rfl]⟩, rfl⟩
      ·
        omega
  ·
    refine r_aload_n E (dat dkX10_sumOfPuddle 0 rfl) rfl rfl ?_
    refine r_iload_n E (dat dkX10_sumOfPuddle 1 rfl) rfl rfl ?_
    refine r_callV (κ := 9) (μ := []) E (sp_X10_firstOf l G A0 x T L k _ hA hx hL hk) my_X10_firstOf iv_X10_firstOf ml_X10_356 cm_id ⟨by decide, rfl, rfl⟩ rfl rfl rfl rfl (by decide) (Nat.le_of_ble_eq_true rfl) (dat dkX10_sumOfPuddle 2 rfl) ?_
    rintro _ M9 ⟨⟨m, hm, hr, hkm, rfl⟩, hM9⟩
    refine ⟨_, Mrg_z hM9, ?_⟩
    refine r_istore_3 E (dat dkX10_sumOfPuddle 3 rfl) rfl rfl ?_
    refine r_iconst (v := 0) E (dat dkX10_sumOfPuddle 4 rfl) rfl ?_
    refine r_istore_4 E (dat dkX10_sumOfPuddle 5 rfl) rfl rfl ?_
    refine r_iconst (v := 0) E (dat dkX10_sumOfPuddle 6 rfl) rfl ?_
    refine r_istore_5 E (dat dkX10_sumOfPuddle 7 rfl) rfl rfl ?_
    refine r_for (x.1.2.2) (fun _ => True) (fun i => M) (fun i => [some (rv 0 0), some (iv (nI k)), some (iv 1), some (iv (nI m)), some (iv (sQ (lq L (nI m)) (T 1) i)), some (iv (nI i))]) trivial rfl rfl ?_ ?_
    · intro i hi hI kk
      refine r_iload E (dat dkX10_sumOfPuddle 8 rfl) rfl ?_
      refine r_aload_n E (dat dkX10_sumOfPuddle 9 rfl) rfl rfl ?_
      refine r_callV (κ := 9) (μ := []) E (sp_X10_cells l G _ (enc A0 x T) hA) my_X10_cells iv_X10_cells ml_X10_115 cm_id ⟨by decide, rfl, rfl⟩ rfl rfl rfl rfl (by decide) (Nat.le_of_ble_eq_true rfl) (dat dkX10_sumOfPuddle 10 rfl) ?_
      rintro _ _ ⟨rfl, rfl⟩
      refine ⟨_, Mrg_z rfl, ?_⟩
      rw [ce_x hx]
      refine q_icmp_ge (tgt := 58) E (dat dkX10_sumOfPuddle 11 rfl) rfl rfl rfl (by omega) (by omega) (fun h18 => ?_) (fun h18 => ?_)
      ·
        omega
      ·
        refine r_aload_n E (dat dkX10_sumOfPuddle 12 rfl) rfl rfl ?_
        refine q_geta E fl_X10_39 (dat dkX10_sumOfPuddle 13 rfl) rfl rfl rfl ?_
        refine r_iload E (dat dkX10_sumOfPuddle 14 rfl) rfl ?_
        refine q_iald E (dat dkX10_sumOfPuddle 15 rfl) rfl rfl (by decide) (show (_ : Nat → Int32) = L from hL) rfl (by omega) ?_
        refine r_iload_n E (dat dkX10_sumOfPuddle 16 rfl) rfl rfl ?_
        refine r_icmp_ne (tgt := 52) E (dat dkX10_sumOfPuddle 17 rfl) rfl (fun h29 => ?_) (fun h29 => ?_)
        ·
          refine q_iinc_5 E (dat dkX10_sumOfPuddle 29 rfl) rfl rfl ?_
          refine r_goto (tgt := 12) E (dat dkX10_sumOfPuddle 30 rfl) rfl ?_
          first
            | (rw [sQ_1 (lq_1.mpr (by first | exact h29 | exact Decidable.not_not.mp h29))] at kk; exact kk trivial)
            | (rw [sQ_0 (fun q => h29 (lq_1.mp q))] at kk; exact kk trivial)
        ·
          refine r_iload E (dat dkX10_sumOfPuddle 18 rfl) rfl ?_
          refine r_iload_n E (dat dkX10_sumOfPuddle 19 rfl) rfl rfl ?_
          refine r_if_eq (tgt := 48) E (dat dkX10_sumOfPuddle 20 rfl) rfl (fun h35 => ?_) (fun h35 => ?_)
          ·
            exact absurd h35 (by decide)
          ·
            refine r_aload_n E (dat dkX10_sumOfPuddle 21 rfl) rfl rfl ?_
            refine r_iload E (dat dkX10_sumOfPuddle 22 rfl) rfl ?_
            refine r_iconst (v := 1) E (dat dkX10_sumOfPuddle 23 rfl) rfl ?_
            refine r_callV (κ := 9) (μ := []) E (sp_X10_get l G i 1 _ (enc A0 x T) hA (by omega) (by decide)) my_X10_get iv_X10_get ml_X10_76 cm_id ⟨by decide, rfl, rfl⟩ rfl rfl rfl rfl (by decide) (Nat.le_of_ble_eq_true rfl) (dat dkX10_sumOfPuddle 24 rfl) ?_
            rintro _ _ ⟨rfl, rfl⟩
            refine ⟨_, Mrg_z rfl, ?_⟩
            rw [e_w hi hn64]
            refine r_goto (tgt := 49) E (dat dkX10_sumOfPuddle 25 rfl) rfl ?_
            refine r_iadd E (dat dkX10_sumOfPuddle 27 rfl) ?_
            refine r_istore_4 E (dat dkX10_sumOfPuddle 28 rfl) rfl rfl ?_
            refine q_iinc_5 E (dat dkX10_sumOfPuddle 29 rfl) rfl rfl ?_
            refine r_goto (tgt := 12) E (dat dkX10_sumOfPuddle 30 rfl) rfl ?_
            first
              | (rw [sQ_1 (lq_1.mpr (by first | exact h29 | exact Decidable.not_not.mp h29))] at kk; exact kk trivial)
              | (rw [sQ_0 (fun q => h29 (lq_1.mp q))] at kk; exact kk trivial)
    · intro hI
      refine r_iload E (dat dkX10_sumOfPuddle 8 rfl) rfl ?_
      refine r_aload_n E (dat dkX10_sumOfPuddle 9 rfl) rfl rfl ?_
      refine r_callV (κ := 9) (μ := []) E (sp_X10_cells l G _ (enc A0 x T) hA) my_X10_cells iv_X10_cells ml_X10_115 cm_id ⟨by decide, rfl, rfl⟩ rfl rfl rfl rfl (by decide) (Nat.le_of_ble_eq_true rfl) (dat dkX10_sumOfPuddle 10 rfl) ?_
      rintro _ _ ⟨rfl, rfl⟩
      refine ⟨_, Mrg_z rfl, ?_⟩
      rw [ce_x hx]
      refine q_icmp_ge (tgt := 58) E (dat dkX10_sumOfPuddle 11 rfl) rfl rfl rfl (by omega) (by omega) (fun h18 => ?_) (fun h18 => ?_)
      ·
        refine r_iload E (dat dkX10_sumOfPuddle 31 rfl) rfl ?_
        refine r_ireturn E (dat dkX10_sumOfPuddle 32 rfl) (by decide) (by decide) ?_
        exact ⟨⟨m, hm, hr, hkm, by rw [if_neg (by decide)]⟩, rfl⟩
      ·
        omega
