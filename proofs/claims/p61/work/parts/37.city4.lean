/-- the first of the deepest of the cells 0 to i -/
def dpN (w : Nat → Int32) : Nat → Nat
  | 0 => 0
  | i + 1 => if w (dpN w i) < w (i + 1) then i + 1 else dpN w i
theorem dpN_le {w : Nat → Int32} : ∀ i, dpN w i ≤ i
  | 0 => Nat.le_refl 0
  | i + 1 => by
    have := dpN_le (w := w) i
    unfold dpN
    split <;> omega
def csI (x : PP) (M : Mem) : Int32 := if blI x (M 3) = 0 then 0 else if sm (puT M x).2.2.2.1 (puT M x).1 = sm (M 3 1) x.1.2.2 then 1 else 0
set_option maxRecDepth 100000 in
set_option maxHeartbeats 4000000 in
theorem sp_X9_isConsistent (l : Launch) (G : GT) (BP : Nat → Nat → Int32) (be nm : Nat → Int32) (x : PP) (q : Nat)  (M : Mem) (hpn : (M 0 0 9).toNatClampNeg = q) (hq : q = 17 ∨ q = 18) (hP : M q = vPx BP be nm x) (hx : PIv x) (hbe : BEx be x) (hpl : PLi x (M 3)) (hw0 : ∀ c, c < x.1.2.2 → 0 ≤ M 3 1 c) : MC l G yX9_isConsistent cX9_isConsistent 3 (some .boolean) ({ frames := 4, cells := 0, slots := 0, locals := 94 } : Room) KC lkC [rv 0 0] (M) (fun r M2 => r = some (iv (csI x M)) ∧ M2 = puM M x) := by
  refine MC.of RX9 [some (rv 0 0), none, none] 2 (by decide +kernel) rfl rfl rfl ?_
  intro pp ee ss mm aa bb me cd ad E
  rcases hq with rfl | rfl
  ·
    have h_ro : M 17 0 7 = nI x.1.1 := by rw [hP]; rfl
    have h_co : M 17 0 8 = nI x.1.2.1 := by rw [hP]; rfl
    have h_ce : M 17 0 9 = nI x.1.2.2 := by rw [hP]; rfl
    have h_bc : M 17 0 10 = nI x.2.2.2.2.1 := by rw [hP]; rfl
    have h_fr : M 17 0 11 = x.2.2.2.1 := by rw [hP]; rfl
    have h_he : M 17 1 = x.2.1 := by rw [hP]; rfl
    have h_gu : M 17 2 = x.2.2.1 := by rw [hP]; rfl
    have h_be : M 17 3 = be := by rw [hP]; rfl
    have h_nl : M 17 5 = x.2.2.2.2.2.1 := by rw [hP]; rfl
    have h_bh : M 17 6 = x.2.2.2.2.2.2.2.1 := by rw [hP]; rfl
    have h_fp : M 17 7 = x.2.2.2.2.2.2.1 := by rw [hP]; rfl
    have h_n0 : M 17 8 = x.2.2.2.2.2.2.2.2 0 := by rw [hP]; rfl
    have h_n1 : M 17 9 = x.2.2.2.2.2.2.2.2 1 := by rw [hP]; rfl
    have h_n2 : M 17 10 = x.2.2.2.2.2.2.2.2 2 := by rw [hP]; rfl
    have h_n3 : M 17 11 = x.2.2.2.2.2.2.2.2 3 := by rw [hP]; rfl
    have hn64 := (PIv_z hx).1
    have hpu := puT_le (M := M) (x := x)
    refine r_aload_n E (dat dkX9_isConsistent 0 rfl) rfl rfl ?_
    refine q_getl E fl_X9_46 (dat dkX9_isConsistent 1 rfl) rfl rfl rfl ?_
    refine r_aload_n E (dat dkX9_isConsistent 2 rfl) rfl rfl ?_
    refine q_getd E fl_X9_64 (dat dkX9_isConsistent 3 rfl) rfl rfl rfl hpn ?_
    refine r_aload_n E (dat dkX9_isConsistent 4 rfl) rfl rfl ?_
    refine q_getl E fl_X9_26 (dat dkX9_isConsistent 5 rfl) rfl rfl rfl ?_
    refine r_callV (κ := 5) (μ := [15, 17, 3]) E (sp_X3_findAll l G (M 15) (M 15 0 4) (M 15 1) (M 15 2) (M 15 3) (M 15 4) (M 3) (M 3 0 7) (M 3 0 8) (M 3 0 9) (M 3 0 10) (M 3 0 11) (M 3 0 12) (M 3 0 13) (M 3 0 14) (M 3 1) (M 3 2) (M 3 3) (M 3 4) (M 3 5) (M 3 6) (M 3 7) BP (nI x.1.1) (nI x.1.2.1) x.1.2.2 (nI x.2.2.2.2.1) x.2.2.2.1 x.2.1 x.2.2.1 be nm x.2.2.2.2.2.1 x.2.2.2.2.2.2.2.1 x.2.2.2.2.2.2.1 (x.2.2.2.2.2.2.2.2 0) (x.2.2.2.2.2.2.2.2 1) (x.2.2.2.2.2.2.2.2 2) (x.2.2.2.2.2.2.2.2 3) (nbx x) hbe (nbx_lt hx) _ (evU (M 15)).symm hP (evS (M 3)).symm hn64) my_X3_findAll iv_X3_findAll ml_X9_182 (cm_of rfl) ⟨by decide, rfl, rfl⟩ rfl rfl rfl rfl (by decide) (Nat.le_of_ble_eq_true rfl) (dat dkX9_isConsistent 6 rfl) ?_
    rintro _ _ ⟨rfl, rfl⟩
    refine ⟨_, (show Mrg _ _ M _ (puM M x) from Mrg_e (i := 0) (by decide) (by decide) rfl rfl), ?_⟩
    refine r_iconst (v := 0) E (dat dkX9_isConsistent 7 rfl) rfl ?_
    refine r_istore_1 E (dat dkX9_isConsistent 8 rfl) rfl rfl ?_
    refine r_iconst (v := 0) E (dat dkX9_isConsistent 9 rfl) rfl ?_
    refine r_istore_2 E (dat dkX9_isConsistent 10 rfl) rfl rfl ?_
    refine r_for ((puT M x).1) (fun _ => True) (fun i => puM M x) (fun i => [some (rv 0 0), some (iv (sm (puT M x).2.2.2.1 i)), some (iv (nI i))]) trivial rfl rfl ?_ ?_
    · intro i hi hI kk
      refine r_iload_n E (dat dkX9_isConsistent 11 rfl) rfl rfl ?_
      refine r_aload_n E (dat dkX9_isConsistent 12 rfl) rfl rfl ?_
      refine q_getl E fl_X9_46 (dat dkX9_isConsistent 13 rfl) rfl rfl rfl ?_
      refine q_getn E fl_X9_186 (dat dkX9_isConsistent 14 rfl) rfl rfl rfl rfl ?_
      refine q_icmp_ge (tgt := 48) E (dat dkX9_isConsistent 15 rfl) rfl rfl rfl (by omega) (by omega) (fun h27 => ?_) (fun h27 => ?_)
      ·
        omega
      ·
        refine r_iload_n E (dat dkX9_isConsistent 16 rfl) rfl rfl ?_
        refine r_aload_n E (dat dkX9_isConsistent 17 rfl) rfl rfl ?_
        refine q_getl E fl_X9_46 (dat dkX9_isConsistent 18 rfl) rfl rfl rfl ?_
        refine q_geta E fl_X9_196 (dat dkX9_isConsistent 19 rfl) rfl rfl rfl ?_
        refine r_iload_n E (dat dkX9_isConsistent 20 rfl) rfl rfl ?_
        refine q_iald E (dat dkX9_isConsistent 21 rfl) rfl rfl (by decide) rfl rfl (by omega) ?_
        refine r_iadd E (dat dkX9_isConsistent 22 rfl) ?_
        refine r_istore_1 E (dat dkX9_isConsistent 23 rfl) rfl rfl ?_
        refine q_iinc_2 E (dat dkX9_isConsistent 24 rfl) rfl rfl ?_
        refine r_goto (tgt := 19) E (dat dkX9_isConsistent 25 rfl) rfl ?_
        exact kk trivial
    · intro hI
      refine r_iload_n E (dat dkX9_isConsistent 11 rfl) rfl rfl ?_
      refine r_aload_n E (dat dkX9_isConsistent 12 rfl) rfl rfl ?_
      refine q_getl E fl_X9_46 (dat dkX9_isConsistent 13 rfl) rfl rfl rfl ?_
      refine q_getn E fl_X9_186 (dat dkX9_isConsistent 14 rfl) rfl rfl rfl rfl ?_
      refine q_icmp_ge (tgt := 48) E (dat dkX9_isConsistent 15 rfl) rfl rfl rfl (by omega) (by omega) (fun h27 => ?_) (fun h27 => ?_)
      ·
        refine r_aload_n E (dat dkX9_isConsistent 26 rfl) rfl rfl ?_
        refine q_getl E fl_X9_26 (dat dkX9_isConsistent 27 rfl) rfl rfl rfl ?_
        refine r_aload_n E (dat dkX9_isConsistent 28 rfl) rfl rfl ?_
        refine q_getd E fl_X9_64 (dat dkX9_isConsistent 29 rfl) rfl rfl rfl hpn ?_
        refine r_callV (κ := 1) (μ := [3, 17]) E (tp_X5_isBalanced l G (M 3) BP be nm x _ rfl hP hx hpl hw0) my_X5_isBalanced iv_X5_isBalanced ml_X9_254 (cm_of rfl) ⟨by decide, rfl, rfl⟩ rfl rfl rfl rfl (by decide) (Nat.le_of_ble_eq_true rfl) (dat dkX9_isConsistent 30 rfl) ?_
        rintro _ _ ⟨rfl, rfl⟩
        refine ⟨_, Mrg_z rfl, ?_⟩
        refine r_if_eq (tgt := 81) E (dat dkX9_isConsistent 31 rfl) rfl (fun h59 => ?_) (fun h59 => ?_)
        ·
          refine r_iconst (v := 0) E (dat dkX9_isConsistent 41 rfl) rfl ?_
          refine r_zreturn E (dat dkX9_isConsistent 42 rfl) rfl (by decide) (by decide) ?_
          refine ⟨?_, rfl⟩
          unfold csI
          first
            | (rw [if_pos h59]; done)
            | (rw [if_neg h59, if_pos (by first | exact h74 | exact Decidable.not_not.mp h74)]; done)
            | (rw [if_neg h59, if_neg h74]; done)
        ·
          refine r_iload_n E (dat dkX9_isConsistent 32 rfl) rfl rfl ?_
          refine r_aload_n E (dat dkX9_isConsistent 33 rfl) rfl rfl ?_
          refine q_getl E fl_X9_26 (dat dkX9_isConsistent 34 rfl) rfl rfl rfl ?_
          refine r_aload_n E (dat dkX9_isConsistent 35 rfl) rfl rfl ?_
          refine q_getd E fl_X9_64 (dat dkX9_isConsistent 36 rfl) rfl rfl rfl hpn ?_
          refine r_callV (κ := 1) (μ := [3, 17]) E (tp_X5_sumOfWater l G (M 3) BP be nm x _ rfl hP hx) my_X5_sumOfWater iv_X5_sumOfWater ml_X9_199 (cm_of rfl) ⟨by decide, rfl, rfl⟩ rfl rfl rfl rfl (by decide) (Nat.le_of_ble_eq_true rfl) (dat dkX9_isConsistent 37 rfl) ?_
          rintro _ _ ⟨rfl, rfl⟩
          refine ⟨_, Mrg_z rfl, ?_⟩
          refine r_icmp_ne (tgt := 81) E (dat dkX9_isConsistent 38 rfl) rfl (fun h74 => ?_) (fun h74 => ?_)
          ·
            refine r_iconst (v := 0) E (dat dkX9_isConsistent 41 rfl) rfl ?_
            refine r_zreturn E (dat dkX9_isConsistent 42 rfl) rfl (by decide) (by decide) ?_
            refine ⟨?_, rfl⟩
            unfold csI
            first
              | (rw [if_pos h59]; done)
              | (rw [if_neg h59, if_pos (by first | exact h74 | exact Decidable.not_not.mp h74)]; done)
              | (rw [if_neg h59, if_neg h74]; done)
          ·
            refine r_iconst (v := 1) E (dat dkX9_isConsistent 39 rfl) rfl ?_
            refine r_goto (tgt := 82) E (dat dkX9_isConsistent 40 rfl) rfl ?_
            refine r_zreturn E (dat dkX9_isConsistent 42 rfl) rfl (by decide) (by decide) ?_
            refine ⟨?_, rfl⟩
            unfold csI
            first
              | (rw [if_pos h59]; done)
              | (rw [if_neg h59, if_pos (by first | exact h74 | exact Decidable.not_not.mp h74)]; done)
              | (rw [if_neg h59, if_neg h74]; done)
      ·
        omega
  ·
    have h_ro : M 18 0 7 = nI x.1.1 := by rw [hP]; rfl
    have h_co : M 18 0 8 = nI x.1.2.1 := by rw [hP]; rfl
    have h_ce : M 18 0 9 = nI x.1.2.2 := by rw [hP]; rfl
    have h_bc : M 18 0 10 = nI x.2.2.2.2.1 := by rw [hP]; rfl
    have h_fr : M 18 0 11 = x.2.2.2.1 := by rw [hP]; rfl
    have h_he : M 18 1 = x.2.1 := by rw [hP]; rfl
    have h_gu : M 18 2 = x.2.2.1 := by rw [hP]; rfl
    have h_be : M 18 3 = be := by rw [hP]; rfl
    have h_nl : M 18 5 = x.2.2.2.2.2.1 := by rw [hP]; rfl
    have h_bh : M 18 6 = x.2.2.2.2.2.2.2.1 := by rw [hP]; rfl
    have h_fp : M 18 7 = x.2.2.2.2.2.2.1 := by rw [hP]; rfl
    have h_n0 : M 18 8 = x.2.2.2.2.2.2.2.2 0 := by rw [hP]; rfl
    have h_n1 : M 18 9 = x.2.2.2.2.2.2.2.2 1 := by rw [hP]; rfl
    have h_n2 : M 18 10 = x.2.2.2.2.2.2.2.2 2 := by rw [hP]; rfl
    have h_n3 : M 18 11 = x.2.2.2.2.2.2.2.2 3 := by rw [hP]; rfl
    have hn64 := (PIv_z hx).1
    have hpu := puT_le (M := M) (x := x)
    refine r_aload_n E (dat dkX9_isConsistent 0 rfl) rfl rfl ?_
    refine q_getl E fl_X9_46 (dat dkX9_isConsistent 1 rfl) rfl rfl rfl ?_
    refine r_aload_n E (dat dkX9_isConsistent 2 rfl) rfl rfl ?_
    refine q_getd E fl_X9_64 (dat dkX9_isConsistent 3 rfl) rfl rfl rfl hpn ?_
    refine r_aload_n E (dat dkX9_isConsistent 4 rfl) rfl rfl ?_
    refine q_getl E fl_X9_26 (dat dkX9_isConsistent 5 rfl) rfl rfl rfl ?_
    refine r_callV (κ := 5) (μ := [15, 18, 3]) E (sp_X3_findAll l G (M 15) (M 15 0 4) (M 15 1) (M 15 2) (M 15 3) (M 15 4) (M 3) (M 3 0 7) (M 3 0 8) (M 3 0 9) (M 3 0 10) (M 3 0 11) (M 3 0 12) (M 3 0 13) (M 3 0 14) (M 3 1) (M 3 2) (M 3 3) (M 3 4) (M 3 5) (M 3 6) (M 3 7) BP (nI x.1.1) (nI x.1.2.1) x.1.2.2 (nI x.2.2.2.2.1) x.2.2.2.1 x.2.1 x.2.2.1 be nm x.2.2.2.2.2.1 x.2.2.2.2.2.2.2.1 x.2.2.2.2.2.2.1 (x.2.2.2.2.2.2.2.2 0) (x.2.2.2.2.2.2.2.2 1) (x.2.2.2.2.2.2.2.2 2) (x.2.2.2.2.2.2.2.2 3) (nbx x) hbe (nbx_lt hx) _ (evU (M 15)).symm hP (evS (M 3)).symm hn64) my_X3_findAll iv_X3_findAll ml_X9_182 (cm_of rfl) ⟨by decide, rfl, rfl⟩ rfl rfl rfl rfl (by decide) (Nat.le_of_ble_eq_true rfl) (dat dkX9_isConsistent 6 rfl) ?_
    rintro _ _ ⟨rfl, rfl⟩
    refine ⟨_, (show Mrg _ _ M _ (puM M x) from Mrg_e (i := 0) (by decide) (by decide) rfl rfl), ?_⟩
    refine r_iconst (v := 0) E (dat dkX9_isConsistent 7 rfl) rfl ?_
    refine r_istore_1 E (dat dkX9_isConsistent 8 rfl) rfl rfl ?_
    refine r_iconst (v := 0) E (dat dkX9_isConsistent 9 rfl) rfl ?_
    refine r_istore_2 E (dat dkX9_isConsistent 10 rfl) rfl rfl ?_
    refine r_for ((puT M x).1) (fun _ => True) (fun i => puM M x) (fun i => [some (rv 0 0), some (iv (sm (puT M x).2.2.2.1 i)), some (iv (nI i))]) trivial rfl rfl ?_ ?_
    · intro i hi hI kk
      refine r_iload_n E (dat dkX9_isConsistent 11 rfl) rfl rfl ?_
      refine r_aload_n E (dat dkX9_isConsistent 12 rfl) rfl rfl ?_
      refine q_getl E fl_X9_46 (dat dkX9_isConsistent 13 rfl) rfl rfl rfl ?_
      refine q_getn E fl_X9_186 (dat dkX9_isConsistent 14 rfl) rfl rfl rfl rfl ?_
      refine q_icmp_ge (tgt := 48) E (dat dkX9_isConsistent 15 rfl) rfl rfl rfl (by omega) (by omega) (fun h27 => ?_) (fun h27 => ?_)
      ·
        omega
      ·
        refine r_iload_n E (dat dkX9_isConsistent 16 rfl) rfl rfl ?_
        refine r_aload_n E (dat dkX9_isConsistent 17 rfl) rfl rfl ?_
        refine q_getl E fl_X9_46 (dat dkX9_isConsistent 18 rfl) rfl rfl rfl ?_
        refine q_geta E fl_X9_196 (dat dkX9_isConsistent 19 rfl) rfl rfl rfl ?_
        refine r_iload_n E (dat dkX9_isConsistent 20 rfl) rfl rfl ?_
        refine q_iald E (dat dkX9_isConsistent 21 rfl) rfl rfl (by decide) rfl rfl (by omega) ?_
        refine r_iadd E (dat dkX9_isConsistent 22 rfl) ?_
        refine r_istore_1 E (dat dkX9_isConsistent 23 rfl) rfl rfl ?_
        refine q_iinc_2 E (dat dkX9_isConsistent 24 rfl) rfl rfl ?_
        refine r_goto (tgt := 19) E (dat dkX9_isConsistent 25 rfl) rfl ?_
        exact kk trivial
    · intro hI
      refine r_iload_n E (dat dkX9_isConsistent 11 rfl) rfl rfl ?_
      refine r_aload_n E (dat dkX9_isConsistent 12 rfl) rfl rfl ?_
      refine q_getl E fl_X9_46 (dat dkX9_isConsistent 13 rfl) rfl rfl rfl ?_
      refine q_getn E fl_X9_186 (dat dkX9_isConsistent 14 rfl) rfl rfl rfl rfl ?_
      refine q_icmp_ge (tgt := 48) E (dat dkX9_isConsistent 15 rfl) rfl rfl rfl (by omega) (by omega) (fun h27 => ?_) (fun h27 => ?_)
      ·
        refine r_aload_n E (dat dkX9_isConsistent 26 rfl) rfl rfl ?_
        refine q_getl E fl_X9_26 (dat dkX9_isConsistent 27 rfl) rfl rfl rfl ?_
        refine r_aload_n E (dat dkX9_isConsistent 28 rfl) rfl rfl ?_
        refine q_getd E fl_X9_64 (dat dkX9_isConsistent 29 rfl) rfl rfl rfl hpn ?_
        refine r_callV (κ := 1) (μ := [3, 18]) E (tp_X5_isBalanced l G (M 3) BP be nm x _ rfl hP hx hpl hw0) my_X5_isBalanced iv_X5_isBalanced ml_X9_254 (cm_of rfl) ⟨by decide, rfl, rfl⟩ rfl rfl rfl rfl (by decide) (Nat.le_of_ble_eq_true rfl) (dat dkX9_isConsistent 30 rfl) ?_
        rintro _ _ ⟨rfl, rfl⟩
        refine ⟨_, Mrg_z rfl, ?_⟩
        refine r_if_eq (tgt := 81) E (dat dkX9_isConsistent 31 rfl) rfl (fun h59 => ?_) (fun h59 => ?_)
        ·
          refine r_iconst (v := 0) E (dat dkX9_isConsistent 41 rfl) rfl ?_
          refine r_zreturn E (dat dkX9_isConsistent 42 rfl) rfl (by decide) (by decide) ?_
          refine ⟨?_, rfl⟩
          unfold csI
          first
            | (rw [if_pos h59]; done)
            | (rw [if_neg h59, if_pos (by first | exact h74 | exact Decidable.not_not.mp h74)]; done)
            | (rw [if_neg h59, if_neg h74]; done)
        ·
          refine r_iload_n E (dat dkX9_isConsistent 32 rfl) rfl rfl ?_
          refine r_aload_n E (dat dkX9_isConsistent 33 rfl) rfl rfl ?_
          refine q_getl E fl_X9_26 (dat dkX9_isConsistent 34 rfl) rfl rfl rfl ?_
          refine r_aload_n E (dat dkX9_isConsistent 35 rfl) rfl rfl ?_
          refine q_getd E fl_X9_64 (dat dkX9_isConsistent 36 rfl) rfl rfl rfl hpn ?_
          refine r_callV (κ := 1) (μ := [3, 18]) E (tp_X5_sumOfWater l G (M 3) BP be nm x _ rfl hP hx) my_X5_sumOfWater iv_X5_sumOfWater ml_X9_199 (cm_of rfl) ⟨by decide, rfl, rfl⟩ rfl rfl rfl rfl (by decide) (Nat.le_of_ble_eq_true rfl) (dat dkX9_isConsistent 37 rfl) ?_
          rintro _ _ ⟨rfl, rfl⟩
          refine ⟨_, Mrg_z rfl, ?_⟩
          refine r_icmp_ne (tgt := 81) E (dat dkX9_isConsistent 38 rfl) rfl (fun h74 => ?_) (fun h74 => ?_)
          ·
            refine r_iconst (v := 0) E (dat dkX9_isConsistent 41 rfl) rfl ?_
            refine r_zreturn E (dat dkX9_isConsistent 42 rfl) rfl (by decide) (by decide) ?_
            refine ⟨?_, rfl⟩
            unfold csI
            first
              | (rw [if_pos h59]; done)
              | (rw [if_neg h59, if_pos (by first | exact h74 | exact Decidable.not_not.mp h74)]; done)
              | (rw [if_neg h59, if_neg h74]; done)
          ·
            refine r_iconst (v := 1) E (dat dkX9_isConsistent 39 rfl) rfl ?_
            refine r_goto (tgt := 82) E (dat dkX9_isConsistent 40 rfl) rfl ?_
            refine r_zreturn E (dat dkX9_isConsistent 42 rfl) rfl (by decide) (by decide) ?_
            refine ⟨?_, rfl⟩
            unfold csI
            first
              | (rw [if_pos h59]; done)
              | (rw [if_neg h59, if_pos (by first | exact h74 | exact Decidable.not_not.mp h74)]; done)
              | (rw [if_neg h59, if_neg h74]; done)
      ·
        omega
