set_option maxRecDepth 100000 in
set_option maxHeartbeats 4000000 in
theorem sp_X9_meanWater (l : Launch) (G : GT) (BP : Nat → Nat → Int32) (be nm : Nat → Int32) (x : PP) (q : Nat)  (M : Mem) (hpn : (M 0 0 9).toNatClampNeg = q) (hq : q = 17 ∨ q = 18) (hP : M q = vPx BP be nm x) (hx : PIv x) (h0 : 0 < x.1.2.2) : MC l G yX9_meanWater cX9_meanWater 1 (some .double) ({ frames := 1, cells := 0, slots := 0, locals := 23 } : Room) KC lkC [rv 0 0] (M) (fun r M2 => r = some (.inl (.double (FP.ddiv (FP.i2d (sm (M 3 1) x.1.2.2)) (FP.i2d (nI x.1.2.2))))) ∧ M2 = M) := by
  refine MC.of RX9 [some (rv 0 0)] 0 (by decide +kernel) rfl rfl rfl ?_
  intro pp ee ss mm aa bb me cd ad E
  rcases hq with rfl | rfl
  ·
    have h_ro : M 17 0 7 = nI x.1.1 := by rw [hP]; rfl
    have h_co : M 17 0 8 = nI x.1.2.1 := by rw [hP]; rfl
    have h_ce : M 17 0 9 = nI x.1.2.2 := by rw [hP]; rfl
    have h_bc : M 17 0 10 = nI x.2.2.2.2.1 := by rw [hP]; rfl
    have h_fr : M 17 0 11 = x.2.2.2.1 := by rw [hP]; rfl
    have h_he : M 17 1 = x.2.1 := by rw [hP]; rfl
    have h_gu : M 17 2 = x.2.2.1 := by rw [hP]; rfl
    have h_be : M 17 3 = be := by rw [hP]; rfl
    have h_nl : M 17 5 = x.2.2.2.2.2.1 := by rw [hP]; rfl
    have h_bh : M 17 6 = x.2.2.2.2.2.2.2.1 := by rw [hP]; rfl
    have h_fp : M 17 7 = x.2.2.2.2.2.2.1 := by rw [hP]; rfl
    have h_n0 : M 17 8 = x.2.2.2.2.2.2.2.2 0 := by rw [hP]; rfl
    have h_n1 : M 17 9 = x.2.2.2.2.2.2.2.2 1 := by rw [hP]; rfl
    have h_n2 : M 17 10 = x.2.2.2.2.2.2.2.2 2 := by rw [hP]; rfl
    have h_n3 : M 17 11 = x.2.2.2.2.2.2.2.2 3 := by rw [hP]; rfl
    have hn64 := (PIv_z hx).1
    
    refine r_aload_n E (dat dkX9_meanWater 0 rfl) rfl rfl ?_
    refine q_getd E fl_X9_64 (dat dkX9_meanWater 1 rfl) rfl rfl rfl hpn ?_
    refine q_getn E fl_X9_106 (dat dkX9_meanWater 2 rfl) rfl rfl rfl h_ce ?_
    refine r_if_ne (tgt := 12) E (dat dkX9_meanWater 3 rfl) rfl (fun h7 => ?_) (fun h7 => ?_)
    ·
      refine r_aload_n E (dat dkX9_meanWater 6 rfl) rfl rfl ?_
      refine q_getl E fl_X9_26 (dat dkX9_meanWater 7 rfl) rfl rfl rfl ?_
      refine r_aload_n E (dat dkX9_meanWater 8 rfl) rfl rfl ?_
      refine q_getd E fl_X9_64 (dat dkX9_meanWater 9 rfl) rfl rfl rfl hpn ?_
      refine r_callV (κ := 1) (μ := [3, 17]) E (tp_X5_sumOfWater l G (M 3) BP be nm x _ rfl hP hx) my_X5_sumOfWater iv_X5_sumOfWater ml_X9_199 (cm_of rfl) ⟨by decide, rfl, rfl⟩ rfl rfl rfl rfl (by decide) (Nat.le_of_ble_eq_true rfl) (dat dkX9_meanWater 10 rfl) ?_
      rintro _ _ ⟨rfl, rfl⟩
      refine ⟨_, Mrg_z rfl, ?_⟩
      refine r_i2d E (dat dkX9_meanWater 11 rfl) ?_
      refine r_aload_n E (dat dkX9_meanWater 12 rfl) rfl rfl ?_
      refine q_getd E fl_X9_64 (dat dkX9_meanWater 13 rfl) rfl rfl rfl hpn ?_
      refine q_getn E fl_X9_106 (dat dkX9_meanWater 14 rfl) rfl rfl rfl h_ce ?_
      refine r_i2d E (dat dkX9_meanWater 15 rfl) ?_
      refine r_ddiv E (dat dkX9_meanWater 16 rfl) (dv64 _ (by omega) h0) ?_
      refine r_dreturn E (dat dkX9_meanWater 17 rfl) (by decide) (by decide) ?_
      exact ⟨rfl, rfl⟩
    ·
      exact absurd ((nI_eq (b := 0) (by omega) (by decide)).mp (show nI x.1.2.2 = nI 0 from by first | exact h7 | exact Decidable.not_not.mp h7)) (by omega)
  ·
    have h_ro : M 18 0 7 = nI x.1.1 := by rw [hP]; rfl
    have h_co : M 18 0 8 = nI x.1.2.1 := by rw [hP]; rfl
    have h_ce : M 18 0 9 = nI x.1.2.2 := by rw [hP]; rfl
    have h_bc : M 18 0 10 = nI x.2.2.2.2.1 := by rw [hP]; rfl
    have h_fr : M 18 0 11 = x.2.2.2.1 := by rw [hP]; rfl
    have h_he : M 18 1 = x.2.1 := by rw [hP]; rfl
    have h_gu : M 18 2 = x.2.2.1 := by rw [hP]; rfl
    have h_be : M 18 3 = be := by rw [hP]; rfl
    have h_nl : M 18 5 = x.2.2.2.2.2.1 := by rw [hP]; rfl
    have h_bh : M 18 6 = x.2.2.2.2.2.2.2.1 := by rw [hP]; rfl
    have h_fp : M 18 7 = x.2.2.2.2.2.2.1 := by rw [hP]; rfl
    have h_n0 : M 18 8 = x.2.2.2.2.2.2.2.2 0 := by rw [hP]; rfl
    have h_n1 : M 18 9 = x.2.2.2.2.2.2.2.2 1 := by rw [hP]; rfl
    have h_n2 : M 18 10 = x.2.2.2.2.2.2.2.2 2 := by rw [hP]; rfl
    have h_n3 : M 18 11 = x.2.2.2.2.2.2.2.2 3 := by rw [hP]; rfl
    have hn64 := (PIv_z hx).1
    
    refine r_aload_n E (dat dkX9_meanWater 0 rfl) rfl rfl ?_
    refine q_getd E fl_X9_64 (dat dkX9_meanWater 1 rfl) rfl rfl rfl hpn ?_
    refine q_getn E fl_X9_106 (dat dkX9_meanWater 2 rfl) rfl rfl rfl h_ce ?_
    refine r_if_ne (tgt := 12) E (dat dkX9_meanWater 3 rfl) rfl (fun h7 => ?_) (fun h7 => ?_)
    ·
      refine r_aload_n E (dat dkX9_meanWater 6 rfl) rfl rfl ?_
      refine q_getl E fl_X9_26 (dat dkX9_meanWater 7 rfl) rfl rfl rfl ?_
      refine r_aload_n E (dat dkX9_meanWater 8 rfl) rfl rfl ?_
      refine q_getd E fl_X9_64 (dat dkX9_meanWater 9 rfl) rfl rfl rfl hpn ?_
      refine r_callV (κ := 1) (μ := [3, 18]) E (tp_X5_sumOfWater l G (M 3) BP be nm x _ rfl hP hx) my_X5_sumOfWater iv_X5_sumOfWater ml_X9_199 (cm_of rfl) ⟨by decide, rfl, rfl⟩ rfl rfl rfl rfl (by decide) (Nat.le_of_ble_eq_true rfl) (dat dkX9_meanWater 10 rfl) ?_
      rintro _ _ ⟨rfl, rfl⟩
      refine ⟨_, Mrg_z rfl, ?_⟩
      refine r_i2d E (dat dkX9_meanWater 11 rfl) ?_
      refine r_aload_n E (dat dkX9_meanWater 12 rfl) rfl rfl ?_
      refine q_getd E fl_X9_64 (dat dkX9_meanWater 13 rfl) rfl rfl rfl hpn ?_
      refine q_getn E fl_X9_106 (dat dkX9_meanWater 14 rfl) rfl rfl rfl h_ce ?_
      refine r_i2d E (dat dkX9_meanWater 15 rfl) ?_
      refine r_ddiv E (dat dkX9_meanWater 16 rfl) (dv64 _ (by omega) h0) ?_
      refine r_dreturn E (dat dkX9_meanWater 17 rfl) (by decide) (by decide) ?_
      exact ⟨rfl, rfl⟩
    ·
      exact absurd ((nI_eq (b := 0) (by omega) (by decide)).mp (show nI x.1.2.2 = nI 0 from by first | exact h7 | exact Decidable.not_not.mp h7)) (by omega)

set_option maxRecDepth 100000 in
set_option maxHeartbeats 4000000 in
theorem sp_X9_wetPart (l : Launch) (G : GT) (BP : Nat → Nat → Int32) (be nm : Nat → Int32) (x : PP) (q : Nat)  (M : Mem) (hpn : (M 0 0 9).toNatClampNeg = q) (hq : q = 17 ∨ q = 18) (hP : M q = vPx BP be nm x) (hx : PIv x) (h0 : 0 < x.1.2.2) : MC l G yX9_wetPart cX9_wetPart 3 (some .float) ({ frames := 0, cells := 0, slots := 0, locals := 0 } : Room) KC lkC [rv 0 0] (M) (fun r M2 => r = some (.inl (.float (FP.fdiv (FP.i2f (nI (kN (wpB (M 3 1)) x.1.2.2))) (FP.i2f (nI x.1.2.2))))) ∧ M2 = M) := by
  refine MC.of RX9 [some (rv 0 0), none, none] 2 (by decide +kernel) rfl rfl rfl ?_
  intro pp ee ss mm aa bb me cd ad E
  rcases hq with rfl | rfl
  ·
    have h_ro : M 17 0 7 = nI x.1.1 := by rw [hP]; rfl
    have h_co : M 17 0 8 = nI x.1.2.1 := by rw [hP]; rfl
    have h_ce : M 17 0 9 = nI x.1.2.2 := by rw [hP]; rfl
    have h_bc : M 17 0 10 = nI x.2.2.2.2.1 := by rw [hP]; rfl
    have h_fr : M 17 0 11 = x.2.2.2.1 := by rw [hP]; rfl
    have h_he : M 17 1 = x.2.1 := by rw [hP]; rfl
    have h_gu : M 17 2 = x.2.2.1 := by rw [hP]; rfl
    have h_be : M 17 3 = be := by rw [hP]; rfl
    have h_nl : M 17 5 = x.2.2.2.2.2.1 := by rw [hP]; rfl
    have h_bh : M 17 6 = x.2.2.2.2.2.2.2.1 := by rw [hP]; rfl
    have h_fp : M 17 7 = x.2.2.2.2.2.2.1 := by rw [hP]; rfl
    have h_n0 : M 17 8 = x.2.2.2.2.2.2.2.2 0 := by rw [hP]; rfl
    have h_n1 : M 17 9 = x.2.2.2.2.2.2.2.2 1 := by rw [hP]; rfl
    have h_n2 : M 17 10 = x.2.2.2.2.2.2.2.2 2 := by rw [hP]; rfl
    have h_n3 : M 17 11 = x.2.2.2.2.2.2.2.2 3 := by rw [hP]; rfl
    have hn64 := (PIv_z hx).1
    
    refine r_aload_n E (dat dkX9_wetPart 0 rfl) rfl rfl ?_
    refine q_getd E fl_X9_64 (dat dkX9_wetPart 1 rfl) rfl rfl rfl hpn ?_
    refine q_getn E fl_X9_106 (dat dkX9_wetPart 2 rfl) rfl rfl rfl h_ce ?_
    refine r_if_ne (tgt := 12) E (dat dkX9_wetPart 3 rfl) rfl (fun h7 => ?_) (fun h7 => ?_)
    ·
      refine r_iconst (v := 0) E (dat dkX9_wetPart 6 rfl) rfl ?_
      refine r_istore_1 E (dat dkX9_wetPart 7 rfl) rfl rfl ?_
      refine r_iconst (v := 0) E (dat dkX9_wetPart 8 rfl) rfl ?_
      refine r_istore_2 E (dat dkX9_wetPart 9 rfl) rfl rfl ?_
      refine r_for (x.1.2.2) (fun _ => True) (fun i => M) (fun i => [some (rv 0 0), some (iv (nI (kN (wpB (M 3 1)) i))), some (iv (nI i))]) trivial rfl rfl ?_ ?_
      · intro i hi hI kk
        refine r_iload_n E (dat dkX9_wetPart 10 rfl) rfl rfl ?_
        refine r_aload_n E (dat dkX9_wetPart 11 rfl) rfl rfl ?_
        refine q_getd E fl_X9_64 (dat dkX9_wetPart 12 rfl) rfl rfl rfl hpn ?_
        refine q_getn E fl_X9_106 (dat dkX9_wetPart 13 rfl) rfl rfl rfl h_ce ?_
        refine q_icmp_ge (tgt := 48) E (dat dkX9_wetPart 14 rfl) rfl rfl rfl (by omega) (by omega) (fun h24 => ?_) (fun h24 => ?_)
        ·
          omega
        ·
          refine r_aload_n E (dat dkX9_wetPart 15 rfl) rfl rfl ?_
          refine q_getl E fl_X9_26 (dat dkX9_wetPart 16 rfl) rfl rfl rfl ?_
          refine q_geta E fl_X9_148 (dat dkX9_wetPart 17 rfl) rfl rfl rfl ?_
          refine r_iload_n E (dat dkX9_wetPart 18 rfl) rfl rfl ?_
          refine q_iald E (dat dkX9_wetPart 19 rfl) rfl rfl (by decide) rfl rfl (by omega) ?_
          refine r_if_le (tgt := 42) E (dat dkX9_wetPart 20 rfl) rfl (fun h36 => ?_) (fun h36 => ?_)
          ·
            refine q_iinc_2 E (dat dkX9_wetPart 22 rfl) rfl rfl ?_
            refine r_goto (tgt := 16) E (dat dkX9_wetPart 23 rfl) rfl ?_
            first
              | (rw [kN_1 (b := wpB (M 3 1)) (i := i) (wpB_1.mpr (by first | exact h36 | exact Int32.not_le.mp h36))] at kk; exact kk trivial)
              | (rw [kN_0 (b := wpB (M 3 1)) (i := i) (fun q => absurd (wpB_1.mp q) (Int32.not_lt.mpr h36))] at kk; exact kk trivial)
          ·
            refine q_iinc_1 E (dat dkX9_wetPart 21 rfl) rfl rfl ?_
            refine q_iinc_2 E (dat dkX9_wetPart 22 rfl) rfl rfl ?_
            refine r_goto (tgt := 16) E (dat dkX9_wetPart 23 rfl) rfl ?_
            first
              | (rw [kN_1 (b := wpB (M 3 1)) (i := i) (wpB_1.mpr (by first | exact h36 | exact Int32.not_le.mp h36))] at kk; exact kk trivial)
              | (rw [kN_0 (b := wpB (M 3 1)) (i := i) (fun q => absurd (wpB_1.mp q) (Int32.not_lt.mpr h36))] at kk; exact kk trivial)
      · intro hI
        refine r_iload_n E (dat dkX9_wetPart 10 rfl) rfl rfl ?_
        refine r_aload_n E (dat dkX9_wetPart 11 rfl) rfl rfl ?_
        refine q_getd E fl_X9_64 (dat dkX9_wetPart 12 rfl) rfl rfl rfl hpn ?_
        refine q_getn E fl_X9_106 (dat dkX9_wetPart 13 rfl) rfl rfl rfl h_ce ?_
        refine q_icmp_ge (tgt := 48) E (dat dkX9_wetPart 14 rfl) rfl rfl rfl (by omega) (by omega) (fun h24 => ?_) (fun h24 => ?_)
        ·
          refine r_iload_n E (dat dkX9_wetPart 24 rfl) rfl rfl ?_
          refine r_i2f E (dat dkX9_wetPart 25 rfl) ?_
          refine r_aload_n E (dat dkX9_wetPart 26 rfl) rfl rfl ?_
          refine q_getd E fl_X9_64 (dat dkX9_wetPart 27 rfl) rfl rfl rfl hpn ?_
          refine q_getn E fl_X9_106 (dat dkX9_wetPart 28 rfl) rfl rfl rfl h_ce ?_
          refine r_i2f E (dat dkX9_wetPart 29 rfl) ?_
          refine r_fdiv E (dat dkX9_wetPart 30 rfl) (dv32 _ (by omega) h0) ?_
          refine r_freturn E (dat dkX9_wetPart 31 rfl) (by decide) (by decide) ?_
          exact ⟨rfl, rfl⟩
        ·
          omega
    ·
      exact absurd ((nI_eq (b := 0) (by omega) (by decide)).mp (show nI x.1.2.2 = nI 0 from by first | exact h7 | exact Decidable.not_not.mp h7)) (by omega)
  ·
    have h_ro : M 18 0 7 = nI x.1.1 := by rw [hP]; rfl
    have h_co : M 18 0 8 = nI x.1.2.1 := by rw [hP]; rfl
    have h_ce : M 18 0 9 = nI x.1.2.2 := by rw [hP]; rfl
    have h_bc : M 18 0 10 = nI x.2.2.2.2.1 := by rw [hP]; rfl
    have h_fr : M 18 0 11 = x.2.2.2.1 := by rw [hP]; rfl
    have h_he : M 18 1 = x.2.1 := by rw [hP]; rfl
    have h_gu : M 18 2 = x.2.2.1 := by rw [hP]; rfl
    have h_be : M 18 3 = be := by rw [hP]; rfl
    have h_nl : M 18 5 = x.2.2.2.2.2.1 := by rw [hP]; rfl
    have h_bh : M 18 6 = x.2.2.2.2.2.2.2.1 := by rw [hP]; rfl
    have h_fp : M 18 7 = x.2.2.2.2.2.2.1 := by rw [hP]; rfl
    have h_n0 : M 18 8 = x.2.2.2.2.2.2.2.2 0 := by rw [hP]; rfl
    have h_n1 : M 18 9 = x.2.2.2.2.2.2.2.2 1 := by rw [hP]; rfl
    have h_n2 : M 18 10 = x.2.2.2.2.2.2.2.2 2 := by rw [hP]; rfl
    have h_n3 : M 18 11 = x.2.2.2.2.2.2.2.2 3 := by rw [hP]; rfl
    have hn64 := (PIv_z hx).1
    
    refine r_aload_n E (dat dkX9_wetPart 0 rfl) rfl rfl ?_
    refine q_getd E fl_X9_64 (dat dkX9_wetPart 1 rfl) rfl rfl rfl hpn ?_
    refine q_getn E fl_X9_106 (dat dkX9_wetPart 2 rfl) rfl rfl rfl h_ce ?_
    refine r_if_ne (tgt := 12) E (dat dkX9_wetPart 3 rfl) rfl (fun h7 => ?_) (fun h7 => ?_)
    ·
      refine r_iconst (v := 0) E (dat dkX9_wetPart 6 rfl) rfl ?_
      refine r_istore_1 E (dat dkX9_wetPart 7 rfl) rfl rfl ?_
      refine r_iconst (v := 0) E (dat dkX9_wetPart 8 rfl) rfl ?_
      refine r_istore_2 E (dat dkX9_wetPart 9 rfl) rfl rfl ?_
      refine r_for (x.1.2.2) (fun _ => True) (fun i => M) (fun i => [some (rv 0 0), some (iv (nI (kN (wpB (M 3 1)) i))), some (iv (nI i))]) trivial rfl rfl ?_ ?_
      · intro i hi hI kk
        refine r_iload_n E (dat dkX9_wetPart 10 rfl) rfl rfl ?_
        refine r_aload_n E (dat dkX9_wetPart 11 rfl) rfl rfl ?_
        refine q_getd E fl_X9_64 (dat dkX9_wetPart 12 rfl) rfl rfl rfl hpn ?_
        refine q_getn E fl_X9_106 (dat dkX9_wetPart 13 rfl) rfl rfl rfl h_ce ?_
        refine q_icmp_ge (tgt := 48) E (dat dkX9_wetPart 14 rfl) rfl rfl rfl (by omega) (by omega) (fun h24 => ?_) (fun h24 => ?_)
        ·
          omega
        ·
          refine r_aload_n E (dat dkX9_wetPart 15 rfl) rfl rfl ?_
          refine q_getl E fl_X9_26 (dat dkX9_wetPart 16 rfl) rfl rfl rfl ?_
          refine q_geta E fl_X9_148 (dat dkX9_wetPart 17 rfl) rfl rfl rfl ?_
          refine r_iload_n E (dat dkX9_wetPart 18 rfl) rfl rfl ?_
          refine q_iald E (dat dkX9_wetPart 19 rfl) rfl rfl (by decide) rfl rfl (by omega) ?_
          refine r_if_le (tgt := 42) E (dat dkX9_wetPart 20 rfl) rfl (fun h36 => ?_) (fun h36 => ?_)
          ·
            refine q_iinc_2 E (dat dkX9_wetPart 22 rfl) rfl rfl ?_
            refine r_goto (tgt := 16) E (dat dkX9_wetPart 23 rfl) rfl ?_
            first
              | (rw [kN_1 (b := wpB (M 3 1)) (i := i) (wpB_1.mpr (by first | exact h36 | exact Int32.not_le.mp h36))] at kk; exact kk trivial)
              | (rw [kN_0 (b := wpB (M 3 1)) (i := i) (fun q => absurd (wpB_1.mp q) (Int32.not_lt.mpr h36))] at kk; exact kk trivial)
          ·
            refine q_iinc_1 E (dat dkX9_wetPart 21 rfl) rfl rfl ?_
            refine q_iinc_2 E (dat dkX9_wetPart 22 rfl) rfl rfl ?_
            refine r_goto (tgt := 16) E (dat dkX9_wetPart 23 rfl) rfl ?_
            first
              | (rw [kN_1 (b := wpB (M 3 1)) (i := i) (wpB_1.mpr (by first | exact h36 | exact Int32.not_le.mp h36))] at kk; exact kk trivial)
              | (rw [kN_0 (b := wpB (M 3 1)) (i := i) (fun q => absurd (wpB_1.mp q) (Int32.not_lt.mpr h36))] at kk; exact kk trivial)
      · intro hI
        refine r_iload_n E (dat dkX9_wetPart 10 rfl) rfl rfl ?_
        refine r_aload_n E (dat dkX9_wetPart 11 rfl) rfl rfl ?_
        refine q_getd E fl_X9_64 (dat dkX9_wetPart 12 rfl) rfl rfl rfl hpn ?_
        refine q_getn E fl_X9_106 (dat dkX9_wetPart 13 rfl) rfl rfl rfl h_ce ?_
        refine q_icmp_ge (tgt := 48) E (dat dkX9_wetPart 14 rfl) rfl rfl rfl (by omega) (by omega) (fun h24 => ?_) (fun h24 => ?_)
        ·
          refine r_iload_n E (dat dkX9_wetPart 24 rfl) rfl rfl ?_
          refine r_i2f E (dat dkX9_wetPart 25 rfl) ?_
          refine r_aload_n E (dat dkX9_wetPart 26 rfl) rfl rfl ?_
          refine q_getd E fl_X9_64 (dat dkX9_wetPart 27 rfl) rfl rfl rfl hpn ?_
          refine q_getn E fl_X9_106 (dat dkX9_wetPart 28 rfl) rfl rfl rfl h_ce ?_
          refine r_i2f E (dat dkX9_wetPart 29 rfl) ?_
          refine r_fdiv E (dat dkX9_wetPart 30 rfl) (dv32 _ (by omega) h0) ?_
          refine r_freturn E (dat dkX9_wetPart 31 rfl) (by decide) (by decide) ?_
          exact ⟨rfl, rfl⟩
        ·
          omega
    ·
      exact absurd ((nI_eq (b := 0) (by omega) (by decide)).mp (show nI x.1.2.2 = nI 0 from by first | exact h7 | exact Decidable.not_not.mp h7)) (by omega)
