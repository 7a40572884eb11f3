/-- the first of the deepest of the cells 0 to i -/
def dpN (w : Nat → Int32) : Nat → Nat
  | 0 => 0
  | i + 1 => if w (dpN w i) < w (i + 1) then i + 1 else dpN w i
theorem dpN_le {w : Nat → Int32} : ∀ i, dpN w i ≤ i
  | 0 => Nat.le_refl 0
  | i + 1 => by
    have := dpN_le (w := w) i
    unfold dpN
    split <;> omega
def csI (x : PP) (M : Mem) : Int32 := if blI x (M 3) = 0 then 0 else if sm (puT M x).2.2.2.1 (puT M x).1 = sm (M 3 1) x.1.2.2 then 1 else 0
set_option maxRecDepth 100000 in
set_option maxHeartbeats 4000000 in
theorem sp_X9_waterTotal (l : Launch) (G : GT) (BP : Nat → Nat → Int32) (be nm : Nat → Int32) (x : PP) (q : Nat)  (M : Mem) (hpn : (M 0 0 9).toNatClampNeg = q) (hq : q = 17 ∨ q = 18) (hP : M q = vPx BP be nm x) (hx : PIv x)  : MC l G yX9_waterTotal cX9_waterTotal 1 (some .int) ({ frames := 1, cells := 0, slots := 0, locals := 23 } : Room) KC lkC [rv 0 0] (M) (fun r M2 => r = some (iv (sm (M 3 1) x.1.2.2)) ∧ M2 = M) := by
  refine MC.of RX9 [some (rv 0 0)] 0 (by decide +kernel) rfl rfl rfl ?_
  intro pp ee ss mm aa bb me cd ad E
  rcases hq with rfl | rfl
  ·
    have h_ro : M 17 0 7 = nI x.1.1 := by rw [hP]; rfl
    have h_co : M 17 0 8 = nI x.1.2.1 := by rw [hP]; rfl
    have h_ce : M 17 0 9 = nI x.1.2.2 := by rw [hP]; rfl
    have h_bc : M 17 0 10 = nI x.2.2.2.2.1 := by rw [hP]; rfl
    have h_fr : M 17 0 11 = x.2.2.2.1 := by rw [hP]; rfl
    have h_he : M 17 1 = x.2.1 := by rw [hP]; rfl
    have h_gu : M 17 2 = x.2.2.1 := by rw [hP]; rfl
    have h_be : M 17 3 = be := by rw [hP]; rfl
    have h_nl : M 17 5 = x.2.2.2.2.2.1 := by rw [hP]; rfl
    have h_bh : M 17 6 = x.2.2.2.2.2.2.2.1 := by rw [hP]; rfl
    have h_fp : M 17 7 = x.2.2.2.2.2.2.1 := by rw [hP]; rfl
    have h_n0 : M 17 8 = x.2.2.2.2.2.2.2.2 0 := by rw [hP]; rfl
    have h_n1 : M 17 9 = x.2.2.2.2.2.2.2.2 1 := by rw [hP]; rfl
    have h_n2 : M 17 10 = x.2.2.2.2.2.2.2.2 2 := by rw [hP]; rfl
    have h_n3 : M 17 11 = x.2.2.2.2.2.2.2.2 3 := by rw [hP]; rfl
    have hn64 := (PIv_z hx).1
    
    refine r_aload_n E (dat dkX9_waterTotal 0 rfl) rfl rfl ?_
    refine q_getl E fl_X9_26 (dat dkX9_waterTotal 1 rfl) rfl rfl rfl ?_
    refine r_aload_n E (dat dkX9_waterTotal 2 rfl) rfl rfl ?_
    refine q_getd E fl_X9_64 (dat dkX9_waterTotal 3 rfl) rfl rfl rfl hpn ?_
    refine r_callV (κ := 1) (μ := [3, 17]) E (tp_X5_sumOfWater l G (M 3) BP be nm x _ rfl hP hx) my_X5_sumOfWater iv_X5_sumOfWater ml_X9_199 (cm_of rfl) ⟨by decide, rfl, rfl⟩ rfl rfl rfl rfl (by decide) (Nat.le_of_ble_eq_true rfl) (dat dkX9_waterTotal 4 rfl) ?_
    rintro _ _ ⟨rfl, rfl⟩
    refine ⟨_, Mrg_z rfl, ?_⟩
    refine r_ireturn E (dat dkX9_waterTotal 5 rfl) (by decide) (by decide) ?_
    exact ⟨rfl, rfl⟩
  ·
    have h_ro : M 18 0 7 = nI x.1.1 := by rw [hP]; rfl
    have h_co : M 18 0 8 = nI x.1.2.1 := by rw [hP]; rfl
    have h_ce : M 18 0 9 = nI x.1.2.2 := by rw [hP]; rfl
    have h_bc : M 18 0 10 = nI x.2.2.2.2.1 := by rw [hP]; rfl
    have h_fr : M 18 0 11 = x.2.2.2.1 := by rw [hP]; rfl
    have h_he : M 18 1 = x.2.1 := by rw [hP]; rfl
    have h_gu : M 18 2 = x.2.2.1 := by rw [hP]; rfl
    have h_be : M 18 3 = be := by rw [hP]; rfl
    have h_nl : M 18 5 = x.2.2.2.2.2.1 := by rw [hP]; rfl
    have h_bh : M 18 6 = x.2.2.2.2.2.2.2.1 := by rw [hP]; rfl
    have h_fp : M 18 7 = x.2.2.2.2.2.2.1 := by rw [hP]; rfl
    have h_n0 : M 18 8 = x.2.2.2.2.2.2.2.2 0 := by rw [hP]; rfl
    have h_n1 : M 18 9 = x.2.2.2.2.2.2.2.2 1 := by rw [hP]; rfl
    have h_n2 : M 18 10 = x.2.2.2.2.2.2.2.2 2 := by rw [hP]; rfl
    have h_n3 : M 18 11 = x.2.2.2.2.2.2.2.2 3 := by rw [hP]; rfl
    have hn64 := (PIv_z hx).1
    
    refine r_aload_n E (dat dkX9_waterTotal 0 rfl) rfl rfl ?_
    refine q_getl E fl_X9_26 (dat dkX9_waterTotal 1 rfl) rfl rfl rfl ?_
    refine r_aload_n E (dat dkX9_waterTotal 2 rfl) rfl rfl ?_
    refine q_getd E fl_X9_64 (dat dkX9_waterTotal 3 rfl) rfl rfl rfl hpn ?_
    refine r_callV (κ := 1) (μ := [3, 18]) E (tp_X5_sumOfWater l G (M 3) BP be nm x _ rfl hP hx) my_X5_sumOfWater iv_X5_sumOfWater ml_X9_199 (cm_of rfl) ⟨by decide, rfl, rfl⟩ rfl rfl rfl rfl (by decide) (Nat.le_of_ble_eq_true rfl) (dat dkX9_waterTotal 4 rfl) ?_
    rintro _ _ ⟨rfl, rfl⟩
    refine ⟨_, Mrg_z rfl, ?_⟩
    refine r_ireturn E (dat dkX9_waterTotal 5 rfl) (by decide) (by decide) ?_
    exact ⟨rfl, rfl⟩

set_option maxRecDepth 100000 in
set_option maxHeartbeats 4000000 in
theorem sp_X9_deepestCell (l : Launch) (G : GT) (BP : Nat → Nat → Int32) (be nm : Nat → Int32) (x : PP) (q : Nat)  (M : Mem) (hpn : (M 0 0 9).toNatClampNeg = q) (hq : q = 17 ∨ q = 18) (hP : M q = vPx BP be nm x) (hx : PIv x)  : MC l G yX9_deepestCell cX9_deepestCell 3 (some .int) ({ frames := 0, cells := 0, slots := 0, locals := 0 } : Room) KC lkC [rv 0 0] (M) (fun r M2 => r = some (iv (nI (dpN (M 3 1) (x.1.2.2 - 1)))) ∧ M2 = M) := by
  refine MC.of RX9 [some (rv 0 0), none, none] 2 (by decide +kernel) rfl rfl rfl ?_
  intro pp ee ss mm aa bb me cd ad E
  rcases hq with rfl | rfl
  ·
    have h_ro : M 17 0 7 = nI x.1.1 := by rw [hP]; rfl
    have h_co : M 17 0 8 = nI x.1.2.1 := by rw [hP]; rfl
    have h_ce : M 17 0 9 = nI x.1.2.2 := by rw [hP]; rfl
    have h_bc : M 17 0 10 = nI x.2.2.2.2.1 := by rw [hP]; rfl
    have h_fr : M 17 0 11 = x.2.2.2.1 := by rw [hP]; rfl
    have h_he : M 17 1 = x.2.1 := by rw [hP]; rfl
    have h_gu : M 17 2 = x.2.2.1 := by rw [hP]; rfl
    have h_be : M 17 3 = be := by rw [hP]; rfl
    have h_nl : M 17 5 = x.2.2.2.2.2.1 := by rw [hP]; rfl
    have h_bh : M 17 6 = x.2.2.2.2.2.2.2.1 := by rw [hP]; rfl
    have h_fp : M 17 7 = x.2.2.2.2.2.2.1 := by rw [hP]; rfl
    have h_n0 : M 17 8 = x.2.2.2.2.2.2.2.2 0 := by rw [hP]; rfl
    have h_n1 : M 17 9 = x.2.2.2.2.2.2.2.2 1 := by rw [hP]; rfl
    have h_n2 : M 17 10 = x.2.2.2.2.2.2.2.2 2 := by rw [hP]; rfl
    have h_n3 : M 17 11 = x.2.2.2.2.2.2.2.2 3 := by rw [hP]; rfl
    have hn64 := (PIv_z hx).1
    
    refine r_iconst (v := 0) E (dat dkX9_deepestCell 0 rfl) rfl ?_
    refine r_istore_1 E (dat dkX9_deepestCell 1 rfl) rfl rfl ?_
    refine r_iconst (v := 1) E (dat dkX9_deepestCell 2 rfl) rfl ?_
    refine r_istore_2 E (dat dkX9_deepestCell 3 rfl) rfl rfl ?_
    refine r_for ((x.1.2.2 - 1)) (fun _ => True) (fun i => M) (fun i => [some (rv 0 0), some (iv (nI (dpN (M 3 1) i))), some (iv (nI (i + 1)))]) trivial rfl rfl ?_ ?_
    · intro i hi hI kk
      have hdl := dpN_le (w := M 3 1) i
      refine r_iload_n E (dat dkX9_deepestCell 4 rfl) rfl rfl ?_
      refine r_aload_n E (dat dkX9_deepestCell 5 rfl) rfl rfl ?_
      refine q_getd E fl_X9_64 (dat dkX9_deepestCell 6 rfl) rfl rfl rfl hpn ?_
      refine q_getn E fl_X9_106 (dat dkX9_deepestCell 7 rfl) rfl rfl rfl h_ce ?_
      refine q_icmp_ge (tgt := 44) E (dat dkX9_deepestCell 8 rfl) rfl rfl rfl (by omega) (by omega) (fun h12 => ?_) (fun h12 => ?_)
      ·
        omega
      ·
        refine r_aload_n E (dat dkX9_deepestCell 9 rfl) rfl rfl ?_
        refine q_getl E fl_X9_26 (dat dkX9_deepestCell 10 rfl) rfl rfl rfl ?_
        refine q_geta E fl_X9_148 (dat dkX9_deepestCell 11 rfl) rfl rfl rfl ?_
        refine r_iload_n E (dat dkX9_deepestCell 12 rfl) rfl rfl ?_
        refine q_iald E (dat dkX9_deepestCell 13 rfl) rfl rfl (by decide) rfl rfl (by omega) ?_
        refine r_aload_n E (dat dkX9_deepestCell 14 rfl) rfl rfl ?_
        refine q_getl E fl_X9_26 (dat dkX9_deepestCell 15 rfl) rfl rfl rfl ?_
        refine q_geta E fl_X9_148 (dat dkX9_deepestCell 16 rfl) rfl rfl rfl ?_
        refine r_iload_n E (dat dkX9_deepestCell 17 rfl) rfl rfl ?_
        refine q_iald E (dat dkX9_deepestCell 18 rfl) rfl rfl (by decide) rfl rfl (by omega) ?_
        refine r_icmp_le (tgt := 38) E (dat dkX9_deepestCell 19 rfl) rfl (fun h33 => ?_) (fun h33 => ?_)
        ·
          refine q_iinc_2 E (dat dkX9_deepestCell 22 rfl) rfl rfl ?_
          refine r_goto (tgt := 4) E (dat dkX9_deepestCell 23 rfl) rfl ?_
          first
            | (rw [show dpN (M 3 1) (i + 1) = i + 1 from if_pos (nle_lt h33)] at kk; exact kk trivial)
            | (rw [show dpN (M 3 1) (i + 1) = dpN (M 3 1) i from if_neg (Int32.not_lt.mpr h33)] at kk; exact kk trivial)
        ·
          refine r_iload_n E (dat dkX9_deepestCell 20 rfl) rfl rfl ?_
          refine r_istore_1 E (dat dkX9_deepestCell 21 rfl) rfl rfl ?_
          refine q_iinc_2 E (dat dkX9_deepestCell 22 rfl) rfl rfl ?_
          refine r_goto (tgt := 4) E (dat dkX9_deepestCell 23 rfl) rfl ?_
          first
            | (rw [show dpN (M 3 1) (i + 1) = i + 1 from if_pos (nle_lt h33)] at kk; exact kk trivial)
            | (rw [show dpN (M 3 1) (i + 1) = dpN (M 3 1) i from if_neg (Int32.not_lt.mpr h33)] at kk; exact kk trivial)
    · intro hI
      refine r_iload_n E (dat dkX9_deepestCell 4 rfl) rfl rfl ?_
      refine r_aload_n E (dat dkX9_deepestCell 5 rfl) rfl rfl ?_
      refine q_getd E fl_X9_64 (dat dkX9_deepestCell 6 rfl) rfl rfl rfl hpn ?_
      refine q_getn E fl_X9_106 (dat dkX9_deepestCell 7 rfl) rfl rfl rfl h_ce ?_
      refine q_icmp_ge (tgt := 44) E (dat dkX9_deepestCell 8 rfl) rfl rfl rfl (by omega) (by omega) (fun h12 => ?_) (fun h12 => ?_)
      ·
        refine r_iload_n E (dat dkX9_deepestCell 24 rfl) rfl rfl ?_
        refine r_ireturn E (dat dkX9_deepestCell 25 rfl) (by decide) (by decide) ?_
        exact ⟨rfl, rfl⟩
      ·
        omega
  ·
    have h_ro : M 18 0 7 = nI x.1.1 := by rw [hP]; rfl
    have h_co : M 18 0 8 = nI x.1.2.1 := by rw [hP]; rfl
    have h_ce : M 18 0 9 = nI x.1.2.2 := by rw [hP]; rfl
    have h_bc : M 18 0 10 = nI x.2.2.2.2.1 := by rw [hP]; rfl
    have h_fr : M 18 0 11 = x.2.2.2.1 := by rw [hP]; rfl
    have h_he : M 18 1 = x.2.1 := by rw [hP]; rfl
    have h_gu : M 18 2 = x.2.2.1 := by rw [hP]; rfl
    have h_be : M 18 3 = be := by rw [hP]; rfl
    have h_nl : M 18 5 = x.2.2.2.2.2.1 := by rw [hP]; rfl
    have h_bh : M 18 6 = x.2.2.2.2.2.2.2.1 := by rw [hP]; rfl
    have h_fp : M 18 7 = x.2.2.2.2.2.2.1 := by rw [hP]; rfl
    have h_n0 : M 18 8 = x.2.2.2.2.2.2.2.2 0 := by rw [hP]; rfl
    have h_n1 : M 18 9 = x.2.2.2.2.2.2.2.2 1 := by rw [hP]; rfl
    have h_n2 : M 18 10 = x.2.2.2.2.2.2.2.2 2 := by rw [hP]; rfl
    have h_n3 : M 18 11 = x.2.2.2.2.2.2.2.2 3 := by rw [hP]; rfl
    have hn64 := (PIv_z hx).1
    
    refine r_iconst (v := 0) E (dat dkX9_deepestCell 0 rfl) rfl ?_
    refine r_istore_1 E (dat dkX9_deepestCell 1 rfl) rfl rfl ?_
    refine r_iconst (v := 1) E (dat dkX9_deepestCell 2 rfl) rfl ?_
    refine r_istore_2 E (dat dkX9_deepestCell 3 rfl) rfl rfl ?_
    refine r_for ((x.1.2.2 - 1)) (fun _ => True) (fun i => M) (fun i => [some (rv 0 0), some (iv (nI (dpN (M 3 1) i))), some (iv (nI (i + 1)))]) trivial rfl rfl ?_ ?_
    · intro i hi hI kk
      have hdl := dpN_le (w := M 3 1) i
      refine r_iload_n E (dat dkX9_deepestCell 4 rfl) rfl rfl ?_
      refine r_aload_n E (dat dkX9_deepestCell 5 rfl) rfl rfl ?_
      refine q_getd E fl_X9_64 (dat dkX9_deepestCell 6 rfl) rfl rfl rfl hpn ?_
      refine q_getn E fl_X9_106 (dat dkX9_deepestCell 7 rfl) rfl rfl rfl h_ce ?_
      refine q_icmp_ge (tgt := 44) E (dat dkX9_deepestCell 8 rfl) rfl rfl rfl (by omega) (by omega) (fun h12 => ?_) (fun h12 => ?_)
      ·
        omega
      ·
        refine r_aload_n E (dat dkX9_deepestCell 9 rfl) rfl rfl ?_
        refine q_getl E fl_X9_26 (dat dkX9_deepestCell 10 rfl) rfl rfl rfl ?_
        refine q_geta E fl_X9_148 (dat dkX9_deepestCell 11 rfl) rfl rfl rfl ?_
        refine r_iload_n E (dat dkX9_deepestCell 12 rfl) rfl rfl ?_
        refine q_iald E (dat dkX9_deepestCell 13 rfl) rfl rfl (by decide) rfl rfl (by omega) ?_
        refine r_aload_n E (dat dkX9_deepestCell 14 rfl) rfl rfl ?_
        refine q_getl E fl_X9_26 (dat dkX9_deepestCell 15 rfl) rfl rfl rfl ?_
        refine q_geta E fl_X9_148 (dat dkX9_deepestCell 16 rfl) rfl rfl rfl ?_
        refine r_iload_n E (dat dkX9_deepestCell 17 rfl) rfl rfl ?_
        refine q_iald E (dat dkX9_deepestCell 18 rfl) rfl rfl (by decide) rfl rfl (by omega) ?_
        refine r_icmp_le (tgt := 38) E (dat dkX9_deepestCell 19 rfl) rfl (fun h33 => ?_) (fun h33 => ?_)
        ·
          refine q_iinc_2 E (dat dkX9_deepestCell 22 rfl) rfl rfl ?_
          refine r_goto (tgt := 4) E (dat dkX9_deepestCell 23 rfl) rfl ?_
          first
            | (rw [show dpN (M 3 1) (i + 1) = i + 1 from if_pos (nle_lt h33)] at kk; exact kk trivial)
            | (rw [show dpN (M 3 1) (i + 1) = dpN (M 3 1) i from if_neg (Int32.not_lt.mpr h33)] at kk; exact kk trivial)
        ·
          refine r_iload_n E (dat dkX9_deepestCell 20 rfl) rfl rfl ?_
          refine r_istore_1 E (dat dkX9_deepestCell 21 rfl) rfl rfl ?_
          refine q_iinc_2 E (dat dkX9_deepestCell 22 rfl) rfl rfl ?_
          refine r_goto (tgt := 4) E (dat dkX9_deepestCell 23 rfl) rfl ?_
          first
            | (rw [show dpN (M 3 1) (i + 1) = i + 1 from if_pos (nle_lt h33)] at kk; exact kk trivial)
            | (rw [show dpN (M 3 1) (i + 1) = dpN (M 3 1) i from if_neg (Int32.not_lt.mpr h33)] at kk; exact kk trivial)
    · intro hI
      refine r_iload_n E (dat dkX9_deepestCell 4 rfl) rfl rfl ?_
      refine r_aload_n E (dat dkX9_deepestCell 5 rfl) rfl rfl ?_
      refine q_getd E fl_X9_64 (dat dkX9_deepestCell 6 rfl) rfl rfl rfl hpn ?_
      refine q_getn E fl_X9_106 (dat dkX9_deepestCell 7 rfl) rfl rfl rfl h_ce ?_
      refine q_icmp_ge (tgt := 44) E (dat dkX9_deepestCell 8 rfl) rfl rfl rfl (by omega) (by omega) (fun h12 => ?_) (fun h12 => ?_)
      ·
        refine r_iload_n E (dat dkX9_deepestCell 24 rfl) rfl rfl ?_
        refine r_ireturn E (dat dkX9_deepestCell 25 rfl) (by decide) (by decide) ?_
        exact ⟨rfl, rfl⟩
      ·
        omega

set_option maxRecDepth 100000 in
set_option maxHeartbeats 4000000 in
theorem sp_X9_dryWay (l : Launch) (hst : l.stackTraces = false) (G : GT) (BP : Nat → Nat → Int32) (be nm : Nat → Int32) (x : PP) (q : Nat) (a d : Int32) (M : Mem) (hpn : (M 0 0 9).toNatClampNeg = q) (hq : q = 17 ∨ q = 18) (hP : M q = vPx BP be nm x) (hx : PIv x) (hbe : BEx be x) (hpl : PLi x (M 3)) : MCx l G yX9_dryWay cX9_dryWay 3 (some .int) ({ frames := 7, cells := 12, slots := 72, locals := 103 } : Room) KC lkC [rv 0 0, iv a, iv d] (M) (fun r M2 => ∃ b, b < x.2.2.2.2.1 ∧ a = nI b ∧ ∃ c, c < x.1.2.2 ∧ d = nI c ∧ ∃ f, f < x.1.2.2 ∧ M 3 5 b = nI f ∧ M2 = setm M 16 (vW (M 16) (wyT M x f (x.2.2.2.2.2.2.2.1 b)).1 (wyT M x f (x.2.2.2.2.2.2.2.1 b)).2.1) ∧ r = some (iv ((wyT M x f (x.2.2.2.2.2.2.2.1 b)).1 c))) (fun E M2 => E = oobN ∧ M2 = M ∧ ¬ (okb4 x a ∧ okc x d)) := by
  refine MCx.of RX9 [some (rv 0 0), some (iv a), some (iv d)] 0 (by decide +kernel) rfl rfl rfl ?_
  intro pp ee ss mm aa bb me cd ad E hnt
  rcases hq with rfl | rfl
  ·
    have h_ro : M 17 0 7 = nI x.1.1 := by rw [hP]; rfl
    have h_co : M 17 0 8 = nI x.1.2.1 := by rw [hP]; rfl
    have h_ce : M 17 0 9 = nI x.1.2.2 := by rw [hP]; rfl
    have h_bc : M 17 0 10 = nI x.2.2.2.2.1 := by rw [hP]; rfl
    have h_fr : M 17 0 11 = x.2.2.2.1 := by rw [hP]; rfl
    have h_he : M 17 1 = x.2.1 := by rw [hP]; rfl
    have h_gu : M 17 2 = x.2.2.1 := by rw [hP]; rfl
    have h_be : M 17 3 = be := by rw [hP]; rfl
    have h_nl : M 17 5 = x.2.2.2.2.2.1 := by rw [hP]; rfl
    have h_bh : M 17 6 = x.2.2.2.2.2.2.2.1 := by rw [hP]; rfl
    have h_fp : M 17 7 = x.2.2.2.2.2.2.1 := by rw [hP]; rfl
    have h_n0 : M 17 8 = x.2.2.2.2.2.2.2.2 0 := by rw [hP]; rfl
    have h_n1 : M 17 9 = x.2.2.2.2.2.2.2.2 1 := by rw [hP]; rfl
    have h_n2 : M 17 10 = x.2.2.2.2.2.2.2.2 2 := by rw [hP]; rfl
    have h_n3 : M 17 11 = x.2.2.2.2.2.2.2.2 3 := by rw [hP]; rfl
    have hn64 := (PIv_z hx).1
    
    refine r_aload_n E (dat dkX9_dryWay 0 rfl) rfl rfl ?_
    refine r_iload_n E (dat dkX9_dryWay 1 rfl) rfl rfl ?_
    refine r_callVX (κ := 8) (μ := []) E hnt (sp_X9_requireBoots l hst G BP be nm x 17 a M hpn (Or.inl rfl) hP hx) my_X9_requireBoots iv_X9_requireBoots ml_X9_218 cm_id ⟨by decide, rfl, rfl⟩ rfl rfl rfl rfl (by decide) (Nat.le_of_ble_eq_true rfl) (dat dkX9_dryWay 2 rfl) (by decide) (by decide) (fun E M9 h => ⟨M, Mrg_z h.2.1, ⟨h.1, rfl, fun w => h.2.2 w.1⟩⟩) ?_
    rintro _ _ ⟨rfl, hM9, b, hb, rfl⟩
    refine ⟨_, Mrg_z hM9, ?_⟩
    clear hM9
    have hb4 := hx.2.2.2.2.1
    refine r_aload_n E (dat dkX9_dryWay 3 rfl) rfl rfl ?_
    refine r_iload_n E (dat dkX9_dryWay 4 rfl) rfl rfl ?_
    refine r_callVX (κ := 8) (μ := []) E hnt (sp_X9_requireCell l hst G BP be nm x 17 d M hpn (Or.inl rfl) hP hx) my_X9_requireCell iv_X9_requireCell ml_X9_141 cm_id ⟨by decide, rfl, rfl⟩ rfl rfl rfl rfl (by decide) (Nat.le_of_ble_eq_true rfl) (dat dkX9_dryWay 5 rfl) (by decide) (by decide) (fun E M9 h => ⟨M, Mrg_z h.2.1, ⟨h.1, rfl, fun w => h.2.2 w.2⟩⟩) ?_
    rintro _ _ ⟨rfl, hM9, c, hc, rfl⟩
    refine ⟨_, Mrg_z hM9, ?_⟩
    clear hM9
    obtain ⟨f, hf, hfe⟩ := hpl b hb
    refine r_aload_n E (dat dkX9_dryWay 6 rfl) rfl rfl ?_
    refine q_getl E fl_X9_53 (dat dkX9_dryWay 7 rfl) rfl rfl rfl ?_
    refine r_aload_n E (dat dkX9_dryWay 8 rfl) rfl rfl ?_
    refine q_getd E fl_X9_64 (dat dkX9_dryWay 9 rfl) rfl rfl rfl hpn ?_
    refine r_aload_n E (dat dkX9_dryWay 10 rfl) rfl rfl ?_
    refine q_getl E fl_X9_26 (dat dkX9_dryWay 11 rfl) rfl rfl rfl ?_
    refine r_aload_n E (dat dkX9_dryWay 12 rfl) rfl rfl ?_
    refine q_getl E fl_X9_26 (dat dkX9_dryWay 13 rfl) rfl rfl rfl ?_
    refine q_geta E fl_X9_228 (dat dkX9_dryWay 14 rfl) rfl rfl rfl ?_
    refine r_iload_n E (dat dkX9_dryWay 15 rfl) rfl rfl ?_
    refine q_iald E (dat dkX9_dryWay 16 rfl) rfl rfl (by decide) rfl rfl (by omega) ?_
    refine r_aload_n E (dat dkX9_dryWay 17 rfl) rfl rfl ?_
    refine q_getd E fl_X9_64 (dat dkX9_dryWay 18 rfl) rfl rfl rfl hpn ?_
    refine q_geta E fl_X9_231 (dat dkX9_dryWay 19 rfl) rfl rfl rfl ?_
    refine r_iload_n E (dat dkX9_dryWay 20 rfl) rfl rfl ?_
    refine q_iald E (dat dkX9_dryWay 21 rfl) rfl rfl (by decide) h_bh rfl (by omega) ?_
    rw [show M ((KC, lkC, ad).2.1 0 2) (4 + 1) b = nI f from hfe]
    refine r_callV (κ := 6) (μ := [16, 17, 3]) E (sp_X8_findAll l G (M 16) (M 16 1) (M 16 2) (M 3) (M 3 0 7) (M 3 0 8) (M 3 0 9) (M 3 0 10) (M 3 0 11) (M 3 0 12) (M 3 0 13) (M 3 0 14) (M 3 1) (M 3 2) (M 3 3) (M 3 4) (M 3 5) (M 3 6) (M 3 7) BP (nI x.1.1) (nI x.1.2.1) x.1.2.2 (nI x.2.2.2.2.1) x.2.2.2.1 x.2.1 x.2.2.1 be nm x.2.2.2.2.2.1 x.2.2.2.2.2.2.2.1 x.2.2.2.2.2.2.1 (x.2.2.2.2.2.2.2.2 0) (x.2.2.2.2.2.2.2.2 1) (x.2.2.2.2.2.2.2.2 2) (x.2.2.2.2.2.2.2.2 3) (nbx x) hbe (nbx_lt hx) f (x.2.2.2.2.2.2.2.1 b) _ (evW (M 16)).symm hP (evS (M 3)).symm hn64 hf) my_X8_findAll iv_X8_findAll ml_X9_241 (cm_of rfl) ⟨by decide, rfl, rfl⟩ rfl rfl rfl rfl (by decide) (Nat.le_of_ble_eq_true rfl) (dat dkX9_dryWay 22 rfl) ?_
    rintro _ _ ⟨rfl, rfl⟩
    refine ⟨_, (show Mrg _ _ M _ (setm M 16 (vW (M 16) (wyT M x f (x.2.2.2.2.2.2.2.1 b)).1 (wyT M x f (x.2.2.2.2.2.2.2.1 b)).2.1)) from Mrg_e (i := 0) (by decide) (by decide) rfl rfl), ?_⟩
    refine r_aload_n E (dat dkX9_dryWay 23 rfl) rfl rfl ?_
    refine q_getl E fl_X9_53 (dat dkX9_dryWay 24 rfl) rfl rfl rfl ?_
    refine q_geta E fl_X9_244 (dat dkX9_dryWay 25 rfl) rfl rfl rfl ?_
    refine r_iload_n E (dat dkX9_dryWay 26 rfl) rfl rfl ?_
    refine q_iald E (dat dkX9_dryWay 27 rfl) rfl rfl (by decide) rfl rfl (by omega) ?_
    refine r_xq ?_
    refine r_ireturn E (dat dkX9_dryWay 28 rfl) (by decide) (by decide) ?_
    exact ⟨b, hb, rfl, c, hc, rfl, f, hf, hfe, rfl, rfl⟩
  ·
    have h_ro : M 18 0 7 = nI x.1.1 := by rw [hP]; rfl
    have h_co : M 18 0 8 = nI x.1.2.1 := by rw [hP]; rfl
    have h_ce : M 18 0 9 = nI x.1.2.2 := by rw [hP]; rfl
    have h_bc : M 18 0 10 = nI x.2.2.2.2.1 := by rw [hP]; rfl
    have h_fr : M 18 0 11 = x.2.2.2.1 := by rw [hP]; rfl
    have h_he : M 18 1 = x.2.1 := by rw [hP]; rfl
    have h_gu : M 18 2 = x.2.2.1 := by rw [hP]; rfl
    have h_be : M 18 3 = be := by rw [hP]; rfl
    have h_nl : M 18 5 = x.2.2.2.2.2.1 := by rw [hP]; rfl
    have h_bh : M 18 6 = x.2.2.2.2.2.2.2.1 := by rw [hP]; rfl
    have h_fp : M 18 7 = x.2.2.2.2.2.2.1 := by rw [hP]; rfl
    have h_n0 : M 18 8 = x.2.2.2.2.2.2.2.2 0 := by rw [hP]; rfl
    have h_n1 : M 18 9 = x.2.2.2.2.2.2.2.2 1 := by rw [hP]; rfl
    have h_n2 : M 18 10 = x.2.2.2.2.2.2.2.2 2 := by rw [hP]; rfl
    have h_n3 : M 18 11 = x.2.2.2.2.2.2.2.2 3 := by rw [hP]; rfl
    have hn64 := (PIv_z hx).1
    
    refine r_aload_n E (dat dkX9_dryWay 0 rfl) rfl rfl ?_
    refine r_iload_n E (dat dkX9_dryWay 1 rfl) rfl rfl ?_
    refine r_callVX (κ := 8) (μ := []) E hnt (sp_X9_requireBoots l hst G BP be nm x 18 a M hpn (Or.inr rfl) hP hx) my_X9_requireBoots iv_X9_requireBoots ml_X9_218 cm_id ⟨by decide, rfl, rfl⟩ rfl rfl rfl rfl (by decide) (Nat.le_of_ble_eq_true rfl) (dat dkX9_dryWay 2 rfl) (by decide) (by decide) (fun E M9 h => ⟨M, Mrg_z h.2.1, ⟨h.1, rfl, fun w => h.2.2 w.1⟩⟩) ?_
    rintro _ _ ⟨rfl, hM9, b, hb, rfl⟩
    refine ⟨_, Mrg_z hM9, ?_⟩
    clear hM9
    have hb4 := hx.2.2.2.2.1
    refine r_aload_n E (dat dkX9_dryWay 3 rfl) rfl rfl ?_
    refine r_iload_n E (dat dkX9_dryWay 4 rfl) rfl rfl ?_
    refine r_callVX (κ := 8) (μ := []) E hnt (sp_X9_requireCell l hst G BP be nm x 18 d M hpn (Or.inr rfl) hP hx) my_X9_requireCell iv_X9_requireCell ml_X9_141 cm_id ⟨by decide, rfl, rfl⟩ rfl rfl rfl rfl (by decide) (Nat.le_of_ble_eq_true rfl) (dat dkX9_dryWay 5 rfl) (by decide) (by decide) (fun E M9 h => ⟨M, Mrg_z h.2.1, ⟨h.1, rfl, fun w => h.2.2 w.2⟩⟩) ?_
    rintro _ _ ⟨rfl, hM9, c, hc, rfl⟩
    refine ⟨_, Mrg_z hM9, ?_⟩
    clear hM9
    obtain ⟨f, hf, hfe⟩ := hpl b hb
    refine r_aload_n E (dat dkX9_dryWay 6 rfl) rfl rfl ?_
    refine q_getl E fl_X9_53 (dat dkX9_dryWay 7 rfl) rfl rfl rfl ?_
    refine r_aload_n E (dat dkX9_dryWay 8 rfl) rfl rfl ?_
    refine q_getd E fl_X9_64 (dat dkX9_dryWay 9 rfl) rfl rfl rfl hpn ?_
    refine r_aload_n E (dat dkX9_dryWay 10 rfl) rfl rfl ?_
    refine q_getl E fl_X9_26 (dat dkX9_dryWay 11 rfl) rfl rfl rfl ?_
    refine r_aload_n E (dat dkX9_dryWay 12 rfl) rfl rfl ?_
    refine q_getl E fl_X9_26 (dat dkX9_dryWay 13 rfl) rfl rfl rfl ?_
    refine q_geta E fl_X9_228 (dat dkX9_dryWay 14 rfl) rfl rfl rfl ?_
    refine r_iload_n E (dat dkX9_dryWay 15 rfl) rfl rfl ?_
    refine q_iald E (dat dkX9_dryWay 16 rfl) rfl rfl (by decide) rfl rfl (by omega) ?_
    refine r_aload_n E (dat dkX9_dryWay 17 rfl) rfl rfl ?_
    refine q_getd E fl_X9_64 (dat dkX9_dryWay 18 rfl) rfl rfl rfl hpn ?_
    refine q_geta E fl_X9_231 (dat dkX9_dryWay 19 rfl) rfl rfl rfl ?_
    refine r_iload_n E (dat dkX9_dryWay 20 rfl) rfl rfl ?_
    refine q_iald E (dat dkX9_dryWay 21 rfl) rfl rfl (by decide) h_bh rfl (by omega) ?_
    rw [show M ((KC, lkC, ad).2.1 0 2) (4 + 1) b = nI f from hfe]
    refine r_callV (κ := 6) (μ := [16, 18, 3]) E (sp_X8_findAll l G (M 16) (M 16 1) (M 16 2) (M 3) (M 3 0 7) (M 3 0 8) (M 3 0 9) (M 3 0 10) (M 3 0 11) (M 3 0 12) (M 3 0 13) (M 3 0 14) (M 3 1) (M 3 2) (M 3 3) (M 3 4) (M 3 5) (M 3 6) (M 3 7) BP (nI x.1.1) (nI x.1.2.1) x.1.2.2 (nI x.2.2.2.2.1) x.2.2.2.1 x.2.1 x.2.2.1 be nm x.2.2.2.2.2.1 x.2.2.2.2.2.2.2.1 x.2.2.2.2.2.2.1 (x.2.2.2.2.2.2.2.2 0) (x.2.2.2.2.2.2.2.2 1) (x.2.2.2.2.2.2.2.2 2) (x.2.2.2.2.2.2.2.2 3) (nbx x) hbe (nbx_lt hx) f (x.2.2.2.2.2.2.2.1 b) _ (evW (M 16)).symm hP (evS (M 3)).symm hn64 hf) my_X8_findAll iv_X8_findAll ml_X9_241 (cm_of rfl) ⟨by decide, rfl, rfl⟩ rfl rfl rfl rfl (by decide) (Nat.le_of_ble_eq_true rfl) (dat dkX9_dryWay 22 rfl) ?_
    rintro _ _ ⟨rfl, rfl⟩
    refine ⟨_, (show Mrg _ _ M _ (setm M 16 (vW (M 16) (wyT M x f (x.2.2.2.2.2.2.2.1 b)).1 (wyT M x f (x.2.2.2.2.2.2.2.1 b)).2.1)) from Mrg_e (i := 0) (by decide) (by decide) rfl rfl), ?_⟩
    refine r_aload_n E (dat dkX9_dryWay 23 rfl) rfl rfl ?_
    refine q_getl E fl_X9_53 (dat dkX9_dryWay 24 rfl) rfl rfl rfl ?_
    refine q_geta E fl_X9_244 (dat dkX9_dryWay 25 rfl) rfl rfl rfl ?_
    refine r_iload_n E (dat dkX9_dryWay 26 rfl) rfl rfl ?_
    refine q_iald E (dat dkX9_dryWay 27 rfl) rfl rfl (by decide) rfl rfl (by omega) ?_
    refine r_xq ?_
    refine r_ireturn E (dat dkX9_dryWay 28 rfl) (by decide) (by decide) ?_
    exact ⟨b, hb, rfl, c, hc, rfl, f, hf, hfe, rfl, rfl⟩

set_option maxRecDepth 100000 in
set_option maxHeartbeats 4000000 in
theorem sp_X9_waterAfter (l : Launch) (hst : l.stackTraces = false) (G : GT) (BP : Nat → Nat → Int32) (be nm : Nat → Int32) (x : PP) (q : Nat) (a d : Int32) (M : Mem) (hpn : (M 0 0 9).toNatClampNeg = q) (hq : q = 17 ∨ q = 18) (hP : M q = vPx BP be nm x) (hx : PIv x) (hbe : BEx be x) (hpl : PLi x (M 3)) (hwt : WTi (M 3)) : MCx l G yX9_waterAfter cX9_waterAfter 3 (some .int) ({ frames := 7, cells := 8, slots := 48, locals := 118 } : Room) KC lkC [rv 0 0, iv a, iv d] (M) (fun r M2 => ∃ c, c < x.1.2.2 ∧ a = nI c ∧ ∃ t, t ≤ 100 ∧ d = nI t ∧ M2 = setm M 4 (mnX x (M 3) t) ∧ r = some (iv (mnX x (M 3) t 1 c))) (fun E M2 => M2 = M ∧ ((E = oobN ∧ ¬ okc x a) ∨ (E = argN ∧ okc x a ∧ ¬ (0 ≤ d ∧ d ≤ 100)))) := by
  refine MCx.of RX9 [some (rv 0 0), some (iv a), some (iv d)] 0 (by decide +kernel) rfl rfl rfl ?_
  intro pp ee ss mm aa bb me cd ad E hnt
  rcases hq with rfl | rfl
  ·
    have h_ro : M 17 0 7 = nI x.1.1 := by rw [hP]; rfl
    have h_co : M 17 0 8 = nI x.1.2.1 := by rw [hP]; rfl
    have h_ce : M 17 0 9 = nI x.1.2.2 := by rw [hP]; rfl
    have h_bc : M 17 0 10 = nI x.2.2.2.2.1 := by rw [hP]; rfl
    have h_fr : M 17 0 11 = x.2.2.2.1 := by rw [hP]; rfl
    have h_he : M 17 1 = x.2.1 := by rw [hP]; rfl
    have h_gu : M 17 2 = x.2.2.1 := by rw [hP]; rfl
    have h_be : M 17 3 = be := by rw [hP]; rfl
    have h_nl : M 17 5 = x.2.2.2.2.2.1 := by rw [hP]; rfl
    have h_bh : M 17 6 = x.2.2.2.2.2.2.2.1 := by rw [hP]; rfl
    have h_fp : M 17 7 = x.2.2.2.2.2.2.1 := by rw [hP]; rfl
    have h_n0 : M 17 8 = x.2.2.2.2.2.2.2.2 0 := by rw [hP]; rfl
    have h_n1 : M 17 9 = x.2.2.2.2.2.2.2.2 1 := by rw [hP]; rfl
    have h_n2 : M 17 10 = x.2.2.2.2.2.2.2.2 2 := by rw [hP]; rfl
    have h_n3 : M 17 11 = x.2.2.2.2.2.2.2.2 3 := by rw [hP]; rfl
    have hn64 := (PIv_z hx).1
    
    refine r_aload_n E (dat dkX9_waterAfter 0 rfl) rfl rfl ?_
    refine r_iload_n E (dat dkX9_waterAfter 1 rfl) rfl rfl ?_
    refine r_callVX (κ := 8) (μ := []) E hnt (sp_X9_requireCell l hst G BP be nm x 17 a M hpn (Or.inl rfl) hP hx) my_X9_requireCell iv_X9_requireCell ml_X9_141 cm_id ⟨by decide, rfl, rfl⟩ rfl rfl rfl rfl (by decide) (Nat.le_of_ble_eq_true rfl) (dat dkX9_waterAfter 2 rfl) (by decide) (by decide) (fun E M9 h => ⟨M, Mrg_z h.2.1, rfl, Or.inl ⟨h.1, h.2.2⟩⟩) ?_
    rintro _ _ ⟨rfl, hM9, c, hc, rfl⟩
    refine ⟨_, Mrg_z hM9, ?_⟩
    clear hM9
    have hc64 : c < 64 := by omega
    refine r_iload_n E (dat dkX9_waterAfter 3 rfl) rfl rfl ?_
    refine r_iconst (v := 0) E (dat dkX9_waterAfter 4 rfl) rfl ?_
    refine r_bipush (v := 100) E (dat dkX9_waterAfter 5 rfl) rfl ?_
    refine r_callSX (μ := []) E hnt (sp_X9_requireRange l hst G (d) (0) (100) _) my_X9_requireRange is_X9_requireRange ml_X9_174 cm_nil rfl rfl (by decide) (Nat.le_of_ble_eq_true rfl) (dat dkX9_waterAfter 6 rfl) (by decide) (by decide) (fun E M9 h => ⟨M, Mrg_z h.2.1, rfl, Or.inr ⟨h.1, ⟨c, hc, rfl⟩, h.2.2⟩⟩) ?_
    rintro _ _ ⟨rfl, hM9, hlo, hhi⟩
    refine ⟨_, Mrg_z hM9, ?_⟩
    clear hM9
    obtain ⟨t, ht1, rfl⟩ := rg_ex (k := 100) (by decide) hlo hhi
    refine r_aload_n E (dat dkX9_waterAfter 7 rfl) rfl rfl ?_
    refine q_getl E fl_X9_30 (dat dkX9_waterAfter 8 rfl) rfl rfl rfl ?_
    refine r_aload_n E (dat dkX9_waterAfter 9 rfl) rfl rfl ?_
    refine q_getl E fl_X9_26 (dat dkX9_waterAfter 10 rfl) rfl rfl rfl ?_
    refine r_callV (κ := 1) (μ := [4, 3]) E (tp_X5_copyFrom l G (M 3) _ rfl hwt) my_X5_copyFrom iv_X5_copyFrom ml_X9_247 (cm_of rfl) ⟨by decide, rfl, rfl⟩ rfl rfl rfl rfl (by decide) (Nat.le_of_ble_eq_true rfl) (dat dkX9_waterAfter 11 rfl) ?_
    rintro _ _ ⟨rfl, rfl⟩
    refine ⟨_, (show Mrg _ _ M _ (setm M 4 (M 3)) from Mrg_e (i := 0) (by decide) (by decide) rfl rfl), ?_⟩
    refine r_aload_n E (dat dkX9_waterAfter 12 rfl) rfl rfl ?_
    refine q_getl E fl_X9_30 (dat dkX9_waterAfter 13 rfl) rfl rfl rfl ?_
    refine r_aload_n E (dat dkX9_waterAfter 14 rfl) rfl rfl ?_
    refine q_getd E fl_X9_64 (dat dkX9_waterAfter 15 rfl) rfl rfl rfl hpn ?_
    refine r_iload_n E (dat dkX9_waterAfter 16 rfl) rfl rfl ?_
    refine r_callV (κ := 1) (μ := [4, 17]) E (tp_X5_letPass l G (M 3) BP be nm x t _ rfl hP hx hbe hpl (by omega)) my_X5_letPass iv_X5_letPass ml_X9_250 (cm_of rfl) ⟨by decide, rfl, rfl⟩ rfl rfl rfl rfl (by decide) (Nat.le_of_ble_eq_true rfl) (dat dkX9_waterAfter 17 rfl) ?_
    rintro _ _ ⟨rfl, rfl⟩
    refine ⟨_, (show Mrg _ _ (setm M 4 (M 3)) _ (setm M 4 (mnX x (M 3) t)) from Mrg_e (i := 0) (by decide) (by decide) setm_setm rfl), ?_⟩
    refine r_aload_n E (dat dkX9_waterAfter 18 rfl) rfl rfl ?_
    refine q_getl E fl_X9_30 (dat dkX9_waterAfter 19 rfl) rfl rfl rfl ?_
    refine q_geta E fl_X9_148 (dat dkX9_waterAfter 20 rfl) rfl rfl rfl ?_
    refine r_iload_n E (dat dkX9_waterAfter 21 rfl) rfl rfl ?_
    refine q_iald E (dat dkX9_waterAfter 22 rfl) rfl rfl (by decide) rfl rfl (by omega) ?_
    refine r_xq ?_
    refine r_ireturn E (dat dkX9_waterAfter 23 rfl) (by decide) (by decide) ?_
    exact ⟨c, hc, rfl, t, ht1, rfl, rfl, rfl⟩
  ·
    have h_ro : M 18 0 7 = nI x.1.1 := by rw [hP]; rfl
    have h_co : M 18 0 8 = nI x.1.2.1 := by rw [hP]; rfl
    have h_ce : M 18 0 9 = nI x.1.2.2 := by rw [hP]; rfl
    have h_bc : M 18 0 10 = nI x.2.2.2.2.1 := by rw [hP]; rfl
    have h_fr : M 18 0 11 = x.2.2.2.1 := by rw [hP]; rfl
    have h_he : M 18 1 = x.2.1 := by rw [hP]; rfl
    have h_gu : M 18 2 = x.2.2.1 := by rw [hP]; rfl
    have h_be : M 18 3 = be := by rw [hP]; rfl
    have h_nl : M 18 5 = x.2.2.2.2.2.1 := by rw [hP]; rfl
    have h_bh : M 18 6 = x.2.2.2.2.2.2.2.1 := by rw [hP]; rfl
    have h_fp : M 18 7 = x.2.2.2.2.2.2.1 := by rw [hP]; rfl
    have h_n0 : M 18 8 = x.2.2.2.2.2.2.2.2 0 := by rw [hP]; rfl
    have h_n1 : M 18 9 = x.2.2.2.2.2.2.2.2 1 := by rw [hP]; rfl
    have h_n2 : M 18 10 = x.2.2.2.2.2.2.2.2 2 := by rw [hP]; rfl
    have h_n3 : M 18 11 = x.2.2.2.2.2.2.2.2 3 := by rw [hP]; rfl
    have hn64 := (PIv_z hx).1
    
    refine r_aload_n E (dat dkX9_waterAfter 0 rfl) rfl rfl ?_
    refine r_iload_n E (dat dkX9_waterAfter 1 rfl) rfl rfl ?_
    refine r_callVX (κ := 8) (μ := []) E hnt (sp_X9_requireCell l hst G BP be nm x 18 a M hpn (Or.inr rfl) hP hx) my_X9_requireCell iv_X9_requireCell ml_X9_141 cm_id ⟨by decide, rfl, rfl⟩ rfl rfl rfl rfl (by decide) (Nat.le_of_ble_eq_true rfl) (dat dkX9_waterAfter 2 rfl) (by decide) (by decide) (fun E M9 h => ⟨M, Mrg_z h.2.1, rfl, Or.inl ⟨h.1, h.2.2⟩⟩) ?_
    rintro _ _ ⟨rfl, hM9, c, hc, rfl⟩
    refine ⟨_, Mrg_z hM9, ?_⟩
    clear hM9
    have hc64 : c < 64 := by omega
    refine r_iload_n E (dat dkX9_waterAfter 3 rfl) rfl rfl ?_
    refine r_iconst (v := 0) E (dat dkX9_waterAfter 4 rfl) rfl ?_
    refine r_bipush (v := 100) E (dat dkX9_waterAfter 5 rfl) rfl ?_
    refine r_callSX (μ := []) E hnt (sp_X9_requireRange l hst G (d) (0) (100) _) my_X9_requireRange is_X9_requireRange ml_X9_174 cm_nil rfl rfl (by decide) (Nat.le_of_ble_eq_true rfl) (dat dkX9_waterAfter 6 rfl) (by decide) (by decide) (fun E M9 h => ⟨M, Mrg_z h.2.1, rfl, Or.inr ⟨h.1, ⟨c, hc, rfl⟩, h.2.2⟩⟩) ?_
    rintro _ _ ⟨rfl, hM9, hlo, hhi⟩
    refine ⟨_, Mrg_z hM9, ?_⟩
    clear hM9
    obtain ⟨t, ht1, rfl⟩ := rg_ex (k := 100) (by decide) hlo hhi
    refine r_aload_n E (dat dkX9_waterAfter 7 rfl) rfl rfl ?_
    refine q_getl E fl_X9_30 (dat dkX9_waterAfter 8 rfl) rfl rfl rfl ?_
    refine r_aload_n E (dat dkX9_waterAfter 9 rfl) rfl rfl ?_
    refine q_getl E fl_X9_26 (dat dkX9_waterAfter 10 rfl) rfl rfl rfl ?_
    refine r_callV (κ := 1) (μ := [4, 3]) E (tp_X5_copyFrom l G (M 3) _ rfl hwt) my_X5_copyFrom iv_X5_copyFrom ml_X9_247 (cm_of rfl) ⟨by decide, rfl, rfl⟩ rfl rfl rfl rfl (by decide) (Nat.le_of_ble_eq_true rfl) (dat dkX9_waterAfter 11 rfl) ?_
    rintro _ _ ⟨rfl, rfl⟩
    refine ⟨_, (show Mrg _ _ M _ (setm M 4 (M 3)) from Mrg_e (i := 0) (by decide) (by decide) rfl rfl), ?_⟩
    refine r_aload_n E (dat dkX9_waterAfter 12 rfl) rfl rfl ?_
    refine q_getl E fl_X9_30 (dat dkX9_waterAfter 13 rfl) rfl rfl rfl ?_
    refine r_aload_n E (dat dkX9_waterAfter 14 rfl) rfl rfl ?_
    refine q_getd E fl_X9_64 (dat dkX9_waterAfter 15 rfl) rfl rfl rfl hpn ?_
    refine r_iload_n E (dat dkX9_waterAfter 16 rfl) rfl rfl ?_
    refine r_callV (κ := 1) (μ := [4, 18]) E (tp_X5_letPass l G (M 3) BP be nm x t _ rfl hP hx hbe hpl (by omega)) my_X5_letPass iv_X5_letPass ml_X9_250 (cm_of rfl) ⟨by decide, rfl, rfl⟩ rfl rfl rfl rfl (by decide) (Nat.le_of_ble_eq_true rfl) (dat dkX9_waterAfter 17 rfl) ?_
    rintro _ _ ⟨rfl, rfl⟩
    refine ⟨_, (show Mrg _ _ (setm M 4 (M 3)) _ (setm M 4 (mnX x (M 3) t)) from Mrg_e (i := 0) (by decide) (by decide) setm_setm rfl), ?_⟩
    refine r_aload_n E (dat dkX9_waterAfter 18 rfl) rfl rfl ?_
    refine q_getl E fl_X9_30 (dat dkX9_waterAfter 19 rfl) rfl rfl rfl ?_
    refine q_geta E fl_X9_148 (dat dkX9_waterAfter 20 rfl) rfl rfl rfl ?_
    refine r_iload_n E (dat dkX9_waterAfter 21 rfl) rfl rfl ?_
    refine q_iald E (dat dkX9_waterAfter 22 rfl) rfl rfl (by decide) rfl rfl (by omega) ?_
    refine r_xq ?_
    refine r_ireturn E (dat dkX9_waterAfter 23 rfl) (by decide) (by decide) ?_
    exact ⟨c, hc, rfl, t, ht1, rfl, rfl, rfl⟩

set_option maxRecDepth 100000 in
set_option maxHeartbeats 4000000 in
theorem sp_X9_drainedAfter (l : Launch) (hst : l.stackTraces = false) (G : GT) (BP : Nat → Nat → Int32) (be nm : Nat → Int32) (x : PP) (q : Nat) (d : Int32) (M : Mem) (hpn : (M 0 0 9).toNatClampNeg = q) (hq : q = 17 ∨ q = 18) (hP : M q = vPx BP be nm x) (hx : PIv x) (hbe : BEx be x) (hpl : PLi x (M 3)) (hwt : WTi (M 3)) : MCx l G yX9_drainedAfter cX9_drainedAfter 2 (some .int) ({ frames := 7, cells := 4, slots := 24, locals := 118 } : Room) KC lkC [rv 0 0, iv d] (M) (fun r M2 => ∃ t, t ≤ 100 ∧ d = nI t ∧ M2 = setm M 4 (mnX x (M 3) t) ∧ r = some (iv (mnX x (M 3) t 0 11))) (fun E M2 => M2 = M ∧ E = argN ∧ ¬ (0 ≤ d ∧ d ≤ 100)) := by
  refine MCx.of RX9 [some (rv 0 0), some (iv d)] 0 (by decide +kernel) rfl rfl rfl ?_
  intro pp ee ss mm aa bb me cd ad E hnt
  rcases hq with rfl | rfl
  ·
    have h_ro : M 17 0 7 = nI x.1.1 := by rw [hP]; rfl
    have h_co : M 17 0 8 = nI x.1.2.1 := by rw [hP]; rfl
    have h_ce : M 17 0 9 = nI x.1.2.2 := by rw [hP]; rfl
    have h_bc : M 17 0 10 = nI x.2.2.2.2.1 := by rw [hP]; rfl
    have h_fr : M 17 0 11 = x.2.2.2.1 := by rw [hP]; rfl
    have h_he : M 17 1 = x.2.1 := by rw [hP]; rfl
    have h_gu : M 17 2 = x.2.2.1 := by rw [hP]; rfl
    have h_be : M 17 3 = be := by rw [hP]; rfl
    have h_nl : M 17 5 = x.2.2.2.2.2.1 := by rw [hP]; rfl
    have h_bh : M 17 6 = x.2.2.2.2.2.2.2.1 := by rw [hP]; rfl
    have h_fp : M 17 7 = x.2.2.2.2.2.2.1 := by rw [hP]; rfl
    have h_n0 : M 17 8 = x.2.2.2.2.2.2.2.2 0 := by rw [hP]; rfl
    have h_n1 : M 17 9 = x.2.2.2.2.2.2.2.2 1 := by rw [hP]; rfl
    have h_n2 : M 17 10 = x.2.2.2.2.2.2.2.2 2 := by rw [hP]; rfl
    have h_n3 : M 17 11 = x.2.2.2.2.2.2.2.2 3 := by rw [hP]; rfl
    have hn64 := (PIv_z hx).1
    
    refine r_iload_n E (dat dkX9_drainedAfter 0 rfl) rfl rfl ?_
    refine r_iconst (v := 0) E (dat dkX9_drainedAfter 1 rfl) rfl ?_
    refine r_bipush (v := 100) E (dat dkX9_drainedAfter 2 rfl) rfl ?_
    refine r_callSX (μ := []) E hnt (sp_X9_requireRange l hst G (d) (0) (100) _) my_X9_requireRange is_X9_requireRange ml_X9_174 cm_nil rfl rfl (by decide) (Nat.le_of_ble_eq_true rfl) (dat dkX9_drainedAfter 3 rfl) (by decide) (by decide) (fun E M9 h => ⟨M, Mrg_z h.2.1, rfl, h.1, h.2.2⟩) ?_
    rintro _ _ ⟨rfl, hM9, hlo, hhi⟩
    refine ⟨_, Mrg_z hM9, ?_⟩
    clear hM9
    obtain ⟨t, ht1, rfl⟩ := rg_ex (k := 100) (by decide) hlo hhi
    refine r_aload_n E (dat dkX9_drainedAfter 4 rfl) rfl rfl ?_
    refine q_getl E fl_X9_30 (dat dkX9_drainedAfter 5 rfl) rfl rfl rfl ?_
    refine r_aload_n E (dat dkX9_drainedAfter 6 rfl) rfl rfl ?_
    refine q_getl E fl_X9_26 (dat dkX9_drainedAfter 7 rfl) rfl rfl rfl ?_
    refine r_callV (κ := 1) (μ := [4, 3]) E (tp_X5_copyFrom l G (M 3) _ rfl hwt) my_X5_copyFrom iv_X5_copyFrom ml_X9_247 (cm_of rfl) ⟨by decide, rfl, rfl⟩ rfl rfl rfl rfl (by decide) (Nat.le_of_ble_eq_true rfl) (dat dkX9_drainedAfter 8 rfl) ?_
    rintro _ _ ⟨rfl, rfl⟩
    refine ⟨_, (show Mrg _ _ M _ (setm M 4 (M 3)) from Mrg_e (i := 0) (by decide) (by decide) rfl rfl), ?_⟩
    refine r_aload_n E (dat dkX9_drainedAfter 9 rfl) rfl rfl ?_
    refine q_getl E fl_X9_30 (dat dkX9_drainedAfter 10 rfl) rfl rfl rfl ?_
    refine r_aload_n E (dat dkX9_drainedAfter 11 rfl) rfl rfl ?_
    refine q_getd E fl_X9_64 (dat dkX9_drainedAfter 12 rfl) rfl rfl rfl hpn ?_
    refine r_iload_n E (dat dkX9_drainedAfter 13 rfl) rfl rfl ?_
    refine r_callV (κ := 1) (μ := [4, 17]) E (tp_X5_letPass l G (M 3) BP be nm x t _ rfl hP hx hbe hpl (by omega)) my_X5_letPass iv_X5_letPass ml_X9_250 (cm_of rfl) ⟨by decide, rfl, rfl⟩ rfl rfl rfl rfl (by decide) (Nat.le_of_ble_eq_true rfl) (dat dkX9_drainedAfter 14 rfl) ?_
    rintro _ _ ⟨rfl, rfl⟩
    refine ⟨_, (show Mrg _ _ (setm M 4 (M 3)) _ (setm M 4 (mnX x (M 3) t)) from Mrg_e (i := 0) (by decide) (by decide) setm_setm rfl), ?_⟩
    refine r_aload_n E (dat dkX9_drainedAfter 15 rfl) rfl rfl ?_
    refine q_getl E fl_X9_30 (dat dkX9_drainedAfter 16 rfl) rfl rfl rfl ?_
    refine q_getn E fl_X9_209 (dat dkX9_drainedAfter 17 rfl) rfl rfl rfl rfl ?_
    refine r_xq ?_
    refine r_ireturn E (dat dkX9_drainedAfter 18 rfl) (by decide) (by decide) ?_
    exact ⟨t, ht1, rfl, rfl, rfl⟩
  ·
    have h_ro : M 18 0 7 = nI x.1.1 := by rw [hP]; rfl
    have h_co : M 18 0 8 = nI x.1.2.1 := by rw [hP]; rfl
    have h_ce : M 18 0 9 = nI x.1.2.2 := by rw [hP]; rfl
    have h_bc : M 18 0 10 = nI x.2.2.2.2.1 := by rw [hP]; rfl
    have h_fr : M 18 0 11 = x.2.2.2.1 := by rw [hP]; rfl
    have h_he : M 18 1 = x.2.1 := by rw [hP]; rfl
    have h_gu : M 18 2 = x.2.2.1 := by rw [hP]; rfl
    have h_be : M 18 3 = be := by rw [hP]; rfl
    have h_nl : M 18 5 = x.2.2.2.2.2.1 := by rw [hP]; rfl
    have h_bh : M 18 6 = x.2.2.2.2.2.2.2.1 := by rw [hP]; rfl
    have h_fp : M 18 7 = x.2.2.2.2.2.2.1 := by rw [hP]; rfl
    have h_n0 : M 18 8 = x.2.2.2.2.2.2.2.2 0 := by rw [hP]; rfl
    have h_n1 : M 18 9 = x.2.2.2.2.2.2.2.2 1 := by rw [hP]; rfl
    have h_n2 : M 18 10 = x.2.2.2.2.2.2.2.2 2 := by rw [hP]; rfl
    have h_n3 : M 18 11 = x.2.2.2.2.2.2.2.2 3 := by rw [hP]; rfl
    have hn64 := (PIv_z hx).1
    
    refine r_iload_n E (dat dkX9_drainedAfter 0 rfl) rfl rfl ?_
    refine r_iconst (v := 0) E (dat dkX9_drainedAfter 1 rfl) rfl ?_
    refine r_bipush (v := 100) E (dat dkX9_drainedAfter 2 rfl) rfl ?_
    refine r_callSX (μ := []) E hnt (sp_X9_requireRange l hst G (d) (0) (100) _) my_X9_requireRange is_X9_requireRange ml_X9_174 cm_nil rfl rfl (by decide) (Nat.le_of_ble_eq_true rfl) (dat dkX9_drainedAfter 3 rfl) (by decide) (by decide) (fun E M9 h => ⟨M, Mrg_z h.2.1, rfl, h.1, h.2.2⟩) ?_
    rintro _ _ ⟨rfl, hM9, hlo, hhi⟩
    refine ⟨_, Mrg_z hM9, ?_⟩
    clear hM9
    obtain ⟨t, ht1, rfl⟩ := rg_ex (k := 100) (by decide) hlo hhi
    refine r_aload_n E (dat dkX9_drainedAfter 4 rfl) rfl rfl ?_
    refine q_getl E fl_X9_30 (dat dkX9_drainedAfter 5 rfl) rfl rfl rfl ?_
    refine r_aload_n E (dat dkX9_drainedAfter 6 rfl) rfl rfl ?_
    refine q_getl E fl_X9_26 (dat dkX9_drainedAfter 7 rfl) rfl rfl rfl ?_
    refine r_callV (κ := 1) (μ := [4, 3]) E (tp_X5_copyFrom l G (M 3) _ rfl hwt) my_X5_copyFrom iv_X5_copyFrom ml_X9_247 (cm_of rfl) ⟨by decide, rfl, rfl⟩ rfl rfl rfl rfl (by decide) (Nat.le_of_ble_eq_true rfl) (dat dkX9_drainedAfter 8 rfl) ?_
    rintro _ _ ⟨rfl, rfl⟩
    refine ⟨_, (show Mrg _ _ M _ (setm M 4 (M 3)) from Mrg_e (i := 0) (by decide) (by decide) rfl rfl), ?_⟩
    refine r_aload_n E (dat dkX9_drainedAfter 9 rfl) rfl rfl ?_
    refine q_getl E fl_X9_30 (dat dkX9_drainedAfter 10 rfl) rfl rfl rfl ?_
    refine r_aload_n E (dat dkX9_drainedAfter 11 rfl) rfl rfl ?_
    refine q_getd E fl_X9_64 (dat dkX9_drainedAfter 12 rfl) rfl rfl rfl hpn ?_
    refine r_iload_n E (dat dkX9_drainedAfter 13 rfl) rfl rfl ?_
    refine r_callV (κ := 1) (μ := [4, 18]) E (tp_X5_letPass l G (M 3) BP be nm x t _ rfl hP hx hbe hpl (by omega)) my_X5_letPass iv_X5_letPass ml_X9_250 (cm_of rfl) ⟨by decide, rfl, rfl⟩ rfl rfl rfl rfl (by decide) (Nat.le_of_ble_eq_true rfl) (dat dkX9_drainedAfter 14 rfl) ?_
    rintro _ _ ⟨rfl, rfl⟩
    refine ⟨_, (show Mrg _ _ (setm M 4 (M 3)) _ (setm M 4 (mnX x (M 3) t)) from Mrg_e (i := 0) (by decide) (by decide) setm_setm rfl), ?_⟩
    refine r_aload_n E (dat dkX9_drainedAfter 15 rfl) rfl rfl ?_
    refine q_getl E fl_X9_30 (dat dkX9_drainedAfter 16 rfl) rfl rfl rfl ?_
    refine q_getn E fl_X9_209 (dat dkX9_drainedAfter 17 rfl) rfl rfl rfl rfl ?_
    refine r_xq ?_
    refine r_ireturn E (dat dkX9_drainedAfter 18 rfl) (by decide) (by decide) ?_
    exact ⟨t, ht1, rfl, rfl, rfl⟩

set_option maxRecDepth 100000 in
set_option maxHeartbeats 4000000 in
theorem sp_X9_minutesUntilDry (l : Launch) (hst : l.stackTraces = false) (G : GT) (BP : Nat → Nat → Int32) (be nm : Nat → Int32) (x : PP) (q : Nat) (a : Int32) (M : Mem) (hpn : (M 0 0 9).toNatClampNeg = q) (hq : q = 17 ∨ q = 18) (hP : M q = vPx BP be nm x) (hx : PIv x) (hbe : BEx be x) (hpl : PLi x (M 3)) (hwt : WTi (M 3)) : MCx l G yX9_minutesUntilDry cX9_minutesUntilDry 3 (some .int) ({ frames := 7, cells := 4, slots := 24, locals := 118 } : Room) KC lkC [rv 0 0, iv a] (M) (fun r M2 => (∃ Z, M2 = setm M 4 Z) ∧ ∃ c, c < x.1.2.2 ∧ a = nI c ∧ r = some (iv (mdF (fun i => mnX x (M 3) i 1 c) 201 0))) (fun E M2 => E = oobN ∧ M2 = M ∧ ¬ ∃ c, c < x.1.2.2 ∧ a = nI c) := by
  refine MCx.of RX9 [some (rv 0 0), some (iv a), none] 1 (by decide +kernel) rfl rfl rfl ?_
  intro pp ee ss mm aa bb me cd ad E hnt
  rcases hq with rfl | rfl
  ·
    have h_ro : M 17 0 7 = nI x.1.1 := by rw [hP]; rfl
    have h_co : M 17 0 8 = nI x.1.2.1 := by rw [hP]; rfl
    have h_ce : M 17 0 9 = nI x.1.2.2 := by rw [hP]; rfl
    have h_bc : M 17 0 10 = nI x.2.2.2.2.1 := by rw [hP]; rfl
    have h_fr : M 17 0 11 = x.2.2.2.1 := by rw [hP]; rfl
    have h_he : M 17 1 = x.2.1 := by rw [hP]; rfl
    have h_gu : M 17 2 = x.2.2.1 := by rw [hP]; rfl
    have h_be : M 17 3 = be := by rw [hP]; rfl
    have h_nl : M 17 5 = x.2.2.2.2.2.1 := by rw [hP]; rfl
    have h_bh : M 17 6 = x.2.2.2.2.2.2.2.1 := by rw [hP]; rfl
    have h_fp : M 17 7 = x.2.2.2.2.2.2.1 := by rw [hP]; rfl
    have h_n0 : M 17 8 = x.2.2.2.2.2.2.2.2 0 := by rw [hP]; rfl
    have h_n1 : M 17 9 = x.2.2.2.2.2.2.2.2 1 := by rw [hP]; rfl
    have h_n2 : M 17 10 = x.2.2.2.2.2.2.2.2 2 := by rw [hP]; rfl
    have h_n3 : M 17 11 = x.2.2.2.2.2.2.2.2 3 := by rw [hP]; rfl
    have hn64 := (PIv_z hx).1
    
    refine r_aload_n E (dat dkX9_minutesUntilDry 0 rfl) rfl rfl ?_
    refine r_iload_n E (dat dkX9_minutesUntilDry 1 rfl) rfl rfl ?_
    refine r_callVX (κ := 8) (μ := []) E hnt (sp_X9_requireCell l hst G BP be nm x 17 a M hpn (Or.inl rfl) hP hx) my_X9_requireCell iv_X9_requireCell ml_X9_141 cm_id ⟨by decide, rfl, rfl⟩ rfl rfl rfl rfl (by decide) (Nat.le_of_ble_eq_true rfl) (dat dkX9_minutesUntilDry 2 rfl) (by decide) (by decide) (fun E M9 h => ⟨M, Mrg_z h.2.1, ⟨h.1, rfl, h.2.2⟩⟩) ?_
    rintro _ _ ⟨rfl, hM9, c, hc, rfl⟩
    refine ⟨_, Mrg_z hM9, ?_⟩
    clear hM9
    have hc64 : c < 64 := by omega
    refine r_aload_n E (dat dkX9_minutesUntilDry 3 rfl) rfl rfl ?_
    refine q_getl E fl_X9_30 (dat dkX9_minutesUntilDry 4 rfl) rfl rfl rfl ?_
    refine r_aload_n E (dat dkX9_minutesUntilDry 5 rfl) rfl rfl ?_
    refine q_getl E fl_X9_26 (dat dkX9_minutesUntilDry 6 rfl) rfl rfl rfl ?_
    refine r_callV (κ := 1) (μ := [4, 3]) E (tp_X5_copyFrom l G (M 3) _ rfl hwt) my_X5_copyFrom iv_X5_copyFrom ml_X9_247 (cm_of rfl) ⟨by decide, rfl, rfl⟩ rfl rfl rfl rfl (by decide) (Nat.le_of_ble_eq_true rfl) (dat dkX9_minutesUntilDry 7 rfl) ?_
    rintro _ _ ⟨rfl, rfl⟩
    refine ⟨_, (show Mrg _ _ M _ (setm M 4 (M 3)) from Mrg_e (i := 0) (by decide) (by decide) rfl rfl), ?_⟩
    refine r_iconst (v := 0) E (dat dkX9_minutesUntilDry 8 rfl) rfl ?_
    refine r_istore_2 E (dat dkX9_minutesUntilDry 9 rfl) rfl rfl ?_
    refine r_for (201) (fun i => mdF (fun i => mnX x (M 3) i 1 c) 201 0 = mdF (fun i => mnX x (M 3) i 1 c) (201 - i) i) (fun i => setm M 4 (mnX x (M 3) i)) (fun i => [some (rv 0 0), some (iv (nI c)), some (iv (nI i))]) rfl rfl rfl ?_ ?_
    · intro i hi hI kk
      refine r_iload_n E (dat dkX9_minutesUntilDry 10 rfl) rfl rfl ?_
      refine r_sipush (v := 200) E (dat dkX9_minutesUntilDry 11 rfl) rfl ?_
      refine q_icmp_gt (tgt := 57) E (dat dkX9_minutesUntilDry 12 rfl) rfl rfl (b := 200) rfl (by omega) (by omega) (fun h22 => ?_) (fun h22 => ?_)
      ·
        omega
      ·
        refine r_aload_n E (dat dkX9_minutesUntilDry 13 rfl) rfl rfl ?_
        refine q_getl E fl_X9_30 (dat dkX9_minutesUntilDry 14 rfl) rfl rfl rfl ?_
        refine q_geta E fl_X9_148 (dat dkX9_minutesUntilDry 15 rfl) rfl rfl rfl ?_
        refine r_iload_n E (dat dkX9_minutesUntilDry 16 rfl) rfl rfl ?_
        refine q_iald E (dat dkX9_minutesUntilDry 17 rfl) rfl rfl (by decide) rfl rfl (by omega) ?_
        refine r_if_ne (tgt := 39) E (dat dkX9_minutesUntilDry 18 rfl) rfl (fun h34 => ?_) (fun h34 => ?_)
        ·
          refine r_aload_n E (dat dkX9_minutesUntilDry 21 rfl) rfl rfl ?_
          refine q_getl E fl_X9_30 (dat dkX9_minutesUntilDry 22 rfl) rfl rfl rfl ?_
          refine r_aload_n E (dat dkX9_minutesUntilDry 23 rfl) rfl rfl ?_
          refine q_getd E fl_X9_64 (dat dkX9_minutesUntilDry 24 rfl) rfl rfl rfl hpn ?_
          refine r_iconst (v := 1) E (dat dkX9_minutesUntilDry 25 rfl) rfl ?_
          refine r_callV (κ := 1) (μ := [4, 17]) E (tp_X5_letPass l G (mnX x (M 3) i) BP be nm x 1 _ rfl hP hx hbe (by intro b hb; rw [show mnX x (M 3) i 5 = M 3 5 from mnN_5 i]; exact hpl b hb) (by decide)) my_X5_letPass iv_X5_letPass ml_X9_250 (cm_of rfl) ⟨by decide, rfl, rfl⟩ rfl rfl rfl rfl (by decide) (Nat.le_of_ble_eq_true rfl) (dat dkX9_minutesUntilDry 26 rfl) ?_
          rintro _ _ ⟨rfl, rfl⟩
          refine ⟨_, (show Mrg _ _ (setm M 4 (mnX x (M 3) i)) _ (setm M 4 (mnX x (M 3) (i + 1))) from Mrg_e (i := 0) (by decide) (by decide) setm_setm rfl), ?_⟩
          refine q_iinc_2 E (dat dkX9_minutesUntilDry 27 rfl) rfl rfl ?_
          refine r_goto (tgt := 18) E (dat dkX9_minutesUntilDry 28 rfl) rfl ?_
          exact kk (hI.trans (mdF_go hi h34).symm)
        ·
          refine r_iload_n E (dat dkX9_minutesUntilDry 19 rfl) rfl rfl ?_
          refine r_xq ?_
          refine r_ireturn E (dat dkX9_minutesUntilDry 20 rfl) (by decide) (by decide) ?_
          exact ⟨⟨_, rfl⟩, c, hc, rfl, by rw [hI, mdF_hit hi h34]⟩
    · intro hI
      refine r_iload_n E (dat dkX9_minutesUntilDry 10 rfl) rfl rfl ?_
      refine r_sipush (v := 200) E (dat dkX9_minutesUntilDry 11 rfl) rfl ?_
      refine q_icmp_gt (tgt := 57) E (dat dkX9_minutesUntilDry 12 rfl) rfl rfl (b := 200) rfl (by omega) (by omega) (fun h22 => ?_) (fun h22 => ?_)
      ·
        refine r_iconst (v := -1) E (dat dkX9_minutesUntilDry 29 rfl) rfl ?_
        refine r_xq ?_
        refine r_ireturn E (dat dkX9_minutesUntilDry 30 rfl) (by decide) (by decide) ?_
        exact ⟨⟨_, rfl⟩, c, hc, rfl, by rw [hI, mdF_no (Nat.le_refl _)]⟩
      ·
        omega
  ·
    have h_ro : M 18 0 7 = nI x.1.1 := by rw [hP]; rfl
    have h_co : M 18 0 8 = nI x.1.2.1 := by rw [hP]; rfl
    have h_ce : M 18 0 9 = nI x.1.2.2 := by rw [hP]; rfl
    have h_bc : M 18 0 10 = nI x.2.2.2.2.1 := by rw [hP]; rfl
    have h_fr : M 18 0 11 = x.2.2.2.1 := by rw [hP]; rfl
    have h_he : M 18 1 = x.2.1 := by rw [hP]; rfl
    have h_gu : M 18 2 = x.2.2.1 := by rw [hP]; rfl
    have h_be : M 18 3 = be := by rw [hP]; rfl
    have h_nl : M 18 5 = x.2.2.2.2.2.1 := by rw [hP]; rfl
    have h_bh : M 18 6 = x.2.2.2.2.2.2.2.1 := by rw [hP]; rfl
    have h_fp : M 18 7 = x.2.2.2.2.2.2.1 := by rw [hP]; rfl
    have h_n0 : M 18 8 = x.2.2.2.2.2.2.2.2 0 := by rw [hP]; rfl
    have h_n1 : M 18 9 = x.2.2.2.2.2.2.2.2 1 := by rw [hP]; rfl
    have h_n2 : M 18 10 = x.2.2.2.2.2.2.2.2 2 := by rw [hP]; rfl
    have h_n3 : M 18 11 = x.2.2.2.2.2.2.2.2 3 := by rw [hP]; rfl
    have hn64 := (PIv_z hx).1
    
    refine r_aload_n E (dat dkX9_minutesUntilDry 0 rfl) rfl rfl ?_
    refine r_iload_n E (dat dkX9_minutesUntilDry 1 rfl) rfl rfl ?_
    refine r_callVX (κ := 8) (μ := []) E hnt (sp_X9_requireCell l hst G BP be nm x 18 a M hpn (Or.inr rfl) hP hx) my_X9_requireCell iv_X9_requireCell ml_X9_141 cm_id ⟨by decide, rfl, rfl⟩ rfl rfl rfl rfl (by decide) (Nat.le_of_ble_eq_true rfl) (dat dkX9_minutesUntilDry 2 rfl) (by decide) (by decide) (fun E M9 h => ⟨M, Mrg_z h.2.1, ⟨h.1, rfl, h.2.2⟩⟩) ?_
    rintro _ _ ⟨rfl, hM9, c, hc, rfl⟩
    refine ⟨_, Mrg_z hM9, ?_⟩
    clear hM9
    have hc64 : c < 64 := by omega
    refine r_aload_n E (dat dkX9_minutesUntilDry 3 rfl) rfl rfl ?_
    refine q_getl E fl_X9_30 (dat dkX9_minutesUntilDry 4 rfl) rfl rfl rfl ?_
    refine r_aload_n E (dat dkX9_minutesUntilDry 5 rfl) rfl rfl ?_
    refine q_getl E fl_X9_26 (dat dkX9_minutesUntilDry 6 rfl) rfl rfl rfl ?_
    refine r_callV (κ := 1) (μ := [4, 3]) E (tp_X5_copyFrom l G (M 3) _ rfl hwt) my_X5_copyFrom iv_X5_copyFrom ml_X9_247 (cm_of rfl) ⟨by decide, rfl, rfl⟩ rfl rfl rfl rfl (by decide) (Nat.le_of_ble_eq_true rfl) (dat dkX9_minutesUntilDry 7 rfl) ?_
    rintro _ _ ⟨rfl, rfl⟩
    refine ⟨_, (show Mrg _ _ M _ (setm M 4 (M 3)) from Mrg_e (i := 0) (by decide) (by decide) rfl rfl), ?_⟩
    refine r_iconst (v := 0) E (dat dkX9_minutesUntilDry 8 rfl) rfl ?_
    refine r_istore_2 E (dat dkX9_minutesUntilDry 9 rfl) rfl rfl ?_
    refine r_for (201) (fun i => mdF (fun i => mnX x (M 3) i 1 c) 201 0 = mdF (fun i => mnX x (M 3) i 1 c) (201 - i) i) (fun i => setm M 4 (mnX x (M 3) i)) (fun i => [some (rv 0 0), some (iv (nI c)), some (iv (nI i))]) rfl rfl rfl ?_ ?_
    · intro i hi hI kk
      refine r_iload_n E (dat dkX9_minutesUntilDry 10 rfl) rfl rfl ?_
      refine r_sipush (v := 200) E (dat dkX9_minutesUntilDry 11 rfl) rfl ?_
      refine q_icmp_gt (tgt := 57) E (dat dkX9_minutesUntilDry 12 rfl) rfl rfl (b := 200) rfl (by omega) (by omega) (fun h22 => ?_) (fun h22 => ?_)
      ·
        omega
      ·
        refine r_aload_n E (dat dkX9_minutesUntilDry 13 rfl) rfl rfl ?_
        refine q_getl E fl_X9_30 (dat dkX9_minutesUntilDry 14 rfl) rfl rfl rfl ?_
        refine q_geta E fl_X9_148 (dat dkX9_minutesUntilDry 15 rfl) rfl rfl rfl ?_
        refine r_iload_n E (dat dkX9_minutesUntilDry 16 rfl) rfl rfl ?_
        refine q_iald E (dat dkX9_minutesUntilDry 17 rfl) rfl rfl (by decide) rfl rfl (by omega) ?_
        refine r_if_ne (tgt := 39) E (dat dkX9_minutesUntilDry 18 rfl) rfl (fun h34 => ?_) (fun h34 => ?_)
        ·
          refine r_aload_n E (dat dkX9_minutesUntilDry 21 rfl) rfl rfl ?_
          refine q_getl E fl_X9_30 (dat dkX9_minutesUntilDry 22 rfl) rfl rfl rfl ?_
          refine r_aload_n E (dat dkX9_minutesUntilDry 23 rfl) rfl rfl ?_
          refine q_getd E fl_X9_64 (dat dkX9_minutesUntilDry 24 rfl) rfl rfl rfl hpn ?_
          refine r_iconst (v := 1) E (dat dkX9_minutesUntilDry 25 rfl) rfl ?_
          refine r_callV (κ := 1) (μ := [4, 18]) E (tp_X5_letPass l G (mnX x (M 3) i) BP be nm x 1 _ rfl hP hx hbe (by intro b hb; rw [show mnX x (M 3) i 5 = M 3 5 from mnN_5 i]; exact hpl b hb) (by decide)) my_X5_letPass iv_X5_letPass ml_X9_250 (cm_of rfl) ⟨by decide, rfl, rfl⟩ rfl rfl rfl rfl (by decide) (Nat.le_of_ble_eq_true rfl) (dat dkX9_minutesUntilDry 26 rfl) ?_
          rintro _ _ ⟨rfl, rfl⟩
          refine ⟨_, (show Mrg _ _ (setm M 4 (mnX x (M 3) i)) _ (setm M 4 (mnX x (M 3) (i + 1))) from Mrg_e (i := 0) (by decide) (by decide) setm_setm rfl), ?_⟩
          refine q_iinc_2 E (dat dkX9_minutesUntilDry 27 rfl) rfl rfl ?_
          refine r_goto (tgt := 18) E (dat dkX9_minutesUntilDry 28 rfl) rfl ?_
          exact kk (hI.trans (mdF_go hi h34).symm)
        ·
          refine r_iload_n E (dat dkX9_minutesUntilDry 19 rfl) rfl rfl ?_
          refine r_xq ?_
          refine r_ireturn E (dat dkX9_minutesUntilDry 20 rfl) (by decide) (by decide) ?_
          exact ⟨⟨_, rfl⟩, c, hc, rfl, by rw [hI, mdF_hit hi h34]⟩
    · intro hI
      refine r_iload_n E (dat dkX9_minutesUntilDry 10 rfl) rfl rfl ?_
      refine r_sipush (v := 200) E (dat dkX9_minutesUntilDry 11 rfl) rfl ?_
      refine q_icmp_gt (tgt := 57) E (dat dkX9_minutesUntilDry 12 rfl) rfl rfl (b := 200) rfl (by omega) (by omega) (fun h22 => ?_) (fun h22 => ?_)
      ·
        refine r_iconst (v := -1) E (dat dkX9_minutesUntilDry 29 rfl) rfl ?_
        refine r_xq ?_
        refine r_ireturn E (dat dkX9_minutesUntilDry 30 rfl) (by decide) (by decide) ?_
        exact ⟨⟨_, rfl⟩, c, hc, rfl, by rw [hI, mdF_no (Nat.le_refl _)]⟩
      ·
        omega

set_option maxRecDepth 100000 in
set_option maxHeartbeats 4000000 in
theorem sp_X9_isConsistent (l : Launch) (G : GT) (BP : Nat → Nat → Int32) (be nm : Nat → Int32) (x : PP) (q : Nat)  (M : Mem) (hpn : (M 0 0 9).toNatClampNeg = q) (hq : q = 17 ∨ q = 18) (hP : M q = vPx BP be nm x) (hx : PIv x) (hbe : BEx be x) (hpl : PLi x (M 3)) (hw0 : ∀ c, c < x.1.2.2 → 0 ≤ M 3 1 c) : MC l G yX9_isConsistent cX9_isConsistent 3 (some .boolean) ({ frames := 4, cells := 0, slots := 0, locals := 94 } : Room) KC lkC [rv 0 0] (M) (fun r M2 => r = some (iv (csI x M)) ∧ M2 = puM M x) := by
  refine MC.of RX9 [some (rv 0 0), none, none] 2 (by decide +kernel) rfl rfl rfl ?_
  intro pp ee ss mm aa bb me cd ad E
  rcases hq with rfl | rfl
  ·
    have h_ro : M 17 0 7 = nI x.1.1 := by rw [hP]; rfl
    have h_co : M 17 0 8 = nI x.1.2.1 := by rw [hP]; rfl
    have h_ce : M 17 0 9 = nI x.1.2.2 := by rw [hP]; rfl
    have h_bc : M 17 0 10 = nI x.2.2.2.2.1 := by rw [hP]; rfl
    have h_fr : M 17 0 11 = x.2.2.2.1 := by rw [hP]; rfl
    have h_he : M 17 1 = x.2.1 := by rw [hP]; rfl
    have h_gu : M 17 2 = x.2.2.1 := by rw [hP]; rfl
    have h_be : M 17 3 = be := by rw [hP]; rfl
    have h_nl : M 17 5 = x.2.2.2.2.2.1 := by rw [hP]; rfl
    have h_bh : M 17 6 = x.2.2.2.2.2.2.2.1 := by rw [hP]; rfl
    have h_fp : M 17 7 = x.2.2.2.2.2.2.1 := by rw [hP]; rfl
    have h_n0 : M 17 8 = x.2.2.2.2.2.2.2.2 0 := by rw [hP]; rfl
    have h_n1 : M 17 9 = x.2.2.2.2.2.2.2.2 1 := by rw [hP]; rfl
    have h_n2 : M 17 10 = x.2.2.2.2.2.2.2.2 2 := by rw [hP]; rfl
    have h_n3 : M 17 11 = x.2.2.2.2.2.2.2.2 3 := by rw [hP]; rfl
    have hn64 := (PIv_z hx).1
    have hpu := puT_le (M := M) (x := x)
    refine r_aload_n E (dat dkX9_isConsistent 0 rfl) rfl rfl ?_
    refine q_getl E fl_X9_46 (dat dkX9_isConsistent 1 rfl) rfl rfl rfl ?_
    refine r_aload_n E (dat dkX9_isConsistent 2 rfl) rfl rfl ?_
    refine q_getd E fl_X9_64 (dat dkX9_isConsistent 3 rfl) rfl rfl rfl hpn ?_
    refine r_aload_n E (dat dkX9_isConsistent 4 rfl) rfl rfl ?_
    refine q_getl E fl_X9_26 (dat dkX9_isConsistent 5 rfl) rfl rfl rfl ?_
    refine r_callV (κ := 5) (μ := [15, 17, 3]) E (sp_X3_findAll l G (M 15) (M 15 0 4) (M 15 1) (M 15 2) (M 15 3) (M 15 4) (M 3) (M 3 0 7) (M 3 0 8) (M 3 0 9) (M 3 0 10) (M 3 0 11) (M 3 0 12) (M 3 0 13) (M 3 0 14) (M 3 1) (M 3 2) (M 3 3) (M 3 4) (M 3 5) (M 3 6) (M 3 7) BP (nI x.1.1) (nI x.1.2.1) x.1.2.2 (nI x.2.2.2.2.1) x.2.2.2.1 x.2.1 x.2.2.1 be nm x.2.2.2.2.2.1 x.2.2.2.2.2.2.2.1 x.2.2.2.2.2.2.1 (x.2.2.2.2.2.2.2.2 0) (x.2.2.2.2.2.2.2.2 1) (x.2.2.2.2.2.2.2.2 2) (x.2.2.2.2.2.2.2.2 3) (nbx x) hbe (nbx_lt hx) _ (evU (M 15)).symm hP (evS (M 3)).symm hn64) my_X3_findAll iv_X3_findAll ml_X9_182 (cm_of rfl) ⟨by decide, rfl, rfl⟩ rfl rfl rfl rfl (by decide) (Nat.le_of_ble_eq_true rfl) (dat dkX9_isConsistent 6 rfl) ?_
    rintro _ _ ⟨rfl, rfl⟩
    refine ⟨_, (show Mrg _ _ M _ (puM M x) from Mrg_e (i := 0) (by decide) (by decide) rfl rfl), ?_⟩
    refine r_iconst (v := 0) E (dat dkX9_isConsistent 7 rfl) rfl ?_
    refine r_istore_1 E (dat dkX9_isConsistent 8 rfl) rfl rfl ?_
    refine r_iconst (v := 0) E (dat dkX9_isConsistent 9 rfl) rfl ?_
    refine r_istore_2 E (dat dkX9_isConsistent 10 rfl) rfl rfl ?_
    refine r_for ((puT M x).1) (fun _ => True) (fun i => puM M x) (fun i => [some (rv 0 0), some (iv (sm (puT M x).2.2.2.1 i)), some (iv (nI i))]) trivial rfl rfl ?_ ?_
    · intro i hi hI kk
      refine r_iload_n E (dat dkX9_isConsistent 11 rfl) rfl rfl ?_
      refine r_aload_n E (dat dkX9_isConsistent 12 rfl) rfl rfl ?_
      refine q_getl E fl_X9_46 (dat dkX9_isConsistent 13 rfl) rfl rfl rfl ?_
      refine q_getn E fl_X9_186 (dat dkX9_isConsistent 14 rfl) rfl rfl rfl rfl ?_
      refine q_icmp_ge (tgt := 48) E (dat dkX9_isConsistent 15 rfl) rfl rfl rfl (by omega) (by omega) (fun h27 => ?_) (fun h27 => ?_)
      ·
        omega
      ·
        refine r_iload_n E (dat dkX9_isConsistent 16 rfl) rfl rfl ?_
        refine r_aload_n E (dat dkX9_isConsistent 17 rfl) rfl rfl ?_
        refine q_getl E fl_X9_46 (dat dkX9_isConsistent 18 rfl) rfl rfl rfl ?_
        refine q_geta E fl_X9_196 (dat dkX9_isConsistent 19 rfl) rfl rfl rfl ?_
        refine r_iload_n E (dat dkX9_isConsistent 20 rfl) rfl rfl ?_
        refine q_iald E (dat dkX9_isConsistent 21 rfl) rfl rfl (by decide) rfl rfl (by omega) ?_
        refine r_iadd E (dat dkX9_isConsistent 22 rfl) ?_
        refine r_istore_1 E (dat dkX9_isConsistent 23 rfl) rfl rfl ?_
        refine q_iinc_2 E (dat dkX9_isConsistent 24 rfl) rfl rfl ?_
        refine r_goto (tgt := 19) E (dat dkX9_isConsistent 25 rfl) rfl ?_
        exact kk trivial
    · intro hI
      refine r_iload_n E (dat dkX9_isConsistent 11 rfl) rfl rfl ?_
      refine r_aload_n E (dat dkX9_isConsistent 12 rfl) rfl rfl ?_
      refine q_getl E fl_X9_46 (dat dkX9_isConsistent 13 rfl) rfl rfl rfl ?_
      refine q_getn E fl_X9_186 (dat dkX9_isConsistent 14 rfl) rfl rfl rfl rfl ?_
      refine q_icmp_ge (tgt := 48) E (dat dkX9_isConsistent 15 rfl) rfl rfl rfl (by omega) (by omega) (fun h27 => ?_) (fun h27 => ?_)
      ·
        refine r_aload_n E (dat dkX9_isConsistent 26 rfl) rfl rfl ?_
        refine q_getl E fl_X9_26 (dat dkX9_isConsistent 27 rfl) rfl rfl rfl ?_
        refine r_aload_n E (dat dkX9_isConsistent 28 rfl) rfl rfl ?_
        refine q_getd E fl_X9_64 (dat dkX9_isConsistent 29 rfl) rfl rfl rfl hpn ?_
        refine r_callV (κ := 1) (μ := [3, 17]) E (tp_X5_isBalanced l G (M 3) BP be nm x _ rfl hP hx hpl hw0) my_X5_isBalanced iv_X5_isBalanced ml_X9_254 (cm_of rfl) ⟨by decide, rfl, rfl⟩ rfl rfl rfl rfl (by decide) (Nat.le_of_ble_eq_true rfl) (dat dkX9_isConsistent 30 rfl) ?_
        rintro _ _ ⟨rfl, rfl⟩
        refine ⟨_, Mrg_z rfl, ?_⟩
        refine r_if_eq (tgt := 81) E (dat dkX9_isConsistent 31 rfl) rfl (fun h59 => ?_) (fun h59 => ?_)
        ·
          refine r_iconst (v := 0) E (dat dkX9_isConsistent 41 rfl) rfl ?_
          refine r_zreturn E (dat dkX9_isConsistent 42 rfl) rfl (by decide) (by decide) ?_
          refine ⟨?_, rfl⟩
          unfold csI
          first
            | (rw [if_pos h59]; done)
            | (rw [if_neg h59, if_pos (by first | exact h74 | exact Decidable.not_not.mp h74)]; done)
            | (rw [if_neg h59, if_neg h74]; done)
        ·
          refine r_iload_n E (dat dkX9_isConsistent 32 rfl) rfl rfl ?_
          refine r_aload_n E (dat dkX9_isConsistent 33 rfl) rfl rfl ?_
          refine q_getl E fl_X9_26 (dat dkX9_isConsistent 34 rfl) rfl rfl rfl ?_
          refine r_aload_n E (dat dkX9_isConsistent 35 rfl) rfl rfl ?_
          refine q_getd E fl_X9_64 (dat dkX9_isConsistent 36 rfl) rfl rfl rfl hpn ?_
          refine r_callV (κ := 1) (μ := [3, 17]) E (tp_X5_sumOfWater l G (M 3) BP be nm x _ rfl hP hx) my_X5_sumOfWater iv_X5_sumOfWater ml_X9_199 (cm_of rfl) ⟨by decide, rfl, rfl⟩ rfl rfl rfl rfl (by decide) (Nat.le_of_ble_eq_true rfl) (dat dkX9_isConsistent 37 rfl) ?_
          rintro _ _ ⟨rfl, rfl⟩
          refine ⟨_, Mrg_z rfl, ?_⟩
          refine r_icmp_ne (tgt := 81) E (dat dkX9_isConsistent 38 rfl) rfl (fun h74 => ?_) (fun h74 => ?_)
          ·
            refine r_iconst (v := 0) E (dat dkX9_isConsistent 41 rfl) rfl ?_
            refine r_zreturn E (dat dkX9_isConsistent 42 rfl) rfl (by decide) (by decide) ?_
            refine ⟨?_, rfl⟩
            unfold csI
            first
              | (rw [if_pos h59]; done)
              | (rw [if_neg h59, if_pos (by first | exact h74 | exact Decidable.not_not.mp h74)]; done)
              | (rw [if_neg h59, if_neg h74]; done)
          ·
            refine r_iconst (v := 1) E (dat dkX9_isConsistent 39 rfl) rfl ?_
            refine r_goto (tgt := 82) E (dat dkX9_isConsistent 40 rfl) rfl ?_
            refine r_zreturn E (dat dkX9_isConsistent 42 rfl) rfl (by decide) (by decide) ?_
            refine ⟨?_, rfl⟩
            unfold csI
            first
              | (rw [if_pos h59]; done)
              | (rw [if_neg h59, if_pos (by first | exact h74 | exact Decidable.not_not.mp h74)]; done)
              | (rw [if_neg h59, if_neg h74]; done)
      ·
        omega
  ·
    have h_ro : M 18 0 7 = nI x.1.1 := by rw [hP]; rfl
    have h_co : M 18 0 8 = nI x.1.2.1 := by rw [hP]; rfl
    have h_ce : M 18 0 9 = nI x.1.2.2 := by rw [hP]; rfl
    have h_bc : M 18 0 10 = nI x.2.2.2.2.1 := by rw [hP]; rfl
    have h_fr : M 18 0 11 = x.2.2.2.1 := by rw [hP]; rfl
    have h_he : M 18 1 = x.2.1 := by rw [hP]; rfl
    have h_gu : M 18 2 = x.2.2.1 := by rw [hP]; rfl
    have h_be : M 18 3 = be := by rw [hP]; rfl
    have h_nl : M 18 5 = x.2.2.2.2.2.1 := by rw [hP]; rfl
    have h_bh : M 18 6 = x.2.2.2.2.2.2.2.1 := by rw [hP]; rfl
    have h_fp : M 18 7 = x.2.2.2.2.2.2.1 := by rw [hP]; rfl
    have h_n0 : M 18 8 = x.2.2.2.2.2.2.2.2 0 := by rw [hP]; rfl
    have h_n1 : M 18 9 = x.2.2.2.2.2.2.2.2 1 := by rw [hP]; rfl
    have h_n2 : M 18 10 = x.2.2.2.2.2.2.2.2 2 := by rw [hP]; rfl
    have h_n3 : M 18 11 = x.2.2.2.2.2.2.2.2 3 := by rw [hP]; rfl
    have hn64 := (PIv_z hx).1
    have hpu := puT_le (M := M) (x := x)
    refine r_aload_n E (dat dkX9_isConsistent 0 rfl) rfl rfl ?_
    refine q_getl E fl_X9_46 (dat dkX9_isConsistent 1 rfl) rfl rfl rfl ?_
    refine r_aload_n E (dat dkX9_isConsistent 2 rfl) rfl rfl ?_
    refine q_getd E fl_X9_64 (dat dkX9_isConsistent 3 rfl) rfl rfl rfl hpn ?_
    refine r_aload_n E (dat dkX9_isConsistent 4 rfl) rfl rfl ?_
    refine q_getl E fl_X9_26 (dat dkX9_isConsistent 5 rfl) rfl rfl rfl ?_
    refine r_callV (κ := 5) (μ := [15, 18, 3]) E (sp_X3_findAll l G (M 15) (M 15 0 4) (M 15 1) (M 15 2) (M 15 3) (M 15 4) (M 3) (M 3 0 7) (M 3 0 8) (M 3 0 9) (M 3 0 10) (M 3 0 11) (M 3 0 12) (M 3 0 13) (M 3 0 14) (M 3 1) (M 3 2) (M 3 3) (M 3 4) (M 3 5) (M 3 6) (M 3 7) BP (nI x.1.1) (nI x.1.2.1) x.1.2.2 (nI x.2.2.2.2.1) x.2.2.2.1 x.2.1 x.2.2.1 be nm x.2.2.2.2.2.1 x.2.2.2.2.2.2.2.1 x.2.2.2.2.2.2.1 (x.2.2.2.2.2.2.2.2 0) (x.2.2.2.2.2.2.2.2 1) (x.2.2.2.2.2.2.2.2 2) (x.2.2.2.2.2.2.2.2 3) (nbx x) hbe (nbx_lt hx) _ (evU (M 15)).symm hP (evS (M 3)).symm hn64) my_X3_findAll iv_X3_findAll ml_X9_182 (cm_of rfl) ⟨by decide, rfl, rfl⟩ rfl rfl rfl rfl (by decide) (Nat.le_of_ble_eq_true rfl) (dat dkX9_isConsistent 6 rfl) ?_
    rintro _ _ ⟨rfl, rfl⟩
    refine ⟨_, (show Mrg _ _ M _ (puM M x) from Mrg_e (i := 0) (by decide) (by decide) rfl rfl), ?_⟩
    refine r_iconst (v := 0) E (dat dkX9_isConsistent 7 rfl) rfl ?_
    refine r_istore_1 E (dat dkX9_isConsistent 8 rfl) rfl rfl ?_
    refine r_iconst (v := 0) E (dat dkX9_isConsistent 9 rfl) rfl ?_
    refine r_istore_2 E (dat dkX9_isConsistent 10 rfl) rfl rfl ?_
    refine r_for ((puT M x).1) (fun _ => True) (fun i => puM M x) (fun i => [some (rv 0 0), some (iv (sm (puT M x).2.2.2.1 i)), some (iv (nI i))]) trivial rfl rfl ?_ ?_
    · intro i hi hI kk
      refine r_iload_n E (dat dkX9_isConsistent 11 rfl) rfl rfl ?_
      refine r_aload_n E (dat dkX9_isConsistent 12 rfl) rfl rfl ?_
      refine q_getl E fl_X9_46 (dat dkX9_isConsistent 13 rfl) rfl rfl rfl ?_
      refine q_getn E fl_X9_186 (dat dkX9_isConsistent 14 rfl) rfl rfl rfl rfl ?_
      refine q_icmp_ge (tgt := 48) E (dat dkX9_isConsistent 15 rfl) rfl rfl rfl (by omega) (by omega) (fun h27 => ?_) (fun h27 => ?_)
      ·
        omega
      ·
        refine r_iload_n E (dat dkX9_isConsistent 16 rfl) rfl rfl ?_
        refine r_aload_n E (dat dkX9_isConsistent 17 rfl) rfl rfl ?_
        refine q_getl E fl_X9_46 (dat dkX9_isConsistent 18 rfl) rfl rfl rfl ?_
        refine q_geta E fl_X9_196 (dat dkX9_isConsistent 19 rfl) rfl rfl rfl ?_
        refine r_iload_n E (dat dkX9_isConsistent 20 rfl) rfl rfl ?_
        refine q_iald E (dat dkX9_isConsistent 21 rfl) rfl rfl (by decide) rfl rfl (by omega) ?_
        refine r_iadd E (dat dkX9_isConsistent 22 rfl) ?_
        refine r_istore_1 E (dat dkX9_isConsistent 23 rfl) rfl rfl ?_
        refine q_iinc_2 E (dat dkX9_isConsistent 24 rfl) rfl rfl ?_
        refine r_goto (tgt := 19) E (dat dkX9_isConsistent 25 rfl) rfl ?_
        exact kk trivial
    · intro hI
      refine r_iload_n E (dat dkX9_isConsistent 11 rfl) rfl rfl ?_
      refine r_aload_n E (dat dkX9_isConsistent 12 rfl) rfl rfl ?_
      refine q_getl E fl_X9_46 (dat dkX9_isConsistent 13 rfl) rfl rfl rfl ?_
      refine q_getn E fl_X9_186 (dat dkX9_isConsistent 14 rfl) rfl rfl rfl rfl ?_
      refine q_icmp_ge (tgt := 48) E (dat dkX9_isConsistent 15 rfl) rfl rfl rfl (by omega) (by omega) (fun h27 => ?_) (fun h27 => ?_)
      ·
        refine r_aload_n E (dat dkX9_isConsistent 26 rfl) rfl rfl ?_
        refine q_getl E fl_X9_26 (dat dkX9_isConsistent 27 rfl) rfl rfl rfl ?_
        refine r_aload_n E (dat dkX9_isConsistent 28 rfl) rfl rfl ?_
        refine q_getd E fl_X9_64 (dat dkX9_isConsistent 29 rfl) rfl rfl rfl hpn ?_
        refine r_callV (κ := 1) (μ := [3, 18]) E (tp_X5_isBalanced l G (M 3) BP be nm x _ rfl hP hx hpl hw0) my_X5_isBalanced iv_X5_isBalanced ml_X9_254 (cm_of rfl) ⟨by decide, rfl, rfl⟩ rfl rfl rfl rfl (by decide) (Nat.le_of_ble_eq_true rfl) (dat dkX9_isConsistent 30 rfl) ?_
        rintro _ _ ⟨rfl, rfl⟩
        refine ⟨_, Mrg_z rfl, ?_⟩
        refine r_if_eq (tgt := 81) E (dat dkX9_isConsistent 31 rfl) rfl (fun h59 => ?_) (fun h59 => ?_)
        ·
          refine r_iconst (v := 0) E (dat dkX9_isConsistent 41 rfl) rfl ?_
          refine r_zreturn E (dat dkX9_isConsistent 42 rfl) rfl (by decide) (by decide) ?_
          refine ⟨?_, rfl⟩
          unfold csI
          first
            | (rw [if_pos h59]; done)
            | (rw [if_neg h59, if_pos (by first | exact h74 | exact Decidable.not_not.mp h74)]; done)
            | (rw [if_neg h59, if_neg h74]; done)
        ·
          refine r_iload_n E (dat dkX9_isConsistent 32 rfl) rfl rfl ?_
          refine r_aload_n E (dat dkX9_isConsistent 33 rfl) rfl rfl ?_
          refine q_getl E fl_X9_26 (dat dkX9_isConsistent 34 rfl) rfl rfl rfl ?_
          refine r_aload_n E (dat dkX9_isConsistent 35 rfl) rfl rfl ?_
          refine q_getd E fl_X9_64 (dat dkX9_isConsistent 36 rfl) rfl rfl rfl hpn ?_
          refine r_callV (κ := 1) (μ := [3, 18]) E (tp_X5_sumOfWater l G (M 3) BP be nm x _ rfl hP hx) my_X5_sumOfWater iv_X5_sumOfWater ml_X9_199 (cm_of rfl) ⟨by decide, rfl, rfl⟩ rfl rfl rfl rfl (by decide) (Nat.le_of_ble_eq_true rfl) (dat dkX9_isConsistent 37 rfl) ?_
          rintro _ _ ⟨rfl, rfl⟩
          refine ⟨_, Mrg_z rfl, ?_⟩
          refine r_icmp_ne (tgt := 81) E (dat dkX9_isConsistent 38 rfl) rfl (fun h74 => ?_) (fun h74 => ?_)
          ·
            refine r_iconst (v := 0) E (dat dkX9_isConsistent 41 rfl) rfl ?_
            refine r_zreturn E (dat dkX9_isConsistent 42 rfl) rfl (by decide) (by decide) ?_
            refine ⟨?_, rfl⟩
            unfold csI
            first
              | (rw [if_pos h59]; done)
              | (rw [if_neg h59, if_pos (by first | exact h74 | exact Decidable.not_not.mp h74)]; done)
              | (rw [if_neg h59, if_neg h74]; done)
          ·
            refine r_iconst (v := 1) E (dat dkX9_isConsistent 39 rfl) rfl ?_
            refine r_goto (tgt := 82) E (dat dkX9_isConsistent 40 rfl) rfl ?_
            refine r_zreturn E (dat dkX9_isConsistent 42 rfl) rfl (by decide) (by decide) ?_
            refine ⟨?_, rfl⟩
            unfold csI
            first
              | (rw [if_pos h59]; done)
              | (rw [if_neg h59, if_pos (by first | exact h74 | exact Decidable.not_not.mp h74)]; done)
              | (rw [if_neg h59, if_neg h74]; done)
      ·
        omega
