set_option maxRecDepth 100000 in
set_option maxHeartbeats 8000000 in
theorem sp_X1_keep (l : Launch) (G : GT) (B3 : Nat → Nat → Int32) (o c : Nat) (ss : Nat → Int32) (M : Mem) (hA0 : M 0 = (vH B3 (nI o) (nI c) ss)) (ho : o < 8) (hc : c ≤ 8) (hwt : ∀ i, i < 4 → fits .boolean (.int (M 1 7 i)) = true) : MC l G yX1_keep cX1_keep 3 none ({ frames := 2, cells := 0, slots := 0, locals := 62 } : Room) [7, 1, 1, 1, 1, 1, 1, 1, 1, 1] lkH [rv 0 0, rv 1 0] (M) (fun r M2 => r = none ∧ M2 = setm (setm M (2 + (o + c) % 8) (M 1)) 0 (if c < 8 then vH B3 (nI o) (nI (c + 1)) ss else vH B3 (nI ((o + 1) % 8)) (nI c) ss)) := by
  obtain ⟨M0, rfl⟩ : ∃ M0, M = m1 ((vH B3 (nI o) (nI c) ss)) M0 := ⟨M, (m1_of hA0).symm⟩
  clear hA0
  refine MC.of RX1 [some (rv 0 0), some (rv 1 0), none] 1 (by decide +kernel) rfl rfl rfl ?_
  intro pp ee ss mm aa bb me cd ad E
  refine r_aload_n E (dat dkX1_keep 0 rfl) rfl rfl ?_
  refine q_geta E fl_X1_11 (dat dkX1_keep 1 rfl) rfl rfl rfl ?_
  refine r_aload_n E (dat dkX1_keep 2 rfl) rfl rfl ?_
  refine q_getn E fl_X1_17 (dat dkX1_keep 3 rfl) rfl rfl rfl (go1_0 gfH_1) ?_
  refine r_aload_n E (dat dkX1_keep 4 rfl) rfl rfl ?_
  refine q_getn E fl_X1_21 (dat dkX1_keep 5 rfl) rfl rfl rfl (go1_0 gfH_2) ?_
  refine r_iadd E (dat dkX1_keep 6 rfl) ?_
  refine r_bipush (v := 8) E (dat dkX1_keep 7 rfl) rfl ?_
  refine r_irem E (dat dkX1_keep 8 rfl) (by decide) ?_
  obtain ⟨z, hz, hz8⟩ : ∃ z, z = (o + c) % 8 ∧ z < 8 := ⟨_, rfl, Nat.mod_lt _ (by decide)⟩
  rcases (show z = 0 ∨ z = 1 ∨ z = 2 ∨ z = 3 ∨ z = 4 ∨ z = 5 ∨ z = 6 ∨ z = 7 by omega) with rfl | rfl | rfl | rfl | rfl | rfl | rfl | rfl
  ·
    refine q_aalS (i := 0) E (dat dkX1_keep 9 rfl) rfl rfl (by decide) (by rw [nI_add, rem8 (by omega), ← hz]) (by decide) ?_
    refine r_astore_2 E (dat dkX1_keep 10 rfl) rfl rfl ?_
    refine r_aload_n E (dat dkX1_keep 11 rfl) rfl rfl ?_
    refine r_ifnull E (dat dkX1_keep 12 rfl) ?_
    refine r_aload_n E (dat dkX1_keep 13 rfl) rfl rfl ?_
    refine r_aload_n E (dat dkX1_keep 14 rfl) rfl rfl ?_
    refine r_callV (κ := 1) (μ := [2, 1]) E (sp_X5_copyFrom l G (M0 2) ((M0 2) 0 7) ((M0 2) 0 8) ((M0 2) 0 9) ((M0 2) 0 10) ((M0 2) 0 11) ((M0 2) 0 12) ((M0 2) 0 13) ((M0 2) 0 14) ((M0 2) 1) ((M0 2) 2) ((M0 2) 3) ((M0 2) 4) ((M0 2) 5) ((M0 2) 6) ((M0 2) 7) (M0 1) ((M0 1) 0 7) ((M0 1) 0 8) ((M0 1) 0 9) ((M0 1) 0 10) ((M0 1) 0 11) ((M0 1) 0 12) ((M0 1) 0 13) ((M0 1) 0 14) ((M0 1) 1) ((M0 1) 2) ((M0 1) 3) ((M0 1) 4) ((M0 1) 5) ((M0 1) 6) ((M0 1) 7) _ (evS _).symm (evS _).symm hwt) my_X5_copyFrom iv_X5_copyFrom ml_X1_25 (cm_of rfl) ⟨by decide, rfl, rfl⟩ rfl rfl rfl rfl (by decide) (Nat.le_of_ble_eq_true rfl) (dat dkX1_keep 15 rfl) ?_
    rintro _ _ ⟨rfl, rfl⟩
    refine ⟨_, Mrg_e (i := 0) (by decide) (by decide) (pm1_x (g := 2) (by decide)) rfl, ?_⟩
    refine r_aload_n E (dat dkX1_keep 16 rfl) rfl rfl ?_
    refine q_getn E fl_X1_21 (dat dkX1_keep 17 rfl) rfl rfl rfl (go1_0 gfH_2) ?_
    refine r_bipush (v := 8) E (dat dkX1_keep 18 rfl) rfl ?_
    refine q_icmp_ge (tgt := 49) E (dat dkX1_keep 19 rfl) rfl rfl (b := 8) rfl (by omega) (by omega) (fun h33 => ?_) (fun h33 => ?_)
    ·
      refine r_aload_n E (dat dkX1_keep 27 rfl) rfl rfl ?_
      refine r_aload_n E (dat dkX1_keep 28 rfl) rfl rfl ?_
      refine q_getn E fl_X1_17 (dat dkX1_keep 29 rfl) rfl rfl rfl (go1_0 gfH_1) ?_
      refine r_iconst (v := 1) E (dat dkX1_keep 30 rfl) rfl ?_
      refine r_iadd E (dat dkX1_keep 31 rfl) ?_
      refine r_bipush (v := 8) E (dat dkX1_keep 32 rfl) rfl ?_
      refine r_irem E (dat dkX1_keep 33 rfl) (by decide) ?_
      rw [show nI o + 1 = nI (o + 1) from nI_1 o, rem8 (by omega)]
      refine q_putn E ft_X1_17 (dat dkX1_keep 34 rfl) rfl rfl rfl (sf1_0 pfH_1) ?_
      refine r_vreturn E (dat dkX1_keep 35 rfl) (by decide) (by decide) ?_
      refine ⟨rfl, ?_⟩
      rw [← hz, pm1_x (by decide), pm1_0]
      first
        | (rw [if_pos h33]; rfl)
        | (rw [if_neg (by omega)]; rfl)
    ·
      refine r_aload_n E (dat dkX1_keep 20 rfl) rfl rfl ?_
      refine r_dup E (dat dkX1_keep 21 rfl) rfl ?_
      refine q_getn E fl_X1_21 (dat dkX1_keep 22 rfl) rfl rfl rfl (go1_0 gfH_2) ?_
      refine r_iconst (v := 1) E (dat dkX1_keep 23 rfl) rfl ?_
      refine r_iadd E (dat dkX1_keep 24 rfl) ?_
      rw [show nI c + 1 = nI (c + 1) from nI_1 c]
      refine q_putn E ft_X1_21 (dat dkX1_keep 25 rfl) rfl rfl rfl (sf1_0 pfH_2) ?_
      refine r_goto (tgt := 62) E (dat dkX1_keep 26 rfl) rfl ?_
      refine r_vreturn E (dat dkX1_keep 35 rfl) (by decide) (by decide) ?_
      refine ⟨rfl, ?_⟩
      rw [← hz, pm1_x (by decide), pm1_0]
      first
        | (rw [if_pos h33]; rfl)
        | (rw [if_neg (by omega)]; rfl)
  ·
    refine q_aalS (i := 1) E (dat dkX1_keep 9 rfl) rfl rfl (by decide) (by rw [nI_add, rem8 (by omega), ← hz]) (by decide) ?_
    refine r_astore_2 E (dat dkX1_keep 10 rfl) rfl rfl ?_
    refine r_aload_n E (dat dkX1_keep 11 rfl) rfl rfl ?_
    refine r_ifnull E (dat dkX1_keep 12 rfl) ?_
    refine r_aload_n E (dat dkX1_keep 13 rfl) rfl rfl ?_
    refine r_aload_n E (dat dkX1_keep 14 rfl) rfl rfl ?_
    refine r_callV (κ := 1) (μ := [3, 1]) E (sp_X5_copyFrom l G (M0 3) ((M0 3) 0 7) ((M0 3) 0 8) ((M0 3) 0 9) ((M0 3) 0 10) ((M0 3) 0 11) ((M0 3) 0 12) ((M0 3) 0 13) ((M0 3) 0 14) ((M0 3) 1) ((M0 3) 2) ((M0 3) 3) ((M0 3) 4) ((M0 3) 5) ((M0 3) 6) ((M0 3) 7) (M0 1) ((M0 1) 0 7) ((M0 1) 0 8) ((M0 1) 0 9) ((M0 1) 0 10) ((M0 1) 0 11) ((M0 1) 0 12) ((M0 1) 0 13) ((M0 1) 0 14) ((M0 1) 1) ((M0 1) 2) ((M0 1) 3) ((M0 1) 4) ((M0 1) 5) ((M0 1) 6) ((M0 1) 7) _ (evS _).symm (evS _).symm hwt) my_X5_copyFrom iv_X5_copyFrom ml_X1_25 (cm_of rfl) ⟨by decide, rfl, rfl⟩ rfl rfl rfl rfl (by decide) (Nat.le_of_ble_eq_true rfl) (dat dkX1_keep 15 rfl) ?_
    rintro _ _ ⟨rfl, rfl⟩
    refine ⟨_, Mrg_e (i := 0) (by decide) (by decide) (pm1_x (g := 3) (by decide)) rfl, ?_⟩
    refine r_aload_n E (dat dkX1_keep 16 rfl) rfl rfl ?_
    refine q_getn E fl_X1_21 (dat dkX1_keep 17 rfl) rfl rfl rfl (go1_0 gfH_2) ?_
    refine r_bipush (v := 8) E (dat dkX1_keep 18 rfl) rfl ?_
    refine q_icmp_ge (tgt := 49) E (dat dkX1_keep 19 rfl) rfl rfl (b := 8) rfl (by omega) (by omega) (fun h33 => ?_) (fun h33 => ?_)
    ·
      refine r_aload_n E (dat dkX1_keep 27 rfl) rfl rfl ?_
      refine r_aload_n E (dat dkX1_keep 28 rfl) rfl rfl ?_
      refine q_getn E fl_X1_17 (dat dkX1_keep 29 rfl) rfl rfl rfl (go1_0 gfH_1) ?_
      refine r_iconst (v := 1) E (dat dkX1_keep 30 rfl) rfl ?_
      refine r_iadd E (dat dkX1_keep 31 rfl) ?_
      refine r_bipush (v := 8) E (dat dkX1_keep 32 rfl) rfl ?_
      refine r_irem E (dat dkX1_keep 33 rfl) (by decide) ?_
      rw [show nI o + 1 = nI (o + 1) from nI_1 o, rem8 (by omega)]
      refine q_putn E ft_X1_17 (dat dkX1_keep 34 rfl) rfl rfl rfl (sf1_0 pfH_1) ?_
      refine r_vreturn E (dat dkX1_keep 35 rfl) (by decide) (by decide) ?_
      refine ⟨rfl, ?_⟩
      rw [← hz, pm1_x (by decide), pm1_0]
      first
        | (rw [if_pos h33]; rfl)
        | (rw [if_neg (by omega)]; rfl)
    ·
      refine r_aload_n E (dat dkX1_keep 20 rfl) rfl rfl ?_
      refine r_dup E (dat dkX1_keep 21 rfl) rfl ?_
      refine q_getn E fl_X1_21 (dat dkX1_keep 22 rfl) rfl rfl rfl (go1_0 gfH_2) ?_
      refine r_iconst (v := 1) E (dat dkX1_keep 23 rfl) rfl ?_
      refine r_iadd E (dat dkX1_keep 24 rfl) ?_
      rw [show nI c + 1 = nI (c + 1) from nI_1 c]
      refine q_putn E ft_X1_21 (dat dkX1_keep 25 rfl) rfl rfl rfl (sf1_0 pfH_2) ?_
      refine r_goto (tgt := 62) E (dat dkX1_keep 26 rfl) rfl ?_
      refine r_vreturn E (dat dkX1_keep 35 rfl) (by decide) (by decide) ?_
      refine ⟨rfl, ?_⟩
      rw [← hz, pm1_x (by decide), pm1_0]
      first
        | (rw [if_pos h33]; rfl)
        | (rw [if_neg (by omega)]; rfl)
  ·
    refine q_aalS (i := 2) E (dat dkX1_keep 9 rfl) rfl rfl (by decide) (by rw [nI_add, rem8 (by omega), ← hz]) (by decide) ?_
    refine r_astore_2 E (dat dkX1_keep 10 rfl) rfl rfl ?_
    refine r_aload_n E (dat dkX1_keep 11 rfl) rfl rfl ?_
    refine r_ifnull E (dat dkX1_keep 12 rfl) ?_
    refine r_aload_n E (dat dkX1_keep 13 rfl) rfl rfl ?_
    refine r_aload_n E (dat dkX1_keep 14 rfl) rfl rfl ?_
    refine r_callV (κ := 1) (μ := [4, 1]) E (sp_X5_copyFrom l G (M0 4) ((M0 4) 0 7) ((M0 4) 0 8) ((M0 4) 0 9) ((M0 4) 0 10) ((M0 4) 0 11) ((M0 4) 0 12) ((M0 4) 0 13) ((M0 4) 0 14) ((M0 4) 1) ((M0 4) 2) ((M0 4) 3) ((M0 4) 4) ((M0 4) 5) ((M0 4) 6) ((M0 4) 7) (M0 1) ((M0 1) 0 7) ((M0 1) 0 8) ((M0 1) 0 9) ((M0 1) 0 10) ((M0 1) 0 11) ((M0 1) 0 12) ((M0 1) 0 13) ((M0 1) 0 14) ((M0 1) 1) ((M0 1) 2) ((M0 1) 3) ((M0 1) 4) ((M0 1) 5) ((M0 1) 6) ((M0 1) 7) _ (evS _).symm (evS _).symm hwt) my_X5_copyFrom iv_X5_copyFrom ml_X1_25 (cm_of rfl) ⟨by decide, rfl, rfl⟩ rfl rfl rfl rfl (by decide) (Nat.le_of_ble_eq_true rfl) (dat dkX1_keep 15 rfl) ?_
    rintro _ _ ⟨rfl, rfl⟩
    refine ⟨_, Mrg_e (i := 0) (by decide) (by decide) (pm1_x (g := 4) (by decide)) rfl, ?_⟩
    refine r_aload_n E (dat dkX1_keep 16 rfl) rfl rfl ?_
    refine q_getn E fl_X1_21 (dat dkX1_keep 17 rfl) rfl rfl rfl (go1_0 gfH_2) ?_
    refine r_bipush (v := 8) E (dat dkX1_keep 18 rfl) rfl ?_
    refine q_icmp_ge (tgt := 49) E (dat dkX1_keep 19 rfl) rfl rfl (b := 8) rfl (by omega) (by omega) (fun h33 => ?_) (fun h33 => ?_)
    ·
      refine r_aload_n E (dat dkX1_keep 27 rfl) rfl rfl ?_
      refine r_aload_n E (dat dkX1_keep 28 rfl) rfl rfl ?_
      refine q_getn E fl_X1_17 (dat dkX1_keep 29 rfl) rfl rfl rfl (go1_0 gfH_1) ?_
      refine r_iconst (v := 1) E (dat dkX1_keep 30 rfl) rfl ?_
      refine r_iadd E (dat dkX1_keep 31 rfl) ?_
      refine r_bipush (v := 8) E (dat dkX1_keep 32 rfl) rfl ?_
      refine r_irem E (dat dkX1_keep 33 rfl) (by decide) ?_
      rw [show nI o + 1 = nI (o + 1) from nI_1 o, rem8 (by omega)]
      refine q_putn E ft_X1_17 (dat dkX1_keep 34 rfl) rfl rfl rfl (sf1_0 pfH_1) ?_
      refine r_vreturn E (dat dkX1_keep 35 rfl) (by decide) (by decide) ?_
      refine ⟨rfl, ?_⟩
      rw [← hz, pm1_x (by decide), pm1_0]
      first
        | (rw [if_pos h33]; rfl)
        | (rw [if_neg (by omega)]; rfl)
    ·
      refine r_aload_n E (dat dkX1_keep 20 rfl) rfl rfl ?_
      refine r_dup E (dat dkX1_keep 21 rfl) rfl ?_
      refine q_getn E fl_X1_21 (dat dkX1_keep 22 rfl) rfl rfl rfl (go1_0 gfH_2) ?_
      refine r_iconst (v := 1) E (dat dkX1_keep 23 rfl) rfl ?_
      refine r_iadd E (dat dkX1_keep 24 rfl) ?_
      rw [show nI c + 1 = nI (c + 1) from nI_1 c]
      refine q_putn E ft_X1_21 (dat dkX1_keep 25 rfl) rfl rfl rfl (sf1_0 pfH_2) ?_
      refine r_goto (tgt := 62) E (dat dkX1_keep 26 rfl) rfl ?_
      refine r_vreturn E (dat dkX1_keep 35 rfl) (by decide) (by decide) ?_
      refine ⟨rfl, ?_⟩
      rw [← hz, pm1_x (by decide), pm1_0]
      first
        | (rw [if_pos h33]; rfl)
        | (rw [if_neg (by omega)]; rfl)
  ·
    refine q_aalS (i := 3) E (dat dkX1_keep 9 rfl) rfl rfl (by decide) (by rw [nI_add, rem8 (by omega), ← hz]) (by decide) ?_
    refine r_astore_2 E (dat dkX1_keep 10 rfl) rfl rfl ?_
    refine r_aload_n E (dat dkX1_keep 11 rfl) rfl rfl ?_
    refine r_ifnull E (dat dkX1_keep 12 rfl) ?_
    refine r_aload_n E (dat dkX1_keep 13 rfl) rfl rfl ?_
    refine r_aload_n E (dat dkX1_keep 14 rfl) rfl rfl ?_
    refine r_callV (κ := 1) (μ := [5, 1]) E (sp_X5_copyFrom l G (M0 5) ((M0 5) 0 7) ((M0 5) 0 8) ((M0 5) 0 9) ((M0 5) 0 10) ((M0 5) 0 11) ((M0 5) 0 12) ((M0 5) 0 13) ((M0 5) 0 14) ((M0 5) 1) ((M0 5) 2) ((M0 5) 3) ((M0 5) 4) ((M0 5) 5) ((M0 5) 6) ((M0 5) 7) (M0 1) ((M0 1) 0 7) ((M0 1) 0 8) ((M0 1) 0 9) ((M0 1) 0 10) ((M0 1) 0 11) ((M0 1) 0 12) ((M0 1) 0 13) ((M0 1) 0 14) ((M0 1) 1) ((M0 1) 2) ((M0 1) 3) ((M0 1) 4) ((M0 1) 5) ((M0 1) 6) ((M0 1) 7) _ (evS _).symm (evS _).symm hwt) my_X5_copyFrom iv_X5_copyFrom ml_X1_25 (cm_of rfl) ⟨by decide, rfl, rfl⟩ rfl rfl rfl rfl (by decide) (Nat.le_of_ble_eq_true rfl) (dat dkX1_keep 15 rfl) ?_
    rintro _ _ ⟨rfl, rfl⟩
    refine ⟨_, Mrg_e (i := 0) (by decide) (by decide) (pm1_x (g := 5) (by decide)) rfl, ?_⟩
    refine r_aload_n E (dat dkX1_keep 16 rfl) rfl rfl ?_
    refine q_getn E fl_X1_21 (dat dkX1_keep 17 rfl) rfl rfl rfl (go1_0 gfH_2) ?_
    refine r_bipush (v := 8) E (dat dkX1_keep 18 rfl) rfl ?_
    refine q_icmp_ge (tgt := 49) E (dat dkX1_keep 19 rfl) rfl rfl (b := 8) rfl (by omega) (by omega) (fun h33 => ?_) (fun h33 => ?_)
    ·
      refine r_aload_n E (dat dkX1_keep 27 rfl) rfl rfl ?_
      refine r_aload_n E (dat dkX1_keep 28 rfl) rfl rfl ?_
      refine q_getn E fl_X1_17 (dat dkX1_keep 29 rfl) rfl rfl rfl (go1_0 gfH_1) ?_
      refine r_iconst (v := 1) E (dat dkX1_keep 30 rfl) rfl ?_
      refine r_iadd E (dat dkX1_keep 31 rfl) ?_
      refine r_bipush (v := 8) E (dat dkX1_keep 32 rfl) rfl ?_
      refine r_irem E (dat dkX1_keep 33 rfl) (by decide) ?_
      rw [show nI o + 1 = nI (o + 1) from nI_1 o, rem8 (by omega)]
      refine q_putn E ft_X1_17 (dat dkX1_keep 34 rfl) rfl rfl rfl (sf1_0 pfH_1) ?_
      refine r_vreturn E (dat dkX1_keep 35 rfl) (by decide) (by decide) ?_
      refine ⟨rfl, ?_⟩
      rw [← hz, pm1_x (by decide), pm1_0]
      first
        | (rw [if_pos h33]; rfl)
        | (rw [if_neg (by omega)]; rfl)
    ·
      refine r_aload_n E (dat dkX1_keep 20 rfl) rfl rfl ?_
      refine r_dup E (dat dkX1_keep 21 rfl) rfl ?_
      refine q_getn E fl_X1_21 (dat dkX1_keep 22 rfl) rfl rfl rfl (go1_0 gfH_2) ?_
      refine r_iconst (v := 1) E (dat dkX1_keep 23 rfl) rfl ?_
      refine r_iadd E (dat dkX1_keep 24 rfl) ?_
      rw [show nI c + 1 = nI (c + 1) from nI_1 c]
      refine q_putn E ft_X1_21 (dat dkX1_keep 25 rfl) rfl rfl rfl (sf1_0 pfH_2) ?_
      refine r_goto (tgt := 62) E (dat dkX1_keep 26 rfl) rfl ?_
      refine r_vreturn E (dat dkX1_keep 35 rfl) (by decide) (by decide) ?_
      refine ⟨rfl, ?_⟩
      rw [← hz, pm1_x (by decide), pm1_0]
      first
        | (rw [if_pos h33]; rfl)
        | (rw [if_neg (by omega)]; rfl)
  ·
    refine q_aalS (i := 4) E (dat dkX1_keep 9 rfl) rfl rfl (by decide) (by rw [nI_add, rem8 (by omega), ← hz]) (by decide) ?_
    refine r_astore_2 E (dat dkX1_keep 10 rfl) rfl rfl ?_
    refine r_aload_n E (dat dkX1_keep 11 rfl) rfl rfl ?_
    refine r_ifnull E (dat dkX1_keep 12 rfl) ?_
    refine r_aload_n E (dat dkX1_keep 13 rfl) rfl rfl ?_
    refine r_aload_n E (dat dkX1_keep 14 rfl) rfl rfl ?_
    refine r_callV (κ := 1) (μ := [6, 1]) E (sp_X5_copyFrom l G (M0 6) ((M0 6) 0 7) ((M0 6) 0 8) ((M0 6) 0 9) ((M0 6) 0 10) ((M0 6) 0 11) ((M0 6) 0 12) ((M0 6) 0 13) ((M0 6) 0 14) ((M0 6) 1) ((M0 6) 2) ((M0 6) 3) ((M0 6) 4) ((M0 6) 5) ((M0 6) 6) ((M0 6) 7) (M0 1) ((M0 1) 0 7) ((M0 1) 0 8) ((M0 1) 0 9) ((M0 1) 0 10) ((M0 1) 0 11) ((M0 1) 0 12) ((M0 1) 0 13) ((M0 1) 0 14) ((M0 1) 1) ((M0 1) 2) ((M0 1) 3) ((M0 1) 4) ((M0 1) 5) ((M0 1) 6) ((M0 1) 7) _ (evS _).symm (evS _).symm hwt) my_X5_copyFrom iv_X5_copyFrom ml_X1_25 (cm_of rfl) ⟨by decide, rfl, rfl⟩ rfl rfl rfl rfl (by decide) (Nat.le_of_ble_eq_true rfl) (dat dkX1_keep 15 rfl) ?_
    rintro _ _ ⟨rfl, rfl⟩
    refine ⟨_, Mrg_e (i := 0) (by decide) (by decide) (pm1_x (g := 6) (by decide)) rfl, ?_⟩
    refine r_aload_n E (dat dkX1_keep 16 rfl) rfl rfl ?_
    refine q_getn E fl_X1_21 (dat dkX1_keep 17 rfl) rfl rfl rfl (go1_0 gfH_2) ?_
    refine r_bipush (v := 8) E (dat dkX1_keep 18 rfl) rfl ?_
    refine q_icmp_ge (tgt := 49) E (dat dkX1_keep 19 rfl) rfl rfl (b := 8) rfl (by omega) (by omega) (fun h33 => ?_) (fun h33 => ?_)
    ·
      refine r_aload_n E (dat dkX1_keep 27 rfl) rfl rfl ?_
      refine r_aload_n E (dat dkX1_keep 28 rfl) rfl rfl ?_
      refine q_getn E fl_X1_17 (dat dkX1_keep 29 rfl) rfl rfl rfl (go1_0 gfH_1) ?_
      refine r_iconst (v := 1) E (dat dkX1_keep 30 rfl) rfl ?_
      refine r_iadd E (dat dkX1_keep 31 rfl) ?_
      refine r_bipush (v := 8) E (dat dkX1_keep 32 rfl) rfl ?_
      refine r_irem E (dat dkX1_keep 33 rfl) (by decide) ?_
      rw [show nI o + 1 = nI (o + 1) from nI_1 o, rem8 (by omega)]
      refine q_putn E ft_X1_17 (dat dkX1_keep 34 rfl) rfl rfl rfl (sf1_0 pfH_1) ?_
      refine r_vreturn E (dat dkX1_keep 35 rfl) (by decide) (by decide) ?_
      refine ⟨rfl, ?_⟩
      rw [← hz, pm1_x (by decide), pm1_0]
      first
        | (rw [if_pos h33]; rfl)
        | (rw [if_neg (by omega)]; rfl)
    ·
      refine r_aload_n E (dat dkX1_keep 20 rfl) rfl rfl ?_
      refine r_dup E (dat dkX1_keep 21 rfl) rfl ?_
      refine q_getn E fl_X1_21 (dat dkX1_keep 22 rfl) rfl rfl rfl (go1_0 gfH_2) ?_
      refine r_iconst (v := 1) E (dat dkX1_keep 23 rfl) rfl ?_
      refine r_iadd E (dat dkX1_keep 24 rfl) ?_
      rw [show nI c + 1 = nI (c + 1) from nI_1 c]
      refine q_putn E ft_X1_21 (dat dkX1_keep 25 rfl) rfl rfl rfl (sf1_0 pfH_2) ?_
      refine r_goto (tgt := 62) E (dat dkX1_keep 26 rfl) rfl ?_
      refine r_vreturn E (dat dkX1_keep 35 rfl) (by decide) (by decide) ?_
      refine ⟨rfl, ?_⟩
      rw [← hz, pm1_x (by decide), pm1_0]
      first
        | (rw [if_pos h33]; rfl)
        | (rw [if_neg (by omega)]; rfl)
  ·
    refine q_aalS (i := 5) E (dat dkX1_keep 9 rfl) rfl rfl (by decide) (by rw [nI_add, rem8 (by omega), ← hz]) (by decide) ?_
    refine r_astore_2 E (dat dkX1_keep 10 rfl) rfl rfl ?_
    refine r_aload_n E (dat dkX1_keep 11 rfl) rfl rfl ?_
    refine r_ifnull E (dat dkX1_keep 12 rfl) ?_
    refine r_aload_n E (dat dkX1_keep 13 rfl) rfl rfl ?_
    refine r_aload_n E (dat dkX1_keep 14 rfl) rfl rfl ?_
    refine r_callV (κ := 1) (μ := [7, 1]) E (sp_X5_copyFrom l G (M0 7) ((M0 7) 0 7) ((M0 7) 0 8) ((M0 7) 0 9) ((M0 7) 0 10) ((M0 7) 0 11) ((M0 7) 0 12) ((M0 7) 0 13) ((M0 7) 0 14) ((M0 7) 1) ((M0 7) 2) ((M0 7) 3) ((M0 7) 4) ((M0 7) 5) ((M0 7) 6) ((M0 7) 7) (M0 1) ((M0 1) 0 7) ((M0 1) 0 8) ((M0 1) 0 9) ((M0 1) 0 10) ((M0 1) 0 11) ((M0 1) 0 12) ((M0 1) 0 13) ((M0 1) 0 14) ((M0 1) 1) ((M0 1) 2) ((M0 1) 3) ((M0 1) 4) ((M0 1) 5) ((M0 1) 6) ((M0 1) 7) _ (evS _).symm (evS _).symm hwt) my_X5_copyFrom iv_X5_copyFrom ml_X1_25 (cm_of rfl) ⟨by decide, rfl, rfl⟩ rfl rfl rfl rfl (by decide) (Nat.le_of_ble_eq_true rfl) (dat dkX1_keep 15 rfl) ?_
    rintro _ _ ⟨rfl, rfl⟩
    refine ⟨_, Mrg_e (i := 0) (by decide) (by decide) (pm1_x (g := 7) (by decide)) rfl, ?_⟩
    refine r_aload_n E (dat dkX1_keep 16 rfl) rfl rfl ?_
    refine q_getn E fl_X1_21 (dat dkX1_keep 17 rfl) rfl rfl rfl (go1_0 gfH_2) ?_
    refine r_bipush (v := 8) E (dat dkX1_keep 18 rfl) rfl ?_
    refine q_icmp_ge (tgt := 49) E (dat dkX1_keep 19 rfl) rfl rfl (b := 8) rfl (by omega) (by omega) (fun h33 => ?_) (fun h33 => ?_)
    ·
      refine r_aload_n E (dat dkX1_keep 27 rfl) rfl rfl ?_
      refine r_aload_n E (dat dkX1_keep 28 rfl) rfl rfl ?_
      refine q_getn E fl_X1_17 (dat dkX1_keep 29 rfl) rfl rfl rfl (go1_0 gfH_1) ?_
      refine r_iconst (v := 1) E (dat dkX1_keep 30 rfl) rfl ?_
      refine r_iadd E (dat dkX1_keep 31 rfl) ?_
      refine r_bipush (v := 8) E (dat dkX1_keep 32 rfl) rfl ?_
      refine r_irem E (dat dkX1_keep 33 rfl) (by decide) ?_
      rw [show nI o + 1 = nI (o + 1) from nI_1 o, rem8 (by omega)]
      refine q_putn E ft_X1_17 (dat dkX1_keep 34 rfl) rfl rfl rfl (sf1_0 pfH_1) ?_
      refine r_vreturn E (dat dkX1_keep 35 rfl) (by decide) (by decide) ?_
      refine ⟨rfl, ?_⟩
      rw [← hz, pm1_x (by decide), pm1_0]
      first
        | (rw [if_pos h33]; rfl)
        | (rw [if_neg (by omega)]; rfl)
    ·
      refine r_aload_n E (dat dkX1_keep 20 rfl) rfl rfl ?_
      refine r_dup E (dat dkX1_keep 21 rfl) rfl ?_
      refine q_getn E fl_X1_21 (dat dkX1_keep 22 rfl) rfl rfl rfl (go1_0 gfH_2) ?_
      refine r_iconst (v := 1) E (dat dkX1_keep 23 rfl) rfl ?_
      refine r_iadd E (dat dkX1_keep 24 rfl) ?_
      rw [show nI c + 1 = nI (c + 1) from nI_1 c]
      refine q_putn E ft_X1_21 (dat dkX1_keep 25 rfl) rfl rfl rfl (sf1_0 pfH_2) ?_
      refine r_goto (tgt := 62) E (dat dkX1_keep 26 rfl) rfl ?_
      refine r_vreturn E (dat dkX1_keep 35 rfl) (by decide) (by decide) ?_
      refine ⟨rfl, ?_⟩
      rw [← hz, pm1_x (by decide), pm1_0]
      first
        | (rw [if_pos h33]; rfl)
        | (rw [if_neg (by omega)]; rfl)
  ·
    refine q_aalS (i := 6) E (dat dkX1_keep 9 rfl) rfl rfl (by decide) (by rw [nI_add, rem8 (by omega), ← hz]) (by decide) ?_
    refine r_astore_2 E (dat dkX1_keep 10 rfl) rfl rfl ?_
    refine r_aload_n E (dat dkX1_keep 11 rfl) rfl rfl ?_
    refine r_ifnull E (dat dkX1_keep 12 rfl) ?_
    refine r_aload_n E (dat dkX1_keep 13 rfl) rfl rfl ?_
    refine r_aload_n E (dat dkX1_keep 14 rfl) rfl rfl ?_
    refine r_callV (κ := 1) (μ := [8, 1]) E (sp_X5_copyFrom l G (M0 8) ((M0 8) 0 7) ((M0 8) 0 8) ((M0 8) 0 9) ((M0 8) 0 10) ((M0 8) 0 11) ((M0 8) 0 12) ((M0 8) 0 13) ((M0 8) 0 14) ((M0 8) 1) ((M0 8) 2) ((M0 8) 3) ((M0 8) 4) ((M0 8) 5) ((M0 8) 6) ((M0 8) 7) (M0 1) ((M0 1) 0 7) ((M0 1) 0 8) ((M0 1) 0 9) ((M0 1) 0 10) ((M0 1) 0 11) ((M0 1) 0 12) ((M0 1) 0 13) ((M0 1) 0 14) ((M0 1) 1) ((M0 1) 2) ((M0 1) 3) ((M0 1) 4) ((M0 1) 5) ((M0 1) 6) ((M0 1) 7) _ (evS _).symm (evS _).symm hwt) my_X5_copyFrom iv_X5_copyFrom ml_X1_25 (cm_of rfl) ⟨by decide, rfl, rfl⟩ rfl rfl rfl rfl (by decide) (Nat.le_of_ble_eq_true rfl) (dat dkX1_keep 15 rfl) ?_
    rintro _ _ ⟨rfl, rfl⟩
    refine ⟨_, Mrg_e (i := 0) (by decide) (by decide) (pm1_x (g := 8) (by decide)) rfl, ?_⟩
    refine r_aload_n E (dat dkX1_keep 16 rfl) rfl rfl ?_
    refine q_getn E fl_X1_21 (dat dkX1_keep 17 rfl) rfl rfl rfl (go1_0 gfH_2) ?_
    refine r_bipush (v := 8) E (dat dkX1_keep 18 rfl) rfl ?_
    refine q_icmp_ge (tgt := 49) E (dat dkX1_keep 19 rfl) rfl rfl (b := 8) rfl (by omega) (by omega) (fun h33 => ?_) (fun h33 => ?_)
    ·
      refine r_aload_n E (dat dkX1_keep 27 rfl) rfl rfl ?_
      refine r_aload_n E (dat dkX1_keep 28 rfl) rfl rfl ?_
      refine q_getn E fl_X1_17 (dat dkX1_keep 29 rfl) rfl rfl rfl (go1_0 gfH_1) ?_
      refine r_iconst (v := 1) E (dat dkX1_keep 30 rfl) rfl ?_
      refine r_iadd E (dat dkX1_keep 31 rfl) ?_
      refine r_bipush (v := 8) E (dat dkX1_keep 32 rfl) rfl ?_
      refine r_irem E (dat dkX1_keep 33 rfl) (by decide) ?_
      rw [show nI o + 1 = nI (o + 1) from nI_1 o, rem8 (by omega)]
      refine q_putn E ft_X1_17 (dat dkX1_keep 34 rfl) rfl rfl rfl (sf1_0 pfH_1) ?_
      refine r_vreturn E (dat dkX1_keep 35 rfl) (by decide) (by decide) ?_
      refine ⟨rfl, ?_⟩
      rw [← hz, pm1_x (by decide), pm1_0]
      first
        | (rw [if_pos h33]; rfl)
        | (rw [if_neg (by omega)]; rfl)
    ·
      refine r_aload_n E (dat dkX1_keep 20 rfl) rfl rfl ?_
      refine r_dup E (dat dkX1_keep 21 rfl) rfl ?_
      refine q_getn E fl_X1_21 (dat dkX1_keep 22 rfl) rfl rfl rfl (go1_0 gfH_2) ?_
      refine r_iconst (v := 1) E (dat dkX1_keep 23 rfl) rfl ?_
      refine r_iadd E (dat dkX1_keep 24 rfl) ?_
      rw [show nI c + 1 = nI (c + 1) from nI_1 c]
      refine q_putn E ft_X1_21 (dat dkX1_keep 25 rfl) rfl rfl rfl (sf1_0 pfH_2) ?_
      refine r_goto (tgt := 62) E (dat dkX1_keep 26 rfl) rfl ?_
      refine r_vreturn E (dat dkX1_keep 35 rfl) (by decide) (by decide) ?_
      refine ⟨rfl, ?_⟩
      rw [← hz, pm1_x (by decide), pm1_0]
      first
        | (rw [if_pos h33]; rfl)
        | (rw [if_neg (by omega)]; rfl)
  ·
    refine q_aalS (i := 7) E (dat dkX1_keep 9 rfl) rfl rfl (by decide) (by rw [nI_add, rem8 (by omega), ← hz]) (by decide) ?_
    refine r_astore_2 E (dat dkX1_keep 10 rfl) rfl rfl ?_
    refine r_aload_n E (dat dkX1_keep 11 rfl) rfl rfl ?_
    refine r_ifnull E (dat dkX1_keep 12 rfl) ?_
    refine r_aload_n E (dat dkX1_keep 13 rfl) rfl rfl ?_
    refine r_aload_n E (dat dkX1_keep 14 rfl) rfl rfl ?_
    refine r_callV (κ := 1) (μ := [9, 1]) E (sp_X5_copyFrom l G (M0 9) ((M0 9) 0 7) ((M0 9) 0 8) ((M0 9) 0 9) ((M0 9) 0 10) ((M0 9) 0 11) ((M0 9) 0 12) ((M0 9) 0 13) ((M0 9) 0 14) ((M0 9) 1) ((M0 9) 2) ((M0 9) 3) ((M0 9) 4) ((M0 9) 5) ((M0 9) 6) ((M0 9) 7) (M0 1) ((M0 1) 0 7) ((M0 1) 0 8) ((M0 1) 0 9) ((M0 1) 0 10) ((M0 1) 0 11) ((M0 1) 0 12) ((M0 1) 0 13) ((M0 1) 0 14) ((M0 1) 1) ((M0 1) 2) ((M0 1) 3) ((M0 1) 4) ((M0 1) 5) ((M0 1) 6) ((M0 1) 7) _ (evS _).symm (evS _).symm hwt) my_X5_copyFrom iv_X5_copyFrom ml_X1_25 (cm_of rfl) ⟨by decide, rfl, rfl⟩ rfl rfl rfl rfl (by decide) (Nat.le_of_ble_eq_true rfl) (dat dkX1_keep 15 rfl) ?_
    rintro _ _ ⟨rfl, rfl⟩
    refine ⟨_, Mrg_e (i := 0) (by decide) (by decide) (pm1_x (g := 9) (by decide)) rfl, ?_⟩
    refine r_aload_n E (dat dkX1_keep 16 rfl) rfl rfl ?_
    refine q_getn E fl_X1_21 (dat dkX1_keep 17 rfl) rfl rfl rfl (go1_0 gfH_2) ?_
    refine r_bipush (v := 8) E (dat dkX1_keep 18 rfl) rfl ?_
    refine q_icmp_ge (tgt := 49) E (dat dkX1_keep 19 rfl) rfl rfl (b := 8) rfl (by omega) (by omega) (fun h33 => ?_) (fun h33 => ?_)
    ·
      refine r_aload_n E (dat dkX1_keep 27 rfl) rfl rfl ?_
      refine r_aload_n E (dat dkX1_keep 28 rfl) rfl rfl ?_
      refine q_getn E fl_X1_17 (dat dkX1_keep 29 rfl) rfl rfl rfl (go1_0 gfH_1) ?_
      refine r_iconst (v := 1) E (dat dkX1_keep 30 rfl) rfl ?_
      refine r_iadd E (dat dkX1_keep 31 rfl) ?_
      refine r_bipush (v := 8) E (dat dkX1_keep 32 rfl) rfl ?_
      refine r_irem E (dat dkX1_keep 33 rfl) (by decide) ?_
      rw [show nI o + 1 = nI (o + 1) from nI_1 o, rem8 (by omega)]
      refine q_putn E ft_X1_17 (dat dkX1_keep 34 rfl) rfl rfl rfl (sf1_0 pfH_1) ?_
      refine r_vreturn E (dat dkX1_keep 35 rfl) (by decide) (by decide) ?_
      refine ⟨rfl, ?_⟩
      rw [← hz, pm1_x (by decide), pm1_0]
      first
        | (rw [if_pos h33]; rfl)
        | (rw [if_neg (by omega)]; rfl)
    ·
      refine r_aload_n E (dat dkX1_keep 20 rfl) rfl rfl ?_
      refine r_dup E (dat dkX1_keep 21 rfl) rfl ?_
      refine q_getn E fl_X1_21 (dat dkX1_keep 22 rfl) rfl rfl rfl (go1_0 gfH_2) ?_
      refine r_iconst (v := 1) E (dat dkX1_keep 23 rfl) rfl ?_
      refine r_iadd E (dat dkX1_keep 24 rfl) ?_
      rw [show nI c + 1 = nI (c + 1) from nI_1 c]
      refine q_putn E ft_X1_21 (dat dkX1_keep 25 rfl) rfl rfl rfl (sf1_0 pfH_2) ?_
      refine r_goto (tgt := 62) E (dat dkX1_keep 26 rfl) rfl ?_
      refine r_vreturn E (dat dkX1_keep 35 rfl) (by decide) (by decide) ?_
      refine ⟨rfl, ?_⟩
      rw [← hz, pm1_x (by decide), pm1_0]
      first
        | (rw [if_pos h33]; rfl)
        | (rw [if_neg (by omega)]; rfl)

set_option maxRecDepth 100000 in
set_option maxHeartbeats 4000000 in
theorem sp_X1_forgetAll (l : Launch) (G : GT) (B3 : Nat → Nat → Int32) (o c : Int32) (ss : Nat → Int32) (M : Mem) (hA0 : M 0 = (vH B3 o c ss))  : MC l G yX1_forgetAll cX1_forgetAll 1 none ({ frames := 0, cells := 0, slots := 0, locals := 0 } : Room) [7, 1, 1, 1, 1, 1, 1, 1, 1, 1] lkH [rv 0 0] (M) (fun r M2 => r = none ∧ M2 = setm M 0 (vH B3 o 0 ss)) := by
  obtain ⟨M0, rfl⟩ : ∃ M0, M = m1 ((vH B3 o c ss)) M0 := ⟨M, (m1_of hA0).symm⟩
  clear hA0
  refine MC.of RX1 [some (rv 0 0)] 0 (by decide +kernel) rfl rfl rfl ?_
  intro pp ee ss mm aa bb me cd ad E
  refine r_aload_n E (dat dkX1_forgetAll 0 rfl) rfl rfl ?_
  refine r_iconst (v := 0) E (dat dkX1_forgetAll 1 rfl) rfl ?_
  refine q_putn E ft_X1_21 (dat dkX1_forgetAll 2 rfl) rfl rfl rfl (sf1_0 pfH_2) ?_
  refine r_vreturn E (dat dkX1_forgetAll 3 rfl) (by decide) (by decide) ?_
  exact ⟨rfl, by rw [pm1_0]⟩
