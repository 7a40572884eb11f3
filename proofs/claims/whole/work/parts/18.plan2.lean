set_option maxRecDepth 100000 in
set_option maxHeartbeats 4000000 in
theorem sp_X2_empty (l : Launch) (G : GT) (B1 : Nat → Nat → Int32) (ro co : Int32) (ce : Int32) (bc fr : Int32) (he gu be nm nl bh fp n0 n1 n2 n3 : Nat → Int32) (M : Mem) (hA0 : M 0 = (vP B1 ro co (ce) bc fr he gu be nm nl bh fp n0 n1 n2 n3))  : MC l G yX2_empty cX2_empty 1 none ({ frames := 1, cells := 0, slots := 0, locals := 23 } : Room) [2] lk0 [rv 0 0] (M) (fun r M2 => r = none ∧ M2 = setm M 0 (vP B1 (0) (0) (0) (0) (0) he (fun _ => 0) be nm nl bh fp n0 n1 n2 n3)) := by
  obtain ⟨M0, rfl⟩ : ∃ M0, M = m1 ((vP B1 ro co (ce) bc fr he gu be nm nl bh fp n0 n1 n2 n3)) M0 := ⟨M, (m1_of hA0).symm⟩
  clear hA0
  refine MC.of RX2 [some (rv 0 0)] 0 (by decide +kernel) rfl rfl rfl ?_
  intro pp ee ss mm aa bb me cd ad E
  refine r_aload_n E (dat dkX2_empty 0 rfl) rfl rfl ?_
  refine r_iconst (v := 0) E (dat dkX2_empty 1 rfl) rfl ?_
  refine q_putn E ft_X2_35 (dat dkX2_empty 2 rfl) rfl rfl rfl (sf1_0 pfP_7) ?_
  refine r_aload_n E (dat dkX2_empty 3 rfl) rfl rfl ?_
  refine r_iconst (v := 0) E (dat dkX2_empty 4 rfl) rfl ?_
  refine q_putn E ft_X2_39 (dat dkX2_empty 5 rfl) rfl rfl rfl (sf1_0 pfP_8) ?_
  refine r_aload_n E (dat dkX2_empty 6 rfl) rfl rfl ?_
  refine r_iconst (v := 0) E (dat dkX2_empty 7 rfl) rfl ?_
  refine q_putn E ft_X2_42 (dat dkX2_empty 8 rfl) rfl rfl rfl (sf1_0 pfP_9) ?_
  refine r_aload_n E (dat dkX2_empty 9 rfl) rfl rfl ?_
  refine r_iconst (v := 0) E (dat dkX2_empty 10 rfl) rfl ?_
  refine q_putn E ft_X2_45 (dat dkX2_empty 11 rfl) rfl rfl rfl (sf1_0 pfP_10) ?_
  refine r_aload_n E (dat dkX2_empty 12 rfl) rfl rfl ?_
  refine r_iconst (v := 0) E (dat dkX2_empty 13 rfl) rfl ?_
  refine q_putn E ft_X2_48 (dat dkX2_empty 14 rfl) rfl rfl rfl (sf1_0 pfP_11) ?_
  refine r_aload_n E (dat dkX2_empty 15 rfl) rfl rfl ?_
  refine q_geta E fl_X2_15 (dat dkX2_empty 16 rfl) rfl rfl rfl ?_
  refine r_iconst (v := 0) E (dat dkX2_empty 17 rfl) rfl ?_
  refine r_callS (μ := [0]) E (sp_fill l G 2 2 64 (0) _ rfl (by decide) (by decide)) my_J7_fill_53178 is_J7_fill_53178 ml_X2_79 (cm_of rfl) rfl rfl (by decide) (by decide) (dat dkX2_empty 18 rfl) ?_
  rintro _ _ ⟨rfl, rfl⟩
  refine ⟨_, Mrg_e (by decide) (by decide) (sa1_0 paP_2) rfl, ?_⟩
  refine r_vreturn E (dat dkX2_empty 19 rfl) (by decide) (by decide) ?_
  exact ⟨rfl, by rw [pm1_0]⟩

set_option maxRecDepth 100000 in
set_option maxHeartbeats 4000000 in
theorem sp_X2_endRow (l : Launch) (G : GT) (B1 : Nat → Nat → Int32) (z : Nat) (bc fr : Int32) (he gu be nm nl bh fp n0 n1 n2 n3 : Nat → Int32) (co : Int32) (u h : Nat) (M : Mem) (hA0 : M 0 = (vP B1 (nI u) co (nI z) bc fr he gu be nm nl bh fp n0 n1 n2 n3))  : MC l G yX2_endRow cX2_endRow 2 none ({ frames := 0, cells := 0, slots := 0, locals := 0 } : Room) [2] lk0 [rv 0 0, iv (nI h)] (M) (fun r M2 => r = none ∧ M2 = setm M 0 (vP B1 (nI (u + 1)) (nI h) (nI ((u + 1) * h)) bc fr he gu be nm nl bh fp n0 n1 n2 n3)) := by
  obtain ⟨M0, rfl⟩ : ∃ M0, M = m1 ((vP B1 (nI u) co (nI z) bc fr he gu be nm nl bh fp n0 n1 n2 n3)) M0 := ⟨M, (m1_of hA0).symm⟩
  clear hA0
  refine MC.of RX2 [some (rv 0 0), some (iv (nI h))] 0 (by decide +kernel) rfl rfl rfl ?_
  intro pp ee ss mm aa bb me cd ad E
  refine r_aload_n E (dat dkX2_endRow 0 rfl) rfl rfl ?_
  refine r_dup E (dat dkX2_endRow 1 rfl) rfl ?_
  refine q_getn E fl_X2_35 (dat dkX2_endRow 2 rfl) rfl rfl rfl (go1_0 gfP_7) ?_
  refine r_iconst (v := 1) E (dat dkX2_endRow 3 rfl) rfl ?_
  refine r_iadd E (dat dkX2_endRow 4 rfl) ?_
  rw [show nI u + 1 = nI (u + 1) from nI_1 u]
  refine q_putn E ft_X2_35 (dat dkX2_endRow 5 rfl) rfl rfl rfl (sf1_0 pfP_7) ?_
  refine r_aload_n E (dat dkX2_endRow 6 rfl) rfl rfl ?_
  refine r_iload_n E (dat dkX2_endRow 7 rfl) rfl rfl ?_
  refine q_putn E ft_X2_39 (dat dkX2_endRow 8 rfl) rfl rfl rfl (sf1_0 pfP_8) ?_
  refine r_aload_n E (dat dkX2_endRow 9 rfl) rfl rfl ?_
  refine r_aload_n E (dat dkX2_endRow 10 rfl) rfl rfl ?_
  refine q_getn E fl_X2_35 (dat dkX2_endRow 11 rfl) rfl rfl rfl (go1_0 gfP_7) ?_
  refine r_aload_n E (dat dkX2_endRow 12 rfl) rfl rfl ?_
  refine q_getn E fl_X2_39 (dat dkX2_endRow 13 rfl) rfl rfl rfl (go1_0 gfP_8) ?_
  refine r_imul E (dat dkX2_endRow 14 rfl) ?_
  rw [pk_mul]
  refine q_putn E ft_X2_42 (dat dkX2_endRow 15 rfl) rfl rfl rfl (sf1_0 pfP_9) ?_
  refine r_vreturn E (dat dkX2_endRow 16 rfl) (by decide) (by decide) ?_
  exact ⟨rfl, by rw [pm1_0]⟩

set_option maxRecDepth 100000 in
set_option maxHeartbeats 4000000 in
theorem sp_X2_readRain (l : Launch) (G : GT) (B1 : Nat → Nat → Int32) (ro co : Int32) (z : Nat) (bc fr : Int32) (he gu be nm nl bh fp n0 n1 n2 n3 : Nat → Int32) (B0 : Nat → Nat → Int32) (n : Nat) (ki st va ec eo : Int32) (bs : Nat → Int32) (p : Nat) (M : Mem) (hA0 : M 0 = (vP B1 ro co (nI z) bc fr he gu be nm nl bh fp n0 n1 n2 n3)) (hA1 : M 1 = (vT B0 (nI n) (nI (p)) (ki) (st) (va) (ec) (eo) bs)) (hp : p ≤ n) (hn : n ≤ 600) : MC l G yX2_readRain cX2_readRain 2 (some .boolean) ({ frames := 4, cells := 0, slots := 0, locals := 82 } : Room) [2, 3] lk0 [rv 0 0, rv 1 0] (M) (fun r M2 => r = some (iv (rRn bs n ((p, ki, st, va, ec, eo) : TT) fr).1.1) ∧ M2 = setm (setm M 0 (vP B1 ro co (nI z) bc ((rRn bs n ((p, ki, st, va, ec, eo) : TT) fr).2) he gu be nm nl bh fp n0 n1 n2 n3)) 1 (vT B0 (nI n) (nI ((rRn bs n ((p, ki, st, va, ec, eo) : TT) fr).1.2).1) ((rRn bs n ((p, ki, st, va, ec, eo) : TT) fr).1.2).2.1 ((rRn bs n ((p, ki, st, va, ec, eo) : TT) fr).1.2).2.2.1 ((rRn bs n ((p, ki, st, va, ec, eo) : TT) fr).1.2).2.2.2.1 ((rRn bs n ((p, ki, st, va, ec, eo) : TT) fr).1.2).2.2.2.2.1 ((rRn bs n ((p, ki, st, va, ec, eo) : TT) fr).1.2).2.2.2.2.2 bs)) := by
  obtain ⟨M0, rfl⟩ : ∃ M0, M = m2 ((vP B1 ro co (nI z) bc fr he gu be nm nl bh fp n0 n1 n2 n3)) ((vT B0 (nI n) (nI (p)) (ki) (st) (va) (ec) (eo) bs)) M0 := ⟨M, (m2_of hA0 hA1).symm⟩
  clear hA0 hA1
  refine MC.of RX2 [some (rv 0 0), some (rv 1 0)] 0 (by decide +kernel) rfl rfl rfl ?_
  intro pp ee ss mm aa bb me cd ad E
  refine r_aload_n E (dat dkX2_readRain 0 rfl) rfl rfl ?_
  refine r_iconst (v := 0) E (dat dkX2_readRain 1 rfl) rfl ?_
  refine r_bipush (v := 9) E (dat dkX2_readRain 2 rfl) rfl ?_
  refine r_callV (κ := 3) (μ := [1]) E (sp_X6_takeNumber l G B0 n (ki) (st) (va) (ec) (eo) bs (p) (0) (9) _ rfl hp hn) my_X6_takeNumber iv_X6_takeNumber ml_X2_120 (cm_of rfl) ⟨by decide, rfl, rfl⟩ rfl rfl rfl rfl (by decide) (Nat.le_of_ble_eq_true rfl) (dat dkX2_readRain 3 rfl) ?_
  rintro _ _ ⟨rfl, rfl⟩
  refine ⟨_, Mrg_e (by decide) (by decide) pm2_1 rfl, ?_⟩
  refine r_if_ne (tgt := 12) E (dat dkX2_readRain 4 rfl) rfl (fun h7 => ?_) (fun h7 => ?_)
  ·
    refine r_aload_n E (dat dkX2_readRain 7 rfl) rfl rfl ?_
    refine r_aload_n E (dat dkX2_readRain 8 rfl) rfl rfl ?_
    refine q_getn E fl_X2_113 (dat dkX2_readRain 9 rfl) rfl rfl rfl (go2_1 gfT_5) ?_
    refine q_putn E ft_X2_48 (dat dkX2_readRain 10 rfl) rfl rfl rfl (sf2_0 pfP_11) ?_
    refine r_aload_n E (dat dkX2_readRain 11 rfl) rfl rfl ?_
    refine r_callV (κ := 3) (μ := [1]) E (sp_X6_takeSemicolon l G B0 n (tK bs n (p)) (nI (tS bs n (p))) (tV bs n (p) (va)) (feI (tnC bs n (p) (va) (0) (9)) (ec) (tnC bs n (p) (va) (0) (9))) (feI (tnC bs n (p) (va) (0) (9)) (eo) (nI (tS bs n (p)))) bs (tP bs n (p)) _ rfl (tP_le (b := bs) hp).2 hn) my_X6_takeSemicolon iv_X6_takeSemicolon ml_X2_116 (cm_of rfl) ⟨by decide, rfl, rfl⟩ rfl rfl rfl rfl (by decide) (Nat.le_of_ble_eq_true rfl) (dat dkX2_readRain 12 rfl) ?_
    rintro _ _ ⟨rfl, rfl⟩
    refine ⟨_, Mrg_e (by decide) (by decide) pm2_1 rfl, ?_⟩
    refine r_zreturn E (dat dkX2_readRain 13 rfl) rfl (by decide) (by decide) ?_
    rw [pm2_0, pm2_1]
    unfold rRn
    rw [if_pos (fe_n h7), fe_n h7]
    exact ⟨rfl, rfl⟩
  ·
    refine r_iconst (v := 0) E (dat dkX2_readRain 5 rfl) rfl ?_
    refine r_zreturn E (dat dkX2_readRain 6 rfl) rfl (by decide) (by decide) ?_
    rw [pm2_0, pm2_1]
    unfold rRn
    rw [if_neg (fe_z h7)]
    exact ⟨rfl, rfl⟩
