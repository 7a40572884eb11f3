set_option maxRecDepth 100000 in
set_option maxHeartbeats 4000000 in
theorem sp_X2_empty (l : Launch) (G : GT) (B1 : Nat → Nat → Int32) (ro co : Int32) (ce : Int32) (bc fr : Int32) (he gu be nm nl bh fp n0 n1 n2 n3 : Nat → Int32) (M : Mem) (hA0 : M 0 = (vP B1 ro co (ce) bc fr he gu be nm nl bh fp n0 n1 n2 n3))  : MC l G yX2_empty cX2_empty 1 none ({ frames := 1, cells := 0, slots := 0, locals := 23 } : Room) [2] lk0 [rv 0 0] (M) (fun r M2 => r = none ∧ M2 = setm M 0 (vP B1 (0) (0) (0) (0) (0) he (fun _ => 0) be nm nl bh fp n0 n1 n2 n3)) := by
  obtain ⟨M0, rfl⟩ : ∃ M0, M = m1 ((vP B1 ro co (ce) bc fr he gu be nm nl bh fp n0 n1 n2 n3)) M0 := ⟨M, (m1_of hA0).symm⟩
  clear hA0
  refine MC.of RX2 [some (rv 0 0)] 0 (by decide +kernel) rfl rfl rfl ?_
  intro pp ee ss mm aa bb me cd ad E
  refine r_aload_n E (dat dkX2_empty 0 rfl) rfl rfl ?_
  refine r_iconst (v := 0) E (dat dkX2_empty 1 rfl) rfl ?_
  refine q_putn E ft_X2_35 (dat dkX2_empty 2 rfl) rfl rfl rfl (sf1_0 pfP_7) ?_
  refine r_aload_n E (dat dkX2_empty 3 rfl) rfl rfl ?_
  refine r_iconst (v := 0) E (dat dkX2_empty 4 rfl) rfl ?_
  refine q_putn E ft_X2_39 (dat dkX2_empty 5 rfl) rfl rfl rfl (sf1_0 pfP_8) ?_
  refine r_aload_n E (dat dkX2_empty 6 rfl) rfl rfl ?_
  refine r_iconst (v := 0) E (dat dkX2_empty 7 rfl) rfl ?_
  refine q_putn E ft_X2_42 (dat dkX2_empty 8 rfl) rfl rfl rfl (sf1_0 pfP_9) ?_
  refine r_aload_n E (dat dkX2_empty 9 rfl) rfl rfl ?_
  refine r_iconst (v := 0) E (dat dkX2_empty 10 rfl) rfl ?_
  refine q_putn E ft_X2_45 (dat dkX2_empty 11 rfl) rfl rfl rfl (sf1_0 pfP_10) ?_
  refine r_aload_n E (dat dkX2_empty 12 rfl) rfl rfl ?_
  refine r_iconst (v := 0) E (dat dkX2_empty 13 rfl) rfl ?_
  refine q_putn E ft_X2_48 (dat dkX2_empty 14 rfl) rfl rfl rfl (sf1_0 pfP_11) ?_
  refine r_aload_n E (dat dkX2_empty 15 rfl) rfl rfl ?_
  refine q_geta E fl_X2_15 (dat dkX2_empty 16 rfl) rfl rfl rfl ?_
  refine r_iconst (v := 0) E (dat dkX2_empty 17 rfl) rfl ?_
  refine r_callS (μ := [0]) E (sp_fill l G 2 2 64 (0) _ rfl (by decide) (by decide)) my_J7_fill_53178 is_J7_fill_53178 ml_X2_79 (cm_of rfl) rfl rfl (by decide) (by decide) (dat dkX2_empty 18 rfl) ?_
  rintro _ _ ⟨rfl, rfl⟩
  refine ⟨_, Mrg_e (by decide) (by decide) (sa1_0 paP_2) rfl, ?_⟩
  refine r_vreturn E (dat dkX2_empty 19 rfl) (by decide) (by decide) ?_
  exact ⟨rfl, by rw [pm1_0]⟩

set_option maxRecDepth 100000 in
set_option maxHeartbeats 4000000 in
theorem sp_X2_endRow (l : Launch) (G : GT) (B1 : Nat → Nat → Int32) (z : Nat) (bc fr : Int32) (he gu be nm nl bh fp n0 n1 n2 n3 : Nat → Int32) (co : Int32) (u h : Nat) (M : Mem) (hA0 : M 0 = (vP B1 (nI u) co (nI z) bc fr he gu be nm nl bh fp n0 n1 n2 n3))  : MC l G yX2_endRow cX2_endRow 2 none ({ frames := 0, cells := 0, slots := 0, locals := 0 } : Room) [2] lk0 [rv 0 0, iv (nI h)] (M) (fun r M2 => r = none ∧ M2 = setm M 0 (vP B1 (nI (u + 1)) (nI h) (nI ((u + 1) * h)) bc fr he gu be nm nl bh fp n0 n1 n2 n3)) := by
  obtain ⟨M0, rfl⟩ : ∃ M0, M = m1 ((vP B1 (nI u) co (nI z) bc fr he gu be nm nl bh fp n0 n1 n2 n3)) M0 := ⟨M, (m1_of hA0).symm⟩
  clear hA0
  refine MC.of RX2 [some (rv 0 0), some (iv (nI h))] 0 (by decide +kernel) rfl rfl rfl ?_
  intro pp ee ss mm aa bb me cd ad E
  refine r_aload_n E (dat dkX2_endRow 0 rfl) rfl rfl ?_
  refine r_dup E (dat dkX2_endRow 1 rfl) rfl ?_
  refine q_getn E fl_X2_35 (dat dkX2_endRow 2 rfl) rfl rfl rfl (go1_0 gfP_7) ?_
  refine r_iconst (v := 1) E (dat dkX2_endRow 3 rfl) rfl ?_
  refine r_iadd E (dat dkX2_endRow 4 rfl) ?_
  rw [show nI u + 1 = nI (u + 1) from nI_1 u]
  refine q_putn E ft_X2_35 (dat dkX2_endRow 5 rfl) rfl rfl rfl (sf1_0 pfP_7) ?_
  refine r_aload_n E (dat dkX2_endRow 6 rfl) rfl rfl ?_
  refine r_iload_n E (dat dkX2_endRow 7 rfl) rfl rfl ?_
  refine q_putn E ft_X2_39 (dat dkX2_endRow 8 rfl) rfl rfl rfl (sf1_0 pfP_8) ?_
  refine r_aload_n E (dat dkX2_endRow 9 rfl) rfl rfl ?_
  refine r_aload_n E (dat dkX2_endRow 10 rfl) rfl rfl ?_
  refine q_getn E fl_X2_35 (dat dkX2_endRow 11 rfl) rfl rfl rfl (go1_0 gfP_7) ?_
  refine r_aload_n E (dat dkX2_endRow 12 rfl) rfl rfl ?_
  refine q_getn E fl_X2_39 (dat dkX2_endRow 13 rfl) rfl rfl rfl (go1_0 gfP_8) ?_
  refine r_imul E (dat dkX2_endRow 14 rfl) ?_
  rw [pk_mul]
  refine q_putn E ft_X2_42 (dat dkX2_endRow 15 rfl) rfl rfl rfl (sf1_0 pfP_9) ?_
  refine r_vreturn E (dat dkX2_endRow 16 rfl) (by decide) (by decide) ?_
  exact ⟨rfl, by rw [pm1_0]⟩

set_option maxRecDepth 100000 in
set_option maxHeartbeats 4000000 in
theorem sp_X2_readRain (l : Launch) (G : GT) (B1 : Nat → Nat → Int32) (ro co : Int32) (z : Nat) (bc fr : Int32) (he gu be nm nl bh fp n0 n1 n2 n3 : Nat → Int32) (B0 : Nat → Nat → Int32) (n : Nat) (ki st va ec eo : Int32) (bs : Nat → Int32) (p : Nat) (M : Mem) (hA0 : M 0 = (vP B1 ro co (nI z) bc fr he gu be nm nl bh fp n0 n1 n2 n3)) (hA1 : M 1 = (vT B0 (nI n) (nI (p)) (ki) (st) (va) (ec) (eo) bs)) (hp : p ≤ n) (hn : n ≤ 600) : MC l G yX2_readRain cX2_readRain 2 (some .boolean) ({ frames := 4, cells := 0, slots := 0, locals := 82 } : Room) [2, 3] lk0 [rv 0 0, rv 1 0] (M) (fun r M2 => r = some (iv (rRn bs n ((p, ki, st, va, ec, eo) : TT) fr).1.1) ∧ M2 = setm (setm M 0 (vP B1 ro co (nI z) bc ((rRn bs n ((p, ki, st, va, ec, eo) : TT) fr).2) he gu be nm nl bh fp n0 n1 n2 n3)) 1 (vT B0 (nI n) (nI ((rRn bs n ((p, ki, st, va, ec, eo) : TT) fr).1.2).1) ((rRn bs n ((p, ki, st, va, ec, eo) : TT) fr).1.2).2.1 ((rRn bs n ((p, ki, st, va, ec, eo) : TT) fr).1.2).2.2.1 ((rRn bs n ((p, ki, st, va, ec, eo) : TT) fr).1.2).2.2.2.1 ((rRn bs n ((p, ki, st, va, ec, eo) : TT) fr).1.2).2.2.2.2.1 ((rRn bs n ((p, ki, st, va, ec, eo) : TT) fr).1.2).2.2.2.2.2 bs)) := by
  obtain ⟨M0, rfl⟩ : ∃ M0, M = m2 ((vP B1 ro co (nI z) bc fr he gu be nm nl bh fp n0 n1 n2 n3)) ((vT B0 (nI n) (nI (p)) (ki) (st) (va) (ec) (eo) bs)) M0 := ⟨M, (m2_of hA0 hA1).symm⟩
  clear hA0 hA1
  refine MC.of RX2 [some (rv 0 0), some (rv 1 0)] 0 (by decide +kernel) rfl rfl rfl ?_
  intro pp ee ss mm aa bb me cd ad E
  refine r_aload_n E (dat dkX2_readRain 0 rfl) rfl rfl ?_
  refine r_iconst (v := 0) E (dat dkX2_readRain 1 rfl) rfl ?_
  refine r_bipush (v := 9) E (dat dkX2_readRain 2 rfl) rfl ?_
  refine r_callV (κ := 3) (μ := [1]) E (sp_X6_takeNumber l G B0 n (ki) (st) (va) (ec) (eo) bs (p) (0) (9) _ rfl hp hn) my_X6_takeNumber iv_X6_takeNumber ml_X2_120 (cm_of rfl) ⟨by decide, rfl, rfl⟩ rfl rfl rfl rfl (by decide) (Nat.le_of_ble_eq_true rfl) (dat dkX2_readRain 3 rfl) ?_
  rintro _ _ ⟨rfl, rfl⟩
  refine ⟨_, Mrg_e (by decide) (by decide) pm2_1 rfl, ?_⟩
  refine r_if_ne (tgt := 12) E (dat dkX2_readRain 4 rfl) rfl (fun h7 => ?_) (fun h7 => ?_)
  ·
    refine r_aload_n E (dat dkX2_readRain 7 rfl) rfl rfl ?_
    refine r_aload_n E (dat dkX2_readRain 8 rfl) rfl rfl ?_
    refine q_getn E fl_X2_113 (dat dkX2_readRain 9 rfl) rfl rfl rfl (go2_1 gfT_5) ?_
    refine q_putn E ft_X2_48 (dat dkX2_readRain 10 rfl) rfl rfl rfl (sf2_0 pfP_11) ?_
    refine r_aload_n E (dat dkX2_readRain 11 rfl) rfl rfl ?_
    refine r_callV (κ := 3) (μ := [1]) E (sp_X6_takeSemicolon l G B0 n (tK bs n (p)) (nI (tS bs n (p))) (tV bs n (p) (va)) (feI (tnC bs n (p) (va) (0) (9)) (ec) (tnC bs n (p) (va) (0) (9))) (feI (tnC bs n (p) (va) (0) (9)) (eo) (nI (tS bs n (p)))) bs (tP bs n (p)) _ rfl (tP_le (b := bs) hp).2 hn) my_X6_takeSemicolon iv_X6_takeSemicolon ml_X2_116 (cm_of rfl) ⟨by decide, rfl, rfl⟩ rfl rfl rfl rfl (by decide) (Nat.le_of_ble_eq_true rfl) (dat dkX2_readRain 12 rfl) ?_
    rintro _ _ ⟨rfl, rfl⟩
    refine ⟨_, Mrg_e (by decide) (by decide) pm2_1 rfl, ?_⟩
    refine r_zreturn E (dat dkX2_readRain 13 rfl) fe_b (by decide) (by decide) ?_
    rw [pm2_0, pm2_1]
    unfold rRn
    rw [if_pos (fe_n h7), fe_n h7]
    exact ⟨rfl, rfl⟩
  ·
    refine r_iconst (v := 0) E (dat dkX2_readRain 5 rfl) rfl ?_
    refine r_zreturn E (dat dkX2_readRain 6 rfl) rfl (by decide) (by decide) ?_
    rw [pm2_0, pm2_1]
    unfold rRn
    rw [if_neg (fe_z h7)]
    exact ⟨rfl, rfl⟩

set_option maxRecDepth 100000 in
set_option maxHeartbeats 4000000 in
theorem sp_X2_readGutter (l : Launch) (G : GT) (B1 : Nat → Nat → Int32) (ro co : Int32) (z : Nat) (bc fr : Int32) (he gu be nm nl bh fp n0 n1 n2 n3 : Nat → Int32) (B0 : Nat → Nat → Int32) (n : Nat) (ki st va ec eo : Int32) (bs : Nat → Int32) (p : Nat) (M : Mem) (hA0 : M 0 = (vP B1 ro co (nI z) bc fr he gu be nm nl bh fp n0 n1 n2 n3)) (hA1 : M 1 = (vT B0 (nI n) (nI (p)) (ki) (st) (va) (ec) (eo) bs)) (hp : p ≤ n) (hn : n ≤ 600) (hz : z ≤ 64) : MC l G yX2_readGutter cX2_readGutter 3 (some .boolean) ({ frames := 4, cells := 0, slots := 0, locals := 82 } : Room) [2, 3] lk0 [rv 0 0, rv 1 0] (M) (fun r M2 => r = some (iv (rGt bs n ((p, ki, st, va, ec, eo) : TT) z gu).1.1) ∧ M2 = setm (setm M 0 (vP B1 ro co (nI z) bc fr he ((rGt bs n ((p, ki, st, va, ec, eo) : TT) z gu).2) be nm nl bh fp n0 n1 n2 n3)) 1 (vT B0 (nI n) (nI ((rGt bs n ((p, ki, st, va, ec, eo) : TT) z gu).1.2).1) ((rGt bs n ((p, ki, st, va, ec, eo) : TT) z gu).1.2).2.1 ((rGt bs n ((p, ki, st, va, ec, eo) : TT) z gu).1.2).2.2.1 ((rGt bs n ((p, ki, st, va, ec, eo) : TT) z gu).1.2).2.2.2.1 ((rGt bs n ((p, ki, st, va, ec, eo) : TT) z gu).1.2).2.2.2.2.1 ((rGt bs n ((p, ki, st, va, ec, eo) : TT) z gu).1.2).2.2.2.2.2 bs)) := by
  obtain ⟨M0, rfl⟩ : ∃ M0, M = m2 ((vP B1 ro co (nI z) bc fr he gu be nm nl bh fp n0 n1 n2 n3)) ((vT B0 (nI n) (nI (p)) (ki) (st) (va) (ec) (eo) bs)) M0 := ⟨M, (m2_of hA0 hA1).symm⟩
  clear hA0 hA1
  refine MC.of RX2 [some (rv 0 0), some (rv 1 0), none] 1 (by decide +kernel) rfl rfl rfl ?_
  intro pp ee ss mm aa bb me cd ad E
  refine r_aload_n E (dat dkX2_readGutter 0 rfl) rfl rfl ?_
  refine r_iconst (v := 0) E (dat dkX2_readGutter 1 rfl) rfl ?_
  refine r_aload_n E (dat dkX2_readGutter 2 rfl) rfl rfl ?_
  refine q_getn E fl_X2_42 (dat dkX2_readGutter 3 rfl) rfl rfl rfl (go2_0 gfP_9) ?_
  refine r_iconst (v := 1) E (dat dkX2_readGutter 4 rfl) rfl ?_
  refine r_isub E (dat dkX2_readGutter 5 rfl) ?_
  refine r_callV (κ := 3) (μ := [1]) E (sp_X6_takeNumber l G B0 n (ki) (st) (va) (ec) (eo) bs (p) (0) (nI z - 1) _ rfl hp hn) my_X6_takeNumber iv_X6_takeNumber ml_X2_120 (cm_of rfl) ⟨by decide, rfl, rfl⟩ rfl rfl rfl rfl (by decide) (Nat.le_of_ble_eq_true rfl) (dat dkX2_readGutter 6 rfl) ?_
  rintro _ _ ⟨rfl, rfl⟩
  refine ⟨_, Mrg_e (by decide) (by decide) pm2_1 rfl, ?_⟩
  refine r_if_ne (tgt := 16) E (dat dkX2_readGutter 7 rfl) rfl (fun h11 => ?_) (fun h11 => ?_)
  ·
    have hC := fe_n h11
    obtain ⟨q, hqz, hq⟩ := nI_ex (by omega) (tnC_in hC).1 (tnC_in hC).2
    refine r_aload_n E (dat dkX2_readGutter 10 rfl) rfl rfl ?_
    refine q_getn E fl_X2_113 (dat dkX2_readGutter 11 rfl) rfl rfl rfl (go2_1 gfT_5) ?_
    refine r_istore_2 E (dat dkX2_readGutter 12 rfl) rfl rfl ?_
    refine r_aload_n E (dat dkX2_readGutter 13 rfl) rfl rfl ?_
    refine r_iconst (v := 1) E (dat dkX2_readGutter 14 rfl) rfl ?_
    refine r_bipush (v := 9) E (dat dkX2_readGutter 15 rfl) rfl ?_
    refine r_callV (κ := 3) (μ := [1]) E (sp_X6_takeNumber l G B0 n (tK bs n (p)) (nI (tS bs n (p))) (tV bs n (p) (va)) (feI (tnC bs n (p) (va) (0) (nI z - 1)) (ec) (tnC bs n (p) (va) (0) (nI z - 1))) (feI (tnC bs n (p) (va) (0) (nI z - 1)) (eo) (nI (tS bs n (p)))) bs (tP bs n (p)) (1) (9) _ rfl (tP_le (b := bs) hp).2 hn) my_X6_takeNumber iv_X6_takeNumber ml_X2_120 (cm_of rfl) ⟨by decide, rfl, rfl⟩ rfl rfl rfl rfl (by decide) (Nat.le_of_ble_eq_true rfl) (dat dkX2_readGutter 16 rfl) ?_
    rintro _ _ ⟨rfl, rfl⟩
    refine ⟨_, Mrg_e (by decide) (by decide) pm2_1 rfl, ?_⟩
    refine r_if_ne (tgt := 33) E (dat dkX2_readGutter 17 rfl) rfl (fun h28 => ?_) (fun h28 => ?_)
    ·
      refine r_aload_n E (dat dkX2_readGutter 20 rfl) rfl rfl ?_
      refine q_geta E fl_X2_15 (dat dkX2_readGutter 21 rfl) rfl rfl rfl ?_
      refine r_iload_n E (dat dkX2_readGutter 22 rfl) rfl rfl ?_
      refine r_aload_n E (dat dkX2_readGutter 23 rfl) rfl rfl ?_
      refine q_getn E fl_X2_113 (dat dkX2_readGutter 24 rfl) rfl rfl rfl (go2_1 gfT_5) ?_
      refine q_iast E (dat dkX2_readGutter 25 rfl) rfl rfl (by decide) (gg2_0 gaP_2) (fun _ => sa2_0 paP_2) hq (show q < 64 by omega) ?_
      refine r_aload_n E (dat dkX2_readGutter 26 rfl) rfl rfl ?_
      refine r_callV (κ := 3) (μ := [1]) E (sp_X6_takeSemicolon l G B0 n (tK bs n (tP bs n (p))) (nI (tS bs n (tP bs n (p)))) (tV bs n (tP bs n (p)) (tV bs n (p) (va))) (feI (tnC bs n (tP bs n (p)) (tV bs n (p) (va)) (1) (9)) (feI (tnC bs n (p) (va) (0) (nI z - 1)) (ec) (tnC bs n (p) (va) (0) (nI z - 1))) (tnC bs n (tP bs n (p)) (tV bs n (p) (va)) (1) (9))) (feI (tnC bs n (tP bs n (p)) (tV bs n (p) (va)) (1) (9)) (feI (tnC bs n (p) (va) (0) (nI z - 1)) (eo) (nI (tS bs n (p)))) (nI (tS bs n (tP bs n (p))))) bs (tP bs n (tP bs n (p))) _ rfl (tP_le (b := bs) (tP_le (b := bs) hp).2).2 hn) my_X6_takeSemicolon iv_X6_takeSemicolon ml_X2_116 (cm_of rfl) ⟨by decide, rfl, rfl⟩ rfl rfl rfl rfl (by decide) (Nat.le_of_ble_eq_true rfl) (dat dkX2_readGutter 27 rfl) ?_
      rintro _ _ ⟨rfl, rfl⟩
      refine ⟨_, Mrg_e (by decide) (by decide) pm2_1 rfl, ?_⟩
      refine r_zreturn E (dat dkX2_readGutter 28 rfl) fe_b (by decide) (by decide) ?_
      rw [pm2_0, pm2_1]
      have hD := fe_n h28
      rw [rGt_2 hC hq (by omega) hD, hC, hD]
      exact ⟨rfl, rfl⟩
    ·
      refine r_iconst (v := 0) E (dat dkX2_readGutter 18 rfl) rfl ?_
      refine r_zreturn E (dat dkX2_readGutter 19 rfl) rfl (by decide) (by decide) ?_
      rw [pm2_0, pm2_1]
      rw [rGt_1 hC (fe_z h28), hC]
      exact ⟨rfl, rfl⟩
  ·
    refine r_iconst (v := 0) E (dat dkX2_readGutter 8 rfl) rfl ?_
    refine r_zreturn E (dat dkX2_readGutter 9 rfl) rfl (by decide) (by decide) ?_
    rw [pm2_0, pm2_1]
    rw [rGt_0 (fe_z h11)]
    exact ⟨rfl, rfl⟩

set_option maxRecDepth 100000 in
set_option maxHeartbeats 16000000 in
theorem sp_X2_findBeside (l : Launch) (G : GT) (B1 : Nat → Nat → Int32) (u v : Nat) (ce : Int32) (bc fr : Int32) (he gu be nm nl bh fp n0 n1 n2 n3 : Nat → Int32) (M : Mem) (hA0 : M 0 = (vP B1 (nI u) (nI v) ce bc fr he gu (be) nm nl bh fp n0 n1 n2 n3)) (huv : u * v ≤ 64) (hu : u ≤ 8) (hv : v ≤ 8) : MC l G yX2_findBeside cX2_findBeside 5 none ({ frames := 0, cells := 0, slots := 0, locals := 0 } : Room) [2] lk0 [rv 0 0] (M) (fun r M2 => r = none ∧ M2 = setm M 0 (vP B1 (nI u) (nI v) ce bc fr he gu (fil (gB u v) be (u * v * 4)) nm nl bh fp n0 n1 n2 n3)) := by
  obtain ⟨M0, rfl⟩ : ∃ M0, M = m1 ((vP B1 (nI u) (nI v) ce bc fr he gu (be) nm nl bh fp n0 n1 n2 n3)) M0 := ⟨M, (m1_of hA0).symm⟩
  clear hA0
  refine MC.of RX2 [some (rv 0 0), none, none, none, none] 4 (by decide +kernel) rfl rfl rfl ?_
  intro pp ee ss mm aa bb me cd ad E
  refine r_iconst (v := 0) E (dat dkX2_findBeside 0 rfl) rfl ?_
  refine r_istore_1 E (dat dkX2_findBeside 1 rfl) rfl rfl ?_
  refine r_for (u) (fun _ => True) (fun i => m1 (vP B1 (nI u) (nI v) ce bc fr he gu (fil (gB u v) be (i * v * 4)) nm nl bh fp n0 n1 n2 n3) M0) (fun i => [some (rv 0 0), some (iv (nI i)), none, none, none]) trivial (by rw [Nat.zero_mul, Nat.zero_mul, fil_0]) rfl ?_ ?_
  · intro i hi hI kk
    refine r_iload_n E (dat dkX2_findBeside 2 rfl) rfl rfl ?_
    refine r_aload_n E (dat dkX2_findBeside 3 rfl) rfl rfl ?_
    refine q_getn E fl_X2_35 (dat dkX2_findBeside 4 rfl) rfl rfl rfl (go1_0 gfP_7) ?_
    refine q_icmp_ge (tgt := 144) E (dat dkX2_findBeside 5 rfl) rfl rfl rfl (by omega) (by omega) (fun h7 => ?_) (fun h7 => ?_)
    ·
      omega
    ·
      refine r_iconst (v := 0) E (dat dkX2_findBeside 6 rfl) rfl ?_
      refine r_istore_2 E (dat dkX2_findBeside 7 rfl) rfl rfl ?_
      refine r_for (v) (fun _ => True) (fun j => m1 (vP B1 (nI u) (nI v) ce bc fr he gu (fil (gB u v) be ((i * v + j) * 4)) nm nl bh fp n0 n1 n2 n3) M0) (fun j => [some (rv 0 0), some (iv (nI i)), some (iv (nI j)), none, none]) trivial rfl rfl ?_ ?_
      · intro j hj hJ kk2
        refine r_iload_n E (dat dkX2_findBeside 8 rfl) rfl rfl ?_
        refine r_aload_n E (dat dkX2_findBeside 9 rfl) rfl rfl ?_
        refine q_getn E fl_X2_39 (dat dkX2_findBeside 10 rfl) rfl rfl rfl (go1_0 gfP_8) ?_
        refine q_icmp_ge (tgt := 138) E (dat dkX2_findBeside 11 rfl) rfl rfl rfl (by omega) (by omega) (fun h17 => ?_) (fun h17 => ?_)
        ·
          omega
        ·
          refine r_iload_n E (dat dkX2_findBeside 12 rfl) rfl rfl ?_
          refine r_aload_n E (dat dkX2_findBeside 13 rfl) rfl rfl ?_
          refine q_getn E fl_X2_39 (dat dkX2_findBeside 14 rfl) rfl rfl rfl (go1_0 gfP_8) ?_
          refine r_imul E (dat dkX2_findBeside 15 rfl) ?_
          refine r_iload_n E (dat dkX2_findBeside 16 rfl) rfl rfl ?_
          refine r_iadd E (dat dkX2_findBeside 17 rfl) ?_
          obtain ⟨K, hK⟩ : ∃ K, K = i * v + j := ⟨_, rfl⟩
          have hKu : K < u * v := by
            have h1 : (i + 1) * v ≤ u * v := Nat.mul_le_mul_right v hi
            rw [Nat.succ_mul] at h1
            omega
          rw [pk_mul, nI_add, ← hK]
          refine r_istore_3 E (dat dkX2_findBeside 18 rfl) rfl rfl ?_
          refine r_iload_n E (dat dkX2_findBeside 19 rfl) rfl rfl ?_
          refine r_iconst (v := 4) E (dat dkX2_findBeside 20 rfl) rfl ?_
          refine r_imul E (dat dkX2_findBeside 21 rfl) ?_
          rw [pk_m4]
          refine r_istore_4 E (dat dkX2_findBeside 22 rfl) rfl rfl ?_
          refine r_aload_n E (dat dkX2_findBeside 23 rfl) rfl rfl ?_
          refine q_geta E fl_X2_18 (dat dkX2_findBeside 24 rfl) rfl rfl rfl ?_
          refine r_iload E (dat dkX2_findBeside 25 rfl) rfl ?_
          refine r_iconst (v := 0) E (dat dkX2_findBeside 26 rfl) rfl ?_
          refine r_iadd E (dat dkX2_findBeside 27 rfl) ?_
          refine r_iload_n E (dat dkX2_findBeside 28 rfl) rfl rfl ?_
          refine r_if_le (tgt := 55) E (dat dkX2_findBeside 29 rfl) rfl (fun h43 => ?_) (fun h43 => ?_)
          ·
            refine r_iconst (v := -1) E (dat dkX2_findBeside 35 rfl) rfl ?_
            refine q_iast E (dat dkX2_findBeside 36 rfl) rfl rfl (by decide) (gg1_0 gaP_3) (fun _ => sa1_0 paP_3) (Int32.add_zero _) (by omega) ?_
            refine r_aload_n E (dat dkX2_findBeside 37 rfl) rfl rfl ?_
            refine q_geta E fl_X2_18 (dat dkX2_findBeside 38 rfl) rfl rfl rfl ?_
            refine r_iload E (dat dkX2_findBeside 39 rfl) rfl ?_
            refine r_iconst (v := 1) E (dat dkX2_findBeside 40 rfl) rfl ?_
            refine r_iadd E (dat dkX2_findBeside 41 rfl) ?_
            refine r_iload_n E (dat dkX2_findBeside 42 rfl) rfl rfl ?_
            refine r_aload_n E (dat dkX2_findBeside 43 rfl) rfl rfl ?_
            refine q_getn E fl_X2_39 (dat dkX2_findBeside 44 rfl) rfl rfl rfl (go1_0 gfP_8) ?_
            refine r_iconst (v := 1) E (dat dkX2_findBeside 45 rfl) rfl ?_
            refine r_isub E (dat dkX2_findBeside 46 rfl) ?_
            refine q_icmp_ge (tgt := 81) E (dat dkX2_findBeside 47 rfl) rfl rfl (nI_sb (a := v) (b := 1) (by omega)) (by omega) (by omega) (fun h72 => ?_) (fun h72 => ?_)
            ·
              refine r_iconst (v := -1) E (dat dkX2_findBeside 52 rfl) rfl ?_
              refine q_iast E (dat dkX2_findBeside 53 rfl) rfl rfl (by decide) (gg1_0 gaP_3) (fun _ => sa1_0 paP_3) (nI_1 _) (by omega) ?_
              refine r_aload_n E (dat dkX2_findBeside 54 rfl) rfl rfl ?_
              refine q_geta E fl_X2_18 (dat dkX2_findBeside 55 rfl) rfl rfl rfl ?_
              refine r_iload E (dat dkX2_findBeside 56 rfl) rfl ?_
              refine r_iconst (v := 2) E (dat dkX2_findBeside 57 rfl) rfl ?_
              refine r_iadd E (dat dkX2_findBeside 58 rfl) ?_
              refine r_iload_n E (dat dkX2_findBeside 59 rfl) rfl rfl ?_
              refine r_aload_n E (dat dkX2_findBeside 60 rfl) rfl rfl ?_
              refine q_getn E fl_X2_35 (dat dkX2_findBeside 61 rfl) rfl rfl rfl (go1_0 gfP_7) ?_
              refine r_iconst (v := 1) E (dat dkX2_findBeside 62 rfl) rfl ?_
              refine r_isub E (dat dkX2_findBeside 63 rfl) ?_
              refine q_icmp_ge (tgt := 110) E (dat dkX2_findBeside 64 rfl) rfl rfl (nI_sb (a := u) (b := 1) (by omega)) (by omega) (by omega) (fun h98 => ?_) (fun h98 => ?_)
              ·
                refine r_iconst (v := -1) E (dat dkX2_findBeside 70 rfl) rfl ?_
                refine q_iast E (dat dkX2_findBeside 71 rfl) rfl rfl (by decide) (gg1_0 gaP_3) (fun _ => sa1_0 paP_3) (nI_add _ 2) (by omega) ?_
                refine r_aload_n E (dat dkX2_findBeside 72 rfl) rfl rfl ?_
                refine q_geta E fl_X2_18 (dat dkX2_findBeside 73 rfl) rfl rfl rfl ?_
                refine r_iload E (dat dkX2_findBeside 74 rfl) rfl ?_
                refine r_iconst (v := 3) E (dat dkX2_findBeside 75 rfl) rfl ?_
                refine r_iadd E (dat dkX2_findBeside 76 rfl) ?_
                refine r_iload_n E (dat dkX2_findBeside 77 rfl) rfl rfl ?_
                refine r_if_le (tgt := 130) E (dat dkX2_findBeside 78 rfl) rfl (fun h121 => ?_) (fun h121 => ?_)
                ·
                  refine r_iconst (v := -1) E (dat dkX2_findBeside 83 rfl) rfl ?_
                  refine q_iast E (dat dkX2_findBeside 84 rfl) rfl rfl (by decide) (gg1_0 gaP_3) (fun _ => sa1_0 paP_3) (nI_add _ 3) (by omega) ?_
                  refine q_iinc_2 E (dat dkX2_findBeside 85 rfl) rfl rfl ?_
                  refine r_goto (tgt := 12) E (dat dkX2_findBeside 86 rfl) rfl ?_
                  refine r_back ?_ ?_ (kk2 trivial)
                  rotate_left
                  · exact And.intro rfl (And.intro rfl (And.intro rfl trivial))
                  have hiv : 0 < i → v ≤ i * v := fun q => by
                    have := Nat.mul_le_mul_right v (show 1 ≤ i from q)
                    omega
                  show m1 (vP _ _ _ _ _ _ _ _ (fil (gB u v) be ((i * v + (j + 1)) * 4)) _ _ _ _ _ _ _ _) _ = _
                  refine congrArg (fun f => m1 (vP B1 (nI u) (nI v) ce bc fr he gu f nm nl bh fp n0 n1 n2 n3) M0) (gB4 hK hi hj ?_ ?_ ?_ ?_)
                  · show _ = oI (if 0 < i then some (K - v) else none)
                    first
                      | exact (gy (fun q => nI_nle q (by omega) h43)).symm
                      | exact (nI_sb (by have := hiv (pz (Int32.not_le.mpr h43)); omega)).trans (gx (pz (Int32.not_le.mpr h43))).symm
                      | exact (nI_sb (by have := hiv (pz h43); omega)).trans (gx (pz h43)).symm
                  · show _ = oI (if j + 1 < v then some (K + 1) else none)
                    first
                      | exact (gy (by omega)).symm
                      | exact (nI_1 _).trans (gx (by omega)).symm
                  · show _ = oI (if i + 1 < u then some (K + v) else none)
                    first
                      | exact (gy (by omega)).symm
                      | exact (nI_add _ _).trans (gx (by omega)).symm
                  · show _ = oI (if 0 < j then some (K - 1) else none)
                    first
                      | exact (gy (fun q => nI_nle q (by omega) h121)).symm
                      | exact (nI_sb (b := 1) (by have := pz (Int32.not_le.mpr h121); omega)).trans (gx (pz (Int32.not_le.mpr h121))).symm
                      | exact (nI_sb (b := 1) (by have := pz h121; omega)).trans (gx (pz h121)).symm
                ·
                  refine r_iload_n E (dat dkX2_findBeside 79 rfl) rfl rfl ?_
                  refine r_iconst (v := 1) E (dat dkX2_findBeside 80 rfl) rfl ?_
                  refine r_isub E (dat dkX2_findBeside 81 rfl) ?_
                  refine r_goto (tgt := 131) E (dat dkX2_findBeside 82 rfl) rfl ?_
                  refine q_iast E (dat dkX2_findBeside 84 rfl) rfl rfl (by decide) (gg1_0 gaP_3) (fun _ => sa1_0 paP_3) (nI_add _ 3) (by omega) ?_
                  refine q_iinc_2 E (dat dkX2_findBeside 85 rfl) rfl rfl ?_
                  refine r_goto (tgt := 12) E (dat dkX2_findBeside 86 rfl) rfl ?_
                  refine r_back ?_ ?_ (kk2 trivial)
                  rotate_left
                  · exact And.intro rfl (And.intro rfl (And.intro rfl trivial))
                  have hiv : 0 < i → v ≤ i * v := fun q => by
                    have := Nat.mul_le_mul_right v (show 1 ≤ i from q)
                    omega
                  show m1 (vP _ _ _ _ _ _ _ _ (fil (gB u v) be ((i * v + (j + 1)) * 4)) _ _ _ _ _ _ _ _) _ = _
                  refine congrArg (fun f => m1 (vP B1 (nI u) (nI v) ce bc fr he gu f nm nl bh fp n0 n1 n2 n3) M0) (gB4 hK hi hj ?_ ?_ ?_ ?_)
                  · show _ = oI (if 0 < i then some (K - v) else none)
                    first
                      | exact (gy (fun q => nI_nle q (by omega) h43)).symm
                      | exact (nI_sb (by have := hiv (pz (Int32.not_le.mpr h43)); omega)).trans (gx (pz (Int32.not_le.mpr h43))).symm
                      | exact (nI_sb (by have := hiv (pz h43); omega)).trans (gx (pz h43)).symm
                  · show _ = oI (if j + 1 < v then some (K + 1) else none)
                    first
                      | exact (gy (by omega)).symm
                      | exact (nI_1 _).trans (gx (by omega)).symm
                  · show _ = oI (if i + 1 < u then some (K + v) else none)
                    first
                      | exact (gy (by omega)).symm
                      | exact (nI_add _ _).trans (gx (by omega)).symm
                  · show _ = oI (if 0 < j then some (K - 1) else none)
                    first
                      | exact (gy (fun q => nI_nle q (by omega) h121)).symm
                      | exact (nI_sb (b := 1) (by have := pz (Int32.not_le.mpr h121); omega)).trans (gx (pz (Int32.not_le.mpr h121))).symm
                      | exact (nI_sb (b := 1) (by have := pz h121; omega)).trans (gx (pz h121)).symm
              ·
                refine r_iload_n E (dat dkX2_findBeside 65 rfl) rfl rfl ?_
                refine r_aload_n E (dat dkX2_findBeside 66 rfl) rfl rfl ?_
                refine q_getn E fl_X2_39 (dat dkX2_findBeside 67 rfl) rfl rfl rfl (go1_0 gfP_8) ?_
                refine r_iadd E (dat dkX2_findBeside 68 rfl) ?_
                refine r_goto (tgt := 111) E (dat dkX2_findBeside 69 rfl) rfl ?_
                refine q_iast E (dat dkX2_findBeside 71 rfl) rfl rfl (by decide) (gg1_0 gaP_3) (fun _ => sa1_0 paP_3) (nI_add _ 2) (by omega) ?_
                refine r_aload_n E (dat dkX2_findBeside 72 rfl) rfl rfl ?_
                refine q_geta E fl_X2_18 (dat dkX2_findBeside 73 rfl) rfl rfl rfl ?_
                refine r_iload E (dat dkX2_findBeside 74 rfl) rfl ?_
                refine r_iconst (v := 3) E (dat dkX2_findBeside 75 rfl) rfl ?_
                refine r_iadd E (dat dkX2_findBeside 76 rfl) ?_
                refine r_iload_n E (dat dkX2_findBeside 77 rfl) rfl rfl ?_
                refine r_if_le (tgt := 130) E (dat dkX2_findBeside 78 rfl) rfl (fun h121 => ?_) (fun h121 => ?_)
                ·
                  refine r_iconst (v := -1) E (dat dkX2_findBeside 83 rfl) rfl ?_
                  refine q_iast E (dat dkX2_findBeside 84 rfl) rfl rfl (by decide) (gg1_0 gaP_3) (fun _ => sa1_0 paP_3) (nI_add _ 3) (by omega) ?_
                  refine q_iinc_2 E (dat dkX2_findBeside 85 rfl) rfl rfl ?_
                  refine r_goto (tgt := 12) E (dat dkX2_findBeside 86 rfl) rfl ?_
                  refine r_back ?_ ?_ (kk2 trivial)
                  rotate_left
                  · exact And.intro rfl (And.intro rfl (And.intro rfl trivial))
                  have hiv : 0 < i → v ≤ i * v := fun q => by
                    have := Nat.mul_le_mul_right v (show 1 ≤ i from q)
                    omega
                  show m1 (vP _ _ _ _ _ _ _ _ (fil (gB u v) be ((i * v + (j + 1)) * 4)) _ _ _ _ _ _ _ _) _ = _
                  refine congrArg (fun f => m1 (vP B1 (nI u) (nI v) ce bc fr he gu f nm nl bh fp n0 n1 n2 n3) M0) (gB4 hK hi hj ?_ ?_ ?_ ?_)
                  · show _ = oI (if 0 < i then some (K - v) else none)
                    first
                      | exact (gy (fun q => nI_nle q (by omega) h43)).symm
                      | exact (nI_sb (by have := hiv (pz (Int32.not_le.mpr h43)); omega)).trans (gx (pz (Int32.not_le.mpr h43))).symm
                      | exact (nI_sb (by have := hiv (pz h43); omega)).trans (gx (pz h43)).symm
                  · show _ = oI (if j + 1 < v then some (K + 1) else none)
                    first
                      | exact (gy (by omega)).symm
                      | exact (nI_1 _).trans (gx (by omega)).symm
                  · show _ = oI (if i + 1 < u then some (K + v) else none)
                    first
                      | exact (gy (by omega)).symm
                      | exact (nI_add _ _).trans (gx (by omega)).symm
                  · show _ = oI (if 0 < j then some (K - 1) else none)
                    first
                      | exact (gy (fun q => nI_nle q (by omega) h121)).symm
                      | exact (nI_sb (b := 1) (by have := pz (Int32.not_le.mpr h121); omega)).trans (gx (pz (Int32.not_le.mpr h121))).symm
                      | exact (nI_sb (b := 1) (by have := pz h121; omega)).trans (gx (pz h121)).symm
                ·
                  refine r_iload_n E (dat dkX2_findBeside 79 rfl) rfl rfl ?_
                  refine r_iconst (v := 1) E (dat dkX2_findBeside 80 rfl) rfl ?_
                  refine r_isub E (dat dkX2_findBeside 81 rfl) ?_
                  refine r_goto (tgt := 131) E (dat dkX2_findBeside 82 rfl) rfl ?_
                  refine q_iast E (dat dkX2_findBeside 84 rfl) rfl rfl (by decide) (gg1_0 gaP_3) (fun _ => sa1_0 paP_3) (nI_add _ 3) (by omega) ?_
                  refine q_iinc_2 E (dat dkX2_findBeside 85 rfl) rfl rfl ?_
                  refine r_goto (tgt := 12) E (dat dkX2_findBeside 86 rfl) rfl ?_
                  refine r_back ?_ ?_ (kk2 trivial)
                  rotate_left
                  · exact And.intro rfl (And.intro rfl (And.intro rfl trivial))
                  have hiv : 0 < i → v ≤ i * v := fun q => by
                    have := Nat.mul_le_mul_right v (show 1 ≤ i from q)
                    omega
                  show m1 (vP _ _ _ _ _ _ _ _ (fil (gB u v) be ((i * v + (j + 1)) * 4)) _ _ _ _ _ _ _ _) _ = _
                  refine congrArg (fun f => m1 (vP B1 (nI u) (nI v) ce bc fr he gu f nm nl bh fp n0 n1 n2 n3) M0) (gB4 hK hi hj ?_ ?_ ?_ ?_)
                  · show _ = oI (if 0 < i then some (K - v) else none)
                    first
                      | exact (gy (fun q => nI_nle q (by omega) h43)).symm
                      | exact (nI_sb (by have := hiv (pz (Int32.not_le.mpr h43)); omega)).trans (gx (pz (Int32.not_le.mpr h43))).symm
                      | exact (nI_sb (by have := hiv (pz h43); omega)).trans (gx (pz h43)).symm
                  · show _ = oI (if j + 1 < v then some (K + 1) else none)
                    first
                      | exact (gy (by omega)).symm
                      | exact (nI_1 _).trans (gx (by omega)).symm
                  · show _ = oI (if i + 1 < u then some (K + v) else none)
                    first
                      | exact (gy (by omega)).symm
                      | exact (nI_add _ _).trans (gx (by omega)).symm
                  · show _ = oI (if 0 < j then some (K - 1) else none)
                    first
                      | exact (gy (fun q => nI_nle q (by omega) h121)).symm
                      | exact (nI_sb (b := 1) (by have := pz (Int32.not_le.mpr h121); omega)).trans (gx (pz (Int32.not_le.mpr h121))).symm
                      | exact (nI_sb (b := 1) (by have := pz h121; omega)).trans (gx (pz h121)).symm
            ·
              refine r_iload_n E (dat dkX2_findBeside 48 rfl) rfl rfl ?_
              refine r_iconst (v := 1) E (dat dkX2_findBeside 49 rfl) rfl ?_
              refine r_iadd E (dat dkX2_findBeside 50 rfl) ?_
              refine r_goto (tgt := 82) E (dat dkX2_findBeside 51 rfl) rfl ?_
              refine q_iast E (dat dkX2_findBeside 53 rfl) rfl rfl (by decide) (gg1_0 gaP_3) (fun _ => sa1_0 paP_3) (nI_1 _) (by omega) ?_
              refine r_aload_n E (dat dkX2_findBeside 54 rfl) rfl rfl ?_
              refine q_geta E fl_X2_18 (dat dkX2_findBeside 55 rfl) rfl rfl rfl ?_
              refine r_iload E (dat dkX2_findBeside 56 rfl) rfl ?_
              refine r_iconst (v := 2) E (dat dkX2_findBeside 57 rfl) rfl ?_
              refine r_iadd E (dat dkX2_findBeside 58 rfl) ?_
              refine r_iload_n E (dat dkX2_findBeside 59 rfl) rfl rfl ?_
              refine r_aload_n E (dat dkX2_findBeside 60 rfl) rfl rfl ?_
              refine q_getn E fl_X2_35 (dat dkX2_findBeside 61 rfl) rfl rfl rfl (go1_0 gfP_7) ?_
              refine r_iconst (v := 1) E (dat dkX2_findBeside 62 rfl) rfl ?_
              refine r_isub E (dat dkX2_findBeside 63 rfl) ?_
              refine q_icmp_ge (tgt := 110) E (dat dkX2_findBeside 64 rfl) rfl rfl (nI_sb (a := u) (b := 1) (by omega)) (by omega) (by omega) (fun h98 => ?_) (fun h98 => ?_)
              ·
                refine r_iconst (v := -1) E (dat dkX2_findBeside 70 rfl) rfl ?_
                refine q_iast E (dat dkX2_findBeside 71 rfl) rfl rfl (by decide) (gg1_0 gaP_3) (fun _ => sa1_0 paP_3) (nI_add _ 2) (by omega) ?_
                refine r_aload_n E (dat dkX2_findBeside 72 rfl) rfl rfl ?_
                refine q_geta E fl_X2_18 (dat dkX2_findBeside 73 rfl) rfl rfl rfl ?_
                refine r_iload E (dat dkX2_findBeside 74 rfl) rfl ?_
                refine r_iconst (v := 3) E (dat dkX2_findBeside 75 rfl) rfl ?_
                refine r_iadd E (dat dkX2_findBeside 76 rfl) ?_
                refine r_iload_n E (dat dkX2_findBeside 77 rfl) rfl rfl ?_
                refine r_if_le (tgt := 130) E (dat dkX2_findBeside 78 rfl) rfl (fun h121 => ?_) (fun h121 => ?_)
                ·
                  refine r_iconst (v := -1) E (dat dkX2_findBeside 83 rfl) rfl ?_
                  refine q_iast E (dat dkX2_findBeside 84 rfl) rfl rfl (by decide) (gg1_0 gaP_3) (fun _ => sa1_0 paP_3) (nI_add _ 3) (by omega) ?_
                  refine q_iinc_2 E (dat dkX2_findBeside 85 rfl) rfl rfl ?_
                  refine r_goto (tgt := 12) E (dat dkX2_findBeside 86 rfl) rfl ?_
                  refine r_back ?_ ?_ (kk2 trivial)
                  rotate_left
                  · exact And.intro rfl (And.intro rfl (And.intro rfl trivial))
                  have hiv : 0 < i → v ≤ i * v := fun q => by
                    have := Nat.mul_le_mul_right v (show 1 ≤ i from q)
                    omega
                  show m1 (vP _ _ _ _ _ _ _ _ (fil (gB u v) be ((i * v + (j + 1)) * 4)) _ _ _ _ _ _ _ _) _ = _
                  refine congrArg (fun f => m1 (vP B1 (nI u) (nI v) ce bc fr he gu f nm nl bh fp n0 n1 n2 n3) M0) (gB4 hK hi hj ?_ ?_ ?_ ?_)
                  · show _ = oI (if 0 < i then some (K - v) else none)
                    first
                      | exact (gy (fun q => nI_nle q (by omega) h43)).symm
                      | exact (nI_sb (by have := hiv (pz (Int32.not_le.mpr h43)); omega)).trans (gx (pz (Int32.not_le.mpr h43))).symm
                      | exact (nI_sb (by have := hiv (pz h43); omega)).trans (gx (pz h43)).symm
                  · show _ = oI (if j + 1 < v then some (K + 1) else none)
                    first
                      | exact (gy (by omega)).symm
                      | exact (nI_1 _).trans (gx (by omega)).symm
                  · show _ = oI (if i + 1 < u then some (K + v) else none)
                    first
                      | exact (gy (by omega)).symm
                      | exact (nI_add _ _).trans (gx (by omega)).symm
                  · show _ = oI (if 0 < j then some (K - 1) else none)
                    first
                      | exact (gy (fun q => nI_nle q (by omega) h121)).symm
                      | exact (nI_sb (b := 1) (by have := pz (Int32.not_le.mpr h121); omega)).trans (gx (pz (Int32.not_le.mpr h121))).symm
                      | exact (nI_sb (b := 1) (by have := pz h121; omega)).trans (gx (pz h121)).symm
                ·
                  refine r_iload_n E (dat dkX2_findBeside 79 rfl) rfl rfl ?_
                  refine r_iconst (v := 1) E (dat dkX2_findBeside 80 rfl) rfl ?_
                  refine r_isub E (dat dkX2_findBeside 81 rfl) ?_
                  refine r_goto (tgt := 131) E (dat dkX2_findBeside 82 rfl) rfl ?_
                  refine q_iast E (dat dkX2_findBeside 84 rfl) rfl rfl (by decide) (gg1_0 gaP_3) (fun _ => sa1_0 paP_3) (nI_add _ 3) (by omega) ?_
                  refine q_iinc_2 E (dat dkX2_findBeside 85 rfl) rfl rfl ?_
                  refine r_goto (tgt := 12) E (dat dkX2_findBeside 86 rfl) rfl ?_
                  refine r_back ?_ ?_ (kk2 trivial)
                  rotate_left
                  · exact And.intro rfl (And.intro rfl (And.intro rfl trivial))
                  have hiv : 0 < i → v ≤ i * v := fun q => by
                    have := Nat.mul_le_mul_right v (show 1 ≤ i from q)
                    omega
                  show m1 (vP _ _ _ _ _ _ _ _ (fil (gB u v) be ((i * v + (j + 1)) * 4)) _ _ _ _ _ _ _ _) _ = _
                  refine congrArg (fun f => m1 (vP B1 (nI u) (nI v) ce bc fr he gu f nm nl bh fp n0 n1 n2 n3) M0) (gB4 hK hi hj ?_ ?_ ?_ ?_)
                  · show _ = oI (if 0 < i then some (K - v) else none)
                    first
                      | exact (gy (fun q => nI_nle q (by omega) h43)).symm
                      | exact (nI_sb (by have := hiv (pz (Int32.not_le.mpr h43)); omega)).trans (gx (pz (Int32.not_le.mpr h43))).symm
                      | exact (nI_sb (by have := hiv (pz h43); omega)).trans (gx (pz h43)).symm
                  · show _ = oI (if j + 1 < v then some (K + 1) else none)
                    first
                      | exact (gy (by omega)).symm
                      | exact (nI_1 _).trans (gx (by omega)).symm
                  · show _ = oI (if i + 1 < u then some (K + v) else none)
                    first
                      | exact (gy (by omega)).symm
                      | exact (nI_add _ _).trans (gx (by omega)).symm
                  · show _ = oI (if 0 < j then some (K - 1) else none)
                    first
                      | exact (gy (fun q => nI_nle q (by omega) h121)).symm
                      | exact (nI_sb (b := 1) (by have := pz (Int32.not_le.mpr h121); omega)).trans (gx (pz (Int32.not_le.mpr h121))).symm
                      | exact (nI_sb (b := 1) (by have := pz h121; omega)).trans (gx (pz h121)).symm
              ·
                refine r_iload_n E (dat dkX2_findBeside 65 rfl) rfl rfl ?_
                refine r_aload_n E (dat dkX2_findBeside 66 rfl) rfl rfl ?_
                refine q_getn E fl_X2_39 (dat dkX2_findBeside 67 rfl) rfl rfl rfl (go1_0 gfP_8) ?_
                refine r_iadd E (dat dkX2_findBeside 68 rfl) ?_
                refine r_goto (tgt := 111) E (dat dkX2_findBeside 69 rfl) rfl ?_
                refine q_iast E (dat dkX2_findBeside 71 rfl) rfl rfl (by decide) (gg1_0 gaP_3) (fun _ => sa1_0 paP_3) (nI_add _ 2) (by omega) ?_
                refine r_aload_n E (dat dkX2_findBeside 72 rfl) rfl rfl ?_
                refine q_geta E fl_X2_18 (dat dkX2_findBeside 73 rfl) rfl rfl rfl ?_
                refine r_iload E (dat dkX2_findBeside 74 rfl) rfl ?_
                refine r_iconst (v := 3) E (dat dkX2_findBeside 75 rfl) rfl ?_
                refine r_iadd E (dat dkX2_findBeside 76 rfl) ?_
                refine r_iload_n E (dat dkX2_findBeside 77 rfl) rfl rfl ?_
                refine r_if_le (tgt := 130) E (dat dkX2_findBeside 78 rfl) rfl (fun h121 => ?_) (fun h121 => ?_)
                ·
                  refine r_iconst (v := -1) E (dat dkX2_findBeside 83 rfl) rfl ?_
                  refine q_iast E (dat dkX2_findBeside 84 rfl) rfl rfl (by decide) (gg1_0 gaP_3) (fun _ => sa1_0 paP_3) (nI_add _ 3) (by omega) ?_
                  refine q_iinc_2 E (dat dkX2_findBeside 85 rfl) rfl rfl ?_
                  refine r_goto (tgt := 12) E (dat dkX2_findBeside 86 rfl) rfl ?_
                  refine r_back ?_ ?_ (kk2 trivial)
                  rotate_left
                  · exact And.intro rfl (And.intro rfl (And.intro rfl trivial))
                  have hiv : 0 < i → v ≤ i * v := fun q => by
                    have := Nat.mul_le_mul_right v (show 1 ≤ i from q)
                    omega
                  show m1 (vP _ _ _ _ _ _ _ _ (fil (gB u v) be ((i * v + (j + 1)) * 4)) _ _ _ _ _ _ _ _) _ = _
                  refine congrArg (fun f => m1 (vP B1 (nI u) (nI v) ce bc fr he gu f nm nl bh fp n0 n1 n2 n3) M0) (gB4 hK hi hj ?_ ?_ ?_ ?_)
                  · show _ = oI (if 0 < i then some (K - v) else none)
                    first
                      | exact (gy (fun q => nI_nle q (by omega) h43)).symm
                      | exact (nI_sb (by have := hiv (pz (Int32.not_le.mpr h43)); omega)).trans (gx (pz (Int32.not_le.mpr h43))).symm
                      | exact (nI_sb (by have := hiv (pz h43); omega)).trans (gx (pz h43)).symm
                  · show _ = oI (if j + 1 < v then some (K + 1) else none)
                    first
                      | exact (gy (by omega)).symm
                      | exact (nI_1 _).trans (gx (by omega)).symm
                  · show _ = oI (if i + 1 < u then some (K + v) else none)
                    first
                      | exact (gy (by omega)).symm
                      | exact (nI_add _ _).trans (gx (by omega)).symm
                  · show _ = oI (if 0 < j then some (K - 1) else none)
                    first
                      | exact (gy (fun q => nI_nle q (by omega) h121)).symm
                      | exact (nI_sb (b := 1) (by have := pz (Int32.not_le.mpr h121); omega)).trans (gx (pz (Int32.not_le.mpr h121))).symm
                      | exact (nI_sb (b := 1) (by have := pz h121; omega)).trans (gx (pz h121)).symm
                ·
                  refine r_iload_n E (dat dkX2_findBeside 79 rfl) rfl rfl ?_
                  refine r_iconst (v := 1) E (dat dkX2_findBeside 80 rfl) rfl ?_
                  refine r_isub E (dat dkX2_findBeside 81 rfl) ?_
                  refine r_goto (tgt := 131) E (dat dkX2_findBeside 82 rfl) rfl ?_
                  refine q_iast E (dat dkX2_findBeside 84 rfl) rfl rfl (by decide) (gg1_0 gaP_3) (fun _ => sa1_0 paP_3) (nI_add _ 3) (by omega) ?_
                  refine q_iinc_2 E (dat dkX2_findBeside 85 rfl) rfl rfl ?_
                  refine r_goto (tgt := 12) E (dat dkX2_findBeside 86 rfl) rfl ?_
                  refine r_back ?_ ?_ (kk2 trivial)
                  rotate_left
                  · exact And.intro rfl (And.intro rfl (And.intro rfl trivial))
                  have hiv : 0 < i → v ≤ i * v := fun q => by
                    have := Nat.mul_le_mul_right v (show 1 ≤ i from q)
                    omega
                  show m1 (vP _ _ _ _ _ _ _ _ (fil (gB u v) be ((i * v + (j + 1)) * 4)) _ _ _ _ _ _ _ _) _ = _
                  refine congrArg (fun f => m1 (vP B1 (nI u) (nI v) ce bc fr he gu f nm nl bh fp n0 n1 n2 n3) M0) (gB4 hK hi hj ?_ ?_ ?_ ?_)
                  · show _ = oI (if 0 < i then some (K - v) else none)
                    first
                      | exact (gy (fun q => nI_nle q (by omega) h43)).symm
                      | exact (nI_sb (by have := hiv (pz (Int32.not_le.mpr h43)); omega)).trans (gx (pz (Int32.not_le.mpr h43))).symm
                      | exact (nI_sb (by have := hiv (pz h43); omega)).trans (gx (pz h43)).symm
                  · show _ = oI (if j + 1 < v then some (K + 1) else none)
                    first
                      | exact (gy (by omega)).symm
                      | exact (nI_1 _).trans (gx (by omega)).symm
                  · show _ = oI (if i + 1 < u then some (K + v) else none)
                    first
                      | exact (gy (by omega)).symm
                      | exact (nI_add _ _).trans (gx (by omega)).symm
                  · show _ = oI (if 0 < j then some (K - 1) else none)
                    first
                      | exact (gy (fun q => nI_nle q (by omega) h121)).symm
                      | exact (nI_sb (b := 1) (by have := pz (Int32.not_le.mpr h121); omega)).trans (gx (pz (Int32.not_le.mpr h121))).symm
                      | exact (nI_sb (b := 1) (by have := pz h121; omega)).trans (gx (pz h121)).symm
          ·
            refine r_iload_n E (dat dkX2_findBeside 30 rfl) rfl rfl ?_
            refine r_aload_n E (dat dkX2_findBeside 31 rfl) rfl rfl ?_
            refine q_getn E fl_X2_39 (dat dkX2_findBeside 32 rfl) rfl rfl rfl (go1_0 gfP_8) ?_
            refine r_isub E (dat dkX2_findBeside 33 rfl) ?_
            refine r_goto (tgt := 56) E (dat dkX2_findBeside 34 rfl) rfl ?_
            refine q_iast E (dat dkX2_findBeside 36 rfl) rfl rfl (by decide) (gg1_0 gaP_3) (fun _ => sa1_0 paP_3) (Int32.add_zero _) (by omega) ?_
            refine r_aload_n E (dat dkX2_findBeside 37 rfl) rfl rfl ?_
            refine q_geta E fl_X2_18 (dat dkX2_findBeside 38 rfl) rfl rfl rfl ?_
            refine r_iload E (dat dkX2_findBeside 39 rfl) rfl ?_
            refine r_iconst (v := 1) E (dat dkX2_findBeside 40 rfl) rfl ?_
            refine r_iadd E (dat dkX2_findBeside 41 rfl) ?_
            refine r_iload_n E (dat dkX2_findBeside 42 rfl) rfl rfl ?_
            refine r_aload_n E (dat dkX2_findBeside 43 rfl) rfl rfl ?_
            refine q_getn E fl_X2_39 (dat dkX2_findBeside 44 rfl) rfl rfl rfl (go1_0 gfP_8) ?_
            refine r_iconst (v := 1) E (dat dkX2_findBeside 45 rfl) rfl ?_
            refine r_isub E (dat dkX2_findBeside 46 rfl) ?_
            refine q_icmp_ge (tgt := 81) E (dat dkX2_findBeside 47 rfl) rfl rfl (nI_sb (a := v) (b := 1) (by omega)) (by omega) (by omega) (fun h72 => ?_) (fun h72 => ?_)
            ·
              refine r_iconst (v := -1) E (dat dkX2_findBeside 52 rfl) rfl ?_
              refine q_iast E (dat dkX2_findBeside 53 rfl) rfl rfl (by decide) (gg1_0 gaP_3) (fun _ => sa1_0 paP_3) (nI_1 _) (by omega) ?_
              refine r_aload_n E (dat dkX2_findBeside 54 rfl) rfl rfl ?_
              refine q_geta E fl_X2_18 (dat dkX2_findBeside 55 rfl) rfl rfl rfl ?_
              refine r_iload E (dat dkX2_findBeside 56 rfl) rfl ?_
              refine r_iconst (v := 2) E (dat dkX2_findBeside 57 rfl) rfl ?_
              refine r_iadd E (dat dkX2_findBeside 58 rfl) ?_
              refine r_iload_n E (dat dkX2_findBeside 59 rfl) rfl rfl ?_
              refine r_aload_n E (dat dkX2_findBeside 60 rfl) rfl rfl ?_
              refine q_getn E fl_X2_35 (dat dkX2_findBeside 61 rfl) rfl rfl rfl (go1_0 gfP_7) ?_
              refine r_iconst (v := 1) E (dat dkX2_findBeside 62 rfl) rfl ?_
              refine r_isub E (dat dkX2_findBeside 63 rfl) ?_
              refine q_icmp_ge (tgt := 110) E (dat dkX2_findBeside 64 rfl) rfl rfl (nI_sb (a := u) (b := 1) (by omega)) (by omega) (by omega) (fun h98 => ?_) (fun h98 => ?_)
              ·
                refine r_iconst (v := -1) E (dat dkX2_findBeside 70 rfl) rfl ?_
                refine q_iast E (dat dkX2_findBeside 71 rfl) rfl rfl (by decide) (gg1_0 gaP_3) (fun _ => sa1_0 paP_3) (nI_add _ 2) (by omega) ?_
                refine r_aload_n E (dat dkX2_findBeside 72 rfl) rfl rfl ?_
                refine q_geta E fl_X2_18 (dat dkX2_findBeside 73 rfl) rfl rfl rfl ?_
                refine r_iload E (dat dkX2_findBeside 74 rfl) rfl ?_
                refine r_iconst (v := 3) E (dat dkX2_findBeside 75 rfl) rfl ?_
                refine r_iadd E (dat dkX2_findBeside 76 rfl) ?_
                refine r_iload_n E (dat dkX2_findBeside 77 rfl) rfl rfl ?_
                refine r_if_le (tgt := 130) E (dat dkX2_findBeside 78 rfl) rfl (fun h121 => ?_) (fun h121 => ?_)
                ·
                  refine r_iconst (v := -1) E (dat dkX2_findBeside 83 rfl) rfl ?_
                  refine q_iast E (dat dkX2_findBeside 84 rfl) rfl rfl (by decide) (gg1_0 gaP_3) (fun _ => sa1_0 paP_3) (nI_add _ 3) (by omega) ?_
                  refine q_iinc_2 E (dat dkX2_findBeside 85 rfl) rfl rfl ?_
                  refine r_goto (tgt := 12) E (dat dkX2_findBeside 86 rfl) rfl ?_
                  refine r_back ?_ ?_ (kk2 trivial)
                  rotate_left
                  · exact And.intro rfl (And.intro rfl (And.intro rfl trivial))
                  have hiv : 0 < i → v ≤ i * v := fun q => by
                    have := Nat.mul_le_mul_right v (show 1 ≤ i from q)
                    omega
                  show m1 (vP _ _ _ _ _ _ _ _ (fil (gB u v) be ((i * v + (j + 1)) * 4)) _ _ _ _ _ _ _ _) _ = _
                  refine congrArg (fun f => m1 (vP B1 (nI u) (nI v) ce bc fr he gu f nm nl bh fp n0 n1 n2 n3) M0) (gB4 hK hi hj ?_ ?_ ?_ ?_)
                  · show _ = oI (if 0 < i then some (K - v) else none)
                    first
                      | exact (gy (fun q => nI_nle q (by omega) h43)).symm
                      | exact (nI_sb (by have := hiv (pz (Int32.not_le.mpr h43)); omega)).trans (gx (pz (Int32.not_le.mpr h43))).symm
                      | exact (nI_sb (by have := hiv (pz h43); omega)).trans (gx (pz h43)).symm
                  · show _ = oI (if j + 1 < v then some (K + 1) else none)
                    first
                      | exact (gy (by omega)).symm
                      | exact (nI_1 _).trans (gx (by omega)).symm
                  · show _ = oI (if i + 1 < u then some (K + v) else none)
                    first
                      | exact (gy (by omega)).symm
                      | exact (nI_add _ _).trans (gx (by omega)).symm
                  · show _ = oI (if 0 < j then some (K - 1) else none)
                    first
                      | exact (gy (fun q => nI_nle q (by omega) h121)).symm
                      | exact (nI_sb (b := 1) (by have := pz (Int32.not_le.mpr h121); omega)).trans (gx (pz (Int32.not_le.mpr h121))).symm
                      | exact (nI_sb (b := 1) (by have := pz h121; omega)).trans (gx (pz h121)).symm
                ·
                  refine r_iload_n E (dat dkX2_findBeside 79 rfl) rfl rfl ?_
                  refine r_iconst (v := 1) E (dat dkX2_findBeside 80 rfl) rfl ?_
                  refine r_isub E (dat dkX2_findBeside 81 rfl) ?_
                  refine r_goto (tgt := 131) E (dat dkX2_findBeside 82 rfl) rfl ?_
                  refine q_iast E (dat dkX2_findBeside 84 rfl) rfl rfl (by decide) (gg1_0 gaP_3) (fun _ => sa1_0 paP_3) (nI_add _ 3) (by omega) ?_
                  refine q_iinc_2 E (dat dkX2_findBeside 85 rfl) rfl rfl ?_
                  refine r_goto (tgt := 12) E (dat dkX2_findBeside 86 rfl) rfl ?_
                  refine r_back ?_ ?_ (kk2 trivial)
                  rotate_left
                  · exact And.intro rfl (And.intro rfl (And.intro rfl trivial))
                  have hiv : 0 < i → v ≤ i * v := fun q => by
                    have := Nat.mul_le_mul_right v (show 1 ≤ i from q)
                    omega
                  show m1 (vP _ _ _ _ _ _ _ _ (fil (gB u v) be ((i * v + (j + 1)) * 4)) _ _ _ _ _ _ _ _) _ = _
                  refine congrArg (fun f => m1 (vP B1 (nI u) (nI v) ce bc fr he gu f nm nl bh fp n0 n1 n2 n3) M0) (gB4 hK hi hj ?_ ?_ ?_ ?_)
                  · show _ = oI (if 0 < i then some (K - v) else none)
                    first
                      | exact (gy (fun q => nI_nle q (by omega) h43)).symm
                      | exact (nI_sb (by have := hiv (pz (Int32.not_le.mpr h43)); omega)).trans (gx (pz (Int32.not_le.mpr h43))).symm
                      | exact (nI_sb (by have := hiv (pz h43); omega)).trans (gx (pz h43)).symm
                  · show _ = oI (if j + 1 < v then some (K + 1) else none)
                    first
                      | exact (gy (by omega)).symm
                      | exact (nI_1 _).trans (gx (by omega)).symm
                  · show _ = oI (if i + 1 < u then some (K + v) else none)
                    first
                      | exact (gy (by omega)).symm
                      | exact (nI_add _ _).trans (gx (by omega)).symm
                  · show _ = oI (if 0 < j then some (K - 1) else none)
                    first
                      | exact (gy (fun q => nI_nle q (by omega) h121)).symm
                      | exact (nI_sb (b := 1) (by have := pz (Int32.not_le.mpr h121); omega)).trans (gx (pz (Int32.not_le.mpr h121))).symm
                      | exact (nI_sb (b := 1) (by have := pz h121; omega)).trans (gx (pz h121)).symm
              ·
                refine r_iload_n E (dat dkX2_findBeside 65 rfl) rfl rfl ?_
                refine r_aload_n E (dat dkX2_findBeside 66 rfl) rfl rfl ?_
                refine q_getn E fl_X2_39 (dat dkX2_findBeside 67 rfl) rfl rfl rfl (go1_0 gfP_8) ?_
                refine r_iadd E (dat dkX2_findBeside 68 rfl) ?_
                refine r_goto (tgt := 111) E (dat dkX2_findBeside 69 rfl) rfl ?_
                refine q_iast E (dat dkX2_findBeside 71 rfl) rfl rfl (by decide) (gg1_0 gaP_3) (fun _ => sa1_0 paP_3) (nI_add _ 2) (by omega) ?_
                refine r_aload_n E (dat dkX2_findBeside 72 rfl) rfl rfl ?_
                refine q_geta E fl_X2_18 (dat dkX2_findBeside 73 rfl) rfl rfl rfl ?_
                refine r_iload E (dat dkX2_findBeside 74 rfl) rfl ?_
                refine r_iconst (v := 3) E (dat dkX2_findBeside 75 rfl) rfl ?_
                refine r_iadd E (dat dkX2_findBeside 76 rfl) ?_
                refine r_iload_n E (dat dkX2_findBeside 77 rfl) rfl rfl ?_
                refine r_if_le (tgt := 130) E (dat dkX2_findBeside 78 rfl) rfl (fun h121 => ?_) (fun h121 => ?_)
                ·
                  refine r_iconst (v := -1) E (dat dkX2_findBeside 83 rfl) rfl ?_
                  refine q_iast E (dat dkX2_findBeside 84 rfl) rfl rfl (by decide) (gg1_0 gaP_3) (fun _ => sa1_0 paP_3) (nI_add _ 3) (by omega) ?_
                  refine q_iinc_2 E (dat dkX2_findBeside 85 rfl) rfl rfl ?_
                  refine r_goto (tgt := 12) E (dat dkX2_findBeside 86 rfl) rfl ?_
                  refine r_back ?_ ?_ (kk2 trivial)
                  rotate_left
                  · exact And.intro rfl (And.intro rfl (And.intro rfl trivial))
                  have hiv : 0 < i → v ≤ i * v := fun q => by
                    have := Nat.mul_le_mul_right v (show 1 ≤ i from q)
                    omega
                  show m1 (vP _ _ _ _ _ _ _ _ (fil (gB u v) be ((i * v + (j + 1)) * 4)) _ _ _ _ _ _ _ _) _ = _
                  refine congrArg (fun f => m1 (vP B1 (nI u) (nI v) ce bc fr he gu f nm nl bh fp n0 n1 n2 n3) M0) (gB4 hK hi hj ?_ ?_ ?_ ?_)
                  · show _ = oI (if 0 < i then some (K - v) else none)
                    first
                      | exact (gy (fun q => nI_nle q (by omega) h43)).symm
                      | exact (nI_sb (by have := hiv (pz (Int32.not_le.mpr h43)); omega)).trans (gx (pz (Int32.not_le.mpr h43))).symm
                      | exact (nI_sb (by have := hiv (pz h43); omega)).trans (gx (pz h43)).symm
                  · show _ = oI (if j + 1 < v then some (K + 1) else none)
                    first
                      | exact (gy (by omega)).symm
                      | exact (nI_1 _).trans (gx (by omega)).symm
                  · show _ = oI (if i + 1 < u then some (K + v) else none)
                    first
                      | exact (gy (by omega)).symm
                      | exact (nI_add _ _).trans (gx (by omega)).symm
                  · show _ = oI (if 0 < j then some (K - 1) else none)
                    first
                      | exact (gy (fun q => nI_nle q (by omega) h121)).symm
                      | exact (nI_sb (b := 1) (by have := pz (Int32.not_le.mpr h121); omega)).trans (gx (pz (Int32.not_le.mpr h121))).symm
                      | exact (nI_sb (b := 1) (by have := pz h121; omega)).trans (gx (pz h121)).symm
                ·
                  refine r_iload_n E (dat dkX2_findBeside 79 rfl) rfl rfl ?_
                  refine r_iconst (v := 1) E (dat dkX2_findBeside 80 rfl) rfl ?_
                  refine r_isub E (dat dkX2_findBeside 81 rfl) ?_
                  refine r_goto (tgt := 131) E (dat dkX2_findBeside 82 rfl) rfl ?_
                  refine q_iast E (dat dkX2_findBeside 84 rfl) rfl rfl (by decide) (gg1_0 gaP_3) (fun _ => sa1_0 paP_3) (nI_add _ 3) (by omega) ?_
                  refine q_iinc_2 E (dat dkX2_findBeside 85 rfl) rfl rfl ?_
                  refine r_goto (tgt := 12) E (dat dkX2_findBeside 86 rfl) rfl ?_
                  refine r_back ?_ ?_ (kk2 trivial)
                  rotate_left
                  · exact And.intro rfl (And.intro rfl (And.intro rfl trivial))
                  have hiv : 0 < i → v ≤ i * v := fun q => by
                    have := Nat.mul_le_mul_right v (show 1 ≤ i from q)
                    omega
                  show m1 (vP _ _ _ _ _ _ _ _ (fil (gB u v) be ((i * v + (j + 1)) * 4)) _ _ _ _ _ _ _ _) _ = _
                  refine congrArg (fun f => m1 (vP B1 (nI u) (nI v) ce bc fr he gu f nm nl bh fp n0 n1 n2 n3) M0) (gB4 hK hi hj ?_ ?_ ?_ ?_)
                  · show _ = oI (if 0 < i then some (K - v) else none)
                    first
                      | exact (gy (fun q => nI_nle q (by omega) h43)).symm
                      | exact (nI_sb (by have := hiv (pz (Int32.not_le.mpr h43)); omega)).trans (gx (pz (Int32.not_le.mpr h43))).symm
                      | exact (nI_sb (by have := hiv (pz h43); omega)).trans (gx (pz h43)).symm
                  · show _ = oI (if j + 1 < v then some (K + 1) else none)
                    first
                      | exact (gy (by omega)).symm
                      | exact (nI_1 _).trans (gx (by omega)).symm
                  · show _ = oI (if i + 1 < u then some (K + v) else none)
                    first
                      | exact (gy (by omega)).symm
                      | exact (nI_add _ _).trans (gx (by omega)).symm
                  · show _ = oI (if 0 < j then some (K - 1) else none)
                    first
                      | exact (gy (fun q => nI_nle q (by omega) h121)).symm
                      | exact (nI_sb (b := 1) (by have := pz (Int32.not_le.mpr h121); omega)).trans (gx (pz (Int32.not_le.mpr h121))).symm
                      | exact (nI_sb (b := 1) (by have := pz h121; omega)).trans (gx (pz h121)).symm
            ·
              refine r_iload_n E (dat dkX2_findBeside 48 rfl) rfl rfl ?_
              refine r_iconst (v := 1) E (dat dkX2_findBeside 49 rfl) rfl ?_
              refine r_iadd E (dat dkX2_findBeside 50 rfl) ?_
              refine r_goto (tgt := 82) E (dat dkX2_findBeside 51 rfl) rfl ?_
              refine q_iast E (dat dkX2_findBeside 53 rfl) rfl rfl (by decide) (gg1_0 gaP_3) (fun _ => sa1_0 paP_3) (nI_1 _) (by omega) ?_
              refine r_aload_n E (dat dkX2_findBeside 54 rfl) rfl rfl ?_
              refine q_geta E fl_X2_18 (dat dkX2_findBeside 55 rfl) rfl rfl rfl ?_
              refine r_iload E (dat dkX2_findBeside 56 rfl) rfl ?_
              refine r_iconst (v := 2) E (dat dkX2_findBeside 57 rfl) rfl ?_
              refine r_iadd E (dat dkX2_findBeside 58 rfl) ?_
              refine r_iload_n E (dat dkX2_findBeside 59 rfl) rfl rfl ?_
              refine r_aload_n E (dat dkX2_findBeside 60 rfl) rfl rfl ?_
              refine q_getn E fl_X2_35 (dat dkX2_findBeside 61 rfl) rfl rfl rfl (go1_0 gfP_7) ?_
              refine r_iconst (v := 1) E (dat dkX2_findBeside 62 rfl) rfl ?_
              refine r_isub E (dat dkX2_findBeside 63 rfl) ?_
              refine q_icmp_ge (tgt := 110) E (dat dkX2_findBeside 64 rfl) rfl rfl (nI_sb (a := u) (b := 1) (by omega)) (by omega) (by omega) (fun h98 => ?_) (fun h98 => ?_)
              ·
                refine r_iconst (v := -1) E (dat dkX2_findBeside 70 rfl) rfl ?_
                refine q_iast E (dat dkX2_findBeside 71 rfl) rfl rfl (by decide) (gg1_0 gaP_3) (fun _ => sa1_0 paP_3) (nI_add _ 2) (by omega) ?_
                refine r_aload_n E (dat dkX2_findBeside 72 rfl) rfl rfl ?_
                refine q_geta E fl_X2_18 (dat dkX2_findBeside 73 rfl) rfl rfl rfl ?_
                refine r_iload E (dat dkX2_findBeside 74 rfl) rfl ?_
                refine r_iconst (v := 3) E (dat dkX2_findBeside 75 rfl) rfl ?_
                refine r_iadd E (dat dkX2_findBeside 76 rfl) ?_
                refine r_iload_n E (dat dkX2_findBeside 77 rfl) rfl rfl ?_
                refine r_if_le (tgt := 130) E (dat dkX2_findBeside 78 rfl) rfl (fun h121 => ?_) (fun h121 => ?_)
                ·
                  refine r_iconst (v := -1) E (dat dkX2_findBeside 83 rfl) rfl ?_
                  refine q_iast E (dat dkX2_findBeside 84 rfl) rfl rfl (by decide) (gg1_0 gaP_3) (fun _ => sa1_0 paP_3) (nI_add _ 3) (by omega) ?_
                  refine q_iinc_2 E (dat dkX2_findBeside 85 rfl) rfl rfl ?_
                  refine r_goto (tgt := 12) E (dat dkX2_findBeside 86 rfl) rfl ?_
                  refine r_back ?_ ?_ (kk2 trivial)
                  rotate_left
                  · exact And.intro rfl (And.intro rfl (And.intro rfl trivial))
                  have hiv : 0 < i → v ≤ i * v := fun q => by
                    have := Nat.mul_le_mul_right v (show 1 ≤ i from q)
                    omega
                  show m1 (vP _ _ _ _ _ _ _ _ (fil (gB u v) be ((i * v + (j + 1)) * 4)) _ _ _ _ _ _ _ _) _ = _
                  refine congrArg (fun f => m1 (vP B1 (nI u) (nI v) ce bc fr he gu f nm nl bh fp n0 n1 n2 n3) M0) (gB4 hK hi hj ?_ ?_ ?_ ?_)
                  · show _ = oI (if 0 < i then some (K - v) else none)
                    first
                      | exact (gy (fun q => nI_nle q (by omega) h43)).symm
                      | exact (nI_sb (by have := hiv (pz (Int32.not_le.mpr h43)); omega)).trans (gx (pz (Int32.not_le.mpr h43))).symm
                      | exact (nI_sb (by have := hiv (pz h43); omega)).trans (gx (pz h43)).symm
                  · show _ = oI (if j + 1 < v then some (K + 1) else none)
                    first
                      | exact (gy (by omega)).symm
                      | exact (nI_1 _).trans (gx (by omega)).symm
                  · show _ = oI (if i + 1 < u then some (K + v) else none)
                    first
                      | exact (gy (by omega)).symm
                      | exact (nI_add _ _).trans (gx (by omega)).symm
                  · show _ = oI (if 0 < j then some (K - 1) else none)
                    first
                      | exact (gy (fun q => nI_nle q (by omega) h121)).symm
                      | exact (nI_sb (b := 1) (by have := pz (Int32.not_le.mpr h121); omega)).trans (gx (pz (Int32.not_le.mpr h121))).symm
                      | exact (nI_sb (b := 1) (by have := pz h121; omega)).trans (gx (pz h121)).symm
                ·
                  refine r_iload_n E (dat dkX2_findBeside 79 rfl) rfl rfl ?_
                  refine r_iconst (v := 1) E (dat dkX2_findBeside 80 rfl) rfl ?_
                  refine r_isub E (dat dkX2_findBeside 81 rfl) ?_
                  refine r_goto (tgt := 131) E (dat dkX2_findBeside 82 rfl) rfl ?_
                  refine q_iast E (dat dkX2_findBeside 84 rfl) rfl rfl (by decide) (gg1_0 gaP_3) (fun _ => sa1_0 paP_3) (nI_add _ 3) (by omega) ?_
                  refine q_iinc_2 E (dat dkX2_findBeside 85 rfl) rfl rfl ?_
                  refine r_goto (tgt := 12) E (dat dkX2_findBeside 86 rfl) rfl ?_
                  refine r_back ?_ ?_ (kk2 trivial)
                  rotate_left
                  · exact And.intro rfl (And.intro rfl (And.intro rfl trivial))
                  have hiv : 0 < i → v ≤ i * v := fun q => by
                    have := Nat.mul_le_mul_right v (show 1 ≤ i from q)
                    omega
                  show m1 (vP _ _ _ _ _ _ _ _ (fil (gB u v) be ((i * v + (j + 1)) * 4)) _ _ _ _ _ _ _ _) _ = _
                  refine congrArg (fun f => m1 (vP B1 (nI u) (nI v) ce bc fr he gu f nm nl bh fp n0 n1 n2 n3) M0) (gB4 hK hi hj ?_ ?_ ?_ ?_)
                  · show _ = oI (if 0 < i then some (K - v) else none)
                    first
                      | exact (gy (fun q => nI_nle q (by omega) h43)).symm
                      | exact (nI_sb (by have := hiv (pz (Int32.not_le.mpr h43)); omega)).trans (gx (pz (Int32.not_le.mpr h43))).symm
                      | exact (nI_sb (by have := hiv (pz h43); omega)).trans (gx (pz h43)).symm
                  · show _ = oI (if j + 1 < v then some (K + 1) else none)
                    first
                      | exact (gy (by omega)).symm
                      | exact (nI_1 _).trans (gx (by omega)).symm
                  · show _ = oI (if i + 1 < u then some (K + v) else none)
                    first
                      | exact (gy (by omega)).symm
                      | exact (nI_add _ _).trans (gx (by omega)).symm
                  · show _ = oI (if 0 < j then some (K - 1) else none)
                    first
                      | exact (gy (fun q => nI_nle q (by omega) h121)).symm
                      | exact (nI_sb (b := 1) (by have := pz (Int32.not_le.mpr h121); omega)).trans (gx (pz (Int32.not_le.mpr h121))).symm
                      | exact (nI_sb (b := 1) (by have := pz h121; omega)).trans (gx (pz h121)).symm
              ·
                refine r_iload_n E (dat dkX2_findBeside 65 rfl) rfl rfl ?_
                refine r_aload_n E (dat dkX2_findBeside 66 rfl) rfl rfl ?_
                refine q_getn E fl_X2_39 (dat dkX2_findBeside 67 rfl) rfl rfl rfl (go1_0 gfP_8) ?_
                refine r_iadd E (dat dkX2_findBeside 68 rfl) ?_
                refine r_goto (tgt := 111) E (dat dkX2_findBeside 69 rfl) rfl ?_
                refine q_iast E (dat dkX2_findBeside 71 rfl) rfl rfl (by decide) (gg1_0 gaP_3) (fun _ => sa1_0 paP_3) (nI_add _ 2) (by omega) ?_
                refine r_aload_n E (dat dkX2_findBeside 72 rfl) rfl rfl ?_
                refine q_geta E fl_X2_18 (dat dkX2_findBeside 73 rfl) rfl rfl rfl ?_
                refine r_iload E (dat dkX2_findBeside 74 rfl) rfl ?_
                refine r_iconst (v := 3) E (dat dkX2_findBeside 75 rfl) rfl ?_
                refine r_iadd E (dat dkX2_findBeside 76 rfl) ?_
                refine r_iload_n E (dat dkX2_findBeside 77 rfl) rfl rfl ?_
                refine r_if_le (tgt := 130) E (dat dkX2_findBeside 78 rfl) rfl (fun h121 => ?_) (fun h121 => ?_)
                ·
                  refine r_iconst (v := -1) E (dat dkX2_findBeside 83 rfl) rfl ?_
                  refine q_iast E (dat dkX2_findBeside 84 rfl) rfl rfl (by decide) (gg1_0 gaP_3) (fun _ => sa1_0 paP_3) (nI_add _ 3) (by omega) ?_
                  refine q_iinc_2 E (dat dkX2_findBeside 85 rfl) rfl rfl ?_
                  refine r_goto (tgt := 12) E (dat dkX2_findBeside 86 rfl) rfl ?_
                  refine r_back ?_ ?_ (kk2 trivial)
                  rotate_left
                  · exact And.intro rfl (And.intro rfl (And.intro rfl trivial))
                  have hiv : 0 < i → v ≤ i * v := fun q => by
                    have := Nat.mul_le_mul_right v (show 1 ≤ i from q)
                    omega
                  show m1 (vP _ _ _ _ _ _ _ _ (fil (gB u v) be ((i * v + (j + 1)) * 4)) _ _ _ _ _ _ _ _) _ = _
                  refine congrArg (fun f => m1 (vP B1 (nI u) (nI v) ce bc fr he gu f nm nl bh fp n0 n1 n2 n3) M0) (gB4 hK hi hj ?_ ?_ ?_ ?_)
                  · show _ = oI (if 0 < i then some (K - v) else none)
                    first
                      | exact (gy (fun q => nI_nle q (by omega) h43)).symm
                      | exact (nI_sb (by have := hiv (pz (Int32.not_le.mpr h43)); omega)).trans (gx (pz (Int32.not_le.mpr h43))).symm
                      | exact (nI_sb (by have := hiv (pz h43); omega)).trans (gx (pz h43)).symm
                  · show _ = oI (if j + 1 < v then some (K + 1) else none)
                    first
                      | exact (gy (by omega)).symm
                      | exact (nI_1 _).trans (gx (by omega)).symm
                  · show _ = oI (if i + 1 < u then some (K + v) else none)
                    first
                      | exact (gy (by omega)).symm
                      | exact (nI_add _ _).trans (gx (by omega)).symm
                  · show _ = oI (if 0 < j then some (K - 1) else none)
                    first
                      | exact (gy (fun q => nI_nle q (by omega) h121)).symm
                      | exact (nI_sb (b := 1) (by have := pz (Int32.not_le.mpr h121); omega)).trans (gx (pz (Int32.not_le.mpr h121))).symm
                      | exact (nI_sb (b := 1) (by have := pz h121; omega)).trans (gx (pz h121)).symm
                ·
                  refine r_iload_n E (dat dkX2_findBeside 79 rfl) rfl rfl ?_
                  refine r_iconst (v := 1) E (dat dkX2_findBeside 80 rfl) rfl ?_
                  refine r_isub E (dat dkX2_findBeside 81 rfl) ?_
                  refine r_goto (tgt := 131) E (dat dkX2_findBeside 82 rfl) rfl ?_
                  refine q_iast E (dat dkX2_findBeside 84 rfl) rfl rfl (by decide) (gg1_0 gaP_3) (fun _ => sa1_0 paP_3) (nI_add _ 3) (by omega) ?_
                  refine q_iinc_2 E (dat dkX2_findBeside 85 rfl) rfl rfl ?_
                  refine r_goto (tgt := 12) E (dat dkX2_findBeside 86 rfl) rfl ?_
                  refine r_back ?_ ?_ (kk2 trivial)
                  rotate_left
                  · exact And.intro rfl (And.intro rfl (And.intro rfl trivial))
                  have hiv : 0 < i → v ≤ i * v := fun q => by
                    have := Nat.mul_le_mul_right v (show 1 ≤ i from q)
                    omega
                  show m1 (vP _ _ _ _ _ _ _ _ (fil (gB u v) be ((i * v + (j + 1)) * 4)) _ _ _ _ _ _ _ _) _ = _
                  refine congrArg (fun f => m1 (vP B1 (nI u) (nI v) ce bc fr he gu f nm nl bh fp n0 n1 n2 n3) M0) (gB4 hK hi hj ?_ ?_ ?_ ?_)
                  · show _ = oI (if 0 < i then some (K - v) else none)
                    first
                      | exact (gy (fun q => nI_nle q (by omega) h43)).symm
                      | exact (nI_sb (by have := hiv (pz (Int32.not_le.mpr h43)); omega)).trans (gx (pz (Int32.not_le.mpr h43))).symm
                      | exact (nI_sb (by have := hiv (pz h43); omega)).trans (gx (pz h43)).symm
                  · show _ = oI (if j + 1 < v then some (K + 1) else none)
                    first
                      | exact (gy (by omega)).symm
                      | exact (nI_1 _).trans (gx (by omega)).symm
                  · show _ = oI (if i + 1 < u then some (K + v) else none)
                    first
                      | exact (gy (by omega)).symm
                      | exact (nI_add _ _).trans (gx (by omega)).symm
                  · show _ = oI (if 0 < j then some (K - 1) else none)
                    first
                      | exact (gy (fun q => nI_nle q (by omega) h121)).symm
                      | exact (nI_sb (b := 1) (by have := pz (Int32.not_le.mpr h121); omega)).trans (gx (pz (Int32.not_le.mpr h121))).symm
                      | exact (nI_sb (b := 1) (by have := pz h121; omega)).trans (gx (pz h121)).symm
      · intro hJ
        refine r_iload_n E (dat dkX2_findBeside 8 rfl) rfl rfl ?_
        refine r_aload_n E (dat dkX2_findBeside 9 rfl) rfl rfl ?_
        refine q_getn E fl_X2_39 (dat dkX2_findBeside 10 rfl) rfl rfl rfl (go1_0 gfP_8) ?_
        refine q_icmp_ge (tgt := 138) E (dat dkX2_findBeside 11 rfl) rfl rfl rfl (by omega) (by omega) (fun h17 => ?_) (fun h17 => ?_)
        ·
          refine q_iinc_1 E (dat dkX2_findBeside 87 rfl) rfl rfl ?_
          refine r_goto (tgt := 2) E (dat dkX2_findBeside 88 rfl) rfl ?_
          refine r_back ?_ ?_ (kk trivial)
          · rw [Nat.succ_mul]
          · exact And.intro rfl (And.intro rfl trivial)
        ·
          omega
  · intro hI
    refine r_iload_n E (dat dkX2_findBeside 2 rfl) rfl rfl ?_
    refine r_aload_n E (dat dkX2_findBeside 3 rfl) rfl rfl ?_
    refine q_getn E fl_X2_35 (dat dkX2_findBeside 4 rfl) rfl rfl rfl (go1_0 gfP_7) ?_
    refine q_icmp_ge (tgt := 144) E (dat dkX2_findBeside 5 rfl) rfl rfl rfl (by omega) (by omega) (fun h7 => ?_) (fun h7 => ?_)
    ·
      refine r_vreturn E (dat dkX2_findBeside 89 rfl) (by decide) (by decide) ?_
      exact ⟨rfl, by rw [pm1_0]⟩
    ·
      omega

set_option maxRecDepth 100000 in
set_option maxHeartbeats 16000000 in
theorem sp_X2_readRow (l : Launch) (G : GT) (B1 : Nat → Nat → Int32) (u v z lea mo : Nat) (bc fr : Int32) (he gu be nm nl bh fp n0 n1 n2 n3 : Nat → Int32) (B0 : Nat → Nat → Int32) (n : Nat) (ki st va ec eo : Int32) (bs : Nat → Int32) (p : Nat) (M : Mem) (hA0 : M 0 = (vP B1 (nI (u)) (nI (v)) (nI (z)) bc fr (he) gu be nm nl bh fp n0 n1 n2 n3)) (hA1 : M 1 = (vT B0 (nI n) (nI (p)) (ki) (st) (va) (ec) (eo) bs)) (hp : p ≤ n) (hn : n ≤ 600) (hz : u < 8 → z + mo ≤ 64) (hm8 : mo ≤ 8) (hl8 : lea ≤ 8) (hu8 : u ≤ 8) (h0 : (u = 0 ∧ lea = 2 ∧ mo = 8) ∨ (0 < u ∧ lea = v ∧ mo = v)) : MC l G yX2_readRow cX2_readRow 5 (some .boolean) ({ frames := 4, cells := 0, slots := 0, locals := 80 } : Room) [2, 3] lk0 [rv 0 0, rv 1 0] (M) (fun r M2 => r = some (iv (rRw bs n ((p, ki, st, va, ec, eo) : TT) u v z lea mo he).1.1) ∧ M2 = setm (setm M 0 (vP B1 (nI ((rRw bs n ((p, ki, st, va, ec, eo) : TT) u v z lea mo he).2.2.1)) (nI ((rRw bs n ((p, ki, st, va, ec, eo) : TT) u v z lea mo he).2.2.2.1)) (nI ((rRw bs n ((p, ki, st, va, ec, eo) : TT) u v z lea mo he).2.2.2.2)) bc fr ((rRw bs n ((p, ki, st, va, ec, eo) : TT) u v z lea mo he).2.1) gu be nm nl bh fp n0 n1 n2 n3)) 1 (vT B0 (nI n) (nI ((rRw bs n ((p, ki, st, va, ec, eo) : TT) u v z lea mo he).1.2).1) ((rRw bs n ((p, ki, st, va, ec, eo) : TT) u v z lea mo he).1.2).2.1 ((rRw bs n ((p, ki, st, va, ec, eo) : TT) u v z lea mo he).1.2).2.2.1 ((rRw bs n ((p, ki, st, va, ec, eo) : TT) u v z lea mo he).1.2).2.2.2.1 ((rRw bs n ((p, ki, st, va, ec, eo) : TT) u v z lea mo he).1.2).2.2.2.2.1 ((rRw bs n ((p, ki, st, va, ec, eo) : TT) u v z lea mo he).1.2).2.2.2.2.2 bs)) := by
  obtain ⟨M0, rfl⟩ : ∃ M0, M = m2 ((vP B1 (nI (u)) (nI (v)) (nI (z)) bc fr (he) gu be nm nl bh fp n0 n1 n2 n3)) ((vT B0 (nI n) (nI (p)) (ki) (st) (va) (ec) (eo) bs)) M0 := ⟨M, (m2_of hA0 hA1).symm⟩
  clear hA0 hA1
  refine MC.of RX2 [some (rv 0 0), some (rv 1 0), none, none, none] 3 (by decide +kernel) rfl rfl rfl ?_
  intro pp ee ss mm aa bb me cd ad E
  rcases h0 with ⟨hu, hl, hm⟩ | ⟨hu, hl, hm⟩
  ·
    refine r_aload_n E (dat dkX2_readRow 0 rfl) rfl rfl ?_
    refine q_getn E fl_X2_35 (dat dkX2_readRow 1 rfl) rfl rfl rfl (go2_0 gfP_7) ?_
    refine r_bipush (v := 8) E (dat dkX2_readRow 2 rfl) rfl ?_
    refine q_icmp_lt (tgt := 15) E (dat dkX2_readRow 3 rfl) rfl rfl (b := 8) rfl (by omega) (by omega) (fun h6 => ?_) (fun h6 => ?_)
    ·
      refine r_aload_n E (dat dkX2_readRow 8 rfl) rfl rfl ?_
      refine q_getn E fl_X2_35 (dat dkX2_readRow 9 rfl) rfl rfl rfl (go2_0 gfP_7) ?_
      refine r_if_ne (tgt := 26) E (dat dkX2_readRow 10 rfl) rfl (fun h19 => ?_) (fun h19 => ?_)
      ·
        exact absurd (show nI u = 0 by rw [hu]; rfl) h19
      ·
        refine r_iconst (v := 2) E (dat dkX2_readRow 11 rfl) rfl ?_
        refine r_goto (tgt := 30) E (dat dkX2_readRow 12 rfl) rfl ?_
        refine r_istore_2 E (dat dkX2_readRow 15 rfl) rfl rfl ?_
        refine r_aload_n E (dat dkX2_readRow 16 rfl) rfl rfl ?_
        refine q_getn E fl_X2_35 (dat dkX2_readRow 17 rfl) rfl rfl rfl (go2_0 gfP_7) ?_
        refine r_if_ne (tgt := 43) E (dat dkX2_readRow 18 rfl) rfl (fun h35 => ?_) (fun h35 => ?_)
        ·
          exact absurd (show nI u = 0 by rw [hu]; rfl) h35
        ·
          refine r_bipush (v := 8) E (dat dkX2_readRow 19 rfl) rfl ?_
          refine r_goto (tgt := 47) E (dat dkX2_readRow 20 rfl) rfl ?_
          refine r_istore_3 E (dat dkX2_readRow 23 rfl) rfl rfl ?_
          refine r_iconst (v := 0) E (dat dkX2_readRow 24 rfl) rfl ?_
          refine r_istore_4 E (dat dkX2_readRow 25 rfl) rfl rfl ?_
          refine r_while (β := Nat × (Nat → Int32) × TT) (fun x => mo - x.1) (fun x => x.1 ≤ mo ∧ x.2.2.1 ≤ n ∧ rwF bs n z lea (mo - x.1) x.1 x.2.1 x.2.2 = (rwF bs n z lea mo 0 he ((p, ki, st, va, ec, eo) : TT))) (fun x => m2 (vP B1 (nI (u)) (nI (v)) (nI (z)) bc fr (x.2.1) gu be nm nl bh fp n0 n1 n2 n3) (vT B0 (nI n) (nI (x.2.2).1) (x.2.2).2.1 (x.2.2).2.2.1 (x.2.2).2.2.2.1 (x.2.2).2.2.2.2.1 (x.2.2).2.2.2.2.2 bs) M0) (fun x => [some (rv 0 0), some (rv 1 0), some (iv (nI lea)), some (iv (nI mo)), some (iv (nI x.1))]) ((0, he, ((p, ki, st, va, ec, eo) : TT))) ⟨Nat.zero_le _, hp, rfl⟩ rfl (by first | rfl | (rw [hl, hm]; done) | (rw [hl, hm]; rfl)) ?_
          intro y hI kk0
          obtain ⟨cnt, he2, p2, ki2, st2, va2, ec2, eo2⟩ := y
          dsimp only at hI ⊢
          refine r_iload E (dat dkX2_readRow 26 rfl) rfl ?_
          refine r_iload_n E (dat dkX2_readRow 27 rfl) rfl rfl ?_
          refine q_icmp_ge (tgt := 134) E (dat dkX2_readRow 28 rfl) rfl rfl rfl (by omega) (by omega) (fun h54 => ?_) (fun h54 => ?_)
          ·
            refine r_aload_n E (dat dkX2_readRow 70 rfl) rfl rfl ?_
            refine r_iload_n E (dat dkX2_readRow 71 rfl) rfl rfl ?_
            refine r_callV (κ := 2) (μ := [0]) E (sp_X2_endRow l G B1 z bc fr (he2) gu be nm nl bh fp n0 n1 n2 n3 (nI v) u (mo) _ rfl) my_X2_endRow iv_X2_endRow ml_X2_109 (cm_of rfl) ⟨by decide, rfl, rfl⟩ rfl rfl rfl rfl (by decide) (Nat.le_of_ble_eq_true rfl) (dat dkX2_readRow 72 rfl) ?_
            rintro _ _ ⟨rfl, rfl⟩
            refine ⟨_, Mrg_e (by decide) (by decide) pm2_0 rfl, ?_⟩
            refine r_aload_n E (dat dkX2_readRow 73 rfl) rfl rfl ?_
            refine r_callV (κ := 3) (μ := [1]) E (sp_X6_takeSemicolon l G B0 n (ki2) (st2) (va2) (ec2) (eo2) bs (p2) _ rfl hI.2.1 hn) my_X6_takeSemicolon iv_X6_takeSemicolon ml_X2_116 (cm_of rfl) ⟨by decide, rfl, rfl⟩ rfl rfl rfl rfl (by decide) (Nat.le_of_ble_eq_true rfl) (dat dkX2_readRow 74 rfl) ?_
            rintro _ _ ⟨rfl, rfl⟩
            refine ⟨_, Mrg_e (by decide) (by decide) pm2_1 rfl, ?_⟩
            refine r_zreturn E (dat dkX2_readRow 75 rfl) fe_b (by decide) (by decide) ?_
            rw [pm2_0, pm2_1]
            rw [rRw_2 h6 ((rwF_no (t := (p2, ki2, st2, va2, ec2, eo2)) h54).symm.trans hI.2.2)]
            exact ⟨rfl, rfl⟩
          ·
            refine r_aload_n E (dat dkX2_readRow 29 rfl) rfl rfl ?_
            refine r_callV (κ := 3) (μ := [1]) E (sp_X6_next l G B0 n (ki2) (st2) (va2) (ec2) (eo2) bs (p2) _ rfl hI.2.1 hn) my_X6_next iv_X6_next ml_X2_63 (cm_of rfl) ⟨by decide, rfl, rfl⟩ rfl rfl rfl rfl (by decide) (Nat.le_of_ble_eq_true rfl) (dat dkX2_readRow 30 rfl) ?_
            rintro _ _ ⟨rfl, rfl⟩
            refine ⟨_, Mrg_e (by decide) (by decide) pm2_1 rfl, ?_⟩
            refine r_aload_n E (dat dkX2_readRow 31 rfl) rfl rfl ?_
            refine q_getn E fl_X2_66 (dat dkX2_readRow 32 rfl) rfl rfl rfl (go2_1 gfT_3) ?_
            refine r_iconst (v := 3) E (dat dkX2_readRow 33 rfl) rfl ?_
            refine r_icmp_ne (tgt := 83) E (dat dkX2_readRow 34 rfl) rfl (fun h66 => ?_) (fun h66 => ?_)
            ·
              refine r_aload_n E (dat dkX2_readRow 43 rfl) rfl rfl ?_
              refine q_getn E fl_X2_66 (dat dkX2_readRow 44 rfl) rfl rfl rfl (go2_1 gfT_3) ?_
              refine r_iconst (v := 2) E (dat dkX2_readRow 45 rfl) rfl ?_
              refine r_icmp_eq (tgt := 97) E (dat dkX2_readRow 46 rfl) rfl (fun h88 => ?_) (fun h88 => ?_)
              ·
                refine r_aload_n E (dat dkX2_readRow 51 rfl) rfl rfl ?_
                refine q_getn E fl_X2_113 (dat dkX2_readRow 52 rfl) rfl rfl rfl (go2_1 gfT_5) ?_
                refine r_bipush (v := 9) E (dat dkX2_readRow 53 rfl) rfl ?_
                refine r_icmp_le (tgt := 112) E (dat dkX2_readRow 54 rfl) rfl (fun h103 => ?_) (fun h103 => ?_)
                ·
                  refine r_aload_n E (dat dkX2_readRow 59 rfl) rfl rfl ?_
                  refine q_geta E fl_X2_9 (dat dkX2_readRow 60 rfl) rfl rfl rfl ?_
                  refine r_aload_n E (dat dkX2_readRow 61 rfl) rfl rfl ?_
                  refine q_getn E fl_X2_42 (dat dkX2_readRow 62 rfl) rfl rfl rfl (go2_0 gfP_9) ?_
                  refine r_iload E (dat dkX2_readRow 63 rfl) rfl ?_
                  refine r_iadd E (dat dkX2_readRow 64 rfl) ?_
                  refine r_aload_n E (dat dkX2_readRow 65 rfl) rfl rfl ?_
                  refine q_getn E fl_X2_113 (dat dkX2_readRow 66 rfl) rfl rfl rfl (go2_1 gfT_5) ?_
                  refine q_iast E (dat dkX2_readRow 67 rfl) rfl rfl (by decide) (gg2_0 gaP_1) (fun _ => sa2_0 paP_1) (nI_add _ _) (show z + cnt < 64 by (have := hz h6); omega) ?_
                  refine q_iinc_4 E (dat dkX2_readRow 68 rfl) rfl rfl ?_
                  refine r_goto (tgt := 51) E (dat dkX2_readRow 69 rfl) rfl ?_
                  exact kk0 (cnt + 1, upd he2 (z + cnt) (tV bs n p2 va2), tNx bs n (p2, ki2, st2, va2, ec2, eo2)) ⟨by omega, (tP_le hI.2.1).2, (rwF_go (t := (p2, ki2, st2, va2, ec2, eo2)) h54 h88 (i32_nlt h103)).trans hI.2.2⟩ (by show mo - (cnt + 1) < mo - cnt; omega)
                ·
                  refine r_aload_n E (dat dkX2_readRow 55 rfl) rfl rfl ?_
                  refine r_iconst (v := 2) E (dat dkX2_readRow 56 rfl) rfl ?_
                  refine r_callV (κ := 3) (μ := [1]) E (sp_X6_fail l G B0 n (nI (tP bs n p2)) (tK bs n p2) (nI (tS bs n p2)) (tV bs n p2 va2) (ec2) (eo2) bs 2 _ rfl) my_X6_fail iv_X6_fail ml_X2_73 (cm_of rfl) ⟨by decide, rfl, rfl⟩ rfl rfl rfl rfl (by decide) (Nat.le_of_ble_eq_true rfl) (dat dkX2_readRow 57 rfl) ?_
                  rintro _ _ ⟨rfl, rfl⟩
                  refine ⟨_, Mrg_e (by decide) (by decide) pm2_1 rfl, ?_⟩
                  refine r_zreturn E (dat dkX2_readRow 58 rfl) rfl (by decide) (by decide) ?_
                  rw [pm2_0, pm2_1]
                  rw [rRw_0 h6 ((rwF_3 (t := (p2, ki2, st2, va2, ec2, eo2)) h54 h88 (i32_nle h103)).symm.trans hI.2.2)]
                  exact ⟨rfl, rfl⟩
              ·
                refine r_aload_n E (dat dkX2_readRow 47 rfl) rfl rfl ?_
                refine r_iconst (v := 1) E (dat dkX2_readRow 48 rfl) rfl ?_
                refine r_callV (κ := 3) (μ := [1]) E (sp_X6_fail l G B0 n (nI (tP bs n p2)) (tK bs n p2) (nI (tS bs n p2)) (tV bs n p2 va2) (ec2) (eo2) bs 1 _ rfl) my_X6_fail iv_X6_fail ml_X2_73 (cm_of rfl) ⟨by decide, rfl, rfl⟩ rfl rfl rfl rfl (by decide) (Nat.le_of_ble_eq_true rfl) (dat dkX2_readRow 49 rfl) ?_
                rintro _ _ ⟨rfl, rfl⟩
                refine ⟨_, Mrg_e (by decide) (by decide) pm2_1 rfl, ?_⟩
                refine r_zreturn E (dat dkX2_readRow 50 rfl) rfl (by decide) (by decide) ?_
                rw [pm2_0, pm2_1]
                first
                  | (rw [rRw_0 h6 ((rwF_2 (t := (p2, ki2, st2, va2, ec2, eo2)) h54 (fun q => h66 q.1) h88).symm.trans hI.2.2)]; exact ⟨rfl, rfl⟩)
                  | (rw [rRw_0 h6 ((rwF_2 (t := (p2, ki2, st2, va2, ec2, eo2)) h54 (fun q => absurd q.2 (by omega)) h88).symm.trans hI.2.2)]; exact ⟨rfl, rfl⟩)
            ·
              refine r_iload E (dat dkX2_readRow 35 rfl) rfl ?_
              refine r_iload_n E (dat dkX2_readRow 36 rfl) rfl rfl ?_
              refine q_icmp_lt (tgt := 83) E (dat dkX2_readRow 37 rfl) rfl rfl rfl (by omega) (by omega) (fun h72 => ?_) (fun h72 => ?_)
              ·
                refine r_aload_n E (dat dkX2_readRow 43 rfl) rfl rfl ?_
                refine q_getn E fl_X2_66 (dat dkX2_readRow 44 rfl) rfl rfl rfl (go2_1 gfT_3) ?_
                refine r_iconst (v := 2) E (dat dkX2_readRow 45 rfl) rfl ?_
                refine r_icmp_eq (tgt := 97) E (dat dkX2_readRow 46 rfl) rfl (fun h88 => ?_) (fun h88 => ?_)
                ·
                  refine r_aload_n E (dat dkX2_readRow 51 rfl) rfl rfl ?_
                  refine q_getn E fl_X2_113 (dat dkX2_readRow 52 rfl) rfl rfl rfl (go2_1 gfT_5) ?_
                  refine r_bipush (v := 9) E (dat dkX2_readRow 53 rfl) rfl ?_
                  refine r_icmp_le (tgt := 112) E (dat dkX2_readRow 54 rfl) rfl (fun h103 => ?_) (fun h103 => ?_)
                  ·
                    refine r_aload_n E (dat dkX2_readRow 59 rfl) rfl rfl ?_
                    refine q_geta E fl_X2_9 (dat dkX2_readRow 60 rfl) rfl rfl rfl ?_
                    refine r_aload_n E (dat dkX2_readRow 61 rfl) rfl rfl ?_
                    refine q_getn E fl_X2_42 (dat dkX2_readRow 62 rfl) rfl rfl rfl (go2_0 gfP_9) ?_
                    refine r_iload E (dat dkX2_readRow 63 rfl) rfl ?_
                    refine r_iadd E (dat dkX2_readRow 64 rfl) ?_
                    refine r_aload_n E (dat dkX2_readRow 65 rfl) rfl rfl ?_
                    refine q_getn E fl_X2_113 (dat dkX2_readRow 66 rfl) rfl rfl rfl (go2_1 gfT_5) ?_
                    refine q_iast E (dat dkX2_readRow 67 rfl) rfl rfl (by decide) (gg2_0 gaP_1) (fun _ => sa2_0 paP_1) (nI_add _ _) (show z + cnt < 64 by (have := hz h6); omega) ?_
                    refine q_iinc_4 E (dat dkX2_readRow 68 rfl) rfl rfl ?_
                    refine r_goto (tgt := 51) E (dat dkX2_readRow 69 rfl) rfl ?_
                    exact kk0 (cnt + 1, upd he2 (z + cnt) (tV bs n p2 va2), tNx bs n (p2, ki2, st2, va2, ec2, eo2)) ⟨by omega, (tP_le hI.2.1).2, (rwF_go (t := (p2, ki2, st2, va2, ec2, eo2)) h54 h88 (i32_nlt h103)).trans hI.2.2⟩ (by show mo - (cnt + 1) < mo - cnt; omega)
                  ·
                    refine r_aload_n E (dat dkX2_readRow 55 rfl) rfl rfl ?_
                    refine r_iconst (v := 2) E (dat dkX2_readRow 56 rfl) rfl ?_
                    refine r_callV (κ := 3) (μ := [1]) E (sp_X6_fail l G B0 n (nI (tP bs n p2)) (tK bs n p2) (nI (tS bs n p2)) (tV bs n p2 va2) (ec2) (eo2) bs 2 _ rfl) my_X6_fail iv_X6_fail ml_X2_73 (cm_of rfl) ⟨by decide, rfl, rfl⟩ rfl rfl rfl rfl (by decide) (Nat.le_of_ble_eq_true rfl) (dat dkX2_readRow 57 rfl) ?_
                    rintro _ _ ⟨rfl, rfl⟩
                    refine ⟨_, Mrg_e (by decide) (by decide) pm2_1 rfl, ?_⟩
                    refine r_zreturn E (dat dkX2_readRow 58 rfl) rfl (by decide) (by decide) ?_
                    rw [pm2_0, pm2_1]
                    rw [rRw_0 h6 ((rwF_3 (t := (p2, ki2, st2, va2, ec2, eo2)) h54 h88 (i32_nle h103)).symm.trans hI.2.2)]
                    exact ⟨rfl, rfl⟩
                ·
                  refine r_aload_n E (dat dkX2_readRow 47 rfl) rfl rfl ?_
                  refine r_iconst (v := 1) E (dat dkX2_readRow 48 rfl) rfl ?_
                  refine r_callV (κ := 3) (μ := [1]) E (sp_X6_fail l G B0 n (nI (tP bs n p2)) (tK bs n p2) (nI (tS bs n p2)) (tV bs n p2 va2) (ec2) (eo2) bs 1 _ rfl) my_X6_fail iv_X6_fail ml_X2_73 (cm_of rfl) ⟨by decide, rfl, rfl⟩ rfl rfl rfl rfl (by decide) (Nat.le_of_ble_eq_true rfl) (dat dkX2_readRow 49 rfl) ?_
                  rintro _ _ ⟨rfl, rfl⟩
                  refine ⟨_, Mrg_e (by decide) (by decide) pm2_1 rfl, ?_⟩
                  refine r_zreturn E (dat dkX2_readRow 50 rfl) rfl (by decide) (by decide) ?_
                  rw [pm2_0, pm2_1]
                  first
                    | (rw [rRw_0 h6 ((rwF_2 (t := (p2, ki2, st2, va2, ec2, eo2)) h54 (fun q => h66 q.1) h88).symm.trans hI.2.2)]; exact ⟨rfl, rfl⟩)
                    | (rw [rRw_0 h6 ((rwF_2 (t := (p2, ki2, st2, va2, ec2, eo2)) h54 (fun q => absurd q.2 (by omega)) h88).symm.trans hI.2.2)]; exact ⟨rfl, rfl⟩)
              ·
                refine r_aload_n E (dat dkX2_readRow 38 rfl) rfl rfl ?_
                refine r_iload E (dat dkX2_readRow 39 rfl) rfl ?_
                refine r_callV (κ := 2) (μ := [0]) E (sp_X2_endRow l G B1 z bc fr (he2) gu be nm nl bh fp n0 n1 n2 n3 (nI v) u (cnt) _ rfl) my_X2_endRow iv_X2_endRow ml_X2_109 (cm_of rfl) ⟨by decide, rfl, rfl⟩ rfl rfl rfl rfl (by decide) (Nat.le_of_ble_eq_true rfl) (dat dkX2_readRow 40 rfl) ?_
                rintro _ _ ⟨rfl, rfl⟩
                refine ⟨_, Mrg_e (by decide) (by decide) pm2_0 rfl, ?_⟩
                refine r_iconst (v := 1) E (dat dkX2_readRow 41 rfl) rfl ?_
                refine r_zreturn E (dat dkX2_readRow 42 rfl) rfl (by decide) (by decide) ?_
                rw [pm2_0, pm2_1]
                rw [rRw_1 h6 ((rwF_1 (t := (p2, ki2, st2, va2, ec2, eo2)) h54 h66 h72).symm.trans hI.2.2)]
                exact ⟨rfl, rfl⟩
    ·
      refine r_aload_n E (dat dkX2_readRow 4 rfl) rfl rfl ?_
      refine r_iconst (v := 4) E (dat dkX2_readRow 5 rfl) rfl ?_
      refine r_callV (κ := 3) (μ := [1]) E (sp_X6_fail l G B0 n (nI (p)) (ki) (st) (va) (ec) (eo) bs 4 _ rfl) my_X6_fail iv_X6_fail ml_X2_73 (cm_of rfl) ⟨by decide, rfl, rfl⟩ rfl rfl rfl rfl (by decide) (Nat.le_of_ble_eq_true rfl) (dat dkX2_readRow 6 rfl) ?_
      rintro _ _ ⟨rfl, rfl⟩
      refine ⟨_, Mrg_e (by decide) (by decide) pm2_1 rfl, ?_⟩
      refine r_zreturn E (dat dkX2_readRow 7 rfl) rfl (by decide) (by decide) ?_
      rw [pm2_0, pm2_1]
      rw [rRw_f h6]
      exact ⟨rfl, rfl⟩
  ·
    refine r_aload_n E (dat dkX2_readRow 0 rfl) rfl rfl ?_
    refine q_getn E fl_X2_35 (dat dkX2_readRow 1 rfl) rfl rfl rfl (go2_0 gfP_7) ?_
    refine r_bipush (v := 8) E (dat dkX2_readRow 2 rfl) rfl ?_
    refine q_icmp_lt (tgt := 15) E (dat dkX2_readRow 3 rfl) rfl rfl (b := 8) rfl (by omega) (by omega) (fun h6 => ?_) (fun h6 => ?_)
    ·
      refine r_aload_n E (dat dkX2_readRow 8 rfl) rfl rfl ?_
      refine q_getn E fl_X2_35 (dat dkX2_readRow 9 rfl) rfl rfl rfl (go2_0 gfP_7) ?_
      refine r_if_ne (tgt := 26) E (dat dkX2_readRow 10 rfl) rfl (fun h19 => ?_) (fun h19 => ?_)
      ·
        refine r_aload_n E (dat dkX2_readRow 13 rfl) rfl rfl ?_
        refine q_getn E fl_X2_39 (dat dkX2_readRow 14 rfl) rfl rfl rfl (go2_0 gfP_8) ?_
        refine r_istore_2 E (dat dkX2_readRow 15 rfl) rfl rfl ?_
        refine r_aload_n E (dat dkX2_readRow 16 rfl) rfl rfl ?_
        refine q_getn E fl_X2_35 (dat dkX2_readRow 17 rfl) rfl rfl rfl (go2_0 gfP_7) ?_
        refine r_if_ne (tgt := 43) E (dat dkX2_readRow 18 rfl) rfl (fun h35 => ?_) (fun h35 => ?_)
        ·
          refine r_aload_n E (dat dkX2_readRow 21 rfl) rfl rfl ?_
          refine q_getn E fl_X2_39 (dat dkX2_readRow 22 rfl) rfl rfl rfl (go2_0 gfP_8) ?_
          refine r_istore_3 E (dat dkX2_readRow 23 rfl) rfl rfl ?_
          refine r_iconst (v := 0) E (dat dkX2_readRow 24 rfl) rfl ?_
          refine r_istore_4 E (dat dkX2_readRow 25 rfl) rfl rfl ?_
          refine r_while (β := Nat × (Nat → Int32) × TT) (fun x => mo - x.1) (fun x => x.1 ≤ mo ∧ x.2.2.1 ≤ n ∧ rwF bs n z lea (mo - x.1) x.1 x.2.1 x.2.2 = (rwF bs n z lea mo 0 he ((p, ki, st, va, ec, eo) : TT))) (fun x => m2 (vP B1 (nI (u)) (nI (v)) (nI (z)) bc fr (x.2.1) gu be nm nl bh fp n0 n1 n2 n3) (vT B0 (nI n) (nI (x.2.2).1) (x.2.2).2.1 (x.2.2).2.2.1 (x.2.2).2.2.2.1 (x.2.2).2.2.2.2.1 (x.2.2).2.2.2.2.2 bs) M0) (fun x => [some (rv 0 0), some (rv 1 0), some (iv (nI lea)), some (iv (nI mo)), some (iv (nI x.1))]) ((0, he, ((p, ki, st, va, ec, eo) : TT))) ⟨Nat.zero_le _, hp, rfl⟩ rfl (by first | rfl | (rw [hl, hm]; done) | (rw [hl, hm]; rfl)) ?_
          intro y hI kk0
          obtain ⟨cnt, he2, p2, ki2, st2, va2, ec2, eo2⟩ := y
          dsimp only at hI ⊢
          refine r_iload E (dat dkX2_readRow 26 rfl) rfl ?_
          refine r_iload_n E (dat dkX2_readRow 27 rfl) rfl rfl ?_
          refine q_icmp_ge (tgt := 134) E (dat dkX2_readRow 28 rfl) rfl rfl rfl (by omega) (by omega) (fun h54 => ?_) (fun h54 => ?_)
          ·
            refine r_aload_n E (dat dkX2_readRow 70 rfl) rfl rfl ?_
            refine r_iload_n E (dat dkX2_readRow 71 rfl) rfl rfl ?_
            refine r_callV (κ := 2) (μ := [0]) E (sp_X2_endRow l G B1 z bc fr (he2) gu be nm nl bh fp n0 n1 n2 n3 (nI v) u (mo) _ rfl) my_X2_endRow iv_X2_endRow ml_X2_109 (cm_of rfl) ⟨by decide, rfl, rfl⟩ rfl rfl rfl rfl (by decide) (Nat.le_of_ble_eq_true rfl) (dat dkX2_readRow 72 rfl) ?_
            rintro _ _ ⟨rfl, rfl⟩
            refine ⟨_, Mrg_e (by decide) (by decide) pm2_0 rfl, ?_⟩
            refine r_aload_n E (dat dkX2_readRow 73 rfl) rfl rfl ?_
            refine r_callV (κ := 3) (μ := [1]) E (sp_X6_takeSemicolon l G B0 n (ki2) (st2) (va2) (ec2) (eo2) bs (p2) _ rfl hI.2.1 hn) my_X6_takeSemicolon iv_X6_takeSemicolon ml_X2_116 (cm_of rfl) ⟨by decide, rfl, rfl⟩ rfl rfl rfl rfl (by decide) (Nat.le_of_ble_eq_true rfl) (dat dkX2_readRow 74 rfl) ?_
            rintro _ _ ⟨rfl, rfl⟩
            refine ⟨_, Mrg_e (by decide) (by decide) pm2_1 rfl, ?_⟩
            refine r_zreturn E (dat dkX2_readRow 75 rfl) fe_b (by decide) (by decide) ?_
            rw [pm2_0, pm2_1]
            rw [rRw_2 h6 ((rwF_no (t := (p2, ki2, st2, va2, ec2, eo2)) h54).symm.trans hI.2.2)]
            exact ⟨rfl, rfl⟩
          ·
            refine r_aload_n E (dat dkX2_readRow 29 rfl) rfl rfl ?_
            refine r_callV (κ := 3) (μ := [1]) E (sp_X6_next l G B0 n (ki2) (st2) (va2) (ec2) (eo2) bs (p2) _ rfl hI.2.1 hn) my_X6_next iv_X6_next ml_X2_63 (cm_of rfl) ⟨by decide, rfl, rfl⟩ rfl rfl rfl rfl (by decide) (Nat.le_of_ble_eq_true rfl) (dat dkX2_readRow 30 rfl) ?_
            rintro _ _ ⟨rfl, rfl⟩
            refine ⟨_, Mrg_e (by decide) (by decide) pm2_1 rfl, ?_⟩
            refine r_aload_n E (dat dkX2_readRow 31 rfl) rfl rfl ?_
            refine q_getn E fl_X2_66 (dat dkX2_readRow 32 rfl) rfl rfl rfl (go2_1 gfT_3) ?_
            refine r_iconst (v := 3) E (dat dkX2_readRow 33 rfl) rfl ?_
            refine r_icmp_ne (tgt := 83) E (dat dkX2_readRow 34 rfl) rfl (fun h66 => ?_) (fun h66 => ?_)
            ·
              refine r_aload_n E (dat dkX2_readRow 43 rfl) rfl rfl ?_
              refine q_getn E fl_X2_66 (dat dkX2_readRow 44 rfl) rfl rfl rfl (go2_1 gfT_3) ?_
              refine r_iconst (v := 2) E (dat dkX2_readRow 45 rfl) rfl ?_
              refine r_icmp_eq (tgt := 97) E (dat dkX2_readRow 46 rfl) rfl (fun h88 => ?_) (fun h88 => ?_)
              ·
                refine r_aload_n E (dat dkX2_readRow 51 rfl) rfl rfl ?_
                refine q_getn E fl_X2_113 (dat dkX2_readRow 52 rfl) rfl rfl rfl (go2_1 gfT_5) ?_
                refine r_bipush (v := 9) E (dat dkX2_readRow 53 rfl) rfl ?_
                refine r_icmp_le (tgt := 112) E (dat dkX2_readRow 54 rfl) rfl (fun h103 => ?_) (fun h103 => ?_)
                ·
                  refine r_aload_n E (dat dkX2_readRow 59 rfl) rfl rfl ?_
                  refine q_geta E fl_X2_9 (dat dkX2_readRow 60 rfl) rfl rfl rfl ?_
                  refine r_aload_n E (dat dkX2_readRow 61 rfl) rfl rfl ?_
                  refine q_getn E fl_X2_42 (dat dkX2_readRow 62 rfl) rfl rfl rfl (go2_0 gfP_9) ?_
                  refine r_iload E (dat dkX2_readRow 63 rfl) rfl ?_
                  refine r_iadd E (dat dkX2_readRow 64 rfl) ?_
                  refine r_aload_n E (dat dkX2_readRow 65 rfl) rfl rfl ?_
                  refine q_getn E fl_X2_113 (dat dkX2_readRow 66 rfl) rfl rfl rfl (go2_1 gfT_5) ?_
                  refine q_iast E (dat dkX2_readRow 67 rfl) rfl rfl (by decide) (gg2_0 gaP_1) (fun _ => sa2_0 paP_1) (nI_add _ _) (show z + cnt < 64 by (have := hz h6); omega) ?_
                  refine q_iinc_4 E (dat dkX2_readRow 68 rfl) rfl rfl ?_
                  refine r_goto (tgt := 51) E (dat dkX2_readRow 69 rfl) rfl ?_
                  exact kk0 (cnt + 1, upd he2 (z + cnt) (tV bs n p2 va2), tNx bs n (p2, ki2, st2, va2, ec2, eo2)) ⟨by omega, (tP_le hI.2.1).2, (rwF_go (t := (p2, ki2, st2, va2, ec2, eo2)) h54 h88 (i32_nlt h103)).trans hI.2.2⟩ (by show mo - (cnt + 1) < mo - cnt; omega)
                ·
                  refine r_aload_n E (dat dkX2_readRow 55 rfl) rfl rfl ?_
                  refine r_iconst (v := 2) E (dat dkX2_readRow 56 rfl) rfl ?_
                  refine r_callV (κ := 3) (μ := [1]) E (sp_X6_fail l G B0 n (nI (tP bs n p2)) (tK bs n p2) (nI (tS bs n p2)) (tV bs n p2 va2) (ec2) (eo2) bs 2 _ rfl) my_X6_fail iv_X6_fail ml_X2_73 (cm_of rfl) ⟨by decide, rfl, rfl⟩ rfl rfl rfl rfl (by decide) (Nat.le_of_ble_eq_true rfl) (dat dkX2_readRow 57 rfl) ?_
                  rintro _ _ ⟨rfl, rfl⟩
                  refine ⟨_, Mrg_e (by decide) (by decide) pm2_1 rfl, ?_⟩
                  refine r_zreturn E (dat dkX2_readRow 58 rfl) rfl (by decide) (by decide) ?_
                  rw [pm2_0, pm2_1]
                  rw [rRw_0 h6 ((rwF_3 (t := (p2, ki2, st2, va2, ec2, eo2)) h54 h88 (i32_nle h103)).symm.trans hI.2.2)]
                  exact ⟨rfl, rfl⟩
              ·
                refine r_aload_n E (dat dkX2_readRow 47 rfl) rfl rfl ?_
                refine r_iconst (v := 1) E (dat dkX2_readRow 48 rfl) rfl ?_
                refine r_callV (κ := 3) (μ := [1]) E (sp_X6_fail l G B0 n (nI (tP bs n p2)) (tK bs n p2) (nI (tS bs n p2)) (tV bs n p2 va2) (ec2) (eo2) bs 1 _ rfl) my_X6_fail iv_X6_fail ml_X2_73 (cm_of rfl) ⟨by decide, rfl, rfl⟩ rfl rfl rfl rfl (by decide) (Nat.le_of_ble_eq_true rfl) (dat dkX2_readRow 49 rfl) ?_
                rintro _ _ ⟨rfl, rfl⟩
                refine ⟨_, Mrg_e (by decide) (by decide) pm2_1 rfl, ?_⟩
                refine r_zreturn E (dat dkX2_readRow 50 rfl) rfl (by decide) (by decide) ?_
                rw [pm2_0, pm2_1]
                first
                  | (rw [rRw_0 h6 ((rwF_2 (t := (p2, ki2, st2, va2, ec2, eo2)) h54 (fun q => h66 q.1) h88).symm.trans hI.2.2)]; exact ⟨rfl, rfl⟩)
                  | (rw [rRw_0 h6 ((rwF_2 (t := (p2, ki2, st2, va2, ec2, eo2)) h54 (fun q => absurd q.2 (by omega)) h88).symm.trans hI.2.2)]; exact ⟨rfl, rfl⟩)
            ·
              refine r_iload E (dat dkX2_readRow 35 rfl) rfl ?_
              refine r_iload_n E (dat dkX2_readRow 36 rfl) rfl rfl ?_
              refine q_icmp_lt (tgt := 83) E (dat dkX2_readRow 37 rfl) rfl rfl rfl (by omega) (by omega) (fun h72 => ?_) (fun h72 => ?_)
              ·
                refine r_aload_n E (dat dkX2_readRow 43 rfl) rfl rfl ?_
                refine q_getn E fl_X2_66 (dat dkX2_readRow 44 rfl) rfl rfl rfl (go2_1 gfT_3) ?_
                refine r_iconst (v := 2) E (dat dkX2_readRow 45 rfl) rfl ?_
                refine r_icmp_eq (tgt := 97) E (dat dkX2_readRow 46 rfl) rfl (fun h88 => ?_) (fun h88 => ?_)
                ·
                  refine r_aload_n E (dat dkX2_readRow 51 rfl) rfl rfl ?_
                  refine q_getn E fl_X2_113 (dat dkX2_readRow 52 rfl) rfl rfl rfl (go2_1 gfT_5) ?_
                  refine r_bipush (v := 9) E (dat dkX2_readRow 53 rfl) rfl ?_
                  refine r_icmp_le (tgt := 112) E (dat dkX2_readRow 54 rfl) rfl (fun h103 => ?_) (fun h103 => ?_)
                  ·
                    refine r_aload_n E (dat dkX2_readRow 59 rfl) rfl rfl ?_
                    refine q_geta E fl_X2_9 (dat dkX2_readRow 60 rfl) rfl rfl rfl ?_
                    refine r_aload_n E (dat dkX2_readRow 61 rfl) rfl rfl ?_
                    refine q_getn E fl_X2_42 (dat dkX2_readRow 62 rfl) rfl rfl rfl (go2_0 gfP_9) ?_
                    refine r_iload E (dat dkX2_readRow 63 rfl) rfl ?_
                    refine r_iadd E (dat dkX2_readRow 64 rfl) ?_
                    refine r_aload_n E (dat dkX2_readRow 65 rfl) rfl rfl ?_
                    refine q_getn E fl_X2_113 (dat dkX2_readRow 66 rfl) rfl rfl rfl (go2_1 gfT_5) ?_
                    refine q_iast E (dat dkX2_readRow 67 rfl) rfl rfl (by decide) (gg2_0 gaP_1) (fun _ => sa2_0 paP_1) (nI_add _ _) (show z + cnt < 64 by (have := hz h6); omega) ?_
                    refine q_iinc_4 E (dat dkX2_readRow 68 rfl) rfl rfl ?_
                    refine r_goto (tgt := 51) E (dat dkX2_readRow 69 rfl) rfl ?_
                    exact kk0 (cnt + 1, upd he2 (z + cnt) (tV bs n p2 va2), tNx bs n (p2, ki2, st2, va2, ec2, eo2)) ⟨by omega, (tP_le hI.2.1).2, (rwF_go (t := (p2, ki2, st2, va2, ec2, eo2)) h54 h88 (i32_nlt h103)).trans hI.2.2⟩ (by show mo - (cnt + 1) < mo - cnt; omega)
                  ·
                    refine r_aload_n E (dat dkX2_readRow 55 rfl) rfl rfl ?_
                    refine r_iconst (v := 2) E (dat dkX2_readRow 56 rfl) rfl ?_
                    refine r_callV (κ := 3) (μ := [1]) E (sp_X6_fail l G B0 n (nI (tP bs n p2)) (tK bs n p2) (nI (tS bs n p2)) (tV bs n p2 va2) (ec2) (eo2) bs 2 _ rfl) my_X6_fail iv_X6_fail ml_X2_73 (cm_of rfl) ⟨by decide, rfl, rfl⟩ rfl rfl rfl rfl (by decide) (Nat.le_of_ble_eq_true rfl) (dat dkX2_readRow 57 rfl) ?_
                    rintro _ _ ⟨rfl, rfl⟩
                    refine ⟨_, Mrg_e (by decide) (by decide) pm2_1 rfl, ?_⟩
                    refine r_zreturn E (dat dkX2_readRow 58 rfl) rfl (by decide) (by decide) ?_
                    rw [pm2_0, pm2_1]
                    rw [rRw_0 h6 ((rwF_3 (t := (p2, ki2, st2, va2, ec2, eo2)) h54 h88 (i32_nle h103)).symm.trans hI.2.2)]
                    exact ⟨rfl, rfl⟩
                ·
                  refine r_aload_n E (dat dkX2_readRow 47 rfl) rfl rfl ?_
                  refine r_iconst (v := 1) E (dat dkX2_readRow 48 rfl) rfl ?_
                  refine r_callV (κ := 3) (μ := [1]) E (sp_X6_fail l G B0 n (nI (tP bs n p2)) (tK bs n p2) (nI (tS bs n p2)) (tV bs n p2 va2) (ec2) (eo2) bs 1 _ rfl) my_X6_fail iv_X6_fail ml_X2_73 (cm_of rfl) ⟨by decide, rfl, rfl⟩ rfl rfl rfl rfl (by decide) (Nat.le_of_ble_eq_true rfl) (dat dkX2_readRow 49 rfl) ?_
                  rintro _ _ ⟨rfl, rfl⟩
                  refine ⟨_, Mrg_e (by decide) (by decide) pm2_1 rfl, ?_⟩
                  refine r_zreturn E (dat dkX2_readRow 50 rfl) rfl (by decide) (by decide) ?_
                  rw [pm2_0, pm2_1]
                  first
                    | (rw [rRw_0 h6 ((rwF_2 (t := (p2, ki2, st2, va2, ec2, eo2)) h54 (fun q => h66 q.1) h88).symm.trans hI.2.2)]; exact ⟨rfl, rfl⟩)
                    | (rw [rRw_0 h6 ((rwF_2 (t := (p2, ki2, st2, va2, ec2, eo2)) h54 (fun q => absurd q.2 (by omega)) h88).symm.trans hI.2.2)]; exact ⟨rfl, rfl⟩)
              ·
                refine r_aload_n E (dat dkX2_readRow 38 rfl) rfl rfl ?_
                refine r_iload E (dat dkX2_readRow 39 rfl) rfl ?_
                refine r_callV (κ := 2) (μ := [0]) E (sp_X2_endRow l G B1 z bc fr (he2) gu be nm nl bh fp n0 n1 n2 n3 (nI v) u (cnt) _ rfl) my_X2_endRow iv_X2_endRow ml_X2_109 (cm_of rfl) ⟨by decide, rfl, rfl⟩ rfl rfl rfl rfl (by decide) (Nat.le_of_ble_eq_true rfl) (dat dkX2_readRow 40 rfl) ?_
                rintro _ _ ⟨rfl, rfl⟩
                refine ⟨_, Mrg_e (by decide) (by decide) pm2_0 rfl, ?_⟩
                refine r_iconst (v := 1) E (dat dkX2_readRow 41 rfl) rfl ?_
                refine r_zreturn E (dat dkX2_readRow 42 rfl) rfl (by decide) (by decide) ?_
                rw [pm2_0, pm2_1]
                rw [rRw_1 h6 ((rwF_1 (t := (p2, ki2, st2, va2, ec2, eo2)) h54 h66 h72).symm.trans hI.2.2)]
                exact ⟨rfl, rfl⟩
        ·
          exact absurd h35 (nI_ne0 hu (by omega))
      ·
        exact absurd h19 (nI_ne0 hu (by omega))
    ·
      refine r_aload_n E (dat dkX2_readRow 4 rfl) rfl rfl ?_
      refine r_iconst (v := 4) E (dat dkX2_readRow 5 rfl) rfl ?_
      refine r_callV (κ := 3) (μ := [1]) E (sp_X6_fail l G B0 n (nI (p)) (ki) (st) (va) (ec) (eo) bs 4 _ rfl) my_X6_fail iv_X6_fail ml_X2_73 (cm_of rfl) ⟨by decide, rfl, rfl⟩ rfl rfl rfl rfl (by decide) (Nat.le_of_ble_eq_true rfl) (dat dkX2_readRow 6 rfl) ?_
      rintro _ _ ⟨rfl, rfl⟩
      refine ⟨_, Mrg_e (by decide) (by decide) pm2_1 rfl, ?_⟩
      refine r_zreturn E (dat dkX2_readRow 7 rfl) rfl (by decide) (by decide) ?_
      rw [pm2_0, pm2_1]
      rw [rRw_f h6]
      exact ⟨rfl, rfl⟩
