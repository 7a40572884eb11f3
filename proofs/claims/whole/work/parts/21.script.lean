set_option maxRecDepth 100000 in
set_option maxHeartbeats 4000000 in
theorem sp_X4_readFirst (l : Launch) (G : GT) (B3 : Nat → Nat → Int32) (ct : Nat) (vb f1 f2 f3 : Nat → Int32) (B0 : Nat → Nat → Int32) (n : Nat) (ki st va ec eo : Int32) (bs : Nat → Int32) (p : Nat) (lo hi : Int32) (M : Mem) (hA0 : M 0 = (vC B3 (nI ct) (vb) (f1) (f2) (f3))) (hA1 : M 1 = (vT B0 (nI n) (nI (p)) (ki) (st) (va) (ec) (eo) bs)) (hct : ct < 30) (hp : p ≤ n) (hn : n ≤ 600) : MC l G yX4_readFirst cX4_readFirst 5 (some .boolean) ({ frames := 4, cells := 0, slots := 0, locals := 82 } : Room) [4, 3] lk0 [rv 0 0, rv 1 0, iv lo, iv hi] (M) (fun r M2 => r = some (iv (feI (tnC bs n p va lo hi) 1 0)) ∧ M2 = setm (setm M 0 (vC B3 (nI ct) (vb) (upd f1 ct (tV bs n p va)) (f2) (f3))) 1 (vT B0 (nI n) (nI (tP bs n (p))) (tK bs n (p)) (nI (tS bs n (p))) (tV bs n (p) (va)) (feI (tnC bs n p va lo hi) (ec) (tnC bs n p va lo hi)) (feI (tnC bs n p va lo hi) (eo) (nI (tS bs n (p)))) bs)) := by
  obtain ⟨M0, rfl⟩ : ∃ M0, M = m2 ((vC B3 (nI ct) (vb) (f1) (f2) (f3))) ((vT B0 (nI n) (nI (p)) (ki) (st) (va) (ec) (eo) bs)) M0 := ⟨M, (m2_of hA0 hA1).symm⟩
  clear hA0 hA1
  refine MC.of RX4 [some (rv 0 0), some (rv 1 0), some (iv lo), some (iv hi), none] 1 (by decide +kernel) rfl rfl rfl ?_
  intro pp ee ss mm aa bb me cd ad E
  refine r_aload_n E (dat dkX4_readFirst 0 rfl) rfl rfl ?_
  refine r_iload_n E (dat dkX4_readFirst 1 rfl) rfl rfl ?_
  refine r_iload_n E (dat dkX4_readFirst 2 rfl) rfl rfl ?_
  refine r_callV (κ := 3) (μ := [1]) E (sp_X6_takeNumber l G B0 n (ki) (st) (va) (ec) (eo) bs (p) (lo) (hi) _ rfl hp hn) my_X6_takeNumber iv_X6_takeNumber ml_X4_97 (cm_of rfl) ⟨by decide, rfl, rfl⟩ rfl rfl rfl rfl (by decide) (Nat.le_of_ble_eq_true rfl) (dat dkX4_readFirst 3 rfl) ?_
  rintro _ _ ⟨rfl, rfl⟩
  refine ⟨_, Mrg_e (by decide) (by decide) pm2_1 rfl, ?_⟩
  refine r_istore_4 E (dat dkX4_readFirst 4 rfl) rfl rfl ?_
  refine r_aload_n E (dat dkX4_readFirst 5 rfl) rfl rfl ?_
  refine q_geta E fl_X4_17 (dat dkX4_readFirst 6 rfl) rfl rfl rfl ?_
  refine r_aload_n E (dat dkX4_readFirst 7 rfl) rfl rfl ?_
  refine q_getn E fl_X4_27 (dat dkX4_readFirst 8 rfl) rfl rfl rfl (go2_0 gfC_4) ?_
  refine r_aload_n E (dat dkX4_readFirst 9 rfl) rfl rfl ?_
  refine q_getn E fl_X4_101 (dat dkX4_readFirst 10 rfl) rfl rfl rfl (go2_1 gfT_5) ?_
  refine q_iast E (dat dkX4_readFirst 11 rfl) rfl rfl (by decide) (gg2_0 gaC_2) (fun _ => sa2_0 paC_2) rfl (by omega) ?_
  refine r_iload E (dat dkX4_readFirst 12 rfl) rfl ?_
  refine r_zreturn E (dat dkX4_readFirst 13 rfl) fe_b (by decide) (by decide) ?_
  exact ⟨rfl, by rw [pm2_0, pm2_1]⟩

set_option maxRecDepth 100000 in
set_option maxHeartbeats 4000000 in
theorem sp_X4_readSecond (l : Launch) (G : GT) (B3 : Nat → Nat → Int32) (ct : Nat) (vb f1 f2 f3 : Nat → Int32) (B0 : Nat → Nat → Int32) (n : Nat) (ki st va ec eo : Int32) (bs : Nat → Int32) (p : Nat) (lo hi : Int32) (M : Mem) (hA0 : M 0 = (vC B3 (nI ct) (vb) (f1) (f2) (f3))) (hA1 : M 1 = (vT B0 (nI n) (nI (p)) (ki) (st) (va) (ec) (eo) bs)) (hct : ct < 30) (hp : p ≤ n) (hn : n ≤ 600) : MC l G yX4_readSecond cX4_readSecond 5 (some .boolean) ({ frames := 4, cells := 0, slots := 0, locals := 82 } : Room) [4, 3] lk0 [rv 0 0, rv 1 0, iv lo, iv hi] (M) (fun r M2 => r = some (iv (feI (tnC bs n p va lo hi) 1 0)) ∧ M2 = setm (setm M 0 (vC B3 (nI ct) (vb) (f1) (upd f2 ct (tV bs n p va)) (f3))) 1 (vT B0 (nI n) (nI (tP bs n (p))) (tK bs n (p)) (nI (tS bs n (p))) (tV bs n (p) (va)) (feI (tnC bs n p va lo hi) (ec) (tnC bs n p va lo hi)) (feI (tnC bs n p va lo hi) (eo) (nI (tS bs n (p)))) bs)) := by
  obtain ⟨M0, rfl⟩ : ∃ M0, M = m2 ((vC B3 (nI ct) (vb) (f1) (f2) (f3))) ((vT B0 (nI n) (nI (p)) (ki) (st) (va) (ec) (eo) bs)) M0 := ⟨M, (m2_of hA0 hA1).symm⟩
  clear hA0 hA1
  refine MC.of RX4 [some (rv 0 0), some (rv 1 0), some (iv lo), some (iv hi), none] 1 (by decide +kernel) rfl rfl rfl ?_
  intro pp ee ss mm aa bb me cd ad E
  refine r_aload_n E (dat dkX4_readSecond 0 rfl) rfl rfl ?_
  refine r_iload_n E (dat dkX4_readSecond 1 rfl) rfl rfl ?_
  refine r_iload_n E (dat dkX4_readSecond 2 rfl) rfl rfl ?_
  refine r_callV (κ := 3) (μ := [1]) E (sp_X6_takeNumber l G B0 n (ki) (st) (va) (ec) (eo) bs (p) (lo) (hi) _ rfl hp hn) my_X6_takeNumber iv_X6_takeNumber ml_X4_97 (cm_of rfl) ⟨by decide, rfl, rfl⟩ rfl rfl rfl rfl (by decide) (Nat.le_of_ble_eq_true rfl) (dat dkX4_readSecond 3 rfl) ?_
  rintro _ _ ⟨rfl, rfl⟩
  refine ⟨_, Mrg_e (by decide) (by decide) pm2_1 rfl, ?_⟩
  refine r_istore_4 E (dat dkX4_readSecond 4 rfl) rfl rfl ?_
  refine r_aload_n E (dat dkX4_readSecond 5 rfl) rfl rfl ?_
  refine q_geta E fl_X4_21 (dat dkX4_readSecond 6 rfl) rfl rfl rfl ?_
  refine r_aload_n E (dat dkX4_readSecond 7 rfl) rfl rfl ?_
  refine q_getn E fl_X4_27 (dat dkX4_readSecond 8 rfl) rfl rfl rfl (go2_0 gfC_4) ?_
  refine r_aload_n E (dat dkX4_readSecond 9 rfl) rfl rfl ?_
  refine q_getn E fl_X4_101 (dat dkX4_readSecond 10 rfl) rfl rfl rfl (go2_1 gfT_5) ?_
  refine q_iast E (dat dkX4_readSecond 11 rfl) rfl rfl (by decide) (gg2_0 gaC_3) (fun _ => sa2_0 paC_3) rfl (by omega) ?_
  refine r_iload E (dat dkX4_readSecond 12 rfl) rfl ?_
  refine r_zreturn E (dat dkX4_readSecond 13 rfl) fe_b (by decide) (by decide) ?_
  exact ⟨rfl, by rw [pm2_0, pm2_1]⟩

set_option maxRecDepth 100000 in
set_option maxHeartbeats 4000000 in
theorem sp_X4_readThird (l : Launch) (G : GT) (B3 : Nat → Nat → Int32) (ct : Nat) (vb f1 f2 f3 : Nat → Int32) (B0 : Nat → Nat → Int32) (n : Nat) (ki st va ec eo : Int32) (bs : Nat → Int32) (p : Nat) (lo hi : Int32) (M : Mem) (hA0 : M 0 = (vC B3 (nI ct) (vb) (f1) (f2) (f3))) (hA1 : M 1 = (vT B0 (nI n) (nI (p)) (ki) (st) (va) (ec) (eo) bs)) (hct : ct < 30) (hp : p ≤ n) (hn : n ≤ 600) : MC l G yX4_readThird cX4_readThird 5 (some .boolean) ({ frames := 4, cells := 0, slots := 0, locals := 82 } : Room) [4, 3] lk0 [rv 0 0, rv 1 0, iv lo, iv hi] (M) (fun r M2 => r = some (iv (feI (tnC bs n p va lo hi) 1 0)) ∧ M2 = setm (setm M 0 (vC B3 (nI ct) (vb) (f1) (f2) (upd f3 ct (tV bs n p va)))) 1 (vT B0 (nI n) (nI (tP bs n (p))) (tK bs n (p)) (nI (tS bs n (p))) (tV bs n (p) (va)) (feI (tnC bs n p va lo hi) (ec) (tnC bs n p va lo hi)) (feI (tnC bs n p va lo hi) (eo) (nI (tS bs n (p)))) bs)) := by
  obtain ⟨M0, rfl⟩ : ∃ M0, M = m2 ((vC B3 (nI ct) (vb) (f1) (f2) (f3))) ((vT B0 (nI n) (nI (p)) (ki) (st) (va) (ec) (eo) bs)) M0 := ⟨M, (m2_of hA0 hA1).symm⟩
  clear hA0 hA1
  refine MC.of RX4 [some (rv 0 0), some (rv 1 0), some (iv lo), some (iv hi), none] 1 (by decide +kernel) rfl rfl rfl ?_
  intro pp ee ss mm aa bb me cd ad E
  refine r_aload_n E (dat dkX4_readThird 0 rfl) rfl rfl ?_
  refine r_iload_n E (dat dkX4_readThird 1 rfl) rfl rfl ?_
  refine r_iload_n E (dat dkX4_readThird 2 rfl) rfl rfl ?_
  refine r_callV (κ := 3) (μ := [1]) E (sp_X6_takeNumber l G B0 n (ki) (st) (va) (ec) (eo) bs (p) (lo) (hi) _ rfl hp hn) my_X6_takeNumber iv_X6_takeNumber ml_X4_97 (cm_of rfl) ⟨by decide, rfl, rfl⟩ rfl rfl rfl rfl (by decide) (Nat.le_of_ble_eq_true rfl) (dat dkX4_readThird 3 rfl) ?_
  rintro _ _ ⟨rfl, rfl⟩
  refine ⟨_, Mrg_e (by decide) (by decide) pm2_1 rfl, ?_⟩
  refine r_istore_4 E (dat dkX4_readThird 4 rfl) rfl rfl ?_
  refine r_aload_n E (dat dkX4_readThird 5 rfl) rfl rfl ?_
  refine q_geta E fl_X4_24 (dat dkX4_readThird 6 rfl) rfl rfl rfl ?_
  refine r_aload_n E (dat dkX4_readThird 7 rfl) rfl rfl ?_
  refine q_getn E fl_X4_27 (dat dkX4_readThird 8 rfl) rfl rfl rfl (go2_0 gfC_4) ?_
  refine r_aload_n E (dat dkX4_readThird 9 rfl) rfl rfl ?_
  refine q_getn E fl_X4_101 (dat dkX4_readThird 10 rfl) rfl rfl rfl (go2_1 gfT_5) ?_
  refine q_iast E (dat dkX4_readThird 11 rfl) rfl rfl (by decide) (gg2_0 gaC_4) (fun _ => sa2_0 paC_4) rfl (by omega) ?_
  refine r_iload E (dat dkX4_readThird 12 rfl) rfl ?_
  refine r_zreturn E (dat dkX4_readThird 13 rfl) fe_b (by decide) (by decide) ?_
  exact ⟨rfl, by rw [pm2_0, pm2_1]⟩

set_option maxRecDepth 100000 in
set_option maxHeartbeats 4000000 in
theorem sp_X4_burstIfShut (l : Launch) (G : GT) (B0 : Nat → Nat → Int32) (mi ra rd fh dr ev dp sw : Int32) (w lv hr ht pl sp wt : Nat → Int32) (c : Nat) (x y : Int32) (M : Mem) (hA0 : M 0 = (vS B0 mi ra rd fh dr ev dp sw w lv hr ht pl sp wt)) (hc : c < 64) : MC l G yX4_burstIfShut cX4_burstIfShut 5 (some .boolean) ({ frames := 1, cells := 0, slots := 0, locals := 23 } : Room) [1] lk0 [rv 0 0, iv (nI c), iv x, iv y] (M) (fun r M2 => r = some (iv (if ht c ≤ 0 then 1 else 0)) ∧ M2 = (if ht c ≤ 0 then setm M 0 (vS B0 mi ra rd fh dr ev dp sw w lv (upd hr c x) (upd ht c y) pl sp wt) else M)) := by
  obtain ⟨M0, rfl⟩ : ∃ M0, M = m1 ((vS B0 mi ra rd fh dr ev dp sw w lv hr ht pl sp wt)) M0 := ⟨M, (m1_of hA0).symm⟩
  clear hA0
  refine MC.of RX4 [some (rv 0 0), some (iv (nI c)), some (iv x), some (iv y), none] 1 (by decide +kernel) rfl rfl rfl ?_
  intro pp ee ss mm aa bb me cd ad E
  refine r_aload_n E (dat dkX4_burstIfShut 0 rfl) rfl rfl ?_
  refine r_iload_n E (dat dkX4_burstIfShut 1 rfl) rfl rfl ?_
  refine r_callV (κ := 1) (μ := [0]) E (sp_X5_isOpen l G B0 mi ra rd fh dr ev dp sw w lv hr ht pl sp wt c _ rfl hc) my_X5_isOpen iv_X5_isOpen ml_X4_143 (cm_of rfl) ⟨by decide, rfl, rfl⟩ rfl rfl rfl rfl (by decide) (Nat.le_of_ble_eq_true rfl) (dat dkX4_burstIfShut 2 rfl) ?_
  rintro _ _ ⟨rfl, rfl⟩
  refine ⟨_, Mrg_z rfl, ?_⟩
  refine r_if_ne (tgt := 12) E (dat dkX4_burstIfShut 3 rfl) rfl (fun h5 => ?_) (fun h5 => ?_)
  ·
    refine r_iconst (v := 0) E (dat dkX4_burstIfShut 6 rfl) rfl ?_
    refine r_istore_4 E (dat dkX4_burstIfShut 7 rfl) rfl rfl ?_
    refine r_iload E (dat dkX4_burstIfShut 8 rfl) rfl ?_
    refine r_if_eq (tgt := 27) E (dat dkX4_burstIfShut 9 rfl) rfl (fun h17 => ?_) (fun h17 => ?_)
    ·
      refine r_iload E (dat dkX4_burstIfShut 15 rfl) rfl ?_
      refine r_zreturn E (dat dkX4_burstIfShut 16 rfl) rfl (by decide) (by decide) ?_
      first
        | exact absurd rfl h17
        | exact absurd h17 (by decide)
        | (have h := opI_0.mp h5; rw [if_pos h, if_pos h, pm1_0]; exact ⟨rfl, rfl⟩)
        | (have h := fun q => h5 (opI_0.mpr q); rw [if_neg h, if_neg h]; exact ⟨rfl, rfl⟩)
    ·
      refine r_aload_n E (dat dkX4_burstIfShut 10 rfl) rfl rfl ?_
      refine r_iload_n E (dat dkX4_burstIfShut 11 rfl) rfl rfl ?_
      refine r_iload_n E (dat dkX4_burstIfShut 12 rfl) rfl rfl ?_
      refine r_iload_n E (dat dkX4_burstIfShut 13 rfl) rfl rfl ?_
      refine r_callV (κ := 1) (μ := [0]) E (sp_X5_openHydrant l G B0 mi ra rd fh dr ev dp sw w lv hr ht pl sp wt c x y _ rfl hc) my_X5_openHydrant iv_X5_openHydrant ml_X4_146 (cm_of rfl) ⟨by decide, rfl, rfl⟩ rfl rfl rfl rfl (by decide) (Nat.le_of_ble_eq_true rfl) (dat dkX4_burstIfShut 14 rfl) ?_
      rintro _ _ ⟨rfl, rfl⟩
      refine ⟨_, Mrg_e (by decide) (by decide) pm1_0 rfl, ?_⟩
      refine r_iload E (dat dkX4_burstIfShut 15 rfl) rfl ?_
      refine r_zreturn E (dat dkX4_burstIfShut 16 rfl) rfl (by decide) (by decide) ?_
      first
        | exact absurd rfl h17
        | exact absurd h17 (by decide)
        | (have h := opI_0.mp h5; rw [if_pos h, if_pos h, pm1_0]; exact ⟨rfl, rfl⟩)
        | (have h := fun q => h5 (opI_0.mpr q); rw [if_neg h, if_neg h]; exact ⟨rfl, rfl⟩)
  ·
    refine r_iconst (v := 1) E (dat dkX4_burstIfShut 4 rfl) rfl ?_
    refine r_goto (tgt := 13) E (dat dkX4_burstIfShut 5 rfl) rfl ?_
    refine r_istore_4 E (dat dkX4_burstIfShut 7 rfl) rfl rfl ?_
    refine r_iload E (dat dkX4_burstIfShut 8 rfl) rfl ?_
    refine r_if_eq (tgt := 27) E (dat dkX4_burstIfShut 9 rfl) rfl (fun h17 => ?_) (fun h17 => ?_)
    ·
      refine r_iload E (dat dkX4_burstIfShut 15 rfl) rfl ?_
      refine r_zreturn E (dat dkX4_burstIfShut 16 rfl) rfl (by decide) (by decide) ?_
      first
        | exact absurd rfl h17
        | exact absurd h17 (by decide)
        | (have h := opI_0.mp h5; rw [if_pos h, if_pos h, pm1_0]; exact ⟨rfl, rfl⟩)
        | (have h := fun q => h5 (opI_0.mpr q); rw [if_neg h, if_neg h]; exact ⟨rfl, rfl⟩)
    ·
      refine r_aload_n E (dat dkX4_burstIfShut 10 rfl) rfl rfl ?_
      refine r_iload_n E (dat dkX4_burstIfShut 11 rfl) rfl rfl ?_
      refine r_iload_n E (dat dkX4_burstIfShut 12 rfl) rfl rfl ?_
      refine r_iload_n E (dat dkX4_burstIfShut 13 rfl) rfl rfl ?_
      refine r_callV (κ := 1) (μ := [0]) E (sp_X5_openHydrant l G B0 mi ra rd fh dr ev dp sw w lv hr ht pl sp wt c x y _ rfl hc) my_X5_openHydrant iv_X5_openHydrant ml_X4_146 (cm_of rfl) ⟨by decide, rfl, rfl⟩ rfl rfl rfl rfl (by decide) (Nat.le_of_ble_eq_true rfl) (dat dkX4_burstIfShut 14 rfl) ?_
      rintro _ _ ⟨rfl, rfl⟩
      refine ⟨_, Mrg_e (by decide) (by decide) pm1_0 rfl, ?_⟩
      refine r_iload E (dat dkX4_burstIfShut 15 rfl) rfl ?_
      refine r_zreturn E (dat dkX4_burstIfShut 16 rfl) rfl (by decide) (by decide) ?_
      first
        | exact absurd rfl h17
        | exact absurd h17 (by decide)
        | (have h := opI_0.mp h5; rw [if_pos h, if_pos h, pm1_0]; exact ⟨rfl, rfl⟩)
        | (have h := fun q => h5 (opI_0.mpr q); rw [if_neg h, if_neg h]; exact ⟨rfl, rfl⟩)

set_option maxRecDepth 100000 in
set_option maxHeartbeats 4000000 in
theorem sp_X4_shutIfOpen (l : Launch) (G : GT) (B0 : Nat → Nat → Int32) (mi ra rd fh dr ev dp sw : Int32) (w lv hr ht pl sp wt : Nat → Int32) (c : Nat) (M : Mem) (hA0 : M 0 = (vS B0 mi ra rd fh dr ev dp sw w lv hr ht pl sp wt)) (hc : c < 64) : MC l G yX4_shutIfOpen cX4_shutIfOpen 3 (some .boolean) ({ frames := 1, cells := 0, slots := 0, locals := 22 } : Room) [1] lk0 [rv 0 0, iv (nI c)] (M) (fun r M2 => r = some (iv (opI (ht c))) ∧ M2 = (if ht c ≤ 0 then M else setm M 0 (vS B0 mi ra rd fh dr ev dp sw w lv (upd hr c 0) (upd ht c 0) pl sp wt))) := by
  obtain ⟨M0, rfl⟩ : ∃ M0, M = m1 ((vS B0 mi ra rd fh dr ev dp sw w lv hr ht pl sp wt)) M0 := ⟨M, (m1_of hA0).symm⟩
  clear hA0
  refine MC.of RX4 [some (rv 0 0), some (iv (nI c)), none] 1 (by decide +kernel) rfl rfl rfl ?_
  intro pp ee ss mm aa bb me cd ad E
  refine r_aload_n E (dat dkX4_shutIfOpen 0 rfl) rfl rfl ?_
  refine r_iload_n E (dat dkX4_shutIfOpen 1 rfl) rfl rfl ?_
  refine r_callV (κ := 1) (μ := [0]) E (sp_X5_isOpen l G B0 mi ra rd fh dr ev dp sw w lv hr ht pl sp wt c _ rfl hc) my_X5_isOpen iv_X5_isOpen ml_X4_143 (cm_of rfl) ⟨by decide, rfl, rfl⟩ rfl rfl rfl rfl (by decide) (Nat.le_of_ble_eq_true rfl) (dat dkX4_shutIfOpen 2 rfl) ?_
  rintro _ _ ⟨rfl, rfl⟩
  refine ⟨_, Mrg_z rfl, ?_⟩
  refine r_istore_2 E (dat dkX4_shutIfOpen 3 rfl) rfl rfl ?_
  refine r_iload_n E (dat dkX4_shutIfOpen 4 rfl) rfl rfl ?_
  refine r_if_eq (tgt := 16) E (dat dkX4_shutIfOpen 5 rfl) rfl (fun h7 => ?_) (fun h7 => ?_)
  ·
    refine r_iload_n E (dat dkX4_shutIfOpen 10 rfl) rfl rfl ?_
    refine r_zreturn E (dat dkX4_shutIfOpen 11 rfl) op_b (by decide) (by decide) ?_
    first
      | (have h := opI_0.mp h7; rw [if_pos h]; exact ⟨rfl, rfl⟩)
      | (have h := fun q => h7 (opI_0.mpr q); rw [if_neg h, pm1_0]; exact ⟨rfl, rfl⟩)
  ·
    refine r_aload_n E (dat dkX4_shutIfOpen 6 rfl) rfl rfl ?_
    refine r_iload_n E (dat dkX4_shutIfOpen 7 rfl) rfl rfl ?_
    refine r_callV (κ := 1) (μ := [0]) E (sp_X5_shutHydrant l G B0 mi ra rd fh dr ev dp sw w lv hr ht pl sp wt c _ rfl hc) my_X5_shutHydrant iv_X5_shutHydrant ml_X4_150 (cm_of rfl) ⟨by decide, rfl, rfl⟩ rfl rfl rfl rfl (by decide) (Nat.le_of_ble_eq_true rfl) (dat dkX4_shutIfOpen 8 rfl) ?_
    rintro _ _ ⟨rfl, rfl⟩
    refine ⟨_, Mrg_e (by decide) (by decide) pm1_0 rfl, ?_⟩
    refine r_pop E (dat dkX4_shutIfOpen 9 rfl) rfl ?_
    refine r_iload_n E (dat dkX4_shutIfOpen 10 rfl) rfl rfl ?_
    refine r_zreturn E (dat dkX4_shutIfOpen 11 rfl) op_b (by decide) (by decide) ?_
    first
      | (have h := opI_0.mp h7; rw [if_pos h]; exact ⟨rfl, rfl⟩)
      | (have h := fun q => h7 (opI_0.mpr q); rw [if_neg h, pm1_0]; exact ⟨rfl, rfl⟩)

set_option maxRecDepth 100000 in
set_option maxHeartbeats 4000000 in
theorem sp_X4_throwIfPossible (l : Launch) (G : GT) (B0 : Nat → Nat → Int32) (mi ra rd fh dr ev dp sw : Int32) (w lv hr ht pl sp wt : Nat → Int32) (B1 : Nat → Nat → Int32) (ro co : Int32) (n : Nat) (bc fr : Int32) (he gu be nm nl bh fp n0 n1 n2 n3 : Nat → Int32) (nb : Nat → Nat → Option Nat) (hbe : ∀ c d, c < n → d < 4 → be (c * 4 + d) = oI (nb c d)) (hnb : ∀ c d k, nb c d = some k → k < n) (b q : Nat) (M : Mem) (hA0 : M 0 = (vP B1 ro co (nI n) bc fr he gu be nm nl bh fp n0 n1 n2 n3)) (hA1 : M 1 = (vS B0 mi ra rd fh dr ev dp sw w lv hr ht pl sp wt)) (hn : n ≤ 64) (hb : b < 4) (hq : pl b = nI q) (hqn : q < n) : MC l G yX4_throwIfPossible cX4_throwIfPossible 4 (some .boolean) ({ frames := 3, cells := 0, slots := 0, locals := 70 } : Room) [2, 1] lk0 [rv 0 0, rv 1 0, iv (nI b)] (M) (fun r M2 => r = some (iv (opI (w q))) ∧ M2 = (if w q ≤ 0 then M else setm M 1 (vS B0 mi ra rd fh dr ev dp sw (upd (thW nb q (w q / 5) w 4).1 q ((thW nb q (w q / 5) w 4).1 q - (thW nb q (w q / 5) w 4).2)) lv hr ht pl (upd sp b (sp b + 1)) wt))) := by
  obtain ⟨M0, rfl⟩ : ∃ M0, M = m2 ((vP B1 ro co (nI n) bc fr he gu be nm nl bh fp n0 n1 n2 n3)) ((vS B0 mi ra rd fh dr ev dp sw w lv hr ht pl sp wt)) M0 := ⟨M, (m2_of hA0 hA1).symm⟩
  clear hA0 hA1
  refine MC.of RX4 [some (rv 0 0), some (rv 1 0), some (iv (nI b)), none] 1 (by decide +kernel) rfl rfl rfl ?_
  intro pp ee ss mm aa bb me cd ad E
  refine r_aload_n E (dat dkX4_throwIfPossible 0 rfl) rfl rfl ?_
  refine r_iload_n E (dat dkX4_throwIfPossible 1 rfl) rfl rfl ?_
  refine r_callV (κ := 1) (μ := [1]) E (sp_X5_canThrow l G B0 mi ra rd fh dr ev dp sw w lv hr ht pl sp wt b q _ rfl hb hq (by omega)) my_X5_canThrow iv_X5_canThrow ml_X4_161 (cm_of rfl) ⟨by decide, rfl, rfl⟩ rfl rfl rfl rfl (by decide) (Nat.le_of_ble_eq_true rfl) (dat dkX4_throwIfPossible 2 rfl) ?_
  rintro _ _ ⟨rfl, rfl⟩
  refine ⟨_, Mrg_z rfl, ?_⟩
  refine r_istore_3 E (dat dkX4_throwIfPossible 3 rfl) rfl rfl ?_
  refine r_iload_n E (dat dkX4_throwIfPossible 4 rfl) rfl rfl ?_
  refine r_if_eq (tgt := 17) E (dat dkX4_throwIfPossible 5 rfl) rfl (fun h7 => ?_) (fun h7 => ?_)
  ·
    refine r_iload_n E (dat dkX4_throwIfPossible 11 rfl) rfl rfl ?_
    refine r_zreturn E (dat dkX4_throwIfPossible 12 rfl) op_b (by decide) (by decide) ?_
    first
      | (have h := opI_0.mp h7; rw [if_pos h]; exact ⟨rfl, rfl⟩)
      | (have h := fun q => h7 (opI_0.mpr q); rw [if_neg h, pm2_1]; exact ⟨rfl, rfl⟩)
  ·
    refine r_aload_n E (dat dkX4_throwIfPossible 6 rfl) rfl rfl ?_
    refine r_aload_n E (dat dkX4_throwIfPossible 7 rfl) rfl rfl ?_
    refine r_iload_n E (dat dkX4_throwIfPossible 8 rfl) rfl rfl ?_
    refine r_callV (κ := 1) (μ := [1, 0]) E (sp_X5_throwWater l G B0 mi ra rd fh dr ev dp sw w lv hr ht pl sp wt B1 ro co n bc fr he gu be nm nl bh fp n0 n1 n2 n3 nb hbe hnb b q _ rfl rfl hn hb hq hqn) my_X5_throwWater iv_X5_throwWater ml_X4_164 (cm_of rfl) ⟨by decide, rfl, rfl⟩ rfl rfl rfl rfl (by decide) (Nat.le_of_ble_eq_true rfl) (dat dkX4_throwIfPossible 9 rfl) ?_
    rintro _ _ ⟨rfl, rfl⟩
    refine ⟨_, Mrg_e (i := 0) (by decide) (by decide) pm2_1 rfl, ?_⟩
    refine r_pop E (dat dkX4_throwIfPossible 10 rfl) rfl ?_
    refine r_iload_n E (dat dkX4_throwIfPossible 11 rfl) rfl rfl ?_
    refine r_zreturn E (dat dkX4_throwIfPossible 12 rfl) op_b (by decide) (by decide) ?_
    first
      | (have h := opI_0.mp h7; rw [if_pos h]; exact ⟨rfl, rfl⟩)
      | (have h := fun q => h7 (opI_0.mpr q); rw [if_neg h, pm2_1]; exact ⟨rfl, rfl⟩)

set_option maxRecDepth 100000 in
set_option maxHeartbeats 4000000 in
theorem sp_X4_passIfPossible (l : Launch) (G : GT) (B0 : Nat → Nat → Int32) (mi ra rd fh dr ev dp sw : Int32) (w lv hr ht pl sp wt : Nat → Int32) (B1 : Nat → Nat → Int32) (ro co : Int32) (n : Nat) (bc fr : Int32) (he gu be nm nl bh fp n0 n1 n2 n3 : Nat → Int32) (bcn t : Nat) (nb : Nat → Nat → Option Nat) (hbe : ∀ c d, c < n → d < 4 → be (c * 4 + d) = oI (nb c d)) (hnb : ∀ c d k, nb c d = some k → k < n) (M : Mem) (hA0 : M 0 = (vP B1 ro co (nI n) bc fr he gu be nm nl bh fp n0 n1 n2 n3)) (hA1 : M 1 = (vS B0 mi ra rd fh dr ev dp sw w lv hr ht pl sp wt)) (hn : n ≤ 64) (ht9 : t ≤ 999) (hbc : bc = nI bcn) (hb4 : bcn ≤ 4) (hpl : ∀ b, b < bcn → ∃ q, q < n ∧ pl b = nI q) : MC l G yX4_passIfPossible cX4_passIfPossible 4 (some .boolean) ({ frames := 5, cells := 0, slots := 0, locals := 118 } : Room) [2, 1] lk0 [rv 0 0, rv 1 0, iv (nI t)] (M) (fun r M2 => r = some (iv (if 999 < mi + nI t then 0 else 1)) ∧ M2 = (if 999 < mi + nI t then M else setm M 1 (mnN n bcn he gu bh nb (vS B0 mi ra rd fh dr ev dp sw w lv hr ht pl sp wt) t))) := by
  obtain ⟨M0, rfl⟩ : ∃ M0, M = m2 ((vP B1 ro co (nI n) bc fr he gu be nm nl bh fp n0 n1 n2 n3)) ((vS B0 mi ra rd fh dr ev dp sw w lv hr ht pl sp wt)) M0 := ⟨M, (m2_of hA0 hA1).symm⟩
  clear hA0 hA1
  refine MC.of RX4 [some (rv 0 0), some (rv 1 0), some (iv (nI t)), none] 1 (by decide +kernel) rfl rfl rfl ?_
  intro pp ee ss mm aa bb me cd ad E
  by_cases hm : 999 < mi + nI t
  ·
    rw [if_pos hm, if_pos hm]
    refine r_aload_n E (dat dkX4_passIfPossible 0 rfl) rfl rfl ?_
    refine r_iload_n E (dat dkX4_passIfPossible 1 rfl) rfl rfl ?_
    refine r_callV (κ := 1) (μ := [1]) E (sp_X5_canPass l G B0 mi ra rd fh dr ev dp sw w lv hr ht pl sp wt (nI t) _ rfl) my_X5_canPass iv_X5_canPass ml_X4_168 (cm_of rfl) ⟨by decide, rfl, rfl⟩ rfl rfl rfl rfl (by decide) (Nat.le_of_ble_eq_true rfl) (dat dkX4_passIfPossible 2 rfl) ?_
    rintro _ _ ⟨rfl, rfl⟩
    refine ⟨_, Mrg_z rfl, ?_⟩
    rw [if_pos hm]
    refine r_istore_3 E (dat dkX4_passIfPossible 3 rfl) rfl rfl ?_
    refine r_iload_n E (dat dkX4_passIfPossible 4 rfl) rfl rfl ?_
    refine r_if_eq (tgt := 16) E (dat dkX4_passIfPossible 5 rfl) rfl (fun h7 => ?_) (fun h7 => ?_)
    ·
      refine r_iload_n E (dat dkX4_passIfPossible 10 rfl) rfl rfl ?_
      refine r_zreturn E (dat dkX4_passIfPossible 11 rfl) rfl (by decide) (by decide) ?_
      exact ⟨rfl, rfl⟩
    ·
      exact absurd rfl h7
  ·
    rw [if_neg hm, if_neg hm]
    refine r_aload_n E (dat dkX4_passIfPossible 0 rfl) rfl rfl ?_
    refine r_iload_n E (dat dkX4_passIfPossible 1 rfl) rfl rfl ?_
    refine r_callV (κ := 1) (μ := [1]) E (sp_X5_canPass l G B0 mi ra rd fh dr ev dp sw w lv hr ht pl sp wt (nI t) _ rfl) my_X5_canPass iv_X5_canPass ml_X4_168 (cm_of rfl) ⟨by decide, rfl, rfl⟩ rfl rfl rfl rfl (by decide) (Nat.le_of_ble_eq_true rfl) (dat dkX4_passIfPossible 2 rfl) ?_
    rintro _ _ ⟨rfl, rfl⟩
    refine ⟨_, Mrg_z rfl, ?_⟩
    rw [if_neg hm]
    refine r_istore_3 E (dat dkX4_passIfPossible 3 rfl) rfl rfl ?_
    refine r_iload_n E (dat dkX4_passIfPossible 4 rfl) rfl rfl ?_
    refine r_if_eq (tgt := 16) E (dat dkX4_passIfPossible 5 rfl) rfl (fun h7 => ?_) (fun h7 => ?_)
    ·
      exact absurd h7 (by decide)
    ·
      refine r_aload_n E (dat dkX4_passIfPossible 6 rfl) rfl rfl ?_
      refine r_aload_n E (dat dkX4_passIfPossible 7 rfl) rfl rfl ?_
      refine r_iload_n E (dat dkX4_passIfPossible 8 rfl) rfl rfl ?_
      refine r_callV (κ := 1) (μ := [1, 0]) E (sp_X5_letPass l G B0 mi ra rd fh dr ev dp sw w lv hr ht pl sp wt B1 ro co n bc fr he gu be nm nl bh fp n0 n1 n2 n3 bcn t nb hbe hnb _ rfl rfl hn ht9 hbc hb4 hpl) my_X5_letPass iv_X5_letPass ml_X4_171 (cm_of rfl) ⟨by decide, rfl, rfl⟩ rfl rfl rfl rfl (by decide) (Nat.le_of_ble_eq_true rfl) (dat dkX4_passIfPossible 9 rfl) ?_
      rintro _ _ ⟨rfl, rfl⟩
      refine ⟨_, Mrg_e (i := 0) (by decide) (by decide) pm2_1 rfl, ?_⟩
      refine r_iload_n E (dat dkX4_passIfPossible 10 rfl) rfl rfl ?_
      refine r_zreturn E (dat dkX4_passIfPossible 11 rfl) rfl (by decide) (by decide) ?_
      exact ⟨rfl, by rw [pm2_1]⟩

set_option maxRecDepth 100000 in
set_option maxHeartbeats 4000000 in
theorem sp_X4_stepIfPossible (l : Launch) (G : GT) (B0 : Nat → Nat → Int32) (mi ra rd fh dr ev dp sw : Int32) (w lv hr ht pl sp wt : Nat → Int32) (B1 : Nat → Nat → Int32) (ro co : Int32) (n : Nat) (bc fr : Int32) (he gu be nm nl bh fp n0 n1 n2 n3 : Nat → Int32) (b q d : Nat) (o : Option Nat) (M : Mem) (hA0 : M 0 = (vP B1 ro co (nI n) bc fr he gu be nm nl bh fp n0 n1 n2 n3)) (hA1 : M 1 = (vS B0 mi ra rd fh dr ev dp sw w lv hr ht pl sp wt)) (hb : b < 4) (hq : pl b = nI q) (hqn : q < n) (hn : n ≤ 64) (hd : d < 4) (hbo : be (q * 4 + d) = oI o) (ho : ∀ k, o = some k → k < 64) : MC l G yX4_stepIfPossible cX4_stepIfPossible 5 (some .boolean) ({ frames := 3, cells := 0, slots := 0, locals := 67 } : Room) [2, 1] lk0 [rv 0 0, rv 1 0, iv (nI b), iv (nI d)] (M) (fun r M2 => match o with | none => r = some (iv 0) ∧ M2 = M | some k => r = some (iv 1) ∧ M2 = setm M 1 (vS B0 mi ra rd fh dr ev dp sw w lv hr ht (upd pl b (nI k)) sp (if bh b < w k then upd wt b 1 else wt))) := by
  obtain ⟨M0, rfl⟩ : ∃ M0, M = m2 ((vP B1 ro co (nI n) bc fr he gu be nm nl bh fp n0 n1 n2 n3)) ((vS B0 mi ra rd fh dr ev dp sw w lv hr ht pl sp wt)) M0 := ⟨M, (m2_of hA0 hA1).symm⟩
  clear hA0 hA1
  refine MC.of RX4 [some (rv 0 0), some (rv 1 0), some (iv (nI b)), some (iv (nI d)), none] 1 (by decide +kernel) rfl rfl rfl ?_
  intro pp ee ss mm aa bb me cd ad E
  rcases o with _ | k
  ·
    dsimp only
    refine r_aload_n E (dat dkX4_stepIfPossible 0 rfl) rfl rfl ?_
    refine r_aload_n E (dat dkX4_stepIfPossible 1 rfl) rfl rfl ?_
    refine r_iload_n E (dat dkX4_stepIfPossible 2 rfl) rfl rfl ?_
    refine r_iload_n E (dat dkX4_stepIfPossible 3 rfl) rfl rfl ?_
    refine r_callV (κ := 1) (μ := [1, 0]) E (sp_X5_canStep l G B0 mi ra rd fh dr ev dp sw w lv hr ht pl sp wt B1 ro co n bc fr he gu be nm nl bh fp n0 n1 n2 n3 b q d _ rfl rfl hb hq hqn hn hd) my_X5_canStep iv_X5_canStep ml_X4_153 (cm_of rfl) ⟨by decide, rfl, rfl⟩ rfl rfl rfl rfl (by decide) (Nat.le_of_ble_eq_true rfl) (dat dkX4_stepIfPossible 4 rfl) ?_
    rintro _ _ ⟨rfl, rfl⟩
    refine ⟨_, Mrg_z rfl, ?_⟩
    rw [if_pos (show be (q * 4 + d) = -1 from hbo)]
    refine r_istore_4 E (dat dkX4_stepIfPossible 5 rfl) rfl rfl ?_
    refine r_iload E (dat dkX4_stepIfPossible 6 rfl) rfl ?_
    refine r_if_eq (tgt := 21) E (dat dkX4_stepIfPossible 7 rfl) rfl (fun h11 => ?_) (fun h11 => ?_)
    ·
      refine r_iload E (dat dkX4_stepIfPossible 13 rfl) rfl ?_
      refine r_zreturn E (dat dkX4_stepIfPossible 14 rfl) rfl (by decide) (by decide) ?_
      exact ⟨rfl, rfl⟩
    ·
      exact absurd rfl h11
  ·
    dsimp only
    have hk := ho k rfl
    refine r_aload_n E (dat dkX4_stepIfPossible 0 rfl) rfl rfl ?_
    refine r_aload_n E (dat dkX4_stepIfPossible 1 rfl) rfl rfl ?_
    refine r_iload_n E (dat dkX4_stepIfPossible 2 rfl) rfl rfl ?_
    refine r_iload_n E (dat dkX4_stepIfPossible 3 rfl) rfl rfl ?_
    refine r_callV (κ := 1) (μ := [1, 0]) E (sp_X5_canStep l G B0 mi ra rd fh dr ev dp sw w lv hr ht pl sp wt B1 ro co n bc fr he gu be nm nl bh fp n0 n1 n2 n3 b q d _ rfl rfl hb hq hqn hn hd) my_X5_canStep iv_X5_canStep ml_X4_153 (cm_of rfl) ⟨by decide, rfl, rfl⟩ rfl rfl rfl rfl (by decide) (Nat.le_of_ble_eq_true rfl) (dat dkX4_stepIfPossible 4 rfl) ?_
    rintro _ _ ⟨rfl, rfl⟩
    refine ⟨_, Mrg_z rfl, ?_⟩
    rw [if_neg (fun q2 => absurd ((show be (q * 4 + d) = nI k from hbo).symm.trans q2) (fun q3 => nI_pos (n := k) (by omega) (q3 ▸ (by decide : (-1 : Int32) < 0))))]
    refine r_istore_4 E (dat dkX4_stepIfPossible 5 rfl) rfl rfl ?_
    refine r_iload E (dat dkX4_stepIfPossible 6 rfl) rfl ?_
    refine r_if_eq (tgt := 21) E (dat dkX4_stepIfPossible 7 rfl) rfl (fun h11 => ?_) (fun h11 => ?_)
    ·
      exact absurd h11 (by decide)
    ·
      refine r_aload_n E (dat dkX4_stepIfPossible 8 rfl) rfl rfl ?_
      refine r_aload_n E (dat dkX4_stepIfPossible 9 rfl) rfl rfl ?_
      refine r_iload_n E (dat dkX4_stepIfPossible 10 rfl) rfl rfl ?_
      refine r_iload_n E (dat dkX4_stepIfPossible 11 rfl) rfl rfl ?_
      refine r_callV (κ := 1) (μ := [1, 0]) E (sp_X5_step l G B0 mi ra rd fh dr ev dp sw w lv hr ht pl sp wt B1 ro co n bc fr he gu be nm nl bh fp n0 n1 n2 n3 b q d k _ rfl rfl hb hq hqn hn hd hbo hk) my_X5_step iv_X5_step ml_X4_157 (cm_of rfl) ⟨by decide, rfl, rfl⟩ rfl rfl rfl rfl (by decide) (Nat.le_of_ble_eq_true rfl) (dat dkX4_stepIfPossible 12 rfl) ?_
      rintro _ _ ⟨rfl, rfl⟩
      refine ⟨_, Mrg_e (i := 0) (by decide) (by decide) pm2_1 rfl, ?_⟩
      refine r_iload E (dat dkX4_stepIfPossible 13 rfl) rfl ?_
      refine r_zreturn E (dat dkX4_stepIfPossible 14 rfl) rfl (by decide) (by decide) ?_
      exact ⟨rfl, by rw [pm2_1]⟩

set_option maxRecDepth 100000 in
set_option maxHeartbeats 4000000 in
theorem sp_X4_readName (l : Launch) (G : GT) (B3 : Nat → Nat → Int32) (ct : Nat) (vb f1 f2 f3 : Nat → Int32) (B0 : Nat → Nat → Int32) (n : Nat) (ki st va ec eo : Int32) (bs : Nat → Int32) (p : Nat) (B1 : Nat → Nat → Int32) (ro co : Int32) (z : Nat) (bcn : Nat) (fr : Int32) (he gu be nm nl bh fp n0 n1 n2 n3 : Nat → Int32) (M : Mem) (hA0 : M 0 = (vC B3 (nI ct) (vb) (f1) (f2) (f3))) (hA1 : M 1 = (vT B0 (nI n) (nI (p)) (ki) (st) (va) (ec) (eo) bs)) (hA2 : M 2 = (vP B1 ro co (nI z) (nI bcn) fr he gu be nm nl bh fp n0 n1 n2 n3)) (nlN : Nat → Nat) (hb4 : bcn ≤ 4) (hnl : ∀ i, i < bcn → nl i = nI (nlN i) ∧ nlN i ≤ 6) (hct : ct < 30) (hp : p ≤ n) (hn : n ≤ 600) : MC l G yX4_readName cX4_readName 3 (some .boolean) ({ frames := 4, cells := 0, slots := 0, locals := 80 } : Room) [4, 3, 2] lk0 [rv 0 0, rv 1 0, rv 2 0] (M) (fun r M2 => if tmC bs n p = 0 then (if (nmS (gNm bs (tS bs n p) (tP bs n p) n0 n1 n2 n3 nlN) bcn 0) = -1 then r = some (iv 0) ∧ M2 = setm (setm M 0 (vC B3 (nI ct) (vb) (upd f1 ct (nmS (gNm bs (tS bs n p) (tP bs n p) n0 n1 n2 n3 nlN) bcn 0)) (f2) (f3))) 1 (vT B0 (nI n) (nI (tP bs n (p))) (tK bs n (p)) (nI (tS bs n (p))) (tV bs n (p) (va)) (3) (nI (tS bs n p)) bs) else r = some (iv 1) ∧ M2 = setm (setm M 0 (vC B3 (nI ct) (vb) (upd f1 ct (nmS (gNm bs (tS bs n p) (tP bs n p) n0 n1 n2 n3 nlN) bcn 0)) (f2) (f3))) 1 (vT B0 (nI n) (nI (tP bs n (p))) (tK bs n (p)) (nI (tS bs n (p))) (tV bs n (p) (va)) (ec) (eo) bs)) else r = some (iv 0) ∧ M2 = setm M 1 (vT B0 (nI n) (nI (tP bs n (p))) (tK bs n (p)) (nI (tS bs n (p))) (tV bs n (p) (va)) (feI (tmC bs n p) (ec) (tmC bs n p)) (feI (tmC bs n p) (eo) (nI (tS bs n (p)))) bs)) := by
  obtain ⟨M0, rfl⟩ : ∃ M0, M = m3 ((vC B3 (nI ct) (vb) (f1) (f2) (f3))) ((vT B0 (nI n) (nI (p)) (ki) (st) (va) (ec) (eo) bs)) ((vP B1 ro co (nI z) (nI bcn) fr he gu be nm nl bh fp n0 n1 n2 n3)) M0 := ⟨M, (m3_of hA0 hA1 hA2).symm⟩
  clear hA0 hA1 hA2
  refine MC.of RX4 [some (rv 0 0), some (rv 1 0), some (rv 2 0)] 0 (by decide +kernel) rfl rfl rfl ?_
  intro pp ee ss mm aa bb me cd ad E
  refine r_aload_n E (dat dkX4_readName 0 rfl) rfl rfl ?_
  refine r_callV (κ := 3) (μ := [1]) E (sp_X6_takeName l G B0 n (ki) (st) (va) (ec) (eo) bs (p) _ rfl hp hn) my_X6_takeName iv_X6_takeName ml_X4_104 (cm_of rfl) ⟨by decide, rfl, rfl⟩ rfl rfl rfl rfl (by decide) (Nat.le_of_ble_eq_true rfl) (dat dkX4_readName 1 rfl) ?_
  rintro _ _ ⟨rfl, rfl⟩
  refine ⟨_, Mrg_e (by decide) (by decide) pm3_1 rfl, ?_⟩
  refine r_if_ne (tgt := 9) E (dat dkX4_readName 2 rfl) rfl (fun h4 => ?_) (fun h4 => ?_)
  ·
    refine r_aload_n E (dat dkX4_readName 5 rfl) rfl rfl ?_
    refine q_geta E fl_X4_17 (dat dkX4_readName 6 rfl) rfl rfl rfl ?_
    refine r_aload_n E (dat dkX4_readName 7 rfl) rfl rfl ?_
    refine q_getn E fl_X4_27 (dat dkX4_readName 8 rfl) rfl rfl rfl (go3_0 gfC_4) ?_
    refine r_aload_n E (dat dkX4_readName 9 rfl) rfl rfl ?_
    refine r_aload_n E (dat dkX4_readName 10 rfl) rfl rfl ?_
    refine r_callV (κ := 2) (μ := [2, 1]) E (sp_X2_bootsNamed l G B1 ro co z bcn fr he gu be nm nl bh fp n0 n1 n2 n3 B0 n (tP bs n p) (tS bs n p) (tK bs n (p)) (tV bs n (p) (va)) (feI (tmC bs n p) (ec) (tmC bs n p)) (feI (tmC bs n p) (eo) (nI (tS bs n (p)))) bs _ rfl rfl nlN (by omega) hnl (tP_le (b := bs) hp).1 (tP_le (b := bs) hp).2 hn) my_X2_bootsNamed iv_X2_bootsNamed ml_X4_107 (cm_of rfl) ⟨by decide, rfl, rfl⟩ rfl rfl rfl rfl (by decide) (Nat.le_of_ble_eq_true rfl) (dat dkX4_readName 11 rfl) ?_
    rintro _ _ ⟨rfl, rfl⟩
    refine ⟨_, Mrg_z rfl, ?_⟩
    refine q_iast E (dat dkX4_readName 12 rfl) rfl rfl (by decide) (gg3_0 gaC_2) (fun _ => sa3_0 paC_2) rfl (by omega) ?_
    refine r_aload_n E (dat dkX4_readName 13 rfl) rfl rfl ?_
    refine q_geta E fl_X4_17 (dat dkX4_readName 14 rfl) rfl rfl rfl ?_
    refine r_aload_n E (dat dkX4_readName 15 rfl) rfl rfl ?_
    refine q_getn E fl_X4_27 (dat dkX4_readName 16 rfl) rfl rfl rfl (go3_0 gfC_4) ?_
    refine q_iald E (dat dkX4_readName 17 rfl) rfl rfl (by decide) (gg3_0 gaC_2) rfl (by omega) ?_
    rw [show upd f1 ct (nmS (gNm bs (tS bs n p) (tP bs n p) n0 n1 n2 n3 nlN) bcn 0) ct = (nmS (gNm bs (tS bs n p) (tP bs n p) n0 n1 n2 n3 nlN) bcn 0) by simp [upd]]
    refine r_iconst (v := -1) E (dat dkX4_readName 18 rfl) rfl ?_
    refine r_icmp_ne (tgt := 44) E (dat dkX4_readName 19 rfl) rfl (fun h33 => ?_) (fun h33 => ?_)
    ·
      refine r_iconst (v := 1) E (dat dkX4_readName 24 rfl) rfl ?_
      refine r_goto (tgt := 49) E (dat dkX4_readName 25 rfl) rfl ?_
      refine r_zreturn E (dat dkX4_readName 27 rfl) rfl (by decide) (by decide) ?_
      rw [if_pos (fe_n h4)]
      first
        | (rw [if_pos h33, pm3_0, pm3_1]; exact ⟨rfl, rfl⟩)
        | (rw [if_neg h33, pm3_0, pm3_1, fe_n h4]; exact ⟨rfl, rfl⟩)
    ·
      refine r_aload_n E (dat dkX4_readName 20 rfl) rfl rfl ?_
      refine r_iconst (v := 3) E (dat dkX4_readName 21 rfl) rfl ?_
      refine r_callV (κ := 3) (μ := [1]) E (sp_X6_fail l G B0 n (nI (tP bs n (p))) (tK bs n (p)) (nI (tS bs n (p))) (tV bs n (p) (va)) (feI (tmC bs n p) (ec) (tmC bs n p)) (feI (tmC bs n p) (eo) (nI (tS bs n (p)))) bs 3 _ rfl) my_X6_fail iv_X6_fail ml_X4_46 (cm_of rfl) ⟨by decide, rfl, rfl⟩ rfl rfl rfl rfl (by decide) (Nat.le_of_ble_eq_true rfl) (dat dkX4_readName 22 rfl) ?_
      rintro _ _ ⟨rfl, rfl⟩
      refine ⟨_, Mrg_e (by decide) (by decide) pm3_1 rfl, ?_⟩
      refine r_if_eq (tgt := 48) E (dat dkX4_readName 23 rfl) rfl (fun h41 => ?_) (fun h41 => ?_)
      ·
        refine r_iconst (v := 0) E (dat dkX4_readName 26 rfl) rfl ?_
        refine r_zreturn E (dat dkX4_readName 27 rfl) rfl (by decide) (by decide) ?_
        rw [if_pos (fe_n h4)]
        first
          | (rw [if_pos h33, pm3_0, pm3_1]; exact ⟨rfl, rfl⟩)
          | (rw [if_neg h33, pm3_0, pm3_1, fe_n h4]; exact ⟨rfl, rfl⟩)
      ·
        exact absurd rfl h41
  ·
    refine r_iconst (v := 0) E (dat dkX4_readName 3 rfl) rfl ?_
    refine r_zreturn E (dat dkX4_readName 4 rfl) rfl (by decide) (by decide) ?_
    rw [if_neg (fe_z h4), pm3_1]
    exact ⟨rfl, rfl⟩
