set_option maxRecDepth 100000 in
set_option maxHeartbeats 4000000 in
theorem sp_X6_isBlank (l : Launch) (G : GT) (x : Int32) (M : Mem)  : MC l G yX6_isBlank cX6_isBlank 1 (some .boolean) ({ frames := 0, cells := 0, slots := 0, locals := 0 } : Room) [] lk0 [iv x] (M) (fun r M2 => r = some (iv (bi (cB x))) ∧ M2 = M) := by
  refine MC.of RX6 [some (iv x)] 0 (by decide +kernel) rfl rfl rfl ?_
  intro pp ee ss mm aa bb me cd ad E
  refine r_iload_n E (dat dkX6_isBlank 0 rfl) rfl rfl ?_
  refine r_bipush (v := 32) E (dat dkX6_isBlank 1 rfl) rfl ?_
  refine r_icmp_eq (tgt := 12) E (dat dkX6_isBlank 2 rfl) rfl (fun h3 => ?_) (fun h3 => ?_)
  ·
    refine r_iconst (v := 1) E (dat dkX6_isBlank 6 rfl) rfl ?_
    refine r_goto (tgt := 17) E (dat dkX6_isBlank 7 rfl) rfl ?_
    refine r_zreturn E (dat dkX6_isBlank 9 rfl) rfl (by decide) (by decide) ?_
    refine ⟨?_, rfl⟩
    simp [cB, bi, *]
  ·
    refine r_iload_n E (dat dkX6_isBlank 3 rfl) rfl rfl ?_
    refine r_bipush (v := 10) E (dat dkX6_isBlank 4 rfl) rfl ?_
    refine r_icmp_ne (tgt := 16) E (dat dkX6_isBlank 5 rfl) rfl (fun h9 => ?_) (fun h9 => ?_)
    ·
      refine r_iconst (v := 0) E (dat dkX6_isBlank 8 rfl) rfl ?_
      refine r_zreturn E (dat dkX6_isBlank 9 rfl) rfl (by decide) (by decide) ?_
      refine ⟨?_, rfl⟩
      simp [cB, bi, *]
    ·
      refine r_iconst (v := 1) E (dat dkX6_isBlank 6 rfl) rfl ?_
      refine r_goto (tgt := 17) E (dat dkX6_isBlank 7 rfl) rfl ?_
      refine r_zreturn E (dat dkX6_isBlank 9 rfl) rfl (by decide) (by decide) ?_
      refine ⟨?_, rfl⟩
      simp [cB, bi, *]

set_option maxRecDepth 100000 in
set_option maxHeartbeats 4000000 in
theorem sp_X6_isLetter (l : Launch) (G : GT) (x : Int32) (M : Mem)  : MC l G yX6_isLetter cX6_isLetter 1 (some .boolean) ({ frames := 0, cells := 0, slots := 0, locals := 0 } : Room) [] lk0 [iv x] (M) (fun r M2 => r = some (iv (bi (cL x))) ∧ M2 = M) := by
  refine MC.of RX6 [some (iv x)] 0 (by decide +kernel) rfl rfl rfl ?_
  intro pp ee ss mm aa bb me cd ad E
  refine r_iload_n E (dat dkX6_isLetter 0 rfl) rfl rfl ?_
  refine r_bipush (v := 97) E (dat dkX6_isLetter 1 rfl) rfl ?_
  refine r_icmp_lt (tgt := 16) E (dat dkX6_isLetter 2 rfl) rfl (fun h3 => ?_) (fun h3 => ?_)
  ·
    refine r_iconst (v := 0) E (dat dkX6_isLetter 8 rfl) rfl ?_
    refine r_zreturn E (dat dkX6_isLetter 9 rfl) rfl (by decide) (by decide) ?_
    refine ⟨?_, rfl⟩
    simp [cL, bi, *]
  ·
    refine r_iload_n E (dat dkX6_isLetter 3 rfl) rfl rfl ?_
    refine r_bipush (v := 122) E (dat dkX6_isLetter 4 rfl) rfl ?_
    refine r_icmp_gt (tgt := 16) E (dat dkX6_isLetter 5 rfl) rfl (fun h9 => ?_) (fun h9 => ?_)
    ·
      refine r_iconst (v := 0) E (dat dkX6_isLetter 8 rfl) rfl ?_
      refine r_zreturn E (dat dkX6_isLetter 9 rfl) rfl (by decide) (by decide) ?_
      refine ⟨?_, rfl⟩
      simp [cL, bi, *]
    ·
      refine r_iconst (v := 1) E (dat dkX6_isLetter 6 rfl) rfl ?_
      refine r_goto (tgt := 17) E (dat dkX6_isLetter 7 rfl) rfl ?_
      refine r_zreturn E (dat dkX6_isLetter 9 rfl) rfl (by decide) (by decide) ?_
      refine ⟨?_, rfl⟩
      simp [cL, bi, *]

set_option maxRecDepth 100000 in
set_option maxHeartbeats 4000000 in
theorem sp_X6_isDigit (l : Launch) (G : GT) (x : Int32) (M : Mem)  : MC l G yX6_isDigit cX6_isDigit 1 (some .boolean) ({ frames := 0, cells := 0, slots := 0, locals := 0 } : Room) [] lk0 [iv x] (M) (fun r M2 => r = some (iv (bi (cD x))) ∧ M2 = M) := by
  refine MC.of RX6 [some (iv x)] 0 (by decide +kernel) rfl rfl rfl ?_
  intro pp ee ss mm aa bb me cd ad E
  refine r_iload_n E (dat dkX6_isDigit 0 rfl) rfl rfl ?_
  refine r_bipush (v := 48) E (dat dkX6_isDigit 1 rfl) rfl ?_
  refine r_icmp_lt (tgt := 16) E (dat dkX6_isDigit 2 rfl) rfl (fun h3 => ?_) (fun h3 => ?_)
  ·
    refine r_iconst (v := 0) E (dat dkX6_isDigit 8 rfl) rfl ?_
    refine r_zreturn E (dat dkX6_isDigit 9 rfl) rfl (by decide) (by decide) ?_
    refine ⟨?_, rfl⟩
    simp [cD, bi, *]
  ·
    refine r_iload_n E (dat dkX6_isDigit 3 rfl) rfl rfl ?_
    refine r_bipush (v := 57) E (dat dkX6_isDigit 4 rfl) rfl ?_
    refine r_icmp_gt (tgt := 16) E (dat dkX6_isDigit 5 rfl) rfl (fun h9 => ?_) (fun h9 => ?_)
    ·
      refine r_iconst (v := 0) E (dat dkX6_isDigit 8 rfl) rfl ?_
      refine r_zreturn E (dat dkX6_isDigit 9 rfl) rfl (by decide) (by decide) ?_
      refine ⟨?_, rfl⟩
      simp [cD, bi, *]
    ·
      refine r_iconst (v := 1) E (dat dkX6_isDigit 6 rfl) rfl ?_
      refine r_goto (tgt := 17) E (dat dkX6_isDigit 7 rfl) rfl ?_
      refine r_zreturn E (dat dkX6_isDigit 9 rfl) rfl (by decide) (by decide) ?_
      refine ⟨?_, rfl⟩
      simp [cD, bi, *]

set_option maxRecDepth 100000 in
set_option maxHeartbeats 4000000 in
theorem sp_X6_clear (l : Launch) (G : GT) (B0 : Nat → Nat → Int32) (n : Nat) (po ki st va ec eo : Int32) (bs : Nat → Int32) (M : Mem) (hA0 : M 0 = (vT B0 (nI n) po ki st va ec eo bs))  : MC l G yX6_clear cX6_clear 1 none ({ frames := 0, cells := 0, slots := 0, locals := 0 } : Room) [3] lk0 [rv 0 0] (M) (fun r M2 => r = none ∧ M2 = setm M 0 (vT B0 (0) po ki st va ec eo bs)) := by
  obtain ⟨M0, rfl⟩ : ∃ M0, M = m1 ((vT B0 (nI n) po ki st va ec eo bs)) M0 := ⟨M, (m1_of hA0).symm⟩
  clear hA0
  refine MC.of RX6 [some (rv 0 0)] 0 (by decide +kernel) rfl rfl rfl ?_
  intro pp ee ss mm aa bb me cd ad E
  refine r_aload_n E (dat dkX6_clear 0 rfl) rfl rfl ?_
  refine r_iconst (v := 0) E (dat dkX6_clear 1 rfl) rfl ?_
  refine q_putn E ft_X6_15 (dat dkX6_clear 2 rfl) rfl rfl rfl (sf1_0 pfT_1) ?_
  refine r_vreturn E (dat dkX6_clear 3 rfl) (by decide) (by decide) ?_
  exact ⟨rfl, by rw [pm1_0]⟩

set_option maxRecDepth 100000 in
set_option maxHeartbeats 4000000 in
theorem sp_X6_rewind (l : Launch) (G : GT) (B0 : Nat → Nat → Int32) (n : Nat) (po ki st va ec eo : Int32) (bs : Nat → Int32) (M : Mem) (hA0 : M 0 = (vT B0 (nI n) po ki st va ec eo bs))  : MC l G yX6_rewind cX6_rewind 1 none ({ frames := 0, cells := 0, slots := 0, locals := 0 } : Room) [3] lk0 [rv 0 0] (M) (fun r M2 => r = none ∧ M2 = setm M 0 (vT B0 (nI n) (0) ki st va (0) (-1) bs)) := by
  obtain ⟨M0, rfl⟩ : ∃ M0, M = m1 ((vT B0 (nI n) po ki st va ec eo bs)) M0 := ⟨M, (m1_of hA0).symm⟩
  clear hA0
  refine MC.of RX6 [some (rv 0 0)] 0 (by decide +kernel) rfl rfl rfl ?_
  intro pp ee ss mm aa bb me cd ad E
  refine r_aload_n E (dat dkX6_rewind 0 rfl) rfl rfl ?_
  refine r_iconst (v := 0) E (dat dkX6_rewind 1 rfl) rfl ?_
  refine q_putn E ft_X6_19 (dat dkX6_rewind 2 rfl) rfl rfl rfl (sf1_0 pfT_2) ?_
  refine r_aload_n E (dat dkX6_rewind 3 rfl) rfl rfl ?_
  refine r_iconst (v := 0) E (dat dkX6_rewind 4 rfl) rfl ?_
  refine q_putn E ft_X6_31 (dat dkX6_rewind 5 rfl) rfl rfl rfl (sf1_0 pfT_6) ?_
  refine r_aload_n E (dat dkX6_rewind 6 rfl) rfl rfl ?_
  refine r_iconst (v := -1) E (dat dkX6_rewind 7 rfl) rfl ?_
  refine q_putn E ft_X6_34 (dat dkX6_rewind 8 rfl) rfl rfl rfl (sf1_0 pfT_7) ?_
  refine r_vreturn E (dat dkX6_rewind 9 rfl) (by decide) (by decide) ?_
  exact ⟨rfl, by rw [pm1_0]⟩

set_option maxRecDepth 100000 in
set_option maxHeartbeats 4000000 in
theorem sp_X6_fail (l : Launch) (G : GT) (B0 : Nat → Nat → Int32) (n : Nat) (po ki st va ec eo : Int32) (bs : Nat → Int32) (c : Int32) (M : Mem) (hA0 : M 0 = (vT B0 (nI n) po ki st va ec eo bs))  : MC l G yX6_fail cX6_fail 2 (some .boolean) ({ frames := 0, cells := 0, slots := 0, locals := 0 } : Room) [3] lk0 [rv 0 0, iv c] (M) (fun r M2 => r = some (iv 0) ∧ M2 = setm M 0 (vT B0 (nI n) po ki st va (c) (st) bs)) := by
  obtain ⟨M0, rfl⟩ : ∃ M0, M = m1 ((vT B0 (nI n) po ki st va ec eo bs)) M0 := ⟨M, (m1_of hA0).symm⟩
  clear hA0
  refine MC.of RX6 [some (rv 0 0), some (iv c)] 0 (by decide +kernel) rfl rfl rfl ?_
  intro pp ee ss mm aa bb me cd ad E
  refine r_aload_n E (dat dkX6_fail 0 rfl) rfl rfl ?_
  refine r_iload_n E (dat dkX6_fail 1 rfl) rfl rfl ?_
  refine q_putn E ft_X6_31 (dat dkX6_fail 2 rfl) rfl rfl rfl (sf1_0 pfT_6) ?_
  refine r_aload_n E (dat dkX6_fail 3 rfl) rfl rfl ?_
  refine r_aload_n E (dat dkX6_fail 4 rfl) rfl rfl ?_
  refine q_getn E fl_X6_25 (dat dkX6_fail 5 rfl) rfl rfl rfl (go1_0 gfT_4) ?_
  refine q_putn E ft_X6_34 (dat dkX6_fail 6 rfl) rfl rfl rfl (sf1_0 pfT_7) ?_
  refine r_iconst (v := 0) E (dat dkX6_fail 7 rfl) rfl ?_
  refine r_zreturn E (dat dkX6_fail 8 rfl) rfl (by decide) (by decide) ?_
  exact ⟨rfl, by rw [pm1_0]⟩

set_option maxRecDepth 100000 in
set_option maxHeartbeats 4000000 in
theorem sp_X6_put (l : Launch) (G : GT) (B0 : Nat → Nat → Int32) (n : Nat) (po ki st va ec eo : Int32) (bs : Nat → Int32) (x : Int32) (M : Mem) (hA0 : M 0 = (vT B0 (nI n) po ki st va ec eo bs)) (hx : vp_nar .byte x = x) (hn : n < 600) : MC l G yX6_put cX6_put 2 none ({ frames := 0, cells := 0, slots := 0, locals := 0 } : Room) [3] lk0 [rv 0 0, iv x] (M) (fun r M2 => r = none ∧ M2 = setm M 0 (vT B0 (nI (n + 1)) po ki st va ec eo (upd bs n x))) := by
  obtain ⟨M0, rfl⟩ : ∃ M0, M = m1 ((vT B0 (nI n) po ki st va ec eo bs)) M0 := ⟨M, (m1_of hA0).symm⟩
  clear hA0
  refine MC.of RX6 [some (rv 0 0), some (iv x)] 0 (by decide +kernel) rfl rfl rfl ?_
  intro pp ee ss mm aa bb me cd ad E
  refine r_aload_n E (dat dkX6_put 0 rfl) rfl rfl ?_
  refine q_getn E fl_X6_15 (dat dkX6_put 1 rfl) rfl rfl rfl (go1_0 gfT_1) ?_
  refine r_aload_n E (dat dkX6_put 2 rfl) rfl rfl ?_
  refine q_geta E fl_X6_9 (dat dkX6_put 3 rfl) rfl rfl rfl ?_
  refine r_alen E (dat dkX6_put 4 rfl) rfl (by decide) rfl rfl ?_
  refine q_icmp_ge (tgt := 32) E (dat dkX6_put 5 rfl) rfl rfl (b := 600) rfl (by omega) (by omega) (fun h9 => ?_) (fun h9 => ?_)
  ·
    omega
  ·
    refine r_aload_n E (dat dkX6_put 6 rfl) rfl rfl ?_
    refine q_geta E fl_X6_9 (dat dkX6_put 7 rfl) rfl rfl rfl ?_
    refine r_aload_n E (dat dkX6_put 8 rfl) rfl rfl ?_
    refine q_getn E fl_X6_15 (dat dkX6_put 9 rfl) rfl rfl rfl (go1_0 gfT_1) ?_
    refine r_iload_n E (dat dkX6_put 10 rfl) rfl rfl ?_
    refine q_bast E (dat dkX6_put 11 rfl) rfl rfl (by decide) (gg1_0 gaT_1) (fun _ => sa1_0 paT_1) rfl (by omega) (z := x) hx ?_
    refine r_aload_n E (dat dkX6_put 12 rfl) rfl rfl ?_
    refine r_dup E (dat dkX6_put 13 rfl) rfl ?_
    refine q_getn E fl_X6_15 (dat dkX6_put 14 rfl) rfl rfl rfl (go1_0 gfT_1) ?_
    refine r_iconst (v := 1) E (dat dkX6_put 15 rfl) rfl ?_
    refine r_iadd E (dat dkX6_put 16 rfl) ?_
    rw [show nI n + 1 = nI (n + 1) from nI_1 n]
    refine q_putn E ft_X6_15 (dat dkX6_put 17 rfl) rfl rfl rfl (sf1_0 pfT_1) ?_
    refine r_vreturn E (dat dkX6_put 18 rfl) (by decide) (by decide) ?_
    exact ⟨rfl, by rw [pm1_0]⟩

set_option maxRecDepth 100000 in
set_option maxHeartbeats 4000000 in
theorem sp_X6_putFour (l : Launch) (G : GT) (B0 : Nat → Nat → Int32) (n : Nat) (po ki st va ec eo : Int32) (bs : Nat → Int32) (x : Int32) (M : Mem) (hA0 : M 0 = (vT B0 (nI n) po ki st va ec eo bs)) (hn : n + 4 ≤ 600) : MC l G yX6_putFour cX6_putFour 2 none ({ frames := 1, cells := 0, slots := 0, locals := 21 } : Room) [3] lk0 [rv 0 0, iv x] (M) (fun r M2 => r = none ∧ M2 = setm M 0 (vT B0 (nI (n + 4)) po ki st va ec eo (upd (upd (upd (upd bs n ((x.toUInt32 >>> ((24 : Int32).toUInt32 &&& Int32.toUInt32 31)).toInt32.toInt8.toInt32)) (n + 1) ((x.toUInt32 >>> ((16 : Int32).toUInt32 &&& Int32.toUInt32 31)).toInt32.toInt8.toInt32)) (n + 2) ((x.toUInt32 >>> ((8 : Int32).toUInt32 &&& Int32.toUInt32 31)).toInt32.toInt8.toInt32)) (n + 3) (x.toInt8.toInt32)))) := by
  obtain ⟨M0, rfl⟩ : ∃ M0, M = m1 ((vT B0 (nI n) po ki st va ec eo bs)) M0 := ⟨M, (m1_of hA0).symm⟩
  clear hA0
  refine MC.of RX6 [some (rv 0 0), some (iv x)] 0 (by decide +kernel) rfl rfl rfl ?_
  intro pp ee ss mm aa bb me cd ad E
  refine r_aload_n E (dat dkX6_putFour 0 rfl) rfl rfl ?_
  refine r_iload_n E (dat dkX6_putFour 1 rfl) rfl rfl ?_
  refine r_bipush (v := 24) E (dat dkX6_putFour 2 rfl) rfl ?_
  refine r_iushr E (dat dkX6_putFour 3 rfl) ?_
  refine r_i2b E (dat dkX6_putFour 4 rfl) ?_
  refine r_callV (κ := 3) (μ := [0]) E (sp_X6_put l G B0 (n + 0) po ki st va ec eo (bs) _ _ (by rfl) (pk_vb _) (by omega)) my_X6_put iv_X6_put ml_X6_37 (cm_of rfl) ⟨by decide, rfl, rfl⟩ rfl rfl rfl rfl (by decide) (Nat.le_of_ble_eq_true rfl) (dat dkX6_putFour 5 rfl) ?_
  rintro _ _ ⟨rfl, rfl⟩
  refine ⟨_, Mrg_e (by decide) (by decide) pm1_0 rfl, ?_⟩
  refine r_aload_n E (dat dkX6_putFour 6 rfl) rfl rfl ?_
  refine r_iload_n E (dat dkX6_putFour 7 rfl) rfl rfl ?_
  refine r_bipush (v := 16) E (dat dkX6_putFour 8 rfl) rfl ?_
  refine r_iushr E (dat dkX6_putFour 9 rfl) ?_
  refine r_i2b E (dat dkX6_putFour 10 rfl) ?_
  refine r_callV (κ := 3) (μ := [0]) E (sp_X6_put l G B0 (n + 1) po ki st va ec eo (upd bs n ((x.toUInt32 >>> ((24 : Int32).toUInt32 &&& Int32.toUInt32 31)).toInt32.toInt8.toInt32)) _ _ (by rfl) (pk_vb _) (by omega)) my_X6_put iv_X6_put ml_X6_37 (cm_of rfl) ⟨by decide, rfl, rfl⟩ rfl rfl rfl rfl (by decide) (Nat.le_of_ble_eq_true rfl) (dat dkX6_putFour 11 rfl) ?_
  rintro _ _ ⟨rfl, rfl⟩
  refine ⟨_, Mrg_e (by decide) (by decide) pm1_0 rfl, ?_⟩
  refine r_aload_n E (dat dkX6_putFour 12 rfl) rfl rfl ?_
  refine r_iload_n E (dat dkX6_putFour 13 rfl) rfl rfl ?_
  refine r_bipush (v := 8) E (dat dkX6_putFour 14 rfl) rfl ?_
  refine r_iushr E (dat dkX6_putFour 15 rfl) ?_
  refine r_i2b E (dat dkX6_putFour 16 rfl) ?_
  refine r_callV (κ := 3) (μ := [0]) E (sp_X6_put l G B0 (n + 2) po ki st va ec eo (upd (upd bs n ((x.toUInt32 >>> ((24 : Int32).toUInt32 &&& Int32.toUInt32 31)).toInt32.toInt8.toInt32)) (n + 1) ((x.toUInt32 >>> ((16 : Int32).toUInt32 &&& Int32.toUInt32 31)).toInt32.toInt8.toInt32)) _ _ (by rfl) (pk_vb _) (by omega)) my_X6_put iv_X6_put ml_X6_37 (cm_of rfl) ⟨by decide, rfl, rfl⟩ rfl rfl rfl rfl (by decide) (Nat.le_of_ble_eq_true rfl) (dat dkX6_putFour 17 rfl) ?_
  rintro _ _ ⟨rfl, rfl⟩
  refine ⟨_, Mrg_e (by decide) (by decide) pm1_0 rfl, ?_⟩
  refine r_aload_n E (dat dkX6_putFour 18 rfl) rfl rfl ?_
  refine r_iload_n E (dat dkX6_putFour 19 rfl) rfl rfl ?_
  refine r_i2b E (dat dkX6_putFour 20 rfl) ?_
  refine r_callV (κ := 3) (μ := [0]) E (sp_X6_put l G B0 (n + 3) po ki st va ec eo (upd (upd (upd bs n ((x.toUInt32 >>> ((24 : Int32).toUInt32 &&& Int32.toUInt32 31)).toInt32.toInt8.toInt32)) (n + 1) ((x.toUInt32 >>> ((16 : Int32).toUInt32 &&& Int32.toUInt32 31)).toInt32.toInt8.toInt32)) (n + 2) ((x.toUInt32 >>> ((8 : Int32).toUInt32 &&& Int32.toUInt32 31)).toInt32.toInt8.toInt32)) _ _ (by rfl) (pk_vb _) (by omega)) my_X6_put iv_X6_put ml_X6_37 (cm_of rfl) ⟨by decide, rfl, rfl⟩ rfl rfl rfl rfl (by decide) (Nat.le_of_ble_eq_true rfl) (dat dkX6_putFour 21 rfl) ?_
  rintro _ _ ⟨rfl, rfl⟩
  refine ⟨_, Mrg_e (by decide) (by decide) pm1_0 rfl, ?_⟩
  refine r_vreturn E (dat dkX6_putFour 22 rfl) (by decide) (by decide) ?_
  exact ⟨rfl, by rw [pm1_0]⟩

set_option maxRecDepth 100000 in
set_option maxHeartbeats 4000000 in
theorem sp_X6_readWord (l : Launch) (G : GT) (B0 : Nat → Nat → Int32) (n : Nat) (ki va ec eo : Int32) (bs : Nat → Int32) (s : Nat) (M : Mem) (hA0 : M 0 = (vT B0 (nI n) (nI s) ki (nI s) va ec eo bs)) (hs : s ≤ n) (hn : n ≤ 600) : MC l G yX6_readWord cX6_readWord 1 none ({ frames := 1, cells := 0, slots := 0, locals := 20 } : Room) [3] lk0 [rv 0 0] (M) (fun r M2 => r = none ∧ M2 = setm M 0 (vT B0 (nI n) (nI (scan cL bs n s)) (wK s (scan cL bs n s)) (nI s) va ec eo bs)) := by
  obtain ⟨M0, rfl⟩ : ∃ M0, M = m1 ((vT B0 (nI n) (nI s) ki (nI s) va ec eo bs)) M0 := ⟨M, (m1_of hA0).symm⟩
  clear hA0
  refine MC.of RX6 [some (rv 0 0)] 0 (by decide +kernel) rfl rfl rfl ?_
  intro pp ee ss mm aa bb me cd ad E
  refine r_while (β := Nat) (fun x => n - x) (fun x => s ≤ x ∧ x ≤ n ∧ scan cL bs n x = scan cL bs n s) (fun x => m1 (vT B0 (nI n) (nI x) ki (nI s) va ec eo bs) M0) (fun x => [some (rv 0 0)]) (s) ⟨Nat.le_refl s, hs, rfl⟩ rfl rfl ?_
  intro x hI kk
  refine r_aload_n E (dat dkX6_readWord 0 rfl) rfl rfl ?_
  refine q_getn E fl_X6_19 (dat dkX6_readWord 1 rfl) rfl rfl rfl (go1_0 gfT_2) ?_
  refine r_aload_n E (dat dkX6_readWord 2 rfl) rfl rfl ?_
  refine q_getn E fl_X6_15 (dat dkX6_readWord 3 rfl) rfl rfl rfl (go1_0 gfT_1) ?_
  refine q_icmp_ge (tgt := 39) E (dat dkX6_readWord 4 rfl) rfl rfl rfl (by omega) (by omega) (fun h8 => ?_) (fun h8 => ?_)
  ·
    refine r_aload_n E (dat dkX6_readWord 19 rfl) rfl rfl ?_
    have he : x = scan cL bs n s := by
      rw [← hI.2.2]
      first
        | exact (scan_end h8).symm
        | exact (scan_no h8 (bi_0 h23)).symm
    refine r_aload_n E (dat dkX6_readWord 20 rfl) rfl rfl ?_
    refine q_getn E fl_X6_19 (dat dkX6_readWord 21 rfl) rfl rfl rfl (go1_0 gfT_2) ?_
    refine r_aload_n E (dat dkX6_readWord 22 rfl) rfl rfl ?_
    refine q_getn E fl_X6_25 (dat dkX6_readWord 23 rfl) rfl rfl rfl (go1_0 gfT_4) ?_
    refine r_isub E (dat dkX6_readWord 24 rfl) ?_
    refine r_bipush (v := 8) E (dat dkX6_readWord 25 rfl) rfl ?_
    refine q_icmp_gt (tgt := 58) E (dat dkX6_readWord 26 rfl) rfl (pk_sub hI.1) (b := 8) rfl (by omega) (by omega) (fun h51 => ?_) (fun h51 => ?_)
    ·
      refine r_iconst (v := 4) E (dat dkX6_readWord 29 rfl) rfl ?_
      refine q_putn E ft_X6_22 (dat dkX6_readWord 30 rfl) rfl rfl rfl (sf1_0 pfT_3) ?_
      refine r_vreturn E (dat dkX6_readWord 31 rfl) (by decide) (by decide) ?_
      refine ⟨rfl, ?_⟩
      rw [pm1_0, ← he]
      unfold wK
      first
        | rw [if_pos h51]
        | rw [if_neg (by omega)]
    ·
      refine r_iconst (v := 1) E (dat dkX6_readWord 27 rfl) rfl ?_
      refine r_goto (tgt := 59) E (dat dkX6_readWord 28 rfl) rfl ?_
      refine q_putn E ft_X6_22 (dat dkX6_readWord 30 rfl) rfl rfl rfl (sf1_0 pfT_3) ?_
      refine r_vreturn E (dat dkX6_readWord 31 rfl) (by decide) (by decide) ?_
      refine ⟨rfl, ?_⟩
      rw [pm1_0, ← he]
      unfold wK
      first
        | rw [if_pos h51]
        | rw [if_neg (by omega)]
  ·
    refine r_aload_n E (dat dkX6_readWord 5 rfl) rfl rfl ?_
    refine q_geta E fl_X6_9 (dat dkX6_readWord 6 rfl) rfl rfl rfl ?_
    refine r_aload_n E (dat dkX6_readWord 7 rfl) rfl rfl ?_
    refine q_getn E fl_X6_19 (dat dkX6_readWord 8 rfl) rfl rfl rfl (go1_0 gfT_2) ?_
    refine q_bald E (dat dkX6_readWord 9 rfl) rfl rfl (by decide) (gg1_0 gaT_1) rfl (by omega) ?_
    refine r_callS (μ := []) E (sp_X6_isLetter l G (bs x) _) my_X6_isLetter is_X6_isLetter ml_X6_54 (cm_of rfl) rfl rfl (by decide) (Nat.le_of_ble_eq_true rfl) (dat dkX6_readWord 10 rfl) ?_
    rintro _ _ ⟨rfl, rfl⟩
    refine ⟨_, Mrg_z rfl, ?_⟩
    refine r_if_eq (tgt := 39) E (dat dkX6_readWord 11 rfl) rfl (fun h23 => ?_) (fun h23 => ?_)
    ·
      refine r_aload_n E (dat dkX6_readWord 19 rfl) rfl rfl ?_
      have he : x = scan cL bs n s := by
        rw [← hI.2.2]
        first
          | exact (scan_end h8).symm
          | exact (scan_no h8 (bi_0 h23)).symm
      refine r_aload_n E (dat dkX6_readWord 20 rfl) rfl rfl ?_
      refine q_getn E fl_X6_19 (dat dkX6_readWord 21 rfl) rfl rfl rfl (go1_0 gfT_2) ?_
      refine r_aload_n E (dat dkX6_readWord 22 rfl) rfl rfl ?_
      refine q_getn E fl_X6_25 (dat dkX6_readWord 23 rfl) rfl rfl rfl (go1_0 gfT_4) ?_
      refine r_isub E (dat dkX6_readWord 24 rfl) ?_
      refine r_bipush (v := 8) E (dat dkX6_readWord 25 rfl) rfl ?_
      refine q_icmp_gt (tgt := 58) E (dat dkX6_readWord 26 rfl) rfl (pk_sub hI.1) (b := 8) rfl (by omega) (by omega) (fun h51 => ?_) (fun h51 => ?_)
      ·
        refine r_iconst (v := 4) E (dat dkX6_readWord 29 rfl) rfl ?_
        refine q_putn E ft_X6_22 (dat dkX6_readWord 30 rfl) rfl rfl rfl (sf1_0 pfT_3) ?_
        refine r_vreturn E (dat dkX6_readWord 31 rfl) (by decide) (by decide) ?_
        refine ⟨rfl, ?_⟩
        rw [pm1_0, ← he]
        unfold wK
        first
          | rw [if_pos h51]
          | rw [if_neg (by omega)]
      ·
        refine r_iconst (v := 1) E (dat dkX6_readWord 27 rfl) rfl ?_
        refine r_goto (tgt := 59) E (dat dkX6_readWord 28 rfl) rfl ?_
        refine q_putn E ft_X6_22 (dat dkX6_readWord 30 rfl) rfl rfl rfl (sf1_0 pfT_3) ?_
        refine r_vreturn E (dat dkX6_readWord 31 rfl) (by decide) (by decide) ?_
        refine ⟨rfl, ?_⟩
        rw [pm1_0, ← he]
        unfold wK
        first
          | rw [if_pos h51]
          | rw [if_neg (by omega)]
    ·
      refine r_aload_n E (dat dkX6_readWord 12 rfl) rfl rfl ?_
      refine r_dup E (dat dkX6_readWord 13 rfl) rfl ?_
      refine q_getn E fl_X6_19 (dat dkX6_readWord 14 rfl) rfl rfl rfl (go1_0 gfT_2) ?_
      refine r_iconst (v := 1) E (dat dkX6_readWord 15 rfl) rfl ?_
      refine r_iadd E (dat dkX6_readWord 16 rfl) ?_
      refine q_putn E ft_X6_19 (dat dkX6_readWord 17 rfl) rfl rfl rfl (sf1_0 pfT_2) ?_
      refine r_goto (tgt := 0) E (dat dkX6_readWord 18 rfl) rfl ?_
      rw [show nI x + 1 = nI (x + 1) from nI_1 x]
      exact kk (x + 1) ⟨by omega, by omega, (scan_go h8 (bi_1 h23)).trans hI.2.2⟩ (by omega)

set_option maxRecDepth 100000 in
set_option maxHeartbeats 4000000 in
theorem sp_X6_readNumber (l : Launch) (G : GT) (B0 : Nat → Nat → Int32) (n : Nat) (ki va ec eo : Int32) (bs : Nat → Int32) (s : Nat) (M : Mem) (hA0 : M 0 = (vT B0 (nI n) (nI s) ki (nI s) va ec eo bs)) (hs : s ≤ n) (hn : n ≤ 600) : MC l G yX6_readNumber cX6_readNumber 1 none ({ frames := 1, cells := 0, slots := 0, locals := 20 } : Room) [3] lk0 [rv 0 0] (M) (fun r M2 => r = none ∧ M2 = setm M 0 (vT B0 (nI n) (nI (scan cD bs n s)) (dK s (scan cD bs n s)) (nI s) (nvF bs s (scan cD bs n s - s)) ec eo bs)) := by
  obtain ⟨M0, rfl⟩ : ∃ M0, M = m1 ((vT B0 (nI n) (nI s) ki (nI s) va ec eo bs)) M0 := ⟨M, (m1_of hA0).symm⟩
  clear hA0
  refine MC.of RX6 [some (rv 0 0)] 0 (by decide +kernel) rfl rfl rfl ?_
  intro pp ee ss mm aa bb me cd ad E
  refine r_aload_n E (dat dkX6_readNumber 0 rfl) rfl rfl ?_
  refine r_iconst (v := 0) E (dat dkX6_readNumber 1 rfl) rfl ?_
  refine q_putn E ft_X6_28 (dat dkX6_readNumber 2 rfl) rfl rfl rfl (sf1_0 pfT_5) ?_
  refine r_while (β := Nat) (fun x => n - x) (fun x => s ≤ x ∧ x ≤ n ∧ scan cD bs n x = scan cD bs n s) (fun x => m1 (vT B0 (nI n) (nI x) ki (nI s) (nvF bs s (x - s)) ec eo bs) M0) (fun x => [some (rv 0 0)]) (s) ⟨Nat.le_refl s, hs, rfl⟩ (by rw [Nat.sub_self]; rfl) rfl ?_
  intro x hI kk
  refine r_aload_n E (dat dkX6_readNumber 3 rfl) rfl rfl ?_
  refine q_getn E fl_X6_19 (dat dkX6_readNumber 4 rfl) rfl rfl rfl (go1_0 gfT_2) ?_
  refine r_aload_n E (dat dkX6_readNumber 5 rfl) rfl rfl ?_
  refine q_getn E fl_X6_15 (dat dkX6_readNumber 6 rfl) rfl rfl rfl (go1_0 gfT_1) ?_
  refine q_icmp_ge (tgt := 68) E (dat dkX6_readNumber 7 rfl) rfl rfl rfl (by omega) (by omega) (fun h13 => ?_) (fun h13 => ?_)
  ·
    refine r_aload_n E (dat dkX6_readNumber 36 rfl) rfl rfl ?_
    have he : x = scan cD bs n s := by
      rw [← hI.2.2]
      first
        | exact (scan_end h13).symm
        | exact (scan_no h13 (bi_0 h28)).symm
    refine r_aload_n E (dat dkX6_readNumber 37 rfl) rfl rfl ?_
    refine q_getn E fl_X6_19 (dat dkX6_readNumber 38 rfl) rfl rfl rfl (go1_0 gfT_2) ?_
    refine r_aload_n E (dat dkX6_readNumber 39 rfl) rfl rfl ?_
    refine q_getn E fl_X6_25 (dat dkX6_readNumber 40 rfl) rfl rfl rfl (go1_0 gfT_4) ?_
    refine r_isub E (dat dkX6_readNumber 41 rfl) ?_
    refine r_iconst (v := 2) E (dat dkX6_readNumber 42 rfl) rfl ?_
    refine q_icmp_gt (tgt := 86) E (dat dkX6_readNumber 43 rfl) rfl (pk_sub hI.1) (b := 2) rfl (by omega) (by omega) (fun h79 => ?_) (fun h79 => ?_)
    ·
      refine r_iconst (v := 4) E (dat dkX6_readNumber 46 rfl) rfl ?_
      refine q_putn E ft_X6_22 (dat dkX6_readNumber 47 rfl) rfl rfl rfl (sf1_0 pfT_3) ?_
      refine r_vreturn E (dat dkX6_readNumber 48 rfl) (by decide) (by decide) ?_
      refine ⟨rfl, ?_⟩
      rw [pm1_0, ← he]
      unfold dK
      first
        | rw [if_pos h79]
        | rw [if_neg (by omega)]
    ·
      refine r_iconst (v := 2) E (dat dkX6_readNumber 44 rfl) rfl ?_
      refine r_goto (tgt := 87) E (dat dkX6_readNumber 45 rfl) rfl ?_
      refine q_putn E ft_X6_22 (dat dkX6_readNumber 47 rfl) rfl rfl rfl (sf1_0 pfT_3) ?_
      refine r_vreturn E (dat dkX6_readNumber 48 rfl) (by decide) (by decide) ?_
      refine ⟨rfl, ?_⟩
      rw [pm1_0, ← he]
      unfold dK
      first
        | rw [if_pos h79]
        | rw [if_neg (by omega)]
  ·
    refine r_aload_n E (dat dkX6_readNumber 8 rfl) rfl rfl ?_
    refine q_geta E fl_X6_9 (dat dkX6_readNumber 9 rfl) rfl rfl rfl ?_
    refine r_aload_n E (dat dkX6_readNumber 10 rfl) rfl rfl ?_
    refine q_getn E fl_X6_19 (dat dkX6_readNumber 11 rfl) rfl rfl rfl (go1_0 gfT_2) ?_
    refine q_bald E (dat dkX6_readNumber 12 rfl) rfl rfl (by decide) (gg1_0 gaT_1) rfl (by omega) ?_
    refine r_callS (μ := []) E (sp_X6_isDigit l G (bs x) _) my_X6_isDigit is_X6_isDigit ml_X6_60 (cm_of rfl) rfl rfl (by decide) (Nat.le_of_ble_eq_true rfl) (dat dkX6_readNumber 13 rfl) ?_
    rintro _ _ ⟨rfl, rfl⟩
    refine ⟨_, Mrg_z rfl, ?_⟩
    refine r_if_eq (tgt := 68) E (dat dkX6_readNumber 14 rfl) rfl (fun h28 => ?_) (fun h28 => ?_)
    ·
      refine r_aload_n E (dat dkX6_readNumber 36 rfl) rfl rfl ?_
      have he : x = scan cD bs n s := by
        rw [← hI.2.2]
        first
          | exact (scan_end h13).symm
          | exact (scan_no h13 (bi_0 h28)).symm
      refine r_aload_n E (dat dkX6_readNumber 37 rfl) rfl rfl ?_
      refine q_getn E fl_X6_19 (dat dkX6_readNumber 38 rfl) rfl rfl rfl (go1_0 gfT_2) ?_
      refine r_aload_n E (dat dkX6_readNumber 39 rfl) rfl rfl ?_
      refine q_getn E fl_X6_25 (dat dkX6_readNumber 40 rfl) rfl rfl rfl (go1_0 gfT_4) ?_
      refine r_isub E (dat dkX6_readNumber 41 rfl) ?_
      refine r_iconst (v := 2) E (dat dkX6_readNumber 42 rfl) rfl ?_
      refine q_icmp_gt (tgt := 86) E (dat dkX6_readNumber 43 rfl) rfl (pk_sub hI.1) (b := 2) rfl (by omega) (by omega) (fun h79 => ?_) (fun h79 => ?_)
      ·
        refine r_iconst (v := 4) E (dat dkX6_readNumber 46 rfl) rfl ?_
        refine q_putn E ft_X6_22 (dat dkX6_readNumber 47 rfl) rfl rfl rfl (sf1_0 pfT_3) ?_
        refine r_vreturn E (dat dkX6_readNumber 48 rfl) (by decide) (by decide) ?_
        refine ⟨rfl, ?_⟩
        rw [pm1_0, ← he]
        unfold dK
        first
          | rw [if_pos h79]
          | rw [if_neg (by omega)]
      ·
        refine r_iconst (v := 2) E (dat dkX6_readNumber 44 rfl) rfl ?_
        refine r_goto (tgt := 87) E (dat dkX6_readNumber 45 rfl) rfl ?_
        refine q_putn E ft_X6_22 (dat dkX6_readNumber 47 rfl) rfl rfl rfl (sf1_0 pfT_3) ?_
        refine r_vreturn E (dat dkX6_readNumber 48 rfl) (by decide) (by decide) ?_
        refine ⟨rfl, ?_⟩
        rw [pm1_0, ← he]
        unfold dK
        first
          | rw [if_pos h79]
          | rw [if_neg (by omega)]
    ·
      refine r_aload_n E (dat dkX6_readNumber 15 rfl) rfl rfl ?_
      refine r_bipush (v := 10) E (dat dkX6_readNumber 16 rfl) rfl ?_
      refine r_aload_n E (dat dkX6_readNumber 17 rfl) rfl rfl ?_
      refine q_getn E fl_X6_28 (dat dkX6_readNumber 18 rfl) rfl rfl rfl (go1_0 gfT_5) ?_
      refine r_imul E (dat dkX6_readNumber 19 rfl) ?_
      refine r_aload_n E (dat dkX6_readNumber 20 rfl) rfl rfl ?_
      refine q_geta E fl_X6_9 (dat dkX6_readNumber 21 rfl) rfl rfl rfl ?_
      refine r_aload_n E (dat dkX6_readNumber 22 rfl) rfl rfl ?_
      refine q_getn E fl_X6_19 (dat dkX6_readNumber 23 rfl) rfl rfl rfl (go1_0 gfT_2) ?_
      refine q_bald E (dat dkX6_readNumber 24 rfl) rfl rfl (by decide) (gg1_0 gaT_1) rfl (by omega) ?_
      refine r_iadd E (dat dkX6_readNumber 25 rfl) ?_
      refine r_bipush (v := 48) E (dat dkX6_readNumber 26 rfl) rfl ?_
      refine r_isub E (dat dkX6_readNumber 27 rfl) ?_
      refine q_putn E ft_X6_28 (dat dkX6_readNumber 28 rfl) rfl rfl rfl (sf1_0 pfT_5) ?_
      refine r_aload_n E (dat dkX6_readNumber 29 rfl) rfl rfl ?_
      refine r_dup E (dat dkX6_readNumber 30 rfl) rfl ?_
      refine q_getn E fl_X6_19 (dat dkX6_readNumber 31 rfl) rfl rfl rfl (go1_0 gfT_2) ?_
      refine r_iconst (v := 1) E (dat dkX6_readNumber 32 rfl) rfl ?_
      refine r_iadd E (dat dkX6_readNumber 33 rfl) ?_
      refine q_putn E ft_X6_19 (dat dkX6_readNumber 34 rfl) rfl rfl rfl (sf1_0 pfT_2) ?_
      refine r_goto (tgt := 5) E (dat dkX6_readNumber 35 rfl) rfl ?_
      rw [show nI x + 1 = nI (x + 1) from nI_1 x]
      refine r_back ?_ ?_ (kk (x + 1) ⟨by omega, by omega, (scan_go h13 (bi_1 h28)).trans hI.2.2⟩ (by omega))
      rotate_left
      · exact And.intro rfl trivial
      rw [show x + 1 - s = (x - s) + 1 by omega]
      show m1 (vT _ _ _ _ _ (10 * nvF bs s (x - s) + bs (s + (x - s)) - 48) _ _ _) M0 = _
      rw [show s + (x - s) = x by omega]

set_option maxRecDepth 100000 in
set_option maxHeartbeats 4000000 in
theorem sp_X6_next (l : Launch) (G : GT) (B0 : Nat → Nat → Int32) (n : Nat) (ki st va ec eo : Int32) (bs : Nat → Int32) (p : Nat) (M : Mem) (hA0 : M 0 = (vT B0 (nI n) (nI p) ki st va ec eo bs)) (hp : p ≤ n) (hn : n ≤ 600) : MC l G yX6_next cX6_next 1 none ({ frames := 2, cells := 0, slots := 0, locals := 40 } : Room) [3] lk0 [rv 0 0] (M) (fun r M2 => r = none ∧ M2 = setm M 0 (vT B0 (nI n) (nI (tP bs n p)) (tK bs n p) (nI (tS bs n p)) (tV bs n p va) ec eo bs)) := by
  obtain ⟨M0, rfl⟩ : ∃ M0, M = m1 ((vT B0 (nI n) (nI p) ki st va ec eo bs)) M0 := ⟨M, (m1_of hA0).symm⟩
  clear hA0
  refine MC.of RX6 [some (rv 0 0)] 0 (by decide +kernel) rfl rfl rfl ?_
  intro pp ee ss mm aa bb me cd ad E
  refine r_while (β := Nat) (fun x => n - x) (fun x => p ≤ x ∧ x ≤ n ∧ scan cB bs n x = scan cB bs n p) (fun x => m1 (vT B0 (nI n) (nI x) ki st va ec eo bs) M0) (fun x => [some (rv 0 0)]) (p) ⟨Nat.le_refl p, hp, rfl⟩ rfl rfl ?_
  intro x hI kk
  refine r_aload_n E (dat dkX6_next 0 rfl) rfl rfl ?_
  refine q_getn E fl_X6_19 (dat dkX6_next 1 rfl) rfl rfl rfl (go1_0 gfT_2) ?_
  refine r_aload_n E (dat dkX6_next 2 rfl) rfl rfl ?_
  refine q_getn E fl_X6_15 (dat dkX6_next 3 rfl) rfl rfl rfl (go1_0 gfT_1) ?_
  refine q_icmp_ge (tgt := 39) E (dat dkX6_next 4 rfl) rfl rfl rfl (by omega) (by omega) (fun h8 => ?_) (fun h8 => ?_)
  ·
    have he : x = tS bs n p := by
      unfold tS
      rw [← hI.2.2]
      first
        | exact (scan_end h8).symm
        | exact (scan_no h8 (bi_0 h23)).symm
    refine r_aload_n E (dat dkX6_next 19 rfl) rfl rfl ?_
    refine r_aload_n E (dat dkX6_next 20 rfl) rfl rfl ?_
    refine q_getn E fl_X6_19 (dat dkX6_next 21 rfl) rfl rfl rfl (go1_0 gfT_2) ?_
    refine q_putn E ft_X6_25 (dat dkX6_next 22 rfl) rfl rfl rfl (sf1_0 pfT_4) ?_
    refine r_aload_n E (dat dkX6_next 23 rfl) rfl rfl ?_
    refine q_getn E fl_X6_19 (dat dkX6_next 24 rfl) rfl rfl rfl (go1_0 gfT_2) ?_
    refine r_aload_n E (dat dkX6_next 25 rfl) rfl rfl ?_
    refine q_getn E fl_X6_15 (dat dkX6_next 26 rfl) rfl rfl rfl (go1_0 gfT_1) ?_
    refine q_icmp_lt (tgt := 66) E (dat dkX6_next 27 rfl) rfl rfl rfl (by omega) (by omega) (fun h55 => ?_) (fun h55 => ?_)
    ·
      refine r_aload_n E (dat dkX6_next 32 rfl) rfl rfl ?_
      refine q_geta E fl_X6_9 (dat dkX6_next 33 rfl) rfl rfl rfl ?_
      refine r_aload_n E (dat dkX6_next 34 rfl) rfl rfl ?_
      refine q_getn E fl_X6_19 (dat dkX6_next 35 rfl) rfl rfl rfl (go1_0 gfT_2) ?_
      refine q_bald E (dat dkX6_next 36 rfl) rfl rfl (by decide) (gg1_0 gaT_1) rfl (by omega) ?_
      refine r_callS (μ := []) E (sp_X6_isLetter l G (bs x) _) my_X6_isLetter is_X6_isLetter ml_X6_54 (cm_of rfl) rfl rfl (by decide) (Nat.le_of_ble_eq_true rfl) (dat dkX6_next 37 rfl) ?_
      rintro _ _ ⟨rfl, rfl⟩
      refine ⟨_, Mrg_z rfl, ?_⟩
      refine r_if_eq (tgt := 88) E (dat dkX6_next 38 rfl) rfl (fun h78 => ?_) (fun h78 => ?_)
      ·
        refine r_aload_n E (dat dkX6_next 42 rfl) rfl rfl ?_
        refine q_geta E fl_X6_9 (dat dkX6_next 43 rfl) rfl rfl rfl ?_
        refine r_aload_n E (dat dkX6_next 44 rfl) rfl rfl ?_
        refine q_getn E fl_X6_19 (dat dkX6_next 45 rfl) rfl rfl rfl (go1_0 gfT_2) ?_
        refine q_bald E (dat dkX6_next 46 rfl) rfl rfl (by decide) (gg1_0 gaT_1) rfl (by omega) ?_
        refine r_callS (μ := []) E (sp_X6_isDigit l G (bs x) _) my_X6_isDigit is_X6_isDigit ml_X6_60 (cm_of rfl) rfl rfl (by decide) (Nat.le_of_ble_eq_true rfl) (dat dkX6_next 47 rfl) ?_
        rintro _ _ ⟨rfl, rfl⟩
        refine ⟨_, Mrg_z rfl, ?_⟩
        refine r_if_eq (tgt := 110) E (dat dkX6_next 48 rfl) rfl (fun h100 => ?_) (fun h100 => ?_)
        ·
          refine r_aload_n E (dat dkX6_next 52 rfl) rfl rfl ?_
          refine r_aload_n E (dat dkX6_next 53 rfl) rfl rfl ?_
          refine q_geta E fl_X6_9 (dat dkX6_next 54 rfl) rfl rfl rfl ?_
          refine r_aload_n E (dat dkX6_next 55 rfl) rfl rfl ?_
          refine q_getn E fl_X6_19 (dat dkX6_next 56 rfl) rfl rfl rfl (go1_0 gfT_2) ?_
          refine q_bald E (dat dkX6_next 57 rfl) rfl rfl (by decide) (gg1_0 gaT_1) rfl (by omega) ?_
          refine r_bipush (v := 59) E (dat dkX6_next 58 rfl) rfl ?_
          refine r_icmp_ne (tgt := 129) E (dat dkX6_next 59 rfl) rfl (fun h122 => ?_) (fun h122 => ?_)
          ·
            refine r_iconst (v := 4) E (dat dkX6_next 62 rfl) rfl ?_
            refine q_putn E ft_X6_22 (dat dkX6_next 63 rfl) rfl rfl rfl (sf1_0 pfT_3) ?_
            refine r_aload_n E (dat dkX6_next 64 rfl) rfl rfl ?_
            refine r_dup E (dat dkX6_next 65 rfl) rfl ?_
            refine q_getn E fl_X6_19 (dat dkX6_next 66 rfl) rfl rfl rfl (go1_0 gfT_2) ?_
            refine r_iconst (v := 1) E (dat dkX6_next 67 rfl) rfl ?_
            refine r_iadd E (dat dkX6_next 68 rfl) ?_
            rw [show nI x + 1 = nI (x + 1) from nI_1 x]
            refine q_putn E ft_X6_19 (dat dkX6_next 69 rfl) rfl rfl rfl (sf1_0 pfT_2) ?_
            refine r_vreturn E (dat dkX6_next 70 rfl) (by decide) (by decide) ?_
            refine ⟨rfl, ?_⟩
            rw [pm1_0]
            unfold tP tK tV
            rw [← he]
            first
              | (simp only [h55, if_true]; done)
              | (simp only [Nat.not_le.mpr h55, bi_1 h78, if_true, if_false]; done)
              | (simp only [Nat.not_le.mpr h55, bi_0 h78, bi_1 h100, if_true, if_false, Bool.false_eq_true]; done)
              | (simp only [Nat.not_le.mpr h55, bi_0 h78, bi_0 h100, if_true, if_false, Bool.false_eq_true]; rw [if_pos h122]; done)
              | (simp only [Nat.not_le.mpr h55, bi_0 h78, bi_0 h100, if_true, if_false, Bool.false_eq_true]; rw [if_neg h122]; done)
          ·
            refine r_iconst (v := 3) E (dat dkX6_next 60 rfl) rfl ?_
            refine r_goto (tgt := 130) E (dat dkX6_next 61 rfl) rfl ?_
            refine q_putn E ft_X6_22 (dat dkX6_next 63 rfl) rfl rfl rfl (sf1_0 pfT_3) ?_
            refine r_aload_n E (dat dkX6_next 64 rfl) rfl rfl ?_
            refine r_dup E (dat dkX6_next 65 rfl) rfl ?_
            refine q_getn E fl_X6_19 (dat dkX6_next 66 rfl) rfl rfl rfl (go1_0 gfT_2) ?_
            refine r_iconst (v := 1) E (dat dkX6_next 67 rfl) rfl ?_
            refine r_iadd E (dat dkX6_next 68 rfl) ?_
            rw [show nI x + 1 = nI (x + 1) from nI_1 x]
            refine q_putn E ft_X6_19 (dat dkX6_next 69 rfl) rfl rfl rfl (sf1_0 pfT_2) ?_
            refine r_vreturn E (dat dkX6_next 70 rfl) (by decide) (by decide) ?_
            refine ⟨rfl, ?_⟩
            rw [pm1_0]
            unfold tP tK tV
            rw [← he]
            first
              | (simp only [h55, if_true]; done)
              | (simp only [Nat.not_le.mpr h55, bi_1 h78, if_true, if_false]; done)
              | (simp only [Nat.not_le.mpr h55, bi_0 h78, bi_1 h100, if_true, if_false, Bool.false_eq_true]; done)
              | (simp only [Nat.not_le.mpr h55, bi_0 h78, bi_0 h100, if_true, if_false, Bool.false_eq_true]; rw [if_pos h122]; done)
              | (simp only [Nat.not_le.mpr h55, bi_0 h78, bi_0 h100, if_true, if_false, Bool.false_eq_true]; rw [if_neg h122]; done)
        ·
          refine r_aload_n E (dat dkX6_next 49 rfl) rfl rfl ?_
          refine r_callV (κ := 3) (μ := [0]) E (sp_X6_readNumber l G B0 n ki va ec eo bs x _ rfl hI.2.1 hn) my_X6_readNumber iv_X6_readNumber ml_X6_63 (cm_of rfl) ⟨by decide, rfl, rfl⟩ rfl rfl rfl rfl (by decide) (Nat.le_of_ble_eq_true rfl) (dat dkX6_next 50 rfl) ?_
          rintro _ _ ⟨rfl, rfl⟩
          refine ⟨_, Mrg_e (by decide) (by decide) pm1_0 rfl, ?_⟩
          refine r_goto (tgt := 143) E (dat dkX6_next 51 rfl) rfl ?_
          refine r_vreturn E (dat dkX6_next 70 rfl) (by decide) (by decide) ?_
          refine ⟨rfl, ?_⟩
          rw [pm1_0]
          unfold tP tK tV
          rw [← he]
          first
            | (simp only [h55, if_true]; done)
            | (simp only [Nat.not_le.mpr h55, bi_1 h78, if_true, if_false]; done)
            | (simp only [Nat.not_le.mpr h55, bi_0 h78, bi_1 h100, if_true, if_false, Bool.false_eq_true]; done)
            | (simp only [Nat.not_le.mpr h55, bi_0 h78, bi_0 h100, if_true, if_false, Bool.false_eq_true]; rw [if_pos h122]; done)
            | (simp only [Nat.not_le.mpr h55, bi_0 h78, bi_0 h100, if_true, if_false, Bool.false_eq_true]; rw [if_neg h122]; done)
      ·
        refine r_aload_n E (dat dkX6_next 39 rfl) rfl rfl ?_
        refine r_callV (κ := 3) (μ := [0]) E (sp_X6_readWord l G B0 n ki va ec eo bs x _ rfl hI.2.1 hn) my_X6_readWord iv_X6_readWord ml_X6_57 (cm_of rfl) ⟨by decide, rfl, rfl⟩ rfl rfl rfl rfl (by decide) (Nat.le_of_ble_eq_true rfl) (dat dkX6_next 40 rfl) ?_
        rintro _ _ ⟨rfl, rfl⟩
        refine ⟨_, Mrg_e (by decide) (by decide) pm1_0 rfl, ?_⟩
        refine r_goto (tgt := 143) E (dat dkX6_next 41 rfl) rfl ?_
        refine r_vreturn E (dat dkX6_next 70 rfl) (by decide) (by decide) ?_
        refine ⟨rfl, ?_⟩
        rw [pm1_0]
        unfold tP tK tV
        rw [← he]
        first
          | (simp only [h55, if_true]; done)
          | (simp only [Nat.not_le.mpr h55, bi_1 h78, if_true, if_false]; done)
          | (simp only [Nat.not_le.mpr h55, bi_0 h78, bi_1 h100, if_true, if_false, Bool.false_eq_true]; done)
          | (simp only [Nat.not_le.mpr h55, bi_0 h78, bi_0 h100, if_true, if_false, Bool.false_eq_true]; rw [if_pos h122]; done)
          | (simp only [Nat.not_le.mpr h55, bi_0 h78, bi_0 h100, if_true, if_false, Bool.false_eq_true]; rw [if_neg h122]; done)
    ·
      refine r_aload_n E (dat dkX6_next 28 rfl) rfl rfl ?_
      refine r_iconst (v := 0) E (dat dkX6_next 29 rfl) rfl ?_
      refine q_putn E ft_X6_22 (dat dkX6_next 30 rfl) rfl rfl rfl (sf1_0 pfT_3) ?_
      refine r_goto (tgt := 143) E (dat dkX6_next 31 rfl) rfl ?_
      refine r_vreturn E (dat dkX6_next 70 rfl) (by decide) (by decide) ?_
      refine ⟨rfl, ?_⟩
      rw [pm1_0]
      unfold tP tK tV
      rw [← he]
      first
        | (simp only [h55, if_true]; done)
        | (simp only [Nat.not_le.mpr h55, bi_1 h78, if_true, if_false]; done)
        | (simp only [Nat.not_le.mpr h55, bi_0 h78, bi_1 h100, if_true, if_false, Bool.false_eq_true]; done)
        | (simp only [Nat.not_le.mpr h55, bi_0 h78, bi_0 h100, if_true, if_false, Bool.false_eq_true]; rw [if_pos h122]; done)
        | (simp only [Nat.not_le.mpr h55, bi_0 h78, bi_0 h100, if_true, if_false, Bool.false_eq_true]; rw [if_neg h122]; done)
  ·
    refine r_aload_n E (dat dkX6_next 5 rfl) rfl rfl ?_
    refine q_geta E fl_X6_9 (dat dkX6_next 6 rfl) rfl rfl rfl ?_
    refine r_aload_n E (dat dkX6_next 7 rfl) rfl rfl ?_
    refine q_getn E fl_X6_19 (dat dkX6_next 8 rfl) rfl rfl rfl (go1_0 gfT_2) ?_
    refine q_bald E (dat dkX6_next 9 rfl) rfl rfl (by decide) (gg1_0 gaT_1) rfl (by omega) ?_
    refine r_callS (μ := []) E (sp_X6_isBlank l G (bs x) _) my_X6_isBlank is_X6_isBlank ml_X6_50 (cm_of rfl) rfl rfl (by decide) (Nat.le_of_ble_eq_true rfl) (dat dkX6_next 10 rfl) ?_
    rintro _ _ ⟨rfl, rfl⟩
    refine ⟨_, Mrg_z rfl, ?_⟩
    refine r_if_eq (tgt := 39) E (dat dkX6_next 11 rfl) rfl (fun h23 => ?_) (fun h23 => ?_)
    ·
      have he : x = tS bs n p := by
        unfold tS
        rw [← hI.2.2]
        first
          | exact (scan_end h8).symm
          | exact (scan_no h8 (bi_0 h23)).symm
      refine r_aload_n E (dat dkX6_next 19 rfl) rfl rfl ?_
      refine r_aload_n E (dat dkX6_next 20 rfl) rfl rfl ?_
      refine q_getn E fl_X6_19 (dat dkX6_next 21 rfl) rfl rfl rfl (go1_0 gfT_2) ?_
      refine q_putn E ft_X6_25 (dat dkX6_next 22 rfl) rfl rfl rfl (sf1_0 pfT_4) ?_
      refine r_aload_n E (dat dkX6_next 23 rfl) rfl rfl ?_
      refine q_getn E fl_X6_19 (dat dkX6_next 24 rfl) rfl rfl rfl (go1_0 gfT_2) ?_
      refine r_aload_n E (dat dkX6_next 25 rfl) rfl rfl ?_
      refine q_getn E fl_X6_15 (dat dkX6_next 26 rfl) rfl rfl rfl (go1_0 gfT_1) ?_
      refine q_icmp_lt (tgt := 66) E (dat dkX6_next 27 rfl) rfl rfl rfl (by omega) (by omega) (fun h55 => ?_) (fun h55 => ?_)
      ·
        refine r_aload_n E (dat dkX6_next 32 rfl) rfl rfl ?_
        refine q_geta E fl_X6_9 (dat dkX6_next 33 rfl) rfl rfl rfl ?_
        refine r_aload_n E (dat dkX6_next 34 rfl) rfl rfl ?_
        refine q_getn E fl_X6_19 (dat dkX6_next 35 rfl) rfl rfl rfl (go1_0 gfT_2) ?_
        refine q_bald E (dat dkX6_next 36 rfl) rfl rfl (by decide) (gg1_0 gaT_1) rfl (by omega) ?_
        refine r_callS (μ := []) E (sp_X6_isLetter l G (bs x) _) my_X6_isLetter is_X6_isLetter ml_X6_54 (cm_of rfl) rfl rfl (by decide) (Nat.le_of_ble_eq_true rfl) (dat dkX6_next 37 rfl) ?_
        rintro _ _ ⟨rfl, rfl⟩
        refine ⟨_, Mrg_z rfl, ?_⟩
        refine r_if_eq (tgt := 88) E (dat dkX6_next 38 rfl) rfl (fun h78 => ?_) (fun h78 => ?_)
        ·
          refine r_aload_n E (dat dkX6_next 42 rfl) rfl rfl ?_
          refine q_geta E fl_X6_9 (dat dkX6_next 43 rfl) rfl rfl rfl ?_
          refine r_aload_n E (dat dkX6_next 44 rfl) rfl rfl ?_
          refine q_getn E fl_X6_19 (dat dkX6_next 45 rfl) rfl rfl rfl (go1_0 gfT_2) ?_
          refine q_bald E (dat dkX6_next 46 rfl) rfl rfl (by decide) (gg1_0 gaT_1) rfl (by omega) ?_
          refine r_callS (μ := []) E (sp_X6_isDigit l G (bs x) _) my_X6_isDigit is_X6_isDigit ml_X6_60 (cm_of rfl) rfl rfl (by decide) (Nat.le_of_ble_eq_true rfl) (dat dkX6_next 47 rfl) ?_
          rintro _ _ ⟨rfl, rfl⟩
          refine ⟨_, Mrg_z rfl, ?_⟩
          refine r_if_eq (tgt := 110) E (dat dkX6_next 48 rfl) rfl (fun h100 => ?_) (fun h100 => ?_)
          ·
            refine r_aload_n E (dat dkX6_next 52 rfl) rfl rfl ?_
            refine r_aload_n E (dat dkX6_next 53 rfl) rfl rfl ?_
            refine q_geta E fl_X6_9 (dat dkX6_next 54 rfl) rfl rfl rfl ?_
            refine r_aload_n E (dat dkX6_next 55 rfl) rfl rfl ?_
            refine q_getn E fl_X6_19 (dat dkX6_next 56 rfl) rfl rfl rfl (go1_0 gfT_2) ?_
            refine q_bald E (dat dkX6_next 57 rfl) rfl rfl (by decide) (gg1_0 gaT_1) rfl (by omega) ?_
            refine r_bipush (v := 59) E (dat dkX6_next 58 rfl) rfl ?_
            refine r_icmp_ne (tgt := 129) E (dat dkX6_next 59 rfl) rfl (fun h122 => ?_) (fun h122 => ?_)
            ·
              refine r_iconst (v := 4) E (dat dkX6_next 62 rfl) rfl ?_
              refine q_putn E ft_X6_22 (dat dkX6_next 63 rfl) rfl rfl rfl (sf1_0 pfT_3) ?_
              refine r_aload_n E (dat dkX6_next 64 rfl) rfl rfl ?_
              refine r_dup E (dat dkX6_next 65 rfl) rfl ?_
              refine q_getn E fl_X6_19 (dat dkX6_next 66 rfl) rfl rfl rfl (go1_0 gfT_2) ?_
              refine r_iconst (v := 1) E (dat dkX6_next 67 rfl) rfl ?_
              refine r_iadd E (dat dkX6_next 68 rfl) ?_
              rw [show nI x + 1 = nI (x + 1) from nI_1 x]
              refine q_putn E ft_X6_19 (dat dkX6_next 69 rfl) rfl rfl rfl (sf1_0 pfT_2) ?_
              refine r_vreturn E (dat dkX6_next 70 rfl) (by decide) (by decide) ?_
              refine ⟨rfl, ?_⟩
              rw [pm1_0]
              unfold tP tK tV
              rw [← he]
              first
                | (simp only [h55, if_true]; done)
                | (simp only [Nat.not_le.mpr h55, bi_1 h78, if_true, if_false]; done)
                | (simp only [Nat.not_le.mpr h55, bi_0 h78, bi_1 h100, if_true, if_false, Bool.false_eq_true]; done)
                | (simp only [Nat.not_le.mpr h55, bi_0 h78, bi_0 h100, if_true, if_false, Bool.false_eq_true]; rw [if_pos h122]; done)
                | (simp only [Nat.not_le.mpr h55, bi_0 h78, bi_0 h100, if_true, if_false, Bool.false_eq_true]; rw [if_neg h122]; done)
            ·
              refine r_iconst (v := 3) E (dat dkX6_next 60 rfl) rfl ?_
              refine r_goto (tgt := 130) E (dat dkX6_next 61 rfl) rfl ?_
              refine q_putn E ft_X6_22 (dat dkX6_next 63 rfl) rfl rfl rfl (sf1_0 pfT_3) ?_
              refine r_aload_n E (dat dkX6_next 64 rfl) rfl rfl ?_
              refine r_dup E (dat dkX6_next 65 rfl) rfl ?_
              refine q_getn E fl_X6_19 (dat dkX6_next 66 rfl) rfl rfl rfl (go1_0 gfT_2) ?_
              refine r_iconst (v := 1) E (dat dkX6_next 67 rfl) rfl ?_
              refine r_iadd E (dat dkX6_next 68 rfl) ?_
              rw [show nI x + 1 = nI (x + 1) from nI_1 x]
              refine q_putn E ft_X6_19 (dat dkX6_next 69 rfl) rfl rfl rfl (sf1_0 pfT_2) ?_
              refine r_vreturn E (dat dkX6_next 70 rfl) (by decide) (by decide) ?_
              refine ⟨rfl, ?_⟩
              rw [pm1_0]
              unfold tP tK tV
              rw [← he]
              first
                | (simp only [h55, if_true]; done)
                | (simp only [Nat.not_le.mpr h55, bi_1 h78, if_true, if_false]; done)
                | (simp only [Nat.not_le.mpr h55, bi_0 h78, bi_1 h100, if_true, if_false, Bool.false_eq_true]; done)
                | (simp only [Nat.not_le.mpr h55, bi_0 h78, bi_0 h100, if_true, if_false, Bool.false_eq_true]; rw [if_pos h122]; done)
                | (simp only [Nat.not_le.mpr h55, bi_0 h78, bi_0 h100, if_true, if_false, Bool.false_eq_true]; rw [if_neg h122]; done)
          ·
            refine r_aload_n E (dat dkX6_next 49 rfl) rfl rfl ?_
            refine r_callV (κ := 3) (μ := [0]) E (sp_X6_readNumber l G B0 n ki va ec eo bs x _ rfl hI.2.1 hn) my_X6_readNumber iv_X6_readNumber ml_X6_63 (cm_of rfl) ⟨by decide, rfl, rfl⟩ rfl rfl rfl rfl (by decide) (Nat.le_of_ble_eq_true rfl) (dat dkX6_next 50 rfl) ?_
            rintro _ _ ⟨rfl, rfl⟩
            refine ⟨_, Mrg_e (by decide) (by decide) pm1_0 rfl, ?_⟩
            refine r_goto (tgt := 143) E (dat dkX6_next 51 rfl) rfl ?_
            refine r_vreturn E (dat dkX6_next 70 rfl) (by decide) (by decide) ?_
            refine ⟨rfl, ?_⟩
            rw [pm1_0]
            unfold tP tK tV
            rw [← he]
            first
              | (simp only [h55, if_true]; done)
              | (simp only [Nat.not_le.mpr h55, bi_1 h78, if_true, if_false]; done)
              | (simp only [Nat.not_le.mpr h55, bi_0 h78, bi_1 h100, if_true, if_false, Bool.false_eq_true]; done)
              | (simp only [Nat.not_le.mpr h55, bi_0 h78, bi_0 h100, if_true, if_false, Bool.false_eq_true]; rw [if_pos h122]; done)
              | (simp only [Nat.not_le.mpr h55, bi_0 h78, bi_0 h100, if_true, if_false, Bool.false_eq_true]; rw [if_neg h122]; done)
        ·
          refine r_aload_n E (dat dkX6_next 39 rfl) rfl rfl ?_
          refine r_callV (κ := 3) (μ := [0]) E (sp_X6_readWord l G B0 n ki va ec eo bs x _ rfl hI.2.1 hn) my_X6_readWord iv_X6_readWord ml_X6_57 (cm_of rfl) ⟨by decide, rfl, rfl⟩ rfl rfl rfl rfl (by decide) (Nat.le_of_ble_eq_true rfl) (dat dkX6_next 40 rfl) ?_
          rintro _ _ ⟨rfl, rfl⟩
          refine ⟨_, Mrg_e (by decide) (by decide) pm1_0 rfl, ?_⟩
          refine r_goto (tgt := 143) E (dat dkX6_next 41 rfl) rfl ?_
          refine r_vreturn E (dat dkX6_next 70 rfl) (by decide) (by decide) ?_
          refine ⟨rfl, ?_⟩
          rw [pm1_0]
          unfold tP tK tV
          rw [← he]
          first
            | (simp only [h55, if_true]; done)
            | (simp only [Nat.not_le.mpr h55, bi_1 h78, if_true, if_false]; done)
            | (simp only [Nat.not_le.mpr h55, bi_0 h78, bi_1 h100, if_true, if_false, Bool.false_eq_true]; done)
            | (simp only [Nat.not_le.mpr h55, bi_0 h78, bi_0 h100, if_true, if_false, Bool.false_eq_true]; rw [if_pos h122]; done)
            | (simp only [Nat.not_le.mpr h55, bi_0 h78, bi_0 h100, if_true, if_false, Bool.false_eq_true]; rw [if_neg h122]; done)
      ·
        refine r_aload_n E (dat dkX6_next 28 rfl) rfl rfl ?_
        refine r_iconst (v := 0) E (dat dkX6_next 29 rfl) rfl ?_
        refine q_putn E ft_X6_22 (dat dkX6_next 30 rfl) rfl rfl rfl (sf1_0 pfT_3) ?_
        refine r_goto (tgt := 143) E (dat dkX6_next 31 rfl) rfl ?_
        refine r_vreturn E (dat dkX6_next 70 rfl) (by decide) (by decide) ?_
        refine ⟨rfl, ?_⟩
        rw [pm1_0]
        unfold tP tK tV
        rw [← he]
        first
          | (simp only [h55, if_true]; done)
          | (simp only [Nat.not_le.mpr h55, bi_1 h78, if_true, if_false]; done)
          | (simp only [Nat.not_le.mpr h55, bi_0 h78, bi_1 h100, if_true, if_false, Bool.false_eq_true]; done)
          | (simp only [Nat.not_le.mpr h55, bi_0 h78, bi_0 h100, if_true, if_false, Bool.false_eq_true]; rw [if_pos h122]; done)
          | (simp only [Nat.not_le.mpr h55, bi_0 h78, bi_0 h100, if_true, if_false, Bool.false_eq_true]; rw [if_neg h122]; done)
    ·
      refine r_aload_n E (dat dkX6_next 12 rfl) rfl rfl ?_
      refine r_dup E (dat dkX6_next 13 rfl) rfl ?_
      refine q_getn E fl_X6_19 (dat dkX6_next 14 rfl) rfl rfl rfl (go1_0 gfT_2) ?_
      refine r_iconst (v := 1) E (dat dkX6_next 15 rfl) rfl ?_
      refine r_iadd E (dat dkX6_next 16 rfl) ?_
      refine q_putn E ft_X6_19 (dat dkX6_next 17 rfl) rfl rfl rfl (sf1_0 pfT_2) ?_
      refine r_goto (tgt := 0) E (dat dkX6_next 18 rfl) rfl ?_
      rw [show nI x + 1 = nI (x + 1) from nI_1 x]
      exact kk (x + 1) ⟨by omega, by omega, (scan_go h8 (bi_1 h23)).trans hI.2.2⟩ (by omega)

set_option maxRecDepth 100000 in
set_option maxHeartbeats 4000000 in
theorem sp_X6_takeNumber (l : Launch) (G : GT) (B0 : Nat → Nat → Int32) (n : Nat) (ki st va ec eo : Int32) (bs : Nat → Int32) (p : Nat) (lo hi : Int32) (M : Mem) (hA0 : M 0 = (vT B0 (nI n) (nI p) ki st va ec eo bs)) (hp : p ≤ n) (hn : n ≤ 600) : MC l G yX6_takeNumber cX6_takeNumber 3 (some .boolean) ({ frames := 3, cells := 0, slots := 0, locals := 60 } : Room) [3] lk0 [rv 0 0, iv lo, iv hi] (M) (fun r M2 => r = some (iv (feI (tnC bs n p va lo hi) 1 0)) ∧ M2 = setm M 0 (vT B0 (nI n) (nI (tP bs n p)) (tK bs n p) (nI (tS bs n p)) (tV bs n p va) (feI (tnC bs n p va lo hi) ec (tnC bs n p va lo hi)) (feI (tnC bs n p va lo hi) eo (nI (tS bs n p))) bs)) := by
  obtain ⟨M0, rfl⟩ : ∃ M0, M = m1 ((vT B0 (nI n) (nI p) ki st va ec eo bs)) M0 := ⟨M, (m1_of hA0).symm⟩
  clear hA0
  refine MC.of RX6 [some (rv 0 0), some (iv lo), some (iv hi)] 0 (by decide +kernel) rfl rfl rfl ?_
  intro pp ee ss mm aa bb me cd ad E
  refine r_aload_n E (dat dkX6_takeNumber 0 rfl) rfl rfl ?_
  refine r_callV (κ := 3) (μ := [0]) E (sp_X6_next l G B0 n ki st va ec eo bs p _ rfl hp hn) my_X6_next iv_X6_next ml_X6_66 (cm_of rfl) ⟨by decide, rfl, rfl⟩ rfl rfl rfl rfl (by decide) (Nat.le_of_ble_eq_true rfl) (dat dkX6_takeNumber 1 rfl) ?_
  rintro _ _ ⟨rfl, rfl⟩
  refine ⟨_, Mrg_e (by decide) (by decide) pm1_0 rfl, ?_⟩
  refine r_aload_n E (dat dkX6_takeNumber 2 rfl) rfl rfl ?_
  refine q_getn E fl_X6_22 (dat dkX6_takeNumber 3 rfl) rfl rfl rfl (go1_0 gfT_3) ?_
  refine r_iconst (v := 2) E (dat dkX6_takeNumber 4 rfl) rfl ?_
  refine r_icmp_eq (tgt := 18) E (dat dkX6_takeNumber 5 rfl) rfl (fun h9 => ?_) (fun h9 => ?_)
  ·
    refine r_aload_n E (dat dkX6_takeNumber 10 rfl) rfl rfl ?_
    refine q_getn E fl_X6_28 (dat dkX6_takeNumber 11 rfl) rfl rfl rfl (go1_0 gfT_5) ?_
    refine r_iload_n E (dat dkX6_takeNumber 12 rfl) rfl rfl ?_
    refine r_icmp_lt (tgt := 34) E (dat dkX6_takeNumber 13 rfl) rfl (fun h23 => ?_) (fun h23 => ?_)
    ·
      refine r_aload_n E (dat dkX6_takeNumber 18 rfl) rfl rfl ?_
      refine r_iconst (v := 2) E (dat dkX6_takeNumber 19 rfl) rfl ?_
      refine r_callV (κ := 3) (μ := [0]) E (sp_X6_fail l G B0 n (nI (tP bs n p)) (tK bs n p) (nI (tS bs n p)) (tV bs n p va) ec eo bs 2 _ rfl) my_X6_fail iv_X6_fail ml_X6_69 (cm_of rfl) ⟨by decide, rfl, rfl⟩ rfl rfl rfl rfl (by decide) (Nat.le_of_ble_eq_true rfl) (dat dkX6_takeNumber 20 rfl) ?_
      rintro _ _ ⟨rfl, rfl⟩
      refine ⟨_, Mrg_e (by decide) (by decide) pm1_0 rfl, ?_⟩
      refine r_if_eq (tgt := 46) E (dat dkX6_takeNumber 21 rfl) rfl (fun h39 => ?_) (fun h39 => ?_)
      ·
        refine r_iconst (v := 0) E (dat dkX6_takeNumber 24 rfl) rfl ?_
        refine r_zreturn E (dat dkX6_takeNumber 25 rfl) rfl (by decide) (by decide) ?_
        rw [pm1_0]
        have hC : tnC bs n p va lo hi = tnC bs n p va lo hi := rfl
        conv at hC => rhs; unfold tnC
        first
          | (simp only [h9, if_false] at hC; rw [hC]; exact ⟨by rw [feI_1], by rw [feI_1, feI_1]⟩)
          | (simp only [h9, h23, if_true] at hC; rw [hC]; exact ⟨by rw [feI_2], by rw [feI_2, feI_2]⟩)
          | (simp only [h9, h23, i32_nlt h31, if_true, if_false] at hC; rw [hC]; exact ⟨by rw [feI_0], by rw [feI_0, feI_0]⟩)
          | (simp only [h9, h23, i32_nle h31, if_true, if_false] at hC; rw [hC]; exact ⟨by rw [feI_2], by rw [feI_2, feI_2]⟩)
      ·
        exact absurd rfl h39
    ·
      refine r_aload_n E (dat dkX6_takeNumber 14 rfl) rfl rfl ?_
      refine q_getn E fl_X6_28 (dat dkX6_takeNumber 15 rfl) rfl rfl rfl (go1_0 gfT_5) ?_
      refine r_iload_n E (dat dkX6_takeNumber 16 rfl) rfl rfl ?_
      refine r_icmp_le (tgt := 42) E (dat dkX6_takeNumber 17 rfl) rfl (fun h31 => ?_) (fun h31 => ?_)
      ·
        refine r_iconst (v := 1) E (dat dkX6_takeNumber 22 rfl) rfl ?_
        refine r_goto (tgt := 47) E (dat dkX6_takeNumber 23 rfl) rfl ?_
        refine r_zreturn E (dat dkX6_takeNumber 25 rfl) rfl (by decide) (by decide) ?_
        rw [pm1_0]
        have hC : tnC bs n p va lo hi = tnC bs n p va lo hi := rfl
        conv at hC => rhs; unfold tnC
        first
          | (simp only [h9, if_false] at hC; rw [hC]; exact ⟨by rw [feI_1], by rw [feI_1, feI_1]⟩)
          | (simp only [h9, h23, if_true] at hC; rw [hC]; exact ⟨by rw [feI_2], by rw [feI_2, feI_2]⟩)
          | (simp only [h9, h23, i32_nlt h31, if_true, if_false] at hC; rw [hC]; exact ⟨by rw [feI_0], by rw [feI_0, feI_0]⟩)
          | (simp only [h9, h23, i32_nle h31, if_true, if_false] at hC; rw [hC]; exact ⟨by rw [feI_2], by rw [feI_2, feI_2]⟩)
      ·
        refine r_aload_n E (dat dkX6_takeNumber 18 rfl) rfl rfl ?_
        refine r_iconst (v := 2) E (dat dkX6_takeNumber 19 rfl) rfl ?_
        refine r_callV (κ := 3) (μ := [0]) E (sp_X6_fail l G B0 n (nI (tP bs n p)) (tK bs n p) (nI (tS bs n p)) (tV bs n p va) ec eo bs 2 _ rfl) my_X6_fail iv_X6_fail ml_X6_69 (cm_of rfl) ⟨by decide, rfl, rfl⟩ rfl rfl rfl rfl (by decide) (Nat.le_of_ble_eq_true rfl) (dat dkX6_takeNumber 20 rfl) ?_
        rintro _ _ ⟨rfl, rfl⟩
        refine ⟨_, Mrg_e (by decide) (by decide) pm1_0 rfl, ?_⟩
        refine r_if_eq (tgt := 46) E (dat dkX6_takeNumber 21 rfl) rfl (fun h39 => ?_) (fun h39 => ?_)
        ·
          refine r_iconst (v := 0) E (dat dkX6_takeNumber 24 rfl) rfl ?_
          refine r_zreturn E (dat dkX6_takeNumber 25 rfl) rfl (by decide) (by decide) ?_
          rw [pm1_0]
          have hC : tnC bs n p va lo hi = tnC bs n p va lo hi := rfl
          conv at hC => rhs; unfold tnC
          first
            | (simp only [h9, if_false] at hC; rw [hC]; exact ⟨by rw [feI_1], by rw [feI_1, feI_1]⟩)
            | (simp only [h9, h23, if_true] at hC; rw [hC]; exact ⟨by rw [feI_2], by rw [feI_2, feI_2]⟩)
            | (simp only [h9, h23, i32_nlt h31, if_true, if_false] at hC; rw [hC]; exact ⟨by rw [feI_0], by rw [feI_0, feI_0]⟩)
            | (simp only [h9, h23, i32_nle h31, if_true, if_false] at hC; rw [hC]; exact ⟨by rw [feI_2], by rw [feI_2, feI_2]⟩)
        ·
          exact absurd rfl h39
  ·
    refine r_aload_n E (dat dkX6_takeNumber 6 rfl) rfl rfl ?_
    refine r_iconst (v := 1) E (dat dkX6_takeNumber 7 rfl) rfl ?_
    refine r_callV (κ := 3) (μ := [0]) E (sp_X6_fail l G B0 n (nI (tP bs n p)) (tK bs n p) (nI (tS bs n p)) (tV bs n p va) ec eo bs 1 _ rfl) my_X6_fail iv_X6_fail ml_X6_69 (cm_of rfl) ⟨by decide, rfl, rfl⟩ rfl rfl rfl rfl (by decide) (Nat.le_of_ble_eq_true rfl) (dat dkX6_takeNumber 8 rfl) ?_
    rintro _ _ ⟨rfl, rfl⟩
    refine ⟨_, Mrg_e (by decide) (by decide) pm1_0 rfl, ?_⟩
    refine r_zreturn E (dat dkX6_takeNumber 9 rfl) rfl (by decide) (by decide) ?_
    rw [pm1_0]
    have hC : tnC bs n p va lo hi = tnC bs n p va lo hi := rfl
    conv at hC => rhs; unfold tnC
    first
      | (simp only [h9, if_false] at hC; rw [hC]; exact ⟨by rw [feI_1], by rw [feI_1, feI_1]⟩)
      | (simp only [h9, h23, if_true] at hC; rw [hC]; exact ⟨by rw [feI_2], by rw [feI_2, feI_2]⟩)
      | (simp only [h9, h23, i32_nlt h31, if_true, if_false] at hC; rw [hC]; exact ⟨by rw [feI_0], by rw [feI_0, feI_0]⟩)
      | (simp only [h9, h23, i32_nle h31, if_true, if_false] at hC; rw [hC]; exact ⟨by rw [feI_2], by rw [feI_2, feI_2]⟩)

set_option maxRecDepth 100000 in
set_option maxHeartbeats 4000000 in
theorem sp_X6_takeName (l : Launch) (G : GT) (B0 : Nat → Nat → Int32) (n : Nat) (ki st va ec eo : Int32) (bs : Nat → Int32) (p : Nat) (M : Mem) (hA0 : M 0 = (vT B0 (nI n) (nI p) ki st va ec eo bs)) (hp : p ≤ n) (hn : n ≤ 600) : MC l G yX6_takeName cX6_takeName 1 (some .boolean) ({ frames := 3, cells := 0, slots := 0, locals := 60 } : Room) [3] lk0 [rv 0 0] (M) (fun r M2 => r = some (iv (feI (tmC bs n p) 1 0)) ∧ M2 = setm M 0 (vT B0 (nI n) (nI (tP bs n p)) (tK bs n p) (nI (tS bs n p)) (tV bs n p va) (feI (tmC bs n p) ec (tmC bs n p)) (feI (tmC bs n p) eo (nI (tS bs n p))) bs)) := by
  obtain ⟨M0, rfl⟩ : ∃ M0, M = m1 ((vT B0 (nI n) (nI p) ki st va ec eo bs)) M0 := ⟨M, (m1_of hA0).symm⟩
  clear hA0
  refine MC.of RX6 [some (rv 0 0)] 0 (by decide +kernel) rfl rfl rfl ?_
  intro pp ee ss mm aa bb me cd ad E
  refine r_aload_n E (dat dkX6_takeName 0 rfl) rfl rfl ?_
  refine r_callV (κ := 3) (μ := [0]) E (sp_X6_next l G B0 n ki st va ec eo bs p _ rfl hp hn) my_X6_next iv_X6_next ml_X6_66 (cm_of rfl) ⟨by decide, rfl, rfl⟩ rfl rfl rfl rfl (by decide) (Nat.le_of_ble_eq_true rfl) (dat dkX6_takeName 1 rfl) ?_
  rintro _ _ ⟨rfl, rfl⟩
  refine ⟨_, Mrg_e (by decide) (by decide) pm1_0 rfl, ?_⟩
  refine r_aload_n E (dat dkX6_takeName 2 rfl) rfl rfl ?_
  refine q_getn E fl_X6_22 (dat dkX6_takeName 3 rfl) rfl rfl rfl (go1_0 gfT_3) ?_
  refine r_iconst (v := 1) E (dat dkX6_takeName 4 rfl) rfl ?_
  have hle := tP_le (b := bs) hp
  refine r_icmp_ne (tgt := 26) E (dat dkX6_takeName 5 rfl) rfl (fun h9 => ?_) (fun h9 => ?_)
  ·
    refine r_aload_n E (dat dkX6_takeName 13 rfl) rfl rfl ?_
    refine r_iconst (v := 1) E (dat dkX6_takeName 14 rfl) rfl ?_
    refine r_callV (κ := 3) (μ := [0]) E (sp_X6_fail l G B0 n (nI (tP bs n p)) (tK bs n p) (nI (tS bs n p)) (tV bs n p va) ec eo bs 1 _ rfl) my_X6_fail iv_X6_fail ml_X6_69 (cm_of rfl) ⟨by decide, rfl, rfl⟩ rfl rfl rfl rfl (by decide) (Nat.le_of_ble_eq_true rfl) (dat dkX6_takeName 15 rfl) ?_
    rintro _ _ ⟨rfl, rfl⟩
    refine ⟨_, Mrg_e (by decide) (by decide) pm1_0 rfl, ?_⟩
    refine r_if_eq (tgt := 38) E (dat dkX6_takeName 16 rfl) rfl (fun h31 => ?_) (fun h31 => ?_)
    ·
      refine r_iconst (v := 0) E (dat dkX6_takeName 19 rfl) rfl ?_
      refine r_zreturn E (dat dkX6_takeName 20 rfl) rfl (by decide) (by decide) ?_
      rw [pm1_0]
      have hC : tmC bs n p = tmC bs n p := rfl
      conv at hC => rhs; unfold tmC
      first
        | (simp only [h9, if_false] at hC; rw [hC]; exact ⟨by rw [feI_1], by rw [feI_1, feI_1]⟩)
        | (rw [if_pos h9, if_pos h23] at hC; rw [hC]; exact ⟨by rw [feI_0], by rw [feI_0, feI_0]⟩)
        | (rw [if_pos h9, if_neg (by omega)] at hC; rw [hC]; exact ⟨by rw [feI_1], by rw [feI_1, feI_1]⟩)
    ·
      exact absurd rfl h31
  ·
    refine r_aload_n E (dat dkX6_takeName 6 rfl) rfl rfl ?_
    refine q_getn E fl_X6_19 (dat dkX6_takeName 7 rfl) rfl rfl rfl (go1_0 gfT_2) ?_
    refine r_aload_n E (dat dkX6_takeName 8 rfl) rfl rfl ?_
    refine q_getn E fl_X6_25 (dat dkX6_takeName 9 rfl) rfl rfl rfl (go1_0 gfT_4) ?_
    refine r_isub E (dat dkX6_takeName 10 rfl) ?_
    refine r_bipush (v := 6) E (dat dkX6_takeName 11 rfl) rfl ?_
    refine q_icmp_le (tgt := 34) E (dat dkX6_takeName 12 rfl) rfl (pk_sub (tP_le hp).1) (b := 6) rfl (by omega) (by omega) (fun h23 => ?_) (fun h23 => ?_)
    ·
      refine r_iconst (v := 1) E (dat dkX6_takeName 17 rfl) rfl ?_
      refine r_goto (tgt := 39) E (dat dkX6_takeName 18 rfl) rfl ?_
      refine r_zreturn E (dat dkX6_takeName 20 rfl) rfl (by decide) (by decide) ?_
      rw [pm1_0]
      have hC : tmC bs n p = tmC bs n p := rfl
      conv at hC => rhs; unfold tmC
      first
        | (simp only [h9, if_false] at hC; rw [hC]; exact ⟨by rw [feI_1], by rw [feI_1, feI_1]⟩)
        | (rw [if_pos h9, if_pos h23] at hC; rw [hC]; exact ⟨by rw [feI_0], by rw [feI_0, feI_0]⟩)
        | (rw [if_pos h9, if_neg (by omega)] at hC; rw [hC]; exact ⟨by rw [feI_1], by rw [feI_1, feI_1]⟩)
    ·
      refine r_aload_n E (dat dkX6_takeName 13 rfl) rfl rfl ?_
      refine r_iconst (v := 1) E (dat dkX6_takeName 14 rfl) rfl ?_
      refine r_callV (κ := 3) (μ := [0]) E (sp_X6_fail l G B0 n (nI (tP bs n p)) (tK bs n p) (nI (tS bs n p)) (tV bs n p va) ec eo bs 1 _ rfl) my_X6_fail iv_X6_fail ml_X6_69 (cm_of rfl) ⟨by decide, rfl, rfl⟩ rfl rfl rfl rfl (by decide) (Nat.le_of_ble_eq_true rfl) (dat dkX6_takeName 15 rfl) ?_
      rintro _ _ ⟨rfl, rfl⟩
      refine ⟨_, Mrg_e (by decide) (by decide) pm1_0 rfl, ?_⟩
      refine r_if_eq (tgt := 38) E (dat dkX6_takeName 16 rfl) rfl (fun h31 => ?_) (fun h31 => ?_)
      ·
        refine r_iconst (v := 0) E (dat dkX6_takeName 19 rfl) rfl ?_
        refine r_zreturn E (dat dkX6_takeName 20 rfl) rfl (by decide) (by decide) ?_
        rw [pm1_0]
        have hC : tmC bs n p = tmC bs n p := rfl
        conv at hC => rhs; unfold tmC
        first
          | (simp only [h9, if_false] at hC; rw [hC]; exact ⟨by rw [feI_1], by rw [feI_1, feI_1]⟩)
          | (rw [if_pos h9, if_pos h23] at hC; rw [hC]; exact ⟨by rw [feI_0], by rw [feI_0, feI_0]⟩)
          | (rw [if_pos h9, if_neg (by omega)] at hC; rw [hC]; exact ⟨by rw [feI_1], by rw [feI_1, feI_1]⟩)
      ·
        exact absurd rfl h31

set_option maxRecDepth 100000 in
set_option maxHeartbeats 4000000 in
theorem sp_X6_takeSemicolon (l : Launch) (G : GT) (B0 : Nat → Nat → Int32) (n : Nat) (ki st va ec eo : Int32) (bs : Nat → Int32) (p : Nat) (M : Mem) (hA0 : M 0 = (vT B0 (nI n) (nI p) ki st va ec eo bs)) (hp : p ≤ n) (hn : n ≤ 600) : MC l G yX6_takeSemicolon cX6_takeSemicolon 1 (some .boolean) ({ frames := 3, cells := 0, slots := 0, locals := 60 } : Room) [3] lk0 [rv 0 0] (M) (fun r M2 => r = some (iv (feI (tsC bs n p) 1 0)) ∧ M2 = setm M 0 (vT B0 (nI n) (nI (tP bs n p)) (tK bs n p) (nI (tS bs n p)) (tV bs n p va) (feI (tsC bs n p) ec (tsC bs n p)) (feI (tsC bs n p) eo (nI (tS bs n p))) bs)) := by
  obtain ⟨M0, rfl⟩ : ∃ M0, M = m1 ((vT B0 (nI n) (nI p) ki st va ec eo bs)) M0 := ⟨M, (m1_of hA0).symm⟩
  clear hA0
  refine MC.of RX6 [some (rv 0 0)] 0 (by decide +kernel) rfl rfl rfl ?_
  intro pp ee ss mm aa bb me cd ad E
  refine r_aload_n E (dat dkX6_takeSemicolon 0 rfl) rfl rfl ?_
  refine r_callV (κ := 3) (μ := [0]) E (sp_X6_next l G B0 n ki st va ec eo bs p _ rfl hp hn) my_X6_next iv_X6_next ml_X6_66 (cm_of rfl) ⟨by decide, rfl, rfl⟩ rfl rfl rfl rfl (by decide) (Nat.le_of_ble_eq_true rfl) (dat dkX6_takeSemicolon 1 rfl) ?_
  rintro _ _ ⟨rfl, rfl⟩
  refine ⟨_, Mrg_e (by decide) (by decide) pm1_0 rfl, ?_⟩
  refine r_aload_n E (dat dkX6_takeSemicolon 2 rfl) rfl rfl ?_
  refine q_getn E fl_X6_22 (dat dkX6_takeSemicolon 3 rfl) rfl rfl rfl (go1_0 gfT_3) ?_
  refine r_iconst (v := 3) E (dat dkX6_takeSemicolon 4 rfl) rfl ?_
  refine r_icmp_eq (tgt := 20) E (dat dkX6_takeSemicolon 5 rfl) rfl (fun h9 => ?_) (fun h9 => ?_)
  ·
    refine r_iconst (v := 1) E (dat dkX6_takeSemicolon 10 rfl) rfl ?_
    refine r_goto (tgt := 25) E (dat dkX6_takeSemicolon 11 rfl) rfl ?_
    refine r_zreturn E (dat dkX6_takeSemicolon 13 rfl) rfl (by decide) (by decide) ?_
    rw [pm1_0]
    have hC : tsC bs n p = tsC bs n p := rfl
    conv at hC => rhs; unfold tsC
    first
      | (rw [if_pos h9] at hC; rw [hC]; exact ⟨by rw [feI_0], by rw [feI_0, feI_0]⟩)
      | (rw [if_neg h9] at hC; rw [hC]; exact ⟨by rw [feI_1], by rw [feI_1, feI_1]⟩)
  ·
    refine r_aload_n E (dat dkX6_takeSemicolon 6 rfl) rfl rfl ?_
    refine r_iconst (v := 1) E (dat dkX6_takeSemicolon 7 rfl) rfl ?_
    refine r_callV (κ := 3) (μ := [0]) E (sp_X6_fail l G B0 n (nI (tP bs n p)) (tK bs n p) (nI (tS bs n p)) (tV bs n p va) ec eo bs 1 _ rfl) my_X6_fail iv_X6_fail ml_X6_69 (cm_of rfl) ⟨by decide, rfl, rfl⟩ rfl rfl rfl rfl (by decide) (Nat.le_of_ble_eq_true rfl) (dat dkX6_takeSemicolon 8 rfl) ?_
    rintro _ _ ⟨rfl, rfl⟩
    refine ⟨_, Mrg_e (by decide) (by decide) pm1_0 rfl, ?_⟩
    refine r_if_eq (tgt := 24) E (dat dkX6_takeSemicolon 9 rfl) rfl (fun h17 => ?_) (fun h17 => ?_)
    ·
      refine r_iconst (v := 0) E (dat dkX6_takeSemicolon 12 rfl) rfl ?_
      refine r_zreturn E (dat dkX6_takeSemicolon 13 rfl) rfl (by decide) (by decide) ?_
      rw [pm1_0]
      have hC : tsC bs n p = tsC bs n p := rfl
      conv at hC => rhs; unfold tsC
      first
        | (rw [if_pos h9] at hC; rw [hC]; exact ⟨by rw [feI_0], by rw [feI_0, feI_0]⟩)
        | (rw [if_neg h9] at hC; rw [hC]; exact ⟨by rw [feI_1], by rw [feI_1, feI_1]⟩)
    ·
      exact absurd rfl h17
