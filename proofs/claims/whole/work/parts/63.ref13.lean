/-- the past's row k -/
def pRw (P : Nat → Int32) (k q : Nat) : Int32 := P (443 * k + q)
theorem md_gM {M : Mem} {A B P : Nat → Int32} {k : Int32} : md (gM 4 4 (md M A) P k) B = gM 4 4 (md M B) P k := by
  funext g
  unfold md gM setm
  by_cases hg : g = 0
  · simp only [if_pos hg, if_true]
    funext u
    unfold sett
    by_cases h0 : u = 0
    · subst h0; rfl
    · by_cases h1 : u = 1
      · subst h1; rfl
      · by_cases h4 : u = 4
        · subst h4; rfl
        · simp only [h0, h1, h4, if_false]
  · simp only [if_neg hg]
set_option maxRecDepth 100000 in
set_option maxHeartbeats 4000000 in
theorem sp_X10_errorCode (l : Launch) (G : GT) (M : Mem)  : MC l G yX10_errorCode cX10_errorCode 1 (some .int) ({ frames := 0, cells := 0, slots := 0, locals := 0 } : Room) [9] lk0 [rv 0 0] (M) (fun r M2 => r = some (iv (M 0 0 11)) ∧ M2 = mt M 0) := by
  refine MC.of RX10 [some (rv 0 0)] 0 (by decide +kernel) rfl rfl rfl ?_
  intro pp ee ss mm aa bb me cd ad E
  refine r_aload_n E (dat dkX10_errorCode 0 rfl) rfl rfl ?_
  refine r_iconst (v := 0) E (dat dkX10_errorCode 1 rfl) rfl ?_
  refine q_putn E ft_X10_67 (dat dkX10_errorCode 2 rfl) rfl rfl rfl rfl ?_
  refine r_aload_n E (dat dkX10_errorCode 3 rfl) rfl rfl ?_
  refine q_getn E fl_X10_154 (dat dkX10_errorCode 4 rfl) rfl rfl rfl rfl ?_
  refine r_ireturn E (dat dkX10_errorCode 5 rfl) (by decide) (by decide) ?_
  exact ⟨rfl, rfl⟩

set_option maxRecDepth 100000 in
set_option maxHeartbeats 4000000 in
theorem sp_X10_errorOffset (l : Launch) (G : GT) (M : Mem)  : MC l G yX10_errorOffset cX10_errorOffset 1 (some .int) ({ frames := 0, cells := 0, slots := 0, locals := 0 } : Room) [9] lk0 [rv 0 0] (M) (fun r M2 => r = some (iv (M 0 0 12)) ∧ M2 = mt M 0) := by
  refine MC.of RX10 [some (rv 0 0)] 0 (by decide +kernel) rfl rfl rfl ?_
  intro pp ee ss mm aa bb me cd ad E
  refine r_aload_n E (dat dkX10_errorOffset 0 rfl) rfl rfl ?_
  refine r_iconst (v := 0) E (dat dkX10_errorOffset 1 rfl) rfl ?_
  refine q_putn E ft_X10_67 (dat dkX10_errorOffset 2 rfl) rfl rfl rfl rfl ?_
  refine r_aload_n E (dat dkX10_errorOffset 3 rfl) rfl rfl ?_
  refine q_getn E fl_X10_29 (dat dkX10_errorOffset 4 rfl) rfl rfl rfl rfl ?_
  refine r_ireturn E (dat dkX10_errorOffset 5 rfl) (by decide) (by decide) ?_
  exact ⟨rfl, rfl⟩

set_option maxRecDepth 100000 in
set_option maxHeartbeats 4000000 in
theorem sp_X10_outputByte (l : Launch) (G : GT) (a : Int32) (o : Nat → Int32) (k : Nat) (M : Mem) (hO : M 0 25 = o) (hk : M 0 0 25 = nI k) (hk16 : k ≤ 16) : MC l G yX10_outputByte cX10_outputByte 2 (some .int) ({ frames := 1, cells := 0, slots := 0, locals := 25 } : Room) [9] lk0 [rv 0 0, iv a] (M) (fun r M2 => r = some (iv (if a < 0 then -1 else if nI k ≤ a then -1 else o a.toNatClampNeg)) ∧ M2 = mt M 0) := by
  refine MC.of RX10 [some (rv 0 0), some (iv a)] 0 (by decide +kernel) rfl rfl rfl ?_
  intro pp ee ss mm aa bb me cd ad E
  rcases wI_any (a := a) (u := k) (by omega) with ⟨hi1, hr9⟩ | ⟨hi0, hr9⟩
  ·
    obtain ⟨j, hj, rfl⟩ := hr9
    refine r_aload_n E (dat dkX10_outputByte 0 rfl) rfl rfl ?_
    refine r_iconst (v := 0) E (dat dkX10_outputByte 1 rfl) rfl ?_
    refine q_putn E ft_X10_67 (dat dkX10_outputByte 2 rfl) rfl rfl rfl rfl ?_
    refine r_iload_n E (dat dkX10_outputByte 3 rfl) rfl rfl ?_
    refine r_i2l E (dat dkX10_outputByte 4 rfl) ?_
    refine r_lconst E (dat dkX10_outputByte 5 rfl) rfl ?_
    refine r_aload_n E (dat dkX10_outputByte 6 rfl) rfl rfl ?_
    refine q_getn E fl_X10_402 (dat dkX10_outputByte 7 rfl) rfl rfl rfl (show _ = nI k from hk) ?_
    refine r_iconst (v := 1) E (dat dkX10_outputByte 8 rfl) rfl ?_
    refine r_isub E (dat dkX10_outputByte 9 rfl) ?_
    refine r_i2l E (dat dkX10_outputByte 10 rfl) ?_
    refine r_callS (μ := []) E (sp_X10_isWithin l G (nI j).toInt64 0 (nI k - 1).toInt64 _) my_X10_isWithin is_X10_isWithin ml_X10_80 cm_nil rfl rfl (by decide) (Nat.le_of_ble_eq_true rfl) (dat dkX10_outputByte 11 rfl) ?_
    rintro _ _ ⟨rfl, hM⟩
    refine ⟨_, Mrg_z hM, ?_⟩
    clear hM
    rw [hi1]
    refine r_if_eq (tgt := 30) E (dat dkX10_outputByte 12 rfl) rfl (fun h18 => ?_) (fun h18 => ?_)
    ·
      exact absurd h18 (by decide)
    ·
      refine r_aload_n E (dat dkX10_outputByte 13 rfl) rfl rfl ?_
      refine q_geta E fl_X10_45 (dat dkX10_outputByte 14 rfl) rfl rfl rfl ?_
      refine r_iload_n E (dat dkX10_outputByte 15 rfl) rfl rfl ?_
      refine q_bald E (dat dkX10_outputByte 16 rfl) rfl rfl (by decide) (show _ = o from hO) rfl (by omega) ?_
      refine r_goto (tgt := 31) E (dat dkX10_outputByte 17 rfl) rfl ?_
      refine r_ireturn E (dat dkX10_outputByte 19 rfl) (by decide) (by decide) ?_
      refine ⟨?_, rfl⟩
      rw [if_neg (nI_pos (by omega)), if_neg (nI_ge hj (by omega)), nI_clamp (by omega)]
  ·
    refine r_aload_n E (dat dkX10_outputByte 0 rfl) rfl rfl ?_
    refine r_iconst (v := 0) E (dat dkX10_outputByte 1 rfl) rfl ?_
    refine q_putn E ft_X10_67 (dat dkX10_outputByte 2 rfl) rfl rfl rfl rfl ?_
    refine r_iload_n E (dat dkX10_outputByte 3 rfl) rfl rfl ?_
    refine r_i2l E (dat dkX10_outputByte 4 rfl) ?_
    refine r_lconst E (dat dkX10_outputByte 5 rfl) rfl ?_
    refine r_aload_n E (dat dkX10_outputByte 6 rfl) rfl rfl ?_
    refine q_getn E fl_X10_402 (dat dkX10_outputByte 7 rfl) rfl rfl rfl (show _ = nI k from hk) ?_
    refine r_iconst (v := 1) E (dat dkX10_outputByte 8 rfl) rfl ?_
    refine r_isub E (dat dkX10_outputByte 9 rfl) ?_
    refine r_i2l E (dat dkX10_outputByte 10 rfl) ?_
    refine r_callS (μ := []) E (sp_X10_isWithin l G a.toInt64 0 (nI k - 1).toInt64 _) my_X10_isWithin is_X10_isWithin ml_X10_80 cm_nil rfl rfl (by decide) (Nat.le_of_ble_eq_true rfl) (dat dkX10_outputByte 11 rfl) ?_
    rintro _ _ ⟨rfl, hM⟩
    refine ⟨_, Mrg_z hM, ?_⟩
    clear hM
    rw [hi0]
    refine r_if_eq (tgt := 30) E (dat dkX10_outputByte 12 rfl) rfl (fun h18 => ?_) (fun h18 => ?_)
    ·
      refine r_iconst (v := -1) E (dat dkX10_outputByte 18 rfl) rfl ?_
      refine r_ireturn E (dat dkX10_outputByte 19 rfl) (by decide) (by decide) ?_
      refine ⟨?_, rfl⟩
      by_cases h0 : a < 0
      · rw [if_pos h0]
      · obtain ⟨j, hj, rfl⟩ := nI_of h0
        rw [if_neg h0, if_pos ((nI_leI (by omega) hj).mpr (by
          rcases Nat.lt_or_ge j k with q | q
          · exact absurd ⟨j, q, rfl⟩ hr9
          · exact q))]
    ·
      exact absurd rfl h18

set_option maxRecDepth 100000 in
set_option maxHeartbeats 4000000 in
theorem sp_X10_truncateInput (l : Launch) (G : GT) (a : Int32) (n : Nat) (M : Mem) (hn : M 0 0 10 = nI n) (hn6 : n ≤ 600) : MC l G yX10_truncateInput cX10_truncateInput 2 (some .boolean) ({ frames := 1, cells := 0, slots := 0, locals := 25 } : Room) [9] lk0 [rv 0 0, iv a] (M) (fun r M2 => (∃ j, j ≤ n ∧ a = nI j ∧ r = some (iv 1) ∧ M2 = setm (mt M 0) 0 (sett (mt M 0 0) 0 (upd (mt M 0 0 0) 10 a))) ∨ ((¬ ∃ j, j ≤ n ∧ a = nI j) ∧ r = some (iv 0) ∧ M2 = mt M 0)) := by
  refine MC.of RX10 [some (rv 0 0), some (iv a)] 0 (by decide +kernel) rfl rfl rfl ?_
  intro pp ee ss mm aa bb me cd ad E
  by_cases hr : 0 ≤ a ∧ a ≤ nI n
  ·
    obtain ⟨j, hj, rfl⟩ := rg_ex (by omega) hr.1 hr.2
    refine r_aload_n E (dat dkX10_truncateInput 0 rfl) rfl rfl ?_
    refine r_iconst (v := 0) E (dat dkX10_truncateInput 1 rfl) rfl ?_
    refine q_putn E ft_X10_67 (dat dkX10_truncateInput 2 rfl) rfl rfl rfl rfl ?_
    refine r_iload_n E (dat dkX10_truncateInput 3 rfl) rfl rfl ?_
    refine r_i2l E (dat dkX10_truncateInput 4 rfl) ?_
    refine r_lconst E (dat dkX10_truncateInput 5 rfl) rfl ?_
    refine r_aload_n E (dat dkX10_truncateInput 6 rfl) rfl rfl ?_
    refine q_getn E fl_X10_148 (dat dkX10_truncateInput 7 rfl) rfl rfl rfl (show _ = nI n from hn) ?_
    refine r_i2l E (dat dkX10_truncateInput 8 rfl) ?_
    refine r_callS (μ := []) E (sp_X10_isWithin l G (nI j).toInt64 0 (nI n).toInt64 _) my_X10_isWithin is_X10_isWithin ml_X10_80 cm_nil rfl rfl (by decide) (Nat.le_of_ble_eq_true rfl) (dat dkX10_truncateInput 9 rfl) ?_
    rintro _ _ ⟨rfl, hM⟩
    refine ⟨_, Mrg_z hM, ?_⟩
    clear hM
    rw [show iwI (nI j).toInt64 0 (nI n).toInt64 = 1 from iw_1 (lo := 0) hr.1 hr.2]
    refine r_if_ne (tgt := 21) E (dat dkX10_truncateInput 10 rfl) rfl (fun h16 => ?_) (fun h16 => ?_)
    ·
      refine r_aload_n E (dat dkX10_truncateInput 13 rfl) rfl rfl ?_
      refine r_iload_n E (dat dkX10_truncateInput 14 rfl) rfl rfl ?_
      refine q_putn E ft_X10_148 (dat dkX10_truncateInput 15 rfl) rfl rfl rfl rfl ?_
      refine r_iconst (v := 1) E (dat dkX10_truncateInput 16 rfl) rfl ?_
      refine r_zreturn E (dat dkX10_truncateInput 17 rfl) rfl (by decide) (by decide) ?_
      exact Or.inl ⟨j, hj, rfl, rfl, rfl⟩
    ·
      exact absurd h16 (by decide)
  ·
    refine r_aload_n E (dat dkX10_truncateInput 0 rfl) rfl rfl ?_
    refine r_iconst (v := 0) E (dat dkX10_truncateInput 1 rfl) rfl ?_
    refine q_putn E ft_X10_67 (dat dkX10_truncateInput 2 rfl) rfl rfl rfl rfl ?_
    refine r_iload_n E (dat dkX10_truncateInput 3 rfl) rfl rfl ?_
    refine r_i2l E (dat dkX10_truncateInput 4 rfl) ?_
    refine r_lconst E (dat dkX10_truncateInput 5 rfl) rfl ?_
    refine r_aload_n E (dat dkX10_truncateInput 6 rfl) rfl rfl ?_
    refine q_getn E fl_X10_148 (dat dkX10_truncateInput 7 rfl) rfl rfl rfl (show _ = nI n from hn) ?_
    refine r_i2l E (dat dkX10_truncateInput 8 rfl) ?_
    refine r_callS (μ := []) E (sp_X10_isWithin l G a.toInt64 0 (nI n).toInt64 _) my_X10_isWithin is_X10_isWithin ml_X10_80 cm_nil rfl rfl (by decide) (Nat.le_of_ble_eq_true rfl) (dat dkX10_truncateInput 9 rfl) ?_
    rintro _ _ ⟨rfl, hM⟩
    refine ⟨_, Mrg_z hM, ?_⟩
    clear hM
    rw [show iwI a.toInt64 0 (nI n).toInt64 = 0 from iw_0 (lo := 0) hr]
    refine r_if_ne (tgt := 21) E (dat dkX10_truncateInput 10 rfl) rfl (fun h16 => ?_) (fun h16 => ?_)
    ·
      exact absurd rfl h16
    ·
      refine r_iconst (v := 0) E (dat dkX10_truncateInput 11 rfl) rfl ?_
      refine r_zreturn E (dat dkX10_truncateInput 12 rfl) rfl (by decide) (by decide) ?_
      refine Or.inr ⟨?_, rfl, rfl⟩
      rintro ⟨j, hj, rfl⟩
      exact hr ⟨Int32.not_lt.mp (nI_pos (by omega)), (nI_leI (by omega) (by omega)).mpr hj⟩

set_option maxRecDepth 100000 in
set_option maxHeartbeats 4000000 in
theorem sp_X10_isWaterKept (l : Launch) (G : GT) (A0 : Nat → Int32) (x : PP) (T : Nat → Nat → Int32)  (M : Mem) (hA : M 0 1 = enc A0 x T) (hx : PIv x)  : MC l G yX10_isWaterKept cX10_isWaterKept 2 (some .boolean) ({ frames := 3, cells := 0, slots := 0, locals := 64 } : Room) [9] lk0 [rv 0 0] (M) (fun r M2 => r = some (iv (if T 0 9 + T 0 10 = sm (T 1) x.1.2.2 + T 0 11 + T 0 12 then 1 else 0)) ∧ M2 = M) := by
  refine MC.of RX10 [some (rv 0 0), none] 1 (by decide +kernel) rfl rfl rfl ?_
  intro pp ee ss mm aa bb me cd ad E
  obtain ⟨M0, rfl⟩ : ∃ M0, M = md M0 (enc A0 x T) := ⟨M, (md_of hA).symm⟩
  clear hA
  have hn64 := (PIv_z hx).1
  
  refine r_aload_n E (dat dkX10_isWaterKept 0 rfl) rfl rfl ?_
  refine q_geta E fl_X10_9 (dat dkX10_isWaterKept 1 rfl) rfl rfl rfl ?_
  refine r_iconst (v := 5) E (dat dkX10_isWaterKept 2 rfl) rfl ?_
  refine q_iald E (dat dkX10_isWaterKept 3 rfl) rfl rfl (by decide) md_a (show _ = nI 5 from rfl) (by omega) ?_
  refine r_aload_n E (dat dkX10_isWaterKept 4 rfl) rfl rfl ?_
  refine q_geta E fl_X10_9 (dat dkX10_isWaterKept 5 rfl) rfl rfl rfl ?_
  refine r_bipush (v := 6) E (dat dkX10_isWaterKept 6 rfl) rfl ?_
  refine q_iald E (dat dkX10_isWaterKept 7 rfl) rfl rfl (by decide) md_a (show _ = nI 6 from rfl) (by omega) ?_
  refine r_iadd E (dat dkX10_isWaterKept 8 rfl) ?_
  refine r_istore_1 E (dat dkX10_isWaterKept 9 rfl) rfl rfl ?_
  refine r_iload_n E (dat dkX10_isWaterKept 10 rfl) rfl rfl ?_
  refine r_aload_n E (dat dkX10_isWaterKept 11 rfl) rfl rfl ?_
  refine r_callV (κ := 9) (μ := []) E (sp_X10_allWater l G A0 x T _ md_a hx) my_X10_allWater iv_X10_allWater ml_X10_366 cm_id ⟨by decide, rfl, rfl⟩ rfl rfl rfl rfl (by decide) (Nat.le_of_ble_eq_true rfl) (dat dkX10_isWaterKept 12 rfl) ?_
  rintro _ _ ⟨rfl, rfl⟩
  refine ⟨_, Mrg_z rfl, ?_⟩
  refine r_aload_n E (dat dkX10_isWaterKept 13 rfl) rfl rfl ?_
  refine q_geta E fl_X10_9 (dat dkX10_isWaterKept 14 rfl) rfl rfl rfl ?_
  refine r_bipush (v := 7) E (dat dkX10_isWaterKept 15 rfl) rfl ?_
  refine q_iald E (dat dkX10_isWaterKept 16 rfl) rfl rfl (by decide) md_a (show _ = nI 7 from rfl) (by omega) ?_
  refine r_iadd E (dat dkX10_isWaterKept 17 rfl) ?_
  refine r_aload_n E (dat dkX10_isWaterKept 18 rfl) rfl rfl ?_
  refine q_geta E fl_X10_9 (dat dkX10_isWaterKept 19 rfl) rfl rfl rfl ?_
  refine r_bipush (v := 8) E (dat dkX10_isWaterKept 20 rfl) rfl ?_
  refine q_iald E (dat dkX10_isWaterKept 21 rfl) rfl rfl (by decide) md_a (show _ = nI 8 from rfl) (by omega) ?_
  refine r_iadd E (dat dkX10_isWaterKept 22 rfl) ?_
  refine r_icmp_ne (tgt := 43) E (dat dkX10_isWaterKept 23 rfl) rfl (fun h36 => ?_) (fun h36 => ?_)
  ·
    refine r_iconst (v := 0) E (dat dkX10_isWaterKept 26 rfl) rfl ?_
    refine r_zreturn E (dat dkX10_isWaterKept 27 rfl) rfl (by decide) (by decide) ?_
    refine ⟨?_, rfl⟩
    first
      | (rw [if_neg (show ¬ T 0 9 + T 0 10 = sm (T 1) x.1.2.2 + T 0 11 + T 0 12 from h36)]; done)
      | (rw [if_pos (show T 0 9 + T 0 10 = sm (T 1) x.1.2.2 + T 0 11 + T 0 12 from by first | exact h36 | exact Decidable.not_not.mp h36)]; done)
  ·
    refine r_iconst (v := 1) E (dat dkX10_isWaterKept 24 rfl) rfl ?_
    refine r_goto (tgt := 44) E (dat dkX10_isWaterKept 25 rfl) rfl ?_
    refine r_zreturn E (dat dkX10_isWaterKept 27 rfl) rfl (by decide) (by decide) ?_
    refine ⟨?_, rfl⟩
    first
      | (rw [if_neg (show ¬ T 0 9 + T 0 10 = sm (T 1) x.1.2.2 + T 0 11 + T 0 12 from h36)]; done)
      | (rw [if_pos (show T 0 9 + T 0 10 = sm (T 1) x.1.2.2 + T 0 11 + T 0 12 from by first | exact h36 | exact Decidable.not_not.mp h36)]; done)

set_option maxRecDepth 100000 in
set_option maxHeartbeats 4000000 in
theorem sp_X10_isPlugged (l : Launch) (G : GT) (A0 : Nat → Int32) (x : PP) (T : Nat → Nat → Int32) (a : Int32) (M : Mem) (hA : M 0 1 = enc A0 x T) (hx : PIv x)  : MC l G yX10_isPlugged cX10_isPlugged 2 (some .boolean) ({ frames := 3, cells := 0, slots := 0, locals := 67 } : Room) [9] lk0 [rv 0 0, iv a] (M) (fun r M2 => (∃ c, c < x.1.2.2 ∧ a = nI c ∧ M2 = mt M 0 ∧ r = some (iv (if x.2.2.1 c ≤ 0 then 0 else if imax (x.2.2.1 c - T 2 c) 0 = 0 then 1 else 0))) ∨ (¬ okc x a ∧ M2 = mt M 1 ∧ r = some (iv (0)))) := by
  refine MC.of RX10 [some (rv 0 0), some (iv a)] 0 (by decide +kernel) rfl rfl rfl ?_
  intro pp ee ss mm aa bb me cd ad E
  obtain ⟨M0, rfl⟩ : ∃ M0, M = md M0 (enc A0 x T) := ⟨M, (md_of hA).symm⟩
  clear hA
  have hn64 := (PIv_z hx).1
  
  by_cases hk : okc x a
  ·
    obtain ⟨c, hc, rfl⟩ := hk
    refine r_aload_n E (dat dkX10_isPlugged 0 rfl) rfl rfl ?_
    refine r_iload_n E (dat dkX10_isPlugged 1 rfl) rfl rfl ?_
    refine r_callV (κ := 9) (μ := []) E (sp_X10_checkCell l G A0 x T (nI c) _ md_a hx) my_X10_checkCell iv_X10_checkCell ml_X10_333 cm_id ⟨by decide, rfl, rfl⟩ rfl rfl rfl rfl (by decide) (Nat.le_of_ble_eq_true rfl) (dat dkX10_isPlugged 2 rfl) ?_
    rintro _ _ ⟨rfl, rfl⟩
    refine ⟨_, Mrg_mt (by decide) rfl, ?_⟩
    rw [ic_1 hx ⟨c, hc, rfl⟩, show ckI 1 1 1 = 0 from rfl, if_pos rfl]
    refine r_if_eq (tgt := 29) E (dat dkX10_isPlugged 3 rfl) rfl (fun h5 => ?_) (fun h5 => ?_)
    ·
      exact absurd h5 (by decide)
    ·
      refine r_aload_n E (dat dkX10_isPlugged 4 rfl) rfl rfl ?_
      refine r_iload_n E (dat dkX10_isPlugged 5 rfl) rfl rfl ?_
      refine r_iconst (v := 3) E (dat dkX10_isPlugged 6 rfl) rfl ?_
      refine r_callV (κ := 9) (μ := []) E (sp_X10_get l G c 3 _ (enc A0 x T) rfl (by omega) (by decide)) my_X10_get iv_X10_get ml_X10_76 cm_id ⟨by decide, rfl, rfl⟩ rfl rfl rfl rfl (by decide) (Nat.le_of_ble_eq_true rfl) (dat dkX10_isPlugged 7 rfl) ?_
      rintro _ _ ⟨rfl, rfl⟩
      refine ⟨_, Mrg_z rfl, ?_⟩
      rw [e_k hc hn64]
      refine r_if_le (tgt := 29) E (dat dkX10_isPlugged 8 rfl) rfl (fun h14 => ?_) (fun h14 => ?_)
      ·
        refine r_iconst (v := 0) E (dat dkX10_isPlugged 15 rfl) rfl ?_
        refine r_zreturn E (dat dkX10_isPlugged 16 rfl) rfl (by decide) (by decide) ?_
        refine Or.inl ⟨c, hc, rfl, rfl, ?_⟩
        first
          | (rw [if_pos h14]; done)
          | (rw [if_neg h14, if_pos h22]; done)
          | (rw [if_neg h14, if_neg h22]; done)
      ·
        refine r_aload_n E (dat dkX10_isPlugged 9 rfl) rfl rfl ?_
        refine r_iload_n E (dat dkX10_isPlugged 10 rfl) rfl rfl ?_
        refine r_callV (κ := 9) (μ := []) E (sp_X10_gutter l G A0 x T c _ rfl hx hc) my_X10_gutter iv_X10_gutter ml_X10_108 cm_id ⟨by decide, rfl, rfl⟩ rfl rfl rfl rfl (by decide) (Nat.le_of_ble_eq_true rfl) (dat dkX10_isPlugged 11 rfl) ?_
        rintro _ _ ⟨rfl, rfl⟩
        refine ⟨_, Mrg_z rfl, ?_⟩
        refine r_if_ne (tgt := 29) E (dat dkX10_isPlugged 12 rfl) rfl (fun h22 => ?_) (fun h22 => ?_)
        ·
          refine r_iconst (v := 0) E (dat dkX10_isPlugged 15 rfl) rfl ?_
          refine r_zreturn E (dat dkX10_isPlugged 16 rfl) rfl (by decide) (by decide) ?_
          refine Or.inl ⟨c, hc, rfl, rfl, ?_⟩
          first
            | (rw [if_pos h14]; done)
            | (rw [if_neg h14, if_pos h22]; done)
            | (rw [if_neg h14, if_neg h22]; done)
        ·
          refine r_iconst (v := 1) E (dat dkX10_isPlugged 13 rfl) rfl ?_
          refine r_goto (tgt := 30) E (dat dkX10_isPlugged 14 rfl) rfl ?_
          refine r_zreturn E (dat dkX10_isPlugged 16 rfl) rfl (by decide) (by decide) ?_
          refine Or.inl ⟨c, hc, rfl, rfl, ?_⟩
          first
            | (rw [if_pos h14]; done)
            | (rw [if_neg h14, if_pos h22]; done)
            | (rw [if_neg h14, if_neg h22]; done)
  ·
    refine r_aload_n E (dat dkX10_isPlugged 0 rfl) rfl rfl ?_
    refine r_iload_n E (dat dkX10_isPlugged 1 rfl) rfl rfl ?_
    refine r_callV (κ := 9) (μ := []) E (sp_X10_checkCell l G A0 x T a _ md_a hx) my_X10_checkCell iv_X10_checkCell ml_X10_333 cm_id ⟨by decide, rfl, rfl⟩ rfl rfl rfl rfl (by decide) (Nat.le_of_ble_eq_true rfl) (dat dkX10_isPlugged 2 rfl) ?_
    rintro _ _ ⟨rfl, rfl⟩
    refine ⟨_, Mrg_mt (by decide) rfl, ?_⟩
    rw [ic_0 hx hk, show ckI 0 1 1 = 1 from rfl, if_neg (by decide)]
    refine r_if_eq (tgt := 29) E (dat dkX10_isPlugged 3 rfl) rfl (fun h5 => ?_) (fun h5 => ?_)
    ·
      refine r_iconst (v := 0) E (dat dkX10_isPlugged 15 rfl) rfl ?_
      refine r_zreturn E (dat dkX10_isPlugged 16 rfl) rfl (by decide) (by decide) ?_
      exact Or.inr ⟨hk, rfl, rfl⟩
    ·
      exact absurd rfl h5

set_option maxRecDepth 100000 in
set_option maxHeartbeats 4000000 in
theorem sp_X10_isWet (l : Launch) (G : GT) (A0 : Nat → Int32) (x : PP) (T : Nat → Nat → Int32) (a : Int32) (M : Mem) (hA : M 0 1 = enc A0 x T) (hx : PIv x)  : MC l G yX10_isWet cX10_isWet 2 (some .boolean) ({ frames := 4, cells := 0, slots := 0, locals := 89 } : Room) [9] lk0 [rv 0 0, iv a] (M) (fun r M2 => (∃ b, b < x.2.2.2.2.1 ∧ a = nI b ∧ M2 = mt M 0 ∧ r = some (iv (if T 7 b = 1 then 1 else 0))) ∨ (¬ okb4 x a ∧ M2 = mt M 1 ∧ r = some (iv (0)))) := by
  refine MC.of RX10 [some (rv 0 0), some (iv a)] 0 (by decide +kernel) rfl rfl rfl ?_
  intro pp ee ss mm aa bb me cd ad E
  obtain ⟨M0, rfl⟩ : ∃ M0, M = md M0 (enc A0 x T) := ⟨M, (md_of hA).symm⟩
  clear hA
  have hn64 := (PIv_z hx).1
  
  refine r_aload_n E (dat dkX10_isWet 0 rfl) rfl rfl ?_
  refine r_iload_n E (dat dkX10_isWet 1 rfl) rfl rfl ?_
  refine r_bipush (v := 9) E (dat dkX10_isWet 2 rfl) rfl ?_
  refine r_callV (κ := 9) (μ := []) E (sp_X10_ofBoots l G A0 x T a 9 _ md_a hx (by decide)) my_X10_ofBoots iv_X10_ofBoots ml_X10_375 cm_id ⟨by decide, rfl, rfl⟩ rfl rfl rfl rfl (by decide) (Nat.le_of_ble_eq_true rfl) (dat dkX10_isWet 3 rfl) ?_
  intro r9 M9 hM
  obtain ⟨k9, hM9, v9, rfl, hfin⟩ : ∃ k9, M9 = mt (vw [] (md M0 (enc A0 x T))) k9 ∧ ∃ v9, r9 = some (iv v9) ∧ ((∃ b, b < x.2.2.2.2.1 ∧ a = nI b ∧ k9 = 0 ∧ v9 = T 7 b) ∨ (¬ okb4 x a ∧ k9 = 1 ∧ v9 = 0)) := by
    rcases hM with ⟨c, h1, h2, h3, h4⟩ | ⟨h1, h2, h3⟩
    · exact ⟨0, h3, _, h4, Or.inl ⟨c, h1, h2, rfl, rfl⟩⟩
    · exact ⟨1, h2, _, h3, Or.inr ⟨h1, rfl, rfl⟩⟩
  clear hM
  refine ⟨_, Mrg_mt (k := k9) (by decide) hM9, ?_⟩
  refine r_iconst (v := 1) E (dat dkX10_isWet 4 rfl) rfl ?_
  refine r_icmp_ne (tgt := 15) E (dat dkX10_isWet 5 rfl) rfl (fun h8 => ?_) (fun h8 => ?_)
  ·
    refine r_iconst (v := 0) E (dat dkX10_isWet 8 rfl) rfl ?_
    refine r_zreturn E (dat dkX10_isWet 9 rfl) rfl (by decide) (by decide) ?_
    rcases hfin with ⟨c, h1, h2, rfl, rfl⟩ | ⟨h1, rfl, rfl⟩
    · first
        | exact Or.inl ⟨c, h1, h2, rfl, by rw [if_neg h8]⟩
        | exact Or.inl ⟨c, h1, h2, rfl, by rw [if_pos (by first | exact h8 | exact Decidable.not_not.mp h8)]⟩
    · first
        | exact Or.inr ⟨h1, rfl, rfl⟩
        | exact absurd h8 (by decide)
        | exact absurd (show ¬ (0 : Int32) = 1 by decide) h8
  ·
    refine r_iconst (v := 1) E (dat dkX10_isWet 6 rfl) rfl ?_
    refine r_goto (tgt := 16) E (dat dkX10_isWet 7 rfl) rfl ?_
    refine r_zreturn E (dat dkX10_isWet 9 rfl) rfl (by decide) (by decide) ?_
    rcases hfin with ⟨c, h1, h2, rfl, rfl⟩ | ⟨h1, rfl, rfl⟩
    · first
        | exact Or.inl ⟨c, h1, h2, rfl, by rw [if_neg h8]⟩
        | exact Or.inl ⟨c, h1, h2, rfl, by rw [if_pos (by first | exact h8 | exact Decidable.not_not.mp h8)]⟩
    · first
        | exact Or.inr ⟨h1, rfl, rfl⟩
        | exact absurd h8 (by decide)
        | exact absurd (show ¬ (0 : Int32) = 1 by decide) h8

set_option maxRecDepth 100000 in
set_option maxHeartbeats 4000000 in
theorem sp_X10_deepestCell (l : Launch) (G : GT) (A0 : Nat → Int32) (x : PP) (T : Nat → Nat → Int32)  (M : Mem) (hA : M 0 1 = enc A0 x T) (hx : PIv x)  : MC l G yX10_deepestCell cX10_deepestCell 3 (some .int) ({ frames := 2, cells := 0, slots := 0, locals := 42 } : Room) [9] lk0 [rv 0 0] (M) (fun r M2 => r = some (iv (nI (dpN (T 1) (x.1.2.2 - 1)))) ∧ M2 = mt M 0) := by
  refine MC.of RX10 [some (rv 0 0), none, none] 2 (by decide +kernel) rfl rfl rfl ?_
  intro pp ee ss mm aa bb me cd ad E
  obtain ⟨M0, rfl⟩ : ∃ M0, M = md M0 (enc A0 x T) := ⟨M, (md_of hA).symm⟩
  clear hA
  have hn64 := (PIv_z hx).1
  
  refine r_aload_n E (dat dkX10_deepestCell 0 rfl) rfl rfl ?_
  refine r_iconst (v := 0) E (dat dkX10_deepestCell 1 rfl) rfl ?_
  refine q_putn E ft_X10_67 (dat dkX10_deepestCell 2 rfl) rfl rfl rfl rfl ?_
  refine r_iconst (v := 0) E (dat dkX10_deepestCell 3 rfl) rfl ?_
  refine r_istore_1 E (dat dkX10_deepestCell 4 rfl) rfl rfl ?_
  refine r_iconst (v := 1) E (dat dkX10_deepestCell 5 rfl) rfl ?_
  refine r_istore_2 E (dat dkX10_deepestCell 6 rfl) rfl rfl ?_
  refine r_for ((x.1.2.2 - 1)) (fun _ => True) (fun i => mt (md M0 (enc A0 x T)) 0) (fun i => [some (rv 0 0), some (iv (nI (dpN (T 1) i))), some (iv (nI (i + 1)))]) trivial rfl rfl ?_ ?_
  · intro i hi hI kk
    have hdl := dpN_le (w := T 1) i
    refine r_iload_n E (dat dkX10_deepestCell 7 rfl) rfl rfl ?_
    refine r_aload_n E (dat dkX10_deepestCell 8 rfl) rfl rfl ?_
    refine r_callV (κ := 9) (μ := []) E (sp_X10_cells l G _ (enc A0 x T) rfl) my_X10_cells iv_X10_cells ml_X10_115 cm_id ⟨by decide, rfl, rfl⟩ rfl rfl rfl rfl (by decide) (Nat.le_of_ble_eq_true rfl) (dat dkX10_deepestCell 9 rfl) ?_
    rintro _ _ ⟨rfl, rfl⟩
    refine ⟨_, Mrg_z rfl, ?_⟩
    rw [ce_x hx]
    refine q_icmp_ge (tgt := 40) E (dat dkX10_deepestCell 10 rfl) rfl rfl rfl (by omega) (by omega) (fun h14 => ?_) (fun h14 => ?_)
    ·
      omega
    ·
      refine r_aload_n E (dat dkX10_deepestCell 11 rfl) rfl rfl ?_
      refine r_iload_n E (dat dkX10_deepestCell 12 rfl) rfl rfl ?_
      refine r_iconst (v := 1) E (dat dkX10_deepestCell 13 rfl) rfl ?_
      refine r_callV (κ := 9) (μ := []) E (sp_X10_get l G (i + 1) 1 _ (enc A0 x T) rfl (by omega) (by decide)) my_X10_get iv_X10_get ml_X10_76 cm_id ⟨by decide, rfl, rfl⟩ rfl rfl rfl rfl (by decide) (Nat.le_of_ble_eq_true rfl) (dat dkX10_deepestCell 14 rfl) ?_
      rintro _ _ ⟨rfl, rfl⟩
      refine ⟨_, Mrg_z rfl, ?_⟩
      rw [e_w (by omega) hn64]
      refine r_aload_n E (dat dkX10_deepestCell 15 rfl) rfl rfl ?_
      refine r_iload_n E (dat dkX10_deepestCell 16 rfl) rfl rfl ?_
      refine r_iconst (v := 1) E (dat dkX10_deepestCell 17 rfl) rfl ?_
      refine r_callV (κ := 9) (μ := []) E (sp_X10_get l G (dpN (T 1) i) 1 _ (enc A0 x T) rfl (by omega) (by decide)) my_X10_get iv_X10_get ml_X10_76 cm_id ⟨by decide, rfl, rfl⟩ rfl rfl rfl rfl (by decide) (Nat.le_of_ble_eq_true rfl) (dat dkX10_deepestCell 18 rfl) ?_
      rintro _ _ ⟨rfl, rfl⟩
      refine ⟨_, Mrg_z rfl, ?_⟩
      rw [e_w (by omega) hn64]
      refine r_icmp_le (tgt := 34) E (dat dkX10_deepestCell 19 rfl) rfl (fun h29 => ?_) (fun h29 => ?_)
      ·
        refine q_iinc_2 E (dat dkX10_deepestCell 22 rfl) rfl rfl ?_
        refine r_goto (tgt := 9) E (dat dkX10_deepestCell 23 rfl) rfl ?_
        first
          | (rw [show dpN (T 1) (i + 1) = i + 1 from if_pos (nle_lt h29)] at kk; exact kk trivial)
          | (rw [show dpN (T 1) (i + 1) = dpN (T 1) i from if_neg (Int32.not_lt.mpr h29)] at kk; exact kk trivial)
      ·
        refine r_iload_n E (dat dkX10_deepestCell 20 rfl) rfl rfl ?_
        refine r_istore_1 E (dat dkX10_deepestCell 21 rfl) rfl rfl ?_
        refine q_iinc_2 E (dat dkX10_deepestCell 22 rfl) rfl rfl ?_
        refine r_goto (tgt := 9) E (dat dkX10_deepestCell 23 rfl) rfl ?_
        first
          | (rw [show dpN (T 1) (i + 1) = i + 1 from if_pos (nle_lt h29)] at kk; exact kk trivial)
          | (rw [show dpN (T 1) (i + 1) = dpN (T 1) i from if_neg (Int32.not_lt.mpr h29)] at kk; exact kk trivial)
  · intro hI
    refine r_iload_n E (dat dkX10_deepestCell 7 rfl) rfl rfl ?_
    refine r_aload_n E (dat dkX10_deepestCell 8 rfl) rfl rfl ?_
    refine r_callV (κ := 9) (μ := []) E (sp_X10_cells l G _ (enc A0 x T) rfl) my_X10_cells iv_X10_cells ml_X10_115 cm_id ⟨by decide, rfl, rfl⟩ rfl rfl rfl rfl (by decide) (Nat.le_of_ble_eq_true rfl) (dat dkX10_deepestCell 9 rfl) ?_
    rintro _ _ ⟨rfl, rfl⟩
    refine ⟨_, Mrg_z rfl, ?_⟩
    rw [ce_x hx]
    refine q_icmp_ge (tgt := 40) E (dat dkX10_deepestCell 10 rfl) rfl rfl rfl (by omega) (by omega) (fun h14 => ?_) (fun h14 => ?_)
    ·
      refine r_iload_n E (dat dkX10_deepestCell 24 rfl) rfl rfl ?_
      refine r_ireturn E (dat dkX10_deepestCell 25 rfl) (by decide) (by decide) ?_
      exact ⟨rfl, rfl⟩
    ·
      omega
