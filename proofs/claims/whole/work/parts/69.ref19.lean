/-! the reference's parser: signs, faults -/
def fM (M : Mem) (f : Nat) (v : Int32) : Mem := setm M 0 (sett (M 0) 0 (upd (M 0 0) f v))
theorem Mrg_fM {N f : Nat} {M M1 : Mem} {v : Int32} (hN : 0 < N) (h1 : M1 = fM (vw [] M) f v) : Mrg N [] M M1 (fM M f v) := Mrg_e (i := 0) (fun j _ h => h) hN rfl h1
def exM (M : Mem) (a k : Int32) : Mem := if M 0 0 17 = 0 then (if a = 0 then fM (fM M 17 k) 18 (M 0 0 13) else M) else M
def enM (M : Mem) : Mem := fM (fM (fM M 11 (M 0 0 17)) 12 (if M 0 0 17 = 0 then -1 else M 0 0 18)) 10 0
theorem cL_1 {x : Int32} (h1 : 97 ≤ x) (h2 : x ≤ 122) : cL x = true := by
  unfold cL
  rw [decide_eq_false (Int32.not_lt.mpr h1), decide_eq_false (Int32.not_lt.mpr h2)]; rfl
theorem cL_0 {x : Int32} (h : ¬ (97 ≤ x ∧ x ≤ 122)) : cL x = false := by
  unfold cL
  by_cases h1 : x < 97
  · rw [decide_eq_true h1]; rfl
  · rw [decide_eq_false h1, decide_eq_true (Int32.not_le.mp fun q => h ⟨Int32.not_lt.mp h1, q⟩)]; rfl
theorem cD_1 {x : Int32} (h1 : 48 ≤ x) (h2 : x ≤ 57) : cD x = true := by
  unfold cD
  rw [decide_eq_false (Int32.not_lt.mpr h1), decide_eq_false (Int32.not_lt.mpr h2)]; rfl
theorem cD_0 {x : Int32} (h : ¬ (48 ≤ x ∧ x ≤ 57)) : cD x = false := by
  unfold cD
  by_cases h1 : x < 48
  · rw [decide_eq_true h1]; rfl
  · rw [decide_eq_false h1, decide_eq_true (Int32.not_le.mp fun q => h ⟨Int32.not_lt.mp h1, q⟩)]; rfl
set_option maxRecDepth 100000 in
set_option maxHeartbeats 4000000 in
theorem sp_X10_isLetter (l : Launch) (G : GT) (bs : Nat → Int32) (n i : Nat) (M : Mem) (hB : M 0 10 = bs) (hn : M 0 0 10 = nI n) (hn6 : n ≤ 600) (hi : i < 2 ^ 20) : MC l G yX10_isLetter cX10_isLetter 2 (some .boolean) ({ frames := 1, cells := 0, slots := 0, locals := 25 } : Room) [9] lk0 [rv 0 0, iv (nI i)] (M) (fun r M2 => r = some (iv (bi (decide (i < n) && cL (bs i)))) ∧ M2 = M) := by
  refine MC.of RX10 [some (rv 0 0), some (iv (nI i))] 0 (by decide +kernel) rfl rfl rfl ?_
  intro pp ee ss mm aa bb me cd ad E
  by_cases hr : 97 ≤ bs i ∧ bs i ≤ 122
  ·
    refine r_iload_n E (dat dkX10_isLetter 0 rfl) rfl rfl ?_
    refine r_aload_n E (dat dkX10_isLetter 1 rfl) rfl rfl ?_
    refine q_getn E fl_X10_148 (dat dkX10_isLetter 2 rfl) rfl rfl rfl (show _ = nI n from hn) ?_
    refine q_icmp_ge (tgt := 31) E (dat dkX10_isLetter 3 rfl) rfl rfl rfl (by omega) (by omega) (fun h5 => ?_) (fun h5 => ?_)
    ·
      refine r_iconst (v := 0) E (dat dkX10_isLetter 15 rfl) rfl ?_
      refine r_zreturn E (dat dkX10_isLetter 16 rfl) rfl (by decide) (by decide) ?_
      refine ⟨?_, rfl⟩
      rw [cL_1 hr.1 hr.2]
      first
        | (rw [decide_eq_false (show ¬ i < n by omega)]; rfl)
        | (rw [decide_eq_true (show i < n by omega)]; rfl)
    ·
      refine r_aload_n E (dat dkX10_isLetter 4 rfl) rfl rfl ?_
      refine q_geta E fl_X10_25 (dat dkX10_isLetter 5 rfl) rfl rfl rfl ?_
      refine r_iload_n E (dat dkX10_isLetter 6 rfl) rfl rfl ?_
      refine q_bald E (dat dkX10_isLetter 7 rfl) rfl rfl (by decide) (show _ = bs from hB) rfl (by omega) ?_
      refine r_i2l E (dat dkX10_isLetter 8 rfl) ?_
      refine r_ldc2 E cl_157 (dat dkX10_isLetter 9 rfl) ?_
      refine r_ldc2 E cl_159 (dat dkX10_isLetter 10 rfl) ?_
      refine r_callS (μ := []) E (sp_X10_isWithin l G (bs i).toInt64 97 (122 : Int32).toInt64 _) my_X10_isWithin is_X10_isWithin ml_X10_80 cm_nil rfl rfl (by decide) (Nat.le_of_ble_eq_true rfl) (dat dkX10_isLetter 11 rfl) ?_
      rintro _ _ ⟨rfl, hM⟩
      refine ⟨_, Mrg_z hM, ?_⟩
      clear hM
      rw [show iwI (bs i).toInt64 97 (122 : Int32).toInt64 = 1 from iw_1 (lo := 97) hr.1 hr.2]
      refine r_if_eq (tgt := 31) E (dat dkX10_isLetter 12 rfl) rfl (fun h24 => ?_) (fun h24 => ?_)
      ·
        exact absurd h24 (by decide)
      ·
        refine r_iconst (v := 1) E (dat dkX10_isLetter 13 rfl) rfl ?_
        refine r_goto (tgt := 32) E (dat dkX10_isLetter 14 rfl) rfl ?_
        refine r_zreturn E (dat dkX10_isLetter 16 rfl) rfl (by decide) (by decide) ?_
        refine ⟨?_, rfl⟩
        rw [cL_1 hr.1 hr.2]
        first
          | (rw [decide_eq_false (show ¬ i < n by omega)]; rfl)
          | (rw [decide_eq_true (show i < n by omega)]; rfl)
  ·
    refine r_iload_n E (dat dkX10_isLetter 0 rfl) rfl rfl ?_
    refine r_aload_n E (dat dkX10_isLetter 1 rfl) rfl rfl ?_
    refine q_getn E fl_X10_148 (dat dkX10_isLetter 2 rfl) rfl rfl rfl (show _ = nI n from hn) ?_
    refine q_icmp_ge (tgt := 31) E (dat dkX10_isLetter 3 rfl) rfl rfl rfl (by omega) (by omega) (fun h5 => ?_) (fun h5 => ?_)
    ·
      refine r_iconst (v := 0) E (dat dkX10_isLetter 15 rfl) rfl ?_
      refine r_zreturn E (dat dkX10_isLetter 16 rfl) rfl (by decide) (by decide) ?_
      refine ⟨?_, rfl⟩
      rw [cL_0 hr, Bool.and_false]
      rfl
    ·
      refine r_aload_n E (dat dkX10_isLetter 4 rfl) rfl rfl ?_
      refine q_geta E fl_X10_25 (dat dkX10_isLetter 5 rfl) rfl rfl rfl ?_
      refine r_iload_n E (dat dkX10_isLetter 6 rfl) rfl rfl ?_
      refine q_bald E (dat dkX10_isLetter 7 rfl) rfl rfl (by decide) (show _ = bs from hB) rfl (by omega) ?_
      refine r_i2l E (dat dkX10_isLetter 8 rfl) ?_
      refine r_ldc2 E cl_157 (dat dkX10_isLetter 9 rfl) ?_
      refine r_ldc2 E cl_159 (dat dkX10_isLetter 10 rfl) ?_
      refine r_callS (μ := []) E (sp_X10_isWithin l G (bs i).toInt64 97 (122 : Int32).toInt64 _) my_X10_isWithin is_X10_isWithin ml_X10_80 cm_nil rfl rfl (by decide) (Nat.le_of_ble_eq_true rfl) (dat dkX10_isLetter 11 rfl) ?_
      rintro _ _ ⟨rfl, hM⟩
      refine ⟨_, Mrg_z hM, ?_⟩
      clear hM
      rw [show iwI (bs i).toInt64 97 (122 : Int32).toInt64 = 0 from iw_0 (lo := 97) hr]
      refine r_if_eq (tgt := 31) E (dat dkX10_isLetter 12 rfl) rfl (fun h24 => ?_) (fun h24 => ?_)
      ·
        refine r_iconst (v := 0) E (dat dkX10_isLetter 15 rfl) rfl ?_
        refine r_zreturn E (dat dkX10_isLetter 16 rfl) rfl (by decide) (by decide) ?_
        refine ⟨?_, rfl⟩
        rw [cL_0 hr, Bool.and_false]
        rfl
      ·
        exact absurd rfl h24

set_option maxRecDepth 100000 in
set_option maxHeartbeats 4000000 in
theorem sp_X10_isDigit (l : Launch) (G : GT) (bs : Nat → Int32) (n i : Nat) (M : Mem) (hB : M 0 10 = bs) (hn : M 0 0 10 = nI n) (hn6 : n ≤ 600) (hi : i < 2 ^ 20) : MC l G yX10_isDigit cX10_isDigit 2 (some .boolean) ({ frames := 1, cells := 0, slots := 0, locals := 25 } : Room) [9] lk0 [rv 0 0, iv (nI i)] (M) (fun r M2 => r = some (iv (bi (decide (i < n) && cD (bs i)))) ∧ M2 = M) := by
  refine MC.of RX10 [some (rv 0 0), some (iv (nI i))] 0 (by decide +kernel) rfl rfl rfl ?_
  intro pp ee ss mm aa bb me cd ad E
  by_cases hr : 48 ≤ bs i ∧ bs i ≤ 57
  ·
    refine r_iload_n E (dat dkX10_isDigit 0 rfl) rfl rfl ?_
    refine r_aload_n E (dat dkX10_isDigit 1 rfl) rfl rfl ?_
    refine q_getn E fl_X10_148 (dat dkX10_isDigit 2 rfl) rfl rfl rfl (show _ = nI n from hn) ?_
    refine q_icmp_ge (tgt := 31) E (dat dkX10_isDigit 3 rfl) rfl rfl rfl (by omega) (by omega) (fun h5 => ?_) (fun h5 => ?_)
    ·
      refine r_iconst (v := 0) E (dat dkX10_isDigit 15 rfl) rfl ?_
      refine r_zreturn E (dat dkX10_isDigit 16 rfl) rfl (by decide) (by decide) ?_
      refine ⟨?_, rfl⟩
      rw [cD_1 hr.1 hr.2]
      first
        | (rw [decide_eq_false (show ¬ i < n by omega)]; rfl)
        | (rw [decide_eq_true (show i < n by omega)]; rfl)
    ·
      refine r_aload_n E (dat dkX10_isDigit 4 rfl) rfl rfl ?_
      refine q_geta E fl_X10_25 (dat dkX10_isDigit 5 rfl) rfl rfl rfl ?_
      refine r_iload_n E (dat dkX10_isDigit 6 rfl) rfl rfl ?_
      refine q_bald E (dat dkX10_isDigit 7 rfl) rfl rfl (by decide) (show _ = bs from hB) rfl (by omega) ?_
      refine r_i2l E (dat dkX10_isDigit 8 rfl) ?_
      refine r_ldc2 E cl_161 (dat dkX10_isDigit 9 rfl) ?_
      refine r_ldc2 E cl_163 (dat dkX10_isDigit 10 rfl) ?_
      refine r_callS (μ := []) E (sp_X10_isWithin l G (bs i).toInt64 48 (57 : Int32).toInt64 _) my_X10_isWithin is_X10_isWithin ml_X10_80 cm_nil rfl rfl (by decide) (Nat.le_of_ble_eq_true rfl) (dat dkX10_isDigit 11 rfl) ?_
      rintro _ _ ⟨rfl, hM⟩
      refine ⟨_, Mrg_z hM, ?_⟩
      clear hM
      rw [show iwI (bs i).toInt64 48 (57 : Int32).toInt64 = 1 from iw_1 (lo := 48) hr.1 hr.2]
      refine r_if_eq (tgt := 31) E (dat dkX10_isDigit 12 rfl) rfl (fun h24 => ?_) (fun h24 => ?_)
      ·
        exact absurd h24 (by decide)
      ·
        refine r_iconst (v := 1) E (dat dkX10_isDigit 13 rfl) rfl ?_
        refine r_goto (tgt := 32) E (dat dkX10_isDigit 14 rfl) rfl ?_
        refine r_zreturn E (dat dkX10_isDigit 16 rfl) rfl (by decide) (by decide) ?_
        refine ⟨?_, rfl⟩
        rw [cD_1 hr.1 hr.2]
        first
          | (rw [decide_eq_false (show ¬ i < n by omega)]; rfl)
          | (rw [decide_eq_true (show i < n by omega)]; rfl)
  ·
    refine r_iload_n E (dat dkX10_isDigit 0 rfl) rfl rfl ?_
    refine r_aload_n E (dat dkX10_isDigit 1 rfl) rfl rfl ?_
    refine q_getn E fl_X10_148 (dat dkX10_isDigit 2 rfl) rfl rfl rfl (show _ = nI n from hn) ?_
    refine q_icmp_ge (tgt := 31) E (dat dkX10_isDigit 3 rfl) rfl rfl rfl (by omega) (by omega) (fun h5 => ?_) (fun h5 => ?_)
    ·
      refine r_iconst (v := 0) E (dat dkX10_isDigit 15 rfl) rfl ?_
      refine r_zreturn E (dat dkX10_isDigit 16 rfl) rfl (by decide) (by decide) ?_
      refine ⟨?_, rfl⟩
      rw [cD_0 hr, Bool.and_false]
      rfl
    ·
      refine r_aload_n E (dat dkX10_isDigit 4 rfl) rfl rfl ?_
      refine q_geta E fl_X10_25 (dat dkX10_isDigit 5 rfl) rfl rfl rfl ?_
      refine r_iload_n E (dat dkX10_isDigit 6 rfl) rfl rfl ?_
      refine q_bald E (dat dkX10_isDigit 7 rfl) rfl rfl (by decide) (show _ = bs from hB) rfl (by omega) ?_
      refine r_i2l E (dat dkX10_isDigit 8 rfl) ?_
      refine r_ldc2 E cl_161 (dat dkX10_isDigit 9 rfl) ?_
      refine r_ldc2 E cl_163 (dat dkX10_isDigit 10 rfl) ?_
      refine r_callS (μ := []) E (sp_X10_isWithin l G (bs i).toInt64 48 (57 : Int32).toInt64 _) my_X10_isWithin is_X10_isWithin ml_X10_80 cm_nil rfl rfl (by decide) (Nat.le_of_ble_eq_true rfl) (dat dkX10_isDigit 11 rfl) ?_
      rintro _ _ ⟨rfl, hM⟩
      refine ⟨_, Mrg_z hM, ?_⟩
      clear hM
      rw [show iwI (bs i).toInt64 48 (57 : Int32).toInt64 = 0 from iw_0 (lo := 48) hr]
      refine r_if_eq (tgt := 31) E (dat dkX10_isDigit 12 rfl) rfl (fun h24 => ?_) (fun h24 => ?_)
      ·
        refine r_iconst (v := 0) E (dat dkX10_isDigit 15 rfl) rfl ?_
        refine r_zreturn E (dat dkX10_isDigit 16 rfl) rfl (by decide) (by decide) ?_
        refine ⟨?_, rfl⟩
        rw [cD_0 hr, Bool.and_false]
        rfl
      ·
        exact absurd rfl h24

set_option maxRecDepth 100000 in
set_option maxHeartbeats 4000000 in
theorem sp_X10_expect (l : Launch) (G : GT) (a k : Int32) (M : Mem)  : MC l G yX10_expect cX10_expect 3 none ({ frames := 0, cells := 0, slots := 0, locals := 0 } : Room) [9] lk0 [rv 0 0, iv a, iv k] (M) (fun r M2 => r = none ∧ M2 = exM M a k) := by
  refine MC.of RX10 [some (rv 0 0), some (iv a), some (iv k)] 0 (by decide +kernel) rfl rfl rfl ?_
  intro pp ee ss mm aa bb me cd ad E
  refine r_aload_n E (dat dkX10_expect 0 rfl) rfl rfl ?_
  refine q_getn E fl_X10_165 (dat dkX10_expect 1 rfl) rfl rfl rfl rfl ?_
  refine r_if_ne (tgt := 24) E (dat dkX10_expect 2 rfl) rfl (fun h4 => ?_) (fun h4 => ?_)
  ·
    refine r_vreturn E (dat dkX10_expect 12 rfl) (by decide) (by decide) ?_
    refine ⟨rfl, ?_⟩
    unfold exM
    first
      | (rw [if_neg h4]; done)
      | (rw [if_pos (by first | exact h4 | exact Decidable.not_not.mp h4), if_neg h8]; done)
      | (rw [if_pos (by first | exact h4 | exact Decidable.not_not.mp h4), if_pos (by first | exact h8 | exact Decidable.not_not.mp h8)]; rfl)
  ·
    refine r_iload_n E (dat dkX10_expect 3 rfl) rfl rfl ?_
    refine r_if_ne (tgt := 24) E (dat dkX10_expect 4 rfl) rfl (fun h8 => ?_) (fun h8 => ?_)
    ·
      refine r_vreturn E (dat dkX10_expect 12 rfl) (by decide) (by decide) ?_
      refine ⟨rfl, ?_⟩
      unfold exM
      first
        | (rw [if_neg h4]; done)
        | (rw [if_pos (by first | exact h4 | exact Decidable.not_not.mp h4), if_neg h8]; done)
        | (rw [if_pos (by first | exact h4 | exact Decidable.not_not.mp h4), if_pos (by first | exact h8 | exact Decidable.not_not.mp h8)]; rfl)
    ·
      refine r_aload_n E (dat dkX10_expect 5 rfl) rfl rfl ?_
      refine r_iload_n E (dat dkX10_expect 6 rfl) rfl rfl ?_
      refine q_putn E ft_X10_165 (dat dkX10_expect 7 rfl) rfl rfl rfl rfl ?_
      refine r_aload_n E (dat dkX10_expect 8 rfl) rfl rfl ?_
      refine r_aload_n E (dat dkX10_expect 9 rfl) rfl rfl ?_
      refine q_getn E fl_X10_171 (dat dkX10_expect 10 rfl) rfl rfl rfl rfl ?_
      refine q_putn E ft_X10_186 (dat dkX10_expect 11 rfl) rfl rfl rfl rfl ?_
      refine r_vreturn E (dat dkX10_expect 12 rfl) (by decide) (by decide) ?_
      refine ⟨rfl, ?_⟩
      unfold exM
      first
        | (rw [if_neg h4]; done)
        | (rw [if_pos (by first | exact h4 | exact Decidable.not_not.mp h4), if_neg h8]; done)
        | (rw [if_pos (by first | exact h4 | exact Decidable.not_not.mp h4), if_pos (by first | exact h8 | exact Decidable.not_not.mp h8)]; rfl)

set_option maxRecDepth 100000 in
set_option maxHeartbeats 4000000 in
theorem sp_X10_endText (l : Launch) (G : GT) (M : Mem)  : MC l G yX10_endText cX10_endText 1 none ({ frames := 0, cells := 0, slots := 0, locals := 0 } : Room) [9] lk0 [rv 0 0] (M) (fun r M2 => r = none ∧ M2 = enM M) := by
  refine MC.of RX10 [some (rv 0 0)] 0 (by decide +kernel) rfl rfl rfl ?_
  intro pp ee ss mm aa bb me cd ad E
  refine r_aload_n E (dat dkX10_endText 0 rfl) rfl rfl ?_
  refine r_aload_n E (dat dkX10_endText 1 rfl) rfl rfl ?_
  refine q_getn E fl_X10_165 (dat dkX10_endText 2 rfl) rfl rfl rfl rfl ?_
  refine q_putn E ft_X10_154 (dat dkX10_endText 3 rfl) rfl rfl rfl rfl ?_
  refine r_aload_n E (dat dkX10_endText 4 rfl) rfl rfl ?_
  refine r_aload_n E (dat dkX10_endText 5 rfl) rfl rfl ?_
  refine q_getn E fl_X10_165 (dat dkX10_endText 6 rfl) rfl rfl rfl rfl ?_
  refine r_if_ne (tgt := 20) E (dat dkX10_endText 7 rfl) rfl (fun h13 => ?_) (fun h13 => ?_)
  ·
    refine r_aload_n E (dat dkX10_endText 10 rfl) rfl rfl ?_
    refine q_getn E fl_X10_186 (dat dkX10_endText 11 rfl) rfl rfl rfl rfl ?_
    refine q_putn E ft_X10_29 (dat dkX10_endText 12 rfl) rfl rfl rfl rfl ?_
    refine r_aload_n E (dat dkX10_endText 13 rfl) rfl rfl ?_
    refine r_iconst (v := 0) E (dat dkX10_endText 14 rfl) rfl ?_
    refine q_putn E ft_X10_148 (dat dkX10_endText 15 rfl) rfl rfl rfl rfl ?_
    refine r_vreturn E (dat dkX10_endText 16 rfl) (by decide) (by decide) ?_
    refine ⟨rfl, ?_⟩
    unfold enM
    first
      | (rw [if_neg (show ¬ M 0 0 17 = 0 from h13)]; rfl)
      | (rw [if_pos (show M 0 0 17 = 0 from by first | exact h13 | exact Decidable.not_not.mp h13)]; rfl)
  ·
    refine r_iconst (v := -1) E (dat dkX10_endText 8 rfl) rfl ?_
    refine r_goto (tgt := 24) E (dat dkX10_endText 9 rfl) rfl ?_
    refine q_putn E ft_X10_29 (dat dkX10_endText 12 rfl) rfl rfl rfl rfl ?_
    refine r_aload_n E (dat dkX10_endText 13 rfl) rfl rfl ?_
    refine r_iconst (v := 0) E (dat dkX10_endText 14 rfl) rfl ?_
    refine q_putn E ft_X10_148 (dat dkX10_endText 15 rfl) rfl rfl rfl rfl ?_
    refine r_vreturn E (dat dkX10_endText 16 rfl) (by decide) (by decide) ?_
    refine ⟨rfl, ?_⟩
    unfold enM
    first
      | (rw [if_neg (show ¬ M 0 0 17 = 0 from h13)]; rfl)
      | (rw [if_pos (show M 0 0 17 = 0 from by first | exact h13 | exact Decidable.not_not.mp h13)]; rfl)
