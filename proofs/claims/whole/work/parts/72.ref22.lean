theorem spx_adv (l : Launch) (G : GT) (bs : Nat → Int32) (n : Nat) (t : TT) (M : Mem) (hB : M 0 10 = bs) (hn : M 0 0 10 = nI n) (hT : TI M t) (hpn : t.1 ≤ n) (hn6 : n ≤ 600) (h0 : t.2.2.2.2.1 = 0 ∨ 0 < t.2.2.2.2.1) : MC l G yX10_advanceToken cX10_advanceToken 1 none ({ frames := 2, cells := 0, slots := 0, locals := 46 } : Room) [9] lk0 [rv 0 0] (M) (fun r M2 => r = none ∧ M2 = ttM M (mAd bs n t)) := by
  rcases h0 with h0 | h0
  · exact MC.mono (sp_X10_advanceToken l G bs n t.1 t.2.2.2.1 t.2.1 M hB hn hT.2.1 hT.2.2.1 hT.2.2.2.1 (hT.2.2.2.2.1.trans h0) hpn hn6) (fun r M' h => ⟨h.1, h.2.trans (by rw [ttx hT]; unfold mAd; rw [if_pos h0])⟩)
  · have hne : ¬ t.2.2.2.2.1 = 0 := fun q => by rw [q] at h0; exact absurd h0 (by decide)
    exact MC.mono (sp_X10_advance1 l G M (by rw [hT.2.2.2.2.1]; exact h0)) (fun r M' h => ⟨h.1, h.2.trans (by unfold mAd; rw [if_neg hne, tt_of hT])⟩)
theorem spx_ex (l : Launch) (G : GT) (a k : Int32) (t : TT) (M : Mem) (hT : TI M t) : MC l G yX10_expect cX10_expect 3 none ({ frames := 0, cells := 0, slots := 0, locals := 0 } : Room) [9] lk0 [rv 0 0, iv a, iv k] (M) (fun r M2 => r = none ∧ M2 = ttM M (mEx a k t)) := MC.mono (sp_X10_expect l G a k M) (fun r M' h => ⟨h.1, h.2.trans (ex_tt hT)⟩)
theorem Mrg_t2 {N : Nat} {M M1 : Mem} {t t2 : TT} (hN : 0 < N) (h1 : M1 = ttM (vw [] (ttM M t)) t2) : Mrg N [] (ttM M t) M1 (ttM M t2) := by
  rw [show ttM M t2 = ttM (ttM M t) t2 from tt_tt.symm]
  exact Mrg_tt hN h1
theorem mEx_1 {a k : Int32} {t : TT} : (mEx a k t).1 = t.1 := by
  unfold mEx
  split
  · split <;> rfl
  · rfl
theorem mEx_e {a k : Int32} {t : TT} (hk : 0 < k) (h : t.2.2.2.2.1 = 0 ∨ 0 < t.2.2.2.2.1) : (mEx a k t).2.2.2.2.1 = 0 ∨ 0 < (mEx a k t).2.2.2.2.1 := by
  unfold mEx
  split
  · split
    · exact Or.inr hk
    · exact h
  · exact h
def mSm (b : Nat → Int32) (n : Nat) (t : TT) : TT := mAd b n (mEx (if t.2.1 = 3 then 1 else 0) 1 t)
def mNe (t : TT) (lo hi : Int32) : TT := mEx (iwI t.2.2.2.1.toInt64 lo.toInt64 hi.toInt64) 2 (mEx (if t.2.1 = 2 then 1 else 0) 1 t)
def mNv (t : TT) (lo hi : Int32) : Int32 := if (mNe t lo hi).2.2.2.2.1 = 0 then t.2.2.2.1 else lo
theorem mEx_v {a k : Int32} {t : TT} : (mEx a k t).2.2.2.1 = t.2.2.2.1 := by
  unfold mEx
  split
  · split <;> rfl
  · rfl
set_option maxRecDepth 100000 in
set_option maxHeartbeats 4000000 in
theorem sp_X10_parseSemicolon (l : Launch) (G : GT) (bs : Nat → Int32) (n : Nat) (t : TT) (M : Mem) (hB : M 0 10 = bs) (hn : M 0 0 10 = nI n) (hT : TI M t) (hpn : t.1 ≤ n) (hn6 : n ≤ 600) (h0 : t.2.2.2.2.1 = 0 ∨ 0 < t.2.2.2.2.1) : MC l G yX10_parseSemicolon cX10_parseSemicolon 1 none ({ frames := 3, cells := 0, slots := 0, locals := 66 } : Room) [9] lk0 [rv 0 0] (M) (fun r M2 => r = none ∧ M2 = ttM M (mSm bs n t)) := by
  refine MC.of RX10 [some (rv 0 0)] 0 (by decide +kernel) rfl rfl rfl ?_
  intro pp ee ss mm aa bb me cd ad E
  obtain ⟨M0, rfl, hB0, hn0⟩ : ∃ M0, M = ttM M0 t ∧ M0 0 10 = bs ∧ M0 0 0 10 = nI n := ⟨M, (tt_of hT).symm, hB, hn⟩
  clear hT hB hn
  
  by_cases hk3 : t.2.1 = 3
  ·
    refine r_aload_n E (dat dkX10_parseSemicolon 0 rfl) rfl rfl ?_
    refine r_aload_n E (dat dkX10_parseSemicolon 1 rfl) rfl rfl ?_
    refine q_getn E fl_X10_174 (dat dkX10_parseSemicolon 2 rfl) rfl rfl rfl rfl ?_
    refine r_iconst (v := 3) E (dat dkX10_parseSemicolon 3 rfl) rfl ?_
    refine r_icmp_ne (tgt := 13) E (dat dkX10_parseSemicolon 4 rfl) rfl (fun h6 => ?_) (fun h6 => ?_)
    ·
      exact absurd hk3 h6
    ·
      refine r_iconst (v := 1) E (dat dkX10_parseSemicolon 5 rfl) rfl ?_
      refine r_goto (tgt := 14) E (dat dkX10_parseSemicolon 6 rfl) rfl ?_
      refine r_iconst (v := 1) E (dat dkX10_parseSemicolon 8 rfl) rfl ?_
      refine r_callV (κ := 9) (μ := []) E (spx_ex l G (1) 1 (t) _ TI_tt) my_X10_expect iv_X10_expect ml_X10_194 cm_id ⟨by decide, rfl, rfl⟩ rfl rfl rfl rfl (by decide) (Nat.le_of_ble_eq_true rfl) (dat dkX10_parseSemicolon 9 rfl) ?_
      rintro _ _ ⟨rfl, rfl⟩
      refine ⟨_, Mrg_t2 (by decide) rfl, ?_⟩
      refine r_aload_n E (dat dkX10_parseSemicolon 10 rfl) rfl rfl ?_
      refine r_callV (κ := 9) (μ := []) E (spx_adv l G bs n (mEx 1 1 t) _ hB0 hn0 TI_tt (by first | exact hpn | (rw [mEx_1]; exact hpn) | (rw [mEx_1, mEx_1]; exact hpn)) hn6 (by first | exact h0 | exact mEx_e (by decide) h0 | exact mEx_e (by decide) (mEx_e (by decide) h0))) my_X10_advanceToken iv_X10_advanceToken ml_X10_189 cm_id ⟨by decide, rfl, rfl⟩ rfl rfl rfl rfl (by decide) (Nat.le_of_ble_eq_true rfl) (dat dkX10_parseSemicolon 11 rfl) ?_
      rintro _ _ ⟨rfl, rfl⟩
      refine ⟨_, Mrg_t2 (by decide) rfl, ?_⟩
      refine r_vreturn E (dat dkX10_parseSemicolon 12 rfl) (by decide) (by decide) ?_
      refine ⟨rfl, ?_⟩
      rw [tt_tt]
      unfold mSm
      rw [if_pos hk3]
  ·
    refine r_aload_n E (dat dkX10_parseSemicolon 0 rfl) rfl rfl ?_
    refine r_aload_n E (dat dkX10_parseSemicolon 1 rfl) rfl rfl ?_
    refine q_getn E fl_X10_174 (dat dkX10_parseSemicolon 2 rfl) rfl rfl rfl rfl ?_
    refine r_iconst (v := 3) E (dat dkX10_parseSemicolon 3 rfl) rfl ?_
    refine r_icmp_ne (tgt := 13) E (dat dkX10_parseSemicolon 4 rfl) rfl (fun h6 => ?_) (fun h6 => ?_)
    ·
      refine r_iconst (v := 0) E (dat dkX10_parseSemicolon 7 rfl) rfl ?_
      refine r_iconst (v := 1) E (dat dkX10_parseSemicolon 8 rfl) rfl ?_
      refine r_callV (κ := 9) (μ := []) E (spx_ex l G (0) 1 (t) _ TI_tt) my_X10_expect iv_X10_expect ml_X10_194 cm_id ⟨by decide, rfl, rfl⟩ rfl rfl rfl rfl (by decide) (Nat.le_of_ble_eq_true rfl) (dat dkX10_parseSemicolon 9 rfl) ?_
      rintro _ _ ⟨rfl, rfl⟩
      refine ⟨_, Mrg_t2 (by decide) rfl, ?_⟩
      refine r_aload_n E (dat dkX10_parseSemicolon 10 rfl) rfl rfl ?_
      refine r_callV (κ := 9) (μ := []) E (spx_adv l G bs n (mEx 0 1 t) _ hB0 hn0 TI_tt (by first | exact hpn | (rw [mEx_1]; exact hpn) | (rw [mEx_1, mEx_1]; exact hpn)) hn6 (by first | exact h0 | exact mEx_e (by decide) h0 | exact mEx_e (by decide) (mEx_e (by decide) h0))) my_X10_advanceToken iv_X10_advanceToken ml_X10_189 cm_id ⟨by decide, rfl, rfl⟩ rfl rfl rfl rfl (by decide) (Nat.le_of_ble_eq_true rfl) (dat dkX10_parseSemicolon 11 rfl) ?_
      rintro _ _ ⟨rfl, rfl⟩
      refine ⟨_, Mrg_t2 (by decide) rfl, ?_⟩
      refine r_vreturn E (dat dkX10_parseSemicolon 12 rfl) (by decide) (by decide) ?_
      refine ⟨rfl, ?_⟩
      rw [tt_tt]
      unfold mSm
      rw [if_neg hk3]
    ·
      exact absurd h6 hk3

set_option maxRecDepth 100000 in
set_option maxHeartbeats 4000000 in
theorem sp_X10_parseNumber (l : Launch) (G : GT) (bs : Nat → Int32) (n : Nat) (t : TT) (lo hi : Int32) (M : Mem) (hB : M 0 10 = bs) (hn : M 0 0 10 = nI n) (hT : TI M t) (hpn : t.1 ≤ n) (hn6 : n ≤ 600) (h0 : t.2.2.2.2.1 = 0 ∨ 0 < t.2.2.2.2.1) : MC l G yX10_parseNumber cX10_parseNumber 4 (some .int) ({ frames := 3, cells := 0, slots := 0, locals := 66 } : Room) [9] lk0 [rv 0 0, iv lo, iv hi] (M) (fun r M2 => r = some (iv (mNv t lo hi)) ∧ M2 = ttM M (mAd bs n (mNe t lo hi))) := by
  refine MC.of RX10 [some (rv 0 0), some (iv lo), some (iv hi), none] 1 (by decide +kernel) rfl rfl rfl ?_
  intro pp ee ss mm aa bb me cd ad E
  obtain ⟨M0, rfl, hB0, hn0⟩ : ∃ M0, M = ttM M0 t ∧ M0 0 10 = bs ∧ M0 0 0 10 = nI n := ⟨M, (tt_of hT).symm, hB, hn⟩
  clear hT hB hn
  
  by_cases hk2 : t.2.1 = 2
  ·
    refine r_aload_n E (dat dkX10_parseNumber 0 rfl) rfl rfl ?_
    refine r_aload_n E (dat dkX10_parseNumber 1 rfl) rfl rfl ?_
    refine q_getn E fl_X10_174 (dat dkX10_parseNumber 2 rfl) rfl rfl rfl rfl ?_
    refine r_iconst (v := 2) E (dat dkX10_parseNumber 3 rfl) rfl ?_
    refine r_icmp_ne (tgt := 13) E (dat dkX10_parseNumber 4 rfl) rfl (fun h6 => ?_) (fun h6 => ?_)
    ·
      exact absurd hk2 h6
    ·
      refine r_iconst (v := 1) E (dat dkX10_parseNumber 5 rfl) rfl ?_
      refine r_goto (tgt := 14) E (dat dkX10_parseNumber 6 rfl) rfl ?_
      refine r_iconst (v := 1) E (dat dkX10_parseNumber 8 rfl) rfl ?_
      refine r_callV (κ := 9) (μ := []) E (spx_ex l G (1) 1 (t) _ TI_tt) my_X10_expect iv_X10_expect ml_X10_194 cm_id ⟨by decide, rfl, rfl⟩ rfl rfl rfl rfl (by decide) (Nat.le_of_ble_eq_true rfl) (dat dkX10_parseNumber 9 rfl) ?_
      rintro _ _ ⟨rfl, rfl⟩
      refine ⟨_, Mrg_t2 (by decide) rfl, ?_⟩
      refine r_aload_n E (dat dkX10_parseNumber 10 rfl) rfl rfl ?_
      refine r_aload_n E (dat dkX10_parseNumber 11 rfl) rfl rfl ?_
      refine q_getn E fl_X10_183 (dat dkX10_parseNumber 12 rfl) rfl rfl rfl rfl ?_
      rw [show ttM M0 (mEx 1 1 t) 0 0 16 = t.2.2.2.1 from mEx_v]
      refine r_i2l E (dat dkX10_parseNumber 13 rfl) ?_
      refine r_iload_n E (dat dkX10_parseNumber 14 rfl) rfl rfl ?_
      refine r_i2l E (dat dkX10_parseNumber 15 rfl) ?_
      refine r_iload_n E (dat dkX10_parseNumber 16 rfl) rfl rfl ?_
      refine r_i2l E (dat dkX10_parseNumber 17 rfl) ?_
      refine r_callS (μ := []) E (sp_X10_isWithin l G t.2.2.2.1.toInt64 lo.toInt64 hi.toInt64 _) my_X10_isWithin is_X10_isWithin ml_X10_80 cm_nil rfl rfl (by decide) (Nat.le_of_ble_eq_true rfl) (dat dkX10_parseNumber 18 rfl) ?_
      rintro _ _ ⟨rfl, hM⟩
      refine ⟨_, Mrg_z hM, ?_⟩
      clear hM
      refine r_iconst (v := 2) E (dat dkX10_parseNumber 19 rfl) rfl ?_
      refine r_callV (κ := 9) (μ := []) E (spx_ex l G (iwI t.2.2.2.1.toInt64 lo.toInt64 hi.toInt64) 2 (mEx 1 1 t) _ TI_tt) my_X10_expect iv_X10_expect ml_X10_194 cm_id ⟨by decide, rfl, rfl⟩ rfl rfl rfl rfl (by decide) (Nat.le_of_ble_eq_true rfl) (dat dkX10_parseNumber 20 rfl) ?_
      rintro _ _ ⟨rfl, rfl⟩
      refine ⟨_, Mrg_t2 (by decide) rfl, ?_⟩
      refine r_aload_n E (dat dkX10_parseNumber 21 rfl) rfl rfl ?_
      refine q_getn E fl_X10_165 (dat dkX10_parseNumber 22 rfl) rfl rfl rfl rfl ?_
      refine r_if_ne (tgt := 49) E (dat dkX10_parseNumber 23 rfl) rfl (fun h39 => ?_) (fun h39 => ?_)
      ·
        refine r_iload_n E (dat dkX10_parseNumber 27 rfl) rfl rfl ?_
        refine r_istore_3 E (dat dkX10_parseNumber 28 rfl) rfl rfl ?_
        refine r_aload_n E (dat dkX10_parseNumber 29 rfl) rfl rfl ?_
        refine r_callV (κ := 9) (μ := []) E (spx_adv l G bs n (mEx (iwI t.2.2.2.1.toInt64 lo.toInt64 hi.toInt64) 2 (mEx 1 1 t)) _ hB0 hn0 TI_tt (by first | exact hpn | (rw [mEx_1]; exact hpn) | (rw [mEx_1, mEx_1]; exact hpn)) hn6 (by first | exact h0 | exact mEx_e (by decide) h0 | exact mEx_e (by decide) (mEx_e (by decide) h0))) my_X10_advanceToken iv_X10_advanceToken ml_X10_189 cm_id ⟨by decide, rfl, rfl⟩ rfl rfl rfl rfl (by decide) (Nat.le_of_ble_eq_true rfl) (dat dkX10_parseNumber 30 rfl) ?_
        rintro _ _ ⟨rfl, rfl⟩
        refine ⟨_, Mrg_t2 (by decide) rfl, ?_⟩
        refine r_iload_n E (dat dkX10_parseNumber 31 rfl) rfl rfl ?_
        refine r_ireturn E (dat dkX10_parseNumber 32 rfl) (by decide) (by decide) ?_
        have hE : mNe t lo hi = mEx (iwI t.2.2.2.1.toInt64 lo.toInt64 hi.toInt64) 2 (mEx 1 1 t) := by unfold mNe; rw [if_pos hk2]
        rw [hE, tt_tt]
        refine ⟨?_, rfl⟩
        unfold mNv
        rw [hE]
        first
          | (rw [if_neg (show ¬ (mEx (iwI t.2.2.2.1.toInt64 lo.toInt64 hi.toInt64) 2 (mEx 1 1 t)).2.2.2.2.1 = 0 from h39)]; done)
          | (rw [if_pos (show (mEx (iwI t.2.2.2.1.toInt64 lo.toInt64 hi.toInt64) 2 (mEx 1 1 t)).2.2.2.2.1 = 0 from by first | exact h39 | exact Decidable.not_not.mp h39)]; done)
      ·
        refine r_aload_n E (dat dkX10_parseNumber 24 rfl) rfl rfl ?_
        refine q_getn E fl_X10_183 (dat dkX10_parseNumber 25 rfl) rfl rfl rfl rfl ?_
        rw [show ttM M0 (mEx (iwI t.2.2.2.1.toInt64 lo.toInt64 hi.toInt64) 2 (mEx 1 1 t)) 0 0 16 = t.2.2.2.1 from mEx_v.trans mEx_v]
        refine r_goto (tgt := 50) E (dat dkX10_parseNumber 26 rfl) rfl ?_
        refine r_istore_3 E (dat dkX10_parseNumber 28 rfl) rfl rfl ?_
        refine r_aload_n E (dat dkX10_parseNumber 29 rfl) rfl rfl ?_
        refine r_callV (κ := 9) (μ := []) E (spx_adv l G bs n (mEx (iwI t.2.2.2.1.toInt64 lo.toInt64 hi.toInt64) 2 (mEx 1 1 t)) _ hB0 hn0 TI_tt (by first | exact hpn | (rw [mEx_1]; exact hpn) | (rw [mEx_1, mEx_1]; exact hpn)) hn6 (by first | exact h0 | exact mEx_e (by decide) h0 | exact mEx_e (by decide) (mEx_e (by decide) h0))) my_X10_advanceToken iv_X10_advanceToken ml_X10_189 cm_id ⟨by decide, rfl, rfl⟩ rfl rfl rfl rfl (by decide) (Nat.le_of_ble_eq_true rfl) (dat dkX10_parseNumber 30 rfl) ?_
        rintro _ _ ⟨rfl, rfl⟩
        refine ⟨_, Mrg_t2 (by decide) rfl, ?_⟩
        refine r_iload_n E (dat dkX10_parseNumber 31 rfl) rfl rfl ?_
        refine r_ireturn E (dat dkX10_parseNumber 32 rfl) (by decide) (by decide) ?_
        have hE : mNe t lo hi = mEx (iwI t.2.2.2.1.toInt64 lo.toInt64 hi.toInt64) 2 (mEx 1 1 t) := by unfold mNe; rw [if_pos hk2]
        rw [hE, tt_tt]
        refine ⟨?_, rfl⟩
        unfold mNv
        rw [hE]
        first
          | (rw [if_neg (show ¬ (mEx (iwI t.2.2.2.1.toInt64 lo.toInt64 hi.toInt64) 2 (mEx 1 1 t)).2.2.2.2.1 = 0 from h39)]; done)
          | (rw [if_pos (show (mEx (iwI t.2.2.2.1.toInt64 lo.toInt64 hi.toInt64) 2 (mEx 1 1 t)).2.2.2.2.1 = 0 from by first | exact h39 | exact Decidable.not_not.mp h39)]; done)
  ·
    refine r_aload_n E (dat dkX10_parseNumber 0 rfl) rfl rfl ?_
    refine r_aload_n E (dat dkX10_parseNumber 1 rfl) rfl rfl ?_
    refine q_getn E fl_X10_174 (dat dkX10_parseNumber 2 rfl) rfl rfl rfl rfl ?_
    refine r_iconst (v := 2) E (dat dkX10_parseNumber 3 rfl) rfl ?_
    refine r_icmp_ne (tgt := 13) E (dat dkX10_parseNumber 4 rfl) rfl (fun h6 => ?_) (fun h6 => ?_)
    ·
      refine r_iconst (v := 0) E (dat dkX10_parseNumber 7 rfl) rfl ?_
      refine r_iconst (v := 1) E (dat dkX10_parseNumber 8 rfl) rfl ?_
      refine r_callV (κ := 9) (μ := []) E (spx_ex l G (0) 1 (t) _ TI_tt) my_X10_expect iv_X10_expect ml_X10_194 cm_id ⟨by decide, rfl, rfl⟩ rfl rfl rfl rfl (by decide) (Nat.le_of_ble_eq_true rfl) (dat dkX10_parseNumber 9 rfl) ?_
      rintro _ _ ⟨rfl, rfl⟩
      refine ⟨_, Mrg_t2 (by decide) rfl, ?_⟩
      refine r_aload_n E (dat dkX10_parseNumber 10 rfl) rfl rfl ?_
      refine r_aload_n E (dat dkX10_parseNumber 11 rfl) rfl rfl ?_
      refine q_getn E fl_X10_183 (dat dkX10_parseNumber 12 rfl) rfl rfl rfl rfl ?_
      rw [show ttM M0 (mEx 0 1 t) 0 0 16 = t.2.2.2.1 from mEx_v]
      refine r_i2l E (dat dkX10_parseNumber 13 rfl) ?_
      refine r_iload_n E (dat dkX10_parseNumber 14 rfl) rfl rfl ?_
      refine r_i2l E (dat dkX10_parseNumber 15 rfl) ?_
      refine r_iload_n E (dat dkX10_parseNumber 16 rfl) rfl rfl ?_
      refine r_i2l E (dat dkX10_parseNumber 17 rfl) ?_
      refine r_callS (μ := []) E (sp_X10_isWithin l G t.2.2.2.1.toInt64 lo.toInt64 hi.toInt64 _) my_X10_isWithin is_X10_isWithin ml_X10_80 cm_nil rfl rfl (by decide) (Nat.le_of_ble_eq_true rfl) (dat dkX10_parseNumber 18 rfl) ?_
      rintro _ _ ⟨rfl, hM⟩
      refine ⟨_, Mrg_z hM, ?_⟩
      clear hM
      refine r_iconst (v := 2) E (dat dkX10_parseNumber 19 rfl) rfl ?_
      refine r_callV (κ := 9) (μ := []) E (spx_ex l G (iwI t.2.2.2.1.toInt64 lo.toInt64 hi.toInt64) 2 (mEx 0 1 t) _ TI_tt) my_X10_expect iv_X10_expect ml_X10_194 cm_id ⟨by decide, rfl, rfl⟩ rfl rfl rfl rfl (by decide) (Nat.le_of_ble_eq_true rfl) (dat dkX10_parseNumber 20 rfl) ?_
      rintro _ _ ⟨rfl, rfl⟩
      refine ⟨_, Mrg_t2 (by decide) rfl, ?_⟩
      refine r_aload_n E (dat dkX10_parseNumber 21 rfl) rfl rfl ?_
      refine q_getn E fl_X10_165 (dat dkX10_parseNumber 22 rfl) rfl rfl rfl rfl ?_
      refine r_if_ne (tgt := 49) E (dat dkX10_parseNumber 23 rfl) rfl (fun h39 => ?_) (fun h39 => ?_)
      ·
        refine r_iload_n E (dat dkX10_parseNumber 27 rfl) rfl rfl ?_
        refine r_istore_3 E (dat dkX10_parseNumber 28 rfl) rfl rfl ?_
        refine r_aload_n E (dat dkX10_parseNumber 29 rfl) rfl rfl ?_
        refine r_callV (κ := 9) (μ := []) E (spx_adv l G bs n (mEx (iwI t.2.2.2.1.toInt64 lo.toInt64 hi.toInt64) 2 (mEx 0 1 t)) _ hB0 hn0 TI_tt (by first | exact hpn | (rw [mEx_1]; exact hpn) | (rw [mEx_1, mEx_1]; exact hpn)) hn6 (by first | exact h0 | exact mEx_e (by decide) h0 | exact mEx_e (by decide) (mEx_e (by decide) h0))) my_X10_advanceToken iv_X10_advanceToken ml_X10_189 cm_id ⟨by decide, rfl, rfl⟩ rfl rfl rfl rfl (by decide) (Nat.le_of_ble_eq_true rfl) (dat dkX10_parseNumber 30 rfl) ?_
        rintro _ _ ⟨rfl, rfl⟩
        refine ⟨_, Mrg_t2 (by decide) rfl, ?_⟩
        refine r_iload_n E (dat dkX10_parseNumber 31 rfl) rfl rfl ?_
        refine r_ireturn E (dat dkX10_parseNumber 32 rfl) (by decide) (by decide) ?_
        have hE : mNe t lo hi = mEx (iwI t.2.2.2.1.toInt64 lo.toInt64 hi.toInt64) 2 (mEx 0 1 t) := by unfold mNe; rw [if_neg hk2]
        rw [hE, tt_tt]
        refine ⟨?_, rfl⟩
        unfold mNv
        rw [hE]
        first
          | (rw [if_neg (show ¬ (mEx (iwI t.2.2.2.1.toInt64 lo.toInt64 hi.toInt64) 2 (mEx 0 1 t)).2.2.2.2.1 = 0 from h39)]; done)
          | (rw [if_pos (show (mEx (iwI t.2.2.2.1.toInt64 lo.toInt64 hi.toInt64) 2 (mEx 0 1 t)).2.2.2.2.1 = 0 from by first | exact h39 | exact Decidable.not_not.mp h39)]; done)
      ·
        refine r_aload_n E (dat dkX10_parseNumber 24 rfl) rfl rfl ?_
        refine q_getn E fl_X10_183 (dat dkX10_parseNumber 25 rfl) rfl rfl rfl rfl ?_
        rw [show ttM M0 (mEx (iwI t.2.2.2.1.toInt64 lo.toInt64 hi.toInt64) 2 (mEx 0 1 t)) 0 0 16 = t.2.2.2.1 from mEx_v.trans mEx_v]
        refine r_goto (tgt := 50) E (dat dkX10_parseNumber 26 rfl) rfl ?_
        refine r_istore_3 E (dat dkX10_parseNumber 28 rfl) rfl rfl ?_
        refine r_aload_n E (dat dkX10_parseNumber 29 rfl) rfl rfl ?_
        refine r_callV (κ := 9) (μ := []) E (spx_adv l G bs n (mEx (iwI t.2.2.2.1.toInt64 lo.toInt64 hi.toInt64) 2 (mEx 0 1 t)) _ hB0 hn0 TI_tt (by first | exact hpn | (rw [mEx_1]; exact hpn) | (rw [mEx_1, mEx_1]; exact hpn)) hn6 (by first | exact h0 | exact mEx_e (by decide) h0 | exact mEx_e (by decide) (mEx_e (by decide) h0))) my_X10_advanceToken iv_X10_advanceToken ml_X10_189 cm_id ⟨by decide, rfl, rfl⟩ rfl rfl rfl rfl (by decide) (Nat.le_of_ble_eq_true rfl) (dat dkX10_parseNumber 30 rfl) ?_
        rintro _ _ ⟨rfl, rfl⟩
        refine ⟨_, Mrg_t2 (by decide) rfl, ?_⟩
        refine r_iload_n E (dat dkX10_parseNumber 31 rfl) rfl rfl ?_
        refine r_ireturn E (dat dkX10_parseNumber 32 rfl) (by decide) (by decide) ?_
        have hE : mNe t lo hi = mEx (iwI t.2.2.2.1.toInt64 lo.toInt64 hi.toInt64) 2 (mEx 0 1 t) := by unfold mNe; rw [if_neg hk2]
        rw [hE, tt_tt]
        refine ⟨?_, rfl⟩
        unfold mNv
        rw [hE]
        first
          | (rw [if_neg (show ¬ (mEx (iwI t.2.2.2.1.toInt64 lo.toInt64 hi.toInt64) 2 (mEx 0 1 t)).2.2.2.2.1 = 0 from h39)]; done)
          | (rw [if_pos (show (mEx (iwI t.2.2.2.1.toInt64 lo.toInt64 hi.toInt64) 2 (mEx 0 1 t)).2.2.2.2.1 = 0 from by first | exact h39 | exact Decidable.not_not.mp h39)]; done)
    ·
      exact absurd h6 hk2
