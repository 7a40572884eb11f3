/-! the reference's parser: numbers, names -/
/-- a text's record, as its places are -/
def TG (n : Nat) (t : TT) : Prop := t.1 ≤ n ∧ (t.2.2.2.2.1 = 0 ∨ 0 < t.2.2.2.2.1) ∧ ∃ s, s ≤ t.1 ∧ t.2.2.1 = nI s
theorem TG_ad {b : Nat → Int32} {n : Nat} {t : TT} (h : TG n t) : TG n (mAd b n t) := by
  unfold mAd
  split
  · exact ⟨(tP_le h.1).2, h.2.1, _, (tP_le h.1).1, rfl⟩
  · exact h
theorem TG_ex {n : Nat} {a k : Int32} {t : TT} (hk : 0 < k) (h : TG n t) : TG n (mEx a k t) := by
  unfold mEx
  split
  · split
    · exact ⟨h.1, Or.inr hk, h.2.2⟩
    · exact h
  · exact h
theorem TG_ne {n : Nat} {lo hi : Int32} {t : TT} (h : TG n t) : TG n (mNe t lo hi) := TG_ex (by decide) (TG_ex (by decide) h)
theorem TG_sm {b : Nat → Int32} {n : Nat} {t : TT} (h : TG n t) : TG n (mSm b n t) := TG_ad (TG_ex (by decide) h)
theorem mAd_f {b : Nat → Int32} {n : Nat} {t : TT} : (mAd b n t).2.2.2.2.1 = t.2.2.2.2.1 := by
  unfold mAd
  split <;> rfl
theorem px_adv (l : Launch) (G : GT) (bs : Nat → Int32) (n : Nat) (A : Nat → Int32) (t : TT) (M : Mem) (hB : M 0 10 = bs) (hn : M 0 0 10 = nI n) (hA : M 0 1 = A) (hT : TI M t) (hG : TG n t) (hn6 : n ≤ 600) : MC l G yX10_advanceToken cX10_advanceToken 1 none ({ frames := 2, cells := 0, slots := 0, locals := 46 } : Room) [9] lk0 [rv 0 0] (M) (fun r M2 => r = none ∧ PK M M2 A (mAd bs n t) ∧ PS M M2) := MC.mono (spx_adv l G bs n t M hB hn hT hG.1 hn6 hG.2.1) (fun r M9 h => ⟨h.1, by rw [h.2]; exact PK_tt hA, by rw [h.2]; exact PS_tt⟩)
theorem px_ex (l : Launch) (G : GT) (bs : Nat → Int32) (n : Nat) (A : Nat → Int32) (t : TT) (a k : Int32) (M : Mem) (hB : M 0 10 = bs) (hn : M 0 0 10 = nI n) (hA : M 0 1 = A) (hT : TI M t) (hG : TG n t) (hn6 : n ≤ 600) : MC l G yX10_expect cX10_expect 3 none ({ frames := 0, cells := 0, slots := 0, locals := 0 } : Room) [9] lk0 [rv 0 0, iv a, iv k] (M) (fun r M2 => r = none ∧ PK M M2 A (mEx a k t) ∧ PS M M2) := MC.mono (spx_ex l G a k t M hT) (fun r M9 h => ⟨h.1, by rw [h.2]; exact PK_tt hA, by rw [h.2]; exact PS_tt⟩)
theorem px_num (l : Launch) (G : GT) (bs : Nat → Int32) (n : Nat) (A : Nat → Int32) (t : TT) (lo hi : Int32) (M : Mem) (hB : M 0 10 = bs) (hn : M 0 0 10 = nI n) (hA : M 0 1 = A) (hT : TI M t) (hG : TG n t) (hn6 : n ≤ 600) : MC l G yX10_parseNumber cX10_parseNumber 4 (some .int) ({ frames := 3, cells := 0, slots := 0, locals := 66 } : Room) [9] lk0 [rv 0 0, iv lo, iv hi] (M) (fun r M2 => r = some (iv (mNv t lo hi)) ∧ PK M M2 A (mAd bs n (mNe t lo hi)) ∧ PS M M2) := MC.mono (sp_X10_parseNumber l G bs n t lo hi M hB hn hT hG.1 hn6 hG.2.1) (fun r M9 h => ⟨h.1, by rw [h.2]; exact PK_tt hA, by rw [h.2]; exact PS_tt⟩)
theorem px_smc (l : Launch) (G : GT) (bs : Nat → Int32) (n : Nat) (A : Nat → Int32) (t : TT) (M : Mem) (hB : M 0 10 = bs) (hn : M 0 0 10 = nI n) (hA : M 0 1 = A) (hT : TI M t) (hG : TG n t) (hn6 : n ≤ 600) : MC l G yX10_parseSemicolon cX10_parseSemicolon 1 none ({ frames := 3, cells := 0, slots := 0, locals := 66 } : Room) [9] lk0 [rv 0 0] (M) (fun r M2 => r = none ∧ PK M M2 A (mSm bs n t) ∧ PS M M2) := MC.mono (sp_X10_parseSemicolon l G bs n t M hB hn hT hG.1 hn6 hG.2.1) (fun r M9 h => ⟨h.1, by rw [h.2]; exact PK_tt hA, by rw [h.2]; exact PS_tt⟩)
set_option maxRecDepth 100000 in
set_option maxHeartbeats 4000000 in
theorem sp_X10_parseRain (l : Launch) (G : GT) (bs : Nat → Int32) (n : Nat) (A : Nat → Int32) (t : TT) (M : Mem) (hB : M 0 10 = bs) (hn : M 0 0 10 = nI n) (hA : M 0 1 = A) (hT : TI M t) (hG : TG n t) (hn6 : n ≤ 600) : MC l G yX10_parseRain cX10_parseRain 2 none ({ frames := 4, cells := 0, slots := 0, locals := 89 } : Room) [9] lk0 [rv 0 0] (M) (fun r M2 => r = none ∧ PK M M2 (if (mNe (mAd bs n t) 0 9).2.2.2.2.1 = 0 then upd A 3 (mNv (mAd bs n t) 0 9) else A) (mAd bs n (mNe (mAd bs n t) 0 9)) ∧ PS M M2) := by
  refine MC.of RX10 [some (rv 0 0), none] 1 (by decide +kernel) rfl rfl rfl ?_
  intro pp ee ss mm aa bb me cd ad E
  have hk : kq M M := kq_r
  have hS : PS M M := PS_r
  
  refine r_aload_n E (dat dkX10_parseRain 0 rfl) rfl rfl ?_
  refine r_callV (κ := 9) (μ := []) E (px_adv l G bs n _ _  _ hB hn hA hT hG hn6) my_X10_advanceToken iv_X10_advanceToken ml_X10_189 cm_id ⟨by decide, rfl, rfl⟩ rfl rfl rfl rfl (by decide) (Nat.le_of_ble_eq_true rfl) (dat dkX10_parseRain 1 rfl) ?_
  rintro _ M9 ⟨rfl, hp9, hs9⟩
  obtain ⟨Ma, hMr, hk9, hA, hT, hS9⟩ := Mrg_pk hp9 hs9
  replace hB := (hk9.2.2.2.1).trans hB
  replace hn := (hk9.2.2.2.2.2.2.2.2.1).trans hn
  replace hk := kq_t hk hk9
  replace hS := PS_t hS hS9
  replace hG := TG_ad (b := bs) hG
  refine ⟨_, hMr, ?_⟩
  clear hp9 hs9 hMr hk9 hS9
  refine r_aload_n E (dat dkX10_parseRain 2 rfl) rfl rfl ?_
  refine r_iconst (v := 0) E (dat dkX10_parseRain 3 rfl) rfl ?_
  refine r_bipush (v := 9) E (dat dkX10_parseRain 4 rfl) rfl ?_
  refine r_callV (κ := 9) (μ := []) E (px_num l G bs n _ _ (0) (9) _ hB hn hA hT hG hn6) my_X10_parseNumber iv_X10_parseNumber ml_X10_198 cm_id ⟨by decide, rfl, rfl⟩ rfl rfl rfl rfl (by decide) (Nat.le_of_ble_eq_true rfl) (dat dkX10_parseRain 5 rfl) ?_
  rintro _ M9 ⟨rfl, hp9, hs9⟩
  obtain ⟨Ma, hMr, hk9, hA, hT, hS9⟩ := Mrg_pk hp9 hs9
  replace hB := (hk9.2.2.2.1).trans hB
  replace hn := (hk9.2.2.2.2.2.2.2.2.1).trans hn
  replace hk := kq_t hk hk9
  replace hS := PS_t hS hS9
  replace hG := TG_ad (b := bs) (TG_ne (lo := 0) (hi := 9) hG)
  refine ⟨_, hMr, ?_⟩
  clear hp9 hs9 hMr hk9 hS9
  have hf := mAd_f (b := bs) (n := n) (t := (mNe (mAd bs n t) 0 9))
  refine r_istore_1 E (dat dkX10_parseRain 6 rfl) rfl rfl ?_
  refine r_aload_n E (dat dkX10_parseRain 7 rfl) rfl rfl ?_
  refine q_getn E fl_X10_165 (dat dkX10_parseRain 8 rfl) rfl rfl rfl (show (_ : Int32) = _ from hT.2.2.2.2.1) ?_
  refine r_if_ne (tgt := 26) E (dat dkX10_parseRain 9 rfl) rfl (fun h16 => ?_) (fun h16 => ?_)
  ·
    refine r_vreturn E (dat dkX10_parseRain 15 rfl) (by decide) (by decide) ?_
    refine ⟨rfl, ?_, hS⟩
    first
      | (rw [if_neg (show ¬ (mNe (mAd bs n t) 0 9).2.2.2.2.1 = 0 from fun q => h16 (hf.trans q))]; exact ⟨hk, hA, hT⟩)
      | (rw [if_pos (show (mNe (mAd bs n t) 0 9).2.2.2.2.1 = 0 from hf.symm.trans (by first | exact h16 | exact Decidable.not_not.mp h16))]; exact ⟨hk, rfl, hT⟩)
  ·
    refine r_aload_n E (dat dkX10_parseRain 10 rfl) rfl rfl ?_
    refine q_geta E fl_X10_9 (dat dkX10_parseRain 11 rfl) rfl rfl rfl ?_
    refine r_iconst (v := 3) E (dat dkX10_parseRain 12 rfl) rfl ?_
    refine r_iload_n E (dat dkX10_parseRain 13 rfl) rfl rfl ?_
    refine q_iast E (dat dkX10_parseRain 14 rfl) rfl rfl (by decide) (show (_ : Nat → Int32) = _ from hA) (fun _ => rfl) (show _ = nI 3 from rfl) (by omega) ?_
    refine r_vreturn E (dat dkX10_parseRain 15 rfl) (by decide) (by decide) ?_
    refine ⟨rfl, ?_, hS⟩
    first
      | (rw [if_neg (show ¬ (mNe (mAd bs n t) 0 9).2.2.2.2.1 = 0 from fun q => h16 (hf.trans q))]; exact ⟨hk, hA, hT⟩)
      | (rw [if_pos (show (mNe (mAd bs n t) 0 9).2.2.2.2.1 = 0 from hf.symm.trans (by first | exact h16 | exact Decidable.not_not.mp h16))]; exact ⟨hk, rfl, hT⟩)
