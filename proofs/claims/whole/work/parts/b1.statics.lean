set_option maxHeartbeats 4000000 in
theorem sp_L_heightOf (l : Launch) (G : GT) (a : Int32) (M : Mem) (post : Option AV → Mem → Prop) (XP : String → Mem → Prop) (hM : MCx l G yX9_heightOf cX9_heightOf 2 (some .int) ({ frames := 7, cells := 4, slots := 24, locals := 103 } : Room) KC lkC [rv 0 0, iv a] M post XP) (hr : ∀ r M', post r M' → ∃ v, r = some (iv v)) (hX : ∀ Ex M', XP Ex M' → Ex = oobN) : MCw l G yL_heightOf cL_heightOf 4 (some .int) [(0, 9, 12, 13)] ({ frames := 8, cells := 4, slots := 24, locals := 124 } : Room) KO lkC [rv 0 0, iv a, rv 19 0] M (fun r M2 => (∃ v M', post (some (iv v)) M' ∧ r = some (iv 0) ∧ M2 = loV M M' v) ∨ (∃ M', XP oobN M' ∧ r = some (iv 1) ∧ M2 = loX M M')) := by
  refine MCw.of RL [some (rv 0 0), some (iv a), some (rv 19 0), none] 1 (by decide +kernel) rfl rfl rfl ?_
  intro pp ee ss mm aa bb me cd ad E htab
  refine r_aload_n E (dat dkL_heightOf 0 rfl) rfl rfl ?_
  refine r_iconst (v := 0) E (dat dkL_heightOf 1 rfl) rfl ?_
  refine r_aload_n E (dat dkL_heightOf 2 rfl) rfl rfl ?_
  refine r_iload_n E (dat dkL_heightOf 3 rfl) rfl rfl ?_
  refine r_callVC (κ := 8) (μ := []) E (htab.trans rfl) hM my_X9_heightOf iv_X9_heightOf ml_L_7 cm_KO ⟨by decide, rfl, rfl⟩ rfl rfl rfl rfl (by decide) (Nat.le_of_ble_eq_true rfl) (dat dkL_heightOf 4 rfl) ?_ ?_
  · intro Ex M' hp
    obtain ⟨z1, z2, z3, z4, z5, z6, z7, z8, c1, c2, c3⟩ := E.2.2.2.2.2.2.2.1.2.2.2.2
    rcases hX Ex M' hp with rfl
    · refine ⟨_, loX_m, 12, ⟨[], ⟨0, 9, 12, 13⟩, [], "java/lang/IndexOutOfBoundsException", rfl, (fun z hz => (nomatch hz)), rfl, by decide, bg_4 78 (by decide +kernel), nw_4 90 (by decide +kernel), rfl⟩, fun q => ?_⟩
      refine r_astX (i := 3) E (dat dkL_heightOf 8 rfl) rfl (Nat.le_of_ble_eq_true rfl) rfl (hc_of 2 rfl rfl) rfl ?_
      refine r_iconst (v := 1) E (dat dkL_heightOf 9 rfl) rfl ?_
      exact r_ireturn E (dat dkL_heightOf 10 rfl) (by decide) (by decide) (Or.inr (⟨M', hp, rfl, rfl⟩))
  · intro r M' hp
    obtain ⟨v, rfl⟩ := hr r M' hp
    refine ⟨_, loX_m, ?_⟩
    refine r_i2l E (dat dkL_heightOf 5 rfl) ?_
    refine r_last (N := 1) (x := v) E (dat dkL_heightOf 6 rfl) rfl rfl (by unfold vp_in; decide) rfl ?_
    refine r_goto (tgt := 15) E (dat dkL_heightOf 7 rfl) rfl ?_
    refine r_iconst (v := 0) E (dat dkL_heightOf 11 rfl) rfl ?_
    exact r_ireturn E (dat dkL_heightOf 12 rfl) (by decide) (by decide) (Or.inl ⟨v, M', hp, rfl, rfl⟩)
set_option maxHeartbeats 4000000 in
theorem sp_L_waterOn (l : Launch) (G : GT) (a : Int32) (M : Mem) (post : Option AV → Mem → Prop) (XP : String → Mem → Prop) (hM : MCx l G yX9_waterOn cX9_waterOn 2 (some .int) ({ frames := 7, cells := 4, slots := 24, locals := 103 } : Room) KC lkC [rv 0 0, iv a] M post XP) (hr : ∀ r M', post r M' → ∃ v, r = some (iv v)) (hX : ∀ Ex M', XP Ex M' → Ex = oobN) : MCw l G yL_waterOn cL_waterOn 4 (some .int) [(0, 9, 12, 13)] ({ frames := 8, cells := 4, slots := 24, locals := 124 } : Room) KO lkC [rv 0 0, iv a, rv 19 0] M (fun r M2 => (∃ v M', post (some (iv v)) M' ∧ r = some (iv 0) ∧ M2 = loV M M' v) ∨ (∃ M', XP oobN M' ∧ r = some (iv 1) ∧ M2 = loX M M')) := by
  refine MCw.of RL [some (rv 0 0), some (iv a), some (rv 19 0), none] 1 (by decide +kernel) rfl rfl rfl ?_
  intro pp ee ss mm aa bb me cd ad E htab
  refine r_aload_n E (dat dkL_waterOn 0 rfl) rfl rfl ?_
  refine r_iconst (v := 0) E (dat dkL_waterOn 1 rfl) rfl ?_
  refine r_aload_n E (dat dkL_waterOn 2 rfl) rfl rfl ?_
  refine r_iload_n E (dat dkL_waterOn 3 rfl) rfl rfl ?_
  refine r_callVC (κ := 8) (μ := []) E (htab.trans rfl) hM my_X9_waterOn iv_X9_waterOn ml_L_15 cm_KO ⟨by decide, rfl, rfl⟩ rfl rfl rfl rfl (by decide) (Nat.le_of_ble_eq_true rfl) (dat dkL_waterOn 4 rfl) ?_ ?_
  · intro Ex M' hp
    obtain ⟨z1, z2, z3, z4, z5, z6, z7, z8, c1, c2, c3⟩ := E.2.2.2.2.2.2.2.1.2.2.2.2
    rcases hX Ex M' hp with rfl
    · refine ⟨_, loX_m, 12, ⟨[], ⟨0, 9, 12, 13⟩, [], "java/lang/IndexOutOfBoundsException", rfl, (fun z hz => (nomatch hz)), rfl, by decide, bg_4 78 (by decide +kernel), nw_4 90 (by decide +kernel), rfl⟩, fun q => ?_⟩
      refine r_astX (i := 3) E (dat dkL_waterOn 8 rfl) rfl (Nat.le_of_ble_eq_true rfl) rfl (hc_of 2 rfl rfl) rfl ?_
      refine r_iconst (v := 1) E (dat dkL_waterOn 9 rfl) rfl ?_
      exact r_ireturn E (dat dkL_waterOn 10 rfl) (by decide) (by decide) (Or.inr (⟨M', hp, rfl, rfl⟩))
  · intro r M' hp
    obtain ⟨v, rfl⟩ := hr r M' hp
    refine ⟨_, loX_m, ?_⟩
    refine r_i2l E (dat dkL_waterOn 5 rfl) ?_
    refine r_last (N := 1) (x := v) E (dat dkL_waterOn 6 rfl) rfl rfl (by unfold vp_in; decide) rfl ?_
    refine r_goto (tgt := 15) E (dat dkL_waterOn 7 rfl) rfl ?_
    refine r_iconst (v := 0) E (dat dkL_waterOn 11 rfl) rfl ?_
    exact r_ireturn E (dat dkL_waterOn 12 rfl) (by decide) (by decide) (Or.inl ⟨v, M', hp, rfl, rfl⟩)
set_option maxHeartbeats 4000000 in
theorem sp_L_levelOf (l : Launch) (G : GT) (a : Int32) (M : Mem) (post : Option AV → Mem → Prop) (XP : String → Mem → Prop) (hM : MCx l G yX9_levelOf cX9_levelOf 2 (some .int) ({ frames := 7, cells := 4, slots := 24, locals := 103 } : Room) KC lkC [rv 0 0, iv a] M post XP) (hr : ∀ r M', post r M' → ∃ v, r = some (iv v)) (hX : ∀ Ex M', XP Ex M' → Ex = oobN) : MCw l G yL_levelOf cL_levelOf 4 (some .int) [(0, 9, 12, 13)] ({ frames := 8, cells := 4, slots := 24, locals := 124 } : Room) KO lkC [rv 0 0, iv a, rv 19 0] M (fun r M2 => (∃ v M', post (some (iv v)) M' ∧ r = some (iv 0) ∧ M2 = loV M M' v) ∨ (∃ M', XP oobN M' ∧ r = some (iv 1) ∧ M2 = loX M M')) := by
  refine MCw.of RL [some (rv 0 0), some (iv a), some (rv 19 0), none] 1 (by decide +kernel) rfl rfl rfl ?_
  intro pp ee ss mm aa bb me cd ad E htab
  refine r_aload_n E (dat dkL_levelOf 0 rfl) rfl rfl ?_
  refine r_iconst (v := 0) E (dat dkL_levelOf 1 rfl) rfl ?_
  refine r_aload_n E (dat dkL_levelOf 2 rfl) rfl rfl ?_
  refine r_iload_n E (dat dkL_levelOf 3 rfl) rfl rfl ?_
  refine r_callVC (κ := 8) (μ := []) E (htab.trans rfl) hM my_X9_levelOf iv_X9_levelOf ml_L_18 cm_KO ⟨by decide, rfl, rfl⟩ rfl rfl rfl rfl (by decide) (Nat.le_of_ble_eq_true rfl) (dat dkL_levelOf 4 rfl) ?_ ?_
  · intro Ex M' hp
    obtain ⟨z1, z2, z3, z4, z5, z6, z7, z8, c1, c2, c3⟩ := E.2.2.2.2.2.2.2.1.2.2.2.2
    rcases hX Ex M' hp with rfl
    · refine ⟨_, loX_m, 12, ⟨[], ⟨0, 9, 12, 13⟩, [], "java/lang/IndexOutOfBoundsException", rfl, (fun z hz => (nomatch hz)), rfl, by decide, bg_4 78 (by decide +kernel), nw_4 90 (by decide +kernel), rfl⟩, fun q => ?_⟩
      refine r_astX (i := 3) E (dat dkL_levelOf 8 rfl) rfl (Nat.le_of_ble_eq_true rfl) rfl (hc_of 2 rfl rfl) rfl ?_
      refine r_iconst (v := 1) E (dat dkL_levelOf 9 rfl) rfl ?_
      exact r_ireturn E (dat dkL_levelOf 10 rfl) (by decide) (by decide) (Or.inr (⟨M', hp, rfl, rfl⟩))
  · intro r M' hp
    obtain ⟨v, rfl⟩ := hr r M' hp
    refine ⟨_, loX_m, ?_⟩
    refine r_i2l E (dat dkL_levelOf 5 rfl) ?_
    refine r_last (N := 1) (x := v) E (dat dkL_levelOf 6 rfl) rfl rfl (by unfold vp_in; decide) rfl ?_
    refine r_goto (tgt := 15) E (dat dkL_levelOf 7 rfl) rfl ?_
    refine r_iconst (v := 0) E (dat dkL_levelOf 11 rfl) rfl ?_
    exact r_ireturn E (dat dkL_levelOf 12 rfl) (by decide) (by decide) (Or.inl ⟨v, M', hp, rfl, rfl⟩)
set_option maxHeartbeats 4000000 in
theorem sp_L_leavesOn (l : Launch) (G : GT) (a : Int32) (M : Mem) (post : Option AV → Mem → Prop) (XP : String → Mem → Prop) (hM : MCx l G yX9_leavesOn cX9_leavesOn 2 (some .int) ({ frames := 7, cells := 4, slots := 24, locals := 103 } : Room) KC lkC [rv 0 0, iv a] M post XP) (hr : ∀ r M', post r M' → ∃ v, r = some (iv v)) (hX : ∀ Ex M', XP Ex M' → Ex = oobN) : MCw l G yL_leavesOn cL_leavesOn 4 (some .int) [(0, 9, 12, 13)] ({ frames := 8, cells := 4, slots := 24, locals := 124 } : Room) KO lkC [rv 0 0, iv a, rv 19 0] M (fun r M2 => (∃ v M', post (some (iv v)) M' ∧ r = some (iv 0) ∧ M2 = loV M M' v) ∨ (∃ M', XP oobN M' ∧ r = some (iv 1) ∧ M2 = loX M M')) := by
  refine MCw.of RL [some (rv 0 0), some (iv a), some (rv 19 0), none] 1 (by decide +kernel) rfl rfl rfl ?_
  intro pp ee ss mm aa bb me cd ad E htab
  refine r_aload_n E (dat dkL_leavesOn 0 rfl) rfl rfl ?_
  refine r_iconst (v := 0) E (dat dkL_leavesOn 1 rfl) rfl ?_
  refine r_aload_n E (dat dkL_leavesOn 2 rfl) rfl rfl ?_
  refine r_iload_n E (dat dkL_leavesOn 3 rfl) rfl rfl ?_
  refine r_callVC (κ := 8) (μ := []) E (htab.trans rfl) hM my_X9_leavesOn iv_X9_leavesOn ml_L_21 cm_KO ⟨by decide, rfl, rfl⟩ rfl rfl rfl rfl (by decide) (Nat.le_of_ble_eq_true rfl) (dat dkL_leavesOn 4 rfl) ?_ ?_
  · intro Ex M' hp
    obtain ⟨z1, z2, z3, z4, z5, z6, z7, z8, c1, c2, c3⟩ := E.2.2.2.2.2.2.2.1.2.2.2.2
    rcases hX Ex M' hp with rfl
    · refine ⟨_, loX_m, 12, ⟨[], ⟨0, 9, 12, 13⟩, [], "java/lang/IndexOutOfBoundsException", rfl, (fun z hz => (nomatch hz)), rfl, by decide, bg_4 78 (by decide +kernel), nw_4 90 (by decide +kernel), rfl⟩, fun q => ?_⟩
      refine r_astX (i := 3) E (dat dkL_leavesOn 8 rfl) rfl (Nat.le_of_ble_eq_true rfl) rfl (hc_of 2 rfl rfl) rfl ?_
      refine r_iconst (v := 1) E (dat dkL_leavesOn 9 rfl) rfl ?_
      exact r_ireturn E (dat dkL_leavesOn 10 rfl) (by decide) (by decide) (Or.inr (⟨M', hp, rfl, rfl⟩))
  · intro r M' hp
    obtain ⟨v, rfl⟩ := hr r M' hp
    refine ⟨_, loX_m, ?_⟩
    refine r_i2l E (dat dkL_leavesOn 5 rfl) ?_
    refine r_last (N := 1) (x := v) E (dat dkL_leavesOn 6 rfl) rfl rfl (by unfold vp_in; decide) rfl ?_
    refine r_goto (tgt := 15) E (dat dkL_leavesOn 7 rfl) rfl ?_
    refine r_iconst (v := 0) E (dat dkL_leavesOn 11 rfl) rfl ?_
    exact r_ireturn E (dat dkL_leavesOn 12 rfl) (by decide) (by decide) (Or.inl ⟨v, M', hp, rfl, rfl⟩)
set_option maxHeartbeats 4000000 in
theorem sp_L_gutterCapacity (l : Launch) (G : GT) (a : Int32) (M : Mem) (post : Option AV → Mem → Prop) (XP : String → Mem → Prop) (hM : MCx l G yX9_gutterCapacity cX9_gutterCapacity 2 (some .int) ({ frames := 7, cells := 4, slots := 24, locals := 103 } : Room) KC lkC [rv 0 0, iv a] M post XP) (hr : ∀ r M', post r M' → ∃ v, r = some (iv v)) (hX : ∀ Ex M', XP Ex M' → Ex = oobN) : MCw l G yL_gutterCapacity cL_gutterCapacity 4 (some .int) [(0, 9, 12, 13)] ({ frames := 8, cells := 4, slots := 24, locals := 124 } : Room) KO lkC [rv 0 0, iv a, rv 19 0] M (fun r M2 => (∃ v M', post (some (iv v)) M' ∧ r = some (iv 0) ∧ M2 = loV M M' v) ∨ (∃ M', XP oobN M' ∧ r = some (iv 1) ∧ M2 = loX M M')) := by
  refine MCw.of RL [some (rv 0 0), some (iv a), some (rv 19 0), none] 1 (by decide +kernel) rfl rfl rfl ?_
  intro pp ee ss mm aa bb me cd ad E htab
  refine r_aload_n E (dat dkL_gutterCapacity 0 rfl) rfl rfl ?_
  refine r_iconst (v := 0) E (dat dkL_gutterCapacity 1 rfl) rfl ?_
  refine r_aload_n E (dat dkL_gutterCapacity 2 rfl) rfl rfl ?_
  refine r_iload_n E (dat dkL_gutterCapacity 3 rfl) rfl rfl ?_
  refine r_callVC (κ := 8) (μ := []) E (htab.trans rfl) hM my_X9_gutterCapacity iv_X9_gutterCapacity ml_L_24 cm_KO ⟨by decide, rfl, rfl⟩ rfl rfl rfl rfl (by decide) (Nat.le_of_ble_eq_true rfl) (dat dkL_gutterCapacity 4 rfl) ?_ ?_
  · intro Ex M' hp
    obtain ⟨z1, z2, z3, z4, z5, z6, z7, z8, c1, c2, c3⟩ := E.2.2.2.2.2.2.2.1.2.2.2.2
    rcases hX Ex M' hp with rfl
    · refine ⟨_, loX_m, 12, ⟨[], ⟨0, 9, 12, 13⟩, [], "java/lang/IndexOutOfBoundsException", rfl, (fun z hz => (nomatch hz)), rfl, by decide, bg_4 78 (by decide +kernel), nw_4 90 (by decide +kernel), rfl⟩, fun q => ?_⟩
      refine r_astX (i := 3) E (dat dkL_gutterCapacity 8 rfl) rfl (Nat.le_of_ble_eq_true rfl) rfl (hc_of 2 rfl rfl) rfl ?_
      refine r_iconst (v := 1) E (dat dkL_gutterCapacity 9 rfl) rfl ?_
      exact r_ireturn E (dat dkL_gutterCapacity 10 rfl) (by decide) (by decide) (Or.inr (⟨M', hp, rfl, rfl⟩))
  · intro r M' hp
    obtain ⟨v, rfl⟩ := hr r M' hp
    refine ⟨_, loX_m, ?_⟩
    refine r_i2l E (dat dkL_gutterCapacity 5 rfl) ?_
    refine r_last (N := 1) (x := v) E (dat dkL_gutterCapacity 6 rfl) rfl rfl (by unfold vp_in; decide) rfl ?_
    refine r_goto (tgt := 15) E (dat dkL_gutterCapacity 7 rfl) rfl ?_
    refine r_iconst (v := 0) E (dat dkL_gutterCapacity 11 rfl) rfl ?_
    exact r_ireturn E (dat dkL_gutterCapacity 12 rfl) (by decide) (by decide) (Or.inl ⟨v, M', hp, rfl, rfl⟩)
set_option maxHeartbeats 4000000 in
theorem sp_L_gutterFlow (l : Launch) (G : GT) (a : Int32) (M : Mem) (post : Option AV → Mem → Prop) (XP : String → Mem → Prop) (hM : MCx l G yX9_gutterFlow cX9_gutterFlow 2 (some .int) ({ frames := 7, cells := 4, slots := 24, locals := 103 } : Room) KC lkC [rv 0 0, iv a] M post XP) (hr : ∀ r M', post r M' → ∃ v, r = some (iv v)) (hX : ∀ Ex M', XP Ex M' → Ex = oobN) : MCw l G yL_gutterFlow cL_gutterFlow 4 (some .int) [(0, 9, 12, 13)] ({ frames := 8, cells := 4, slots := 24, locals := 124 } : Room) KO lkC [rv 0 0, iv a, rv 19 0] M (fun r M2 => (∃ v M', post (some (iv v)) M' ∧ r = some (iv 0) ∧ M2 = loV M M' v) ∨ (∃ M', XP oobN M' ∧ r = some (iv 1) ∧ M2 = loX M M')) := by
  refine MCw.of RL [some (rv 0 0), some (iv a), some (rv 19 0), none] 1 (by decide +kernel) rfl rfl rfl ?_
  intro pp ee ss mm aa bb me cd ad E htab
  refine r_aload_n E (dat dkL_gutterFlow 0 rfl) rfl rfl ?_
  refine r_iconst (v := 0) E (dat dkL_gutterFlow 1 rfl) rfl ?_
  refine r_aload_n E (dat dkL_gutterFlow 2 rfl) rfl rfl ?_
  refine r_iload_n E (dat dkL_gutterFlow 3 rfl) rfl rfl ?_
  refine r_callVC (κ := 8) (μ := []) E (htab.trans rfl) hM my_X9_gutterFlow iv_X9_gutterFlow ml_L_27 cm_KO ⟨by decide, rfl, rfl⟩ rfl rfl rfl rfl (by decide) (Nat.le_of_ble_eq_true rfl) (dat dkL_gutterFlow 4 rfl) ?_ ?_
  · intro Ex M' hp
    obtain ⟨z1, z2, z3, z4, z5, z6, z7, z8, c1, c2, c3⟩ := E.2.2.2.2.2.2.2.1.2.2.2.2
    rcases hX Ex M' hp with rfl
    · refine ⟨_, loX_m, 12, ⟨[], ⟨0, 9, 12, 13⟩, [], "java/lang/IndexOutOfBoundsException", rfl, (fun z hz => (nomatch hz)), rfl, by decide, bg_4 78 (by decide +kernel), nw_4 90 (by decide +kernel), rfl⟩, fun q => ?_⟩
      refine r_astX (i := 3) E (dat dkL_gutterFlow 8 rfl) rfl (Nat.le_of_ble_eq_true rfl) rfl (hc_of 2 rfl rfl) rfl ?_
      refine r_iconst (v := 1) E (dat dkL_gutterFlow 9 rfl) rfl ?_
      exact r_ireturn E (dat dkL_gutterFlow 10 rfl) (by decide) (by decide) (Or.inr (⟨M', hp, rfl, rfl⟩))
  · intro r M' hp
    obtain ⟨v, rfl⟩ := hr r M' hp
    refine ⟨_, loX_m, ?_⟩
    refine r_i2l E (dat dkL_gutterFlow 5 rfl) ?_
    refine r_last (N := 1) (x := v) E (dat dkL_gutterFlow 6 rfl) rfl rfl (by unfold vp_in; decide) rfl ?_
    refine r_goto (tgt := 15) E (dat dkL_gutterFlow 7 rfl) rfl ?_
    refine r_iconst (v := 0) E (dat dkL_gutterFlow 11 rfl) rfl ?_
    exact r_ireturn E (dat dkL_gutterFlow 12 rfl) (by decide) (by decide) (Or.inl ⟨v, M', hp, rfl, rfl⟩)
set_option maxHeartbeats 4000000 in
theorem sp_L_isPlugged (l : Launch) (G : GT) (a : Int32) (M : Mem) (post : Option AV → Mem → Prop) (XP : String → Mem → Prop) (hM : MCx l G yX9_isPlugged cX9_isPlugged 2 (some .boolean) ({ frames := 7, cells := 4, slots := 24, locals := 103 } : Room) KC lkC [rv 0 0, iv a] M post XP) (hr : ∀ r M', post r M' → ∃ v, r = some (iv v)) (hX : ∀ Ex M', XP Ex M' → Ex = oobN) : MCw l G yL_isPlugged cL_isPlugged 4 (some .int) [(0, 16, 19, 13)] ({ frames := 8, cells := 4, slots := 24, locals := 124 } : Room) KO lkC [rv 0 0, iv a, rv 19 0] M (fun r M2 => (∃ v M', post (some (iv v)) M' ∧ r = some (iv 0) ∧ M2 = loV M M' (if v = 0 then 0 else 1)) ∨ (∃ M', XP oobN M' ∧ r = some (iv 1) ∧ M2 = loX M M')) := by
  refine MCw.of RL [some (rv 0 0), some (iv a), some (rv 19 0), none] 1 (by decide +kernel) rfl rfl rfl ?_
  intro pp ee ss mm aa bb me cd ad E htab
  refine r_aload_n E (dat dkL_isPlugged 0 rfl) rfl rfl ?_
  refine r_iconst (v := 0) E (dat dkL_isPlugged 1 rfl) rfl ?_
  refine r_aload_n E (dat dkL_isPlugged 2 rfl) rfl rfl ?_
  refine r_iload_n E (dat dkL_isPlugged 3 rfl) rfl rfl ?_
  refine r_callVC (κ := 8) (μ := []) E (htab.trans rfl) hM my_X9_isPlugged iv_X9_isPlugged ml_L_30 cm_KO ⟨by decide, rfl, rfl⟩ rfl rfl rfl rfl (by decide) (Nat.le_of_ble_eq_true rfl) (dat dkL_isPlugged 4 rfl) ?_ ?_
  · intro Ex M' hp
    obtain ⟨z1, z2, z3, z4, z5, z6, z7, z8, c1, c2, c3⟩ := E.2.2.2.2.2.2.2.1.2.2.2.2
    rcases hX Ex M' hp with rfl
    · refine ⟨_, loX_m, 19, ⟨[], ⟨0, 16, 19, 13⟩, [], "java/lang/IndexOutOfBoundsException", rfl, (fun z hz => (nomatch hz)), rfl, by decide, bg_4 78 (by decide +kernel), nw_4 90 (by decide +kernel), rfl⟩, fun q => ?_⟩
      refine r_astX (i := 3) E (dat dkL_isPlugged 11 rfl) rfl (Nat.le_of_ble_eq_true rfl) rfl (hc_of 2 rfl rfl) rfl ?_
      refine r_iconst (v := 1) E (dat dkL_isPlugged 12 rfl) rfl ?_
      exact r_ireturn E (dat dkL_isPlugged 13 rfl) (by decide) (by decide) (Or.inr (⟨M', hp, rfl, rfl⟩))
  · intro r M' hp
    obtain ⟨v, rfl⟩ := hr r M' hp
    refine ⟨_, loX_m, ?_⟩
    refine r_if_eq (tgt := 14) E (dat dkL_isPlugged 5 rfl) rfl (fun h0 => ?_) (fun h0 => ?_)
    · refine r_lconst (v := 0) E (dat dkL_isPlugged 8 rfl) rfl ?_
      refine r_last (N := 1) (x := 0) E (dat dkL_isPlugged 9 rfl) rfl rfl (by unfold vp_in; decide) rfl ?_
      refine r_goto (tgt := 22) E (dat dkL_isPlugged 10 rfl) rfl ?_
      refine r_iconst (v := 0) E (dat dkL_isPlugged 14 rfl) rfl ?_
      exact r_ireturn E (dat dkL_isPlugged 15 rfl) (by decide) (by decide) (Or.inl ⟨v, M', hp, rfl, by rw [if_pos (by assumption)]; rfl⟩)
    · refine r_lconst (v := 1) E (dat dkL_isPlugged 6 rfl) rfl ?_
      refine r_goto (tgt := 15) E (dat dkL_isPlugged 7 rfl) rfl ?_
      refine r_last (N := 1) (x := 1) E (dat dkL_isPlugged 9 rfl) rfl rfl (by unfold vp_in; decide) rfl ?_
      refine r_goto (tgt := 22) E (dat dkL_isPlugged 10 rfl) rfl ?_
      refine r_iconst (v := 0) E (dat dkL_isPlugged 14 rfl) rfl ?_
      exact r_ireturn E (dat dkL_isPlugged 15 rfl) (by decide) (by decide) (Or.inl ⟨v, M', hp, rfl, by rw [if_neg (by assumption)]; rfl⟩)
set_option maxHeartbeats 4000000 in
theorem sp_L_hydrantRate (l : Launch) (G : GT) (a : Int32) (M : Mem) (post : Option AV → Mem → Prop) (XP : String → Mem → Prop) (hM : MCx l G yX9_hydrantRate cX9_hydrantRate 2 (some .int) ({ frames := 7, cells := 4, slots := 24, locals := 103 } : Room) KC lkC [rv 0 0, iv a] M post XP) (hr : ∀ r M', post r M' → ∃ v, r = some (iv v)) (hX : ∀ Ex M', XP Ex M' → Ex = oobN) : MCw l G yL_hydrantRate cL_hydrantRate 4 (some .int) [(0, 9, 12, 13)] ({ frames := 8, cells := 4, slots := 24, locals := 124 } : Room) KO lkC [rv 0 0, iv a, rv 19 0] M (fun r M2 => (∃ v M', post (some (iv v)) M' ∧ r = some (iv 0) ∧ M2 = loV M M' v) ∨ (∃ M', XP oobN M' ∧ r = some (iv 1) ∧ M2 = loX M M')) := by
  refine MCw.of RL [some (rv 0 0), some (iv a), some (rv 19 0), none] 1 (by decide +kernel) rfl rfl rfl ?_
  intro pp ee ss mm aa bb me cd ad E htab
  refine r_aload_n E (dat dkL_hydrantRate 0 rfl) rfl rfl ?_
  refine r_iconst (v := 0) E (dat dkL_hydrantRate 1 rfl) rfl ?_
  refine r_aload_n E (dat dkL_hydrantRate 2 rfl) rfl rfl ?_
  refine r_iload_n E (dat dkL_hydrantRate 3 rfl) rfl rfl ?_
  refine r_callVC (κ := 8) (μ := []) E (htab.trans rfl) hM my_X9_hydrantRate iv_X9_hydrantRate ml_L_34 cm_KO ⟨by decide, rfl, rfl⟩ rfl rfl rfl rfl (by decide) (Nat.le_of_ble_eq_true rfl) (dat dkL_hydrantRate 4 rfl) ?_ ?_
  · intro Ex M' hp
    obtain ⟨z1, z2, z3, z4, z5, z6, z7, z8, c1, c2, c3⟩ := E.2.2.2.2.2.2.2.1.2.2.2.2
    rcases hX Ex M' hp with rfl
    · refine ⟨_, loX_m, 12, ⟨[], ⟨0, 9, 12, 13⟩, [], "java/lang/IndexOutOfBoundsException", rfl, (fun z hz => (nomatch hz)), rfl, by decide, bg_4 78 (by decide +kernel), nw_4 90 (by decide +kernel), rfl⟩, fun q => ?_⟩
      refine r_astX (i := 3) E (dat dkL_hydrantRate 8 rfl) rfl (Nat.le_of_ble_eq_true rfl) rfl (hc_of 2 rfl rfl) rfl ?_
      refine r_iconst (v := 1) E (dat dkL_hydrantRate 9 rfl) rfl ?_
      exact r_ireturn E (dat dkL_hydrantRate 10 rfl) (by decide) (by decide) (Or.inr (⟨M', hp, rfl, rfl⟩))
  · intro r M' hp
    obtain ⟨v, rfl⟩ := hr r M' hp
    refine ⟨_, loX_m, ?_⟩
    refine r_i2l E (dat dkL_hydrantRate 5 rfl) ?_
    refine r_last (N := 1) (x := v) E (dat dkL_hydrantRate 6 rfl) rfl rfl (by unfold vp_in; decide) rfl ?_
    refine r_goto (tgt := 15) E (dat dkL_hydrantRate 7 rfl) rfl ?_
    refine r_iconst (v := 0) E (dat dkL_hydrantRate 11 rfl) rfl ?_
    exact r_ireturn E (dat dkL_hydrantRate 12 rfl) (by decide) (by decide) (Or.inl ⟨v, M', hp, rfl, rfl⟩)
set_option maxHeartbeats 4000000 in
theorem sp_L_hydrantMinutes (l : Launch) (G : GT) (a : Int32) (M : Mem) (post : Option AV → Mem → Prop) (XP : String → Mem → Prop) (hM : MCx l G yX9_hydrantMinutes cX9_hydrantMinutes 2 (some .int) ({ frames := 7, cells := 4, slots := 24, locals := 103 } : Room) KC lkC [rv 0 0, iv a] M post XP) (hr : ∀ r M', post r M' → ∃ v, r = some (iv v)) (hX : ∀ Ex M', XP Ex M' → Ex = oobN) : MCw l G yL_hydrantMinutes cL_hydrantMinutes 4 (some .int) [(0, 9, 12, 13)] ({ frames := 8, cells := 4, slots := 24, locals := 124 } : Room) KO lkC [rv 0 0, iv a, rv 19 0] M (fun r M2 => (∃ v M', post (some (iv v)) M' ∧ r = some (iv 0) ∧ M2 = loV M M' v) ∨ (∃ M', XP oobN M' ∧ r = some (iv 1) ∧ M2 = loX M M')) := by
  refine MCw.of RL [some (rv 0 0), some (iv a), some (rv 19 0), none] 1 (by decide +kernel) rfl rfl rfl ?_
  intro pp ee ss mm aa bb me cd ad E htab
  refine r_aload_n E (dat dkL_hydrantMinutes 0 rfl) rfl rfl ?_
  refine r_iconst (v := 0) E (dat dkL_hydrantMinutes 1 rfl) rfl ?_
  refine r_aload_n E (dat dkL_hydrantMinutes 2 rfl) rfl rfl ?_
  refine r_iload_n E (dat dkL_hydrantMinutes 3 rfl) rfl rfl ?_
  refine r_callVC (κ := 8) (μ := []) E (htab.trans rfl) hM my_X9_hydrantMinutes iv_X9_hydrantMinutes ml_L_37 cm_KO ⟨by decide, rfl, rfl⟩ rfl rfl rfl rfl (by decide) (Nat.le_of_ble_eq_true rfl) (dat dkL_hydrantMinutes 4 rfl) ?_ ?_
  · intro Ex M' hp
    obtain ⟨z1, z2, z3, z4, z5, z6, z7, z8, c1, c2, c3⟩ := E.2.2.2.2.2.2.2.1.2.2.2.2
    rcases hX Ex M' hp with rfl
    · refine ⟨_, loX_m, 12, ⟨[], ⟨0, 9, 12, 13⟩, [], "java/lang/IndexOutOfBoundsException", rfl, (fun z hz => (nomatch hz)), rfl, by decide, bg_4 78 (by decide +kernel), nw_4 90 (by decide +kernel), rfl⟩, fun q => ?_⟩
      refine r_astX (i := 3) E (dat dkL_hydrantMinutes 8 rfl) rfl (Nat.le_of_ble_eq_true rfl) rfl (hc_of 2 rfl rfl) rfl ?_
      refine r_iconst (v := 1) E (dat dkL_hydrantMinutes 9 rfl) rfl ?_
      exact r_ireturn E (dat dkL_hydrantMinutes 10 rfl) (by decide) (by decide) (Or.inr (⟨M', hp, rfl, rfl⟩))
  · intro r M' hp
    obtain ⟨v, rfl⟩ := hr r M' hp
    refine ⟨_, loX_m, ?_⟩
    refine r_i2l E (dat dkL_hydrantMinutes 5 rfl) ?_
    refine r_last (N := 1) (x := v) E (dat dkL_hydrantMinutes 6 rfl) rfl rfl (by unfold vp_in; decide) rfl ?_
    refine r_goto (tgt := 15) E (dat dkL_hydrantMinutes 7 rfl) rfl ?_
    refine r_iconst (v := 0) E (dat dkL_hydrantMinutes 11 rfl) rfl ?_
    exact r_ireturn E (dat dkL_hydrantMinutes 12 rfl) (by decide) (by decide) (Or.inl ⟨v, M', hp, rfl, rfl⟩)
set_option maxHeartbeats 4000000 in
theorem sp_L_flowsTo (l : Launch) (G : GT) (a : Int32) (M : Mem) (post : Option AV → Mem → Prop) (XP : String → Mem → Prop) (hM : MCx l G yX9_flowsTo cX9_flowsTo 3 (some .int) ({ frames := 7, cells := 4, slots := 24, locals := 103 } : Room) KC lkC [rv 0 0, iv a] M post XP) (hr : ∀ r M', post r M' → ∃ v, r = some (iv v)) (hX : ∀ Ex M', XP Ex M' → Ex = oobN) : MCw l G yL_flowsTo cL_flowsTo 4 (some .int) [(0, 9, 12, 13)] ({ frames := 8, cells := 4, slots := 24, locals := 125 } : Room) KO lkC [rv 0 0, iv a, rv 19 0] M (fun r M2 => (∃ v M', post (some (iv v)) M' ∧ r = some (iv 0) ∧ M2 = loV M M' v) ∨ (∃ M', XP oobN M' ∧ r = some (iv 1) ∧ M2 = loX M M')) := by
  refine MCw.of RL [some (rv 0 0), some (iv a), some (rv 19 0), none] 1 (by decide +kernel) rfl rfl rfl ?_
  intro pp ee ss mm aa bb me cd ad E htab
  refine r_aload_n E (dat dkL_flowsTo 0 rfl) rfl rfl ?_
  refine r_iconst (v := 0) E (dat dkL_flowsTo 1 rfl) rfl ?_
  refine r_aload_n E (dat dkL_flowsTo 2 rfl) rfl rfl ?_
  refine r_iload_n E (dat dkL_flowsTo 3 rfl) rfl rfl ?_
  refine r_callVC (κ := 8) (μ := []) E (htab.trans rfl) hM my_X9_flowsTo iv_X9_flowsTo ml_L_40 cm_KO ⟨by decide, rfl, rfl⟩ rfl rfl rfl rfl (by decide) (Nat.le_of_ble_eq_true rfl) (dat dkL_flowsTo 4 rfl) ?_ ?_
  · intro Ex M' hp
    obtain ⟨z1, z2, z3, z4, z5, z6, z7, z8, c1, c2, c3⟩ := E.2.2.2.2.2.2.2.1.2.2.2.2
    rcases hX Ex M' hp with rfl
    · refine ⟨_, loX_m, 12, ⟨[], ⟨0, 9, 12, 13⟩, [], "java/lang/IndexOutOfBoundsException", rfl, (fun z hz => (nomatch hz)), rfl, by decide, bg_4 78 (by decide +kernel), nw_4 90 (by decide +kernel), rfl⟩, fun q => ?_⟩
      refine r_astX (i := 3) E (dat dkL_flowsTo 8 rfl) rfl (Nat.le_of_ble_eq_true rfl) rfl (hc_of 2 rfl rfl) rfl ?_
      refine r_iconst (v := 1) E (dat dkL_flowsTo 9 rfl) rfl ?_
      exact r_ireturn E (dat dkL_flowsTo 10 rfl) (by decide) (by decide) (Or.inr (⟨M', hp, rfl, rfl⟩))
  · intro r M' hp
    obtain ⟨v, rfl⟩ := hr r M' hp
    refine ⟨_, loX_m, ?_⟩
    refine r_i2l E (dat dkL_flowsTo 5 rfl) ?_
    refine r_last (N := 1) (x := v) E (dat dkL_flowsTo 6 rfl) rfl rfl (by unfold vp_in; decide) rfl ?_
    refine r_goto (tgt := 15) E (dat dkL_flowsTo 7 rfl) rfl ?_
    refine r_iconst (v := 0) E (dat dkL_flowsTo 11 rfl) rfl ?_
    exact r_ireturn E (dat dkL_flowsTo 12 rfl) (by decide) (by decide) (Or.inl ⟨v, M', hp, rfl, rfl⟩)
set_option maxHeartbeats 4000000 in
theorem sp_L_flowFrom (l : Launch) (G : GT) (a : Int32) (M : Mem) (post : Option AV → Mem → Prop) (XP : String → Mem → Prop) (hM : MCx l G yX9_flowFrom cX9_flowFrom 2 (some .int) ({ frames := 7, cells := 4, slots := 24, locals := 103 } : Room) KC lkC [rv 0 0, iv a] M post XP) (hr : ∀ r M', post r M' → ∃ v, r = some (iv v)) (hX : ∀ Ex M', XP Ex M' → Ex = oobN) : MCw l G yL_flowFrom cL_flowFrom 4 (some .int) [(0, 9, 12, 13)] ({ frames := 8, cells := 4, slots := 24, locals := 124 } : Room) KO lkC [rv 0 0, iv a, rv 19 0] M (fun r M2 => (∃ v M', post (some (iv v)) M' ∧ r = some (iv 0) ∧ M2 = loV M M' v) ∨ (∃ M', XP oobN M' ∧ r = some (iv 1) ∧ M2 = loX M M')) := by
  refine MCw.of RL [some (rv 0 0), some (iv a), some (rv 19 0), none] 1 (by decide +kernel) rfl rfl rfl ?_
  intro pp ee ss mm aa bb me cd ad E htab
  refine r_aload_n E (dat dkL_flowFrom 0 rfl) rfl rfl ?_
  refine r_iconst (v := 0) E (dat dkL_flowFrom 1 rfl) rfl ?_
  refine r_aload_n E (dat dkL_flowFrom 2 rfl) rfl rfl ?_
  refine r_iload_n E (dat dkL_flowFrom 3 rfl) rfl rfl ?_
  refine r_callVC (κ := 8) (μ := []) E (htab.trans rfl) hM my_X9_flowFrom iv_X9_flowFrom ml_L_43 cm_KO ⟨by decide, rfl, rfl⟩ rfl rfl rfl rfl (by decide) (Nat.le_of_ble_eq_true rfl) (dat dkL_flowFrom 4 rfl) ?_ ?_
  · intro Ex M' hp
    obtain ⟨z1, z2, z3, z4, z5, z6, z7, z8, c1, c2, c3⟩ := E.2.2.2.2.2.2.2.1.2.2.2.2
    rcases hX Ex M' hp with rfl
    · refine ⟨_, loX_m, 12, ⟨[], ⟨0, 9, 12, 13⟩, [], "java/lang/IndexOutOfBoundsException", rfl, (fun z hz => (nomatch hz)), rfl, by decide, bg_4 78 (by decide +kernel), nw_4 90 (by decide +kernel), rfl⟩, fun q => ?_⟩
      refine r_astX (i := 3) E (dat dkL_flowFrom 8 rfl) rfl (Nat.le_of_ble_eq_true rfl) rfl (hc_of 2 rfl rfl) rfl ?_
      refine r_iconst (v := 1) E (dat dkL_flowFrom 9 rfl) rfl ?_
      exact r_ireturn E (dat dkL_flowFrom 10 rfl) (by decide) (by decide) (Or.inr (⟨M', hp, rfl, rfl⟩))
  · intro r M' hp
    obtain ⟨v, rfl⟩ := hr r M' hp
    refine ⟨_, loX_m, ?_⟩
    refine r_i2l E (dat dkL_flowFrom 5 rfl) ?_
    refine r_last (N := 1) (x := v) E (dat dkL_flowFrom 6 rfl) rfl rfl (by unfold vp_in; decide) rfl ?_
    refine r_goto (tgt := 15) E (dat dkL_flowFrom 7 rfl) rfl ?_
    refine r_iconst (v := 0) E (dat dkL_flowFrom 11 rfl) rfl ?_
    exact r_ireturn E (dat dkL_flowFrom 12 rfl) (by decide) (by decide) (Or.inl ⟨v, M', hp, rfl, rfl⟩)
set_option maxHeartbeats 4000000 in
theorem sp_L_neighbour (l : Launch) (G : GT) (a b : Int32) (M : Mem) (post : Option AV → Mem → Prop) (XP : String → Mem → Prop) (hM : MCx l G yX9_neighbour cX9_neighbour 3 (some .int) ({ frames := 7, cells := 8, slots := 48, locals := 104 } : Room) KC lkC [rv 0 0, iv a, iv b] M post XP) (hr : ∀ r M', post r M' → ∃ v, r = some (iv v)) (hX : ∀ Ex M', XP Ex M' → Ex = oobN ∨ Ex = argN) : MCw l G yL_neighbour cL_neighbour 5 (some .int) [(0, 10, 13, 13), (0, 10, 17, 50)] ({ frames := 8, cells := 8, slots := 48, locals := 126 } : Room) KO lkC [rv 0 0, iv a, iv b, rv 19 0] M (fun r M2 => (∃ v M', post (some (iv v)) M' ∧ r = some (iv 0) ∧ M2 = loV M M' v) ∨ (∃ M', XP oobN M' ∧ r = some (iv 1) ∧ M2 = loX M M') ∨ (∃ M', XP argN M' ∧ r = some (iv 2) ∧ M2 = loX M M')) := by
  refine MCw.of RL [some (rv 0 0), some (iv a), some (iv b), some (rv 19 0), none] 1 (by decide +kernel) rfl rfl rfl ?_
  intro pp ee ss mm aa bb me cd ad E htab
  refine r_aload_n E (dat dkL_neighbour 0 rfl) rfl rfl ?_
  refine r_iconst (v := 0) E (dat dkL_neighbour 1 rfl) rfl ?_
  refine r_aload_n E (dat dkL_neighbour 2 rfl) rfl rfl ?_
  refine r_iload_n E (dat dkL_neighbour 3 rfl) rfl rfl ?_
  refine r_iload_n E (dat dkL_neighbour 4 rfl) rfl rfl ?_
  refine r_callVC (κ := 8) (μ := []) E (htab.trans rfl) hM my_X9_neighbour iv_X9_neighbour ml_L_46 cm_KO ⟨by decide, rfl, rfl⟩ rfl rfl rfl rfl (by decide) (Nat.le_of_ble_eq_true rfl) (dat dkL_neighbour 5 rfl) ?_ ?_
  · intro Ex M' hp
    obtain ⟨z1, z2, z3, z4, z5, z6, z7, z8, c1, c2, c3⟩ := E.2.2.2.2.2.2.2.1.2.2.2.2
    rcases hX Ex M' hp with rfl | rfl
    · refine ⟨_, loX_m, 13, ⟨[], ⟨0, 10, 13, 13⟩, [⟨0, 10, 17, 50⟩], "java/lang/IndexOutOfBoundsException", rfl, (fun z hz => (nomatch hz)), rfl, by decide, bg_4 78 (by decide +kernel), nw_4 90 (by decide +kernel), rfl⟩, fun q => ?_⟩
      refine r_astX4 (i := 4) E (dat dkL_neighbour 9 rfl) (Nat.le_of_ble_eq_true rfl) rfl (hc_of 3 rfl rfl) rfl ?_
      refine r_iconst (v := 1) E (dat dkL_neighbour 10 rfl) rfl ?_
      exact r_ireturn E (dat dkL_neighbour 11 rfl) (by decide) (by decide) (Or.inr (Or.inl ⟨M', hp, rfl, rfl⟩))
    · refine ⟨_, loX_m, 17, ⟨[⟨0, 10, 13, 13⟩], ⟨0, 10, 17, 50⟩, [], "java/lang/IllegalArgumentException", rfl, (fun z hz => by cases List.mem_singleton.mp hz; exact Or.inr ⟨by decide, _, bg_4 78 (by decide +kernel), c1⟩), rfl, by decide, bg_4 232 (by decide +kernel), nw_5 2 (by decide +kernel), rfl⟩, fun q => ?_⟩
      refine r_astX4 (i := 4) E (dat dkL_neighbour 12 rfl) (Nat.le_of_ble_eq_true rfl) rfl (hc_of 3 rfl rfl) rfl ?_
      refine r_iconst (v := 2) E (dat dkL_neighbour 13 rfl) rfl ?_
      exact r_ireturn E (dat dkL_neighbour 14 rfl) (by decide) (by decide) (Or.inr (Or.inr (⟨M', hp, rfl, rfl⟩)))
  · intro r M' hp
    obtain ⟨v, rfl⟩ := hr r M' hp
    refine ⟨_, loX_m, ?_⟩
    refine r_i2l E (dat dkL_neighbour 6 rfl) ?_
    refine r_last (N := 1) (x := v) E (dat dkL_neighbour 7 rfl) rfl rfl (by unfold vp_in; decide) rfl ?_
    refine r_goto (tgt := 21) E (dat dkL_neighbour 8 rfl) rfl ?_
    refine r_iconst (v := 0) E (dat dkL_neighbour 15 rfl) rfl ?_
    exact r_ireturn E (dat dkL_neighbour 16 rfl) (by decide) (by decide) (Or.inl ⟨v, M', hp, rfl, rfl⟩)
set_option maxHeartbeats 4000000 in
theorem sp_L_puddleOf (l : Launch) (G : GT) (a : Int32) (M : Mem) (post : Option AV → Mem → Prop) (XP : String → Mem → Prop) (hM : MCx l G yX9_puddleOf cX9_puddleOf 2 (some .int) ({ frames := 7, cells := 4, slots := 24, locals := 103 } : Room) KC lkC [rv 0 0, iv a] M post XP) (hr : ∀ r M', post r M' → ∃ v, r = some (iv v)) (hX : ∀ Ex M', XP Ex M' → Ex = oobN) : MCw l G yL_puddleOf cL_puddleOf 4 (some .int) [(0, 9, 12, 13)] ({ frames := 8, cells := 4, slots := 24, locals := 124 } : Room) KO lkC [rv 0 0, iv a, rv 19 0] M (fun r M2 => (∃ v M', post (some (iv v)) M' ∧ r = some (iv 0) ∧ M2 = loV M M' v) ∨ (∃ M', XP oobN M' ∧ r = some (iv 1) ∧ M2 = loX M M')) := by
  refine MCw.of RL [some (rv 0 0), some (iv a), some (rv 19 0), none] 1 (by decide +kernel) rfl rfl rfl ?_
  intro pp ee ss mm aa bb me cd ad E htab
  refine r_aload_n E (dat dkL_puddleOf 0 rfl) rfl rfl ?_
  refine r_iconst (v := 0) E (dat dkL_puddleOf 1 rfl) rfl ?_
  refine r_aload_n E (dat dkL_puddleOf 2 rfl) rfl rfl ?_
  refine r_iload_n E (dat dkL_puddleOf 3 rfl) rfl rfl ?_
  refine r_callVC (κ := 8) (μ := []) E (htab.trans rfl) hM my_X9_puddleOf iv_X9_puddleOf ml_L_52 cm_KO ⟨by decide, rfl, rfl⟩ rfl rfl rfl rfl (by decide) (Nat.le_of_ble_eq_true rfl) (dat dkL_puddleOf 4 rfl) ?_ ?_
  · intro Ex M' hp
    obtain ⟨z1, z2, z3, z4, z5, z6, z7, z8, c1, c2, c3⟩ := E.2.2.2.2.2.2.2.1.2.2.2.2
    rcases hX Ex M' hp with rfl
    · refine ⟨_, loX_m, 12, ⟨[], ⟨0, 9, 12, 13⟩, [], "java/lang/IndexOutOfBoundsException", rfl, (fun z hz => (nomatch hz)), rfl, by decide, bg_4 78 (by decide +kernel), nw_4 90 (by decide +kernel), rfl⟩, fun q => ?_⟩
      refine r_astX (i := 3) E (dat dkL_puddleOf 8 rfl) rfl (Nat.le_of_ble_eq_true rfl) rfl (hc_of 2 rfl rfl) rfl ?_
      refine r_iconst (v := 1) E (dat dkL_puddleOf 9 rfl) rfl ?_
      exact r_ireturn E (dat dkL_puddleOf 10 rfl) (by decide) (by decide) (Or.inr (⟨M', hp, rfl, rfl⟩))
  · intro r M' hp
    obtain ⟨v, rfl⟩ := hr r M' hp
    refine ⟨_, loX_m, ?_⟩
    refine r_i2l E (dat dkL_puddleOf 5 rfl) ?_
    refine r_last (N := 1) (x := v) E (dat dkL_puddleOf 6 rfl) rfl rfl (by unfold vp_in; decide) rfl ?_
    refine r_goto (tgt := 15) E (dat dkL_puddleOf 7 rfl) rfl ?_
    refine r_iconst (v := 0) E (dat dkL_puddleOf 11 rfl) rfl ?_
    exact r_ireturn E (dat dkL_puddleOf 12 rfl) (by decide) (by decide) (Or.inl ⟨v, M', hp, rfl, rfl⟩)
set_option maxHeartbeats 4000000 in
theorem sp_L_puddleSize (l : Launch) (G : GT) (a : Int32) (M : Mem) (post : Option AV → Mem → Prop) (XP : String → Mem → Prop) (hM : MCx l G yX9_puddleSize cX9_puddleSize 2 (some .int) ({ frames := 7, cells := 8, slots := 48, locals := 115 } : Room) KC lkC [rv 0 0, iv a] M post XP) (hr : ∀ r M', post r M' → ∃ v, r = some (iv v)) (hX : ∀ Ex M', XP Ex M' → Ex = oobN) : MCw l G yL_puddleSize cL_puddleSize 4 (some .int) [(0, 9, 12, 13)] ({ frames := 8, cells := 8, slots := 48, locals := 136 } : Room) KO lkC [rv 0 0, iv a, rv 19 0] M (fun r M2 => (∃ v M', post (some (iv v)) M' ∧ r = some (iv 0) ∧ M2 = loV M M' v) ∨ (∃ M', XP oobN M' ∧ r = some (iv 1) ∧ M2 = loX M M')) := by
  refine MCw.of RL [some (rv 0 0), some (iv a), some (rv 19 0), none] 1 (by decide +kernel) rfl rfl rfl ?_
  intro pp ee ss mm aa bb me cd ad E htab
  refine r_aload_n E (dat dkL_puddleSize 0 rfl) rfl rfl ?_
  refine r_iconst (v := 0) E (dat dkL_puddleSize 1 rfl) rfl ?_
  refine r_aload_n E (dat dkL_puddleSize 2 rfl) rfl rfl ?_
  refine r_iload_n E (dat dkL_puddleSize 3 rfl) rfl rfl ?_
  refine r_callVC (κ := 8) (μ := []) E (htab.trans rfl) hM my_X9_puddleSize iv_X9_puddleSize ml_L_55 cm_KO ⟨by decide, rfl, rfl⟩ rfl rfl rfl rfl (by decide) (Nat.le_of_ble_eq_true rfl) (dat dkL_puddleSize 4 rfl) ?_ ?_
  · intro Ex M' hp
    obtain ⟨z1, z2, z3, z4, z5, z6, z7, z8, c1, c2, c3⟩ := E.2.2.2.2.2.2.2.1.2.2.2.2
    rcases hX Ex M' hp with rfl
    · refine ⟨_, loX_m, 12, ⟨[], ⟨0, 9, 12, 13⟩, [], "java/lang/IndexOutOfBoundsException", rfl, (fun z hz => (nomatch hz)), rfl, by decide, bg_4 78 (by decide +kernel), nw_4 90 (by decide +kernel), rfl⟩, fun q => ?_⟩
      refine r_astX (i := 3) E (dat dkL_puddleSize 8 rfl) rfl (Nat.le_of_ble_eq_true rfl) rfl (hc_of 2 rfl rfl) rfl ?_
      refine r_iconst (v := 1) E (dat dkL_puddleSize 9 rfl) rfl ?_
      exact r_ireturn E (dat dkL_puddleSize 10 rfl) (by decide) (by decide) (Or.inr (⟨M', hp, rfl, rfl⟩))
  · intro r M' hp
    obtain ⟨v, rfl⟩ := hr r M' hp
    refine ⟨_, loX_m, ?_⟩
    refine r_i2l E (dat dkL_puddleSize 5 rfl) ?_
    refine r_last (N := 1) (x := v) E (dat dkL_puddleSize 6 rfl) rfl rfl (by unfold vp_in; decide) rfl ?_
    refine r_goto (tgt := 15) E (dat dkL_puddleSize 7 rfl) rfl ?_
    refine r_iconst (v := 0) E (dat dkL_puddleSize 11 rfl) rfl ?_
    exact r_ireturn E (dat dkL_puddleSize 12 rfl) (by decide) (by decide) (Or.inl ⟨v, M', hp, rfl, rfl⟩)
set_option maxHeartbeats 4000000 in
theorem sp_L_puddleWater (l : Launch) (G : GT) (a : Int32) (M : Mem) (post : Option AV → Mem → Prop) (XP : String → Mem → Prop) (hM : MCx l G yX9_puddleWater cX9_puddleWater 2 (some .int) ({ frames := 7, cells := 8, slots := 48, locals := 115 } : Room) KC lkC [rv 0 0, iv a] M post XP) (hr : ∀ r M', post r M' → ∃ v, r = some (iv v)) (hX : ∀ Ex M', XP Ex M' → Ex = oobN) : MCw l G yL_puddleWater cL_puddleWater 4 (some .int) [(0, 9, 12, 13)] ({ frames := 8, cells := 8, slots := 48, locals := 136 } : Room) KO lkC [rv 0 0, iv a, rv 19 0] M (fun r M2 => (∃ v M', post (some (iv v)) M' ∧ r = some (iv 0) ∧ M2 = loV M M' v) ∨ (∃ M', XP oobN M' ∧ r = some (iv 1) ∧ M2 = loX M M')) := by
  refine MCw.of RL [some (rv 0 0), some (iv a), some (rv 19 0), none] 1 (by decide +kernel) rfl rfl rfl ?_
  intro pp ee ss mm aa bb me cd ad E htab
  refine r_aload_n E (dat dkL_puddleWater 0 rfl) rfl rfl ?_
  refine r_iconst (v := 0) E (dat dkL_puddleWater 1 rfl) rfl ?_
  refine r_aload_n E (dat dkL_puddleWater 2 rfl) rfl rfl ?_
  refine r_iload_n E (dat dkL_puddleWater 3 rfl) rfl rfl ?_
  refine r_callVC (κ := 8) (μ := []) E (htab.trans rfl) hM my_X9_puddleWater iv_X9_puddleWater ml_L_58 cm_KO ⟨by decide, rfl, rfl⟩ rfl rfl rfl rfl (by decide) (Nat.le_of_ble_eq_true rfl) (dat dkL_puddleWater 4 rfl) ?_ ?_
  · intro Ex M' hp
    obtain ⟨z1, z2, z3, z4, z5, z6, z7, z8, c1, c2, c3⟩ := E.2.2.2.2.2.2.2.1.2.2.2.2
    rcases hX Ex M' hp with rfl
    · refine ⟨_, loX_m, 12, ⟨[], ⟨0, 9, 12, 13⟩, [], "java/lang/IndexOutOfBoundsException", rfl, (fun z hz => (nomatch hz)), rfl, by decide, bg_4 78 (by decide +kernel), nw_4 90 (by decide +kernel), rfl⟩, fun q => ?_⟩
      refine r_astX (i := 3) E (dat dkL_puddleWater 8 rfl) rfl (Nat.le_of_ble_eq_true rfl) rfl (hc_of 2 rfl rfl) rfl ?_
      refine r_iconst (v := 1) E (dat dkL_puddleWater 9 rfl) rfl ?_
      exact r_ireturn E (dat dkL_puddleWater 10 rfl) (by decide) (by decide) (Or.inr (⟨M', hp, rfl, rfl⟩))
  · intro r M' hp
    obtain ⟨v, rfl⟩ := hr r M' hp
    refine ⟨_, loX_m, ?_⟩
    refine r_i2l E (dat dkL_puddleWater 5 rfl) ?_
    refine r_last (N := 1) (x := v) E (dat dkL_puddleWater 6 rfl) rfl rfl (by unfold vp_in; decide) rfl ?_
    refine r_goto (tgt := 15) E (dat dkL_puddleWater 7 rfl) rfl ?_
    refine r_iconst (v := 0) E (dat dkL_puddleWater 11 rfl) rfl ?_
    exact r_ireturn E (dat dkL_puddleWater 12 rfl) (by decide) (by decide) (Or.inl ⟨v, M', hp, rfl, rfl⟩)
set_option maxHeartbeats 4000000 in
theorem sp_L_nameByte (l : Launch) (G : GT) (a b : Int32) (M : Mem) (post : Option AV → Mem → Prop) (XP : String → Mem → Prop) (hM : MCx l G yX9_nameByte cX9_nameByte 3 (some .int) ({ frames := 7, cells := 8, slots := 48, locals := 103 } : Room) KC lkC [rv 0 0, iv a, iv b] M post XP) (hr : ∀ r M', post r M' → ∃ v, r = some (iv v)) (hX : ∀ Ex M', XP Ex M' → Ex = oobN) : MCw l G yL_nameByte cL_nameByte 5 (some .int) [(0, 10, 13, 13)] ({ frames := 8, cells := 8, slots := 48, locals := 125 } : Room) KO lkC [rv 0 0, iv a, iv b, rv 19 0] M (fun r M2 => (∃ v M', post (some (iv v)) M' ∧ r = some (iv 0) ∧ M2 = loV M M' v) ∨ (∃ M', XP oobN M' ∧ r = some (iv 1) ∧ M2 = loX M M')) := by
  refine MCw.of RL [some (rv 0 0), some (iv a), some (iv b), some (rv 19 0), none] 1 (by decide +kernel) rfl rfl rfl ?_
  intro pp ee ss mm aa bb me cd ad E htab
  refine r_aload_n E (dat dkL_nameByte 0 rfl) rfl rfl ?_
  refine r_iconst (v := 0) E (dat dkL_nameByte 1 rfl) rfl ?_
  refine r_aload_n E (dat dkL_nameByte 2 rfl) rfl rfl ?_
  refine r_iload_n E (dat dkL_nameByte 3 rfl) rfl rfl ?_
  refine r_iload_n E (dat dkL_nameByte 4 rfl) rfl rfl ?_
  refine r_callVC (κ := 8) (μ := []) E (htab.trans rfl) hM my_X9_nameByte iv_X9_nameByte ml_L_61 cm_KO ⟨by decide, rfl, rfl⟩ rfl rfl rfl rfl (by decide) (Nat.le_of_ble_eq_true rfl) (dat dkL_nameByte 5 rfl) ?_ ?_
  · intro Ex M' hp
    obtain ⟨z1, z2, z3, z4, z5, z6, z7, z8, c1, c2, c3⟩ := E.2.2.2.2.2.2.2.1.2.2.2.2
    rcases hX Ex M' hp with rfl
    · refine ⟨_, loX_m, 13, ⟨[], ⟨0, 10, 13, 13⟩, [], "java/lang/IndexOutOfBoundsException", rfl, (fun z hz => (nomatch hz)), rfl, by decide, bg_4 78 (by decide +kernel), nw_4 90 (by decide +kernel), rfl⟩, fun q => ?_⟩
      refine r_astX4 (i := 4) E (dat dkL_nameByte 9 rfl) (Nat.le_of_ble_eq_true rfl) rfl (hc_of 3 rfl rfl) rfl ?_
      refine r_iconst (v := 1) E (dat dkL_nameByte 10 rfl) rfl ?_
      exact r_ireturn E (dat dkL_nameByte 11 rfl) (by decide) (by decide) (Or.inr (⟨M', hp, rfl, rfl⟩))
  · intro r M' hp
    obtain ⟨v, rfl⟩ := hr r M' hp
    refine ⟨_, loX_m, ?_⟩
    refine r_i2l E (dat dkL_nameByte 6 rfl) ?_
    refine r_last (N := 1) (x := v) E (dat dkL_nameByte 7 rfl) rfl rfl (by unfold vp_in; decide) rfl ?_
    refine r_goto (tgt := 17) E (dat dkL_nameByte 8 rfl) rfl ?_
    refine r_iconst (v := 0) E (dat dkL_nameByte 12 rfl) rfl ?_
    exact r_ireturn E (dat dkL_nameByte 13 rfl) (by decide) (by decide) (Or.inl ⟨v, M', hp, rfl, rfl⟩)
set_option maxHeartbeats 4000000 in
theorem sp_L_placeOf (l : Launch) (G : GT) (a : Int32) (M : Mem) (post : Option AV → Mem → Prop) (XP : String → Mem → Prop) (hM : MCx l G yX9_placeOf cX9_placeOf 2 (some .int) ({ frames := 7, cells := 8, slots := 48, locals := 103 } : Room) KC lkC [rv 0 0, iv a] M post XP) (hr : ∀ r M', post r M' → ∃ v, r = some (iv v)) (hX : ∀ Ex M', XP Ex M' → Ex = oobN) : MCw l G yL_placeOf cL_placeOf 4 (some .int) [(0, 9, 12, 13)] ({ frames := 8, cells := 8, slots := 48, locals := 124 } : Room) KO lkC [rv 0 0, iv a, rv 19 0] M (fun r M2 => (∃ v M', post (some (iv v)) M' ∧ r = some (iv 0) ∧ M2 = loV M M' v) ∨ (∃ M', XP oobN M' ∧ r = some (iv 1) ∧ M2 = loX M M')) := by
  refine MCw.of RL [some (rv 0 0), some (iv a), some (rv 19 0), none] 1 (by decide +kernel) rfl rfl rfl ?_
  intro pp ee ss mm aa bb me cd ad E htab
  refine r_aload_n E (dat dkL_placeOf 0 rfl) rfl rfl ?_
  refine r_iconst (v := 0) E (dat dkL_placeOf 1 rfl) rfl ?_
  refine r_aload_n E (dat dkL_placeOf 2 rfl) rfl rfl ?_
  refine r_iload_n E (dat dkL_placeOf 3 rfl) rfl rfl ?_
  refine r_callVC (κ := 8) (μ := []) E (htab.trans rfl) hM my_X9_placeOf iv_X9_placeOf ml_L_64 cm_KO ⟨by decide, rfl, rfl⟩ rfl rfl rfl rfl (by decide) (Nat.le_of_ble_eq_true rfl) (dat dkL_placeOf 4 rfl) ?_ ?_
  · intro Ex M' hp
    obtain ⟨z1, z2, z3, z4, z5, z6, z7, z8, c1, c2, c3⟩ := E.2.2.2.2.2.2.2.1.2.2.2.2
    rcases hX Ex M' hp with rfl
    · refine ⟨_, loX_m, 12, ⟨[], ⟨0, 9, 12, 13⟩, [], "java/lang/IndexOutOfBoundsException", rfl, (fun z hz => (nomatch hz)), rfl, by decide, bg_4 78 (by decide +kernel), nw_4 90 (by decide +kernel), rfl⟩, fun q => ?_⟩
      refine r_astX (i := 3) E (dat dkL_placeOf 8 rfl) rfl (Nat.le_of_ble_eq_true rfl) rfl (hc_of 2 rfl rfl) rfl ?_
      refine r_iconst (v := 1) E (dat dkL_placeOf 9 rfl) rfl ?_
      exact r_ireturn E (dat dkL_placeOf 10 rfl) (by decide) (by decide) (Or.inr (⟨M', hp, rfl, rfl⟩))
  · intro r M' hp
    obtain ⟨v, rfl⟩ := hr r M' hp
    refine ⟨_, loX_m, ?_⟩
    refine r_i2l E (dat dkL_placeOf 5 rfl) ?_
    refine r_last (N := 1) (x := v) E (dat dkL_placeOf 6 rfl) rfl rfl (by unfold vp_in; decide) rfl ?_
    refine r_goto (tgt := 15) E (dat dkL_placeOf 7 rfl) rfl ?_
    refine r_iconst (v := 0) E (dat dkL_placeOf 11 rfl) rfl ?_
    exact r_ireturn E (dat dkL_placeOf 12 rfl) (by decide) (by decide) (Or.inl ⟨v, M', hp, rfl, rfl⟩)
set_option maxHeartbeats 4000000 in
theorem sp_L_bootHeight (l : Launch) (G : GT) (a : Int32) (M : Mem) (post : Option AV → Mem → Prop) (XP : String → Mem → Prop) (hM : MCx l G yX9_bootHeight cX9_bootHeight 2 (some .int) ({ frames := 7, cells := 8, slots := 48, locals := 103 } : Room) KC lkC [rv 0 0, iv a] M post XP) (hr : ∀ r M', post r M' → ∃ v, r = some (iv v)) (hX : ∀ Ex M', XP Ex M' → Ex = oobN) : MCw l G yL_bootHeight cL_bootHeight 4 (some .int) [(0, 9, 12, 13)] ({ frames := 8, cells := 8, slots := 48, locals := 124 } : Room) KO lkC [rv 0 0, iv a, rv 19 0] M (fun r M2 => (∃ v M', post (some (iv v)) M' ∧ r = some (iv 0) ∧ M2 = loV M M' v) ∨ (∃ M', XP oobN M' ∧ r = some (iv 1) ∧ M2 = loX M M')) := by
  refine MCw.of RL [some (rv 0 0), some (iv a), some (rv 19 0), none] 1 (by decide +kernel) rfl rfl rfl ?_
  intro pp ee ss mm aa bb me cd ad E htab
  refine r_aload_n E (dat dkL_bootHeight 0 rfl) rfl rfl ?_
  refine r_iconst (v := 0) E (dat dkL_bootHeight 1 rfl) rfl ?_
  refine r_aload_n E (dat dkL_bootHeight 2 rfl) rfl rfl ?_
  refine r_iload_n E (dat dkL_bootHeight 3 rfl) rfl rfl ?_
  refine r_callVC (κ := 8) (μ := []) E (htab.trans rfl) hM my_X9_bootHeight iv_X9_bootHeight ml_L_67 cm_KO ⟨by decide, rfl, rfl⟩ rfl rfl rfl rfl (by decide) (Nat.le_of_ble_eq_true rfl) (dat dkL_bootHeight 4 rfl) ?_ ?_
  · intro Ex M' hp
    obtain ⟨z1, z2, z3, z4, z5, z6, z7, z8, c1, c2, c3⟩ := E.2.2.2.2.2.2.2.1.2.2.2.2
    rcases hX Ex M' hp with rfl
    · refine ⟨_, loX_m, 12, ⟨[], ⟨0, 9, 12, 13⟩, [], "java/lang/IndexOutOfBoundsException", rfl, (fun z hz => (nomatch hz)), rfl, by decide, bg_4 78 (by decide +kernel), nw_4 90 (by decide +kernel), rfl⟩, fun q => ?_⟩
      refine r_astX (i := 3) E (dat dkL_bootHeight 8 rfl) rfl (Nat.le_of_ble_eq_true rfl) rfl (hc_of 2 rfl rfl) rfl ?_
      refine r_iconst (v := 1) E (dat dkL_bootHeight 9 rfl) rfl ?_
      exact r_ireturn E (dat dkL_bootHeight 10 rfl) (by decide) (by decide) (Or.inr (⟨M', hp, rfl, rfl⟩))
  · intro r M' hp
    obtain ⟨v, rfl⟩ := hr r M' hp
    refine ⟨_, loX_m, ?_⟩
    refine r_i2l E (dat dkL_bootHeight 5 rfl) ?_
    refine r_last (N := 1) (x := v) E (dat dkL_bootHeight 6 rfl) rfl rfl (by unfold vp_in; decide) rfl ?_
    refine r_goto (tgt := 15) E (dat dkL_bootHeight 7 rfl) rfl ?_
    refine r_iconst (v := 0) E (dat dkL_bootHeight 11 rfl) rfl ?_
    exact r_ireturn E (dat dkL_bootHeight 12 rfl) (by decide) (by decide) (Or.inl ⟨v, M', hp, rfl, rfl⟩)
set_option maxHeartbeats 4000000 in
theorem sp_L_isWet (l : Launch) (G : GT) (a : Int32) (M : Mem) (post : Option AV → Mem → Prop) (XP : String → Mem → Prop) (hM : MCx l G yX9_isWet cX9_isWet 2 (some .boolean) ({ frames := 7, cells := 8, slots := 48, locals := 103 } : Room) KC lkC [rv 0 0, iv a] M post XP) (hr : ∀ r M', post r M' → ∃ v, r = some (iv v)) (hX : ∀ Ex M', XP Ex M' → Ex = oobN) : MCw l G yL_isWet cL_isWet 4 (some .int) [(0, 16, 19, 13)] ({ frames := 8, cells := 8, slots := 48, locals := 124 } : Room) KO lkC [rv 0 0, iv a, rv 19 0] M (fun r M2 => (∃ v M', post (some (iv v)) M' ∧ r = some (iv 0) ∧ M2 = loV M M' (if v = 0 then 0 else 1)) ∨ (∃ M', XP oobN M' ∧ r = some (iv 1) ∧ M2 = loX M M')) := by
  refine MCw.of RL [some (rv 0 0), some (iv a), some (rv 19 0), none] 1 (by decide +kernel) rfl rfl rfl ?_
  intro pp ee ss mm aa bb me cd ad E htab
  refine r_aload_n E (dat dkL_isWet 0 rfl) rfl rfl ?_
  refine r_iconst (v := 0) E (dat dkL_isWet 1 rfl) rfl ?_
  refine r_aload_n E (dat dkL_isWet 2 rfl) rfl rfl ?_
  refine r_iload_n E (dat dkL_isWet 3 rfl) rfl rfl ?_
  refine r_callVC (κ := 8) (μ := []) E (htab.trans rfl) hM my_X9_isWet iv_X9_isWet ml_L_70 cm_KO ⟨by decide, rfl, rfl⟩ rfl rfl rfl rfl (by decide) (Nat.le_of_ble_eq_true rfl) (dat dkL_isWet 4 rfl) ?_ ?_
  · intro Ex M' hp
    obtain ⟨z1, z2, z3, z4, z5, z6, z7, z8, c1, c2, c3⟩ := E.2.2.2.2.2.2.2.1.2.2.2.2
    rcases hX Ex M' hp with rfl
    · refine ⟨_, loX_m, 19, ⟨[], ⟨0, 16, 19, 13⟩, [], "java/lang/IndexOutOfBoundsException", rfl, (fun z hz => (nomatch hz)), rfl, by decide, bg_4 78 (by decide +kernel), nw_4 90 (by decide +kernel), rfl⟩, fun q => ?_⟩
      refine r_astX (i := 3) E (dat dkL_isWet 11 rfl) rfl (Nat.le_of_ble_eq_true rfl) rfl (hc_of 2 rfl rfl) rfl ?_
      refine r_iconst (v := 1) E (dat dkL_isWet 12 rfl) rfl ?_
      exact r_ireturn E (dat dkL_isWet 13 rfl) (by decide) (by decide) (Or.inr (⟨M', hp, rfl, rfl⟩))
  · intro r M' hp
    obtain ⟨v, rfl⟩ := hr r M' hp
    refine ⟨_, loX_m, ?_⟩
    refine r_if_eq (tgt := 14) E (dat dkL_isWet 5 rfl) rfl (fun h0 => ?_) (fun h0 => ?_)
    · refine r_lconst (v := 0) E (dat dkL_isWet 8 rfl) rfl ?_
      refine r_last (N := 1) (x := 0) E (dat dkL_isWet 9 rfl) rfl rfl (by unfold vp_in; decide) rfl ?_
      refine r_goto (tgt := 22) E (dat dkL_isWet 10 rfl) rfl ?_
      refine r_iconst (v := 0) E (dat dkL_isWet 14 rfl) rfl ?_
      exact r_ireturn E (dat dkL_isWet 15 rfl) (by decide) (by decide) (Or.inl ⟨v, M', hp, rfl, by rw [if_pos (by assumption)]; rfl⟩)
    · refine r_lconst (v := 1) E (dat dkL_isWet 6 rfl) rfl ?_
      refine r_goto (tgt := 15) E (dat dkL_isWet 7 rfl) rfl ?_
      refine r_last (N := 1) (x := 1) E (dat dkL_isWet 9 rfl) rfl rfl (by unfold vp_in; decide) rfl ?_
      refine r_goto (tgt := 22) E (dat dkL_isWet 10 rfl) rfl ?_
      refine r_iconst (v := 0) E (dat dkL_isWet 14 rfl) rfl ?_
      exact r_ireturn E (dat dkL_isWet 15 rfl) (by decide) (by decide) (Or.inl ⟨v, M', hp, rfl, by rw [if_neg (by assumption)]; rfl⟩)
set_option maxHeartbeats 4000000 in
theorem sp_L_splashesOf (l : Launch) (G : GT) (a : Int32) (M : Mem) (post : Option AV → Mem → Prop) (XP : String → Mem → Prop) (hM : MCx l G yX9_splashesOf cX9_splashesOf 2 (some .int) ({ frames := 7, cells := 8, slots := 48, locals := 103 } : Room) KC lkC [rv 0 0, iv a] M post XP) (hr : ∀ r M', post r M' → ∃ v, r = some (iv v)) (hX : ∀ Ex M', XP Ex M' → Ex = oobN) : MCw l G yL_splashesOf cL_splashesOf 4 (some .int) [(0, 9, 12, 13)] ({ frames := 8, cells := 8, slots := 48, locals := 124 } : Room) KO lkC [rv 0 0, iv a, rv 19 0] M (fun r M2 => (∃ v M', post (some (iv v)) M' ∧ r = some (iv 0) ∧ M2 = loV M M' v) ∨ (∃ M', XP oobN M' ∧ r = some (iv 1) ∧ M2 = loX M M')) := by
  refine MCw.of RL [some (rv 0 0), some (iv a), some (rv 19 0), none] 1 (by decide +kernel) rfl rfl rfl ?_
  intro pp ee ss mm aa bb me cd ad E htab
  refine r_aload_n E (dat dkL_splashesOf 0 rfl) rfl rfl ?_
  refine r_iconst (v := 0) E (dat dkL_splashesOf 1 rfl) rfl ?_
  refine r_aload_n E (dat dkL_splashesOf 2 rfl) rfl rfl ?_
  refine r_iload_n E (dat dkL_splashesOf 3 rfl) rfl rfl ?_
  refine r_callVC (κ := 8) (μ := []) E (htab.trans rfl) hM my_X9_splashesOf iv_X9_splashesOf ml_L_73 cm_KO ⟨by decide, rfl, rfl⟩ rfl rfl rfl rfl (by decide) (Nat.le_of_ble_eq_true rfl) (dat dkL_splashesOf 4 rfl) ?_ ?_
  · intro Ex M' hp
    obtain ⟨z1, z2, z3, z4, z5, z6, z7, z8, c1, c2, c3⟩ := E.2.2.2.2.2.2.2.1.2.2.2.2
    rcases hX Ex M' hp with rfl
    · refine ⟨_, loX_m, 12, ⟨[], ⟨0, 9, 12, 13⟩, [], "java/lang/IndexOutOfBoundsException", rfl, (fun z hz => (nomatch hz)), rfl, by decide, bg_4 78 (by decide +kernel), nw_4 90 (by decide +kernel), rfl⟩, fun q => ?_⟩
      refine r_astX (i := 3) E (dat dkL_splashesOf 8 rfl) rfl (Nat.le_of_ble_eq_true rfl) rfl (hc_of 2 rfl rfl) rfl ?_
      refine r_iconst (v := 1) E (dat dkL_splashesOf 9 rfl) rfl ?_
      exact r_ireturn E (dat dkL_splashesOf 10 rfl) (by decide) (by decide) (Or.inr (⟨M', hp, rfl, rfl⟩))
  · intro r M' hp
    obtain ⟨v, rfl⟩ := hr r M' hp
    refine ⟨_, loX_m, ?_⟩
    refine r_i2l E (dat dkL_splashesOf 5 rfl) ?_
    refine r_last (N := 1) (x := v) E (dat dkL_splashesOf 6 rfl) rfl rfl (by unfold vp_in; decide) rfl ?_
    refine r_goto (tgt := 15) E (dat dkL_splashesOf 7 rfl) rfl ?_
    refine r_iconst (v := 0) E (dat dkL_splashesOf 11 rfl) rfl ?_
    exact r_ireturn E (dat dkL_splashesOf 12 rfl) (by decide) (by decide) (Or.inl ⟨v, M', hp, rfl, rfl⟩)
set_option maxHeartbeats 4000000 in
theorem sp_L_dryWay (l : Launch) (G : GT) (a b : Int32) (M : Mem) (post : Option AV → Mem → Prop) (XP : String → Mem → Prop) (hM : MCx l G yX9_dryWay cX9_dryWay 3 (some .int) ({ frames := 7, cells := 12, slots := 72, locals := 103 } : Room) KC lkC [rv 0 0, iv a, iv b] M post XP) (hr : ∀ r M', post r M' → ∃ v, r = some (iv v)) (hX : ∀ Ex M', XP Ex M' → Ex = oobN) : MCw l G yL_dryWay cL_dryWay 5 (some .int) [(0, 10, 13, 13)] ({ frames := 8, cells := 12, slots := 72, locals := 125 } : Room) KO lkC [rv 0 0, iv a, iv b, rv 19 0] M (fun r M2 => (∃ v M', post (some (iv v)) M' ∧ r = some (iv 0) ∧ M2 = loV M M' v) ∨ (∃ M', XP oobN M' ∧ r = some (iv 1) ∧ M2 = loX M M')) := by
  refine MCw.of RL [some (rv 0 0), some (iv a), some (iv b), some (rv 19 0), none] 1 (by decide +kernel) rfl rfl rfl ?_
  intro pp ee ss mm aa bb me cd ad E htab
  refine r_aload_n E (dat dkL_dryWay 0 rfl) rfl rfl ?_
  refine r_iconst (v := 0) E (dat dkL_dryWay 1 rfl) rfl ?_
  refine r_aload_n E (dat dkL_dryWay 2 rfl) rfl rfl ?_
  refine r_iload_n E (dat dkL_dryWay 3 rfl) rfl rfl ?_
  refine r_iload_n E (dat dkL_dryWay 4 rfl) rfl rfl ?_
  refine r_callVC (κ := 8) (μ := []) E (htab.trans rfl) hM my_X9_dryWay iv_X9_dryWay ml_L_76 cm_KO ⟨by decide, rfl, rfl⟩ rfl rfl rfl rfl (by decide) (Nat.le_of_ble_eq_true rfl) (dat dkL_dryWay 5 rfl) ?_ ?_
  · intro Ex M' hp
    obtain ⟨z1, z2, z3, z4, z5, z6, z7, z8, c1, c2, c3⟩ := E.2.2.2.2.2.2.2.1.2.2.2.2
    rcases hX Ex M' hp with rfl
    · refine ⟨_, loX_m, 13, ⟨[], ⟨0, 10, 13, 13⟩, [], "java/lang/IndexOutOfBoundsException", rfl, (fun z hz => (nomatch hz)), rfl, by decide, bg_4 78 (by decide +kernel), nw_4 90 (by decide +kernel), rfl⟩, fun q => ?_⟩
      refine r_astX4 (i := 4) E (dat dkL_dryWay 9 rfl) (Nat.le_of_ble_eq_true rfl) rfl (hc_of 3 rfl rfl) rfl ?_
      refine r_iconst (v := 1) E (dat dkL_dryWay 10 rfl) rfl ?_
      exact r_ireturn E (dat dkL_dryWay 11 rfl) (by decide) (by decide) (Or.inr (⟨M', hp, rfl, rfl⟩))
  · intro r M' hp
    obtain ⟨v, rfl⟩ := hr r M' hp
    refine ⟨_, loX_m, ?_⟩
    refine r_i2l E (dat dkL_dryWay 6 rfl) ?_
    refine r_last (N := 1) (x := v) E (dat dkL_dryWay 7 rfl) rfl rfl (by unfold vp_in; decide) rfl ?_
    refine r_goto (tgt := 17) E (dat dkL_dryWay 8 rfl) rfl ?_
    refine r_iconst (v := 0) E (dat dkL_dryWay 12 rfl) rfl ?_
    exact r_ireturn E (dat dkL_dryWay 13 rfl) (by decide) (by decide) (Or.inl ⟨v, M', hp, rfl, rfl⟩)
set_option maxHeartbeats 4000000 in
theorem sp_L_waterAfter (l : Launch) (G : GT) (a b : Int32) (M : Mem) (post : Option AV → Mem → Prop) (XP : String → Mem → Prop) (hM : MCx l G yX9_waterAfter cX9_waterAfter 3 (some .int) ({ frames := 7, cells := 8, slots := 48, locals := 118 } : Room) KC lkC [rv 0 0, iv a, iv b] M post XP) (hr : ∀ r M', post r M' → ∃ v, r = some (iv v)) (hX : ∀ Ex M', XP Ex M' → Ex = oobN ∨ Ex = argN) : MCw l G yL_waterAfter cL_waterAfter 5 (some .int) [(0, 10, 13, 13), (0, 10, 17, 50)] ({ frames := 8, cells := 8, slots := 48, locals := 140 } : Room) KO lkC [rv 0 0, iv a, iv b, rv 19 0] M (fun r M2 => (∃ v M', post (some (iv v)) M' ∧ r = some (iv 0) ∧ M2 = loV M M' v) ∨ (∃ M', XP oobN M' ∧ r = some (iv 1) ∧ M2 = loX M M') ∨ (∃ M', XP argN M' ∧ r = some (iv 2) ∧ M2 = loX M M')) := by
  refine MCw.of RL [some (rv 0 0), some (iv a), some (iv b), some (rv 19 0), none] 1 (by decide +kernel) rfl rfl rfl ?_
  intro pp ee ss mm aa bb me cd ad E htab
  refine r_aload_n E (dat dkL_waterAfter 0 rfl) rfl rfl ?_
  refine r_iconst (v := 0) E (dat dkL_waterAfter 1 rfl) rfl ?_
  refine r_aload_n E (dat dkL_waterAfter 2 rfl) rfl rfl ?_
  refine r_iload_n E (dat dkL_waterAfter 3 rfl) rfl rfl ?_
  refine r_iload_n E (dat dkL_waterAfter 4 rfl) rfl rfl ?_
  refine r_callVC (κ := 8) (μ := []) E (htab.trans rfl) hM my_X9_waterAfter iv_X9_waterAfter ml_L_79 cm_KO ⟨by decide, rfl, rfl⟩ rfl rfl rfl rfl (by decide) (Nat.le_of_ble_eq_true rfl) (dat dkL_waterAfter 5 rfl) ?_ ?_
  · intro Ex M' hp
    obtain ⟨z1, z2, z3, z4, z5, z6, z7, z8, c1, c2, c3⟩ := E.2.2.2.2.2.2.2.1.2.2.2.2
    rcases hX Ex M' hp with rfl | rfl
    · refine ⟨_, loX_m, 13, ⟨[], ⟨0, 10, 13, 13⟩, [⟨0, 10, 17, 50⟩], "java/lang/IndexOutOfBoundsException", rfl, (fun z hz => (nomatch hz)), rfl, by decide, bg_4 78 (by decide +kernel), nw_4 90 (by decide +kernel), rfl⟩, fun q => ?_⟩
      refine r_astX4 (i := 4) E (dat dkL_waterAfter 9 rfl) (Nat.le_of_ble_eq_true rfl) rfl (hc_of 3 rfl rfl) rfl ?_
      refine r_iconst (v := 1) E (dat dkL_waterAfter 10 rfl) rfl ?_
      exact r_ireturn E (dat dkL_waterAfter 11 rfl) (by decide) (by decide) (Or.inr (Or.inl ⟨M', hp, rfl, rfl⟩))
    · refine ⟨_, loX_m, 17, ⟨[⟨0, 10, 13, 13⟩], ⟨0, 10, 17, 50⟩, [], "java/lang/IllegalArgumentException", rfl, (fun z hz => by cases List.mem_singleton.mp hz; exact Or.inr ⟨by decide, _, bg_4 78 (by decide +kernel), c1⟩), rfl, by decide, bg_4 232 (by decide +kernel), nw_5 2 (by decide +kernel), rfl⟩, fun q => ?_⟩
      refine r_astX4 (i := 4) E (dat dkL_waterAfter 12 rfl) (Nat.le_of_ble_eq_true rfl) rfl (hc_of 3 rfl rfl) rfl ?_
      refine r_iconst (v := 2) E (dat dkL_waterAfter 13 rfl) rfl ?_
      exact r_ireturn E (dat dkL_waterAfter 14 rfl) (by decide) (by decide) (Or.inr (Or.inr (⟨M', hp, rfl, rfl⟩)))
  · intro r M' hp
    obtain ⟨v, rfl⟩ := hr r M' hp
    refine ⟨_, loX_m, ?_⟩
    refine r_i2l E (dat dkL_waterAfter 6 rfl) ?_
    refine r_last (N := 1) (x := v) E (dat dkL_waterAfter 7 rfl) rfl rfl (by unfold vp_in; decide) rfl ?_
    refine r_goto (tgt := 21) E (dat dkL_waterAfter 8 rfl) rfl ?_
    refine r_iconst (v := 0) E (dat dkL_waterAfter 15 rfl) rfl ?_
    exact r_ireturn E (dat dkL_waterAfter 16 rfl) (by decide) (by decide) (Or.inl ⟨v, M', hp, rfl, rfl⟩)
set_option maxHeartbeats 4000000 in
theorem sp_L_minutesUntilDry (l : Launch) (G : GT) (a : Int32) (M : Mem) (post : Option AV → Mem → Prop) (XP : String → Mem → Prop) (hM : MCx l G yX9_minutesUntilDry cX9_minutesUntilDry 3 (some .int) ({ frames := 7, cells := 4, slots := 24, locals := 118 } : Room) KC lkC [rv 0 0, iv a] M post XP) (hr : ∀ r M', post r M' → ∃ v, r = some (iv v)) (hX : ∀ Ex M', XP Ex M' → Ex = oobN) : MCw l G yL_minutesUntilDry cL_minutesUntilDry 4 (some .int) [(0, 9, 12, 13)] ({ frames := 8, cells := 4, slots := 24, locals := 140 } : Room) KO lkC [rv 0 0, iv a, rv 19 0] M (fun r M2 => (∃ v M', post (some (iv v)) M' ∧ r = some (iv 0) ∧ M2 = loV M M' v) ∨ (∃ M', XP oobN M' ∧ r = some (iv 1) ∧ M2 = loX M M')) := by
  refine MCw.of RL [some (rv 0 0), some (iv a), some (rv 19 0), none] 1 (by decide +kernel) rfl rfl rfl ?_
  intro pp ee ss mm aa bb me cd ad E htab
  refine r_aload_n E (dat dkL_minutesUntilDry 0 rfl) rfl rfl ?_
  refine r_iconst (v := 0) E (dat dkL_minutesUntilDry 1 rfl) rfl ?_
  refine r_aload_n E (dat dkL_minutesUntilDry 2 rfl) rfl rfl ?_
  refine r_iload_n E (dat dkL_minutesUntilDry 3 rfl) rfl rfl ?_
  refine r_callVC (κ := 8) (μ := []) E (htab.trans rfl) hM my_X9_minutesUntilDry iv_X9_minutesUntilDry ml_L_82 cm_KO ⟨by decide, rfl, rfl⟩ rfl rfl rfl rfl (by decide) (Nat.le_of_ble_eq_true rfl) (dat dkL_minutesUntilDry 4 rfl) ?_ ?_
  · intro Ex M' hp
    obtain ⟨z1, z2, z3, z4, z5, z6, z7, z8, c1, c2, c3⟩ := E.2.2.2.2.2.2.2.1.2.2.2.2
    rcases hX Ex M' hp with rfl
    · refine ⟨_, loX_m, 12, ⟨[], ⟨0, 9, 12, 13⟩, [], "java/lang/IndexOutOfBoundsException", rfl, (fun z hz => (nomatch hz)), rfl, by decide, bg_4 78 (by decide +kernel), nw_4 90 (by decide +kernel), rfl⟩, fun q => ?_⟩
      refine r_astX (i := 3) E (dat dkL_minutesUntilDry 8 rfl) rfl (Nat.le_of_ble_eq_true rfl) rfl (hc_of 2 rfl rfl) rfl ?_
      refine r_iconst (v := 1) E (dat dkL_minutesUntilDry 9 rfl) rfl ?_
      exact r_ireturn E (dat dkL_minutesUntilDry 10 rfl) (by decide) (by decide) (Or.inr (⟨M', hp, rfl, rfl⟩))
  · intro r M' hp
    obtain ⟨v, rfl⟩ := hr r M' hp
    refine ⟨_, loX_m, ?_⟩
    refine r_i2l E (dat dkL_minutesUntilDry 5 rfl) ?_
    refine r_last (N := 1) (x := v) E (dat dkL_minutesUntilDry 6 rfl) rfl rfl (by unfold vp_in; decide) rfl ?_
    refine r_goto (tgt := 15) E (dat dkL_minutesUntilDry 7 rfl) rfl ?_
    refine r_iconst (v := 0) E (dat dkL_minutesUntilDry 11 rfl) rfl ?_
    exact r_ireturn E (dat dkL_minutesUntilDry 12 rfl) (by decide) (by decide) (Or.inl ⟨v, M', hp, rfl, rfl⟩)
set_option maxHeartbeats 4000000 in
theorem sp_L_drainedAfter (l : Launch) (G : GT) (a : Int32) (M : Mem) (post : Option AV → Mem → Prop) (XP : String → Mem → Prop) (hM : MCx l G yX9_drainedAfter cX9_drainedAfter 2 (some .int) ({ frames := 7, cells := 4, slots := 24, locals := 118 } : Room) KC lkC [rv 0 0, iv a] M post XP) (hr : ∀ r M', post r M' → ∃ v, r = some (iv v)) (hX : ∀ Ex M', XP Ex M' → Ex = argN) : MCw l G yL_drainedAfter cL_drainedAfter 4 (some .int) [(0, 9, 12, 50)] ({ frames := 8, cells := 4, slots := 24, locals := 139 } : Room) KO lkC [rv 0 0, iv a, rv 19 0] M (fun r M2 => (∃ v M', post (some (iv v)) M' ∧ r = some (iv 0) ∧ M2 = loV M M' v) ∨ (∃ M', XP argN M' ∧ r = some (iv 1) ∧ M2 = loX M M')) := by
  refine MCw.of RL [some (rv 0 0), some (iv a), some (rv 19 0), none] 1 (by decide +kernel) rfl rfl rfl ?_
  intro pp ee ss mm aa bb me cd ad E htab
  refine r_aload_n E (dat dkL_drainedAfter 0 rfl) rfl rfl ?_
  refine r_iconst (v := 0) E (dat dkL_drainedAfter 1 rfl) rfl ?_
  refine r_aload_n E (dat dkL_drainedAfter 2 rfl) rfl rfl ?_
  refine r_iload_n E (dat dkL_drainedAfter 3 rfl) rfl rfl ?_
  refine r_callVC (κ := 8) (μ := []) E (htab.trans rfl) hM my_X9_drainedAfter iv_X9_drainedAfter ml_L_85 cm_KO ⟨by decide, rfl, rfl⟩ rfl rfl rfl rfl (by decide) (Nat.le_of_ble_eq_true rfl) (dat dkL_drainedAfter 4 rfl) ?_ ?_
  · intro Ex M' hp
    obtain ⟨z1, z2, z3, z4, z5, z6, z7, z8, c1, c2, c3⟩ := E.2.2.2.2.2.2.2.1.2.2.2.2
    rcases hX Ex M' hp with rfl
    · refine ⟨_, loX_m, 12, ⟨[], ⟨0, 9, 12, 50⟩, [], "java/lang/IllegalArgumentException", rfl, (fun z hz => (nomatch hz)), rfl, by decide, bg_4 232 (by decide +kernel), nw_5 2 (by decide +kernel), rfl⟩, fun q => ?_⟩
      refine r_astX (i := 3) E (dat dkL_drainedAfter 8 rfl) rfl (Nat.le_of_ble_eq_true rfl) rfl (hc_of 2 rfl rfl) rfl ?_
      refine r_iconst (v := 1) E (dat dkL_drainedAfter 9 rfl) rfl ?_
      exact r_ireturn E (dat dkL_drainedAfter 10 rfl) (by decide) (by decide) (Or.inr (⟨M', hp, rfl, rfl⟩))
  · intro r M' hp
    obtain ⟨v, rfl⟩ := hr r M' hp
    refine ⟨_, loX_m, ?_⟩
    refine r_i2l E (dat dkL_drainedAfter 5 rfl) ?_
    refine r_last (N := 1) (x := v) E (dat dkL_drainedAfter 6 rfl) rfl rfl (by unfold vp_in; decide) rfl ?_
    refine r_goto (tgt := 15) E (dat dkL_drainedAfter 7 rfl) rfl ?_
    refine r_iconst (v := 0) E (dat dkL_drainedAfter 11 rfl) rfl ?_
    exact r_ireturn E (dat dkL_drainedAfter 12 rfl) (by decide) (by decide) (Or.inl ⟨v, M', hp, rfl, rfl⟩)
set_option maxHeartbeats 4000000 in
theorem sp_L_setRain (l : Launch) (G : GT) (a : Int32) (M : Mem) (post : Option AV → Mem → Prop) (XP : String → Mem → Prop) (hM : MCx l G yX9_setRain cX9_setRain 3 (some .int) ({ frames := 7, cells := 4, slots := 24, locals := 104 } : Room) KC lkC [rv 0 0, iv a] M post XP) (hr : ∀ r M', post r M' → ∃ v, r = some (iv v)) (hX : ∀ Ex M', XP Ex M' → Ex = argN) : MCw l G yL_setRain cL_setRain 4 (some .int) [(0, 9, 12, 50)] ({ frames := 8, cells := 4, slots := 24, locals := 126 } : Room) KO lkC [rv 0 0, iv a, rv 19 0] M (fun r M2 => (∃ v M', post (some (iv v)) M' ∧ r = some (iv 0) ∧ M2 = loV M M' v) ∨ (∃ M', XP argN M' ∧ r = some (iv 1) ∧ M2 = loX M M')) := by
  refine MCw.of RL [some (rv 0 0), some (iv a), some (rv 19 0), none] 1 (by decide +kernel) rfl rfl rfl ?_
  intro pp ee ss mm aa bb me cd ad E htab
  refine r_aload_n E (dat dkL_setRain 0 rfl) rfl rfl ?_
  refine r_iconst (v := 0) E (dat dkL_setRain 1 rfl) rfl ?_
  refine r_aload_n E (dat dkL_setRain 2 rfl) rfl rfl ?_
  refine r_iload_n E (dat dkL_setRain 3 rfl) rfl rfl ?_
  refine r_callVC (κ := 8) (μ := []) E (htab.trans rfl) hM my_X9_setRain iv_X9_setRain ml_L_88 cm_KO ⟨by decide, rfl, rfl⟩ rfl rfl rfl rfl (by decide) (Nat.le_of_ble_eq_true rfl) (dat dkL_setRain 4 rfl) ?_ ?_
  · intro Ex M' hp
    obtain ⟨z1, z2, z3, z4, z5, z6, z7, z8, c1, c2, c3⟩ := E.2.2.2.2.2.2.2.1.2.2.2.2
    rcases hX Ex M' hp with rfl
    · refine ⟨_, loX_m, 12, ⟨[], ⟨0, 9, 12, 50⟩, [], "java/lang/IllegalArgumentException", rfl, (fun z hz => (nomatch hz)), rfl, by decide, bg_4 232 (by decide +kernel), nw_5 2 (by decide +kernel), rfl⟩, fun q => ?_⟩
      refine r_astX (i := 3) E (dat dkL_setRain 8 rfl) rfl (Nat.le_of_ble_eq_true rfl) rfl (hc_of 2 rfl rfl) rfl ?_
      refine r_iconst (v := 1) E (dat dkL_setRain 9 rfl) rfl ?_
      exact r_ireturn E (dat dkL_setRain 10 rfl) (by decide) (by decide) (Or.inr (⟨M', hp, rfl, rfl⟩))
  · intro r M' hp
    obtain ⟨v, rfl⟩ := hr r M' hp
    refine ⟨_, loX_m, ?_⟩
    refine r_i2l E (dat dkL_setRain 5 rfl) ?_
    refine r_last (N := 1) (x := v) E (dat dkL_setRain 6 rfl) rfl rfl (by unfold vp_in; decide) rfl ?_
    refine r_goto (tgt := 15) E (dat dkL_setRain 7 rfl) rfl ?_
    refine r_iconst (v := 0) E (dat dkL_setRain 11 rfl) rfl ?_
    exact r_ireturn E (dat dkL_setRain 12 rfl) (by decide) (by decide) (Or.inl ⟨v, M', hp, rfl, rfl⟩)
set_option maxHeartbeats 4000000 in
theorem sp_L_burst (l : Launch) (G : GT) (a b d : Int32) (M : Mem) (post : Option AV → Mem → Prop) (XP : String → Mem → Prop) (hM : MCx l G yX9_burst cX9_burst 4 (some .int) ({ frames := 7, cells := 16, slots := 96, locals := 104 } : Room) KC lkC [rv 0 0, iv a, iv b, iv d] M post XP) (hr : ∀ r M', post r M' → ∃ v, r = some (iv v)) (hX : ∀ Ex M', XP Ex M' → Ex = oobN ∨ Ex = argN ∨ Ex = steN) : MCw l G yL_burst cL_burst 6 (some .int) [(0, 12, 15, 13), (0, 12, 19, 50), (0, 12, 23, 95)] ({ frames := 8, cells := 16, slots := 96, locals := 127 } : Room) KO lkC [rv 0 0, iv a, iv b, iv d, rv 19 0] M (fun r M2 => (∃ v M', post (some (iv v)) M' ∧ r = some (iv 0) ∧ M2 = loV M M' v) ∨ (∃ M', XP oobN M' ∧ r = some (iv 1) ∧ M2 = loX M M') ∨ (∃ M', XP argN M' ∧ r = some (iv 2) ∧ M2 = loX M M') ∨ (∃ M', XP steN M' ∧ r = some (iv 3) ∧ M2 = loX M M')) := by
  refine MCw.of RL [some (rv 0 0), some (iv a), some (iv b), some (iv d), some (rv 19 0), none] 1 (by decide +kernel) rfl rfl rfl ?_
  intro pp ee ss mm aa bb me cd ad E htab
  refine r_aload E (dat dkL_burst 0 rfl) rfl ?_
  refine r_iconst (v := 0) E (dat dkL_burst 1 rfl) rfl ?_
  refine r_aload_n E (dat dkL_burst 2 rfl) rfl rfl ?_
  refine r_iload_n E (dat dkL_burst 3 rfl) rfl rfl ?_
  refine r_iload_n E (dat dkL_burst 4 rfl) rfl rfl ?_
  refine r_iload_n E (dat dkL_burst 5 rfl) rfl rfl ?_
  refine r_callVC (κ := 8) (μ := []) E (htab.trans rfl) hM my_X9_burst iv_X9_burst ml_L_91 cm_KO ⟨by decide, rfl, rfl⟩ rfl rfl rfl rfl (by decide) (Nat.le_of_ble_eq_true rfl) (dat dkL_burst 6 rfl) ?_ ?_
  · intro Ex M' hp
    obtain ⟨z1, z2, z3, z4, z5, z6, z7, z8, c1, c2, c3⟩ := E.2.2.2.2.2.2.2.1.2.2.2.2
    rcases hX Ex M' hp with rfl | rfl | rfl
    · refine ⟨_, loX_m, 15, ⟨[], ⟨0, 12, 15, 13⟩, [⟨0, 12, 19, 50⟩, ⟨0, 12, 23, 95⟩], "java/lang/IndexOutOfBoundsException", rfl, (fun z hz => (nomatch hz)), rfl, by decide, bg_4 78 (by decide +kernel), nw_4 90 (by decide +kernel), rfl⟩, fun q => ?_⟩
      refine r_astX4 (i := 5) E (dat dkL_burst 10 rfl) (Nat.le_of_ble_eq_true rfl) rfl (hc_of 4 rfl rfl) rfl ?_
      refine r_iconst (v := 1) E (dat dkL_burst 11 rfl) rfl ?_
      exact r_ireturn E (dat dkL_burst 12 rfl) (by decide) (by decide) (Or.inr (Or.inl ⟨M', hp, rfl, rfl⟩))
    · refine ⟨_, loX_m, 19, ⟨[⟨0, 12, 15, 13⟩], ⟨0, 12, 19, 50⟩, [⟨0, 12, 23, 95⟩], "java/lang/IllegalArgumentException", rfl, (fun z hz => by cases List.mem_singleton.mp hz; exact Or.inr ⟨by decide, _, bg_4 78 (by decide +kernel), c1⟩), rfl, by decide, bg_4 232 (by decide +kernel), nw_5 2 (by decide +kernel), rfl⟩, fun q => ?_⟩
      refine r_astX4 (i := 5) E (dat dkL_burst 13 rfl) (Nat.le_of_ble_eq_true rfl) rfl (hc_of 4 rfl rfl) rfl ?_
      refine r_iconst (v := 2) E (dat dkL_burst 14 rfl) rfl ?_
      exact r_ireturn E (dat dkL_burst 15 rfl) (by decide) (by decide) (Or.inr (Or.inr (Or.inl ⟨M', hp, rfl, rfl⟩)))
    · refine ⟨_, loX_m, 23, ⟨[⟨0, 12, 15, 13⟩, ⟨0, 12, 19, 50⟩], ⟨0, 12, 23, 95⟩, [], "java/lang/IllegalStateException", rfl, (fun z hz => by
      rcases List.mem_cons.mp hz with rfl | hz
      · exact Or.inr ⟨by decide, _, bg_4 78 (by decide +kernel), c2⟩
      · cases List.mem_singleton.mp hz; exact Or.inr ⟨by decide, _, bg_4 232 (by decide +kernel), c3⟩), rfl, by decide, bg_5 129 (by decide +kernel), nw_5 140 (by decide +kernel), rfl⟩, fun q => ?_⟩
      refine r_astX4 (i := 5) E (dat dkL_burst 16 rfl) (Nat.le_of_ble_eq_true rfl) rfl (hc_of 4 rfl rfl) rfl ?_
      refine r_iconst (v := 3) E (dat dkL_burst 17 rfl) rfl ?_
      exact r_ireturn E (dat dkL_burst 18 rfl) (by decide) (by decide) (Or.inr (Or.inr (Or.inr (⟨M', hp, rfl, rfl⟩))))
  · intro r M' hp
    obtain ⟨v, rfl⟩ := hr r M' hp
    refine ⟨_, loX_m, ?_⟩
    refine r_i2l E (dat dkL_burst 7 rfl) ?_
    refine r_last (N := 1) (x := v) E (dat dkL_burst 8 rfl) rfl rfl (by unfold vp_in; decide) rfl ?_
    refine r_goto (tgt := 27) E (dat dkL_burst 9 rfl) rfl ?_
    refine r_iconst (v := 0) E (dat dkL_burst 19 rfl) rfl ?_
    exact r_ireturn E (dat dkL_burst 20 rfl) (by decide) (by decide) (Or.inl ⟨v, M', hp, rfl, rfl⟩)
set_option maxHeartbeats 4000000 in
theorem sp_L_shut (l : Launch) (G : GT) (a : Int32) (M : Mem) (post : Option AV → Mem → Prop) (XP : String → Mem → Prop) (hM : MCx l G yX9_shut cX9_shut 2 (some .int) ({ frames := 7, cells := 6, slots := 36, locals := 103 } : Room) KC lkC [rv 0 0, iv a] M post XP) (hr : ∀ r M', post r M' → ∃ v, r = some (iv v)) (hX : ∀ Ex M', XP Ex M' → Ex = oobN ∨ Ex = steN) : MCw l G yL_shut cL_shut 4 (some .int) [(0, 9, 12, 13), (0, 9, 15, 95)] ({ frames := 8, cells := 6, slots := 36, locals := 124 } : Room) KO lkC [rv 0 0, iv a, rv 19 0] M (fun r M2 => (∃ v M', post (some (iv v)) M' ∧ r = some (iv 0) ∧ M2 = loV M M' v) ∨ (∃ M', XP oobN M' ∧ r = some (iv 1) ∧ M2 = loX M M') ∨ (∃ M', XP steN M' ∧ r = some (iv 2) ∧ M2 = loX M M')) := by
  refine MCw.of RL [some (rv 0 0), some (iv a), some (rv 19 0), none] 1 (by decide +kernel) rfl rfl rfl ?_
  intro pp ee ss mm aa bb me cd ad E htab
  refine r_aload_n E (dat dkL_shut 0 rfl) rfl rfl ?_
  refine r_iconst (v := 0) E (dat dkL_shut 1 rfl) rfl ?_
  refine r_aload_n E (dat dkL_shut 2 rfl) rfl rfl ?_
  refine r_iload_n E (dat dkL_shut 3 rfl) rfl rfl ?_
  refine r_callVC (κ := 8) (μ := []) E (htab.trans rfl) hM my_X9_shut iv_X9_shut ml_L_97 cm_KO ⟨by decide, rfl, rfl⟩ rfl rfl rfl rfl (by decide) (Nat.le_of_ble_eq_true rfl) (dat dkL_shut 4 rfl) ?_ ?_
  · intro Ex M' hp
    obtain ⟨z1, z2, z3, z4, z5, z6, z7, z8, c1, c2, c3⟩ := E.2.2.2.2.2.2.2.1.2.2.2.2
    rcases hX Ex M' hp with rfl | rfl
    · refine ⟨_, loX_m, 12, ⟨[], ⟨0, 9, 12, 13⟩, [⟨0, 9, 15, 95⟩], "java/lang/IndexOutOfBoundsException", rfl, (fun z hz => (nomatch hz)), rfl, by decide, bg_4 78 (by decide +kernel), nw_4 90 (by decide +kernel), rfl⟩, fun q => ?_⟩
      refine r_astX (i := 3) E (dat dkL_shut 8 rfl) rfl (Nat.le_of_ble_eq_true rfl) rfl (hc_of 2 rfl rfl) rfl ?_
      refine r_iconst (v := 1) E (dat dkL_shut 9 rfl) rfl ?_
      exact r_ireturn E (dat dkL_shut 10 rfl) (by decide) (by decide) (Or.inr (Or.inl ⟨M', hp, rfl, rfl⟩))
    · refine ⟨_, loX_m, 15, ⟨[⟨0, 9, 12, 13⟩], ⟨0, 9, 15, 95⟩, [], "java/lang/IllegalStateException", rfl, (fun z hz => by cases List.mem_singleton.mp hz; exact Or.inr ⟨by decide, _, bg_4 78 (by decide +kernel), c2⟩), rfl, by decide, bg_5 129 (by decide +kernel), nw_5 140 (by decide +kernel), rfl⟩, fun q => ?_⟩
      refine r_astX (i := 3) E (dat dkL_shut 11 rfl) rfl (Nat.le_of_ble_eq_true rfl) rfl (hc_of 2 rfl rfl) rfl ?_
      refine r_iconst (v := 2) E (dat dkL_shut 12 rfl) rfl ?_
      exact r_ireturn E (dat dkL_shut 13 rfl) (by decide) (by decide) (Or.inr (Or.inr (⟨M', hp, rfl, rfl⟩)))
  · intro r M' hp
    obtain ⟨v, rfl⟩ := hr r M' hp
    refine ⟨_, loX_m, ?_⟩
    refine r_i2l E (dat dkL_shut 5 rfl) ?_
    refine r_last (N := 1) (x := v) E (dat dkL_shut 6 rfl) rfl rfl (by unfold vp_in; decide) rfl ?_
    refine r_goto (tgt := 18) E (dat dkL_shut 7 rfl) rfl ?_
    refine r_iconst (v := 0) E (dat dkL_shut 14 rfl) rfl ?_
    exact r_ireturn E (dat dkL_shut 15 rfl) (by decide) (by decide) (Or.inl ⟨v, M', hp, rfl, rfl⟩)
set_option maxHeartbeats 4000000 in
theorem sp_L_dropLeaves (l : Launch) (G : GT) (a b : Int32) (M : Mem) (post : Option AV → Mem → Prop) (XP : String → Mem → Prop) (hM : MCx l G yX9_dropLeaves cX9_dropLeaves 3 (some .int) ({ frames := 7, cells := 8, slots := 48, locals := 104 } : Room) KC lkC [rv 0 0, iv a, iv b] M post XP) (hr : ∀ r M', post r M' → ∃ v, r = some (iv v)) (hX : ∀ Ex M', XP Ex M' → Ex = oobN ∨ Ex = argN) : MCw l G yL_dropLeaves cL_dropLeaves 5 (some .int) [(0, 10, 13, 13), (0, 10, 17, 50)] ({ frames := 8, cells := 8, slots := 48, locals := 126 } : Room) KO lkC [rv 0 0, iv a, iv b, rv 19 0] M (fun r M2 => (∃ v M', post (some (iv v)) M' ∧ r = some (iv 0) ∧ M2 = loV M M' v) ∨ (∃ M', XP oobN M' ∧ r = some (iv 1) ∧ M2 = loX M M') ∨ (∃ M', XP argN M' ∧ r = some (iv 2) ∧ M2 = loX M M')) := by
  refine MCw.of RL [some (rv 0 0), some (iv a), some (iv b), some (rv 19 0), none] 1 (by decide +kernel) rfl rfl rfl ?_
  intro pp ee ss mm aa bb me cd ad E htab
  refine r_aload_n E (dat dkL_dropLeaves 0 rfl) rfl rfl ?_
  refine r_iconst (v := 0) E (dat dkL_dropLeaves 1 rfl) rfl ?_
  refine r_aload_n E (dat dkL_dropLeaves 2 rfl) rfl rfl ?_
  refine r_iload_n E (dat dkL_dropLeaves 3 rfl) rfl rfl ?_
  refine r_iload_n E (dat dkL_dropLeaves 4 rfl) rfl rfl ?_
  refine r_callVC (κ := 8) (μ := []) E (htab.trans rfl) hM my_X9_dropLeaves iv_X9_dropLeaves ml_L_100 cm_KO ⟨by decide, rfl, rfl⟩ rfl rfl rfl rfl (by decide) (Nat.le_of_ble_eq_true rfl) (dat dkL_dropLeaves 5 rfl) ?_ ?_
  · intro Ex M' hp
    obtain ⟨z1, z2, z3, z4, z5, z6, z7, z8, c1, c2, c3⟩ := E.2.2.2.2.2.2.2.1.2.2.2.2
    rcases hX Ex M' hp with rfl | rfl
    · refine ⟨_, loX_m, 13, ⟨[], ⟨0, 10, 13, 13⟩, [⟨0, 10, 17, 50⟩], "java/lang/IndexOutOfBoundsException", rfl, (fun z hz => (nomatch hz)), rfl, by decide, bg_4 78 (by decide +kernel), nw_4 90 (by decide +kernel), rfl⟩, fun q => ?_⟩
      refine r_astX4 (i := 4) E (dat dkL_dropLeaves 9 rfl) (Nat.le_of_ble_eq_true rfl) rfl (hc_of 3 rfl rfl) rfl ?_
      refine r_iconst (v := 1) E (dat dkL_dropLeaves 10 rfl) rfl ?_
      exact r_ireturn E (dat dkL_dropLeaves 11 rfl) (by decide) (by decide) (Or.inr (Or.inl ⟨M', hp, rfl, rfl⟩))
    · refine ⟨_, loX_m, 17, ⟨[⟨0, 10, 13, 13⟩], ⟨0, 10, 17, 50⟩, [], "java/lang/IllegalArgumentException", rfl, (fun z hz => by cases List.mem_singleton.mp hz; exact Or.inr ⟨by decide, _, bg_4 78 (by decide +kernel), c1⟩), rfl, by decide, bg_4 232 (by decide +kernel), nw_5 2 (by decide +kernel), rfl⟩, fun q => ?_⟩
      refine r_astX4 (i := 4) E (dat dkL_dropLeaves 12 rfl) (Nat.le_of_ble_eq_true rfl) rfl (hc_of 3 rfl rfl) rfl ?_
      refine r_iconst (v := 2) E (dat dkL_dropLeaves 13 rfl) rfl ?_
      exact r_ireturn E (dat dkL_dropLeaves 14 rfl) (by decide) (by decide) (Or.inr (Or.inr (⟨M', hp, rfl, rfl⟩)))
  · intro r M' hp
    obtain ⟨v, rfl⟩ := hr r M' hp
    refine ⟨_, loX_m, ?_⟩
    refine r_i2l E (dat dkL_dropLeaves 6 rfl) ?_
    refine r_last (N := 1) (x := v) E (dat dkL_dropLeaves 7 rfl) rfl rfl (by unfold vp_in; decide) rfl ?_
    refine r_goto (tgt := 21) E (dat dkL_dropLeaves 8 rfl) rfl ?_
    refine r_iconst (v := 0) E (dat dkL_dropLeaves 15 rfl) rfl ?_
    exact r_ireturn E (dat dkL_dropLeaves 16 rfl) (by decide) (by decide) (Or.inl ⟨v, M', hp, rfl, rfl⟩)
set_option maxHeartbeats 4000000 in
theorem sp_L_sweep (l : Launch) (G : GT) (a : Int32) (M : Mem) (post : Option AV → Mem → Prop) (XP : String → Mem → Prop) (hM : MCx l G yX9_sweep cX9_sweep 2 (some .int) ({ frames := 7, cells := 4, slots := 24, locals := 103 } : Room) KC lkC [rv 0 0, iv a] M post XP) (hr : ∀ r M', post r M' → ∃ v, r = some (iv v)) (hX : ∀ Ex M', XP Ex M' → Ex = oobN) : MCw l G yL_sweep cL_sweep 4 (some .int) [(0, 9, 12, 13)] ({ frames := 8, cells := 4, slots := 24, locals := 124 } : Room) KO lkC [rv 0 0, iv a, rv 19 0] M (fun r M2 => (∃ v M', post (some (iv v)) M' ∧ r = some (iv 0) ∧ M2 = loV M M' v) ∨ (∃ M', XP oobN M' ∧ r = some (iv 1) ∧ M2 = loX M M')) := by
  refine MCw.of RL [some (rv 0 0), some (iv a), some (rv 19 0), none] 1 (by decide +kernel) rfl rfl rfl ?_
  intro pp ee ss mm aa bb me cd ad E htab
  refine r_aload_n E (dat dkL_sweep 0 rfl) rfl rfl ?_
  refine r_iconst (v := 0) E (dat dkL_sweep 1 rfl) rfl ?_
  refine r_aload_n E (dat dkL_sweep 2 rfl) rfl rfl ?_
  refine r_iload_n E (dat dkL_sweep 3 rfl) rfl rfl ?_
  refine r_callVC (κ := 8) (μ := []) E (htab.trans rfl) hM my_X9_sweep iv_X9_sweep ml_L_103 cm_KO ⟨by decide, rfl, rfl⟩ rfl rfl rfl rfl (by decide) (Nat.le_of_ble_eq_true rfl) (dat dkL_sweep 4 rfl) ?_ ?_
  · intro Ex M' hp
    obtain ⟨z1, z2, z3, z4, z5, z6, z7, z8, c1, c2, c3⟩ := E.2.2.2.2.2.2.2.1.2.2.2.2
    rcases hX Ex M' hp with rfl
    · refine ⟨_, loX_m, 12, ⟨[], ⟨0, 9, 12, 13⟩, [], "java/lang/IndexOutOfBoundsException", rfl, (fun z hz => (nomatch hz)), rfl, by decide, bg_4 78 (by decide +kernel), nw_4 90 (by decide +kernel), rfl⟩, fun q => ?_⟩
      refine r_astX (i := 3) E (dat dkL_sweep 8 rfl) rfl (Nat.le_of_ble_eq_true rfl) rfl (hc_of 2 rfl rfl) rfl ?_
      refine r_iconst (v := 1) E (dat dkL_sweep 9 rfl) rfl ?_
      exact r_ireturn E (dat dkL_sweep 10 rfl) (by decide) (by decide) (Or.inr (⟨M', hp, rfl, rfl⟩))
  · intro r M' hp
    obtain ⟨v, rfl⟩ := hr r M' hp
    refine ⟨_, loX_m, ?_⟩
    refine r_i2l E (dat dkL_sweep 5 rfl) ?_
    refine r_last (N := 1) (x := v) E (dat dkL_sweep 6 rfl) rfl rfl (by unfold vp_in; decide) rfl ?_
    refine r_goto (tgt := 15) E (dat dkL_sweep 7 rfl) rfl ?_
    refine r_iconst (v := 0) E (dat dkL_sweep 11 rfl) rfl ?_
    exact r_ireturn E (dat dkL_sweep 12 rfl) (by decide) (by decide) (Or.inl ⟨v, M', hp, rfl, rfl⟩)
set_option maxHeartbeats 4000000 in
theorem sp_L_walk (l : Launch) (G : GT) (a b : Int32) (M : Mem) (post : Option AV → Mem → Prop) (XP : String → Mem → Prop) (hM : MCx l G yX9_walk cX9_walk 3 (some .int) ({ frames := 7, cells := 14, slots := 84, locals := 104 } : Room) KC lkC [rv 0 0, iv a, iv b] M post XP) (hr : ∀ r M', post r M' → ∃ v, r = some (iv v)) (hX : ∀ Ex M', XP Ex M' → Ex = oobN ∨ Ex = argN ∨ Ex = steN) : MCw l G yL_walk cL_walk 5 (some .int) [(0, 10, 13, 13), (0, 10, 17, 50), (0, 10, 21, 95)] ({ frames := 8, cells := 14, slots := 84, locals := 126 } : Room) KO lkC [rv 0 0, iv a, iv b, rv 19 0] M (fun r M2 => (∃ v M', post (some (iv v)) M' ∧ r = some (iv 0) ∧ M2 = loV M M' v) ∨ (∃ M', XP oobN M' ∧ r = some (iv 1) ∧ M2 = loX M M') ∨ (∃ M', XP argN M' ∧ r = some (iv 2) ∧ M2 = loX M M') ∨ (∃ M', XP steN M' ∧ r = some (iv 3) ∧ M2 = loX M M')) := by
  refine MCw.of RL [some (rv 0 0), some (iv a), some (iv b), some (rv 19 0), none] 1 (by decide +kernel) rfl rfl rfl ?_
  intro pp ee ss mm aa bb me cd ad E htab
  refine r_aload_n E (dat dkL_walk 0 rfl) rfl rfl ?_
  refine r_iconst (v := 0) E (dat dkL_walk 1 rfl) rfl ?_
  refine r_aload_n E (dat dkL_walk 2 rfl) rfl rfl ?_
  refine r_iload_n E (dat dkL_walk 3 rfl) rfl rfl ?_
  refine r_iload_n E (dat dkL_walk 4 rfl) rfl rfl ?_
  refine r_callVC (κ := 8) (μ := []) E (htab.trans rfl) hM my_X9_walk iv_X9_walk ml_L_106 cm_KO ⟨by decide, rfl, rfl⟩ rfl rfl rfl rfl (by decide) (Nat.le_of_ble_eq_true rfl) (dat dkL_walk 5 rfl) ?_ ?_
  · intro Ex M' hp
    obtain ⟨z1, z2, z3, z4, z5, z6, z7, z8, c1, c2, c3⟩ := E.2.2.2.2.2.2.2.1.2.2.2.2
    rcases hX Ex M' hp with rfl | rfl | rfl
    · refine ⟨_, loX_m, 13, ⟨[], ⟨0, 10, 13, 13⟩, [⟨0, 10, 17, 50⟩, ⟨0, 10, 21, 95⟩], "java/lang/IndexOutOfBoundsException", rfl, (fun z hz => (nomatch hz)), rfl, by decide, bg_4 78 (by decide +kernel), nw_4 90 (by decide +kernel), rfl⟩, fun q => ?_⟩
      refine r_astX4 (i := 4) E (dat dkL_walk 9 rfl) (Nat.le_of_ble_eq_true rfl) rfl (hc_of 3 rfl rfl) rfl ?_
      refine r_iconst (v := 1) E (dat dkL_walk 10 rfl) rfl ?_
      exact r_ireturn E (dat dkL_walk 11 rfl) (by decide) (by decide) (Or.inr (Or.inl ⟨M', hp, rfl, rfl⟩))
    · refine ⟨_, loX_m, 17, ⟨[⟨0, 10, 13, 13⟩], ⟨0, 10, 17, 50⟩, [⟨0, 10, 21, 95⟩], "java/lang/IllegalArgumentException", rfl, (fun z hz => by cases List.mem_singleton.mp hz; exact Or.inr ⟨by decide, _, bg_4 78 (by decide +kernel), c1⟩), rfl, by decide, bg_4 232 (by decide +kernel), nw_5 2 (by decide +kernel), rfl⟩, fun q => ?_⟩
      refine r_astX4 (i := 4) E (dat dkL_walk 12 rfl) (Nat.le_of_ble_eq_true rfl) rfl (hc_of 3 rfl rfl) rfl ?_
      refine r_iconst (v := 2) E (dat dkL_walk 13 rfl) rfl ?_
      exact r_ireturn E (dat dkL_walk 14 rfl) (by decide) (by decide) (Or.inr (Or.inr (Or.inl ⟨M', hp, rfl, rfl⟩)))
    · refine ⟨_, loX_m, 21, ⟨[⟨0, 10, 13, 13⟩, ⟨0, 10, 17, 50⟩], ⟨0, 10, 21, 95⟩, [], "java/lang/IllegalStateException", rfl, (fun z hz => by
      rcases List.mem_cons.mp hz with rfl | hz
      · exact Or.inr ⟨by decide, _, bg_4 78 (by decide +kernel), c2⟩
      · cases List.mem_singleton.mp hz; exact Or.inr ⟨by decide, _, bg_4 232 (by decide +kernel), c3⟩), rfl, by decide, bg_5 129 (by decide +kernel), nw_5 140 (by decide +kernel), rfl⟩, fun q => ?_⟩
      refine r_astX4 (i := 4) E (dat dkL_walk 15 rfl) (Nat.le_of_ble_eq_true rfl) rfl (hc_of 3 rfl rfl) rfl ?_
      refine r_iconst (v := 3) E (dat dkL_walk 16 rfl) rfl ?_
      exact r_ireturn E (dat dkL_walk 17 rfl) (by decide) (by decide) (Or.inr (Or.inr (Or.inr (⟨M', hp, rfl, rfl⟩))))
  · intro r M' hp
    obtain ⟨v, rfl⟩ := hr r M' hp
    refine ⟨_, loX_m, ?_⟩
    refine r_i2l E (dat dkL_walk 6 rfl) ?_
    refine r_last (N := 1) (x := v) E (dat dkL_walk 7 rfl) rfl rfl (by unfold vp_in; decide) rfl ?_
    refine r_goto (tgt := 25) E (dat dkL_walk 8 rfl) rfl ?_
    refine r_iconst (v := 0) E (dat dkL_walk 18 rfl) rfl ?_
    exact r_ireturn E (dat dkL_walk 19 rfl) (by decide) (by decide) (Or.inl ⟨v, M', hp, rfl, rfl⟩)
set_option maxHeartbeats 4000000 in
theorem sp_L_splash (l : Launch) (G : GT) (a : Int32) (M : Mem) (post : Option AV → Mem → Prop) (XP : String → Mem → Prop) (hM : MCx l G yX9_splash cX9_splash 2 (some .int) ({ frames := 7, cells := 10, slots := 60, locals := 103 } : Room) KC lkC [rv 0 0, iv a] M post XP) (hr : ∀ r M', post r M' → ∃ v, r = some (iv v)) (hX : ∀ Ex M', XP Ex M' → Ex = oobN ∨ Ex = steN) : MCw l G yL_splash cL_splash 4 (some .int) [(0, 9, 12, 13), (0, 9, 15, 95)] ({ frames := 8, cells := 10, slots := 60, locals := 124 } : Room) KO lkC [rv 0 0, iv a, rv 19 0] M (fun r M2 => (∃ v M', post (some (iv v)) M' ∧ r = some (iv 0) ∧ M2 = loV M M' v) ∨ (∃ M', XP oobN M' ∧ r = some (iv 1) ∧ M2 = loX M M') ∨ (∃ M', XP steN M' ∧ r = some (iv 2) ∧ M2 = loX M M')) := by
  refine MCw.of RL [some (rv 0 0), some (iv a), some (rv 19 0), none] 1 (by decide +kernel) rfl rfl rfl ?_
  intro pp ee ss mm aa bb me cd ad E htab
  refine r_aload_n E (dat dkL_splash 0 rfl) rfl rfl ?_
  refine r_iconst (v := 0) E (dat dkL_splash 1 rfl) rfl ?_
  refine r_aload_n E (dat dkL_splash 2 rfl) rfl rfl ?_
  refine r_iload_n E (dat dkL_splash 3 rfl) rfl rfl ?_
  refine r_callVC (κ := 8) (μ := []) E (htab.trans rfl) hM my_X9_splash iv_X9_splash ml_L_109 cm_KO ⟨by decide, rfl, rfl⟩ rfl rfl rfl rfl (by decide) (Nat.le_of_ble_eq_true rfl) (dat dkL_splash 4 rfl) ?_ ?_
  · intro Ex M' hp
    obtain ⟨z1, z2, z3, z4, z5, z6, z7, z8, c1, c2, c3⟩ := E.2.2.2.2.2.2.2.1.2.2.2.2
    rcases hX Ex M' hp with rfl | rfl
    · refine ⟨_, loX_m, 12, ⟨[], ⟨0, 9, 12, 13⟩, [⟨0, 9, 15, 95⟩], "java/lang/IndexOutOfBoundsException", rfl, (fun z hz => (nomatch hz)), rfl, by decide, bg_4 78 (by decide +kernel), nw_4 90 (by decide +kernel), rfl⟩, fun q => ?_⟩
      refine r_astX (i := 3) E (dat dkL_splash 8 rfl) rfl (Nat.le_of_ble_eq_true rfl) rfl (hc_of 2 rfl rfl) rfl ?_
      refine r_iconst (v := 1) E (dat dkL_splash 9 rfl) rfl ?_
      exact r_ireturn E (dat dkL_splash 10 rfl) (by decide) (by decide) (Or.inr (Or.inl ⟨M', hp, rfl, rfl⟩))
    · refine ⟨_, loX_m, 15, ⟨[⟨0, 9, 12, 13⟩], ⟨0, 9, 15, 95⟩, [], "java/lang/IllegalStateException", rfl, (fun z hz => by cases List.mem_singleton.mp hz; exact Or.inr ⟨by decide, _, bg_4 78 (by decide +kernel), c2⟩), rfl, by decide, bg_5 129 (by decide +kernel), nw_5 140 (by decide +kernel), rfl⟩, fun q => ?_⟩
      refine r_astX (i := 3) E (dat dkL_splash 11 rfl) rfl (Nat.le_of_ble_eq_true rfl) rfl (hc_of 2 rfl rfl) rfl ?_
      refine r_iconst (v := 2) E (dat dkL_splash 12 rfl) rfl ?_
      exact r_ireturn E (dat dkL_splash 13 rfl) (by decide) (by decide) (Or.inr (Or.inr (⟨M', hp, rfl, rfl⟩)))
  · intro r M' hp
    obtain ⟨v, rfl⟩ := hr r M' hp
    refine ⟨_, loX_m, ?_⟩
    refine r_i2l E (dat dkL_splash 5 rfl) ?_
    refine r_last (N := 1) (x := v) E (dat dkL_splash 6 rfl) rfl rfl (by unfold vp_in; decide) rfl ?_
    refine r_goto (tgt := 18) E (dat dkL_splash 7 rfl) rfl ?_
    refine r_iconst (v := 0) E (dat dkL_splash 14 rfl) rfl ?_
    exact r_ireturn E (dat dkL_splash 15 rfl) (by decide) (by decide) (Or.inl ⟨v, M', hp, rfl, rfl⟩)
set_option maxHeartbeats 4000000 in
theorem sp_L_passMinutes (l : Launch) (G : GT) (a : Int32) (M : Mem) (post : Option AV → Mem → Prop) (XP : String → Mem → Prop) (hM : MCx l G yX9_passMinutes cX9_passMinutes 3 (some .int) ({ frames := 7, cells := 6, slots := 36, locals := 118 } : Room) KC lkC [rv 0 0, iv a] M post XP) (hr : ∀ r M', post r M' → ∃ v, r = some (iv v)) (hX : ∀ Ex M', XP Ex M' → Ex = argN ∨ Ex = steN) : MCw l G yL_passMinutes cL_passMinutes 4 (some .int) [(0, 9, 12, 50), (0, 9, 15, 95)] ({ frames := 8, cells := 6, slots := 36, locals := 140 } : Room) KO lkC [rv 0 0, iv a, rv 19 0] M (fun r M2 => (∃ v M', post (some (iv v)) M' ∧ r = some (iv 0) ∧ M2 = loV M M' v) ∨ (∃ M', XP argN M' ∧ r = some (iv 1) ∧ M2 = loX M M') ∨ (∃ M', XP steN M' ∧ r = some (iv 2) ∧ M2 = loX M M')) := by
  refine MCw.of RL [some (rv 0 0), some (iv a), some (rv 19 0), none] 1 (by decide +kernel) rfl rfl rfl ?_
  intro pp ee ss mm aa bb me cd ad E htab
  refine r_aload_n E (dat dkL_passMinutes 0 rfl) rfl rfl ?_
  refine r_iconst (v := 0) E (dat dkL_passMinutes 1 rfl) rfl ?_
  refine r_aload_n E (dat dkL_passMinutes 2 rfl) rfl rfl ?_
  refine r_iload_n E (dat dkL_passMinutes 3 rfl) rfl rfl ?_
  refine r_callVC (κ := 8) (μ := []) E (htab.trans rfl) hM my_X9_passMinutes iv_X9_passMinutes ml_L_112 cm_KO ⟨by decide, rfl, rfl⟩ rfl rfl rfl rfl (by decide) (Nat.le_of_ble_eq_true rfl) (dat dkL_passMinutes 4 rfl) ?_ ?_
  · intro Ex M' hp
    obtain ⟨z1, z2, z3, z4, z5, z6, z7, z8, c1, c2, c3⟩ := E.2.2.2.2.2.2.2.1.2.2.2.2
    rcases hX Ex M' hp with rfl | rfl
    · refine ⟨_, loX_m, 12, ⟨[], ⟨0, 9, 12, 50⟩, [⟨0, 9, 15, 95⟩], "java/lang/IllegalArgumentException", rfl, (fun z hz => (nomatch hz)), rfl, by decide, bg_4 232 (by decide +kernel), nw_5 2 (by decide +kernel), rfl⟩, fun q => ?_⟩
      refine r_astX (i := 3) E (dat dkL_passMinutes 8 rfl) rfl (Nat.le_of_ble_eq_true rfl) rfl (hc_of 2 rfl rfl) rfl ?_
      refine r_iconst (v := 1) E (dat dkL_passMinutes 9 rfl) rfl ?_
      exact r_ireturn E (dat dkL_passMinutes 10 rfl) (by decide) (by decide) (Or.inr (Or.inl ⟨M', hp, rfl, rfl⟩))
    · refine ⟨_, loX_m, 15, ⟨[⟨0, 9, 12, 50⟩], ⟨0, 9, 15, 95⟩, [], "java/lang/IllegalStateException", rfl, (fun z hz => by cases List.mem_singleton.mp hz; exact Or.inr ⟨by decide, _, bg_4 232 (by decide +kernel), c3⟩), rfl, by decide, bg_5 129 (by decide +kernel), nw_5 140 (by decide +kernel), rfl⟩, fun q => ?_⟩
      refine r_astX (i := 3) E (dat dkL_passMinutes 11 rfl) rfl (Nat.le_of_ble_eq_true rfl) rfl (hc_of 2 rfl rfl) rfl ?_
      refine r_iconst (v := 2) E (dat dkL_passMinutes 12 rfl) rfl ?_
      exact r_ireturn E (dat dkL_passMinutes 13 rfl) (by decide) (by decide) (Or.inr (Or.inr (⟨M', hp, rfl, rfl⟩)))
  · intro r M' hp
    obtain ⟨v, rfl⟩ := hr r M' hp
    refine ⟨_, loX_m, ?_⟩
    refine r_i2l E (dat dkL_passMinutes 5 rfl) ?_
    refine r_last (N := 1) (x := v) E (dat dkL_passMinutes 6 rfl) rfl rfl (by unfold vp_in; decide) rfl ?_
    refine r_goto (tgt := 18) E (dat dkL_passMinutes 7 rfl) rfl ?_
    refine r_iconst (v := 0) E (dat dkL_passMinutes 14 rfl) rfl ?_
    exact r_ireturn E (dat dkL_passMinutes 15 rfl) (by decide) (by decide) (Or.inl ⟨v, M', hp, rfl, rfl⟩)
set_option maxHeartbeats 4000000 in
theorem sp_L_undo (l : Launch) (G : GT) (M : Mem) (post : Option AV → Mem → Prop) (XP : String → Mem → Prop) (hM : MCx l G yX9_undo cX9_undo 1 (some .int) ({ frames := 6, cells := 1, slots := 6, locals := 84 } : Room) KC lkC [rv 0 0] M post XP) (hr : ∀ r M', post r M' → ∃ v, r = some (iv v)) (hX : ∀ Ex M', XP Ex M' → Ex = nseN) : MCw l G yL_undo cL_undo 3 (some .int) [(0, 8, 11, 119)] ({ frames := 7, cells := 1, slots := 6, locals := 104 } : Room) KO lkC [rv 0 0, rv 19 0] M (fun r M2 => (∃ v M', post (some (iv v)) M' ∧ r = some (iv 0) ∧ M2 = loV M M' v) ∨ (∃ M', XP nseN M' ∧ r = some (iv 1) ∧ M2 = loX M M')) := by
  refine MCw.of RL [some (rv 0 0), some (rv 19 0), none] 1 (by decide +kernel) rfl rfl rfl ?_
  intro pp ee ss mm aa bb me cd ad E htab
  refine r_aload_n E (dat dkL_undo 0 rfl) rfl rfl ?_
  refine r_iconst (v := 0) E (dat dkL_undo 1 rfl) rfl ?_
  refine r_aload_n E (dat dkL_undo 2 rfl) rfl rfl ?_
  refine r_callVC (κ := 8) (μ := []) E (htab.trans rfl) hM my_X9_undo iv_X9_undo ml_L_115 cm_KO ⟨by decide, rfl, rfl⟩ rfl rfl rfl rfl (by decide) (Nat.le_of_ble_eq_true rfl) (dat dkL_undo 3 rfl) ?_ ?_
  · intro Ex M' hp
    obtain ⟨z1, z2, z3, z4, z5, z6, z7, z8, c1, c2, c3⟩ := E.2.2.2.2.2.2.2.1.2.2.2.2
    rcases hX Ex M' hp with rfl
    · refine ⟨_, loX_m, 11, ⟨[], ⟨0, 8, 11, 119⟩, [], "java/util/NoSuchElementException", rfl, (fun z hz => (nomatch hz)), rfl, by decide, bg_5 212 (by decide +kernel), nw_5 219 (by decide +kernel), rfl⟩, fun q => ?_⟩
      refine r_astX (i := 2) E (dat dkL_undo 7 rfl) rfl (Nat.le_of_ble_eq_true rfl) rfl (hc_of 1 rfl rfl) rfl ?_
      refine r_iconst (v := 1) E (dat dkL_undo 8 rfl) rfl ?_
      exact r_ireturn E (dat dkL_undo 9 rfl) (by decide) (by decide) (Or.inr (⟨M', hp, rfl, rfl⟩))
  · intro r M' hp
    obtain ⟨v, rfl⟩ := hr r M' hp
    refine ⟨_, loX_m, ?_⟩
    refine r_i2l E (dat dkL_undo 4 rfl) ?_
    refine r_last (N := 1) (x := v) E (dat dkL_undo 5 rfl) rfl rfl (by unfold vp_in; decide) rfl ?_
    refine r_goto (tgt := 14) E (dat dkL_undo 6 rfl) rfl ?_
    refine r_iconst (v := 0) E (dat dkL_undo 10 rfl) rfl ?_
    exact r_ireturn E (dat dkL_undo 11 rfl) (by decide) (by decide) (Or.inl ⟨v, M', hp, rfl, rfl⟩)
set_option maxHeartbeats 4000000 in
theorem sp_L_writeRow (l : Launch) (G : GT) (a : Int32) (M : Mem) (post : Option AV → Mem → Prop) (XP : String → Mem → Prop) (hM : MCx l G yX9_writeRow cX9_writeRow 4 (some .int) ({ frames := 6, cells := 4, slots := 24, locals := 82 } : Room) KC lkC [rv 0 0, iv a] M post XP) (hr : ∀ r M', post r M' → ∃ v, r = some (iv v)) (hX : ∀ Ex M', XP Ex M' → Ex = oobN) : MCw l G yL_writeRow cL_writeRow 4 (some .int) [(0, 9, 12, 13)] ({ frames := 7, cells := 4, slots := 24, locals := 105 } : Room) KO lkC [rv 0 0, iv a, rv 19 0] M (fun r M2 => (∃ v M', post (some (iv v)) M' ∧ r = some (iv 0) ∧ M2 = loV M M' v) ∨ (∃ M', XP oobN M' ∧ r = some (iv 1) ∧ M2 = loX M M')) := by
  refine MCw.of RL [some (rv 0 0), some (iv a), some (rv 19 0), none] 1 (by decide +kernel) rfl rfl rfl ?_
  intro pp ee ss mm aa bb me cd ad E htab
  refine r_aload_n E (dat dkL_writeRow 0 rfl) rfl rfl ?_
  refine r_iconst (v := 0) E (dat dkL_writeRow 1 rfl) rfl ?_
  refine r_aload_n E (dat dkL_writeRow 2 rfl) rfl rfl ?_
  refine r_iload_n E (dat dkL_writeRow 3 rfl) rfl rfl ?_
  refine r_callVC (κ := 8) (μ := []) E (htab.trans rfl) hM my_X9_writeRow iv_X9_writeRow ml_L_121 cm_KO ⟨by decide, rfl, rfl⟩ rfl rfl rfl rfl (by decide) (Nat.le_of_ble_eq_true rfl) (dat dkL_writeRow 4 rfl) ?_ ?_
  · intro Ex M' hp
    obtain ⟨z1, z2, z3, z4, z5, z6, z7, z8, c1, c2, c3⟩ := E.2.2.2.2.2.2.2.1.2.2.2.2
    rcases hX Ex M' hp with rfl
    · refine ⟨_, loX_m, 12, ⟨[], ⟨0, 9, 12, 13⟩, [], "java/lang/IndexOutOfBoundsException", rfl, (fun z hz => (nomatch hz)), rfl, by decide, bg_4 78 (by decide +kernel), nw_4 90 (by decide +kernel), rfl⟩, fun q => ?_⟩
      refine r_astX (i := 3) E (dat dkL_writeRow 8 rfl) rfl (Nat.le_of_ble_eq_true rfl) rfl (hc_of 2 rfl rfl) rfl ?_
      refine r_iconst (v := 1) E (dat dkL_writeRow 9 rfl) rfl ?_
      exact r_ireturn E (dat dkL_writeRow 10 rfl) (by decide) (by decide) (Or.inr (⟨M', hp, rfl, rfl⟩))
  · intro r M' hp
    obtain ⟨v, rfl⟩ := hr r M' hp
    refine ⟨_, loX_m, ?_⟩
    refine r_i2l E (dat dkL_writeRow 5 rfl) ?_
    refine r_last (N := 1) (x := v) E (dat dkL_writeRow 6 rfl) rfl rfl (by unfold vp_in; decide) rfl ?_
    refine r_goto (tgt := 15) E (dat dkL_writeRow 7 rfl) rfl ?_
    refine r_iconst (v := 0) E (dat dkL_writeRow 11 rfl) rfl ?_
    exact r_ireturn E (dat dkL_writeRow 12 rfl) (by decide) (by decide) (Or.inl ⟨v, M', hp, rfl, rfl⟩)
set_option maxHeartbeats 4000000 in
theorem sp_L_restoreState (l : Launch) (G : GT) (M : Mem) (post : Option AV → Mem → Prop) (XP : String → Mem → Prop) (hM : MCx l G yX9_restoreState cX9_restoreState 1 (some .int) ({ frames := 6, cells := 1, slots := 6, locals := 82 } : Room) KC lkC [rv 0 0] M post XP) (hr : ∀ r M', post r M' → ∃ v, r = some (iv v)) (hX : ∀ Ex M', XP Ex M' → Ex = nseN) : MCw l G yL_restoreState cL_restoreState 3 (some .int) [(0, 8, 11, 119)] ({ frames := 7, cells := 1, slots := 6, locals := 102 } : Room) KO lkC [rv 0 0, rv 19 0] M (fun r M2 => (∃ v M', post (some (iv v)) M' ∧ r = some (iv 0) ∧ M2 = loV M M' v) ∨ (∃ M', XP nseN M' ∧ r = some (iv 1) ∧ M2 = loX M M')) := by
  refine MCw.of RL [some (rv 0 0), some (rv 19 0), none] 1 (by decide +kernel) rfl rfl rfl ?_
  intro pp ee ss mm aa bb me cd ad E htab
  refine r_aload_n E (dat dkL_restoreState 0 rfl) rfl rfl ?_
  refine r_iconst (v := 0) E (dat dkL_restoreState 1 rfl) rfl ?_
  refine r_aload_n E (dat dkL_restoreState 2 rfl) rfl rfl ?_
  refine r_callVC (κ := 8) (μ := []) E (htab.trans rfl) hM my_X9_restoreState iv_X9_restoreState ml_L_124 cm_KO ⟨by decide, rfl, rfl⟩ rfl rfl rfl rfl (by decide) (Nat.le_of_ble_eq_true rfl) (dat dkL_restoreState 3 rfl) ?_ ?_
  · intro Ex M' hp
    obtain ⟨z1, z2, z3, z4, z5, z6, z7, z8, c1, c2, c3⟩ := E.2.2.2.2.2.2.2.1.2.2.2.2
    rcases hX Ex M' hp with rfl
    · refine ⟨_, loX_m, 11, ⟨[], ⟨0, 8, 11, 119⟩, [], "java/util/NoSuchElementException", rfl, (fun z hz => (nomatch hz)), rfl, by decide, bg_5 212 (by decide +kernel), nw_5 219 (by decide +kernel), rfl⟩, fun q => ?_⟩
      refine r_astX (i := 2) E (dat dkL_restoreState 7 rfl) rfl (Nat.le_of_ble_eq_true rfl) rfl (hc_of 1 rfl rfl) rfl ?_
      refine r_iconst (v := 1) E (dat dkL_restoreState 8 rfl) rfl ?_
      exact r_ireturn E (dat dkL_restoreState 9 rfl) (by decide) (by decide) (Or.inr (⟨M', hp, rfl, rfl⟩))
  · intro r M' hp
    obtain ⟨v, rfl⟩ := hr r M' hp
    refine ⟨_, loX_m, ?_⟩
    refine r_i2l E (dat dkL_restoreState 4 rfl) ?_
    refine r_last (N := 1) (x := v) E (dat dkL_restoreState 5 rfl) rfl rfl (by unfold vp_in; decide) rfl ?_
    refine r_goto (tgt := 14) E (dat dkL_restoreState 6 rfl) rfl ?_
    refine r_iconst (v := 0) E (dat dkL_restoreState 10 rfl) rfl ?_
    exact r_ireturn E (dat dkL_restoreState 11 rfl) (by decide) (by decide) (Or.inl ⟨v, M', hp, rfl, rfl⟩)
