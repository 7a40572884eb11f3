/-! the reference's changes -/
theorem Mrg_rm {N : Nat} {M M1 : Mem} {P B : Nat → Int32} {k : Nat} (hN : 0 < N) (h1 : M1 = rmM (vw [] M) P B k) : Mrg N [] M M1 (rmM M P B k) := Mrg_e (i := 0) (fun j _ h => h) hN rfl h1
theorem Mrg_md2 {N : Nat} {M M1 : Mem} {B : Nat → Int32} (hN : 0 < N) (h1 : M1 = md (vw [] M) B) : Mrg N [] M M1 (md M B) := Mrg_e (i := 0) (fun j _ h => h) hN rfl h1
theorem tri (p q : Prop) : (p ∧ q) ∨ (¬ p) ∨ (p ∧ ¬ q) := by
  by_cases h1 : p
  · by_cases h2 : q
    · exact Or.inl ⟨h1, h2⟩
    · exact Or.inr (Or.inr ⟨h1, h2⟩)
  · exact Or.inr (Or.inl h1)
set_option maxRecDepth 100000 in
set_option maxHeartbeats 4000000 in
theorem sp_X10_setRain (l : Launch) (G : GT) (A0 : Nat → Int32) (x : PP) (T : Nat → Nat → Int32) (P : Nat → Int32) (k : Nat) (a : Int32) (M : Mem) (hA : M 0 1 = enc A0 x T) (hx : PIv x) (hP : M 0 4 = P) (hk : M 0 0 4 = nI k) (hk8 : k ≤ 8) : MC l G yX10_setRain cX10_setRain 2 (some .int) ({ frames := 1, cells := 0, slots := 0, locals := 25 } : Room) [9] lk0 [rv 0 0, iv a] (M) (fun r M2 => ((0 ≤ a ∧ a ≤ 9) ∧ M2 = md (rmM (mt M 0) P (enc A0 x T) k) (enc A0 x (raT T a)) ∧ r = some (iv (T 0 8))) ∨ (¬ (0 ≤ a ∧ a ≤ 9) ∧ M2 = mt M 1 ∧ r = some (iv 0))) := by
  refine MC.of RX10 [some (rv 0 0), some (iv a)] 0 (by decide +kernel) rfl rfl rfl ?_
  intro pp ee ss mm aa bb me cd ad E
  obtain ⟨M0, rfl⟩ : ∃ M0, M = md M0 (enc A0 x T) := ⟨M, (md_of hA).symm⟩
  clear hA
  have hn64 := (PIv_z hx).1
  
  by_cases hr : 0 ≤ a ∧ a ≤ 9
  ·
    refine r_aload_n E (dat dkX10_setRain 0 rfl) rfl rfl ?_
    refine r_iload_n E (dat dkX10_setRain 1 rfl) rfl rfl ?_
    refine r_i2l E (dat dkX10_setRain 2 rfl) ?_
    refine r_lconst E (dat dkX10_setRain 3 rfl) rfl ?_
    refine r_ldc2 E cl_396 (dat dkX10_setRain 4 rfl) ?_
    refine r_callS (μ := []) E (sp_X10_isWithin l G (a).toInt64 0 (9 : Int32).toInt64 _) my_X10_isWithin is_X10_isWithin ml_X10_80 cm_nil rfl rfl (by decide) (Nat.le_of_ble_eq_true rfl) (dat dkX10_setRain 5 rfl) ?_
    rintro _ _ ⟨rfl, hM⟩
    refine ⟨_, Mrg_z hM, ?_⟩
    clear hM
    rw [show iwI (a).toInt64 0 (9 : Int32).toInt64 = 1 from iw_1 (lo := 0) hr.1 hr.2]
    refine r_iconst (v := 1) E (dat dkX10_setRain 6 rfl) rfl ?_
    refine r_iconst (v := 1) E (dat dkX10_setRain 7 rfl) rfl ?_
    refine r_callV (κ := 9) (μ := []) E (sp_X10_check l G (1) (1) (1) _) my_X10_check iv_X10_check ml_X10_329 cm_id ⟨by decide, rfl, rfl⟩ rfl rfl rfl rfl (by decide) (Nat.le_of_ble_eq_true rfl) (dat dkX10_setRain 8 rfl) ?_
    rintro _ _ ⟨rfl, rfl⟩
    refine ⟨_, Mrg_mt (by decide) rfl, ?_⟩
    rw [show ckI (1) (1) (1) = 0 from rfl, if_pos rfl]
    refine r_if_ne (tgt := 20) E (dat dkX10_setRain 9 rfl) rfl (fun h15 => ?_) (fun h15 => ?_)
    ·
      refine r_aload_n E (dat dkX10_setRain 12 rfl) rfl rfl ?_
      refine r_callV (κ := 9) (μ := []) E (sp_X10_remember l G P (enc A0 x T) k _ hP hk rfl hk8) my_X10_remember iv_X10_remember ml_X10_320 cm_id ⟨by decide, rfl, rfl⟩ rfl rfl rfl rfl (by decide) (Nat.le_of_ble_eq_true rfl) (dat dkX10_setRain 13 rfl) ?_
      rintro _ _ ⟨rfl, rfl⟩
      refine ⟨_, Mrg_rm (by decide) rfl, ?_⟩
      refine r_aload_n E (dat dkX10_setRain 14 rfl) rfl rfl ?_
      refine r_iload_n E (dat dkX10_setRain 15 rfl) rfl rfl ?_
      refine r_callV (κ := 9) (μ := []) E (sp_X10_changeRain l G A0 x T a _ rfl hx) my_X10_changeRain iv_X10_changeRain ml_X10_282 cm_id ⟨by decide, rfl, rfl⟩ rfl rfl rfl rfl (by decide) (Nat.le_of_ble_eq_true rfl) (dat dkX10_setRain 16 rfl) ?_
      rintro _ _ ⟨rfl, rfl⟩
      refine ⟨_, Mrg_md2 (by decide) rfl, ?_⟩
      refine r_ireturn E (dat dkX10_setRain 17 rfl) (by decide) (by decide) ?_
      exact Or.inl ⟨hr, rfl, rfl⟩
    ·
      exact absurd h15 (by decide)
  ·
    refine r_aload_n E (dat dkX10_setRain 0 rfl) rfl rfl ?_
    refine r_iload_n E (dat dkX10_setRain 1 rfl) rfl rfl ?_
    refine r_i2l E (dat dkX10_setRain 2 rfl) ?_
    refine r_lconst E (dat dkX10_setRain 3 rfl) rfl ?_
    refine r_ldc2 E cl_396 (dat dkX10_setRain 4 rfl) ?_
    refine r_callS (μ := []) E (sp_X10_isWithin l G (a).toInt64 0 (9 : Int32).toInt64 _) my_X10_isWithin is_X10_isWithin ml_X10_80 cm_nil rfl rfl (by decide) (Nat.le_of_ble_eq_true rfl) (dat dkX10_setRain 5 rfl) ?_
    rintro _ _ ⟨rfl, hM⟩
    refine ⟨_, Mrg_z hM, ?_⟩
    clear hM
    rw [show iwI (a).toInt64 0 (9 : Int32).toInt64 = 0 from iw_0 (lo := 0) hr]
    refine r_iconst (v := 1) E (dat dkX10_setRain 6 rfl) rfl ?_
    refine r_iconst (v := 1) E (dat dkX10_setRain 7 rfl) rfl ?_
    refine r_callV (κ := 9) (μ := []) E (sp_X10_check l G (0) (1) (1) _) my_X10_check iv_X10_check ml_X10_329 cm_id ⟨by decide, rfl, rfl⟩ rfl rfl rfl rfl (by decide) (Nat.le_of_ble_eq_true rfl) (dat dkX10_setRain 8 rfl) ?_
    rintro _ _ ⟨rfl, rfl⟩
    refine ⟨_, Mrg_mt (by decide) rfl, ?_⟩
    rw [show ckI (0) (1) (1) = 1 from if_pos rfl, if_neg (by decide)]
    refine r_if_ne (tgt := 20) E (dat dkX10_setRain 9 rfl) rfl (fun h15 => ?_) (fun h15 => ?_)
    ·
      exact absurd rfl h15
    ·
      refine r_iconst (v := 0) E (dat dkX10_setRain 10 rfl) rfl ?_
      refine r_ireturn E (dat dkX10_setRain 11 rfl) (by decide) (by decide) ?_
      exact Or.inr ⟨hr, rfl, rfl⟩

set_option maxRecDepth 100000 in
set_option maxHeartbeats 4000000 in
theorem sp_X10_sweep (l : Launch) (G : GT) (A0 : Nat → Int32) (x : PP) (T : Nat → Nat → Int32) (P : Nat → Int32) (k : Nat) (a : Int32) (M : Mem) (hA : M 0 1 = enc A0 x T) (hx : PIv x) (hP : M 0 4 = P) (hk : M 0 0 4 = nI k) (hk8 : k ≤ 8) : MC l G yX10_sweep cX10_sweep 2 (some .int) ({ frames := 3, cells := 0, slots := 0, locals := 67 } : Room) [9] lk0 [rv 0 0, iv a] (M) (fun r M2 => (∃ c, c < x.1.2.2 ∧ a = nI c ∧ M2 = md (rmM (mt M 0) P (enc A0 x T) k) (enc A0 x (swT T c)) ∧ r = some (iv (T 2 c))) ∨ (¬ okc x a ∧ M2 = mt M 1 ∧ r = some (iv 0))) := by
  refine MC.of RX10 [some (rv 0 0), some (iv a)] 0 (by decide +kernel) rfl rfl rfl ?_
  intro pp ee ss mm aa bb me cd ad E
  obtain ⟨M0, rfl⟩ : ∃ M0, M = md M0 (enc A0 x T) := ⟨M, (md_of hA).symm⟩
  clear hA
  have hn64 := (PIv_z hx).1
  
  by_cases hko : okc x a
  ·
    obtain ⟨c, hc, rfl⟩ := hko
    refine r_aload_n E (dat dkX10_sweep 0 rfl) rfl rfl ?_
    refine r_iload_n E (dat dkX10_sweep 1 rfl) rfl rfl ?_
    refine r_callV (κ := 9) (μ := []) E (sp_X10_checkCell l G A0 x T (nI c) _ md_a hx) my_X10_checkCell iv_X10_checkCell ml_X10_333 cm_id ⟨by decide, rfl, rfl⟩ rfl rfl rfl rfl (by decide) (Nat.le_of_ble_eq_true rfl) (dat dkX10_sweep 2 rfl) ?_
    rintro _ _ ⟨rfl, rfl⟩
    refine ⟨_, Mrg_mt (by decide) rfl, ?_⟩
    rw [ic_1 hx ⟨c, hc, rfl⟩, show ckI 1 1 1 = 0 from rfl, if_pos rfl]
    refine r_if_ne (tgt := 10) E (dat dkX10_sweep 3 rfl) rfl (fun h5 => ?_) (fun h5 => ?_)
    ·
      refine r_aload_n E (dat dkX10_sweep 6 rfl) rfl rfl ?_
      refine r_callV (κ := 9) (μ := []) E (sp_X10_remember l G P (enc A0 x T) k _ hP hk rfl hk8) my_X10_remember iv_X10_remember ml_X10_320 cm_id ⟨by decide, rfl, rfl⟩ rfl rfl rfl rfl (by decide) (Nat.le_of_ble_eq_true rfl) (dat dkX10_sweep 7 rfl) ?_
      rintro _ _ ⟨rfl, rfl⟩
      refine ⟨_, Mrg_rm (by decide) rfl, ?_⟩
      refine r_aload_n E (dat dkX10_sweep 8 rfl) rfl rfl ?_
      refine r_iload_n E (dat dkX10_sweep 9 rfl) rfl rfl ?_
      refine r_callV (κ := 9) (μ := []) E (sp_X10_sweepFrom l G A0 x T c _ rfl hx hc) my_X10_sweepFrom iv_X10_sweepFrom ml_X10_295 cm_id ⟨by decide, rfl, rfl⟩ rfl rfl rfl rfl (by decide) (Nat.le_of_ble_eq_true rfl) (dat dkX10_sweep 10 rfl) ?_
      rintro _ _ ⟨rfl, rfl⟩
      refine ⟨_, Mrg_md2 (by decide) rfl, ?_⟩
      refine r_ireturn E (dat dkX10_sweep 11 rfl) (by decide) (by decide) ?_
      exact Or.inl ⟨c, hc, rfl, rfl, rfl⟩
    ·
      exact absurd h5 (by decide)
  ·
    refine r_aload_n E (dat dkX10_sweep 0 rfl) rfl rfl ?_
    refine r_iload_n E (dat dkX10_sweep 1 rfl) rfl rfl ?_
    refine r_callV (κ := 9) (μ := []) E (sp_X10_checkCell l G A0 x T a _ md_a hx) my_X10_checkCell iv_X10_checkCell ml_X10_333 cm_id ⟨by decide, rfl, rfl⟩ rfl rfl rfl rfl (by decide) (Nat.le_of_ble_eq_true rfl) (dat dkX10_sweep 2 rfl) ?_
    rintro _ _ ⟨rfl, rfl⟩
    refine ⟨_, Mrg_mt (by decide) rfl, ?_⟩
    rw [ic_0 hx hko, show ckI 0 1 1 = 1 from rfl, if_neg (by decide)]
    refine r_if_ne (tgt := 10) E (dat dkX10_sweep 3 rfl) rfl (fun h5 => ?_) (fun h5 => ?_)
    ·
      exact absurd rfl h5
    ·
      refine r_iconst (v := 0) E (dat dkX10_sweep 4 rfl) rfl ?_
      refine r_ireturn E (dat dkX10_sweep 5 rfl) (by decide) (by decide) ?_
      exact Or.inr ⟨hko, rfl, rfl⟩

set_option maxRecDepth 100000 in
set_option maxHeartbeats 4000000 in
theorem sp_X10_dropLeaves (l : Launch) (G : GT) (A0 : Nat → Int32) (x : PP) (T : Nat → Nat → Int32) (P : Nat → Int32) (k : Nat) (a d : Int32) (M : Mem) (hA : M 0 1 = enc A0 x T) (hx : PIv x) (hP : M 0 4 = P) (hk : M 0 0 4 = nI k) (hk8 : k ≤ 8) : MC l G yX10_dropLeaves cX10_dropLeaves 3 (some .int) ({ frames := 3, cells := 0, slots := 0, locals := 65 } : Room) [9] lk0 [rv 0 0, iv a, iv d] (M) (fun r M2 => (∃ c, c < x.1.2.2 ∧ a = nI c ∧ (1 ≤ d ∧ d ≤ 9) ∧ M2 = md (rmM (mt M 0) P (enc A0 x T) k) (enc A0 x (lvT T c d)) ∧ r = some (iv (lvT T c d 2 c))) ∨ (¬ okc x a ∧ M2 = mt M 1 ∧ r = some (iv 0)) ∨ ((okc x a ∧ ¬ (1 ≤ d ∧ d ≤ 9)) ∧ M2 = mt M 2 ∧ r = some (iv 0))) := by
  refine MC.of RX10 [some (rv 0 0), some (iv a), some (iv d)] 0 (by decide +kernel) rfl rfl rfl ?_
  intro pp ee ss mm aa bb me cd ad E
  obtain ⟨M0, rfl⟩ : ∃ M0, M = md M0 (enc A0 x T) := ⟨M, (md_of hA).symm⟩
  clear hA
  have hn64 := (PIv_z hx).1
  
  rcases tri (okc x a) (1 ≤ d ∧ d ≤ 9) with ⟨hko, hr⟩ | hko | ⟨hko, hr⟩
  ·
    obtain ⟨c, hc, rfl⟩ := hko
    refine r_aload_n E (dat dkX10_dropLeaves 0 rfl) rfl rfl ?_
    refine r_aload_n E (dat dkX10_dropLeaves 1 rfl) rfl rfl ?_
    refine r_iload_n E (dat dkX10_dropLeaves 2 rfl) rfl rfl ?_
    refine r_callV (κ := 9) (μ := []) E (sp_X10_isCell l G A0 x T (nI c) _ md_a hx) my_X10_isCell iv_X10_isCell ml_X10_326 cm_id ⟨by decide, rfl, rfl⟩ rfl rfl rfl rfl (by decide) (Nat.le_of_ble_eq_true rfl) (dat dkX10_dropLeaves 3 rfl) ?_
    rintro _ _ ⟨rfl, rfl⟩
    refine ⟨_, Mrg_z rfl, ?_⟩
    rw [ic_1 hx ⟨c, hc, rfl⟩]
    refine r_iload_n E (dat dkX10_dropLeaves 4 rfl) rfl rfl ?_
    refine r_i2l E (dat dkX10_dropLeaves 5 rfl) ?_
    refine r_lconst E (dat dkX10_dropLeaves 6 rfl) rfl ?_
    refine r_ldc2 E cl_396 (dat dkX10_dropLeaves 7 rfl) ?_
    refine r_callS (μ := []) E (sp_X10_isWithin l G (d).toInt64 1 (9 : Int32).toInt64 _) my_X10_isWithin is_X10_isWithin ml_X10_80 cm_nil rfl rfl (by decide) (Nat.le_of_ble_eq_true rfl) (dat dkX10_dropLeaves 8 rfl) ?_
    rintro _ _ ⟨rfl, hM⟩
    refine ⟨_, Mrg_z hM, ?_⟩
    clear hM
    rw [show iwI (d).toInt64 1 (9 : Int32).toInt64 = 1 from iw_1 (lo := 1) hr.1 hr.2]
    refine r_iconst (v := 1) E (dat dkX10_dropLeaves 9 rfl) rfl ?_
    refine r_callV (κ := 9) (μ := []) E (sp_X10_check l G (1) (1) (1) _) my_X10_check iv_X10_check ml_X10_329 cm_id ⟨by decide, rfl, rfl⟩ rfl rfl rfl rfl (by decide) (Nat.le_of_ble_eq_true rfl) (dat dkX10_dropLeaves 10 rfl) ?_
    rintro _ _ ⟨rfl, rfl⟩
    refine ⟨_, Mrg_mt (by decide) rfl, ?_⟩
    rw [show ckI (1) (1) (1) = 0 from rfl, if_pos rfl]
    refine r_if_ne (tgt := 24) E (dat dkX10_dropLeaves 11 rfl) rfl (fun h19 => ?_) (fun h19 => ?_)
    ·
      refine r_aload_n E (dat dkX10_dropLeaves 14 rfl) rfl rfl ?_
      refine r_callV (κ := 9) (μ := []) E (sp_X10_remember l G P (enc A0 x T) k _ hP hk rfl hk8) my_X10_remember iv_X10_remember ml_X10_320 cm_id ⟨by decide, rfl, rfl⟩ rfl rfl rfl rfl (by decide) (Nat.le_of_ble_eq_true rfl) (dat dkX10_dropLeaves 15 rfl) ?_
      rintro _ _ ⟨rfl, rfl⟩
      refine ⟨_, Mrg_rm (by decide) rfl, ?_⟩
      refine r_aload_n E (dat dkX10_dropLeaves 16 rfl) rfl rfl ?_
      refine r_iload_n E (dat dkX10_dropLeaves 17 rfl) rfl rfl ?_
      refine r_iload_n E (dat dkX10_dropLeaves 18 rfl) rfl rfl ?_
      refine r_callV (κ := 9) (μ := []) E (sp_X10_dropOn l G A0 x T c d _ rfl hx hc) my_X10_dropOn iv_X10_dropOn ml_X10_292 cm_id ⟨by decide, rfl, rfl⟩ rfl rfl rfl rfl (by decide) (Nat.le_of_ble_eq_true rfl) (dat dkX10_dropLeaves 19 rfl) ?_
      rintro _ _ ⟨rfl, rfl⟩
      refine ⟨_, Mrg_md2 (by decide) rfl, ?_⟩
      refine r_ireturn E (dat dkX10_dropLeaves 20 rfl) (by decide) (by decide) ?_
      exact Or.inl ⟨c, hc, rfl, hr, rfl, rfl⟩
    ·
      exact absurd h19 (by decide)
  ·
    refine r_aload_n E (dat dkX10_dropLeaves 0 rfl) rfl rfl ?_
    refine r_aload_n E (dat dkX10_dropLeaves 1 rfl) rfl rfl ?_
    refine r_iload_n E (dat dkX10_dropLeaves 2 rfl) rfl rfl ?_
    refine r_callV (κ := 9) (μ := []) E (sp_X10_isCell l G A0 x T a _ md_a hx) my_X10_isCell iv_X10_isCell ml_X10_326 cm_id ⟨by decide, rfl, rfl⟩ rfl rfl rfl rfl (by decide) (Nat.le_of_ble_eq_true rfl) (dat dkX10_dropLeaves 3 rfl) ?_
    rintro _ _ ⟨rfl, rfl⟩
    refine ⟨_, Mrg_z rfl, ?_⟩
    rw [ic_0 hx hko]
    refine r_iload_n E (dat dkX10_dropLeaves 4 rfl) rfl rfl ?_
    refine r_i2l E (dat dkX10_dropLeaves 5 rfl) ?_
    refine r_lconst E (dat dkX10_dropLeaves 6 rfl) rfl ?_
    refine r_ldc2 E cl_396 (dat dkX10_dropLeaves 7 rfl) ?_
    refine r_callS (μ := []) E (sp_X10_isWithin l G (d).toInt64 1 (9 : Int32).toInt64 _) my_X10_isWithin is_X10_isWithin ml_X10_80 cm_nil rfl rfl (by decide) (Nat.le_of_ble_eq_true rfl) (dat dkX10_dropLeaves 8 rfl) ?_
    rintro _ _ ⟨rfl, hM⟩
    refine ⟨_, Mrg_z hM, ?_⟩
    clear hM
    refine r_iconst (v := 1) E (dat dkX10_dropLeaves 9 rfl) rfl ?_
    refine r_callV (κ := 9) (μ := []) E (sp_X10_check l G (0) (iwI d.toInt64 1 (9 : Int32).toInt64) (1) _) my_X10_check iv_X10_check ml_X10_329 cm_id ⟨by decide, rfl, rfl⟩ rfl rfl rfl rfl (by decide) (Nat.le_of_ble_eq_true rfl) (dat dkX10_dropLeaves 10 rfl) ?_
    rintro _ _ ⟨rfl, rfl⟩
    refine ⟨_, Mrg_mt (by decide) rfl, ?_⟩
    rw [show ckI (0) (iwI d.toInt64 1 (9 : Int32).toInt64) (1) = 1 from if_pos rfl, if_neg (by decide)]
    refine r_if_ne (tgt := 24) E (dat dkX10_dropLeaves 11 rfl) rfl (fun h19 => ?_) (fun h19 => ?_)
    ·
      exact absurd rfl h19
    ·
      refine r_iconst (v := 0) E (dat dkX10_dropLeaves 12 rfl) rfl ?_
      refine r_ireturn E (dat dkX10_dropLeaves 13 rfl) (by decide) (by decide) ?_
      exact Or.inr (Or.inl ⟨hko, rfl, rfl⟩)
  ·
    have hko2 := hko
    obtain ⟨c, hc, rfl⟩ := hko
    refine r_aload_n E (dat dkX10_dropLeaves 0 rfl) rfl rfl ?_
    refine r_aload_n E (dat dkX10_dropLeaves 1 rfl) rfl rfl ?_
    refine r_iload_n E (dat dkX10_dropLeaves 2 rfl) rfl rfl ?_
    refine r_callV (κ := 9) (μ := []) E (sp_X10_isCell l G A0 x T (nI c) _ md_a hx) my_X10_isCell iv_X10_isCell ml_X10_326 cm_id ⟨by decide, rfl, rfl⟩ rfl rfl rfl rfl (by decide) (Nat.le_of_ble_eq_true rfl) (dat dkX10_dropLeaves 3 rfl) ?_
    rintro _ _ ⟨rfl, rfl⟩
    refine ⟨_, Mrg_z rfl, ?_⟩
    rw [ic_1 hx ⟨c, hc, rfl⟩]
    refine r_iload_n E (dat dkX10_dropLeaves 4 rfl) rfl rfl ?_
    refine r_i2l E (dat dkX10_dropLeaves 5 rfl) ?_
    refine r_lconst E (dat dkX10_dropLeaves 6 rfl) rfl ?_
    refine r_ldc2 E cl_396 (dat dkX10_dropLeaves 7 rfl) ?_
    refine r_callS (μ := []) E (sp_X10_isWithin l G (d).toInt64 1 (9 : Int32).toInt64 _) my_X10_isWithin is_X10_isWithin ml_X10_80 cm_nil rfl rfl (by decide) (Nat.le_of_ble_eq_true rfl) (dat dkX10_dropLeaves 8 rfl) ?_
    rintro _ _ ⟨rfl, hM⟩
    refine ⟨_, Mrg_z hM, ?_⟩
    clear hM
    rw [show iwI (d).toInt64 1 (9 : Int32).toInt64 = 0 from iw_0 (lo := 1) hr]
    refine r_iconst (v := 1) E (dat dkX10_dropLeaves 9 rfl) rfl ?_
    refine r_callV (κ := 9) (μ := []) E (sp_X10_check l G (1) (0) (1) _) my_X10_check iv_X10_check ml_X10_329 cm_id ⟨by decide, rfl, rfl⟩ rfl rfl rfl rfl (by decide) (Nat.le_of_ble_eq_true rfl) (dat dkX10_dropLeaves 10 rfl) ?_
    rintro _ _ ⟨rfl, rfl⟩
    refine ⟨_, Mrg_mt (by decide) rfl, ?_⟩
    rw [show ckI (1) (0) (1) = 2 from rfl, if_neg (by decide)]
    refine r_if_ne (tgt := 24) E (dat dkX10_dropLeaves 11 rfl) rfl (fun h19 => ?_) (fun h19 => ?_)
    ·
      exact absurd rfl h19
    ·
      refine r_iconst (v := 0) E (dat dkX10_dropLeaves 12 rfl) rfl ?_
      refine r_ireturn E (dat dkX10_dropLeaves 13 rfl) (by decide) (by decide) ?_
      exact Or.inr (Or.inr ⟨⟨hko2, hr⟩, rfl, rfl⟩)

set_option maxRecDepth 100000 in
set_option maxHeartbeats 4000000 in
theorem sp_X10_shut (l : Launch) (G : GT) (A0 : Nat → Int32) (x : PP) (T : Nat → Nat → Int32) (P : Nat → Int32) (k : Nat) (a : Int32) (M : Mem) (hA : M 0 1 = enc A0 x T) (hx : PIv x) (hP : M 0 4 = P) (hk : M 0 0 4 = nI k) (hk8 : k ≤ 8) : MC l G yX10_shut cX10_shut 3 (some .int) ({ frames := 3, cells := 0, slots := 0, locals := 64 } : Room) [9] lk0 [rv 0 0, iv a] (M) (fun r M2 => (∃ c, c < x.1.2.2 ∧ a = nI c ∧ 0 < T 4 c ∧ M2 = md (rmM (mt M 0) P (enc A0 x T) k) (enc A0 x (shT T c)) ∧ r = some (iv (T 4 c))) ∨ (¬ okc x a ∧ M2 = mt M 1 ∧ r = some (iv 0)) ∨ ((∃ c, c < x.1.2.2 ∧ a = nI c ∧ ¬ 0 < T 4 c) ∧ M2 = mt M 2 ∧ r = some (iv 0))) := by
  refine MC.of RX10 [some (rv 0 0), some (iv a), none] 1 (by decide +kernel) rfl rfl rfl ?_
  intro pp ee ss mm aa bb me cd ad E
  obtain ⟨M0, rfl⟩ : ∃ M0, M = md M0 (enc A0 x T) := ⟨M, (md_of hA).symm⟩
  clear hA
  have hn64 := (PIv_z hx).1
  
  rcases tri (okc x a) (∃ c, c < x.1.2.2 ∧ a = nI c ∧ 0 < T 4 c) with ⟨-, hko⟩ | hko | ⟨hko, hr⟩
  ·
    obtain ⟨c, hc, rfl, h4⟩ := hko
    refine r_aload_n E (dat dkX10_shut 0 rfl) rfl rfl ?_
    refine r_iload_n E (dat dkX10_shut 1 rfl) rfl rfl ?_
    refine r_callV (κ := 9) (μ := []) E (sp_X10_isCell l G A0 x T (nI c) _ md_a hx) my_X10_isCell iv_X10_isCell ml_X10_326 cm_id ⟨by decide, rfl, rfl⟩ rfl rfl rfl rfl (by decide) (Nat.le_of_ble_eq_true rfl) (dat dkX10_shut 2 rfl) ?_
    rintro _ _ ⟨rfl, rfl⟩
    refine ⟨_, Mrg_z rfl, ?_⟩
    rw [ic_1 hx ⟨c, hc, rfl⟩]
    refine r_istore_2 E (dat dkX10_shut 3 rfl) rfl rfl ?_
    refine r_aload_n E (dat dkX10_shut 4 rfl) rfl rfl ?_
    refine r_iload_n E (dat dkX10_shut 5 rfl) rfl rfl ?_
    refine r_iload_n E (dat dkX10_shut 6 rfl) rfl rfl ?_
    refine r_if_eq (tgt := 25) E (dat dkX10_shut 7 rfl) rfl (fun h9 => ?_) (fun h9 => ?_)
    ·
      exact absurd h9 (by decide)
    ·
      refine r_aload_n E (dat dkX10_shut 8 rfl) rfl rfl ?_
      refine r_iload_n E (dat dkX10_shut 9 rfl) rfl rfl ?_
      refine r_iconst (v := 5) E (dat dkX10_shut 10 rfl) rfl ?_
      refine r_callV (κ := 9) (μ := []) E (sp_X10_get l G c 5 _ _ md_a (by omega) (by decide)) my_X10_get iv_X10_get ml_X10_76 cm_id ⟨by decide, rfl, rfl⟩ rfl rfl rfl rfl (by decide) (Nat.le_of_ble_eq_true rfl) (dat dkX10_shut 11 rfl) ?_
      rintro _ _ ⟨rfl, rfl⟩
      refine ⟨_, Mrg_z rfl, ?_⟩
      rw [e_t hc hn64]
      refine r_if_le (tgt := 25) E (dat dkX10_shut 12 rfl) rfl (fun h18 => ?_) (fun h18 => ?_)
      ·
        exact absurd h4 (Int32.not_lt.mpr h18)
      ·
        refine r_iconst (v := 1) E (dat dkX10_shut 13 rfl) rfl ?_
        refine r_goto (tgt := 26) E (dat dkX10_shut 14 rfl) rfl ?_
        refine r_iconst (v := 1) E (dat dkX10_shut 16 rfl) rfl ?_
        refine r_callV (κ := 9) (μ := []) E (sp_X10_check l G (1) (1) (1) _) my_X10_check iv_X10_check ml_X10_329 cm_id ⟨by decide, rfl, rfl⟩ rfl rfl rfl rfl (by decide) (Nat.le_of_ble_eq_true rfl) (dat dkX10_shut 17 rfl) ?_
        rintro _ _ ⟨rfl, rfl⟩
        refine ⟨_, Mrg_mt (by decide) rfl, ?_⟩
        rw [show ckI (1) (1) (1) = 0 from rfl, if_pos rfl]
        refine r_if_ne (tgt := 35) E (dat dkX10_shut 18 rfl) rfl (fun h30 => ?_) (fun h30 => ?_)
        ·
          refine r_aload_n E (dat dkX10_shut 21 rfl) rfl rfl ?_
          refine r_callV (κ := 9) (μ := []) E (sp_X10_remember l G P (enc A0 x T) k _ hP hk rfl hk8) my_X10_remember iv_X10_remember ml_X10_320 cm_id ⟨by decide, rfl, rfl⟩ rfl rfl rfl rfl (by decide) (Nat.le_of_ble_eq_true rfl) (dat dkX10_shut 22 rfl) ?_
          rintro _ _ ⟨rfl, rfl⟩
          refine ⟨_, Mrg_rm (by decide) rfl, ?_⟩
          refine r_aload_n E (dat dkX10_shut 23 rfl) rfl rfl ?_
          refine r_iload_n E (dat dkX10_shut 24 rfl) rfl rfl ?_
          refine r_callV (κ := 9) (μ := []) E (sp_X10_shutHydrant l G A0 x T c _ rfl hx hc) my_X10_shutHydrant iv_X10_shutHydrant ml_X10_289 cm_id ⟨by decide, rfl, rfl⟩ rfl rfl rfl rfl (by decide) (Nat.le_of_ble_eq_true rfl) (dat dkX10_shut 25 rfl) ?_
          rintro _ _ ⟨rfl, rfl⟩
          refine ⟨_, Mrg_md2 (by decide) rfl, ?_⟩
          refine r_ireturn E (dat dkX10_shut 26 rfl) (by decide) (by decide) ?_
          exact Or.inl ⟨c, hc, rfl, h4, rfl, rfl⟩
        ·
          exact absurd h30 (by decide)
  ·
    refine r_aload_n E (dat dkX10_shut 0 rfl) rfl rfl ?_
    refine r_iload_n E (dat dkX10_shut 1 rfl) rfl rfl ?_
    refine r_callV (κ := 9) (μ := []) E (sp_X10_isCell l G A0 x T a _ md_a hx) my_X10_isCell iv_X10_isCell ml_X10_326 cm_id ⟨by decide, rfl, rfl⟩ rfl rfl rfl rfl (by decide) (Nat.le_of_ble_eq_true rfl) (dat dkX10_shut 2 rfl) ?_
    rintro _ _ ⟨rfl, rfl⟩
    refine ⟨_, Mrg_z rfl, ?_⟩
    rw [ic_0 hx hko]
    refine r_istore_2 E (dat dkX10_shut 3 rfl) rfl rfl ?_
    refine r_aload_n E (dat dkX10_shut 4 rfl) rfl rfl ?_
    refine r_iload_n E (dat dkX10_shut 5 rfl) rfl rfl ?_
    refine r_iload_n E (dat dkX10_shut 6 rfl) rfl rfl ?_
    refine r_if_eq (tgt := 25) E (dat dkX10_shut 7 rfl) rfl (fun h9 => ?_) (fun h9 => ?_)
    ·
      refine r_iconst (v := 0) E (dat dkX10_shut 15 rfl) rfl ?_
      refine r_iconst (v := 1) E (dat dkX10_shut 16 rfl) rfl ?_
      refine r_callV (κ := 9) (μ := []) E (sp_X10_check l G (0) (0) (1) _) my_X10_check iv_X10_check ml_X10_329 cm_id ⟨by decide, rfl, rfl⟩ rfl rfl rfl rfl (by decide) (Nat.le_of_ble_eq_true rfl) (dat dkX10_shut 17 rfl) ?_
      rintro _ _ ⟨rfl, rfl⟩
      refine ⟨_, Mrg_mt (by decide) rfl, ?_⟩
      rw [show ckI (0) (0) (1) = 1 from if_pos rfl, if_neg (by decide)]
      refine r_if_ne (tgt := 35) E (dat dkX10_shut 18 rfl) rfl (fun h30 => ?_) (fun h30 => ?_)
      ·
        exact absurd rfl h30
      ·
        refine r_iconst (v := 0) E (dat dkX10_shut 19 rfl) rfl ?_
        refine r_ireturn E (dat dkX10_shut 20 rfl) (by decide) (by decide) ?_
        exact Or.inr (Or.inl ⟨hko, rfl, rfl⟩)
    ·
      exact absurd rfl h9
  ·
    obtain ⟨c, hc, rfl⟩ := hko
    have h4 : ¬ 0 < T 4 c := fun q => hr ⟨c, hc, rfl, q⟩
    refine r_aload_n E (dat dkX10_shut 0 rfl) rfl rfl ?_
    refine r_iload_n E (dat dkX10_shut 1 rfl) rfl rfl ?_
    refine r_callV (κ := 9) (μ := []) E (sp_X10_isCell l G A0 x T (nI c) _ md_a hx) my_X10_isCell iv_X10_isCell ml_X10_326 cm_id ⟨by decide, rfl, rfl⟩ rfl rfl rfl rfl (by decide) (Nat.le_of_ble_eq_true rfl) (dat dkX10_shut 2 rfl) ?_
    rintro _ _ ⟨rfl, rfl⟩
    refine ⟨_, Mrg_z rfl, ?_⟩
    rw [ic_1 hx ⟨c, hc, rfl⟩]
    refine r_istore_2 E (dat dkX10_shut 3 rfl) rfl rfl ?_
    refine r_aload_n E (dat dkX10_shut 4 rfl) rfl rfl ?_
    refine r_iload_n E (dat dkX10_shut 5 rfl) rfl rfl ?_
    refine r_iload_n E (dat dkX10_shut 6 rfl) rfl rfl ?_
    refine r_if_eq (tgt := 25) E (dat dkX10_shut 7 rfl) rfl (fun h9 => ?_) (fun h9 => ?_)
    ·
      exact absurd h9 (by decide)
    ·
      refine r_aload_n E (dat dkX10_shut 8 rfl) rfl rfl ?_
      refine r_iload_n E (dat dkX10_shut 9 rfl) rfl rfl ?_
      refine r_iconst (v := 5) E (dat dkX10_shut 10 rfl) rfl ?_
      refine r_callV (κ := 9) (μ := []) E (sp_X10_get l G c 5 _ _ md_a (by omega) (by decide)) my_X10_get iv_X10_get ml_X10_76 cm_id ⟨by decide, rfl, rfl⟩ rfl rfl rfl rfl (by decide) (Nat.le_of_ble_eq_true rfl) (dat dkX10_shut 11 rfl) ?_
      rintro _ _ ⟨rfl, rfl⟩
      refine ⟨_, Mrg_z rfl, ?_⟩
      rw [e_t hc hn64]
      refine r_if_le (tgt := 25) E (dat dkX10_shut 12 rfl) rfl (fun h18 => ?_) (fun h18 => ?_)
      ·
        refine r_iconst (v := 0) E (dat dkX10_shut 15 rfl) rfl ?_
        refine r_iconst (v := 1) E (dat dkX10_shut 16 rfl) rfl ?_
        refine r_callV (κ := 9) (μ := []) E (sp_X10_check l G (1) (0) (1) _) my_X10_check iv_X10_check ml_X10_329 cm_id ⟨by decide, rfl, rfl⟩ rfl rfl rfl rfl (by decide) (Nat.le_of_ble_eq_true rfl) (dat dkX10_shut 17 rfl) ?_
        rintro _ _ ⟨rfl, rfl⟩
        refine ⟨_, Mrg_mt (by decide) rfl, ?_⟩
        rw [show ckI (1) (0) (1) = 2 from rfl, if_neg (by decide)]
        refine r_if_ne (tgt := 35) E (dat dkX10_shut 18 rfl) rfl (fun h30 => ?_) (fun h30 => ?_)
        ·
          exact absurd rfl h30
        ·
          refine r_iconst (v := 0) E (dat dkX10_shut 19 rfl) rfl ?_
          refine r_ireturn E (dat dkX10_shut 20 rfl) (by decide) (by decide) ?_
          exact Or.inr (Or.inr ⟨⟨c, hc, rfl, h4⟩, rfl, rfl⟩)
      ·
        exact absurd (Int32.not_lt.mp h4) (by first | exact h18 | exact Int32.not_le.mpr h18)
