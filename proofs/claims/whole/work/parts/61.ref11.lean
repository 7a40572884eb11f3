theorem enc_big {A0 : Nat → Int32} {x : PP} (hx : PIv x) {T : Nat → Nat → Int32} {q : Nat} (h : 443 ≤ q) : enc A0 x T q = A0 q := by
  have hb := hx.2.2.2.2.1
  unfold enc encF
  rw [if_neg (by omega), if_neg (by omega), if_neg (by omega)]
theorem enc_rst {A0 : Nat → Int32} {x : PP} (hx : PIv x) {T T2 : Nat → Nat → Int32} {S : Nat → Int32} : fil (fil (enc A0 x T) S 443) (enc A0 x T2) 443 = enc A0 x T := by
  funext q
  unfold fil
  by_cases h : q < 443
  · rw [if_pos h, if_pos h]
  · rw [if_neg h, enc_big hx (by omega), enc_big hx (by omega)]
set_option maxRecDepth 100000 in
set_option maxHeartbeats 8000000 in
theorem sp_X10_waterAfter (l : Launch) (G : GT) (A0 : Nat → Int32) (x : PP) (T : Nat → Nat → Int32) (S : Nat → Int32) (a d : Int32) (B : Int) (M : Mem) (hA : M 0 1 = enc A0 x T) (hx : PIv x) (hS : M 0 2 = S) (hpl : PLi x T) (hv : PVi x) (hs : SI x T B) (hB : B + 185600 < 2147483648) : MC l G yX10_waterAfter cX10_waterAfter 5 (some .int) ({ frames := 8, cells := 0, slots := 0, locals := 177 } : Room) [9] lk0 [rv 0 0, iv a, iv d] (M) (fun r M2 => (∃ c, c < x.1.2.2 ∧ a = nI c ∧ ∃ t, t ≤ 100 ∧ d = nI t ∧ M2 = ar 2 (mt M 0) (fil (enc A0 x T) S 443) ∧ r = some (iv (mnX x T t 1 c))) ∨ (¬ okc x a ∧ M2 = mt M 1 ∧ r = some (iv 0)) ∨ ((okc x a ∧ ¬ (0 ≤ d ∧ d ≤ 100)) ∧ M2 = mt M 2 ∧ r = some (iv 0))) := by
  refine MC.of RX10 [some (rv 0 0), some (iv a), some (iv d), none, none] 2 (by decide +kernel) rfl rfl rfl ?_
  intro pp ee ss mm aa bb me cd ad E
  obtain ⟨M0, rfl⟩ : ∃ M0, M = md M0 (enc A0 x T) := ⟨M, (md_of hA).symm⟩
  clear hA
  have hn64 := (PIv_z hx).1
  
  rcases tri (okc x a) (0 ≤ d ∧ d ≤ 100) with ⟨hko, hr⟩ | hko | ⟨hko, hr⟩
  ·
    obtain ⟨c, hc, rfl⟩ := hko
    obtain ⟨t, ht1, rfl⟩ := rg_ex (k := 100) (by decide) hr.1 hr.2
    refine r_aload_n E (dat dkX10_waterAfter 0 rfl) rfl rfl ?_
    refine r_aload_n E (dat dkX10_waterAfter 1 rfl) rfl rfl ?_
    refine r_iload_n E (dat dkX10_waterAfter 2 rfl) rfl rfl ?_
    refine r_callV (κ := 9) (μ := []) E (sp_X10_isCell l G A0 x T (nI c) _ md_a hx) my_X10_isCell iv_X10_isCell ml_X10_326 cm_id ⟨by decide, rfl, rfl⟩ rfl rfl rfl rfl (by decide) (Nat.le_of_ble_eq_true rfl) (dat dkX10_waterAfter 3 rfl) ?_
    rintro _ _ ⟨rfl, rfl⟩
    refine ⟨_, Mrg_z rfl, ?_⟩
    rw [ic_1 hx ⟨c, hc, rfl⟩]
    refine r_iload_n E (dat dkX10_waterAfter 4 rfl) rfl rfl ?_
    refine r_i2l E (dat dkX10_waterAfter 5 rfl) ?_
    refine r_lconst E (dat dkX10_waterAfter 6 rfl) rfl ?_
    refine r_ldc2 E cl_381 (dat dkX10_waterAfter 7 rfl) ?_
    refine r_callS (μ := []) E (sp_X10_isWithin l G ((nI t)).toInt64 0 (100 : Int32).toInt64 _) my_X10_isWithin is_X10_isWithin ml_X10_80 cm_nil rfl rfl (by decide) (Nat.le_of_ble_eq_true rfl) (dat dkX10_waterAfter 8 rfl) ?_
    rintro _ _ ⟨rfl, hM⟩
    refine ⟨_, Mrg_z hM, ?_⟩
    clear hM
    rw [show iwI ((nI t)).toInt64 0 (100 : Int32).toInt64 = 1 from iw_1 (lo := 0) hr.1 hr.2]
    refine r_iconst (v := 1) E (dat dkX10_waterAfter 9 rfl) rfl ?_
    refine r_callV (κ := 9) (μ := []) E (sp_X10_check l G (1) (1) (1) _) my_X10_check iv_X10_check ml_X10_329 cm_id ⟨by decide, rfl, rfl⟩ rfl rfl rfl rfl (by decide) (Nat.le_of_ble_eq_true rfl) (dat dkX10_waterAfter 10 rfl) ?_
    rintro _ _ ⟨rfl, rfl⟩
    refine ⟨_, Mrg_mt (by decide) rfl, ?_⟩
    rw [show ckI (1) (1) (1) = 0 from rfl, if_pos rfl]
    refine r_if_ne (tgt := 24) E (dat dkX10_waterAfter 11 rfl) rfl (fun h19 => ?_) (fun h19 => ?_)
    ·
      refine r_aload_n E (dat dkX10_waterAfter 14 rfl) rfl rfl ?_
      refine r_aload_n E (dat dkX10_waterAfter 15 rfl) rfl rfl ?_
      refine q_geta E fl_X10_13 (dat dkX10_waterAfter 16 rfl) rfl rfl rfl ?_
      refine r_callV (κ := 9) (μ := []) E (sp_X10_copyTo2 l G (enc A0 x T) S _ rfl hS) my_X10_copyTo iv_X10_copyTo ml_X10_236 cm_id ⟨by decide, rfl, rfl⟩ rfl rfl rfl rfl (by decide) (Nat.le_of_ble_eq_true rfl) (dat dkX10_waterAfter 17 rfl) ?_
      rintro _ _ ⟨rfl, rfl⟩
      refine ⟨_, Mrg_ar (by decide) rfl, ?_⟩
      refine r_aload_n E (dat dkX10_waterAfter 18 rfl) rfl rfl ?_
      refine r_iload_n E (dat dkX10_waterAfter 19 rfl) rfl rfl ?_
      refine r_callV (κ := 9) (μ := []) E (sp_X10_letPass l G A0 x T t B _ rfl hx hv hpl hs (by omega) (by omega)) my_X10_letPass iv_X10_letPass ml_X10_314 cm_id ⟨by decide, rfl, rfl⟩ rfl rfl rfl rfl (by decide) (Nat.le_of_ble_eq_true rfl) (dat dkX10_waterAfter 20 rfl) ?_
      rintro _ _ ⟨rfl, rfl⟩
      refine ⟨_, Mrg_md2 (by decide) rfl, ?_⟩
      refine r_istore_3 E (dat dkX10_waterAfter 21 rfl) rfl rfl ?_
      refine r_aload_n E (dat dkX10_waterAfter 22 rfl) rfl rfl ?_
      refine r_iload_n E (dat dkX10_waterAfter 23 rfl) rfl rfl ?_
      refine r_iconst (v := 1) E (dat dkX10_waterAfter 24 rfl) rfl ?_
      refine r_callV (κ := 9) (μ := []) E (sp_X10_get l G c 1 _ (enc A0 x (mnX x T t)) rfl (by omega) (by decide)) my_X10_get iv_X10_get ml_X10_76 cm_id ⟨by decide, rfl, rfl⟩ rfl rfl rfl rfl (by decide) (Nat.le_of_ble_eq_true rfl) (dat dkX10_waterAfter 25 rfl) ?_
      rintro _ _ ⟨rfl, rfl⟩
      refine ⟨_, Mrg_z rfl, ?_⟩
      rw [e_w hc hn64]
      refine r_istore_4 E (dat dkX10_waterAfter 26 rfl) rfl rfl ?_
      refine r_aload_n E (dat dkX10_waterAfter 27 rfl) rfl rfl ?_
      refine r_aload_n E (dat dkX10_waterAfter 28 rfl) rfl rfl ?_
      refine q_geta E fl_X10_13 (dat dkX10_waterAfter 29 rfl) rfl rfl rfl ?_
      refine r_callV (κ := 9) (μ := []) E (sp_X10_copyFrom2 l G (enc A0 x (mnX x T t)) (fil (enc A0 x T) S 443) _ rfl rfl) my_X10_copyFrom iv_X10_copyFrom ml_X10_252 cm_id ⟨by decide, rfl, rfl⟩ rfl rfl rfl rfl (by decide) (Nat.le_of_ble_eq_true rfl) (dat dkX10_waterAfter 30 rfl) ?_
      rintro _ _ ⟨rfl, rfl⟩
      refine ⟨_, Mrg_md2 (by decide) rfl, ?_⟩
      rw [enc_rst hx]
      refine r_iload E (dat dkX10_waterAfter 31 rfl) rfl ?_
      refine r_ireturn E (dat dkX10_waterAfter 32 rfl) (by decide) (by decide) ?_
      refine Or.inl ⟨c, hc, rfl, t, ht1, rfl, ?_, rfl⟩
      show ar 1 (md _ _) _ = _
      rw [show ∀ (Z : Mem) (U V : Nat → Int32), ar 1 (md Z U) V = md Z V from fun _ _ _ => md_md]
      exact md_of rfl
    ·
      exact absurd h19 (by decide)
  ·
    refine r_aload_n E (dat dkX10_waterAfter 0 rfl) rfl rfl ?_
    refine r_aload_n E (dat dkX10_waterAfter 1 rfl) rfl rfl ?_
    refine r_iload_n E (dat dkX10_waterAfter 2 rfl) rfl rfl ?_
    refine r_callV (κ := 9) (μ := []) E (sp_X10_isCell l G A0 x T a _ md_a hx) my_X10_isCell iv_X10_isCell ml_X10_326 cm_id ⟨by decide, rfl, rfl⟩ rfl rfl rfl rfl (by decide) (Nat.le_of_ble_eq_true rfl) (dat dkX10_waterAfter 3 rfl) ?_
    rintro _ _ ⟨rfl, rfl⟩
    refine ⟨_, Mrg_z rfl, ?_⟩
    rw [ic_0 hx hko]
    refine r_iload_n E (dat dkX10_waterAfter 4 rfl) rfl rfl ?_
    refine r_i2l E (dat dkX10_waterAfter 5 rfl) ?_
    refine r_lconst E (dat dkX10_waterAfter 6 rfl) rfl ?_
    refine r_ldc2 E cl_381 (dat dkX10_waterAfter 7 rfl) ?_
    refine r_callS (μ := []) E (sp_X10_isWithin l G (d).toInt64 0 (100 : Int32).toInt64 _) my_X10_isWithin is_X10_isWithin ml_X10_80 cm_nil rfl rfl (by decide) (Nat.le_of_ble_eq_true rfl) (dat dkX10_waterAfter 8 rfl) ?_
    rintro _ _ ⟨rfl, hM⟩
    refine ⟨_, Mrg_z hM, ?_⟩
    clear hM
    refine r_iconst (v := 1) E (dat dkX10_waterAfter 9 rfl) rfl ?_
    refine r_callV (κ := 9) (μ := []) E (sp_X10_check l G (0) _ _ _) my_X10_check iv_X10_check ml_X10_329 cm_id ⟨by decide, rfl, rfl⟩ rfl rfl rfl rfl (by decide) (Nat.le_of_ble_eq_true rfl) (dat dkX10_waterAfter 10 rfl) ?_
    rintro _ _ ⟨rfl, rfl⟩
    refine ⟨_, Mrg_mt (by decide) rfl, ?_⟩
    rw [ck_0, if_neg (by decide)]
    refine r_if_ne (tgt := 24) E (dat dkX10_waterAfter 11 rfl) rfl (fun h19 => ?_) (fun h19 => ?_)
    ·
      exact absurd rfl h19
    ·
      refine r_iconst (v := 0) E (dat dkX10_waterAfter 12 rfl) rfl ?_
      refine r_ireturn E (dat dkX10_waterAfter 13 rfl) (by decide) (by decide) ?_
      exact Or.inr (Or.inl ⟨hko, rfl, rfl⟩)
  ·
    have hko2 := hko
    obtain ⟨c, hc, rfl⟩ := hko
    refine r_aload_n E (dat dkX10_waterAfter 0 rfl) rfl rfl ?_
    refine r_aload_n E (dat dkX10_waterAfter 1 rfl) rfl rfl ?_
    refine r_iload_n E (dat dkX10_waterAfter 2 rfl) rfl rfl ?_
    refine r_callV (κ := 9) (μ := []) E (sp_X10_isCell l G A0 x T (nI c) _ md_a hx) my_X10_isCell iv_X10_isCell ml_X10_326 cm_id ⟨by decide, rfl, rfl⟩ rfl rfl rfl rfl (by decide) (Nat.le_of_ble_eq_true rfl) (dat dkX10_waterAfter 3 rfl) ?_
    rintro _ _ ⟨rfl, rfl⟩
    refine ⟨_, Mrg_z rfl, ?_⟩
    rw [ic_1 hx ⟨c, hc, rfl⟩]
    refine r_iload_n E (dat dkX10_waterAfter 4 rfl) rfl rfl ?_
    refine r_i2l E (dat dkX10_waterAfter 5 rfl) ?_
    refine r_lconst E (dat dkX10_waterAfter 6 rfl) rfl ?_
    refine r_ldc2 E cl_381 (dat dkX10_waterAfter 7 rfl) ?_
    refine r_callS (μ := []) E (sp_X10_isWithin l G (d).toInt64 0 (100 : Int32).toInt64 _) my_X10_isWithin is_X10_isWithin ml_X10_80 cm_nil rfl rfl (by decide) (Nat.le_of_ble_eq_true rfl) (dat dkX10_waterAfter 8 rfl) ?_
    rintro _ _ ⟨rfl, hM⟩
    refine ⟨_, Mrg_z hM, ?_⟩
    clear hM
    rw [show iwI (d).toInt64 0 (100 : Int32).toInt64 = 0 from iw_0 (lo := 0) hr]
    refine r_iconst (v := 1) E (dat dkX10_waterAfter 9 rfl) rfl ?_
    refine r_callV (κ := 9) (μ := []) E (sp_X10_check l G (1) (0) (1) _) my_X10_check iv_X10_check ml_X10_329 cm_id ⟨by decide, rfl, rfl⟩ rfl rfl rfl rfl (by decide) (Nat.le_of_ble_eq_true rfl) (dat dkX10_waterAfter 10 rfl) ?_
    rintro _ _ ⟨rfl, rfl⟩
    refine ⟨_, Mrg_mt (by decide) rfl, ?_⟩
    rw [show ckI (1) (0) (1) = 2 from rfl, if_neg (by decide)]
    refine r_if_ne (tgt := 24) E (dat dkX10_waterAfter 11 rfl) rfl (fun h19 => ?_) (fun h19 => ?_)
    ·
      exact absurd rfl h19
    ·
      refine r_iconst (v := 0) E (dat dkX10_waterAfter 12 rfl) rfl ?_
      refine r_ireturn E (dat dkX10_waterAfter 13 rfl) (by decide) (by decide) ?_
      exact Or.inr (Or.inr ⟨⟨hko2, hr⟩, rfl, rfl⟩)

set_option maxRecDepth 100000 in
set_option maxHeartbeats 8000000 in
theorem sp_X10_drainedAfter (l : Launch) (G : GT) (A0 : Nat → Int32) (x : PP) (T : Nat → Nat → Int32) (S : Nat → Int32) (d : Int32) (B : Int) (M : Mem) (hA : M 0 1 = enc A0 x T) (hx : PIv x) (hS : M 0 2 = S) (hpl : PLi x T) (hv : PVi x) (hs : SI x T B) (hB : B + 185600 < 2147483648) : MC l G yX10_drainedAfter cX10_drainedAfter 4 (some .int) ({ frames := 8, cells := 0, slots := 0, locals := 177 } : Room) [9] lk0 [rv 0 0, iv d] (M) (fun r M2 => (∃ t, t ≤ 100 ∧ d = nI t ∧ M2 = ar 2 (mt M 0) (fil (enc A0 x T) S 443) ∧ r = some (iv (mnX x T t 0 11))) ∨ (¬ (0 ≤ d ∧ d ≤ 100) ∧ M2 = mt M 1 ∧ r = some (iv 0))) := by
  refine MC.of RX10 [some (rv 0 0), some (iv d), none, none] 2 (by decide +kernel) rfl rfl rfl ?_
  intro pp ee ss mm aa bb me cd ad E
  obtain ⟨M0, rfl⟩ : ∃ M0, M = md M0 (enc A0 x T) := ⟨M, (md_of hA).symm⟩
  clear hA
  have hn64 := (PIv_z hx).1
  
  by_cases hr : 0 ≤ d ∧ d ≤ 100
  ·
    obtain ⟨t, ht1, rfl⟩ := rg_ex (k := 100) (by decide) hr.1 hr.2
    refine r_aload_n E (dat dkX10_drainedAfter 0 rfl) rfl rfl ?_
    refine r_iload_n E (dat dkX10_drainedAfter 1 rfl) rfl rfl ?_
    refine r_i2l E (dat dkX10_drainedAfter 2 rfl) ?_
    refine r_lconst E (dat dkX10_drainedAfter 3 rfl) rfl ?_
    refine r_ldc2 E cl_381 (dat dkX10_drainedAfter 4 rfl) ?_
    refine r_callS (μ := []) E (sp_X10_isWithin l G ((nI t)).toInt64 0 (100 : Int32).toInt64 _) my_X10_isWithin is_X10_isWithin ml_X10_80 cm_nil rfl rfl (by decide) (Nat.le_of_ble_eq_true rfl) (dat dkX10_drainedAfter 5 rfl) ?_
    rintro _ _ ⟨rfl, hM⟩
    refine ⟨_, Mrg_z hM, ?_⟩
    clear hM
    rw [show iwI ((nI t)).toInt64 0 (100 : Int32).toInt64 = 1 from iw_1 (lo := 0) hr.1 hr.2]
    refine r_iconst (v := 1) E (dat dkX10_drainedAfter 6 rfl) rfl ?_
    refine r_iconst (v := 1) E (dat dkX10_drainedAfter 7 rfl) rfl ?_
    refine r_callV (κ := 9) (μ := []) E (sp_X10_check l G (1) (1) (1) _) my_X10_check iv_X10_check ml_X10_329 cm_id ⟨by decide, rfl, rfl⟩ rfl rfl rfl rfl (by decide) (Nat.le_of_ble_eq_true rfl) (dat dkX10_drainedAfter 8 rfl) ?_
    rintro _ _ ⟨rfl, rfl⟩
    refine ⟨_, Mrg_mt (by decide) rfl, ?_⟩
    rw [show ckI (1) (1) (1) = 0 from rfl, if_pos rfl]
    refine r_if_ne (tgt := 20) E (dat dkX10_drainedAfter 9 rfl) rfl (fun h15 => ?_) (fun h15 => ?_)
    ·
      refine r_aload_n E (dat dkX10_drainedAfter 12 rfl) rfl rfl ?_
      refine r_aload_n E (dat dkX10_drainedAfter 13 rfl) rfl rfl ?_
      refine q_geta E fl_X10_13 (dat dkX10_drainedAfter 14 rfl) rfl rfl rfl ?_
      refine r_callV (κ := 9) (μ := []) E (sp_X10_copyTo2 l G (enc A0 x T) S _ rfl hS) my_X10_copyTo iv_X10_copyTo ml_X10_236 cm_id ⟨by decide, rfl, rfl⟩ rfl rfl rfl rfl (by decide) (Nat.le_of_ble_eq_true rfl) (dat dkX10_drainedAfter 15 rfl) ?_
      rintro _ _ ⟨rfl, rfl⟩
      refine ⟨_, Mrg_ar (by decide) rfl, ?_⟩
      refine r_aload_n E (dat dkX10_drainedAfter 16 rfl) rfl rfl ?_
      refine r_iload_n E (dat dkX10_drainedAfter 17 rfl) rfl rfl ?_
      refine r_callV (κ := 9) (μ := []) E (sp_X10_letPass l G A0 x T t B _ rfl hx hv hpl hs (by omega) (by omega)) my_X10_letPass iv_X10_letPass ml_X10_314 cm_id ⟨by decide, rfl, rfl⟩ rfl rfl rfl rfl (by decide) (Nat.le_of_ble_eq_true rfl) (dat dkX10_drainedAfter 18 rfl) ?_
      rintro _ _ ⟨rfl, rfl⟩
      refine ⟨_, Mrg_md2 (by decide) rfl, ?_⟩
      refine r_istore_2 E (dat dkX10_drainedAfter 19 rfl) rfl rfl ?_
      refine r_aload_n E (dat dkX10_drainedAfter 20 rfl) rfl rfl ?_
      refine q_geta E fl_X10_9 (dat dkX10_drainedAfter 21 rfl) rfl rfl rfl ?_
      refine r_bipush (v := 7) E (dat dkX10_drainedAfter 22 rfl) rfl ?_
      refine q_iald E (dat dkX10_drainedAfter 23 rfl) rfl rfl (by decide) (show _ = enc A0 x (mnX x T t) from rfl) (show _ = nI 7 from rfl) (by omega) ?_
      refine r_istore_3 E (dat dkX10_drainedAfter 24 rfl) rfl rfl ?_
      refine r_aload_n E (dat dkX10_drainedAfter 25 rfl) rfl rfl ?_
      refine r_aload_n E (dat dkX10_drainedAfter 26 rfl) rfl rfl ?_
      refine q_geta E fl_X10_13 (dat dkX10_drainedAfter 27 rfl) rfl rfl rfl ?_
      refine r_callV (κ := 9) (μ := []) E (sp_X10_copyFrom2 l G (enc A0 x (mnX x T t)) (fil (enc A0 x T) S 443) _ rfl rfl) my_X10_copyFrom iv_X10_copyFrom ml_X10_252 cm_id ⟨by decide, rfl, rfl⟩ rfl rfl rfl rfl (by decide) (Nat.le_of_ble_eq_true rfl) (dat dkX10_drainedAfter 28 rfl) ?_
      rintro _ _ ⟨rfl, rfl⟩
      refine ⟨_, Mrg_md2 (by decide) rfl, ?_⟩
      rw [enc_rst hx]
      refine r_iload_n E (dat dkX10_drainedAfter 29 rfl) rfl rfl ?_
      refine r_ireturn E (dat dkX10_drainedAfter 30 rfl) (by decide) (by decide) ?_
      refine Or.inl ⟨t, ht1, rfl, ?_, rfl⟩
      show ar 1 (md _ _) _ = _
      rw [show ∀ (Z : Mem) (U V : Nat → Int32), ar 1 (md Z U) V = md Z V from fun _ _ _ => md_md]
      exact md_of rfl
    ·
      exact absurd h15 (by decide)
  ·
    refine r_aload_n E (dat dkX10_drainedAfter 0 rfl) rfl rfl ?_
    refine r_iload_n E (dat dkX10_drainedAfter 1 rfl) rfl rfl ?_
    refine r_i2l E (dat dkX10_drainedAfter 2 rfl) ?_
    refine r_lconst E (dat dkX10_drainedAfter 3 rfl) rfl ?_
    refine r_ldc2 E cl_381 (dat dkX10_drainedAfter 4 rfl) ?_
    refine r_callS (μ := []) E (sp_X10_isWithin l G (d).toInt64 0 (100 : Int32).toInt64 _) my_X10_isWithin is_X10_isWithin ml_X10_80 cm_nil rfl rfl (by decide) (Nat.le_of_ble_eq_true rfl) (dat dkX10_drainedAfter 5 rfl) ?_
    rintro _ _ ⟨rfl, hM⟩
    refine ⟨_, Mrg_z hM, ?_⟩
    clear hM
    rw [show iwI (d).toInt64 0 (100 : Int32).toInt64 = 0 from iw_0 (lo := 0) hr]
    refine r_iconst (v := 1) E (dat dkX10_drainedAfter 6 rfl) rfl ?_
    refine r_iconst (v := 1) E (dat dkX10_drainedAfter 7 rfl) rfl ?_
    refine r_callV (κ := 9) (μ := []) E (sp_X10_check l G (0) (1) (1) _) my_X10_check iv_X10_check ml_X10_329 cm_id ⟨by decide, rfl, rfl⟩ rfl rfl rfl rfl (by decide) (Nat.le_of_ble_eq_true rfl) (dat dkX10_drainedAfter 8 rfl) ?_
    rintro _ _ ⟨rfl, rfl⟩
    refine ⟨_, Mrg_mt (by decide) rfl, ?_⟩
    rw [show ckI (0) (1) (1) = 1 from if_pos rfl, if_neg (by decide)]
    refine r_if_ne (tgt := 20) E (dat dkX10_drainedAfter 9 rfl) rfl (fun h15 => ?_) (fun h15 => ?_)
    ·
      exact absurd rfl h15
    ·
      refine r_iconst (v := 0) E (dat dkX10_drainedAfter 10 rfl) rfl ?_
      refine r_ireturn E (dat dkX10_drainedAfter 11 rfl) (by decide) (by decide) ?_
      exact Or.inr ⟨hr, rfl, rfl⟩

set_option maxRecDepth 100000 in
set_option maxHeartbeats 4000000 in
theorem sp_X10_neighbour (l : Launch) (G : GT) (A0 : Nat → Int32) (x : PP) (T : Nat → Nat → Int32) (a d : Int32) (M : Mem) (hA : M 0 1 = enc A0 x T) (hx : PIv x)  : MC l G yX10_neighbour cX10_neighbour 3 (some .int) ({ frames := 2, cells := 0, slots := 0, locals := 52 } : Room) [9] lk0 [rv 0 0, iv a, iv d] (M) (fun r M2 => (∃ c, c < x.1.2.2 ∧ a = nI c ∧ ∃ e, e < 4 ∧ d = nI e ∧ M2 = mt M 0 ∧ r = some (iv (oI (nbx x c e)))) ∨ (¬ okc x a ∧ M2 = mt M 1 ∧ r = some (iv 0)) ∨ ((okc x a ∧ ¬ (0 ≤ d ∧ d ≤ 3)) ∧ M2 = mt M 2 ∧ r = some (iv 0))) := by
  refine MC.of RX10 [some (rv 0 0), some (iv a), some (iv d)] 0 (by decide +kernel) rfl rfl rfl ?_
  intro pp ee ss mm aa bb me cd ad E
  obtain ⟨M0, rfl⟩ : ∃ M0, M = md M0 (enc A0 x T) := ⟨M, (md_of hA).symm⟩
  clear hA
  have hn64 := (PIv_z hx).1
  
  rcases tri (okc x a) (0 ≤ d ∧ d ≤ 3) with ⟨hko, hr⟩ | hko | ⟨hko, hr⟩
  ·
    obtain ⟨c, hc, rfl⟩ := hko
    obtain ⟨e, he3, rfl⟩ := rg_ex (k := 3) (by decide) hr.1 hr.2
    refine r_aload_n E (dat dkX10_neighbour 0 rfl) rfl rfl ?_
    refine r_aload_n E (dat dkX10_neighbour 1 rfl) rfl rfl ?_
    refine r_iload_n E (dat dkX10_neighbour 2 rfl) rfl rfl ?_
    refine r_callV (κ := 9) (μ := []) E (sp_X10_isCell l G A0 x T (nI c) _ md_a hx) my_X10_isCell iv_X10_isCell ml_X10_326 cm_id ⟨by decide, rfl, rfl⟩ rfl rfl rfl rfl (by decide) (Nat.le_of_ble_eq_true rfl) (dat dkX10_neighbour 3 rfl) ?_
    rintro _ _ ⟨rfl, rfl⟩
    refine ⟨_, Mrg_z rfl, ?_⟩
    rw [ic_1 hx ⟨c, hc, rfl⟩]
    refine r_aload_n E (dat dkX10_neighbour 4 rfl) rfl rfl ?_
    refine r_iload_n E (dat dkX10_neighbour 5 rfl) rfl rfl ?_
    refine r_callV (κ := 9) (μ := []) E (sp_X10_isDirection l G A0 x T (nI e) _ md_a hx) my_X10_isDirection iv_X10_isDirection ml_X10_344 cm_id ⟨by decide, rfl, rfl⟩ rfl rfl rfl rfl (by decide) (Nat.le_of_ble_eq_true rfl) (dat dkX10_neighbour 6 rfl) ?_
    rintro _ _ ⟨rfl, rfl⟩
    refine ⟨_, Mrg_z rfl, ?_⟩
    rw [show iwI (nI e).toInt64 0 (3 : Int32).toInt64 = 1 from iw_1 (lo := 0) hr.1 hr.2]
    refine r_iconst (v := 1) E (dat dkX10_neighbour 7 rfl) rfl ?_
    refine r_callV (κ := 9) (μ := []) E (sp_X10_check l G (1) (1) (1) _) my_X10_check iv_X10_check ml_X10_329 cm_id ⟨by decide, rfl, rfl⟩ rfl rfl rfl rfl (by decide) (Nat.le_of_ble_eq_true rfl) (dat dkX10_neighbour 8 rfl) ?_
    rintro _ _ ⟨rfl, rfl⟩
    refine ⟨_, Mrg_mt (by decide) rfl, ?_⟩
    rw [show ckI (1) (1) (1) = 0 from rfl, if_pos rfl]
    refine r_if_eq (tgt := 27) E (dat dkX10_neighbour 9 rfl) rfl (fun h15 => ?_) (fun h15 => ?_)
    ·
      exact absurd h15 (by decide)
    ·
      refine r_aload_n E (dat dkX10_neighbour 10 rfl) rfl rfl ?_
      refine r_iload_n E (dat dkX10_neighbour 11 rfl) rfl rfl ?_
      refine r_iload_n E (dat dkX10_neighbour 12 rfl) rfl rfl ?_
      refine r_callV (κ := 9) (μ := []) E (sp_X10_beside l G x.1.1 x.1.2.1 c e _ (enc A0 x T) rfl rfl rfl hx.1 hx.2.1 (by have := hx.2.2.1; omega) (by omega)) my_X10_beside iv_X10_beside ml_X10_84 cm_id ⟨by decide, rfl, rfl⟩ rfl rfl rfl rfl (by decide) (Nat.le_of_ble_eq_true rfl) (dat dkX10_neighbour 13 rfl) ?_
      rintro _ _ ⟨rfl, rfl⟩
      refine ⟨_, Mrg_z rfl, ?_⟩
      refine r_goto (tgt := 28) E (dat dkX10_neighbour 14 rfl) rfl ?_
      refine r_ireturn E (dat dkX10_neighbour 16 rfl) (by decide) (by decide) ?_
      exact Or.inl ⟨c, hc, rfl, e, by omega, rfl, rfl, rfl⟩
  ·
    refine r_aload_n E (dat dkX10_neighbour 0 rfl) rfl rfl ?_
    refine r_aload_n E (dat dkX10_neighbour 1 rfl) rfl rfl ?_
    refine r_iload_n E (dat dkX10_neighbour 2 rfl) rfl rfl ?_
    refine r_callV (κ := 9) (μ := []) E (sp_X10_isCell l G A0 x T a _ md_a hx) my_X10_isCell iv_X10_isCell ml_X10_326 cm_id ⟨by decide, rfl, rfl⟩ rfl rfl rfl rfl (by decide) (Nat.le_of_ble_eq_true rfl) (dat dkX10_neighbour 3 rfl) ?_
    rintro _ _ ⟨rfl, rfl⟩
    refine ⟨_, Mrg_z rfl, ?_⟩
    rw [ic_0 hx hko]
    refine r_aload_n E (dat dkX10_neighbour 4 rfl) rfl rfl ?_
    refine r_iload_n E (dat dkX10_neighbour 5 rfl) rfl rfl ?_
    refine r_callV (κ := 9) (μ := []) E (sp_X10_isDirection l G A0 x T d _ md_a hx) my_X10_isDirection iv_X10_isDirection ml_X10_344 cm_id ⟨by decide, rfl, rfl⟩ rfl rfl rfl rfl (by decide) (Nat.le_of_ble_eq_true rfl) (dat dkX10_neighbour 6 rfl) ?_
    rintro _ _ ⟨rfl, rfl⟩
    refine ⟨_, Mrg_z rfl, ?_⟩
    refine r_iconst (v := 1) E (dat dkX10_neighbour 7 rfl) rfl ?_
    refine r_callV (κ := 9) (μ := []) E (sp_X10_check l G (0) _ _ _) my_X10_check iv_X10_check ml_X10_329 cm_id ⟨by decide, rfl, rfl⟩ rfl rfl rfl rfl (by decide) (Nat.le_of_ble_eq_true rfl) (dat dkX10_neighbour 8 rfl) ?_
    rintro _ _ ⟨rfl, rfl⟩
    refine ⟨_, Mrg_mt (by decide) rfl, ?_⟩
    rw [ck_0, if_neg (by decide)]
    refine r_if_eq (tgt := 27) E (dat dkX10_neighbour 9 rfl) rfl (fun h15 => ?_) (fun h15 => ?_)
    ·
      refine r_iconst (v := 0) E (dat dkX10_neighbour 15 rfl) rfl ?_
      refine r_ireturn E (dat dkX10_neighbour 16 rfl) (by decide) (by decide) ?_
      exact Or.inr (Or.inl ⟨hko, rfl, rfl⟩)
    ·
      exact absurd rfl h15
  ·
    have hko2 := hko
    obtain ⟨c, hc, rfl⟩ := hko
    refine r_aload_n E (dat dkX10_neighbour 0 rfl) rfl rfl ?_
    refine r_aload_n E (dat dkX10_neighbour 1 rfl) rfl rfl ?_
    refine r_iload_n E (dat dkX10_neighbour 2 rfl) rfl rfl ?_
    refine r_callV (κ := 9) (μ := []) E (sp_X10_isCell l G A0 x T (nI c) _ md_a hx) my_X10_isCell iv_X10_isCell ml_X10_326 cm_id ⟨by decide, rfl, rfl⟩ rfl rfl rfl rfl (by decide) (Nat.le_of_ble_eq_true rfl) (dat dkX10_neighbour 3 rfl) ?_
    rintro _ _ ⟨rfl, rfl⟩
    refine ⟨_, Mrg_z rfl, ?_⟩
    rw [ic_1 hx ⟨c, hc, rfl⟩]
    refine r_aload_n E (dat dkX10_neighbour 4 rfl) rfl rfl ?_
    refine r_iload_n E (dat dkX10_neighbour 5 rfl) rfl rfl ?_
    refine r_callV (κ := 9) (μ := []) E (sp_X10_isDirection l G A0 x T d _ md_a hx) my_X10_isDirection iv_X10_isDirection ml_X10_344 cm_id ⟨by decide, rfl, rfl⟩ rfl rfl rfl rfl (by decide) (Nat.le_of_ble_eq_true rfl) (dat dkX10_neighbour 6 rfl) ?_
    rintro _ _ ⟨rfl, rfl⟩
    refine ⟨_, Mrg_z rfl, ?_⟩
    rw [show iwI d.toInt64 0 (3 : Int32).toInt64 = 0 from iw_0 (lo := 0) hr]
    refine r_iconst (v := 1) E (dat dkX10_neighbour 7 rfl) rfl ?_
    refine r_callV (κ := 9) (μ := []) E (sp_X10_check l G (1) (0) (1) _) my_X10_check iv_X10_check ml_X10_329 cm_id ⟨by decide, rfl, rfl⟩ rfl rfl rfl rfl (by decide) (Nat.le_of_ble_eq_true rfl) (dat dkX10_neighbour 8 rfl) ?_
    rintro _ _ ⟨rfl, rfl⟩
    refine ⟨_, Mrg_mt (by decide) rfl, ?_⟩
    rw [show ckI (1) (0) (1) = 2 from rfl, if_neg (by decide)]
    refine r_if_eq (tgt := 27) E (dat dkX10_neighbour 9 rfl) rfl (fun h15 => ?_) (fun h15 => ?_)
    ·
      refine r_iconst (v := 0) E (dat dkX10_neighbour 15 rfl) rfl ?_
      refine r_ireturn E (dat dkX10_neighbour 16 rfl) (by decide) (by decide) ?_
      exact Or.inr (Or.inr ⟨⟨hko2, hr⟩, rfl, rfl⟩)
    ·
      exact absurd rfl h15

set_option maxRecDepth 100000 in
set_option maxHeartbeats 4000000 in
theorem sp_X10_allWater (l : Launch) (G : GT) (A0 : Nat → Int32) (x : PP) (T : Nat → Nat → Int32)  (M : Mem) (hA : M 0 1 = enc A0 x T) (hx : PIv x)  : MC l G yX10_allWater cX10_allWater 3 (some .int) ({ frames := 2, cells := 0, slots := 0, locals := 42 } : Room) [9] lk0 [rv 0 0] (M) (fun r M2 => r = some (iv (sm (T 1) x.1.2.2)) ∧ M2 = M) := by
  refine MC.of RX10 [some (rv 0 0), none, none] 2 (by decide +kernel) rfl rfl rfl ?_
  intro pp ee ss mm aa bb me cd ad E
  obtain ⟨M0, rfl⟩ : ∃ M0, M = md M0 (enc A0 x T) := ⟨M, (md_of hA).symm⟩
  clear hA
  have hn64 := (PIv_z hx).1
  
  refine r_iconst (v := 0) E (dat dkX10_allWater 0 rfl) rfl ?_
  refine r_istore_1 E (dat dkX10_allWater 1 rfl) rfl rfl ?_
  refine r_iconst (v := 0) E (dat dkX10_allWater 2 rfl) rfl ?_
  refine r_istore_2 E (dat dkX10_allWater 3 rfl) rfl rfl ?_
  refine r_for (x.1.2.2) (fun _ => True) (fun i => md M0 (enc A0 x T)) (fun i => [some (rv 0 0), some (iv (sm (T 1) i)), some (iv (nI i))]) trivial rfl rfl ?_ ?_
  · intro i hi hI kk
    refine r_iload_n E (dat dkX10_allWater 4 rfl) rfl rfl ?_
    refine r_aload_n E (dat dkX10_allWater 5 rfl) rfl rfl ?_
    refine r_callV (κ := 9) (μ := []) E (sp_X10_cells l G _ _ md_a) my_X10_cells iv_X10_cells ml_X10_115 cm_id ⟨by decide, rfl, rfl⟩ rfl rfl rfl rfl (by decide) (Nat.le_of_ble_eq_true rfl) (dat dkX10_allWater 6 rfl) ?_
    rintro _ _ ⟨rfl, rfl⟩
    refine ⟨_, Mrg_z rfl, ?_⟩
    rw [ce_x hx]
    refine q_icmp_ge (tgt := 27) E (dat dkX10_allWater 7 rfl) rfl rfl rfl (by omega) (by omega) (fun h9 => ?_) (fun h9 => ?_)
    ·
      omega
    ·
      refine r_iload_n E (dat dkX10_allWater 8 rfl) rfl rfl ?_
      refine r_aload_n E (dat dkX10_allWater 9 rfl) rfl rfl ?_
      refine r_iload_n E (dat dkX10_allWater 10 rfl) rfl rfl ?_
      refine r_iconst (v := 1) E (dat dkX10_allWater 11 rfl) rfl ?_
      refine r_callV (κ := 9) (μ := []) E (sp_X10_get l G i 1 _ _ md_a (by omega) (by decide)) my_X10_get iv_X10_get ml_X10_76 cm_id ⟨by decide, rfl, rfl⟩ rfl rfl rfl rfl (by decide) (Nat.le_of_ble_eq_true rfl) (dat dkX10_allWater 12 rfl) ?_
      rintro _ _ ⟨rfl, rfl⟩
      refine ⟨_, Mrg_z rfl, ?_⟩
      rw [e_w hi hn64]
      refine r_iadd E (dat dkX10_allWater 13 rfl) ?_
      refine r_istore_1 E (dat dkX10_allWater 14 rfl) rfl rfl ?_
      refine q_iinc_2 E (dat dkX10_allWater 15 rfl) rfl rfl ?_
      refine r_goto (tgt := 4) E (dat dkX10_allWater 16 rfl) rfl ?_
      exact kk trivial
  · intro hI
    refine r_iload_n E (dat dkX10_allWater 4 rfl) rfl rfl ?_
    refine r_aload_n E (dat dkX10_allWater 5 rfl) rfl rfl ?_
    refine r_callV (κ := 9) (μ := []) E (sp_X10_cells l G _ _ md_a) my_X10_cells iv_X10_cells ml_X10_115 cm_id ⟨by decide, rfl, rfl⟩ rfl rfl rfl rfl (by decide) (Nat.le_of_ble_eq_true rfl) (dat dkX10_allWater 6 rfl) ?_
    rintro _ _ ⟨rfl, rfl⟩
    refine ⟨_, Mrg_z rfl, ?_⟩
    rw [ce_x hx]
    refine q_icmp_ge (tgt := 27) E (dat dkX10_allWater 7 rfl) rfl rfl rfl (by omega) (by omega) (fun h9 => ?_) (fun h9 => ?_)
    ·
      refine r_iload_n E (dat dkX10_allWater 17 rfl) rfl rfl ?_
      refine r_ireturn E (dat dkX10_allWater 18 rfl) (by decide) (by decide) ?_
      exact ⟨rfl, rfl⟩
    ·
      omega

set_option maxRecDepth 100000 in
set_option maxHeartbeats 4000000 in
theorem sp_X10_waterTotal (l : Launch) (G : GT) (A0 : Nat → Int32) (x : PP) (T : Nat → Nat → Int32)  (M : Mem) (hA : M 0 1 = enc A0 x T) (hx : PIv x)  : MC l G yX10_waterTotal cX10_waterTotal 1 (some .int) ({ frames := 3, cells := 0, slots := 0, locals := 64 } : Room) [9] lk0 [rv 0 0] (M) (fun r M2 => r = some (iv (sm (T 1) x.1.2.2)) ∧ M2 = mt M 0) := by
  refine MC.of RX10 [some (rv 0 0)] 0 (by decide +kernel) rfl rfl rfl ?_
  intro pp ee ss mm aa bb me cd ad E
  obtain ⟨M0, rfl⟩ : ∃ M0, M = md M0 (enc A0 x T) := ⟨M, (md_of hA).symm⟩
  clear hA
  have hn64 := (PIv_z hx).1
  
  refine r_aload_n E (dat dkX10_waterTotal 0 rfl) rfl rfl ?_
  refine r_iconst (v := 0) E (dat dkX10_waterTotal 1 rfl) rfl ?_
  refine q_putn E ft_X10_67 (dat dkX10_waterTotal 2 rfl) rfl rfl rfl rfl ?_
  refine r_aload_n E (dat dkX10_waterTotal 3 rfl) rfl rfl ?_
  refine r_callV (κ := 9) (μ := []) E (sp_X10_allWater l G A0 x T _ rfl hx) my_X10_allWater iv_X10_allWater ml_X10_366 cm_id ⟨by decide, rfl, rfl⟩ rfl rfl rfl rfl (by decide) (Nat.le_of_ble_eq_true rfl) (dat dkX10_waterTotal 4 rfl) ?_
  rintro _ _ ⟨rfl, rfl⟩
  refine ⟨_, Mrg_z rfl, ?_⟩
  refine r_ireturn E (dat dkX10_waterTotal 5 rfl) (by decide) (by decide) ?_
  exact ⟨rfl, rfl⟩

set_option maxRecDepth 100000 in
set_option maxHeartbeats 4000000 in
theorem sp_X10_ofBoots (l : Launch) (G : GT) (A0 : Nat → Int32) (x : PP) (T : Nat → Nat → Int32) (a : Int32) (f : Nat) (M : Mem) (hA : M 0 1 = enc A0 x T) (hx : PIv x) (hf : f < 11) : MC l G yX10_ofBoots cX10_ofBoots 3 (some .int) ({ frames := 3, cells := 0, slots := 0, locals := 67 } : Room) [9] lk0 [rv 0 0, iv a, iv (nI f)] (M) (fun r M2 => (∃ b, b < x.2.2.2.2.1 ∧ a = nI b ∧ M2 = mt M 0 ∧ r = some (iv (bfT A0 x T f b))) ∨ (¬ okb4 x a ∧ M2 = mt M 1 ∧ r = some (iv (0)))) := by
  refine MC.of RX10 [some (rv 0 0), some (iv a), some (iv (nI f))] 0 (by decide +kernel) rfl rfl rfl ?_
  intro pp ee ss mm aa bb me cd ad E
  obtain ⟨M0, rfl⟩ : ∃ M0, M = md M0 (enc A0 x T) := ⟨M, (md_of hA).symm⟩
  clear hA
  have hn64 := (PIv_z hx).1
  have hb4 := hx.2.2.2.2.1
  
  by_cases hk : okb4 x a
  ·
    obtain ⟨b, hb, rfl⟩ := hk
    refine r_aload_n E (dat dkX10_ofBoots 0 rfl) rfl rfl ?_
    refine r_iload_n E (dat dkX10_ofBoots 1 rfl) rfl rfl ?_
    refine r_callV (κ := 9) (μ := []) E (sp_X10_checkBoots l G A0 x T (nI b) _ md_a hx) my_X10_checkBoots iv_X10_checkBoots ml_X10_372 cm_id ⟨by decide, rfl, rfl⟩ rfl rfl rfl rfl (by decide) (Nat.le_of_ble_eq_true rfl) (dat dkX10_ofBoots 2 rfl) ?_
    rintro _ _ ⟨rfl, rfl⟩
    refine ⟨_, Mrg_mt (by decide) rfl, ?_⟩
    rw [ib_1 hx ⟨b, hb, rfl⟩, show ckI 1 1 1 = 0 from rfl, if_pos rfl]
    refine r_if_eq (tgt := 22) E (dat dkX10_ofBoots 3 rfl) rfl (fun h5 => ?_) (fun h5 => ?_)
    ·
      exact absurd h5 (by decide)
    ·
      refine r_aload_n E (dat dkX10_ofBoots 4 rfl) rfl rfl ?_
      refine q_geta E fl_X10_9 (dat dkX10_ofBoots 5 rfl) rfl rfl rfl ?_
      refine r_iload_n E (dat dkX10_ofBoots 6 rfl) rfl rfl ?_
      refine r_callS (μ := []) E (sp_X10_p l G b _) my_X10_p is_X10_p ml_X10_73 cm_nil rfl rfl (by decide) (Nat.le_of_ble_eq_true rfl) (dat dkX10_ofBoots 7 rfl) ?_
      rintro _ _ ⟨rfl, hM⟩
      refine ⟨_, Mrg_z hM, ?_⟩
      clear hM
      refine r_iload_n E (dat dkX10_ofBoots 8 rfl) rfl rfl ?_
      refine r_iadd E (dat dkX10_ofBoots 9 rfl) ?_
      refine q_iald E (dat dkX10_ofBoots 10 rfl) rfl rfl (by decide) (show _ = enc A0 x T from rfl) (nI_add (399 + 11 * b) f) (by omega) ?_
      rw [show enc A0 x T (399 + 11 * b + f) = bfT A0 x T f b from encF_ab hb hf]
      refine r_goto (tgt := 23) E (dat dkX10_ofBoots 11 rfl) rfl ?_
      refine r_ireturn E (dat dkX10_ofBoots 13 rfl) (by decide) (by decide) ?_
      exact Or.inl ⟨b, hb, rfl, rfl, rfl⟩
  ·
    refine r_aload_n E (dat dkX10_ofBoots 0 rfl) rfl rfl ?_
    refine r_iload_n E (dat dkX10_ofBoots 1 rfl) rfl rfl ?_
    refine r_callV (κ := 9) (μ := []) E (sp_X10_checkBoots l G A0 x T a _ md_a hx) my_X10_checkBoots iv_X10_checkBoots ml_X10_372 cm_id ⟨by decide, rfl, rfl⟩ rfl rfl rfl rfl (by decide) (Nat.le_of_ble_eq_true rfl) (dat dkX10_ofBoots 2 rfl) ?_
    rintro _ _ ⟨rfl, rfl⟩
    refine ⟨_, Mrg_mt (by decide) rfl, ?_⟩
    rw [ib_0 hx hk, show ckI 0 1 1 = 1 from rfl, if_neg (by decide)]
    refine r_if_eq (tgt := 22) E (dat dkX10_ofBoots 3 rfl) rfl (fun h5 => ?_) (fun h5 => ?_)
    ·
      refine r_iconst (v := 0) E (dat dkX10_ofBoots 12 rfl) rfl ?_
      refine r_ireturn E (dat dkX10_ofBoots 13 rfl) (by decide) (by decide) ?_
      exact Or.inr ⟨hk, rfl, rfl⟩
    ·
      exact absurd rfl h5

set_option maxRecDepth 100000 in
set_option maxHeartbeats 4000000 in
theorem sp_X10_placeOf (l : Launch) (G : GT) (A0 : Nat → Int32) (x : PP) (T : Nat → Nat → Int32) (a : Int32) (M : Mem) (hA : M 0 1 = enc A0 x T) (hx : PIv x)  : MC l G yX10_placeOf cX10_placeOf 2 (some .int) ({ frames := 4, cells := 0, slots := 0, locals := 89 } : Room) [9] lk0 [rv 0 0, iv a] (M) (fun r M2 => (∃ b, b < x.2.2.2.2.1 ∧ a = nI b ∧ M2 = mt M 0 ∧ r = some (iv (T 5 b))) ∨ (¬ okb4 x a ∧ M2 = mt M 1 ∧ r = some (iv (0)))) := by
  refine MC.of RX10 [some (rv 0 0), some (iv a)] 0 (by decide +kernel) rfl rfl rfl ?_
  intro pp ee ss mm aa bb me cd ad E
  obtain ⟨M0, rfl⟩ : ∃ M0, M = md M0 (enc A0 x T) := ⟨M, (md_of hA).symm⟩
  clear hA
  have hn64 := (PIv_z hx).1
  
  refine r_aload_n E (dat dkX10_placeOf 0 rfl) rfl rfl ?_
  refine r_iload_n E (dat dkX10_placeOf 1 rfl) rfl rfl ?_
  refine r_bipush (v := 7) E (dat dkX10_placeOf 2 rfl) rfl ?_
  refine r_callV (κ := 9) (μ := []) E (sp_X10_ofBoots l G A0 x T a 7 _ md_a hx (by decide)) my_X10_ofBoots iv_X10_ofBoots ml_X10_375 cm_id ⟨by decide, rfl, rfl⟩ rfl rfl rfl rfl (by decide) (Nat.le_of_ble_eq_true rfl) (dat dkX10_placeOf 3 rfl) ?_
  intro r9 M9 hM
  obtain ⟨k9, hM9, v9, rfl, hfin⟩ : ∃ k9, M9 = mt (vw [] (md M0 (enc A0 x T))) k9 ∧ ∃ v9, r9 = some (iv v9) ∧ ((∃ b, b < x.2.2.2.2.1 ∧ a = nI b ∧ k9 = 0 ∧ v9 = T 5 b) ∨ (¬ okb4 x a ∧ k9 = 1 ∧ v9 = 0)) := by
    rcases hM with ⟨c, h1, h2, h3, h4⟩ | ⟨h1, h2, h3⟩
    · exact ⟨0, h3, _, h4, Or.inl ⟨c, h1, h2, rfl, rfl⟩⟩
    · exact ⟨1, h2, _, h3, Or.inr ⟨h1, rfl, rfl⟩⟩
  clear hM
  refine ⟨_, Mrg_mt (k := k9) (by decide) hM9, ?_⟩
  refine r_ireturn E (dat dkX10_placeOf 4 rfl) (by decide) (by decide) ?_
  rcases hfin with ⟨c, h1, h2, rfl, rfl⟩ | ⟨h1, rfl, rfl⟩
  · exact Or.inl ⟨c, h1, h2, rfl, rfl⟩
  · exact Or.inr ⟨h1, rfl, rfl⟩

set_option maxRecDepth 100000 in
set_option maxHeartbeats 4000000 in
theorem sp_X10_bootHeight (l : Launch) (G : GT) (A0 : Nat → Int32) (x : PP) (T : Nat → Nat → Int32) (a : Int32) (M : Mem) (hA : M 0 1 = enc A0 x T) (hx : PIv x)  : MC l G yX10_bootHeight cX10_bootHeight 2 (some .int) ({ frames := 4, cells := 0, slots := 0, locals := 89 } : Room) [9] lk0 [rv 0 0, iv a] (M) (fun r M2 => (∃ b, b < x.2.2.2.2.1 ∧ a = nI b ∧ M2 = mt M 0 ∧ r = some (iv (x.2.2.2.2.2.2.2.1 b))) ∨ (¬ okb4 x a ∧ M2 = mt M 1 ∧ r = some (iv (0)))) := by
  refine MC.of RX10 [some (rv 0 0), some (iv a)] 0 (by decide +kernel) rfl rfl rfl ?_
  intro pp ee ss mm aa bb me cd ad E
  obtain ⟨M0, rfl⟩ : ∃ M0, M = md M0 (enc A0 x T) := ⟨M, (md_of hA).symm⟩
  clear hA
  have hn64 := (PIv_z hx).1
  
  refine r_aload_n E (dat dkX10_bootHeight 0 rfl) rfl rfl ?_
  refine r_iload_n E (dat dkX10_bootHeight 1 rfl) rfl rfl ?_
  refine r_bipush (v := 8) E (dat dkX10_bootHeight 2 rfl) rfl ?_
  refine r_callV (κ := 9) (μ := []) E (sp_X10_ofBoots l G A0 x T a 8 _ md_a hx (by decide)) my_X10_ofBoots iv_X10_ofBoots ml_X10_375 cm_id ⟨by decide, rfl, rfl⟩ rfl rfl rfl rfl (by decide) (Nat.le_of_ble_eq_true rfl) (dat dkX10_bootHeight 3 rfl) ?_
  intro r9 M9 hM
  obtain ⟨k9, hM9, v9, rfl, hfin⟩ : ∃ k9, M9 = mt (vw [] (md M0 (enc A0 x T))) k9 ∧ ∃ v9, r9 = some (iv v9) ∧ ((∃ b, b < x.2.2.2.2.1 ∧ a = nI b ∧ k9 = 0 ∧ v9 = x.2.2.2.2.2.2.2.1 b) ∨ (¬ okb4 x a ∧ k9 = 1 ∧ v9 = 0)) := by
    rcases hM with ⟨c, h1, h2, h3, h4⟩ | ⟨h1, h2, h3⟩
    · exact ⟨0, h3, _, h4, Or.inl ⟨c, h1, h2, rfl, rfl⟩⟩
    · exact ⟨1, h2, _, h3, Or.inr ⟨h1, rfl, rfl⟩⟩
  clear hM
  refine ⟨_, Mrg_mt (k := k9) (by decide) hM9, ?_⟩
  refine r_ireturn E (dat dkX10_bootHeight 4 rfl) (by decide) (by decide) ?_
  rcases hfin with ⟨c, h1, h2, rfl, rfl⟩ | ⟨h1, rfl, rfl⟩
  · exact Or.inl ⟨c, h1, h2, rfl, rfl⟩
  · exact Or.inr ⟨h1, rfl, rfl⟩

set_option maxRecDepth 100000 in
set_option maxHeartbeats 4000000 in
theorem sp_X10_splashesOf (l : Launch) (G : GT) (A0 : Nat → Int32) (x : PP) (T : Nat → Nat → Int32) (a : Int32) (M : Mem) (hA : M 0 1 = enc A0 x T) (hx : PIv x)  : MC l G yX10_splashesOf cX10_splashesOf 2 (some .int) ({ frames := 4, cells := 0, slots := 0, locals := 89 } : Room) [9] lk0 [rv 0 0, iv a] (M) (fun r M2 => (∃ b, b < x.2.2.2.2.1 ∧ a = nI b ∧ M2 = mt M 0 ∧ r = some (iv (T 6 b))) ∨ (¬ okb4 x a ∧ M2 = mt M 1 ∧ r = some (iv (0)))) := by
  refine MC.of RX10 [some (rv 0 0), some (iv a)] 0 (by decide +kernel) rfl rfl rfl ?_
  intro pp ee ss mm aa bb me cd ad E
  obtain ⟨M0, rfl⟩ : ∃ M0, M = md M0 (enc A0 x T) := ⟨M, (md_of hA).symm⟩
  clear hA
  have hn64 := (PIv_z hx).1
  
  refine r_aload_n E (dat dkX10_splashesOf 0 rfl) rfl rfl ?_
  refine r_iload_n E (dat dkX10_splashesOf 1 rfl) rfl rfl ?_
  refine r_bipush (v := 10) E (dat dkX10_splashesOf 2 rfl) rfl ?_
  refine r_callV (κ := 9) (μ := []) E (sp_X10_ofBoots l G A0 x T a 10 _ md_a hx (by decide)) my_X10_ofBoots iv_X10_ofBoots ml_X10_375 cm_id ⟨by decide, rfl, rfl⟩ rfl rfl rfl rfl (by decide) (Nat.le_of_ble_eq_true rfl) (dat dkX10_splashesOf 3 rfl) ?_
  intro r9 M9 hM
  obtain ⟨k9, hM9, v9, rfl, hfin⟩ : ∃ k9, M9 = mt (vw [] (md M0 (enc A0 x T))) k9 ∧ ∃ v9, r9 = some (iv v9) ∧ ((∃ b, b < x.2.2.2.2.1 ∧ a = nI b ∧ k9 = 0 ∧ v9 = T 6 b) ∨ (¬ okb4 x a ∧ k9 = 1 ∧ v9 = 0)) := by
    rcases hM with ⟨c, h1, h2, h3, h4⟩ | ⟨h1, h2, h3⟩
    · exact ⟨0, h3, _, h4, Or.inl ⟨c, h1, h2, rfl, rfl⟩⟩
    · exact ⟨1, h2, _, h3, Or.inr ⟨h1, rfl, rfl⟩⟩
  clear hM
  refine ⟨_, Mrg_mt (k := k9) (by decide) hM9, ?_⟩
  refine r_ireturn E (dat dkX10_splashesOf 4 rfl) (by decide) (by decide) ?_
  rcases hfin with ⟨c, h1, h2, rfl, rfl⟩ | ⟨h1, rfl, rfl⟩
  · exact Or.inl ⟨c, h1, h2, rfl, rfl⟩
  · exact Or.inr ⟨h1, rfl, rfl⟩
