theorem Mrg_gM {N t fd : Nat} {M M1 : Mem} {P : Nat → Int32} {k : Int32} (hN : 0 < N) (h1 : M1 = gM t fd (vw [] M) P k) : Mrg N [] M M1 (gM t fd M P k) := Mrg_e (i := 0) (fun j _ h => h) hN rfl h1
theorem Mrg_gG {N t fd : Nat} {M M1 : Mem} {P P2 : Nat → Int32} {k k2 : Int32} (ht : t ≠ 0) (hN : 0 < N) (h1 : M1 = gM t fd (vw [] (gM t fd M P k)) P2 k2) : Mrg N [] (gM t fd M P k) M1 (gM t fd M P2 k2) := by
  rw [show gM t fd M P2 k2 = gM t fd (gM t fd M P k) P2 k2 from (gM_gM ht).symm]
  exact Mrg_gM hN h1
theorem gM_a25 {M : Mem} {P : Nat → Int32} {k : Int32} : gM 25 25 M P k 0 25 = P := rfl
/-- the sign of a cell, in the reference -/
def sgR (w : Int32) : Int32 := if w = 0 then 46 else if w ≤ 9 then 48 + w else 43
theorem sgR_eq {w : Int32} (h : 0 ≤ w) : (sgR w).toInt8.toInt32 = (sgI w).toInt8.toInt32 := by
  unfold sgR sgI
  by_cases h0 : w = 0
  · rw [if_pos h0, if_pos (by rw [h0]; decide)]
  · have hp : ¬ w ≤ 0 := fun q => h0 (Int32.le_antisymm q h)
    rw [if_neg h0, if_neg hp]
    by_cases h9 : w ≤ 9
    · rw [if_pos h9, if_pos h9]
      obtain ⟨j, hj, rfl⟩ := rg_ex (k := 9) (by decide) h h9
      exact (show ∀ j, j ≤ 9 → (48 + nI j).toInt8.toInt32 = (((48 + nI j).toUInt32 % 65536).toInt32).toInt8.toInt32 by decide +kernel) j hj
    · rw [if_neg h9, if_neg h9]
set_option maxRecDepth 100000 in
set_option maxHeartbeats 4000000 in
theorem sp_X10_write (l : Launch) (G : GT) (o : Nat → Int32) (k : Nat) (a : Int32) (M : Mem) (hO : M 0 25 = o) (hk : M 0 0 25 = nI k) (hk16 : k < 16) : MC l G yX10_write cX10_write 2 none ({ frames := 0, cells := 0, slots := 0, locals := 0 } : Room) [9] lk0 [rv 0 0, iv a] (M) (fun r M2 => r = none ∧ M2 = gM 25 25 M (upd o k a.toInt8.toInt32) (nI (k + 1))) := by
  refine MC.of RX10 [some (rv 0 0), some (iv a)] 0 (by decide +kernel) rfl rfl rfl ?_
  intro pp ee ss mm aa bb me cd ad E
  obtain ⟨M0, rfl⟩ : ∃ M0, M = gM 25 25 M0 o (nI k) := ⟨M, (gM_of hO hk).symm⟩
  clear hO hk
  
  refine r_aload_n E (dat dkX10_write 0 rfl) rfl rfl ?_
  refine q_geta E fl_X10_45 (dat dkX10_write 1 rfl) rfl rfl rfl ?_
  refine r_aload_n E (dat dkX10_write 2 rfl) rfl rfl ?_
  refine q_getn E fl_X10_402 (dat dkX10_write 3 rfl) rfl rfl rfl rfl ?_
  refine r_iload_n E (dat dkX10_write 4 rfl) rfl rfl ?_
  refine r_i2b E (dat dkX10_write 5 rfl) ?_
  refine q_bast E (dat dkX10_write 6 rfl) rfl rfl (by decide) gM_a25 (fun _ => gM_s (by decide)) rfl (by omega) (z := a.toInt8.toInt32) (pk_vb _) ?_
  refine r_aload_n E (dat dkX10_write 7 rfl) rfl rfl ?_
  refine r_dup E (dat dkX10_write 8 rfl) rfl ?_
  refine q_getn E fl_X10_402 (dat dkX10_write 9 rfl) rfl rfl rfl rfl ?_
  refine r_iconst (v := 1) E (dat dkX10_write 10 rfl) rfl ?_
  refine r_iadd E (dat dkX10_write 11 rfl) ?_
  rw [show (gM 25 25 M0 (upd o k a.toInt8.toInt32) (nI k) 0 0 25 + 1 : Int32) = nI (k + 1) from nI_1 k]
  refine q_putn E ft_X10_402 (dat dkX10_write 12 rfl) rfl rfl rfl rfl ?_
  refine r_vreturn E (dat dkX10_write 13 rfl) (by decide) (by decide) ?_
  exact ⟨rfl, by rw [gM_p, gM_gM (by decide)]⟩

set_option maxRecDepth 100000 in
set_option maxHeartbeats 8000000 in
theorem sp_X10_writeCell (l : Launch) (G : GT) (A0 : Nat → Int32) (x : PP) (T : Nat → Nat → Int32) (o : Nat → Int32) (k c : Nat) (M : Mem) (hA : M 0 1 = enc A0 x T) (hx : PIv x) (hc : c < x.1.2.2) (hO : M 0 25 = o) (hk : M 0 0 25 = nI k) (hk16 : k + 1 < 16) : MC l G yX10_writeCell cX10_writeCell 3 none ({ frames := 2, cells := 0, slots := 0, locals := 42 } : Room) [9] lk0 [rv 0 0, iv (nI c)] (M) (fun r M2 => r = none ∧ M2 = if T 2 c ≤ 0 then gM 25 25 M (upd o k (sgR (T 1 c)).toInt8.toInt32) (nI (k + 1)) else gM 25 25 M (upd (upd o k (sgR (T 1 c)).toInt8.toInt32) (k + 1) (37 : Int32).toInt8.toInt32) (nI (k + 1 + 1))) := by
  refine MC.of RX10 [some (rv 0 0), some (iv (nI c)), none] 1 (by decide +kernel) rfl rfl rfl ?_
  intro pp ee ss mm aa bb me cd ad E
  obtain ⟨M0, rfl, hA0⟩ : ∃ M0, M = gM 25 25 M0 o (nI k) ∧ M0 0 1 = enc A0 x T := ⟨M, (gM_of hO hk).symm, hA⟩
  clear hO hk hA
  have hn64 := (PIv_z hx).1
  
  refine r_aload_n E (dat dkX10_writeCell 0 rfl) rfl rfl ?_
  refine r_iload_n E (dat dkX10_writeCell 1 rfl) rfl rfl ?_
  refine r_iconst (v := 1) E (dat dkX10_writeCell 2 rfl) rfl ?_
  refine r_callV (κ := 9) (μ := []) E (sp_X10_get l G c 1 _ (enc A0 x T) hA0 (by omega) (by decide)) my_X10_get iv_X10_get ml_X10_76 cm_id ⟨by decide, rfl, rfl⟩ rfl rfl rfl rfl (by decide) (Nat.le_of_ble_eq_true rfl) (dat dkX10_writeCell 3 rfl) ?_
  rintro _ _ ⟨rfl, rfl⟩
  refine ⟨_, Mrg_z rfl, ?_⟩
  rw [e_w hc hn64]
  refine r_istore_2 E (dat dkX10_writeCell 4 rfl) rfl rfl ?_
  refine r_iload_n E (dat dkX10_writeCell 5 rfl) rfl rfl ?_
  refine r_if_ne (tgt := 20) E (dat dkX10_writeCell 6 rfl) rfl (fun h8 => ?_) (fun h8 => ?_)
  ·
    refine r_aload_n E (dat dkX10_writeCell 11 rfl) rfl rfl ?_
    refine r_iload_n E (dat dkX10_writeCell 12 rfl) rfl rfl ?_
    refine r_bipush (v := 9) E (dat dkX10_writeCell 13 rfl) rfl ?_
    refine r_icmp_le (tgt := 32) E (dat dkX10_writeCell 14 rfl) rfl (fun h24 => ?_) (fun h24 => ?_)
    ·
      refine r_bipush (v := 48) E (dat dkX10_writeCell 17 rfl) rfl ?_
      refine r_iload_n E (dat dkX10_writeCell 18 rfl) rfl rfl ?_
      refine r_iadd E (dat dkX10_writeCell 19 rfl) ?_
      refine r_callV (κ := 9) (μ := []) E (sp_X10_write l G o k _ _ rfl rfl (by omega)) my_X10_write iv_X10_write ml_X10_405 cm_id ⟨by decide, rfl, rfl⟩ rfl rfl rfl rfl (by decide) (Nat.le_of_ble_eq_true rfl) (dat dkX10_writeCell 20 rfl) ?_
      rintro _ _ ⟨rfl, rfl⟩
      refine ⟨_, Mrg_gM (by decide) rfl, ?_⟩
      first
        | rw [gM_gM (by decide), show (43 : Int32) = sgR (T 1 c) from ((if_neg h8).trans (if_neg (by first | exact h24 | exact Int32.not_le.mpr h24))).symm]
        | rw [gM_gM (by decide), show (48 + T 1 c : Int32) = sgR (T 1 c) from ((if_neg h8).trans (if_pos (by first | exact h24 | exact Int32.not_lt.mp h24))).symm]
      refine r_aload_n E (dat dkX10_writeCell 21 rfl) rfl rfl ?_
      refine r_iload_n E (dat dkX10_writeCell 22 rfl) rfl rfl ?_
      refine r_iconst (v := 2) E (dat dkX10_writeCell 23 rfl) rfl ?_
      refine r_callV (κ := 9) (μ := []) E (sp_X10_get l G c 2 _ (enc A0 x T) hA0 (by omega) (by decide)) my_X10_get iv_X10_get ml_X10_76 cm_id ⟨by decide, rfl, rfl⟩ rfl rfl rfl rfl (by decide) (Nat.le_of_ble_eq_true rfl) (dat dkX10_writeCell 24 rfl) ?_
      rintro _ _ ⟨rfl, rfl⟩
      refine ⟨_, Mrg_z rfl, ?_⟩
      rw [e_l hc hn64]
      refine r_if_le (tgt := 54) E (dat dkX10_writeCell 25 rfl) rfl (fun h45 => ?_) (fun h45 => ?_)
      ·
        refine r_vreturn E (dat dkX10_writeCell 29 rfl) (by decide) (by decide) ?_
        refine ⟨rfl, ?_⟩
        rw [gM_gM (by decide), gM_gM (by decide)]
        first
          | (rw [if_pos h45]; done)
          | (rw [if_neg (by first | exact h45 | exact Int32.not_le.mpr h45)]; done)
      ·
        refine r_aload_n E (dat dkX10_writeCell 26 rfl) rfl rfl ?_
        refine r_bipush (v := 37) E (dat dkX10_writeCell 27 rfl) rfl ?_
        refine r_callV (κ := 9) (μ := []) E (sp_X10_write l G (upd o k (sgR (T 1 c)).toInt8.toInt32) (k + 1) 37 _ rfl rfl (by omega)) my_X10_write iv_X10_write ml_X10_405 cm_id ⟨by decide, rfl, rfl⟩ rfl rfl rfl rfl (by decide) (Nat.le_of_ble_eq_true rfl) (dat dkX10_writeCell 28 rfl) ?_
        rintro _ _ ⟨rfl, rfl⟩
        refine ⟨_, Mrg_gM (by decide) rfl, ?_⟩
        rw [gM_gM (by decide)]
        refine r_vreturn E (dat dkX10_writeCell 29 rfl) (by decide) (by decide) ?_
        refine ⟨rfl, ?_⟩
        rw [gM_gM (by decide), gM_gM (by decide)]
        first
          | (rw [if_pos h45]; done)
          | (rw [if_neg (by first | exact h45 | exact Int32.not_le.mpr h45)]; done)
    ·
      refine r_bipush (v := 43) E (dat dkX10_writeCell 15 rfl) rfl ?_
      refine r_goto (tgt := 36) E (dat dkX10_writeCell 16 rfl) rfl ?_
      refine r_callV (κ := 9) (μ := []) E (sp_X10_write l G o k _ _ rfl rfl (by omega)) my_X10_write iv_X10_write ml_X10_405 cm_id ⟨by decide, rfl, rfl⟩ rfl rfl rfl rfl (by decide) (Nat.le_of_ble_eq_true rfl) (dat dkX10_writeCell 20 rfl) ?_
      rintro _ _ ⟨rfl, rfl⟩
      refine ⟨_, Mrg_gM (by decide) rfl, ?_⟩
      first
        | rw [gM_gM (by decide), show (43 : Int32) = sgR (T 1 c) from ((if_neg h8).trans (if_neg (by first | exact h24 | exact Int32.not_le.mpr h24))).symm]
        | rw [gM_gM (by decide), show (48 + T 1 c : Int32) = sgR (T 1 c) from ((if_neg h8).trans (if_pos (by first | exact h24 | exact Int32.not_lt.mp h24))).symm]
      refine r_aload_n E (dat dkX10_writeCell 21 rfl) rfl rfl ?_
      refine r_iload_n E (dat dkX10_writeCell 22 rfl) rfl rfl ?_
      refine r_iconst (v := 2) E (dat dkX10_writeCell 23 rfl) rfl ?_
      refine r_callV (κ := 9) (μ := []) E (sp_X10_get l G c 2 _ (enc A0 x T) hA0 (by omega) (by decide)) my_X10_get iv_X10_get ml_X10_76 cm_id ⟨by decide, rfl, rfl⟩ rfl rfl rfl rfl (by decide) (Nat.le_of_ble_eq_true rfl) (dat dkX10_writeCell 24 rfl) ?_
      rintro _ _ ⟨rfl, rfl⟩
      refine ⟨_, Mrg_z rfl, ?_⟩
      rw [e_l hc hn64]
      refine r_if_le (tgt := 54) E (dat dkX10_writeCell 25 rfl) rfl (fun h45 => ?_) (fun h45 => ?_)
      ·
        refine r_vreturn E (dat dkX10_writeCell 29 rfl) (by decide) (by decide) ?_
        refine ⟨rfl, ?_⟩
        rw [gM_gM (by decide), gM_gM (by decide)]
        first
          | (rw [if_pos h45]; done)
          | (rw [if_neg (by first | exact h45 | exact Int32.not_le.mpr h45)]; done)
      ·
        refine r_aload_n E (dat dkX10_writeCell 26 rfl) rfl rfl ?_
        refine r_bipush (v := 37) E (dat dkX10_writeCell 27 rfl) rfl ?_
        refine r_callV (κ := 9) (μ := []) E (sp_X10_write l G (upd o k (sgR (T 1 c)).toInt8.toInt32) (k + 1) 37 _ rfl rfl (by omega)) my_X10_write iv_X10_write ml_X10_405 cm_id ⟨by decide, rfl, rfl⟩ rfl rfl rfl rfl (by decide) (Nat.le_of_ble_eq_true rfl) (dat dkX10_writeCell 28 rfl) ?_
        rintro _ _ ⟨rfl, rfl⟩
        refine ⟨_, Mrg_gM (by decide) rfl, ?_⟩
        rw [gM_gM (by decide)]
        refine r_vreturn E (dat dkX10_writeCell 29 rfl) (by decide) (by decide) ?_
        refine ⟨rfl, ?_⟩
        rw [gM_gM (by decide), gM_gM (by decide)]
        first
          | (rw [if_pos h45]; done)
          | (rw [if_neg (by first | exact h45 | exact Int32.not_le.mpr h45)]; done)
  ·
    refine r_aload_n E (dat dkX10_writeCell 7 rfl) rfl rfl ?_
    refine r_bipush (v := 46) E (dat dkX10_writeCell 8 rfl) rfl ?_
    refine r_callV (κ := 9) (μ := []) E (sp_X10_write l G o k 46 _ rfl rfl (by omega)) my_X10_write iv_X10_write ml_X10_405 cm_id ⟨by decide, rfl, rfl⟩ rfl rfl rfl rfl (by decide) (Nat.le_of_ble_eq_true rfl) (dat dkX10_writeCell 9 rfl) ?_
    rintro _ _ ⟨rfl, rfl⟩
    refine ⟨_, Mrg_gM (by decide) rfl, ?_⟩
    rw [gM_gM (by decide), show (46 : Int32) = sgR (T 1 c) from (if_pos (by first | exact h8 | exact Decidable.not_not.mp h8)).symm]
    refine r_goto (tgt := 39) E (dat dkX10_writeCell 10 rfl) rfl ?_
    refine r_aload_n E (dat dkX10_writeCell 21 rfl) rfl rfl ?_
    refine r_iload_n E (dat dkX10_writeCell 22 rfl) rfl rfl ?_
    refine r_iconst (v := 2) E (dat dkX10_writeCell 23 rfl) rfl ?_
    refine r_callV (κ := 9) (μ := []) E (sp_X10_get l G c 2 _ (enc A0 x T) hA0 (by omega) (by decide)) my_X10_get iv_X10_get ml_X10_76 cm_id ⟨by decide, rfl, rfl⟩ rfl rfl rfl rfl (by decide) (Nat.le_of_ble_eq_true rfl) (dat dkX10_writeCell 24 rfl) ?_
    rintro _ _ ⟨rfl, rfl⟩
    refine ⟨_, Mrg_z rfl, ?_⟩
    rw [e_l hc hn64]
    refine r_if_le (tgt := 54) E (dat dkX10_writeCell 25 rfl) rfl (fun h45 => ?_) (fun h45 => ?_)
    ·
      refine r_vreturn E (dat dkX10_writeCell 29 rfl) (by decide) (by decide) ?_
      refine ⟨rfl, ?_⟩
      rw [gM_gM (by decide), gM_gM (by decide)]
      first
        | (rw [if_pos h45]; done)
        | (rw [if_neg (by first | exact h45 | exact Int32.not_le.mpr h45)]; done)
    ·
      refine r_aload_n E (dat dkX10_writeCell 26 rfl) rfl rfl ?_
      refine r_bipush (v := 37) E (dat dkX10_writeCell 27 rfl) rfl ?_
      refine r_callV (κ := 9) (μ := []) E (sp_X10_write l G (upd o k (sgR (T 1 c)).toInt8.toInt32) (k + 1) 37 _ rfl rfl (by omega)) my_X10_write iv_X10_write ml_X10_405 cm_id ⟨by decide, rfl, rfl⟩ rfl rfl rfl rfl (by decide) (Nat.le_of_ble_eq_true rfl) (dat dkX10_writeCell 28 rfl) ?_
      rintro _ _ ⟨rfl, rfl⟩
      refine ⟨_, Mrg_gM (by decide) rfl, ?_⟩
      rw [gM_gM (by decide)]
      refine r_vreturn E (dat dkX10_writeCell 29 rfl) (by decide) (by decide) ?_
      refine ⟨rfl, ?_⟩
      rw [gM_gM (by decide), gM_gM (by decide)]
      first
        | (rw [if_pos h45]; done)
        | (rw [if_neg (by first | exact h45 | exact Int32.not_le.mpr h45)]; done)

set_option maxRecDepth 100000 in
set_option maxHeartbeats 8000000 in
theorem sp_X10_writeRow (l : Launch) (G : GT) (A0 : Nat → Int32) (x : PP) (T : Nat → Nat → Int32) (o : Nat → Int32) (a : Int32) (M : Mem) (hA : M 0 1 = enc A0 x T) (hx : PIv x) (hw : ∀ c, c < x.1.2.2 → 0 ≤ T 1 c) (hO : M 0 25 = o) : MC l G yX10_writeRow cX10_writeRow 3 (some .int) ({ frames := 3, cells := 0, slots := 0, locals := 64 } : Room) [9] lk0 [rv 0 0, iv a] (M) (fun r M2 => (∃ r9, r9 < x.1.1 ∧ a = nI r9 ∧ M2 = gM 25 25 (mt M 0) (woF (T 1) (T 2) (r9 * x.1.2.1) o x.1.2.1).1 (nI (woF (T 1) (T 2) (r9 * x.1.2.1) o x.1.2.1).2) ∧ r = some (iv (nI (woF (T 1) (T 2) (r9 * x.1.2.1) o x.1.2.1).2))) ∨ ((¬ ∃ r9, r9 < x.1.1 ∧ a = nI r9) ∧ M2 = mt M 1 ∧ r = some (iv 0))) := by
  refine MC.of RX10 [some (rv 0 0), some (iv a), none] 1 (by decide +kernel) rfl rfl rfl ?_
  intro pp ee ss mm aa bb me cd ad E
  have hn64 := (PIv_z hx).1
  have h8 := hx.1
  have h88 := hx.2.1
  
  rcases wI_any (a := a) (u := x.1.1) (by have := hx.1; omega) with ⟨hi1, hr9⟩ | ⟨hi0, hr9⟩
  ·
    obtain ⟨r9, hrr, rfl⟩ := hr9
    refine r_aload_n E (dat dkX10_writeRow 0 rfl) rfl rfl ?_
    refine r_iload_n E (dat dkX10_writeRow 1 rfl) rfl rfl ?_
    refine r_i2l E (dat dkX10_writeRow 2 rfl) ?_
    refine r_lconst E (dat dkX10_writeRow 3 rfl) rfl ?_
    refine r_aload_n E (dat dkX10_writeRow 4 rfl) rfl rfl ?_
    refine q_geta E fl_X10_9 (dat dkX10_writeRow 5 rfl) rfl rfl rfl ?_
    refine r_iconst (v := 2) E (dat dkX10_writeRow 6 rfl) rfl ?_
    refine q_iald E (dat dkX10_writeRow 7 rfl) rfl rfl (by decide) (show _ = enc A0 x T from hA) (show _ = nI 2 from rfl) (by omega) ?_
    refine r_iconst (v := 1) E (dat dkX10_writeRow 8 rfl) rfl ?_
    refine r_isub E (dat dkX10_writeRow 9 rfl) ?_
    refine r_i2l E (dat dkX10_writeRow 10 rfl) ?_
    refine r_callS (μ := []) E (sp_X10_isWithin l G (nI r9).toInt64 0 (nI x.1.1 - 1).toInt64 _) my_X10_isWithin is_X10_isWithin ml_X10_80 cm_nil rfl rfl (by decide) (Nat.le_of_ble_eq_true rfl) (dat dkX10_writeRow 11 rfl) ?_
    rintro _ _ ⟨rfl, hM⟩
    refine ⟨_, Mrg_z hM, ?_⟩
    clear hM
    rw [hi1]
    refine r_iconst (v := 1) E (dat dkX10_writeRow 12 rfl) rfl ?_
    refine r_iconst (v := 1) E (dat dkX10_writeRow 13 rfl) rfl ?_
    refine r_callV (κ := 9) (μ := []) E (sp_X10_check l G (1) (1) (1) _) my_X10_check iv_X10_check ml_X10_329 cm_id ⟨by decide, rfl, rfl⟩ rfl rfl rfl rfl (by decide) (Nat.le_of_ble_eq_true rfl) (dat dkX10_writeRow 14 rfl) ?_
    rintro _ _ ⟨rfl, rfl⟩
    refine ⟨_, Mrg_mt (by decide) rfl, ?_⟩
    rw [show ckI (1) (1) (1) = 0 from rfl, if_pos rfl]
    refine r_if_ne (tgt := 26) E (dat dkX10_writeRow 15 rfl) rfl (fun h21 => ?_) (fun h21 => ?_)
    ·
      refine r_aload_n E (dat dkX10_writeRow 18 rfl) rfl rfl ?_
      refine r_iconst (v := 0) E (dat dkX10_writeRow 19 rfl) rfl ?_
      refine q_putn E ft_X10_402 (dat dkX10_writeRow 20 rfl) rfl rfl rfl rfl ?_
      rw [show setm (mt M 0) 0 (sett (mt M 0 0) 0 (upd (mt M 0 0 0) 25 0)) = gM 25 25 (mt M 0) o 0 from by
        conv => lhs; rw [← gM_of (t := 25) (fd := 25) (M := mt M 0) (P := o) (k := mt M 0 0 0 25) hO rfl]
        exact gM_p]
      refine r_iconst (v := 0) E (dat dkX10_writeRow 21 rfl) rfl ?_
      refine r_istore_2 E (dat dkX10_writeRow 22 rfl) rfl rfl ?_
      refine r_for (x.1.2.1) (fun _ => True) (fun i => gM 25 25 (mt M 0) (woF (T 1) (T 2) (r9 * x.1.2.1) o i).1 (nI (woF (T 1) (T 2) (r9 * x.1.2.1) o i).2)) (fun i => [some (rv 0 0), some (iv (nI r9)), some (iv (nI i))]) trivial rfl rfl ?_ ?_
      · intro i hi hI kk
        have hkl := woF_le (w := T 1) (lv := T 2) (b := r9 * x.1.2.1) (o := o) i
        refine r_iload_n E (dat dkX10_writeRow 23 rfl) rfl rfl ?_
        refine r_aload_n E (dat dkX10_writeRow 24 rfl) rfl rfl ?_
        refine q_geta E fl_X10_9 (dat dkX10_writeRow 25 rfl) rfl rfl rfl ?_
        refine r_iconst (v := 1) E (dat dkX10_writeRow 26 rfl) rfl ?_
        refine q_iald E (dat dkX10_writeRow 27 rfl) rfl rfl (by decide) (show _ = enc A0 x T from hA) (show _ = nI 1 from rfl) (by omega) ?_
        refine q_icmp_ge (tgt := 63) E (dat dkX10_writeRow 28 rfl) rfl rfl rfl (by omega) (by omega) (fun h40 => ?_) (fun h40 => ?_)
        ·
          omega
        ·
          refine r_aload_n E (dat dkX10_writeRow 29 rfl) rfl rfl ?_
          refine r_iload_n E (dat dkX10_writeRow 30 rfl) rfl rfl ?_
          refine r_aload_n E (dat dkX10_writeRow 31 rfl) rfl rfl ?_
          refine q_geta E fl_X10_9 (dat dkX10_writeRow 32 rfl) rfl rfl rfl ?_
          refine r_iconst (v := 1) E (dat dkX10_writeRow 33 rfl) rfl ?_
          refine q_iald E (dat dkX10_writeRow 34 rfl) rfl rfl (by decide) (show _ = enc A0 x T from hA) (show _ = nI 1 from rfl) (by omega) ?_
          refine r_imul E (dat dkX10_writeRow 35 rfl) ?_
          rw [show enc A0 x T 1 = nI x.1.2.1 from rfl, pk_mul]
          refine r_iload_n E (dat dkX10_writeRow 36 rfl) rfl rfl ?_
          refine r_iadd E (dat dkX10_writeRow 37 rfl) ?_
          rw [nI_add]
          have hcl : r9 * x.1.2.1 + i < x.1.2.2 := by rw [hx.2.2.1]; exact cell_lt hrr hi
          refine r_callV (κ := 9) (μ := []) E (sp_X10_writeCell l G A0 x T (woF (T 1) (T 2) (r9 * x.1.2.1) o i).1 (woF (T 1) (T 2) (r9 * x.1.2.1) o i).2 (r9 * x.1.2.1 + i) _ hA hx hcl rfl rfl (by omega)) my_X10_writeCell iv_X10_writeCell ml_X10_408 cm_id ⟨by decide, rfl, rfl⟩ rfl rfl rfl rfl (by decide) (Nat.le_of_ble_eq_true rfl) (dat dkX10_writeRow 38 rfl) ?_
          rintro _ _ ⟨rfl, hM9⟩
          refine ⟨gM 25 25 (mt M 0) (woF (T 1) (T 2) (r9 * x.1.2.1) o (i + 1)).1 (nI (woF (T 1) (T 2) (r9 * x.1.2.1) o (i + 1)).2), ?_, ?_⟩
          · rw [hM9]
            have hs9 := sgR_eq (hw _ hcl)
            by_cases hl : T 2 (r9 * x.1.2.1 + i) ≤ 0
            · rw [if_pos hl, woF_1 hl, ← hs9]
              exact Mrg_gG (by decide) (by decide) rfl
            · rw [if_neg hl, woF_2 hl, ← hs9]
              exact Mrg_gG (by decide) (by decide) rfl
          clear hM9
          refine q_iinc_2 E (dat dkX10_writeRow 39 rfl) rfl rfl ?_
          refine r_goto (tgt := 33) E (dat dkX10_writeRow 40 rfl) rfl ?_
          exact kk trivial
      · intro hI
        refine r_iload_n E (dat dkX10_writeRow 23 rfl) rfl rfl ?_
        refine r_aload_n E (dat dkX10_writeRow 24 rfl) rfl rfl ?_
        refine q_geta E fl_X10_9 (dat dkX10_writeRow 25 rfl) rfl rfl rfl ?_
        refine r_iconst (v := 1) E (dat dkX10_writeRow 26 rfl) rfl ?_
        refine q_iald E (dat dkX10_writeRow 27 rfl) rfl rfl (by decide) (show _ = enc A0 x T from hA) (show _ = nI 1 from rfl) (by omega) ?_
        refine q_icmp_ge (tgt := 63) E (dat dkX10_writeRow 28 rfl) rfl rfl rfl (by omega) (by omega) (fun h40 => ?_) (fun h40 => ?_)
        ·
          refine r_aload_n E (dat dkX10_writeRow 41 rfl) rfl rfl ?_
          refine q_getn E fl_X10_402 (dat dkX10_writeRow 42 rfl) rfl rfl rfl rfl ?_
          refine r_ireturn E (dat dkX10_writeRow 43 rfl) (by decide) (by decide) ?_
          exact Or.inl ⟨r9, hrr, rfl, rfl, rfl⟩
        ·
          omega
    ·
      exact absurd h21 (by decide)
  ·
    refine r_aload_n E (dat dkX10_writeRow 0 rfl) rfl rfl ?_
    refine r_iload_n E (dat dkX10_writeRow 1 rfl) rfl rfl ?_
    refine r_i2l E (dat dkX10_writeRow 2 rfl) ?_
    refine r_lconst E (dat dkX10_writeRow 3 rfl) rfl ?_
    refine r_aload_n E (dat dkX10_writeRow 4 rfl) rfl rfl ?_
    refine q_geta E fl_X10_9 (dat dkX10_writeRow 5 rfl) rfl rfl rfl ?_
    refine r_iconst (v := 2) E (dat dkX10_writeRow 6 rfl) rfl ?_
    refine q_iald E (dat dkX10_writeRow 7 rfl) rfl rfl (by decide) (show _ = enc A0 x T from hA) (show _ = nI 2 from rfl) (by omega) ?_
    refine r_iconst (v := 1) E (dat dkX10_writeRow 8 rfl) rfl ?_
    refine r_isub E (dat dkX10_writeRow 9 rfl) ?_
    refine r_i2l E (dat dkX10_writeRow 10 rfl) ?_
    refine r_callS (μ := []) E (sp_X10_isWithin l G a.toInt64 0 (nI x.1.1 - 1).toInt64 _) my_X10_isWithin is_X10_isWithin ml_X10_80 cm_nil rfl rfl (by decide) (Nat.le_of_ble_eq_true rfl) (dat dkX10_writeRow 11 rfl) ?_
    rintro _ _ ⟨rfl, hM⟩
    refine ⟨_, Mrg_z hM, ?_⟩
    clear hM
    rw [hi0]
    refine r_iconst (v := 1) E (dat dkX10_writeRow 12 rfl) rfl ?_
    refine r_iconst (v := 1) E (dat dkX10_writeRow 13 rfl) rfl ?_
    refine r_callV (κ := 9) (μ := []) E (sp_X10_check l G (0) (1) (1) _) my_X10_check iv_X10_check ml_X10_329 cm_id ⟨by decide, rfl, rfl⟩ rfl rfl rfl rfl (by decide) (Nat.le_of_ble_eq_true rfl) (dat dkX10_writeRow 14 rfl) ?_
    rintro _ _ ⟨rfl, rfl⟩
    refine ⟨_, Mrg_mt (by decide) rfl, ?_⟩
    rw [show ckI (0) (1) (1) = 1 from if_pos rfl, if_neg (by decide)]
    refine r_if_ne (tgt := 26) E (dat dkX10_writeRow 15 rfl) rfl (fun h21 => ?_) (fun h21 => ?_)
    ·
      exact absurd rfl h21
    ·
      refine r_iconst (v := 0) E (dat dkX10_writeRow 16 rfl) rfl ?_
      refine r_ireturn E (dat dkX10_writeRow 17 rfl) (by decide) (by decide) ?_
      exact Or.inr ⟨hr9, rfl, rfl⟩
