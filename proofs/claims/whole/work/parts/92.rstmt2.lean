/-! the reference: a statement read -/
theorem TG_kb {b : Nat → Int32} {n : Nat} {x : PP} {t : TT} (h : TG n t) : TG n (kbT b n x t) := TG_ad (TG_ex (by decide) (TG_ex (by decide) h))
set_option maxRecDepth 100000 in
set_option maxHeartbeats 4000000 in
theorem sp_st_no (l : Launch) (G : GT) (bs : Nat → Int32) (n : Nat) (A : Nat → Int32) (t : TT) (u : TT) (A0 : Nat → Int32) (x : PP) (T : Nat → Nat → Int32) (S : Nat → Int32) (k : Nat) (M : Mem) (hB : M 0 10 = bs) (hn : M 0 0 10 = nI n) (hA : M 0 1 = A) (hT : TI M t) (hG : TG n t) (hn6 : n ≤ 600) (hE : A = enc A0 x T) (hx : PIv x) (hC : rC n t u) (hS21 : M 0 21 = S) (hc21 : M 0 0 21 = nI k) (hk31 : k ≤ 30) (hv : vbF bs u = none) : MC l G yX10_parseStatement cX10_parseStatement 3 none ({ frames := 6, cells := 0, slots := 0, locals := 127 } : Room) [9] lk0 [rv 0 0] (M) (fun r M2 => r = none ∧ ∃ t9, TG n t9 ∧ PK M M2 A t9 ∧ ((vbF bs u = none ∧ rX t9 (tFl 1 u)) ∨ (∃ v, vbF bs u = some v ∧ k = 30 ∧ rX t9 (tFl 4 u)) ∨ (∃ v t2, vbF bs u = some v ∧ k < 30 ∧ rK bs n t2 u ∧ t9 = mSm bs n (ch bs n x v t2).1 ∧ M2 0 0 21 = nI (k + 1) ∧ ∃ S2, M2 0 21 = S2 ∧ stC S2 S k v (ch bs n x v t2).2))) := by
  refine MC.of RX10 [some (rv 0 0), none, none] 2 (by decide +kernel) rfl rfl rfl ?_
  intro pp ee ss mm aa bb me cd ad E
  have hk : kq M M := kq_r
  have hz2 : A 2 * A 1 = nI x.1.2.2 := by rw [hE]; exact ce_x hx
  have x1 := rC_x hC (show (0 : Int32) < 1 by decide)
  refine r_aload_n E (dat dkX10_parseStatement 0 rfl) rfl rfl ?_
  refine r_callV (κ := 9) (μ := []) E (sp_X10_statementKind l G bs n _ _ u _ hB hn hA hT hG hn6 hC) my_X10_statementKind iv_X10_statementKind ml_X10_273 cm_id ⟨by decide, rfl, rfl⟩ rfl rfl rfl rfl (by decide) (Nat.le_of_ble_eq_true rfl) (dat dkX10_parseStatement 1 rfl) ?_
  rintro _ M9 ⟨rfl, hM9⟩
  refine ⟨_, Mrg_z hM9, ?_⟩
  clear hM9
  rw [show oI (vbF bs u) = oI (none) from by rw [hv]]
  refine r_istore_1 E (dat dkX10_parseStatement 2 rfl) rfl rfl ?_
  refine r_aload_n E (dat dkX10_parseStatement 3 rfl) rfl rfl ?_
  refine r_iload_n E (dat dkX10_parseStatement 4 rfl) rfl rfl ?_
  refine r_iconst (v := -1) E (dat dkX10_parseStatement 5 rfl) rfl ?_
  refine r_icmp_eq (tgt := 15) E (dat dkX10_parseStatement 6 rfl) rfl (fun h8 => ?_) (fun h8 => ?_)
  ·
    refine r_iconst (v := 0) E (dat dkX10_parseStatement 9 rfl) rfl ?_
    refine r_iconst (v := 1) E (dat dkX10_parseStatement 10 rfl) rfl ?_
    refine r_callV (κ := 9) (μ := []) E (px_ex l G bs n _ _ (0) (1) _ hB hn hA hT hG hn6) my_X10_expect iv_X10_expect ml_X10_194 cm_id ⟨by decide, rfl, rfl⟩ rfl rfl rfl rfl (by decide) (Nat.le_of_ble_eq_true rfl) (dat dkX10_parseStatement 11 rfl) ?_
    rintro _ M9 ⟨rfl, hp9, hs9⟩
    obtain ⟨Ma, hMr, hk9, hA, hT, hS9⟩ := Mrg_pk hp9 hs9
    replace hB := (hk9.2.2.2.1).trans hB
    replace hn := (hk9.2.2.2.2.2.2.2.2.1).trans hn
    replace hk := kq_t hk hk9
    replace hG := TG_ex (a := 0) (k := 1) (by decide) hG
    replace hS21 : Ma 0 21 = S := by first | exact hS9.2.2.2.1 | exact hS9.2.2.2.1.trans hS21
    replace hc21 : Ma 0 0 21 = nI k := hS9.2.2.2.2.trans hc21
    refine ⟨_, hMr, ?_⟩
    clear hp9 hs9 hMr hk9 hS9
    refine r_aload_n E (dat dkX10_parseStatement 12 rfl) rfl rfl ?_
    refine r_aload_n E (dat dkX10_parseStatement 13 rfl) rfl rfl ?_
    refine q_getn E fl_X10_276 (dat dkX10_parseStatement 14 rfl) rfl rfl rfl (show (_ : Int32) = nI k from hc21) ?_
    refine r_bipush (v := 30) E (dat dkX10_parseStatement 15 rfl) rfl ?_
    refine q_icmp_ge (tgt := 34) E (dat dkX10_parseStatement 16 rfl) rfl rfl (b := 30) rfl (by omega) (by omega) (fun h27 => ?_) (fun h27 => ?_)
    ·
      refine r_iconst (v := 0) E (dat dkX10_parseStatement 19 rfl) rfl ?_
      refine r_iconst (v := 4) E (dat dkX10_parseStatement 20 rfl) rfl ?_
      refine r_callV (κ := 9) (μ := []) E (px_ex l G bs n _ _ (0) (4) _ hB hn hA hT hG hn6) my_X10_expect iv_X10_expect ml_X10_194 cm_id ⟨by decide, rfl, rfl⟩ rfl rfl rfl rfl (by decide) (Nat.le_of_ble_eq_true rfl) (dat dkX10_parseStatement 21 rfl) ?_
      rintro _ M9 ⟨rfl, hp9, hs9⟩
      obtain ⟨Ma, hMr, hk9, hA, hT, hS9⟩ := Mrg_pk hp9 hs9
      replace hB := (hk9.2.2.2.1).trans hB
      replace hn := (hk9.2.2.2.2.2.2.2.2.1).trans hn
      replace hk := kq_t hk hk9
      replace hG := TG_ex (a := 0) (k := 4) (by decide) hG
      replace hS21 : Ma 0 21 = S := by first | exact hS9.2.2.2.1 | exact hS9.2.2.2.1.trans hS21
      replace hc21 : Ma 0 0 21 = nI k := hS9.2.2.2.2.trans hc21
      refine ⟨_, hMr, ?_⟩
      clear hp9 hs9 hMr hk9 hS9
      refine r_aload_n E (dat dkX10_parseStatement 22 rfl) rfl rfl ?_
      refine r_callV (κ := 9) (μ := []) E (px_adv l G bs n _ _  _ hB hn hA hT hG hn6) my_X10_advanceToken iv_X10_advanceToken ml_X10_189 cm_id ⟨by decide, rfl, rfl⟩ rfl rfl rfl rfl (by decide) (Nat.le_of_ble_eq_true rfl) (dat dkX10_parseStatement 23 rfl) ?_
      rintro _ M9 ⟨rfl, hp9, hs9⟩
      obtain ⟨Ma, hMr, hk9, hA, hT, hS9⟩ := Mrg_pk hp9 hs9
      replace hB := (hk9.2.2.2.1).trans hB
      replace hn := (hk9.2.2.2.2.2.2.2.2.1).trans hn
      replace hk := kq_t hk hk9
      replace hG := TG_ad (b := bs) hG
      replace hS21 : Ma 0 21 = S := by first | exact hS9.2.2.2.1 | exact hS9.2.2.2.1.trans hS21
      replace hc21 : Ma 0 0 21 = nI k := hS9.2.2.2.2.trans hc21
      refine ⟨_, hMr, ?_⟩
      clear hp9 hs9 hMr hk9 hS9
      refine r_aload_n E (dat dkX10_parseStatement 24 rfl) rfl rfl ?_
      refine q_getn E fl_X10_165 (dat dkX10_parseStatement 25 rfl) rfl rfl rfl (show (_ : Int32) = _ from hT.2.2.2.2.1) ?_
      refine r_if_le (tgt := 51) E (dat dkX10_parseStatement 26 rfl) rfl (fun h47 => ?_) (fun h47 => ?_)
      ·
        exact absurd x1.1 (Int32.not_lt.mpr (show (mEx 0 1 t).2.2.2.2.1 ≤ 0 from by
          have e : ∀ a, mAd bs n (mEx a 4 (mEx 0 1 t)) = mEx 0 1 t := fun a => by rw [mEx_x x1.1, mAd_x x1.1]
          rw [e] at h47
          first | exact h47 | exact Int32.not_lt.mp h47))
      ·
        refine r_vreturn E (dat dkX10_parseStatement 27 rfl) (by decide) (by decide) ?_
        refine ⟨rfl, _, hG, ⟨hk, hA, hT⟩, Or.inl ⟨hv, by rw [mEx_x x1.1, mAd_x x1.1]; exact x1⟩⟩
    ·
      refine r_iconst (v := 1) E (dat dkX10_parseStatement 17 rfl) rfl ?_
      refine r_goto (tgt := 35) E (dat dkX10_parseStatement 18 rfl) rfl ?_
      refine r_iconst (v := 4) E (dat dkX10_parseStatement 20 rfl) rfl ?_
      refine r_callV (κ := 9) (μ := []) E (px_ex l G bs n _ _ (1) (4) _ hB hn hA hT hG hn6) my_X10_expect iv_X10_expect ml_X10_194 cm_id ⟨by decide, rfl, rfl⟩ rfl rfl rfl rfl (by decide) (Nat.le_of_ble_eq_true rfl) (dat dkX10_parseStatement 21 rfl) ?_
      rintro _ M9 ⟨rfl, hp9, hs9⟩
      obtain ⟨Ma, hMr, hk9, hA, hT, hS9⟩ := Mrg_pk hp9 hs9
      replace hB := (hk9.2.2.2.1).trans hB
      replace hn := (hk9.2.2.2.2.2.2.2.2.1).trans hn
      replace hk := kq_t hk hk9
      replace hG := TG_ex (a := 1) (k := 4) (by decide) hG
      replace hS21 : Ma 0 21 = S := by first | exact hS9.2.2.2.1 | exact hS9.2.2.2.1.trans hS21
      replace hc21 : Ma 0 0 21 = nI k := hS9.2.2.2.2.trans hc21
      refine ⟨_, hMr, ?_⟩
      clear hp9 hs9 hMr hk9 hS9
      refine r_aload_n E (dat dkX10_parseStatement 22 rfl) rfl rfl ?_
      refine r_callV (κ := 9) (μ := []) E (px_adv l G bs n _ _  _ hB hn hA hT hG hn6) my_X10_advanceToken iv_X10_advanceToken ml_X10_189 cm_id ⟨by decide, rfl, rfl⟩ rfl rfl rfl rfl (by decide) (Nat.le_of_ble_eq_true rfl) (dat dkX10_parseStatement 23 rfl) ?_
      rintro _ M9 ⟨rfl, hp9, hs9⟩
      obtain ⟨Ma, hMr, hk9, hA, hT, hS9⟩ := Mrg_pk hp9 hs9
      replace hB := (hk9.2.2.2.1).trans hB
      replace hn := (hk9.2.2.2.2.2.2.2.2.1).trans hn
      replace hk := kq_t hk hk9
      replace hG := TG_ad (b := bs) hG
      replace hS21 : Ma 0 21 = S := by first | exact hS9.2.2.2.1 | exact hS9.2.2.2.1.trans hS21
      replace hc21 : Ma 0 0 21 = nI k := hS9.2.2.2.2.trans hc21
      refine ⟨_, hMr, ?_⟩
      clear hp9 hs9 hMr hk9 hS9
      refine r_aload_n E (dat dkX10_parseStatement 24 rfl) rfl rfl ?_
      refine q_getn E fl_X10_165 (dat dkX10_parseStatement 25 rfl) rfl rfl rfl (show (_ : Int32) = _ from hT.2.2.2.2.1) ?_
      refine r_if_le (tgt := 51) E (dat dkX10_parseStatement 26 rfl) rfl (fun h47 => ?_) (fun h47 => ?_)
      ·
        exact absurd x1.1 (Int32.not_lt.mpr (show (mEx 0 1 t).2.2.2.2.1 ≤ 0 from by
          have e : ∀ a, mAd bs n (mEx a 4 (mEx 0 1 t)) = mEx 0 1 t := fun a => by rw [mEx_x x1.1, mAd_x x1.1]
          rw [e] at h47
          first | exact h47 | exact Int32.not_lt.mp h47))
      ·
        refine r_vreturn E (dat dkX10_parseStatement 27 rfl) (by decide) (by decide) ?_
        refine ⟨rfl, _, hG, ⟨hk, hA, hT⟩, Or.inl ⟨hv, by rw [mEx_x x1.1, mAd_x x1.1]; exact x1⟩⟩
  ·
    exact absurd rfl h8

set_option maxRecDepth 100000 in
set_option maxHeartbeats 4000000 in
theorem sp_st_30 (l : Launch) (G : GT) (bs : Nat → Int32) (n : Nat) (A : Nat → Int32) (t : TT) (u : TT) (A0 : Nat → Int32) (x : PP) (T : Nat → Nat → Int32) (S : Nat → Int32) (k : Nat) (v : Nat) (M : Mem) (hB : M 0 10 = bs) (hn : M 0 0 10 = nI n) (hA : M 0 1 = A) (hT : TI M t) (hG : TG n t) (hn6 : n ≤ 600) (hE : A = enc A0 x T) (hx : PIv x) (hC : rC n t u) (hS21 : M 0 21 = S) (hc21 : M 0 0 21 = nI k) (hk31 : k ≤ 30) (hv8 : v < 8) (hv : vbF bs u = some v) (hk30 : ¬ k < 30) : MC l G yX10_parseStatement cX10_parseStatement 3 none ({ frames := 6, cells := 0, slots := 0, locals := 127 } : Room) [9] lk0 [rv 0 0] (M) (fun r M2 => r = none ∧ ∃ t9, TG n t9 ∧ PK M M2 A t9 ∧ ((vbF bs u = none ∧ rX t9 (tFl 1 u)) ∨ (∃ v, vbF bs u = some v ∧ k = 30 ∧ rX t9 (tFl 4 u)) ∨ (∃ v t2, vbF bs u = some v ∧ k < 30 ∧ rK bs n t2 u ∧ t9 = mSm bs n (ch bs n x v t2).1 ∧ M2 0 0 21 = nI (k + 1) ∧ ∃ S2, M2 0 21 = S2 ∧ stC S2 S k v (ch bs n x v t2).2))) := by
  refine MC.of RX10 [some (rv 0 0), none, none] 2 (by decide +kernel) rfl rfl rfl ?_
  intro pp ee ss mm aa bb me cd ad E
  have hk : kq M M := kq_r
  have hz2 : A 2 * A 1 = nI x.1.2.2 := by rw [hE]; exact ce_x hx
  have x1 := rC_x hC (show (0 : Int32) < 4 by decide)
  refine r_aload_n E (dat dkX10_parseStatement 0 rfl) rfl rfl ?_
  refine r_callV (κ := 9) (μ := []) E (sp_X10_statementKind l G bs n _ _ u _ hB hn hA hT hG hn6 hC) my_X10_statementKind iv_X10_statementKind ml_X10_273 cm_id ⟨by decide, rfl, rfl⟩ rfl rfl rfl rfl (by decide) (Nat.le_of_ble_eq_true rfl) (dat dkX10_parseStatement 1 rfl) ?_
  rintro _ M9 ⟨rfl, hM9⟩
  refine ⟨_, Mrg_z hM9, ?_⟩
  clear hM9
  rw [show oI (vbF bs u) = oI (some v) from by rw [hv]]
  refine r_istore_1 E (dat dkX10_parseStatement 2 rfl) rfl rfl ?_
  refine r_aload_n E (dat dkX10_parseStatement 3 rfl) rfl rfl ?_
  refine r_iload_n E (dat dkX10_parseStatement 4 rfl) rfl rfl ?_
  refine r_iconst (v := -1) E (dat dkX10_parseStatement 5 rfl) rfl ?_
  refine r_icmp_eq (tgt := 15) E (dat dkX10_parseStatement 6 rfl) rfl (fun h8 => ?_) (fun h8 => ?_)
  ·
    exact absurd h8 (oI_nm (by omega))
  ·
    refine r_iconst (v := 1) E (dat dkX10_parseStatement 7 rfl) rfl ?_
    refine r_goto (tgt := 16) E (dat dkX10_parseStatement 8 rfl) rfl ?_
    refine r_iconst (v := 1) E (dat dkX10_parseStatement 10 rfl) rfl ?_
    refine r_callV (κ := 9) (μ := []) E (px_ex l G bs n _ _ (1) (1) _ hB hn hA hT hG hn6) my_X10_expect iv_X10_expect ml_X10_194 cm_id ⟨by decide, rfl, rfl⟩ rfl rfl rfl rfl (by decide) (Nat.le_of_ble_eq_true rfl) (dat dkX10_parseStatement 11 rfl) ?_
    rintro _ M9 ⟨rfl, hp9, hs9⟩
    obtain ⟨Ma, hMr, hk9, hA, hT, hS9⟩ := Mrg_pk hp9 hs9
    replace hB := (hk9.2.2.2.1).trans hB
    replace hn := (hk9.2.2.2.2.2.2.2.2.1).trans hn
    replace hk := kq_t hk hk9
    replace hG := TG_ex (a := 1) (k := 1) (by decide) hG
    replace hS21 : Ma 0 21 = S := by first | exact hS9.2.2.2.1 | exact hS9.2.2.2.1.trans hS21
    replace hc21 : Ma 0 0 21 = nI k := hS9.2.2.2.2.trans hc21
    refine ⟨_, hMr, ?_⟩
    clear hp9 hs9 hMr hk9 hS9
    refine r_aload_n E (dat dkX10_parseStatement 12 rfl) rfl rfl ?_
    refine r_aload_n E (dat dkX10_parseStatement 13 rfl) rfl rfl ?_
    refine q_getn E fl_X10_276 (dat dkX10_parseStatement 14 rfl) rfl rfl rfl (show (_ : Int32) = nI k from hc21) ?_
    refine r_bipush (v := 30) E (dat dkX10_parseStatement 15 rfl) rfl ?_
    refine q_icmp_ge (tgt := 34) E (dat dkX10_parseStatement 16 rfl) rfl rfl (b := 30) rfl (by omega) (by omega) (fun h27 => ?_) (fun h27 => ?_)
    ·
      refine r_iconst (v := 0) E (dat dkX10_parseStatement 19 rfl) rfl ?_
      refine r_iconst (v := 4) E (dat dkX10_parseStatement 20 rfl) rfl ?_
      refine r_callV (κ := 9) (μ := []) E (px_ex l G bs n _ _ (0) (4) _ hB hn hA hT hG hn6) my_X10_expect iv_X10_expect ml_X10_194 cm_id ⟨by decide, rfl, rfl⟩ rfl rfl rfl rfl (by decide) (Nat.le_of_ble_eq_true rfl) (dat dkX10_parseStatement 21 rfl) ?_
      rintro _ M9 ⟨rfl, hp9, hs9⟩
      obtain ⟨Ma, hMr, hk9, hA, hT, hS9⟩ := Mrg_pk hp9 hs9
      replace hB := (hk9.2.2.2.1).trans hB
      replace hn := (hk9.2.2.2.2.2.2.2.2.1).trans hn
      replace hk := kq_t hk hk9
      replace hG := TG_ex (a := 0) (k := 4) (by decide) hG
      replace hS21 : Ma 0 21 = S := by first | exact hS9.2.2.2.1 | exact hS9.2.2.2.1.trans hS21
      replace hc21 : Ma 0 0 21 = nI k := hS9.2.2.2.2.trans hc21
      refine ⟨_, hMr, ?_⟩
      clear hp9 hs9 hMr hk9 hS9
      refine r_aload_n E (dat dkX10_parseStatement 22 rfl) rfl rfl ?_
      refine r_callV (κ := 9) (μ := []) E (px_adv l G bs n _ _  _ hB hn hA hT hG hn6) my_X10_advanceToken iv_X10_advanceToken ml_X10_189 cm_id ⟨by decide, rfl, rfl⟩ rfl rfl rfl rfl (by decide) (Nat.le_of_ble_eq_true rfl) (dat dkX10_parseStatement 23 rfl) ?_
      rintro _ M9 ⟨rfl, hp9, hs9⟩
      obtain ⟨Ma, hMr, hk9, hA, hT, hS9⟩ := Mrg_pk hp9 hs9
      replace hB := (hk9.2.2.2.1).trans hB
      replace hn := (hk9.2.2.2.2.2.2.2.2.1).trans hn
      replace hk := kq_t hk hk9
      replace hG := TG_ad (b := bs) hG
      replace hS21 : Ma 0 21 = S := by first | exact hS9.2.2.2.1 | exact hS9.2.2.2.1.trans hS21
      replace hc21 : Ma 0 0 21 = nI k := hS9.2.2.2.2.trans hc21
      refine ⟨_, hMr, ?_⟩
      clear hp9 hs9 hMr hk9 hS9
      refine r_aload_n E (dat dkX10_parseStatement 24 rfl) rfl rfl ?_
      refine q_getn E fl_X10_165 (dat dkX10_parseStatement 25 rfl) rfl rfl rfl (show (_ : Int32) = _ from hT.2.2.2.2.1) ?_
      refine r_if_le (tgt := 51) E (dat dkX10_parseStatement 26 rfl) rfl (fun h47 => ?_) (fun h47 => ?_)
      ·
        exact absurd x1.1 (Int32.not_lt.mpr (show (mEx 0 4 t).2.2.2.2.1 ≤ 0 from by
          rw [mEx_n (a := 1) (by decide), mAd_x x1.1] at h47
          first | exact h47 | exact Int32.not_lt.mp h47))
      ·
        refine r_vreturn E (dat dkX10_parseStatement 27 rfl) (by decide) (by decide) ?_
        refine ⟨rfl, _, hG, ⟨hk, hA, hT⟩, Or.inr (Or.inl ⟨v, hv, by omega, by rw [mEx_n (a := 1) (by decide), mAd_x x1.1]; exact x1⟩)⟩
    ·
      omega

set_option maxRecDepth 100000 in
set_option maxHeartbeats 4000000 in
theorem sp_st_v0 (l : Launch) (G : GT) (bs : Nat → Int32) (n : Nat) (A : Nat → Int32) (t : TT) (u : TT) (A0 : Nat → Int32) (x : PP) (T : Nat → Nat → Int32) (S : Nat → Int32) (k : Nat) (M : Mem) (hB : M 0 10 = bs) (hn : M 0 0 10 = nI n) (hA : M 0 1 = A) (hT : TI M t) (hG : TG n t) (hn6 : n ≤ 600) (hE : A = enc A0 x T) (hx : PIv x) (hC : rC n t u) (hS21 : M 0 21 = S) (hc21 : M 0 0 21 = nI k) (hk31 : k ≤ 30) (hv : vbF bs u = some 0) (hk30 : k < 30) : MC l G yX10_parseStatement cX10_parseStatement 3 none ({ frames := 6, cells := 0, slots := 0, locals := 127 } : Room) [9] lk0 [rv 0 0] (M) (fun r M2 => r = none ∧ ∃ t9, TG n t9 ∧ PK M M2 A t9 ∧ ((vbF bs u = none ∧ rX t9 (tFl 1 u)) ∨ (∃ v, vbF bs u = some v ∧ k = 30 ∧ rX t9 (tFl 4 u)) ∨ (∃ v t2, vbF bs u = some v ∧ k < 30 ∧ rK bs n t2 u ∧ t9 = mSm bs n (ch bs n x v t2).1 ∧ M2 0 0 21 = nI (k + 1) ∧ ∃ S2, M2 0 21 = S2 ∧ stC S2 S k v (ch bs n x v t2).2))) := by
  refine MC.of RX10 [some (rv 0 0), none, none] 2 (by decide +kernel) rfl rfl rfl ?_
  intro pp ee ss mm aa bb me cd ad E
  have hk : kq M M := kq_r
  have hz2 : A 2 * A 1 = nI x.1.2.2 := by rw [hE]; exact ce_x hx
  
  refine r_aload_n E (dat dkX10_parseStatement 0 rfl) rfl rfl ?_
  refine r_callV (κ := 9) (μ := []) E (sp_X10_statementKind l G bs n _ _ u _ hB hn hA hT hG hn6 hC) my_X10_statementKind iv_X10_statementKind ml_X10_273 cm_id ⟨by decide, rfl, rfl⟩ rfl rfl rfl rfl (by decide) (Nat.le_of_ble_eq_true rfl) (dat dkX10_parseStatement 1 rfl) ?_
  rintro _ M9 ⟨rfl, hM9⟩
  refine ⟨_, Mrg_z hM9, ?_⟩
  clear hM9
  rw [show oI (vbF bs u) = (0 : Int32) from by rw [hv]; rfl]
  refine r_istore_1 E (dat dkX10_parseStatement 2 rfl) rfl rfl ?_
  refine r_aload_n E (dat dkX10_parseStatement 3 rfl) rfl rfl ?_
  refine r_iload_n E (dat dkX10_parseStatement 4 rfl) rfl rfl ?_
  refine r_iconst (v := -1) E (dat dkX10_parseStatement 5 rfl) rfl ?_
  refine r_icmp_eq (tgt := 15) E (dat dkX10_parseStatement 6 rfl) rfl (fun h8 => ?_) (fun h8 => ?_)
  ·
    exact absurd h8 (by decide)
  ·
    refine r_iconst (v := 1) E (dat dkX10_parseStatement 7 rfl) rfl ?_
    refine r_goto (tgt := 16) E (dat dkX10_parseStatement 8 rfl) rfl ?_
    refine r_iconst (v := 1) E (dat dkX10_parseStatement 10 rfl) rfl ?_
    refine r_callV (κ := 9) (μ := []) E (px_ex l G bs n _ _ (1) (1) _ hB hn hA hT hG hn6) my_X10_expect iv_X10_expect ml_X10_194 cm_id ⟨by decide, rfl, rfl⟩ rfl rfl rfl rfl (by decide) (Nat.le_of_ble_eq_true rfl) (dat dkX10_parseStatement 11 rfl) ?_
    rintro _ M9 ⟨rfl, hp9, hs9⟩
    obtain ⟨Ma, hMr, hk9, hA, hT, hS9⟩ := Mrg_pk hp9 hs9
    replace hB := (hk9.2.2.2.1).trans hB
    replace hn := (hk9.2.2.2.2.2.2.2.2.1).trans hn
    replace hk := kq_t hk hk9
    replace hG := TG_ex (a := 1) (k := 1) (by decide) hG
    replace hS21 : Ma 0 21 = S := by first | exact hS9.2.2.2.1 | exact hS9.2.2.2.1.trans hS21
    replace hc21 : Ma 0 0 21 = nI k := hS9.2.2.2.2.trans hc21
    refine ⟨_, hMr, ?_⟩
    clear hp9 hs9 hMr hk9 hS9
    refine r_aload_n E (dat dkX10_parseStatement 12 rfl) rfl rfl ?_
    refine r_aload_n E (dat dkX10_parseStatement 13 rfl) rfl rfl ?_
    refine q_getn E fl_X10_276 (dat dkX10_parseStatement 14 rfl) rfl rfl rfl (show (_ : Int32) = nI k from hc21) ?_
    refine r_bipush (v := 30) E (dat dkX10_parseStatement 15 rfl) rfl ?_
    refine q_icmp_ge (tgt := 34) E (dat dkX10_parseStatement 16 rfl) rfl rfl (b := 30) rfl (by omega) (by omega) (fun h27 => ?_) (fun h27 => ?_)
    ·
      omega
    ·
      refine r_iconst (v := 1) E (dat dkX10_parseStatement 17 rfl) rfl ?_
      refine r_goto (tgt := 35) E (dat dkX10_parseStatement 18 rfl) rfl ?_
      refine r_iconst (v := 4) E (dat dkX10_parseStatement 20 rfl) rfl ?_
      refine r_callV (κ := 9) (μ := []) E (px_ex l G bs n _ _ (1) (4) _ hB hn hA hT hG hn6) my_X10_expect iv_X10_expect ml_X10_194 cm_id ⟨by decide, rfl, rfl⟩ rfl rfl rfl rfl (by decide) (Nat.le_of_ble_eq_true rfl) (dat dkX10_parseStatement 21 rfl) ?_
      rintro _ M9 ⟨rfl, hp9, hs9⟩
      obtain ⟨Ma, hMr, hk9, hA, hT, hS9⟩ := Mrg_pk hp9 hs9
      replace hB := (hk9.2.2.2.1).trans hB
      replace hn := (hk9.2.2.2.2.2.2.2.2.1).trans hn
      replace hk := kq_t hk hk9
      replace hG := TG_ex (a := 1) (k := 4) (by decide) hG
      replace hS21 : Ma 0 21 = S := by first | exact hS9.2.2.2.1 | exact hS9.2.2.2.1.trans hS21
      replace hc21 : Ma 0 0 21 = nI k := hS9.2.2.2.2.trans hc21
      refine ⟨_, hMr, ?_⟩
      clear hp9 hs9 hMr hk9 hS9
      refine r_aload_n E (dat dkX10_parseStatement 22 rfl) rfl rfl ?_
      refine r_callV (κ := 9) (μ := []) E (px_adv l G bs n _ _  _ hB hn hA hT hG hn6) my_X10_advanceToken iv_X10_advanceToken ml_X10_189 cm_id ⟨by decide, rfl, rfl⟩ rfl rfl rfl rfl (by decide) (Nat.le_of_ble_eq_true rfl) (dat dkX10_parseStatement 23 rfl) ?_
      rintro _ M9 ⟨rfl, hp9, hs9⟩
      obtain ⟨Ma, hMr, hk9, hA, hT, hS9⟩ := Mrg_pk hp9 hs9
      replace hB := (hk9.2.2.2.1).trans hB
      replace hn := (hk9.2.2.2.2.2.2.2.2.1).trans hn
      replace hk := kq_t hk hk9
      replace hG := TG_ad (b := bs) hG
      replace hS21 : Ma 0 21 = S := by first | exact hS9.2.2.2.1 | exact hS9.2.2.2.1.trans hS21
      replace hc21 : Ma 0 0 21 = nI k := hS9.2.2.2.2.trans hc21
      obtain ⟨t2, ht2⟩ : ∃ z, z = mAd bs n (mEx 1 4 (mEx 1 1 t)) := ⟨_, rfl⟩
      rw [← ht2] at hT hG
      refine ⟨_, hMr, ?_⟩
      clear hp9 hs9 hMr hk9 hS9
      have hK2 : rK bs n t2 u := by
        rw [ht2, mEx_n (a := 1) (by decide), mEx_n (a := 1) (by decide)]
        exact rC_K hC
      refine r_aload_n E (dat dkX10_parseStatement 24 rfl) rfl rfl ?_
      refine q_getn E fl_X10_165 (dat dkX10_parseStatement 25 rfl) rfl rfl rfl (show (_ : Int32) = _ from hT.2.2.2.2.1) ?_
      refine r_if_le (tgt := 51) E (dat dkX10_parseStatement 26 rfl) rfl (fun h47 => ?_) (fun h47 => ?_)
      ·
        refine r_iconst (v := 4) E (dat dkX10_parseStatement 28 rfl) rfl ?_
        refine r_aload_n E (dat dkX10_parseStatement 29 rfl) rfl rfl ?_
        refine q_getn E fl_X10_276 (dat dkX10_parseStatement 30 rfl) rfl rfl rfl (show (_ : Int32) = nI k from hc21) ?_
        refine r_imul E (dat dkX10_parseStatement 31 rfl) ?_
        rw [show (4 : Int32) * nI k = nI (4 * k) from pk_mul 4 k]
        refine r_istore_2 E (dat dkX10_parseStatement 32 rfl) rfl rfl ?_
        refine r_aload_n E (dat dkX10_parseStatement 33 rfl) rfl rfl ?_
        refine q_geta E fl_X10_36 (dat dkX10_parseStatement 34 rfl) rfl rfl rfl ?_
        refine r_iload_n E (dat dkX10_parseStatement 35 rfl) rfl rfl ?_
        refine r_iload_n E (dat dkX10_parseStatement 36 rfl) rfl rfl ?_
        refine q_iast E (dat dkX10_parseStatement 37 rfl) rfl rfl (by decide) (show (_ : Nat → Int32) = _ from hS21) (fun _ => rfl) rfl (by omega) ?_
        refine r_iload_n E (dat dkX10_parseStatement 38 rfl) rfl rfl ?_
        refine r_tabIn (off := 46) (tgt := 112) E (dat dkX10_parseStatement 39 rfl) (by decide +kernel) (by decide +kernel) (by rfl) rfl ?_
        refine r_aload_n E (dat dkX10_parseStatement 40 rfl) rfl rfl ?_
        refine q_geta E fl_X10_36 (dat dkX10_parseStatement 41 rfl) rfl rfl rfl ?_
        refine r_iload_n E (dat dkX10_parseStatement 42 rfl) rfl rfl ?_
        refine r_iconst (v := 1) E (dat dkX10_parseStatement 43 rfl) rfl ?_
        refine r_iadd E (dat dkX10_parseStatement 44 rfl) ?_
        refine r_aload_n E (dat dkX10_parseStatement 45 rfl) rfl rfl ?_
        refine r_iconst (v := 0) E (dat dkX10_parseStatement 46 rfl) rfl ?_
        refine r_bipush (v := 9) E (dat dkX10_parseStatement 47 rfl) rfl ?_
        refine r_callV (κ := 9) (μ := []) E (px_num l G bs n _ _ (0) (9) _ hB hn hA hT hG hn6) my_X10_parseNumber iv_X10_parseNumber ml_X10_198 cm_id ⟨by decide, rfl, rfl⟩ rfl rfl rfl rfl (by decide) (Nat.le_of_ble_eq_true rfl) (dat dkX10_parseStatement 48 rfl) ?_
        rintro _ M9 ⟨rfl, hp9, hs9⟩
        obtain ⟨Ma, hMr, hk9, hA, hT, hS9⟩ := Mrg_pk hp9 hs9
        replace hB := (hk9.2.2.2.1).trans hB
        replace hn := (hk9.2.2.2.2.2.2.2.2.1).trans hn
        replace hk := kq_t hk hk9
        replace hG := TG_ad (b := bs) (TG_ne (lo := 0) (hi := 9) hG)
        replace hS21 : Ma 0 21 = (upd S (4 * k) (0)) := by first | exact hS9.2.2.2.1 | exact hS9.2.2.2.1.trans hS21
        replace hc21 : Ma 0 0 21 = nI k := hS9.2.2.2.2.trans hc21
        refine ⟨_, hMr, ?_⟩
        clear hp9 hs9 hMr hk9 hS9
        refine q_iast E (dat dkX10_parseStatement 49 rfl) rfl rfl (by decide) (show (_ : Nat → Int32) = _ from hS21) (fun _ => rfl) (show nI (4 * k) + 1 = nI (4 * k + 1) from nI_1 _) (by omega) ?_
        refine r_goto (tgt := 279) E (dat dkX10_parseStatement 50 rfl) rfl ?_
        refine r_aload_n E (dat dkX10_parseStatement 146 rfl) rfl rfl ?_
        refine r_callV (κ := 9) (μ := []) E (px_smc l G bs n _ _  _ hB hn hA hT hG hn6) my_X10_parseSemicolon iv_X10_parseSemicolon ml_X10_233 cm_id ⟨by decide, rfl, rfl⟩ rfl rfl rfl rfl (by decide) (Nat.le_of_ble_eq_true rfl) (dat dkX10_parseStatement 147 rfl) ?_
        rintro _ M9 ⟨rfl, hp9, hs9⟩
        obtain ⟨Ma, hMr, hk9, hA, hT, hS9⟩ := Mrg_pk hp9 hs9
        replace hB := (hk9.2.2.2.1).trans hB
        replace hn := (hk9.2.2.2.2.2.2.2.2.1).trans hn
        replace hk := kq_t hk hk9
        replace hG := TG_sm (b := bs) hG
        replace hS21 : Ma 0 21 = (upd (upd S (4 * k) (0)) (4 * k + 1) (mNv t2 0 9)) := by first | exact hS9.2.2.2.1 | exact hS9.2.2.2.1.trans hS21
        replace hc21 : Ma 0 0 21 = nI k := hS9.2.2.2.2.trans hc21
        refine ⟨_, hMr, ?_⟩
        clear hp9 hs9 hMr hk9 hS9
        refine r_aload_n E (dat dkX10_parseStatement 148 rfl) rfl rfl ?_
        refine r_dup E (dat dkX10_parseStatement 149 rfl) rfl ?_
        refine q_getn E fl_X10_276 (dat dkX10_parseStatement 150 rfl) rfl rfl rfl (show (_ : Int32) = nI k from hc21) ?_
        refine r_iconst (v := 1) E (dat dkX10_parseStatement 151 rfl) rfl ?_
        refine r_iadd E (dat dkX10_parseStatement 152 rfl) ?_
        rw [show nI k + 1 = nI (k + 1) from nI_1 k]
        refine q_putn E ft_X10_276 (dat dkX10_parseStatement 153 rfl) rfl rfl rfl rfl ?_
        refine r_vreturn E (dat dkX10_parseStatement 154 rfl) (by decide) (by decide) ?_
        refine ⟨rfl, _, hG, ⟨hk, hA, hT⟩, Or.inr (Or.inr ⟨0, t2, hv, hk30, hK2, rfl, rfl, _, hS21, ?_⟩)⟩
        refine ⟨?_, ?_, ?_, ?_, ?_⟩
        · first
            | exact upd_at
            | (rw [upd_ne (by omega)]; exact upd_at)
            | (rw [upd_ne (by omega), upd_ne (by omega)]; exact upd_at)
            | (rw [upd_ne (by omega), upd_ne (by omega), upd_ne (by omega)]; exact upd_at)
        · first
            | exact upd_at
            | (rw [upd_ne (by omega)]; exact upd_at)
            | (rw [upd_ne (by omega), upd_ne (by omega)]; exact upd_at)
            | (rw [upd_ne (by omega), upd_ne (by omega), upd_ne (by omega)]; exact upd_at)
        · first
            | exact fun c => absurd c (by decide)
            | intro _
          all_goals first
            | exact upd_at
            | (rw [upd_ne (by omega)]; exact upd_at)
            | (rw [upd_ne (by omega), upd_ne (by omega)]; exact upd_at)
            | (rw [upd_ne (by omega), upd_ne (by omega), upd_ne (by omega)]; exact upd_at)
        · first
            | exact fun c => absurd c (by decide)
            | intro _
          all_goals first
            | exact upd_at
            | (rw [upd_ne (by omega)]; exact upd_at)
            | (rw [upd_ne (by omega), upd_ne (by omega)]; exact upd_at)
            | (rw [upd_ne (by omega), upd_ne (by omega), upd_ne (by omega)]; exact upd_at)
        · intro q hq
          repeat rw [upd_ne (by omega)]
      ·
        exact absurd (show t2.2.2.2.2.1 ≤ 0 by rw [hK2.1]; decide) (by first | exact h47 | exact Int32.not_le.mpr h47)
