/-! the reference: a statement read -/
theorem TG_kb {b : Nat → Int32} {n : Nat} {x : PP} {t : TT} (h : TG n t) : TG n (kbT b n x t) := TG_ad (TG_ex (by decide) (TG_ex (by decide) h))
set_option maxRecDepth 100000 in
set_option maxHeartbeats 4000000 in
theorem sp_st_no (l : Launch) (G : GT) (bs : Nat → Int32) (n : Nat) (A : Nat → Int32) (t : TT) (u : TT) (A0 : Nat → Int32) (x : PP) (T : Nat → Nat → Int32) (S : Nat → Int32) (k : Nat) (M : Mem) (hB : M 0 10 = bs) (hn : M 0 0 10 = nI n) (hA : M 0 1 = A) (hT : TI M t) (hG : TG n t) (hn6 : n ≤ 600) (hE : A = enc A0 x T) (hx : PIv x) (hC : rC n t u) (hS21 : M 0 21 = S) (hc21 : M 0 0 21 = nI k) (hk31 : k ≤ 30) (hv : vbF bs u = none) : MC l G yX10_parseStatement cX10_parseStatement 3 none ({ frames := 6, cells := 0, slots := 0, locals := 127 } : Room) [9] lk0 [rv 0 0] (M) (fun r M2 => r = none ∧ ∃ t9, TG n t9 ∧ PK M M2 A t9 ∧ ((vbF bs u = none ∧ rX t9 (tFl 1 u)) ∨ (∃ v, vbF bs u = some v ∧ k = 30 ∧ rX t9 (tFl 4 u)) ∨ (∃ v t2, vbF bs u = some v ∧ k < 30 ∧ rK bs n t2 u ∧ t9 = mSm bs n (ch bs n x v t2).1 ∧ M2 0 0 21 = nI (k + 1) ∧ ∃ S2, M2 0 21 = S2 ∧ stC S2 S k v (ch bs n x v t2).2))) := by
  refine MC.of RX10 [some (rv 0 0), none, none] 2 (by decide +kernel) rfl rfl rfl ?_
  intro pp ee ss mm aa bb me cd ad E
  have hk : kq M M := kq_r
  have hz2 : A 2 * A 1 = nI x.1.2.2 := by rw [hE]; exact ce_x hx
  have x1 := rC_x hC (show (0 : Int32) < 1 by decide)
  refine r_aload_n E (dat dkX10_parseStatement 0 rfl) rfl rfl ?_
  refine r_callV (κ := 9) (μ := []) E (sp_X10_statementKind l G bs n _ _ u _ hB hn hA hT hG hn6 hC) my_X10_statementKind iv_X10_statementKind ml_X10_273 cm_id ⟨by decide, rfl, rfl⟩ rfl rfl rfl rfl (by decide) (Nat.le_of_ble_eq_true rfl) (dat dkX10_parseStatement 1 rfl) ?_
  rintro _ M9 ⟨rfl, hM9⟩
  refine ⟨_, Mrg_z hM9, ?_⟩
  clear hM9
  rw [show oI (vbF bs u) = oI (none) from by rw [hv]]
  refine r_istore_1 E (dat dkX10_parseStatement 2 rfl) rfl rfl ?_
  refine r_aload_n E (dat dkX10_parseStatement 3 rfl) rfl rfl ?_
  refine r_iload_n E (dat dkX10_parseStatement 4 rfl) rfl rfl ?_
  refine r_iconst (v := -1) E (dat dkX10_parseStatement 5 rfl) rfl ?_
  refine r_icmp_eq (tgt := 15) E (dat dkX10_parseStatement 6 rfl) rfl (fun h8 => ?_) (fun h8 => ?_)
  ·
    refine r_iconst (v := 0) E (dat dkX10_parseStatement 9 rfl) rfl ?_
    refine r_iconst (v := 1) E (dat dkX10_parseStatement 10 rfl) rfl ?_
    refine r_callV (κ := 9) (μ := []) E (px_ex l G bs n _ _ (0) (1) _ hB hn hA hT hG hn6) my_X10_expect iv_X10_expect ml_X10_194 cm_id ⟨by decide, rfl, rfl⟩ rfl rfl rfl rfl (by decide) (Nat.le_of_ble_eq_true rfl) (dat dkX10_parseStatement 11 rfl) ?_
    rintro _ M9 ⟨rfl, hp9, hs9⟩
    obtain ⟨Ma, hMr, hk9, hA, hT, hS9⟩ := Mrg_pk hp9 hs9
    replace hB := (hk9.2.2.2.1).trans hB
    replace hn := (hk9.2.2.2.2.2.2.2.2.1).trans hn
    replace hk := kq_t hk hk9
    replace hG := TG_ex (a := 0) (k := 1) (by decide) hG
    replace hS21 : Ma 0 21 = S := by first | exact hS9.2.2.2.1 | exact hS9.2.2.2.1.trans hS21
    replace hc21 : Ma 0 0 21 = nI k := hS9.2.2.2.2.trans hc21
    refine ⟨_, hMr, ?_⟩
    clear hp9 hs9 hMr hk9 hS9
    refine r_aload_n E (dat dkX10_parseStatement 12 rfl) rfl rfl ?_
    refine r_aload_n E (dat dkX10_parseStatement 13 rfl) rfl rfl ?_
    refine q_getn E fl_X10_276 (dat dkX10_parseStatement 14 rfl) rfl rfl rfl (show (_ : Int32) = nI k from hc21) ?_
    refine r_bipush (v := 30) E (dat dkX10_parseStatement 15 rfl) rfl ?_
    refine q_icmp_ge (tgt := 34) E (dat dkX10_parseStatement 16 rfl) rfl rfl (b := 30) rfl (by omega) (by omega) (fun h27 => ?_) (fun h27 => ?_)
    ·
      refine r_iconst (v := 0) E (dat dkX10_parseStatement 19 rfl) rfl ?_
      refine r_iconst (v := 4) E (dat dkX10_parseStatement 20 rfl) rfl ?_
      refine r_callV (κ := 9) (μ := []) E (px_ex l G bs n _ _ (0) (4) _ hB hn hA hT hG hn6) my_X10_expect iv_X10_expect ml_X10_194 cm_id ⟨by decide, rfl, rfl⟩ rfl rfl rfl rfl (by decide) (Nat.le_of_ble_eq_true rfl) (dat dkX10_parseStatement 21 rfl) ?_
      rintro _ M9 ⟨rfl, hp9, hs9⟩
      obtain ⟨Ma, hMr, hk9, hA, hT, hS9⟩ := Mrg_pk hp9 hs9
      replace hB := (hk9.2.2.2.1).trans hB
      replace hn := (hk9.2.2.2.2.2.2.2.2.1).trans hn
      replace hk := kq_t hk hk9
      replace hG := TG_ex (a := 0) (k := 4) (by decide) hG
      replace hS21 : Ma 0 21 = S := by first | exact hS9.2.2.2.1 | exact hS9.2.2.2.1.trans hS21
      replace hc21 : Ma 0 0 21 = nI k := hS9.2.2.2.2.trans hc21
      refine ⟨_, hMr, ?_⟩
      clear hp9 hs9 hMr hk9 hS9
      refine r_aload_n E (dat dkX10_parseStatement 22 rfl) rfl rfl ?_
      refine r_callV (κ := 9) (μ := []) E (px_adv l G bs n _ _  _ hB hn hA hT hG hn6) my_X10_advanceToken iv_X10_advanceToken ml_X10_189 cm_id ⟨by decide, rfl, rfl⟩ rfl rfl rfl rfl (by decide) (Nat.le_of_ble_eq_true rfl) (dat dkX10_parseStatement 23 rfl) ?_
      rintro _ M9 ⟨rfl, hp9, hs9⟩
      obtain ⟨Ma, hMr, hk9, hA, hT, hS9⟩ := Mrg_pk hp9 hs9
      replace hB := (hk9.2.2.2.1).trans hB
      replace hn := (hk9.2.2.2.2.2.2.2.2.1).trans hn
      replace hk := kq_t hk hk9
      replace hG := TG_ad (b := bs) hG
      replace hS21 : Ma 0 21 = S := by first | exact hS9.2.2.2.1 | exact hS9.2.2.2.1.trans hS21
      replace hc21 : Ma 0 0 21 = nI k := hS9.2.2.2.2.trans hc21
      refine ⟨_, hMr, ?_⟩
      clear hp9 hs9 hMr hk9 hS9
      refine r_aload_n E (dat dkX10_parseStatement 24 rfl) rfl rfl ?_
      refine q_getn E fl_X10_165 (dat dkX10_parseStatement 25 rfl) rfl rfl rfl (show (_ : Int32) = _ from hT.2.2.2.2.1) ?_
      refine r_if_le (tgt := 51) E (dat dkX10_parseStatement 26 rfl) rfl (fun h47 => ?_) (fun h47 => ?_)
      ·
        exact absurd x1.1 (Int32.not_lt.mpr (show (mEx 0 1 t).2.2.2.2.1 ≤ 0 from by
          have e : ∀ a, mAd bs n (mEx a 4 (mEx 0 1 t)) = mEx 0 1 t := fun a => by rw [mEx_x x1.1, mAd_x x1.1]
          rw [e] at h47
          first | exact h47 | exact Int32.not_lt.mp h47))
      ·
        refine r_vreturn E (dat dkX10_parseStatement 27 rfl) (by decide) (by decide) ?_
        refine ⟨rfl, _, hG, ⟨hk, hA, hT⟩, Or.inl ⟨hv, by rw [mEx_x x1.1, mAd_x x1.1]; exact x1⟩⟩
    ·
      refine r_iconst (v := 1) E (dat dkX10_parseStatement 17 rfl) rfl ?_
      refine r_goto (tgt := 35) E (dat dkX10_parseStatement 18 rfl) rfl ?_
      refine r_iconst (v := 4) E (dat dkX10_parseStatement 20 rfl) rfl ?_
      refine r_callV (κ := 9) (μ := []) E (px_ex l G bs n _ _ (1) (4) _ hB hn hA hT hG hn6) my_X10_expect iv_X10_expect ml_X10_194 cm_id ⟨by decide, rfl, rfl⟩ rfl rfl rfl rfl (by decide) (Nat.le_of_ble_eq_true rfl) (dat dkX10_parseStatement 21 rfl) ?_
      rintro _ M9 ⟨rfl, hp9, hs9⟩
      obtain ⟨Ma, hMr, hk9, hA, hT, hS9⟩ := Mrg_pk hp9 hs9
      replace hB := (hk9.2.2.2.1).trans hB
      replace hn := (hk9.2.2.2.2.2.2.2.2.1).trans hn
      replace hk := kq_t hk hk9
      replace hG := TG_ex (a := 1) (k := 4) (by decide) hG
      replace hS21 : Ma 0 21 = S := by first | exact hS9.2.2.2.1 | exact hS9.2.2.2.1.trans hS21
      replace hc21 : Ma 0 0 21 = nI k := hS9.2.2.2.2.trans hc21
      refine ⟨_, hMr, ?_⟩
      clear hp9 hs9 hMr hk9 hS9
      refine r_aload_n E (dat dkX10_parseStatement 22 rfl) rfl rfl ?_
      refine r_callV (κ := 9) (μ := []) E (px_adv l G bs n _ _  _ hB hn hA hT hG hn6) my_X10_advanceToken iv_X10_advanceToken ml_X10_189 cm_id ⟨by decide, rfl, rfl⟩ rfl rfl rfl rfl (by decide) (Nat.le_of_ble_eq_true rfl) (dat dkX10_parseStatement 23 rfl) ?_
      rintro _ M9 ⟨rfl, hp9, hs9⟩
      obtain ⟨Ma, hMr, hk9, hA, hT, hS9⟩ := Mrg_pk hp9 hs9
      replace hB := (hk9.2.2.2.1).trans hB
      replace hn := (hk9.2.2.2.2.2.2.2.2.1).trans hn
      replace hk := kq_t hk hk9
      replace hG := TG_ad (b := bs) hG
      replace hS21 : Ma 0 21 = S := by first | exact hS9.2.2.2.1 | exact hS9.2.2.2.1.trans hS21
      replace hc21 : Ma 0 0 21 = nI k := hS9.2.2.2.2.trans hc21
      refine ⟨_, hMr, ?_⟩
      clear hp9 hs9 hMr hk9 hS9
      refine r_aload_n E (dat dkX10_parseStatement 24 rfl) rfl rfl ?_
      refine q_getn E fl_X10_165 (dat dkX10_parseStatement 25 rfl) rfl rfl rfl (show (_ : Int32) = _ from hT.2.2.2.2.1) ?_
      refine r_if_le (tgt := 51) E (dat dkX10_parseStatement 26 rfl) rfl (fun h47 => ?_) (fun h47 => ?_)
      ·
        exact absurd x1.1 (Int32.not_lt.mpr (show (mEx 0 1 t).2.2.2.2.1 ≤ 0 from by
          have e : ∀ a, mAd bs n (mEx a 4 (mEx 0 1 t)) = mEx 0 1 t := fun a => by rw [mEx_x x1.1, mAd_x x1.1]
          rw [e] at h47
          first | exact h47 | exact Int32.not_lt.mp h47))
      ·
        refine r_vreturn E (dat dkX10_parseStatement 27 rfl) (by decide) (by decide) ?_
        refine ⟨rfl, _, hG, ⟨hk, hA, hT⟩, Or.inl ⟨hv, by rw [mEx_x x1.1, mAd_x x1.1]; exact x1⟩⟩
  ·
    exact absurd rfl h8

set_option maxRecDepth 100000 in
set_option maxHeartbeats 4000000 in
theorem sp_st_30 (l : Launch) (G : GT) (bs : Nat → Int32) (n : Nat) (A : Nat → Int32) (t : TT) (u : TT) (A0 : Nat → Int32) (x : PP) (T : Nat → Nat → Int32) (S : Nat → Int32) (k : Nat) (v : Nat) (M : Mem) (hB : M 0 10 = bs) (hn : M 0 0 10 = nI n) (hA : M 0 1 = A) (hT : TI M t) (hG : TG n t) (hn6 : n ≤ 600) (hE : A = enc A0 x T) (hx : PIv x) (hC : rC n t u) (hS21 : M 0 21 = S) (hc21 : M 0 0 21 = nI k) (hk31 : k ≤ 30) (hv8 : v < 8) (hv : vbF bs u = some v) (hk30 : ¬ k < 30) : MC l G yX10_parseStatement cX10_parseStatement 3 none ({ frames := 6, cells := 0, slots := 0, locals := 127 } : Room) [9] lk0 [rv 0 0] (M) (fun r M2 => r = none ∧ ∃ t9, TG n t9 ∧ PK M M2 A t9 ∧ ((vbF bs u = none ∧ rX t9 (tFl 1 u)) ∨ (∃ v, vbF bs u = some v ∧ k = 30 ∧ rX t9 (tFl 4 u)) ∨ (∃ v t2, vbF bs u = some v ∧ k < 30 ∧ rK bs n t2 u ∧ t9 = mSm bs n (ch bs n x v t2).1 ∧ M2 0 0 21 = nI (k + 1) ∧ ∃ S2, M2 0 21 = S2 ∧ stC S2 S k v (ch bs n x v t2).2))) := by
  refine MC.of RX10 [some (rv 0 0), none, none] 2 (by decide +kernel) rfl rfl rfl ?_
  intro pp ee ss mm aa bb me cd ad E
  have hk : kq M M := kq_r
  have hz2 : A 2 * A 1 = nI x.1.2.2 := by rw [hE]; exact ce_x hx
  have x1 := rC_x hC (show (0 : Int32) < 4 by decide)
  refine r_aload_n E (dat dkX10_parseStatement 0 rfl) rfl rfl ?_
  refine r_callV (κ := 9) (μ := []) E (sp_X10_statementKind l G bs n _ _ u _ hB hn hA hT hG hn6 hC) my_X10_statementKind iv_X10_statementKind ml_X10_273 cm_id ⟨by decide, rfl, rfl⟩ rfl rfl rfl rfl (by decide) (Nat.le_of_ble_eq_true rfl) (dat dkX10_parseStatement 1 rfl) ?_
  rintro _ M9 ⟨rfl, hM9⟩
  refine ⟨_, Mrg_z hM9, ?_⟩
  clear hM9
  rw [show oI (vbF bs u) = oI (some v) from by rw [hv]]
  refine r_istore_1 E (dat dkX10_parseStatement 2 rfl) rfl rfl ?_
  refine r_aload_n E (dat dkX10_parseStatement 3 rfl) rfl rfl ?_
  refine r_iload_n E (dat dkX10_parseStatement 4 rfl) rfl rfl ?_
  refine r_iconst (v := -1) E (dat dkX10_parseStatement 5 rfl) rfl ?_
  refine r_icmp_eq (tgt := 15) E (dat dkX10_parseStatement 6 rfl) rfl (fun h8 => ?_) (fun h8 => ?_)
  ·
    exact absurd h8 (oI_nm (by omega))
  ·
    refine r_iconst (v := 1) E (dat dkX10_parseStatement 7 rfl) rfl ?_
    refine r_goto (tgt := 16) E (dat dkX10_parseStatement 8 rfl) rfl ?_
    refine r_iconst (v := 1) E (dat dkX10_parseStatement 10 rfl) rfl ?_
    refine r_callV (κ := 9) (μ := []) E (px_ex l G bs n _ _ (1) (1) _ hB hn hA hT hG hn6) my_X10_expect iv_X10_expect ml_X10_194 cm_id ⟨by decide, rfl, rfl⟩ rfl rfl rfl rfl (by decide) (Nat.le_of_ble_eq_true rfl) (dat dkX10_parseStatement 11 rfl) ?_
    rintro _ M9 ⟨rfl, hp9, hs9⟩
    obtain ⟨Ma, hMr, hk9, hA, hT, hS9⟩ := Mrg_pk hp9 hs9
    replace hB := (hk9.2.2.2.1).trans hB
    replace hn := (hk9.2.2.2.2.2.2.2.2.1).trans hn
    replace hk := kq_t hk hk9
    replace hG := TG_ex (a := 1) (k := 1) (by decide) hG
    replace hS21 : Ma 0 21 = S := by first | exact hS9.2.2.2.1 | exact hS9.2.2.2.1.trans hS21
    replace hc21 : Ma 0 0 21 = nI k := hS9.2.2.2.2.trans hc21
    refine ⟨_, hMr, ?_⟩
    clear hp9 hs9 hMr hk9 hS9
    refine r_aload_n E (dat dkX10_parseStatement 12 rfl) rfl rfl ?_
    refine r_aload_n E (dat dkX10_parseStatement 13 rfl) rfl rfl ?_
    refine q_getn E fl_X10_276 (dat dkX10_parseStatement 14 rfl) rfl rfl rfl (show (_ : Int32) = nI k from hc21) ?_
    refine r_bipush (v := 30) E (dat dkX10_parseStatement 15 rfl) rfl ?_
    refine q_icmp_ge (tgt := 34) E (dat dkX10_parseStatement 16 rfl) rfl rfl (b := 30) rfl (by omega) (by omega) (fun h27 => ?_) (fun h27 => ?_)
    ·
      refine r_iconst (v := 0) E (dat dkX10_parseStatement 19 rfl) rfl ?_
      refine r_iconst (v := 4) E (dat dkX10_parseStatement 20 rfl) rfl ?_
      refine r_callV (κ := 9) (μ := []) E (px_ex l G bs n _ _ (0) (4) _ hB hn hA hT hG hn6) my_X10_expect iv_X10_expect ml_X10_194 cm_id ⟨by decide, rfl, rfl⟩ rfl rfl rfl rfl (by decide) (Nat.le_of_ble_eq_true rfl) (dat dkX10_parseStatement 21 rfl) ?_
      rintro _ M9 ⟨rfl, hp9, hs9⟩
      obtain ⟨Ma, hMr, hk9, hA, hT, hS9⟩ := Mrg_pk hp9 hs9
      replace hB := (hk9.2.2.2.1).trans hB
      replace hn := (hk9.2.2.2.2.2.2.2.2.1).trans hn
      replace hk := kq_t hk hk9
      replace hG := TG_ex (a := 0) (k := 4) (by decide) hG
      replace hS21 : Ma 0 21 = S := by first | exact hS9.2.2.2.1 | exact hS9.2.2.2.1.trans hS21
      replace hc21 : Ma 0 0 21 = nI k := hS9.2.2.2.2.trans hc21
      refine ⟨_, hMr, ?_⟩
      clear hp9 hs9 hMr hk9 hS9
      refine r_aload_n E (dat dkX10_parseStatement 22 rfl) rfl rfl ?_
      refine r_callV (κ := 9) (μ := []) E (px_adv l G bs n _ _  _ hB hn hA hT hG hn6) my_X10_advanceToken iv_X10_advanceToken ml_X10_189 cm_id ⟨by decide, rfl, rfl⟩ rfl rfl rfl rfl (by decide) (Nat.le_of_ble_eq_true rfl) (dat dkX10_parseStatement 23 rfl) ?_
      rintro _ M9 ⟨rfl, hp9, hs9⟩
      obtain ⟨Ma, hMr, hk9, hA, hT, hS9⟩ := Mrg_pk hp9 hs9
      replace hB := (hk9.2.2.2.1).trans hB
      replace hn := (hk9.2.2.2.2.2.2.2.2.1).trans hn
      replace hk := kq_t hk hk9
      replace hG := TG_ad (b := bs) hG
      replace hS21 : Ma 0 21 = S := by first | exact hS9.2.2.2.1 | exact hS9.2.2.2.1.trans hS21
      replace hc21 : Ma 0 0 21 = nI k := hS9.2.2.2.2.trans hc21
      refine ⟨_, hMr, ?_⟩
      clear hp9 hs9 hMr hk9 hS9
      refine r_aload_n E (dat dkX10_parseStatement 24 rfl) rfl rfl ?_
      refine q_getn E fl_X10_165 (dat dkX10_parseStatement 25 rfl) rfl rfl rfl (show (_ : Int32) = _ from hT.2.2.2.2.1) ?_
      refine r_if_le (tgt := 51) E (dat dkX10_parseStatement 26 rfl) rfl (fun h47 => ?_) (fun h47 => ?_)
      ·
        exact absurd x1.1 (Int32.not_lt.mpr (show (mEx 0 4 t).2.2.2.2.1 ≤ 0 from by
          rw [mEx_n (a := 1) (by decide), mAd_x x1.1] at h47
          first | exact h47 | exact Int32.not_lt.mp h47))
      ·
        refine r_vreturn E (dat dkX10_parseStatement 27 rfl) (by decide) (by decide) ?_
        refine ⟨rfl, _, hG, ⟨hk, hA, hT⟩, Or.inr (Or.inl ⟨v, hv, by omega, by rw [mEx_n (a := 1) (by decide), mAd_x x1.1]; exact x1⟩)⟩
    ·
      omega

set_option maxRecDepth 100000 in
set_option maxHeartbeats 4000000 in
theorem sp_st_v0 (l : Launch) (G : GT) (bs : Nat → Int32) (n : Nat) (A : Nat → Int32) (t : TT) (u : TT) (A0 : Nat → Int32) (x : PP) (T : Nat → Nat → Int32) (S : Nat → Int32) (k : Nat) (M : Mem) (hB : M 0 10 = bs) (hn : M 0 0 10 = nI n) (hA : M 0 1 = A) (hT : TI M t) (hG : TG n t) (hn6 : n ≤ 600) (hE : A = enc A0 x T) (hx : PIv x) (hC : rC n t u) (hS21 : M 0 21 = S) (hc21 : M 0 0 21 = nI k) (hk31 : k ≤ 30) (hv : vbF bs u = some 0) (hk30 : k < 30) : MC l G yX10_parseStatement cX10_parseStatement 3 none ({ frames := 6, cells := 0, slots := 0, locals := 127 } : Room) [9] lk0 [rv 0 0] (M) (fun r M2 => r = none ∧ ∃ t9, TG n t9 ∧ PK M M2 A t9 ∧ ((vbF bs u = none ∧ rX t9 (tFl 1 u)) ∨ (∃ v, vbF bs u = some v ∧ k = 30 ∧ rX t9 (tFl 4 u)) ∨ (∃ v t2, vbF bs u = some v ∧ k < 30 ∧ rK bs n t2 u ∧ t9 = mSm bs n (ch bs n x v t2).1 ∧ M2 0 0 21 = nI (k + 1) ∧ ∃ S2, M2 0 21 = S2 ∧ stC S2 S k v (ch bs n x v t2).2))) := by
  refine MC.of RX10 [some (rv 0 0), none, none] 2 (by decide +kernel) rfl rfl rfl ?_
  intro pp ee ss mm aa bb me cd ad E
  have hk : kq M M := kq_r
  have hz2 : A 2 * A 1 = nI x.1.2.2 := by rw [hE]; exact ce_x hx
  
  refine r_aload_n E (dat dkX10_parseStatement 0 rfl) rfl rfl ?_
  refine r_callV (κ := 9) (μ := []) E (sp_X10_statementKind l G bs n _ _ u _ hB hn hA hT hG hn6 hC) my_X10_statementKind iv_X10_statementKind ml_X10_273 cm_id ⟨by decide, rfl, rfl⟩ rfl rfl rfl rfl (by decide) (Nat.le_of_ble_eq_true rfl) (dat dkX10_parseStatement 1 rfl) ?_
  rintro _ M9 ⟨rfl, hM9⟩
  refine ⟨_, Mrg_z hM9, ?_⟩
  clear hM9
  rw [show oI (vbF bs u) = (0 : Int32) from by rw [hv]; rfl]
  refine r_istore_1 E (dat dkX10_parseStatement 2 rfl) rfl rfl ?_
  refine r_aload_n E (dat dkX10_parseStatement 3 rfl) rfl rfl ?_
  refine r_iload_n E (dat dkX10_parseStatement 4 rfl) rfl rfl ?_
  refine r_iconst (v := -1) E (dat dkX10_parseStatement 5 rfl) rfl ?_
  refine r_icmp_eq (tgt := 15) E (dat dkX10_parseStatement 6 rfl) rfl (fun h8 => ?_) (fun h8 => ?_)
  ·
    exact absurd h8 (by decide)
  ·
    refine r_iconst (v := 1) E (dat dkX10_parseStatement 7 rfl) rfl ?_
    refine r_goto (tgt := 16) E (dat dkX10_parseStatement 8 rfl) rfl ?_
    refine r_iconst (v := 1) E (dat dkX10_parseStatement 10 rfl) rfl ?_
    refine r_callV (κ := 9) (μ := []) E (px_ex l G bs n _ _ (1) (1) _ hB hn hA hT hG hn6) my_X10_expect iv_X10_expect ml_X10_194 cm_id ⟨by decide, rfl, rfl⟩ rfl rfl rfl rfl (by decide) (Nat.le_of_ble_eq_true rfl) (dat dkX10_parseStatement 11 rfl) ?_
    rintro _ M9 ⟨rfl, hp9, hs9⟩
    obtain ⟨Ma, hMr, hk9, hA, hT, hS9⟩ := Mrg_pk hp9 hs9
    replace hB := (hk9.2.2.2.1).trans hB
    replace hn := (hk9.2.2.2.2.2.2.2.2.1).trans hn
    replace hk := kq_t hk hk9
    replace hG := TG_ex (a := 1) (k := 1) (by decide) hG
    replace hS21 : Ma 0 21 = S := by first | exact hS9.2.2.2.1 | exact hS9.2.2.2.1.trans hS21
    replace hc21 : Ma 0 0 21 = nI k := hS9.2.2.2.2.trans hc21
    refine ⟨_, hMr, ?_⟩
    clear hp9 hs9 hMr hk9 hS9
    refine r_aload_n E (dat dkX10_parseStatement 12 rfl) rfl rfl ?_
    refine r_aload_n E (dat dkX10_parseStatement 13 rfl) rfl rfl ?_
    refine q_getn E fl_X10_276 (dat dkX10_parseStatement 14 rfl) rfl rfl rfl (show (_ : Int32) = nI k from hc21) ?_
    refine r_bipush (v := 30) E (dat dkX10_parseStatement 15 rfl) rfl ?_
    refine q_icmp_ge (tgt := 34) E (dat dkX10_parseStatement 16 rfl) rfl rfl (b := 30) rfl (by omega) (by omega) (fun h27 => ?_) (fun h27 => ?_)
    ·
      omega
    ·
      refine r_iconst (v := 1) E (dat dkX10_parseStatement 17 rfl) rfl ?_
      refine r_goto (tgt := 35) E (dat dkX10_parseStatement 18 rfl) rfl ?_
      refine r_iconst (v := 4) E (dat dkX10_parseStatement 20 rfl) rfl ?_
      refine r_callV (κ := 9) (μ := []) E (px_ex l G bs n _ _ (1) (4) _ hB hn hA hT hG hn6) my_X10_expect iv_X10_expect ml_X10_194 cm_id ⟨by decide, rfl, rfl⟩ rfl rfl rfl rfl (by decide) (Nat.le_of_ble_eq_true rfl) (dat dkX10_parseStatement 21 rfl) ?_
      rintro _ M9 ⟨rfl, hp9, hs9⟩
      obtain ⟨Ma, hMr, hk9, hA, hT, hS9⟩ := Mrg_pk hp9 hs9
      replace hB := (hk9.2.2.2.1).trans hB
      replace hn := (hk9.2.2.2.2.2.2.2.2.1).trans hn
      replace hk := kq_t hk hk9
      replace hG := TG_ex (a := 1) (k := 4) (by decide) hG
      replace hS21 : Ma 0 21 = S := by first | exact hS9.2.2.2.1 | exact hS9.2.2.2.1.trans hS21
      replace hc21 : Ma 0 0 21 = nI k := hS9.2.2.2.2.trans hc21
      refine ⟨_, hMr, ?_⟩
      clear hp9 hs9 hMr hk9 hS9
      refine r_aload_n E (dat dkX10_parseStatement 22 rfl) rfl rfl ?_
      refine r_callV (κ := 9) (μ := []) E (px_adv l G bs n _ _  _ hB hn hA hT hG hn6) my_X10_advanceToken iv_X10_advanceToken ml_X10_189 cm_id ⟨by decide, rfl, rfl⟩ rfl rfl rfl rfl (by decide) (Nat.le_of_ble_eq_true rfl) (dat dkX10_parseStatement 23 rfl) ?_
      rintro _ M9 ⟨rfl, hp9, hs9⟩
      obtain ⟨Ma, hMr, hk9, hA, hT, hS9⟩ := Mrg_pk hp9 hs9
      replace hB := (hk9.2.2.2.1).trans hB
      replace hn := (hk9.2.2.2.2.2.2.2.2.1).trans hn
      replace hk := kq_t hk hk9
      replace hG := TG_ad (b := bs) hG
      replace hS21 : Ma 0 21 = S := by first | exact hS9.2.2.2.1 | exact hS9.2.2.2.1.trans hS21
      replace hc21 : Ma 0 0 21 = nI k := hS9.2.2.2.2.trans hc21
      obtain ⟨t2, ht2⟩ : ∃ z, z = mAd bs n (mEx 1 4 (mEx 1 1 t)) := ⟨_, rfl⟩
      rw [← ht2] at hT hG
      refine ⟨_, hMr, ?_⟩
      clear hp9 hs9 hMr hk9 hS9
      have hK2 : rK bs n t2 u := by
        rw [ht2, mEx_n (a := 1) (by decide), mEx_n (a := 1) (by decide)]
        exact rC_K hC
      refine r_aload_n E (dat dkX10_parseStatement 24 rfl) rfl rfl ?_
      refine q_getn E fl_X10_165 (dat dkX10_parseStatement 25 rfl) rfl rfl rfl (show (_ : Int32) = _ from hT.2.2.2.2.1) ?_
      refine r_if_le (tgt := 51) E (dat dkX10_parseStatement 26 rfl) rfl (fun h47 => ?_) (fun h47 => ?_)
      ·
        refine r_iconst (v := 4) E (dat dkX10_parseStatement 28 rfl) rfl ?_
        refine r_aload_n E (dat dkX10_parseStatement 29 rfl) rfl rfl ?_
        refine q_getn E fl_X10_276 (dat dkX10_parseStatement 30 rfl) rfl rfl rfl (show (_ : Int32) = nI k from hc21) ?_
        refine r_imul E (dat dkX10_parseStatement 31 rfl) ?_
        rw [show (4 : Int32) * nI k = nI (4 * k) from pk_mul 4 k]
        refine r_istore_2 E (dat dkX10_parseStatement 32 rfl) rfl rfl ?_
        refine r_aload_n E (dat dkX10_parseStatement 33 rfl) rfl rfl ?_
        refine q_geta E fl_X10_36 (dat dkX10_parseStatement 34 rfl) rfl rfl rfl ?_
        refine r_iload_n E (dat dkX10_parseStatement 35 rfl) rfl rfl ?_
        refine r_iload_n E (dat dkX10_parseStatement 36 rfl) rfl rfl ?_
        refine q_iast E (dat dkX10_parseStatement 37 rfl) rfl rfl (by decide) (show (_ : Nat → Int32) = _ from hS21) (fun _ => rfl) rfl (by omega) ?_
        refine r_iload_n E (dat dkX10_parseStatement 38 rfl) rfl rfl ?_
        refine r_tabIn (off := 46) (tgt := 112) E (dat dkX10_parseStatement 39 rfl) (by decide +kernel) (by decide +kernel) (by rfl) rfl ?_
        refine r_aload_n E (dat dkX10_parseStatement 40 rfl) rfl rfl ?_
        refine q_geta E fl_X10_36 (dat dkX10_parseStatement 41 rfl) rfl rfl rfl ?_
        refine r_iload_n E (dat dkX10_parseStatement 42 rfl) rfl rfl ?_
        refine r_iconst (v := 1) E (dat dkX10_parseStatement 43 rfl) rfl ?_
        refine r_iadd E (dat dkX10_parseStatement 44 rfl) ?_
        refine r_aload_n E (dat dkX10_parseStatement 45 rfl) rfl rfl ?_
        refine r_iconst (v := 0) E (dat dkX10_parseStatement 46 rfl) rfl ?_
        refine r_bipush (v := 9) E (dat dkX10_parseStatement 47 rfl) rfl ?_
        refine r_callV (κ := 9) (μ := []) E (px_num l G bs n _ _ (0) (9) _ hB hn hA hT hG hn6) my_X10_parseNumber iv_X10_parseNumber ml_X10_198 cm_id ⟨by decide, rfl, rfl⟩ rfl rfl rfl rfl (by decide) (Nat.le_of_ble_eq_true rfl) (dat dkX10_parseStatement 48 rfl) ?_
        rintro _ M9 ⟨rfl, hp9, hs9⟩
        obtain ⟨Ma, hMr, hk9, hA, hT, hS9⟩ := Mrg_pk hp9 hs9
        replace hB := (hk9.2.2.2.1).trans hB
        replace hn := (hk9.2.2.2.2.2.2.2.2.1).trans hn
        replace hk := kq_t hk hk9
        replace hG := TG_ad (b := bs) (TG_ne (lo := 0) (hi := 9) hG)
        replace hS21 : Ma 0 21 = (upd S (4 * k) (0)) := by first | exact hS9.2.2.2.1 | exact hS9.2.2.2.1.trans hS21
        replace hc21 : Ma 0 0 21 = nI k := hS9.2.2.2.2.trans hc21
        refine ⟨_, hMr, ?_⟩
        clear hp9 hs9 hMr hk9 hS9
        refine q_iast E (dat dkX10_parseStatement 49 rfl) rfl rfl (by decide) (show (_ : Nat → Int32) = _ from hS21) (fun _ => rfl) (show nI (4 * k) + 1 = nI (4 * k + 1) from nI_1 _) (by omega) ?_
        refine r_goto (tgt := 279) E (dat dkX10_parseStatement 50 rfl) rfl ?_
        refine r_aload_n E (dat dkX10_parseStatement 146 rfl) rfl rfl ?_
        refine r_callV (κ := 9) (μ := []) E (px_smc l G bs n _ _  _ hB hn hA hT hG hn6) my_X10_parseSemicolon iv_X10_parseSemicolon ml_X10_233 cm_id ⟨by decide, rfl, rfl⟩ rfl rfl rfl rfl (by decide) (Nat.le_of_ble_eq_true rfl) (dat dkX10_parseStatement 147 rfl) ?_
        rintro _ M9 ⟨rfl, hp9, hs9⟩
        obtain ⟨Ma, hMr, hk9, hA, hT, hS9⟩ := Mrg_pk hp9 hs9
        replace hB := (hk9.2.2.2.1).trans hB
        replace hn := (hk9.2.2.2.2.2.2.2.2.1).trans hn
        replace hk := kq_t hk hk9
        replace hG := TG_sm (b := bs) hG
        replace hS21 : Ma 0 21 = (upd (upd S (4 * k) (0)) (4 * k + 1) (mNv t2 0 9)) := by first | exact hS9.2.2.2.1 | exact hS9.2.2.2.1.trans hS21
        replace hc21 : Ma 0 0 21 = nI k := hS9.2.2.2.2.trans hc21
        refine ⟨_, hMr, ?_⟩
        clear hp9 hs9 hMr hk9 hS9
        refine r_aload_n E (dat dkX10_parseStatement 148 rfl) rfl rfl ?_
        refine r_dup E (dat dkX10_parseStatement 149 rfl) rfl ?_
        refine q_getn E fl_X10_276 (dat dkX10_parseStatement 150 rfl) rfl rfl rfl (show (_ : Int32) = nI k from hc21) ?_
        refine r_iconst (v := 1) E (dat dkX10_parseStatement 151 rfl) rfl ?_
        refine r_iadd E (dat dkX10_parseStatement 152 rfl) ?_
        rw [show nI k + 1 = nI (k + 1) from nI_1 k]
        refine q_putn E ft_X10_276 (dat dkX10_parseStatement 153 rfl) rfl rfl rfl rfl ?_
        refine r_vreturn E (dat dkX10_parseStatement 154 rfl) (by decide) (by decide) ?_
        have ec : ch bs n x 0 t2 = (mAd bs n (mNe t2 0 9), mNv t2 0 9, 0, 0) := rfl
        refine ⟨rfl, _, hG, ⟨hk, hA, hT⟩, Or.inr (Or.inr ⟨0, t2, hv, hk30, hK2, ?_, rfl, _, hS21, ?_⟩)⟩
        · rw [ec]
        rw [ec]
        clear ec
        refine ⟨?_, ?_, ?_, ?_, ?_⟩
        · try dsimp only
          rw [upd_ne (by omega)]
          exact upd_at
        · try dsimp only
          exact upd_at
        · exact fun c => absurd c (by decide)
        · exact fun c => absurd c (by decide)
        · intro q hq
          rw [upd_ne (by omega), upd_ne (by omega)]
      ·
        exact absurd (show t2.2.2.2.2.1 ≤ 0 by rw [hK2.1]; decide) (by first | exact h47 | exact Int32.not_le.mpr h47)

set_option maxRecDepth 100000 in
set_option maxHeartbeats 4000000 in
theorem sp_st_v1 (l : Launch) (G : GT) (bs : Nat → Int32) (n : Nat) (A : Nat → Int32) (t : TT) (u : TT) (A0 : Nat → Int32) (x : PP) (T : Nat → Nat → Int32) (S : Nat → Int32) (k : Nat) (M : Mem) (hB : M 0 10 = bs) (hn : M 0 0 10 = nI n) (hA : M 0 1 = A) (hT : TI M t) (hG : TG n t) (hn6 : n ≤ 600) (hE : A = enc A0 x T) (hx : PIv x) (hC : rC n t u) (hS21 : M 0 21 = S) (hc21 : M 0 0 21 = nI k) (hk31 : k ≤ 30) (hv : vbF bs u = some 1) (hk30 : k < 30) : MC l G yX10_parseStatement cX10_parseStatement 3 none ({ frames := 6, cells := 0, slots := 0, locals := 127 } : Room) [9] lk0 [rv 0 0] (M) (fun r M2 => r = none ∧ ∃ t9, TG n t9 ∧ PK M M2 A t9 ∧ ((vbF bs u = none ∧ rX t9 (tFl 1 u)) ∨ (∃ v, vbF bs u = some v ∧ k = 30 ∧ rX t9 (tFl 4 u)) ∨ (∃ v t2, vbF bs u = some v ∧ k < 30 ∧ rK bs n t2 u ∧ t9 = mSm bs n (ch bs n x v t2).1 ∧ M2 0 0 21 = nI (k + 1) ∧ ∃ S2, M2 0 21 = S2 ∧ stC S2 S k v (ch bs n x v t2).2))) := by
  refine MC.of RX10 [some (rv 0 0), none, none] 2 (by decide +kernel) rfl rfl rfl ?_
  intro pp ee ss mm aa bb me cd ad E
  have hk : kq M M := kq_r
  have hz2 : A 2 * A 1 = nI x.1.2.2 := by rw [hE]; exact ce_x hx
  
  refine r_aload_n E (dat dkX10_parseStatement 0 rfl) rfl rfl ?_
  refine r_callV (κ := 9) (μ := []) E (sp_X10_statementKind l G bs n _ _ u _ hB hn hA hT hG hn6 hC) my_X10_statementKind iv_X10_statementKind ml_X10_273 cm_id ⟨by decide, rfl, rfl⟩ rfl rfl rfl rfl (by decide) (Nat.le_of_ble_eq_true rfl) (dat dkX10_parseStatement 1 rfl) ?_
  rintro _ M9 ⟨rfl, hM9⟩
  refine ⟨_, Mrg_z hM9, ?_⟩
  clear hM9
  rw [show oI (vbF bs u) = (1 : Int32) from by rw [hv]; rfl]
  refine r_istore_1 E (dat dkX10_parseStatement 2 rfl) rfl rfl ?_
  refine r_aload_n E (dat dkX10_parseStatement 3 rfl) rfl rfl ?_
  refine r_iload_n E (dat dkX10_parseStatement 4 rfl) rfl rfl ?_
  refine r_iconst (v := -1) E (dat dkX10_parseStatement 5 rfl) rfl ?_
  refine r_icmp_eq (tgt := 15) E (dat dkX10_parseStatement 6 rfl) rfl (fun h8 => ?_) (fun h8 => ?_)
  ·
    exact absurd h8 (by decide)
  ·
    refine r_iconst (v := 1) E (dat dkX10_parseStatement 7 rfl) rfl ?_
    refine r_goto (tgt := 16) E (dat dkX10_parseStatement 8 rfl) rfl ?_
    refine r_iconst (v := 1) E (dat dkX10_parseStatement 10 rfl) rfl ?_
    refine r_callV (κ := 9) (μ := []) E (px_ex l G bs n _ _ (1) (1) _ hB hn hA hT hG hn6) my_X10_expect iv_X10_expect ml_X10_194 cm_id ⟨by decide, rfl, rfl⟩ rfl rfl rfl rfl (by decide) (Nat.le_of_ble_eq_true rfl) (dat dkX10_parseStatement 11 rfl) ?_
    rintro _ M9 ⟨rfl, hp9, hs9⟩
    obtain ⟨Ma, hMr, hk9, hA, hT, hS9⟩ := Mrg_pk hp9 hs9
    replace hB := (hk9.2.2.2.1).trans hB
    replace hn := (hk9.2.2.2.2.2.2.2.2.1).trans hn
    replace hk := kq_t hk hk9
    replace hG := TG_ex (a := 1) (k := 1) (by decide) hG
    replace hS21 : Ma 0 21 = S := by first | exact hS9.2.2.2.1 | exact hS9.2.2.2.1.trans hS21
    replace hc21 : Ma 0 0 21 = nI k := hS9.2.2.2.2.trans hc21
    refine ⟨_, hMr, ?_⟩
    clear hp9 hs9 hMr hk9 hS9
    refine r_aload_n E (dat dkX10_parseStatement 12 rfl) rfl rfl ?_
    refine r_aload_n E (dat dkX10_parseStatement 13 rfl) rfl rfl ?_
    refine q_getn E fl_X10_276 (dat dkX10_parseStatement 14 rfl) rfl rfl rfl (show (_ : Int32) = nI k from hc21) ?_
    refine r_bipush (v := 30) E (dat dkX10_parseStatement 15 rfl) rfl ?_
    refine q_icmp_ge (tgt := 34) E (dat dkX10_parseStatement 16 rfl) rfl rfl (b := 30) rfl (by omega) (by omega) (fun h27 => ?_) (fun h27 => ?_)
    ·
      omega
    ·
      refine r_iconst (v := 1) E (dat dkX10_parseStatement 17 rfl) rfl ?_
      refine r_goto (tgt := 35) E (dat dkX10_parseStatement 18 rfl) rfl ?_
      refine r_iconst (v := 4) E (dat dkX10_parseStatement 20 rfl) rfl ?_
      refine r_callV (κ := 9) (μ := []) E (px_ex l G bs n _ _ (1) (4) _ hB hn hA hT hG hn6) my_X10_expect iv_X10_expect ml_X10_194 cm_id ⟨by decide, rfl, rfl⟩ rfl rfl rfl rfl (by decide) (Nat.le_of_ble_eq_true rfl) (dat dkX10_parseStatement 21 rfl) ?_
      rintro _ M9 ⟨rfl, hp9, hs9⟩
      obtain ⟨Ma, hMr, hk9, hA, hT, hS9⟩ := Mrg_pk hp9 hs9
      replace hB := (hk9.2.2.2.1).trans hB
      replace hn := (hk9.2.2.2.2.2.2.2.2.1).trans hn
      replace hk := kq_t hk hk9
      replace hG := TG_ex (a := 1) (k := 4) (by decide) hG
      replace hS21 : Ma 0 21 = S := by first | exact hS9.2.2.2.1 | exact hS9.2.2.2.1.trans hS21
      replace hc21 : Ma 0 0 21 = nI k := hS9.2.2.2.2.trans hc21
      refine ⟨_, hMr, ?_⟩
      clear hp9 hs9 hMr hk9 hS9
      refine r_aload_n E (dat dkX10_parseStatement 22 rfl) rfl rfl ?_
      refine r_callV (κ := 9) (μ := []) E (px_adv l G bs n _ _  _ hB hn hA hT hG hn6) my_X10_advanceToken iv_X10_advanceToken ml_X10_189 cm_id ⟨by decide, rfl, rfl⟩ rfl rfl rfl rfl (by decide) (Nat.le_of_ble_eq_true rfl) (dat dkX10_parseStatement 23 rfl) ?_
      rintro _ M9 ⟨rfl, hp9, hs9⟩
      obtain ⟨Ma, hMr, hk9, hA, hT, hS9⟩ := Mrg_pk hp9 hs9
      replace hB := (hk9.2.2.2.1).trans hB
      replace hn := (hk9.2.2.2.2.2.2.2.2.1).trans hn
      replace hk := kq_t hk hk9
      replace hG := TG_ad (b := bs) hG
      replace hS21 : Ma 0 21 = S := by first | exact hS9.2.2.2.1 | exact hS9.2.2.2.1.trans hS21
      replace hc21 : Ma 0 0 21 = nI k := hS9.2.2.2.2.trans hc21
      obtain ⟨t2, ht2⟩ : ∃ z, z = mAd bs n (mEx 1 4 (mEx 1 1 t)) := ⟨_, rfl⟩
      rw [← ht2] at hT hG
      refine ⟨_, hMr, ?_⟩
      clear hp9 hs9 hMr hk9 hS9
      have hK2 : rK bs n t2 u := by
        rw [ht2, mEx_n (a := 1) (by decide), mEx_n (a := 1) (by decide)]
        exact rC_K hC
      refine r_aload_n E (dat dkX10_parseStatement 24 rfl) rfl rfl ?_
      refine q_getn E fl_X10_165 (dat dkX10_parseStatement 25 rfl) rfl rfl rfl (show (_ : Int32) = _ from hT.2.2.2.2.1) ?_
      refine r_if_le (tgt := 51) E (dat dkX10_parseStatement 26 rfl) rfl (fun h47 => ?_) (fun h47 => ?_)
      ·
        refine r_iconst (v := 4) E (dat dkX10_parseStatement 28 rfl) rfl ?_
        refine r_aload_n E (dat dkX10_parseStatement 29 rfl) rfl rfl ?_
        refine q_getn E fl_X10_276 (dat dkX10_parseStatement 30 rfl) rfl rfl rfl (show (_ : Int32) = nI k from hc21) ?_
        refine r_imul E (dat dkX10_parseStatement 31 rfl) ?_
        rw [show (4 : Int32) * nI k = nI (4 * k) from pk_mul 4 k]
        refine r_istore_2 E (dat dkX10_parseStatement 32 rfl) rfl rfl ?_
        refine r_aload_n E (dat dkX10_parseStatement 33 rfl) rfl rfl ?_
        refine q_geta E fl_X10_36 (dat dkX10_parseStatement 34 rfl) rfl rfl rfl ?_
        refine r_iload_n E (dat dkX10_parseStatement 35 rfl) rfl rfl ?_
        refine r_iload_n E (dat dkX10_parseStatement 36 rfl) rfl rfl ?_
        refine q_iast E (dat dkX10_parseStatement 37 rfl) rfl rfl (by decide) (show (_ : Nat → Int32) = _ from hS21) (fun _ => rfl) rfl (by omega) ?_
        refine r_iload_n E (dat dkX10_parseStatement 38 rfl) rfl rfl ?_
        refine r_tabIn (off := 64) (tgt := 130) E (dat dkX10_parseStatement 39 rfl) (by decide +kernel) (by decide +kernel) (by rfl) rfl ?_
        refine r_aload_n E (dat dkX10_parseStatement 51 rfl) rfl rfl ?_
        refine q_geta E fl_X10_36 (dat dkX10_parseStatement 52 rfl) rfl rfl rfl ?_
        refine r_iload_n E (dat dkX10_parseStatement 53 rfl) rfl rfl ?_
        refine r_iconst (v := 1) E (dat dkX10_parseStatement 54 rfl) rfl ?_
        refine r_iadd E (dat dkX10_parseStatement 55 rfl) ?_
        refine r_aload_n E (dat dkX10_parseStatement 56 rfl) rfl rfl ?_
        refine r_callV (κ := 9) (μ := []) E (sp_X10_parseCell l G bs n _ _ x.1.2.2 _ hB hn hA hT hG hn6 hz2) my_X10_parseCell iv_X10_parseCell ml_X10_201 cm_id ⟨by decide, rfl, rfl⟩ rfl rfl rfl rfl (by decide) (Nat.le_of_ble_eq_true rfl) (dat dkX10_parseStatement 57 rfl) ?_
        rintro _ M9 ⟨rfl, hp9, hs9⟩
        obtain ⟨Ma, hMr, hk9, hA, hT, hS9⟩ := Mrg_pk hp9 hs9
        replace hB := (hk9.2.2.2.1).trans hB
        replace hn := (hk9.2.2.2.2.2.2.2.2.1).trans hn
        replace hk := kq_t hk hk9
        replace hG := TG_cl (b := bs) (z := x.1.2.2) hG
        replace hS21 : Ma 0 21 = (upd S (4 * k) (1)) := by first | exact hS9.2.2.2.1 | exact hS9.2.2.2.1.trans hS21
        replace hc21 : Ma 0 0 21 = nI k := hS9.2.2.2.2.trans hc21
        refine ⟨_, hMr, ?_⟩
        clear hp9 hs9 hMr hk9 hS9
        refine q_iast E (dat dkX10_parseStatement 58 rfl) rfl rfl (by decide) (show (_ : Nat → Int32) = _ from hS21) (fun _ => rfl) (show nI (4 * k) + 1 = nI (4 * k + 1) from nI_1 _) (by omega) ?_
        refine r_aload_n E (dat dkX10_parseStatement 59 rfl) rfl rfl ?_
        refine q_geta E fl_X10_36 (dat dkX10_parseStatement 60 rfl) rfl rfl rfl ?_
        refine r_iload_n E (dat dkX10_parseStatement 61 rfl) rfl rfl ?_
        refine r_iconst (v := 2) E (dat dkX10_parseStatement 62 rfl) rfl ?_
        refine r_iadd E (dat dkX10_parseStatement 63 rfl) ?_
        refine r_aload_n E (dat dkX10_parseStatement 64 rfl) rfl rfl ?_
        refine r_iconst (v := 1) E (dat dkX10_parseStatement 65 rfl) rfl ?_
        refine r_bipush (v := 20) E (dat dkX10_parseStatement 66 rfl) rfl ?_
        refine r_callV (κ := 9) (μ := []) E (px_num l G bs n _ _ (1) (20) _ hB hn hA hT hG hn6) my_X10_parseNumber iv_X10_parseNumber ml_X10_198 cm_id ⟨by decide, rfl, rfl⟩ rfl rfl rfl rfl (by decide) (Nat.le_of_ble_eq_true rfl) (dat dkX10_parseStatement 67 rfl) ?_
        rintro _ M9 ⟨rfl, hp9, hs9⟩
        obtain ⟨Ma, hMr, hk9, hA, hT, hS9⟩ := Mrg_pk hp9 hs9
        replace hB := (hk9.2.2.2.1).trans hB
        replace hn := (hk9.2.2.2.2.2.2.2.2.1).trans hn
        replace hk := kq_t hk hk9
        replace hG := TG_ad (b := bs) (TG_ne (lo := 1) (hi := 20) hG)
        replace hS21 : Ma 0 21 = (upd (upd S (4 * k) (1)) (4 * k + 1) (mNv t2 0 (nI x.1.2.2 - 1))) := by first | exact hS9.2.2.2.1 | exact hS9.2.2.2.1.trans hS21
        replace hc21 : Ma 0 0 21 = nI k := hS9.2.2.2.2.trans hc21
        refine ⟨_, hMr, ?_⟩
        clear hp9 hs9 hMr hk9 hS9
        refine q_iast E (dat dkX10_parseStatement 68 rfl) rfl rfl (by decide) (show (_ : Nat → Int32) = _ from hS21) (fun _ => rfl) (show nI (4 * k) + 2 = nI (4 * k + 2) from nI_add _ 2) (by omega) ?_
        refine r_aload_n E (dat dkX10_parseStatement 69 rfl) rfl rfl ?_
        refine q_geta E fl_X10_36 (dat dkX10_parseStatement 70 rfl) rfl rfl rfl ?_
        refine r_iload_n E (dat dkX10_parseStatement 71 rfl) rfl rfl ?_
        refine r_iconst (v := 3) E (dat dkX10_parseStatement 72 rfl) rfl ?_
        refine r_iadd E (dat dkX10_parseStatement 73 rfl) ?_
        refine r_aload_n E (dat dkX10_parseStatement 74 rfl) rfl rfl ?_
        refine r_iconst (v := 1) E (dat dkX10_parseStatement 75 rfl) rfl ?_
        refine r_bipush (v := 60) E (dat dkX10_parseStatement 76 rfl) rfl ?_
        refine r_callV (κ := 9) (μ := []) E (px_num l G bs n _ _ (1) (60) _ hB hn hA hT hG hn6) my_X10_parseNumber iv_X10_parseNumber ml_X10_198 cm_id ⟨by decide, rfl, rfl⟩ rfl rfl rfl rfl (by decide) (Nat.le_of_ble_eq_true rfl) (dat dkX10_parseStatement 77 rfl) ?_
        rintro _ M9 ⟨rfl, hp9, hs9⟩
        obtain ⟨Ma, hMr, hk9, hA, hT, hS9⟩ := Mrg_pk hp9 hs9
        replace hB := (hk9.2.2.2.1).trans hB
        replace hn := (hk9.2.2.2.2.2.2.2.2.1).trans hn
        replace hk := kq_t hk hk9
        replace hG := TG_ad (b := bs) (TG_ne (lo := 1) (hi := 60) hG)
        replace hS21 : Ma 0 21 = (upd (upd (upd S (4 * k) (1)) (4 * k + 1) (mNv t2 0 (nI x.1.2.2 - 1))) (4 * k + 2) (mNv (mCl bs n x.1.2.2 t2) 1 20)) := by first | exact hS9.2.2.2.1 | exact hS9.2.2.2.1.trans hS21
        replace hc21 : Ma 0 0 21 = nI k := hS9.2.2.2.2.trans hc21
        refine ⟨_, hMr, ?_⟩
        clear hp9 hs9 hMr hk9 hS9
        refine q_iast E (dat dkX10_parseStatement 78 rfl) rfl rfl (by decide) (show (_ : Nat → Int32) = _ from hS21) (fun _ => rfl) (show nI (4 * k) + 3 = nI (4 * k + 3) from nI_add _ 3) (by omega) ?_
        refine r_goto (tgt := 279) E (dat dkX10_parseStatement 79 rfl) rfl ?_
        refine r_aload_n E (dat dkX10_parseStatement 146 rfl) rfl rfl ?_
        refine r_callV (κ := 9) (μ := []) E (px_smc l G bs n _ _  _ hB hn hA hT hG hn6) my_X10_parseSemicolon iv_X10_parseSemicolon ml_X10_233 cm_id ⟨by decide, rfl, rfl⟩ rfl rfl rfl rfl (by decide) (Nat.le_of_ble_eq_true rfl) (dat dkX10_parseStatement 147 rfl) ?_
        rintro _ M9 ⟨rfl, hp9, hs9⟩
        obtain ⟨Ma, hMr, hk9, hA, hT, hS9⟩ := Mrg_pk hp9 hs9
        replace hB := (hk9.2.2.2.1).trans hB
        replace hn := (hk9.2.2.2.2.2.2.2.2.1).trans hn
        replace hk := kq_t hk hk9
        replace hG := TG_sm (b := bs) hG
        replace hS21 : Ma 0 21 = (upd (upd (upd (upd S (4 * k) (1)) (4 * k + 1) (mNv t2 0 (nI x.1.2.2 - 1))) (4 * k + 2) (mNv (mCl bs n x.1.2.2 t2) 1 20)) (4 * k + 3) (mNv (mAd bs n (mNe (mCl bs n x.1.2.2 t2) 1 20)) 1 60)) := by first | exact hS9.2.2.2.1 | exact hS9.2.2.2.1.trans hS21
        replace hc21 : Ma 0 0 21 = nI k := hS9.2.2.2.2.trans hc21
        refine ⟨_, hMr, ?_⟩
        clear hp9 hs9 hMr hk9 hS9
        refine r_aload_n E (dat dkX10_parseStatement 148 rfl) rfl rfl ?_
        refine r_dup E (dat dkX10_parseStatement 149 rfl) rfl ?_
        refine q_getn E fl_X10_276 (dat dkX10_parseStatement 150 rfl) rfl rfl rfl (show (_ : Int32) = nI k from hc21) ?_
        refine r_iconst (v := 1) E (dat dkX10_parseStatement 151 rfl) rfl ?_
        refine r_iadd E (dat dkX10_parseStatement 152 rfl) ?_
        rw [show nI k + 1 = nI (k + 1) from nI_1 k]
        refine q_putn E ft_X10_276 (dat dkX10_parseStatement 153 rfl) rfl rfl rfl rfl ?_
        refine r_vreturn E (dat dkX10_parseStatement 154 rfl) (by decide) (by decide) ?_
        have ec : ch bs n x 1 t2 = (mAd bs n (mNe (mAd bs n (mNe (mCl bs n x.1.2.2 t2) 1 20)) 1 60), mNv t2 0 (nI x.1.2.2 - 1), mNv (mCl bs n x.1.2.2 t2) 1 20, mNv (mAd bs n (mNe (mCl bs n x.1.2.2 t2) 1 20)) 1 60) := rfl
        refine ⟨rfl, _, hG, ⟨hk, hA, hT⟩, Or.inr (Or.inr ⟨1, t2, hv, hk30, hK2, ?_, rfl, _, hS21, ?_⟩)⟩
        · rw [ec]
        rw [ec]
        clear ec
        refine ⟨?_, ?_, ?_, ?_, ?_⟩
        · try dsimp only
          rw [upd_ne (by omega), upd_ne (by omega), upd_ne (by omega)]
          exact upd_at
        · try dsimp only
          rw [upd_ne (by omega), upd_ne (by omega)]
          exact upd_at
        · intro _
          try dsimp only
          rw [upd_ne (by omega)]
          exact upd_at
        · intro _
          try dsimp only
          exact upd_at
        · intro q hq
          rw [upd_ne (by omega), upd_ne (by omega), upd_ne (by omega), upd_ne (by omega)]
      ·
        exact absurd (show t2.2.2.2.2.1 ≤ 0 by rw [hK2.1]; decide) (by first | exact h47 | exact Int32.not_le.mpr h47)

set_option maxRecDepth 100000 in
set_option maxHeartbeats 4000000 in
theorem sp_st_v2 (l : Launch) (G : GT) (bs : Nat → Int32) (n : Nat) (A : Nat → Int32) (t : TT) (u : TT) (A0 : Nat → Int32) (x : PP) (T : Nat → Nat → Int32) (S : Nat → Int32) (k : Nat) (M : Mem) (hB : M 0 10 = bs) (hn : M 0 0 10 = nI n) (hA : M 0 1 = A) (hT : TI M t) (hG : TG n t) (hn6 : n ≤ 600) (hE : A = enc A0 x T) (hx : PIv x) (hC : rC n t u) (hS21 : M 0 21 = S) (hc21 : M 0 0 21 = nI k) (hk31 : k ≤ 30) (hv : vbF bs u = some 2) (hk30 : k < 30) : MC l G yX10_parseStatement cX10_parseStatement 3 none ({ frames := 6, cells := 0, slots := 0, locals := 127 } : Room) [9] lk0 [rv 0 0] (M) (fun r M2 => r = none ∧ ∃ t9, TG n t9 ∧ PK M M2 A t9 ∧ ((vbF bs u = none ∧ rX t9 (tFl 1 u)) ∨ (∃ v, vbF bs u = some v ∧ k = 30 ∧ rX t9 (tFl 4 u)) ∨ (∃ v t2, vbF bs u = some v ∧ k < 30 ∧ rK bs n t2 u ∧ t9 = mSm bs n (ch bs n x v t2).1 ∧ M2 0 0 21 = nI (k + 1) ∧ ∃ S2, M2 0 21 = S2 ∧ stC S2 S k v (ch bs n x v t2).2))) := by
  refine MC.of RX10 [some (rv 0 0), none, none] 2 (by decide +kernel) rfl rfl rfl ?_
  intro pp ee ss mm aa bb me cd ad E
  have hk : kq M M := kq_r
  have hz2 : A 2 * A 1 = nI x.1.2.2 := by rw [hE]; exact ce_x hx
  
  refine r_aload_n E (dat dkX10_parseStatement 0 rfl) rfl rfl ?_
  refine r_callV (κ := 9) (μ := []) E (sp_X10_statementKind l G bs n _ _ u _ hB hn hA hT hG hn6 hC) my_X10_statementKind iv_X10_statementKind ml_X10_273 cm_id ⟨by decide, rfl, rfl⟩ rfl rfl rfl rfl (by decide) (Nat.le_of_ble_eq_true rfl) (dat dkX10_parseStatement 1 rfl) ?_
  rintro _ M9 ⟨rfl, hM9⟩
  refine ⟨_, Mrg_z hM9, ?_⟩
  clear hM9
  rw [show oI (vbF bs u) = (2 : Int32) from by rw [hv]; rfl]
  refine r_istore_1 E (dat dkX10_parseStatement 2 rfl) rfl rfl ?_
  refine r_aload_n E (dat dkX10_parseStatement 3 rfl) rfl rfl ?_
  refine r_iload_n E (dat dkX10_parseStatement 4 rfl) rfl rfl ?_
  refine r_iconst (v := -1) E (dat dkX10_parseStatement 5 rfl) rfl ?_
  refine r_icmp_eq (tgt := 15) E (dat dkX10_parseStatement 6 rfl) rfl (fun h8 => ?_) (fun h8 => ?_)
  ·
    exact absurd h8 (by decide)
  ·
    refine r_iconst (v := 1) E (dat dkX10_parseStatement 7 rfl) rfl ?_
    refine r_goto (tgt := 16) E (dat dkX10_parseStatement 8 rfl) rfl ?_
    refine r_iconst (v := 1) E (dat dkX10_parseStatement 10 rfl) rfl ?_
    refine r_callV (κ := 9) (μ := []) E (px_ex l G bs n _ _ (1) (1) _ hB hn hA hT hG hn6) my_X10_expect iv_X10_expect ml_X10_194 cm_id ⟨by decide, rfl, rfl⟩ rfl rfl rfl rfl (by decide) (Nat.le_of_ble_eq_true rfl) (dat dkX10_parseStatement 11 rfl) ?_
    rintro _ M9 ⟨rfl, hp9, hs9⟩
    obtain ⟨Ma, hMr, hk9, hA, hT, hS9⟩ := Mrg_pk hp9 hs9
    replace hB := (hk9.2.2.2.1).trans hB
    replace hn := (hk9.2.2.2.2.2.2.2.2.1).trans hn
    replace hk := kq_t hk hk9
    replace hG := TG_ex (a := 1) (k := 1) (by decide) hG
    replace hS21 : Ma 0 21 = S := by first | exact hS9.2.2.2.1 | exact hS9.2.2.2.1.trans hS21
    replace hc21 : Ma 0 0 21 = nI k := hS9.2.2.2.2.trans hc21
    refine ⟨_, hMr, ?_⟩
    clear hp9 hs9 hMr hk9 hS9
    refine r_aload_n E (dat dkX10_parseStatement 12 rfl) rfl rfl ?_
    refine r_aload_n E (dat dkX10_parseStatement 13 rfl) rfl rfl ?_
    refine q_getn E fl_X10_276 (dat dkX10_parseStatement 14 rfl) rfl rfl rfl (show (_ : Int32) = nI k from hc21) ?_
    refine r_bipush (v := 30) E (dat dkX10_parseStatement 15 rfl) rfl ?_
    refine q_icmp_ge (tgt := 34) E (dat dkX10_parseStatement 16 rfl) rfl rfl (b := 30) rfl (by omega) (by omega) (fun h27 => ?_) (fun h27 => ?_)
    ·
      omega
    ·
      refine r_iconst (v := 1) E (dat dkX10_parseStatement 17 rfl) rfl ?_
      refine r_goto (tgt := 35) E (dat dkX10_parseStatement 18 rfl) rfl ?_
      refine r_iconst (v := 4) E (dat dkX10_parseStatement 20 rfl) rfl ?_
      refine r_callV (κ := 9) (μ := []) E (px_ex l G bs n _ _ (1) (4) _ hB hn hA hT hG hn6) my_X10_expect iv_X10_expect ml_X10_194 cm_id ⟨by decide, rfl, rfl⟩ rfl rfl rfl rfl (by decide) (Nat.le_of_ble_eq_true rfl) (dat dkX10_parseStatement 21 rfl) ?_
      rintro _ M9 ⟨rfl, hp9, hs9⟩
      obtain ⟨Ma, hMr, hk9, hA, hT, hS9⟩ := Mrg_pk hp9 hs9
      replace hB := (hk9.2.2.2.1).trans hB
      replace hn := (hk9.2.2.2.2.2.2.2.2.1).trans hn
      replace hk := kq_t hk hk9
      replace hG := TG_ex (a := 1) (k := 4) (by decide) hG
      replace hS21 : Ma 0 21 = S := by first | exact hS9.2.2.2.1 | exact hS9.2.2.2.1.trans hS21
      replace hc21 : Ma 0 0 21 = nI k := hS9.2.2.2.2.trans hc21
      refine ⟨_, hMr, ?_⟩
      clear hp9 hs9 hMr hk9 hS9
      refine r_aload_n E (dat dkX10_parseStatement 22 rfl) rfl rfl ?_
      refine r_callV (κ := 9) (μ := []) E (px_adv l G bs n _ _  _ hB hn hA hT hG hn6) my_X10_advanceToken iv_X10_advanceToken ml_X10_189 cm_id ⟨by decide, rfl, rfl⟩ rfl rfl rfl rfl (by decide) (Nat.le_of_ble_eq_true rfl) (dat dkX10_parseStatement 23 rfl) ?_
      rintro _ M9 ⟨rfl, hp9, hs9⟩
      obtain ⟨Ma, hMr, hk9, hA, hT, hS9⟩ := Mrg_pk hp9 hs9
      replace hB := (hk9.2.2.2.1).trans hB
      replace hn := (hk9.2.2.2.2.2.2.2.2.1).trans hn
      replace hk := kq_t hk hk9
      replace hG := TG_ad (b := bs) hG
      replace hS21 : Ma 0 21 = S := by first | exact hS9.2.2.2.1 | exact hS9.2.2.2.1.trans hS21
      replace hc21 : Ma 0 0 21 = nI k := hS9.2.2.2.2.trans hc21
      obtain ⟨t2, ht2⟩ : ∃ z, z = mAd bs n (mEx 1 4 (mEx 1 1 t)) := ⟨_, rfl⟩
      rw [← ht2] at hT hG
      refine ⟨_, hMr, ?_⟩
      clear hp9 hs9 hMr hk9 hS9
      have hK2 : rK bs n t2 u := by
        rw [ht2, mEx_n (a := 1) (by decide), mEx_n (a := 1) (by decide)]
        exact rC_K hC
      refine r_aload_n E (dat dkX10_parseStatement 24 rfl) rfl rfl ?_
      refine q_getn E fl_X10_165 (dat dkX10_parseStatement 25 rfl) rfl rfl rfl (show (_ : Int32) = _ from hT.2.2.2.2.1) ?_
      refine r_if_le (tgt := 51) E (dat dkX10_parseStatement 26 rfl) rfl (fun h47 => ?_) (fun h47 => ?_)
      ·
        refine r_iconst (v := 4) E (dat dkX10_parseStatement 28 rfl) rfl ?_
        refine r_aload_n E (dat dkX10_parseStatement 29 rfl) rfl rfl ?_
        refine q_getn E fl_X10_276 (dat dkX10_parseStatement 30 rfl) rfl rfl rfl (show (_ : Int32) = nI k from hc21) ?_
        refine r_imul E (dat dkX10_parseStatement 31 rfl) ?_
        rw [show (4 : Int32) * nI k = nI (4 * k) from pk_mul 4 k]
        refine r_istore_2 E (dat dkX10_parseStatement 32 rfl) rfl rfl ?_
        refine r_aload_n E (dat dkX10_parseStatement 33 rfl) rfl rfl ?_
        refine q_geta E fl_X10_36 (dat dkX10_parseStatement 34 rfl) rfl rfl rfl ?_
        refine r_iload_n E (dat dkX10_parseStatement 35 rfl) rfl rfl ?_
        refine r_iload_n E (dat dkX10_parseStatement 36 rfl) rfl rfl ?_
        refine q_iast E (dat dkX10_parseStatement 37 rfl) rfl rfl (by decide) (show (_ : Nat → Int32) = _ from hS21) (fun _ => rfl) rfl (by omega) ?_
        refine r_iload_n E (dat dkX10_parseStatement 38 rfl) rfl rfl ?_
        refine r_tabIn (off := 201) (tgt := 267) E (dat dkX10_parseStatement 39 rfl) (by decide +kernel) (by decide +kernel) (by rfl) rfl ?_
        refine r_aload_n E (dat dkX10_parseStatement 138 rfl) rfl rfl ?_
        refine q_geta E fl_X10_36 (dat dkX10_parseStatement 139 rfl) rfl rfl rfl ?_
        refine r_iload_n E (dat dkX10_parseStatement 140 rfl) rfl rfl ?_
        refine r_iconst (v := 1) E (dat dkX10_parseStatement 141 rfl) rfl ?_
        refine r_iadd E (dat dkX10_parseStatement 142 rfl) ?_
        refine r_aload_n E (dat dkX10_parseStatement 143 rfl) rfl rfl ?_
        refine r_callV (κ := 9) (μ := []) E (sp_X10_parseCell l G bs n _ _ x.1.2.2 _ hB hn hA hT hG hn6 hz2) my_X10_parseCell iv_X10_parseCell ml_X10_201 cm_id ⟨by decide, rfl, rfl⟩ rfl rfl rfl rfl (by decide) (Nat.le_of_ble_eq_true rfl) (dat dkX10_parseStatement 144 rfl) ?_
        rintro _ M9 ⟨rfl, hp9, hs9⟩
        obtain ⟨Ma, hMr, hk9, hA, hT, hS9⟩ := Mrg_pk hp9 hs9
        replace hB := (hk9.2.2.2.1).trans hB
        replace hn := (hk9.2.2.2.2.2.2.2.2.1).trans hn
        replace hk := kq_t hk hk9
        replace hG := TG_cl (b := bs) (z := x.1.2.2) hG
        replace hS21 : Ma 0 21 = (upd S (4 * k) (2)) := by first | exact hS9.2.2.2.1 | exact hS9.2.2.2.1.trans hS21
        replace hc21 : Ma 0 0 21 = nI k := hS9.2.2.2.2.trans hc21
        refine ⟨_, hMr, ?_⟩
        clear hp9 hs9 hMr hk9 hS9
        refine q_iast E (dat dkX10_parseStatement 145 rfl) rfl rfl (by decide) (show (_ : Nat → Int32) = _ from hS21) (fun _ => rfl) (show nI (4 * k) + 1 = nI (4 * k + 1) from nI_1 _) (by omega) ?_
        refine r_aload_n E (dat dkX10_parseStatement 146 rfl) rfl rfl ?_
        refine r_callV (κ := 9) (μ := []) E (px_smc l G bs n _ _  _ hB hn hA hT hG hn6) my_X10_parseSemicolon iv_X10_parseSemicolon ml_X10_233 cm_id ⟨by decide, rfl, rfl⟩ rfl rfl rfl rfl (by decide) (Nat.le_of_ble_eq_true rfl) (dat dkX10_parseStatement 147 rfl) ?_
        rintro _ M9 ⟨rfl, hp9, hs9⟩
        obtain ⟨Ma, hMr, hk9, hA, hT, hS9⟩ := Mrg_pk hp9 hs9
        replace hB := (hk9.2.2.2.1).trans hB
        replace hn := (hk9.2.2.2.2.2.2.2.2.1).trans hn
        replace hk := kq_t hk hk9
        replace hG := TG_sm (b := bs) hG
        replace hS21 : Ma 0 21 = (upd (upd S (4 * k) (2)) (4 * k + 1) (mNv t2 0 (nI x.1.2.2 - 1))) := by first | exact hS9.2.2.2.1 | exact hS9.2.2.2.1.trans hS21
        replace hc21 : Ma 0 0 21 = nI k := hS9.2.2.2.2.trans hc21
        refine ⟨_, hMr, ?_⟩
        clear hp9 hs9 hMr hk9 hS9
        refine r_aload_n E (dat dkX10_parseStatement 148 rfl) rfl rfl ?_
        refine r_dup E (dat dkX10_parseStatement 149 rfl) rfl ?_
        refine q_getn E fl_X10_276 (dat dkX10_parseStatement 150 rfl) rfl rfl rfl (show (_ : Int32) = nI k from hc21) ?_
        refine r_iconst (v := 1) E (dat dkX10_parseStatement 151 rfl) rfl ?_
        refine r_iadd E (dat dkX10_parseStatement 152 rfl) ?_
        rw [show nI k + 1 = nI (k + 1) from nI_1 k]
        refine q_putn E ft_X10_276 (dat dkX10_parseStatement 153 rfl) rfl rfl rfl rfl ?_
        refine r_vreturn E (dat dkX10_parseStatement 154 rfl) (by decide) (by decide) ?_
        have ec : ch bs n x 2 t2 = ((mCl bs n x.1.2.2 t2), mNv t2 0 (nI x.1.2.2 - 1), 0, 0) := rfl
        refine ⟨rfl, _, hG, ⟨hk, hA, hT⟩, Or.inr (Or.inr ⟨2, t2, hv, hk30, hK2, ?_, rfl, _, hS21, ?_⟩)⟩
        · rw [ec]
        rw [ec]
        clear ec
        refine ⟨?_, ?_, ?_, ?_, ?_⟩
        · try dsimp only
          rw [upd_ne (by omega)]
          exact upd_at
        · try dsimp only
          exact upd_at
        · exact fun c => absurd c (by decide)
        · exact fun c => absurd c (by decide)
        · intro q hq
          rw [upd_ne (by omega), upd_ne (by omega)]
      ·
        exact absurd (show t2.2.2.2.2.1 ≤ 0 by rw [hK2.1]; decide) (by first | exact h47 | exact Int32.not_le.mpr h47)

set_option maxRecDepth 100000 in
set_option maxHeartbeats 4000000 in
theorem sp_st_v3 (l : Launch) (G : GT) (bs : Nat → Int32) (n : Nat) (A : Nat → Int32) (t : TT) (u : TT) (A0 : Nat → Int32) (x : PP) (T : Nat → Nat → Int32) (S : Nat → Int32) (k : Nat) (M : Mem) (hB : M 0 10 = bs) (hn : M 0 0 10 = nI n) (hA : M 0 1 = A) (hT : TI M t) (hG : TG n t) (hn6 : n ≤ 600) (hE : A = enc A0 x T) (hx : PIv x) (hC : rC n t u) (hS21 : M 0 21 = S) (hc21 : M 0 0 21 = nI k) (hk31 : k ≤ 30) (hv : vbF bs u = some 3) (hk30 : k < 30) : MC l G yX10_parseStatement cX10_parseStatement 3 none ({ frames := 6, cells := 0, slots := 0, locals := 127 } : Room) [9] lk0 [rv 0 0] (M) (fun r M2 => r = none ∧ ∃ t9, TG n t9 ∧ PK M M2 A t9 ∧ ((vbF bs u = none ∧ rX t9 (tFl 1 u)) ∨ (∃ v, vbF bs u = some v ∧ k = 30 ∧ rX t9 (tFl 4 u)) ∨ (∃ v t2, vbF bs u = some v ∧ k < 30 ∧ rK bs n t2 u ∧ t9 = mSm bs n (ch bs n x v t2).1 ∧ M2 0 0 21 = nI (k + 1) ∧ ∃ S2, M2 0 21 = S2 ∧ stC S2 S k v (ch bs n x v t2).2))) := by
  refine MC.of RX10 [some (rv 0 0), none, none] 2 (by decide +kernel) rfl rfl rfl ?_
  intro pp ee ss mm aa bb me cd ad E
  have hk : kq M M := kq_r
  have hz2 : A 2 * A 1 = nI x.1.2.2 := by rw [hE]; exact ce_x hx
  
  refine r_aload_n E (dat dkX10_parseStatement 0 rfl) rfl rfl ?_
  refine r_callV (κ := 9) (μ := []) E (sp_X10_statementKind l G bs n _ _ u _ hB hn hA hT hG hn6 hC) my_X10_statementKind iv_X10_statementKind ml_X10_273 cm_id ⟨by decide, rfl, rfl⟩ rfl rfl rfl rfl (by decide) (Nat.le_of_ble_eq_true rfl) (dat dkX10_parseStatement 1 rfl) ?_
  rintro _ M9 ⟨rfl, hM9⟩
  refine ⟨_, Mrg_z hM9, ?_⟩
  clear hM9
  rw [show oI (vbF bs u) = (3 : Int32) from by rw [hv]; rfl]
  refine r_istore_1 E (dat dkX10_parseStatement 2 rfl) rfl rfl ?_
  refine r_aload_n E (dat dkX10_parseStatement 3 rfl) rfl rfl ?_
  refine r_iload_n E (dat dkX10_parseStatement 4 rfl) rfl rfl ?_
  refine r_iconst (v := -1) E (dat dkX10_parseStatement 5 rfl) rfl ?_
  refine r_icmp_eq (tgt := 15) E (dat dkX10_parseStatement 6 rfl) rfl (fun h8 => ?_) (fun h8 => ?_)
  ·
    exact absurd h8 (by decide)
  ·
    refine r_iconst (v := 1) E (dat dkX10_parseStatement 7 rfl) rfl ?_
    refine r_goto (tgt := 16) E (dat dkX10_parseStatement 8 rfl) rfl ?_
    refine r_iconst (v := 1) E (dat dkX10_parseStatement 10 rfl) rfl ?_
    refine r_callV (κ := 9) (μ := []) E (px_ex l G bs n _ _ (1) (1) _ hB hn hA hT hG hn6) my_X10_expect iv_X10_expect ml_X10_194 cm_id ⟨by decide, rfl, rfl⟩ rfl rfl rfl rfl (by decide) (Nat.le_of_ble_eq_true rfl) (dat dkX10_parseStatement 11 rfl) ?_
    rintro _ M9 ⟨rfl, hp9, hs9⟩
    obtain ⟨Ma, hMr, hk9, hA, hT, hS9⟩ := Mrg_pk hp9 hs9
    replace hB := (hk9.2.2.2.1).trans hB
    replace hn := (hk9.2.2.2.2.2.2.2.2.1).trans hn
    replace hk := kq_t hk hk9
    replace hG := TG_ex (a := 1) (k := 1) (by decide) hG
    replace hS21 : Ma 0 21 = S := by first | exact hS9.2.2.2.1 | exact hS9.2.2.2.1.trans hS21
    replace hc21 : Ma 0 0 21 = nI k := hS9.2.2.2.2.trans hc21
    refine ⟨_, hMr, ?_⟩
    clear hp9 hs9 hMr hk9 hS9
    refine r_aload_n E (dat dkX10_parseStatement 12 rfl) rfl rfl ?_
    refine r_aload_n E (dat dkX10_parseStatement 13 rfl) rfl rfl ?_
    refine q_getn E fl_X10_276 (dat dkX10_parseStatement 14 rfl) rfl rfl rfl (show (_ : Int32) = nI k from hc21) ?_
    refine r_bipush (v := 30) E (dat dkX10_parseStatement 15 rfl) rfl ?_
    refine q_icmp_ge (tgt := 34) E (dat dkX10_parseStatement 16 rfl) rfl rfl (b := 30) rfl (by omega) (by omega) (fun h27 => ?_) (fun h27 => ?_)
    ·
      omega
    ·
      refine r_iconst (v := 1) E (dat dkX10_parseStatement 17 rfl) rfl ?_
      refine r_goto (tgt := 35) E (dat dkX10_parseStatement 18 rfl) rfl ?_
      refine r_iconst (v := 4) E (dat dkX10_parseStatement 20 rfl) rfl ?_
      refine r_callV (κ := 9) (μ := []) E (px_ex l G bs n _ _ (1) (4) _ hB hn hA hT hG hn6) my_X10_expect iv_X10_expect ml_X10_194 cm_id ⟨by decide, rfl, rfl⟩ rfl rfl rfl rfl (by decide) (Nat.le_of_ble_eq_true rfl) (dat dkX10_parseStatement 21 rfl) ?_
      rintro _ M9 ⟨rfl, hp9, hs9⟩
      obtain ⟨Ma, hMr, hk9, hA, hT, hS9⟩ := Mrg_pk hp9 hs9
      replace hB := (hk9.2.2.2.1).trans hB
      replace hn := (hk9.2.2.2.2.2.2.2.2.1).trans hn
      replace hk := kq_t hk hk9
      replace hG := TG_ex (a := 1) (k := 4) (by decide) hG
      replace hS21 : Ma 0 21 = S := by first | exact hS9.2.2.2.1 | exact hS9.2.2.2.1.trans hS21
      replace hc21 : Ma 0 0 21 = nI k := hS9.2.2.2.2.trans hc21
      refine ⟨_, hMr, ?_⟩
      clear hp9 hs9 hMr hk9 hS9
      refine r_aload_n E (dat dkX10_parseStatement 22 rfl) rfl rfl ?_
      refine r_callV (κ := 9) (μ := []) E (px_adv l G bs n _ _  _ hB hn hA hT hG hn6) my_X10_advanceToken iv_X10_advanceToken ml_X10_189 cm_id ⟨by decide, rfl, rfl⟩ rfl rfl rfl rfl (by decide) (Nat.le_of_ble_eq_true rfl) (dat dkX10_parseStatement 23 rfl) ?_
      rintro _ M9 ⟨rfl, hp9, hs9⟩
      obtain ⟨Ma, hMr, hk9, hA, hT, hS9⟩ := Mrg_pk hp9 hs9
      replace hB := (hk9.2.2.2.1).trans hB
      replace hn := (hk9.2.2.2.2.2.2.2.2.1).trans hn
      replace hk := kq_t hk hk9
      replace hG := TG_ad (b := bs) hG
      replace hS21 : Ma 0 21 = S := by first | exact hS9.2.2.2.1 | exact hS9.2.2.2.1.trans hS21
      replace hc21 : Ma 0 0 21 = nI k := hS9.2.2.2.2.trans hc21
      obtain ⟨t2, ht2⟩ : ∃ z, z = mAd bs n (mEx 1 4 (mEx 1 1 t)) := ⟨_, rfl⟩
      rw [← ht2] at hT hG
      refine ⟨_, hMr, ?_⟩
      clear hp9 hs9 hMr hk9 hS9
      have hK2 : rK bs n t2 u := by
        rw [ht2, mEx_n (a := 1) (by decide), mEx_n (a := 1) (by decide)]
        exact rC_K hC
      refine r_aload_n E (dat dkX10_parseStatement 24 rfl) rfl rfl ?_
      refine q_getn E fl_X10_165 (dat dkX10_parseStatement 25 rfl) rfl rfl rfl (show (_ : Int32) = _ from hT.2.2.2.2.1) ?_
      refine r_if_le (tgt := 51) E (dat dkX10_parseStatement 26 rfl) rfl (fun h47 => ?_) (fun h47 => ?_)
      ·
        refine r_iconst (v := 4) E (dat dkX10_parseStatement 28 rfl) rfl ?_
        refine r_aload_n E (dat dkX10_parseStatement 29 rfl) rfl rfl ?_
        refine q_getn E fl_X10_276 (dat dkX10_parseStatement 30 rfl) rfl rfl rfl (show (_ : Int32) = nI k from hc21) ?_
        refine r_imul E (dat dkX10_parseStatement 31 rfl) ?_
        rw [show (4 : Int32) * nI k = nI (4 * k) from pk_mul 4 k]
        refine r_istore_2 E (dat dkX10_parseStatement 32 rfl) rfl rfl ?_
        refine r_aload_n E (dat dkX10_parseStatement 33 rfl) rfl rfl ?_
        refine q_geta E fl_X10_36 (dat dkX10_parseStatement 34 rfl) rfl rfl rfl ?_
        refine r_iload_n E (dat dkX10_parseStatement 35 rfl) rfl rfl ?_
        refine r_iload_n E (dat dkX10_parseStatement 36 rfl) rfl rfl ?_
        refine q_iast E (dat dkX10_parseStatement 37 rfl) rfl rfl (by decide) (show (_ : Nat → Int32) = _ from hS21) (fun _ => rfl) rfl (by omega) ?_
        refine r_iload_n E (dat dkX10_parseStatement 38 rfl) rfl rfl ?_
        refine r_tabIn (off := 109) (tgt := 175) E (dat dkX10_parseStatement 39 rfl) (by decide +kernel) (by decide +kernel) (by rfl) rfl ?_
        refine r_aload_n E (dat dkX10_parseStatement 80 rfl) rfl rfl ?_
        refine q_geta E fl_X10_36 (dat dkX10_parseStatement 81 rfl) rfl rfl rfl ?_
        refine r_iload_n E (dat dkX10_parseStatement 82 rfl) rfl rfl ?_
        refine r_iconst (v := 1) E (dat dkX10_parseStatement 83 rfl) rfl ?_
        refine r_iadd E (dat dkX10_parseStatement 84 rfl) ?_
        refine r_aload_n E (dat dkX10_parseStatement 85 rfl) rfl rfl ?_
        refine r_callV (κ := 9) (μ := []) E (sp_X10_parseCell l G bs n _ _ x.1.2.2 _ hB hn hA hT hG hn6 hz2) my_X10_parseCell iv_X10_parseCell ml_X10_201 cm_id ⟨by decide, rfl, rfl⟩ rfl rfl rfl rfl (by decide) (Nat.le_of_ble_eq_true rfl) (dat dkX10_parseStatement 86 rfl) ?_
        rintro _ M9 ⟨rfl, hp9, hs9⟩
        obtain ⟨Ma, hMr, hk9, hA, hT, hS9⟩ := Mrg_pk hp9 hs9
        replace hB := (hk9.2.2.2.1).trans hB
        replace hn := (hk9.2.2.2.2.2.2.2.2.1).trans hn
        replace hk := kq_t hk hk9
        replace hG := TG_cl (b := bs) (z := x.1.2.2) hG
        replace hS21 : Ma 0 21 = (upd S (4 * k) (3)) := by first | exact hS9.2.2.2.1 | exact hS9.2.2.2.1.trans hS21
        replace hc21 : Ma 0 0 21 = nI k := hS9.2.2.2.2.trans hc21
        refine ⟨_, hMr, ?_⟩
        clear hp9 hs9 hMr hk9 hS9
        refine q_iast E (dat dkX10_parseStatement 87 rfl) rfl rfl (by decide) (show (_ : Nat → Int32) = _ from hS21) (fun _ => rfl) (show nI (4 * k) + 1 = nI (4 * k + 1) from nI_1 _) (by omega) ?_
        refine r_aload_n E (dat dkX10_parseStatement 88 rfl) rfl rfl ?_
        refine q_geta E fl_X10_36 (dat dkX10_parseStatement 89 rfl) rfl rfl rfl ?_
        refine r_iload_n E (dat dkX10_parseStatement 90 rfl) rfl rfl ?_
        refine r_iconst (v := 2) E (dat dkX10_parseStatement 91 rfl) rfl ?_
        refine r_iadd E (dat dkX10_parseStatement 92 rfl) ?_
        refine r_aload_n E (dat dkX10_parseStatement 93 rfl) rfl rfl ?_
        refine r_iconst (v := 1) E (dat dkX10_parseStatement 94 rfl) rfl ?_
        refine r_bipush (v := 9) E (dat dkX10_parseStatement 95 rfl) rfl ?_
        refine r_callV (κ := 9) (μ := []) E (px_num l G bs n _ _ (1) (9) _ hB hn hA hT hG hn6) my_X10_parseNumber iv_X10_parseNumber ml_X10_198 cm_id ⟨by decide, rfl, rfl⟩ rfl rfl rfl rfl (by decide) (Nat.le_of_ble_eq_true rfl) (dat dkX10_parseStatement 96 rfl) ?_
        rintro _ M9 ⟨rfl, hp9, hs9⟩
        obtain ⟨Ma, hMr, hk9, hA, hT, hS9⟩ := Mrg_pk hp9 hs9
        replace hB := (hk9.2.2.2.1).trans hB
        replace hn := (hk9.2.2.2.2.2.2.2.2.1).trans hn
        replace hk := kq_t hk hk9
        replace hG := TG_ad (b := bs) (TG_ne (lo := 1) (hi := 9) hG)
        replace hS21 : Ma 0 21 = (upd (upd S (4 * k) (3)) (4 * k + 1) (mNv t2 0 (nI x.1.2.2 - 1))) := by first | exact hS9.2.2.2.1 | exact hS9.2.2.2.1.trans hS21
        replace hc21 : Ma 0 0 21 = nI k := hS9.2.2.2.2.trans hc21
        refine ⟨_, hMr, ?_⟩
        clear hp9 hs9 hMr hk9 hS9
        refine q_iast E (dat dkX10_parseStatement 97 rfl) rfl rfl (by decide) (show (_ : Nat → Int32) = _ from hS21) (fun _ => rfl) (show nI (4 * k) + 2 = nI (4 * k + 2) from nI_add _ 2) (by omega) ?_
        refine r_goto (tgt := 279) E (dat dkX10_parseStatement 98 rfl) rfl ?_
        refine r_aload_n E (dat dkX10_parseStatement 146 rfl) rfl rfl ?_
        refine r_callV (κ := 9) (μ := []) E (px_smc l G bs n _ _  _ hB hn hA hT hG hn6) my_X10_parseSemicolon iv_X10_parseSemicolon ml_X10_233 cm_id ⟨by decide, rfl, rfl⟩ rfl rfl rfl rfl (by decide) (Nat.le_of_ble_eq_true rfl) (dat dkX10_parseStatement 147 rfl) ?_
        rintro _ M9 ⟨rfl, hp9, hs9⟩
        obtain ⟨Ma, hMr, hk9, hA, hT, hS9⟩ := Mrg_pk hp9 hs9
        replace hB := (hk9.2.2.2.1).trans hB
        replace hn := (hk9.2.2.2.2.2.2.2.2.1).trans hn
        replace hk := kq_t hk hk9
        replace hG := TG_sm (b := bs) hG
        replace hS21 : Ma 0 21 = (upd (upd (upd S (4 * k) (3)) (4 * k + 1) (mNv t2 0 (nI x.1.2.2 - 1))) (4 * k + 2) (mNv (mCl bs n x.1.2.2 t2) 1 9)) := by first | exact hS9.2.2.2.1 | exact hS9.2.2.2.1.trans hS21
        replace hc21 : Ma 0 0 21 = nI k := hS9.2.2.2.2.trans hc21
        refine ⟨_, hMr, ?_⟩
        clear hp9 hs9 hMr hk9 hS9
        refine r_aload_n E (dat dkX10_parseStatement 148 rfl) rfl rfl ?_
        refine r_dup E (dat dkX10_parseStatement 149 rfl) rfl ?_
        refine q_getn E fl_X10_276 (dat dkX10_parseStatement 150 rfl) rfl rfl rfl (show (_ : Int32) = nI k from hc21) ?_
        refine r_iconst (v := 1) E (dat dkX10_parseStatement 151 rfl) rfl ?_
        refine r_iadd E (dat dkX10_parseStatement 152 rfl) ?_
        rw [show nI k + 1 = nI (k + 1) from nI_1 k]
        refine q_putn E ft_X10_276 (dat dkX10_parseStatement 153 rfl) rfl rfl rfl rfl ?_
        refine r_vreturn E (dat dkX10_parseStatement 154 rfl) (by decide) (by decide) ?_
        have ec : ch bs n x 3 t2 = (mAd bs n (mNe (mCl bs n x.1.2.2 t2) 1 9), mNv t2 0 (nI x.1.2.2 - 1), mNv (mCl bs n x.1.2.2 t2) 1 9, 0) := rfl
        refine ⟨rfl, _, hG, ⟨hk, hA, hT⟩, Or.inr (Or.inr ⟨3, t2, hv, hk30, hK2, ?_, rfl, _, hS21, ?_⟩)⟩
        · rw [ec]
        rw [ec]
        clear ec
        refine ⟨?_, ?_, ?_, ?_, ?_⟩
        · try dsimp only
          rw [upd_ne (by omega), upd_ne (by omega)]
          exact upd_at
        · try dsimp only
          rw [upd_ne (by omega)]
          exact upd_at
        · intro _
          try dsimp only
          exact upd_at
        · exact fun c => absurd c (by decide)
        · intro q hq
          rw [upd_ne (by omega), upd_ne (by omega), upd_ne (by omega)]
      ·
        exact absurd (show t2.2.2.2.2.1 ≤ 0 by rw [hK2.1]; decide) (by first | exact h47 | exact Int32.not_le.mpr h47)

set_option maxRecDepth 100000 in
set_option maxHeartbeats 4000000 in
theorem sp_st_v4 (l : Launch) (G : GT) (bs : Nat → Int32) (n : Nat) (A : Nat → Int32) (t : TT) (u : TT) (A0 : Nat → Int32) (x : PP) (T : Nat → Nat → Int32) (S : Nat → Int32) (k : Nat) (M : Mem) (hB : M 0 10 = bs) (hn : M 0 0 10 = nI n) (hA : M 0 1 = A) (hT : TI M t) (hG : TG n t) (hn6 : n ≤ 600) (hE : A = enc A0 x T) (hx : PIv x) (hC : rC n t u) (hS21 : M 0 21 = S) (hc21 : M 0 0 21 = nI k) (hk31 : k ≤ 30) (hv : vbF bs u = some 4) (hk30 : k < 30) : MC l G yX10_parseStatement cX10_parseStatement 3 none ({ frames := 6, cells := 0, slots := 0, locals := 127 } : Room) [9] lk0 [rv 0 0] (M) (fun r M2 => r = none ∧ ∃ t9, TG n t9 ∧ PK M M2 A t9 ∧ ((vbF bs u = none ∧ rX t9 (tFl 1 u)) ∨ (∃ v, vbF bs u = some v ∧ k = 30 ∧ rX t9 (tFl 4 u)) ∨ (∃ v t2, vbF bs u = some v ∧ k < 30 ∧ rK bs n t2 u ∧ t9 = mSm bs n (ch bs n x v t2).1 ∧ M2 0 0 21 = nI (k + 1) ∧ ∃ S2, M2 0 21 = S2 ∧ stC S2 S k v (ch bs n x v t2).2))) := by
  refine MC.of RX10 [some (rv 0 0), none, none] 2 (by decide +kernel) rfl rfl rfl ?_
  intro pp ee ss mm aa bb me cd ad E
  have hk : kq M M := kq_r
  have hz2 : A 2 * A 1 = nI x.1.2.2 := by rw [hE]; exact ce_x hx
  
  refine r_aload_n E (dat dkX10_parseStatement 0 rfl) rfl rfl ?_
  refine r_callV (κ := 9) (μ := []) E (sp_X10_statementKind l G bs n _ _ u _ hB hn hA hT hG hn6 hC) my_X10_statementKind iv_X10_statementKind ml_X10_273 cm_id ⟨by decide, rfl, rfl⟩ rfl rfl rfl rfl (by decide) (Nat.le_of_ble_eq_true rfl) (dat dkX10_parseStatement 1 rfl) ?_
  rintro _ M9 ⟨rfl, hM9⟩
  refine ⟨_, Mrg_z hM9, ?_⟩
  clear hM9
  rw [show oI (vbF bs u) = (4 : Int32) from by rw [hv]; rfl]
  refine r_istore_1 E (dat dkX10_parseStatement 2 rfl) rfl rfl ?_
  refine r_aload_n E (dat dkX10_parseStatement 3 rfl) rfl rfl ?_
  refine r_iload_n E (dat dkX10_parseStatement 4 rfl) rfl rfl ?_
  refine r_iconst (v := -1) E (dat dkX10_parseStatement 5 rfl) rfl ?_
  refine r_icmp_eq (tgt := 15) E (dat dkX10_parseStatement 6 rfl) rfl (fun h8 => ?_) (fun h8 => ?_)
  ·
    exact absurd h8 (by decide)
  ·
    refine r_iconst (v := 1) E (dat dkX10_parseStatement 7 rfl) rfl ?_
    refine r_goto (tgt := 16) E (dat dkX10_parseStatement 8 rfl) rfl ?_
    refine r_iconst (v := 1) E (dat dkX10_parseStatement 10 rfl) rfl ?_
    refine r_callV (κ := 9) (μ := []) E (px_ex l G bs n _ _ (1) (1) _ hB hn hA hT hG hn6) my_X10_expect iv_X10_expect ml_X10_194 cm_id ⟨by decide, rfl, rfl⟩ rfl rfl rfl rfl (by decide) (Nat.le_of_ble_eq_true rfl) (dat dkX10_parseStatement 11 rfl) ?_
    rintro _ M9 ⟨rfl, hp9, hs9⟩
    obtain ⟨Ma, hMr, hk9, hA, hT, hS9⟩ := Mrg_pk hp9 hs9
    replace hB := (hk9.2.2.2.1).trans hB
    replace hn := (hk9.2.2.2.2.2.2.2.2.1).trans hn
    replace hk := kq_t hk hk9
    replace hG := TG_ex (a := 1) (k := 1) (by decide) hG
    replace hS21 : Ma 0 21 = S := by first | exact hS9.2.2.2.1 | exact hS9.2.2.2.1.trans hS21
    replace hc21 : Ma 0 0 21 = nI k := hS9.2.2.2.2.trans hc21
    refine ⟨_, hMr, ?_⟩
    clear hp9 hs9 hMr hk9 hS9
    refine r_aload_n E (dat dkX10_parseStatement 12 rfl) rfl rfl ?_
    refine r_aload_n E (dat dkX10_parseStatement 13 rfl) rfl rfl ?_
    refine q_getn E fl_X10_276 (dat dkX10_parseStatement 14 rfl) rfl rfl rfl (show (_ : Int32) = nI k from hc21) ?_
    refine r_bipush (v := 30) E (dat dkX10_parseStatement 15 rfl) rfl ?_
    refine q_icmp_ge (tgt := 34) E (dat dkX10_parseStatement 16 rfl) rfl rfl (b := 30) rfl (by omega) (by omega) (fun h27 => ?_) (fun h27 => ?_)
    ·
      omega
    ·
      refine r_iconst (v := 1) E (dat dkX10_parseStatement 17 rfl) rfl ?_
      refine r_goto (tgt := 35) E (dat dkX10_parseStatement 18 rfl) rfl ?_
      refine r_iconst (v := 4) E (dat dkX10_parseStatement 20 rfl) rfl ?_
      refine r_callV (κ := 9) (μ := []) E (px_ex l G bs n _ _ (1) (4) _ hB hn hA hT hG hn6) my_X10_expect iv_X10_expect ml_X10_194 cm_id ⟨by decide, rfl, rfl⟩ rfl rfl rfl rfl (by decide) (Nat.le_of_ble_eq_true rfl) (dat dkX10_parseStatement 21 rfl) ?_
      rintro _ M9 ⟨rfl, hp9, hs9⟩
      obtain ⟨Ma, hMr, hk9, hA, hT, hS9⟩ := Mrg_pk hp9 hs9
      replace hB := (hk9.2.2.2.1).trans hB
      replace hn := (hk9.2.2.2.2.2.2.2.2.1).trans hn
      replace hk := kq_t hk hk9
      replace hG := TG_ex (a := 1) (k := 4) (by decide) hG
      replace hS21 : Ma 0 21 = S := by first | exact hS9.2.2.2.1 | exact hS9.2.2.2.1.trans hS21
      replace hc21 : Ma 0 0 21 = nI k := hS9.2.2.2.2.trans hc21
      refine ⟨_, hMr, ?_⟩
      clear hp9 hs9 hMr hk9 hS9
      refine r_aload_n E (dat dkX10_parseStatement 22 rfl) rfl rfl ?_
      refine r_callV (κ := 9) (μ := []) E (px_adv l G bs n _ _  _ hB hn hA hT hG hn6) my_X10_advanceToken iv_X10_advanceToken ml_X10_189 cm_id ⟨by decide, rfl, rfl⟩ rfl rfl rfl rfl (by decide) (Nat.le_of_ble_eq_true rfl) (dat dkX10_parseStatement 23 rfl) ?_
      rintro _ M9 ⟨rfl, hp9, hs9⟩
      obtain ⟨Ma, hMr, hk9, hA, hT, hS9⟩ := Mrg_pk hp9 hs9
      replace hB := (hk9.2.2.2.1).trans hB
      replace hn := (hk9.2.2.2.2.2.2.2.2.1).trans hn
      replace hk := kq_t hk hk9
      replace hG := TG_ad (b := bs) hG
      replace hS21 : Ma 0 21 = S := by first | exact hS9.2.2.2.1 | exact hS9.2.2.2.1.trans hS21
      replace hc21 : Ma 0 0 21 = nI k := hS9.2.2.2.2.trans hc21
      obtain ⟨t2, ht2⟩ : ∃ z, z = mAd bs n (mEx 1 4 (mEx 1 1 t)) := ⟨_, rfl⟩
      rw [← ht2] at hT hG
      refine ⟨_, hMr, ?_⟩
      clear hp9 hs9 hMr hk9 hS9
      have hK2 : rK bs n t2 u := by
        rw [ht2, mEx_n (a := 1) (by decide), mEx_n (a := 1) (by decide)]
        exact rC_K hC
      refine r_aload_n E (dat dkX10_parseStatement 24 rfl) rfl rfl ?_
      refine q_getn E fl_X10_165 (dat dkX10_parseStatement 25 rfl) rfl rfl rfl (show (_ : Int32) = _ from hT.2.2.2.2.1) ?_
      refine r_if_le (tgt := 51) E (dat dkX10_parseStatement 26 rfl) rfl (fun h47 => ?_) (fun h47 => ?_)
      ·
        refine r_iconst (v := 4) E (dat dkX10_parseStatement 28 rfl) rfl ?_
        refine r_aload_n E (dat dkX10_parseStatement 29 rfl) rfl rfl ?_
        refine q_getn E fl_X10_276 (dat dkX10_parseStatement 30 rfl) rfl rfl rfl (show (_ : Int32) = nI k from hc21) ?_
        refine r_imul E (dat dkX10_parseStatement 31 rfl) ?_
        rw [show (4 : Int32) * nI k = nI (4 * k) from pk_mul 4 k]
        refine r_istore_2 E (dat dkX10_parseStatement 32 rfl) rfl rfl ?_
        refine r_aload_n E (dat dkX10_parseStatement 33 rfl) rfl rfl ?_
        refine q_geta E fl_X10_36 (dat dkX10_parseStatement 34 rfl) rfl rfl rfl ?_
        refine r_iload_n E (dat dkX10_parseStatement 35 rfl) rfl rfl ?_
        refine r_iload_n E (dat dkX10_parseStatement 36 rfl) rfl rfl ?_
        refine q_iast E (dat dkX10_parseStatement 37 rfl) rfl rfl (by decide) (show (_ : Nat → Int32) = _ from hS21) (fun _ => rfl) rfl (by omega) ?_
        refine r_iload_n E (dat dkX10_parseStatement 38 rfl) rfl rfl ?_
        refine r_tabIn (off := 201) (tgt := 267) E (dat dkX10_parseStatement 39 rfl) (by decide +kernel) (by decide +kernel) (by rfl) rfl ?_
        refine r_aload_n E (dat dkX10_parseStatement 138 rfl) rfl rfl ?_
        refine q_geta E fl_X10_36 (dat dkX10_parseStatement 139 rfl) rfl rfl rfl ?_
        refine r_iload_n E (dat dkX10_parseStatement 140 rfl) rfl rfl ?_
        refine r_iconst (v := 1) E (dat dkX10_parseStatement 141 rfl) rfl ?_
        refine r_iadd E (dat dkX10_parseStatement 142 rfl) ?_
        refine r_aload_n E (dat dkX10_parseStatement 143 rfl) rfl rfl ?_
        refine r_callV (κ := 9) (μ := []) E (sp_X10_parseCell l G bs n _ _ x.1.2.2 _ hB hn hA hT hG hn6 hz2) my_X10_parseCell iv_X10_parseCell ml_X10_201 cm_id ⟨by decide, rfl, rfl⟩ rfl rfl rfl rfl (by decide) (Nat.le_of_ble_eq_true rfl) (dat dkX10_parseStatement 144 rfl) ?_
        rintro _ M9 ⟨rfl, hp9, hs9⟩
        obtain ⟨Ma, hMr, hk9, hA, hT, hS9⟩ := Mrg_pk hp9 hs9
        replace hB := (hk9.2.2.2.1).trans hB
        replace hn := (hk9.2.2.2.2.2.2.2.2.1).trans hn
        replace hk := kq_t hk hk9
        replace hG := TG_cl (b := bs) (z := x.1.2.2) hG
        replace hS21 : Ma 0 21 = (upd S (4 * k) (4)) := by first | exact hS9.2.2.2.1 | exact hS9.2.2.2.1.trans hS21
        replace hc21 : Ma 0 0 21 = nI k := hS9.2.2.2.2.trans hc21
        refine ⟨_, hMr, ?_⟩
        clear hp9 hs9 hMr hk9 hS9
        refine q_iast E (dat dkX10_parseStatement 145 rfl) rfl rfl (by decide) (show (_ : Nat → Int32) = _ from hS21) (fun _ => rfl) (show nI (4 * k) + 1 = nI (4 * k + 1) from nI_1 _) (by omega) ?_
        refine r_aload_n E (dat dkX10_parseStatement 146 rfl) rfl rfl ?_
        refine r_callV (κ := 9) (μ := []) E (px_smc l G bs n _ _  _ hB hn hA hT hG hn6) my_X10_parseSemicolon iv_X10_parseSemicolon ml_X10_233 cm_id ⟨by decide, rfl, rfl⟩ rfl rfl rfl rfl (by decide) (Nat.le_of_ble_eq_true rfl) (dat dkX10_parseStatement 147 rfl) ?_
        rintro _ M9 ⟨rfl, hp9, hs9⟩
        obtain ⟨Ma, hMr, hk9, hA, hT, hS9⟩ := Mrg_pk hp9 hs9
        replace hB := (hk9.2.2.2.1).trans hB
        replace hn := (hk9.2.2.2.2.2.2.2.2.1).trans hn
        replace hk := kq_t hk hk9
        replace hG := TG_sm (b := bs) hG
        replace hS21 : Ma 0 21 = (upd (upd S (4 * k) (4)) (4 * k + 1) (mNv t2 0 (nI x.1.2.2 - 1))) := by first | exact hS9.2.2.2.1 | exact hS9.2.2.2.1.trans hS21
        replace hc21 : Ma 0 0 21 = nI k := hS9.2.2.2.2.trans hc21
        refine ⟨_, hMr, ?_⟩
        clear hp9 hs9 hMr hk9 hS9
        refine r_aload_n E (dat dkX10_parseStatement 148 rfl) rfl rfl ?_
        refine r_dup E (dat dkX10_parseStatement 149 rfl) rfl ?_
        refine q_getn E fl_X10_276 (dat dkX10_parseStatement 150 rfl) rfl rfl rfl (show (_ : Int32) = nI k from hc21) ?_
        refine r_iconst (v := 1) E (dat dkX10_parseStatement 151 rfl) rfl ?_
        refine r_iadd E (dat dkX10_parseStatement 152 rfl) ?_
        rw [show nI k + 1 = nI (k + 1) from nI_1 k]
        refine q_putn E ft_X10_276 (dat dkX10_parseStatement 153 rfl) rfl rfl rfl rfl ?_
        refine r_vreturn E (dat dkX10_parseStatement 154 rfl) (by decide) (by decide) ?_
        have ec : ch bs n x 4 t2 = ((mCl bs n x.1.2.2 t2), mNv t2 0 (nI x.1.2.2 - 1), 0, 0) := rfl
        refine ⟨rfl, _, hG, ⟨hk, hA, hT⟩, Or.inr (Or.inr ⟨4, t2, hv, hk30, hK2, ?_, rfl, _, hS21, ?_⟩)⟩
        · rw [ec]
        rw [ec]
        clear ec
        refine ⟨?_, ?_, ?_, ?_, ?_⟩
        · try dsimp only
          rw [upd_ne (by omega)]
          exact upd_at
        · try dsimp only
          exact upd_at
        · exact fun c => absurd c (by decide)
        · exact fun c => absurd c (by decide)
        · intro q hq
          rw [upd_ne (by omega), upd_ne (by omega)]
      ·
        exact absurd (show t2.2.2.2.2.1 ≤ 0 by rw [hK2.1]; decide) (by first | exact h47 | exact Int32.not_le.mpr h47)

set_option maxRecDepth 100000 in
set_option maxHeartbeats 4000000 in
theorem sp_st_v5 (l : Launch) (G : GT) (bs : Nat → Int32) (n : Nat) (A : Nat → Int32) (t : TT) (u : TT) (A0 : Nat → Int32) (x : PP) (T : Nat → Nat → Int32) (S : Nat → Int32) (k : Nat) (M : Mem) (hB : M 0 10 = bs) (hn : M 0 0 10 = nI n) (hA : M 0 1 = A) (hT : TI M t) (hG : TG n t) (hn6 : n ≤ 600) (hE : A = enc A0 x T) (hx : PIv x) (hC : rC n t u) (hS21 : M 0 21 = S) (hc21 : M 0 0 21 = nI k) (hk31 : k ≤ 30) (hv : vbF bs u = some 5) (hk30 : k < 30) : MC l G yX10_parseStatement cX10_parseStatement 3 none ({ frames := 6, cells := 0, slots := 0, locals := 127 } : Room) [9] lk0 [rv 0 0] (M) (fun r M2 => r = none ∧ ∃ t9, TG n t9 ∧ PK M M2 A t9 ∧ ((vbF bs u = none ∧ rX t9 (tFl 1 u)) ∨ (∃ v, vbF bs u = some v ∧ k = 30 ∧ rX t9 (tFl 4 u)) ∨ (∃ v t2, vbF bs u = some v ∧ k < 30 ∧ rK bs n t2 u ∧ t9 = mSm bs n (ch bs n x v t2).1 ∧ M2 0 0 21 = nI (k + 1) ∧ ∃ S2, M2 0 21 = S2 ∧ stC S2 S k v (ch bs n x v t2).2))) := by
  refine MC.of RX10 [some (rv 0 0), none, none] 2 (by decide +kernel) rfl rfl rfl ?_
  intro pp ee ss mm aa bb me cd ad E
  have hk : kq M M := kq_r
  have hz2 : A 2 * A 1 = nI x.1.2.2 := by rw [hE]; exact ce_x hx
  
  refine r_aload_n E (dat dkX10_parseStatement 0 rfl) rfl rfl ?_
  refine r_callV (κ := 9) (μ := []) E (sp_X10_statementKind l G bs n _ _ u _ hB hn hA hT hG hn6 hC) my_X10_statementKind iv_X10_statementKind ml_X10_273 cm_id ⟨by decide, rfl, rfl⟩ rfl rfl rfl rfl (by decide) (Nat.le_of_ble_eq_true rfl) (dat dkX10_parseStatement 1 rfl) ?_
  rintro _ M9 ⟨rfl, hM9⟩
  refine ⟨_, Mrg_z hM9, ?_⟩
  clear hM9
  rw [show oI (vbF bs u) = (5 : Int32) from by rw [hv]; rfl]
  refine r_istore_1 E (dat dkX10_parseStatement 2 rfl) rfl rfl ?_
  refine r_aload_n E (dat dkX10_parseStatement 3 rfl) rfl rfl ?_
  refine r_iload_n E (dat dkX10_parseStatement 4 rfl) rfl rfl ?_
  refine r_iconst (v := -1) E (dat dkX10_parseStatement 5 rfl) rfl ?_
  refine r_icmp_eq (tgt := 15) E (dat dkX10_parseStatement 6 rfl) rfl (fun h8 => ?_) (fun h8 => ?_)
  ·
    exact absurd h8 (by decide)
  ·
    refine r_iconst (v := 1) E (dat dkX10_parseStatement 7 rfl) rfl ?_
    refine r_goto (tgt := 16) E (dat dkX10_parseStatement 8 rfl) rfl ?_
    refine r_iconst (v := 1) E (dat dkX10_parseStatement 10 rfl) rfl ?_
    refine r_callV (κ := 9) (μ := []) E (px_ex l G bs n _ _ (1) (1) _ hB hn hA hT hG hn6) my_X10_expect iv_X10_expect ml_X10_194 cm_id ⟨by decide, rfl, rfl⟩ rfl rfl rfl rfl (by decide) (Nat.le_of_ble_eq_true rfl) (dat dkX10_parseStatement 11 rfl) ?_
    rintro _ M9 ⟨rfl, hp9, hs9⟩
    obtain ⟨Ma, hMr, hk9, hA, hT, hS9⟩ := Mrg_pk hp9 hs9
    replace hB := (hk9.2.2.2.1).trans hB
    replace hn := (hk9.2.2.2.2.2.2.2.2.1).trans hn
    replace hk := kq_t hk hk9
    replace hG := TG_ex (a := 1) (k := 1) (by decide) hG
    replace hS21 : Ma 0 21 = S := by first | exact hS9.2.2.2.1 | exact hS9.2.2.2.1.trans hS21
    replace hc21 : Ma 0 0 21 = nI k := hS9.2.2.2.2.trans hc21
    refine ⟨_, hMr, ?_⟩
    clear hp9 hs9 hMr hk9 hS9
    refine r_aload_n E (dat dkX10_parseStatement 12 rfl) rfl rfl ?_
    refine r_aload_n E (dat dkX10_parseStatement 13 rfl) rfl rfl ?_
    refine q_getn E fl_X10_276 (dat dkX10_parseStatement 14 rfl) rfl rfl rfl (show (_ : Int32) = nI k from hc21) ?_
    refine r_bipush (v := 30) E (dat dkX10_parseStatement 15 rfl) rfl ?_
    refine q_icmp_ge (tgt := 34) E (dat dkX10_parseStatement 16 rfl) rfl rfl (b := 30) rfl (by omega) (by omega) (fun h27 => ?_) (fun h27 => ?_)
    ·
      omega
    ·
      refine r_iconst (v := 1) E (dat dkX10_parseStatement 17 rfl) rfl ?_
      refine r_goto (tgt := 35) E (dat dkX10_parseStatement 18 rfl) rfl ?_
      refine r_iconst (v := 4) E (dat dkX10_parseStatement 20 rfl) rfl ?_
      refine r_callV (κ := 9) (μ := []) E (px_ex l G bs n _ _ (1) (4) _ hB hn hA hT hG hn6) my_X10_expect iv_X10_expect ml_X10_194 cm_id ⟨by decide, rfl, rfl⟩ rfl rfl rfl rfl (by decide) (Nat.le_of_ble_eq_true rfl) (dat dkX10_parseStatement 21 rfl) ?_
      rintro _ M9 ⟨rfl, hp9, hs9⟩
      obtain ⟨Ma, hMr, hk9, hA, hT, hS9⟩ := Mrg_pk hp9 hs9
      replace hB := (hk9.2.2.2.1).trans hB
      replace hn := (hk9.2.2.2.2.2.2.2.2.1).trans hn
      replace hk := kq_t hk hk9
      replace hG := TG_ex (a := 1) (k := 4) (by decide) hG
      replace hS21 : Ma 0 21 = S := by first | exact hS9.2.2.2.1 | exact hS9.2.2.2.1.trans hS21
      replace hc21 : Ma 0 0 21 = nI k := hS9.2.2.2.2.trans hc21
      refine ⟨_, hMr, ?_⟩
      clear hp9 hs9 hMr hk9 hS9
      refine r_aload_n E (dat dkX10_parseStatement 22 rfl) rfl rfl ?_
      refine r_callV (κ := 9) (μ := []) E (px_adv l G bs n _ _  _ hB hn hA hT hG hn6) my_X10_advanceToken iv_X10_advanceToken ml_X10_189 cm_id ⟨by decide, rfl, rfl⟩ rfl rfl rfl rfl (by decide) (Nat.le_of_ble_eq_true rfl) (dat dkX10_parseStatement 23 rfl) ?_
      rintro _ M9 ⟨rfl, hp9, hs9⟩
      obtain ⟨Ma, hMr, hk9, hA, hT, hS9⟩ := Mrg_pk hp9 hs9
      replace hB := (hk9.2.2.2.1).trans hB
      replace hn := (hk9.2.2.2.2.2.2.2.2.1).trans hn
      replace hk := kq_t hk hk9
      replace hG := TG_ad (b := bs) hG
      replace hS21 : Ma 0 21 = S := by first | exact hS9.2.2.2.1 | exact hS9.2.2.2.1.trans hS21
      replace hc21 : Ma 0 0 21 = nI k := hS9.2.2.2.2.trans hc21
      obtain ⟨t2, ht2⟩ : ∃ z, z = mAd bs n (mEx 1 4 (mEx 1 1 t)) := ⟨_, rfl⟩
      rw [← ht2] at hT hG
      refine ⟨_, hMr, ?_⟩
      clear hp9 hs9 hMr hk9 hS9
      have hK2 : rK bs n t2 u := by
        rw [ht2, mEx_n (a := 1) (by decide), mEx_n (a := 1) (by decide)]
        exact rC_K hC
      refine r_aload_n E (dat dkX10_parseStatement 24 rfl) rfl rfl ?_
      refine q_getn E fl_X10_165 (dat dkX10_parseStatement 25 rfl) rfl rfl rfl (show (_ : Int32) = _ from hT.2.2.2.2.1) ?_
      refine r_if_le (tgt := 51) E (dat dkX10_parseStatement 26 rfl) rfl (fun h47 => ?_) (fun h47 => ?_)
      ·
        refine r_iconst (v := 4) E (dat dkX10_parseStatement 28 rfl) rfl ?_
        refine r_aload_n E (dat dkX10_parseStatement 29 rfl) rfl rfl ?_
        refine q_getn E fl_X10_276 (dat dkX10_parseStatement 30 rfl) rfl rfl rfl (show (_ : Int32) = nI k from hc21) ?_
        refine r_imul E (dat dkX10_parseStatement 31 rfl) ?_
        rw [show (4 : Int32) * nI k = nI (4 * k) from pk_mul 4 k]
        refine r_istore_2 E (dat dkX10_parseStatement 32 rfl) rfl rfl ?_
        refine r_aload_n E (dat dkX10_parseStatement 33 rfl) rfl rfl ?_
        refine q_geta E fl_X10_36 (dat dkX10_parseStatement 34 rfl) rfl rfl rfl ?_
        refine r_iload_n E (dat dkX10_parseStatement 35 rfl) rfl rfl ?_
        refine r_iload_n E (dat dkX10_parseStatement 36 rfl) rfl rfl ?_
        refine q_iast E (dat dkX10_parseStatement 37 rfl) rfl rfl (by decide) (show (_ : Nat → Int32) = _ from hS21) (fun _ => rfl) rfl (by omega) ?_
        refine r_iload_n E (dat dkX10_parseStatement 38 rfl) rfl rfl ?_
        refine r_tabIn (off := 139) (tgt := 205) E (dat dkX10_parseStatement 39 rfl) (by decide +kernel) (by decide +kernel) (by rfl) rfl ?_
        refine r_aload_n E (dat dkX10_parseStatement 99 rfl) rfl rfl ?_
        refine q_geta E fl_X10_36 (dat dkX10_parseStatement 100 rfl) rfl rfl rfl ?_
        refine r_iload_n E (dat dkX10_parseStatement 101 rfl) rfl rfl ?_
        refine r_iconst (v := 1) E (dat dkX10_parseStatement 102 rfl) rfl ?_
        refine r_iadd E (dat dkX10_parseStatement 103 rfl) ?_
        refine r_aload_n E (dat dkX10_parseStatement 104 rfl) rfl rfl ?_
        refine r_callV (κ := 9) (μ := []) E (sp_X10_parseKnownBoots l G bs n _ _ A0 x T _ hB hn hA hT hG hn6 hE hx) my_X10_parseKnownBoots iv_X10_parseKnownBoots ml_X10_279 cm_id ⟨by decide, rfl, rfl⟩ rfl rfl rfl rfl (by decide) (Nat.le_of_ble_eq_true rfl) (dat dkX10_parseStatement 105 rfl) ?_
        rintro _ M9 ⟨rfl, hp9, hs9⟩
        obtain ⟨Ma, hMr, hk9, hA, hT, hS9, -⟩ := Mrg_pk3 T_X hp9 hs9 trivial
        replace hB := (hk9.2.2.2.1).trans hB
        replace hn := (hk9.2.2.2.2.2.2.2.2.1).trans hn
        replace hk := kq_t hk hk9
        replace hG := TG_kb (b := bs) (x := x) hG
        replace hS21 : Ma 0 21 = (upd S (4 * k) (5)) := by first | exact hS9.2.1 | exact hS9.2.1.trans hS21
        replace hc21 : Ma 0 0 21 = nI k := hS9.2.2.trans hc21
        refine ⟨_, hMr, ?_⟩
        clear hp9 hs9 hMr hk9 hS9
        refine q_iast E (dat dkX10_parseStatement 106 rfl) rfl rfl (by decide) (show (_ : Nat → Int32) = _ from hS21) (fun _ => rfl) (show nI (4 * k) + 1 = nI (4 * k + 1) from nI_1 _) (by omega) ?_
        refine r_aload_n E (dat dkX10_parseStatement 107 rfl) rfl rfl ?_
        refine q_geta E fl_X10_36 (dat dkX10_parseStatement 108 rfl) rfl rfl rfl ?_
        refine r_iload_n E (dat dkX10_parseStatement 109 rfl) rfl rfl ?_
        refine r_iconst (v := 2) E (dat dkX10_parseStatement 110 rfl) rfl ?_
        refine r_iadd E (dat dkX10_parseStatement 111 rfl) ?_
        refine r_aload_n E (dat dkX10_parseStatement 112 rfl) rfl rfl ?_
        refine r_iconst (v := 0) E (dat dkX10_parseStatement 113 rfl) rfl ?_
        refine r_iconst (v := 3) E (dat dkX10_parseStatement 114 rfl) rfl ?_
        refine r_callV (κ := 9) (μ := []) E (px_num l G bs n _ _ (0) (3) _ hB hn hA hT hG hn6) my_X10_parseNumber iv_X10_parseNumber ml_X10_198 cm_id ⟨by decide, rfl, rfl⟩ rfl rfl rfl rfl (by decide) (Nat.le_of_ble_eq_true rfl) (dat dkX10_parseStatement 115 rfl) ?_
        rintro _ M9 ⟨rfl, hp9, hs9⟩
        obtain ⟨Ma, hMr, hk9, hA, hT, hS9⟩ := Mrg_pk hp9 hs9
        replace hB := (hk9.2.2.2.1).trans hB
        replace hn := (hk9.2.2.2.2.2.2.2.2.1).trans hn
        replace hk := kq_t hk hk9
        replace hG := TG_ad (b := bs) (TG_ne (lo := 0) (hi := 3) hG)
        replace hS21 : Ma 0 21 = (upd (upd S (4 * k) (5)) (4 * k + 1) (imax 0 (kbO bs x t2))) := by first | exact hS9.2.2.2.1 | exact hS9.2.2.2.1.trans hS21
        replace hc21 : Ma 0 0 21 = nI k := hS9.2.2.2.2.trans hc21
        refine ⟨_, hMr, ?_⟩
        clear hp9 hs9 hMr hk9 hS9
        refine q_iast E (dat dkX10_parseStatement 116 rfl) rfl rfl (by decide) (show (_ : Nat → Int32) = _ from hS21) (fun _ => rfl) (show nI (4 * k) + 2 = nI (4 * k + 2) from nI_add _ 2) (by omega) ?_
        refine r_goto (tgt := 279) E (dat dkX10_parseStatement 117 rfl) rfl ?_
        refine r_aload_n E (dat dkX10_parseStatement 146 rfl) rfl rfl ?_
        refine r_callV (κ := 9) (μ := []) E (px_smc l G bs n _ _  _ hB hn hA hT hG hn6) my_X10_parseSemicolon iv_X10_parseSemicolon ml_X10_233 cm_id ⟨by decide, rfl, rfl⟩ rfl rfl rfl rfl (by decide) (Nat.le_of_ble_eq_true rfl) (dat dkX10_parseStatement 147 rfl) ?_
        rintro _ M9 ⟨rfl, hp9, hs9⟩
        obtain ⟨Ma, hMr, hk9, hA, hT, hS9⟩ := Mrg_pk hp9 hs9
        replace hB := (hk9.2.2.2.1).trans hB
        replace hn := (hk9.2.2.2.2.2.2.2.2.1).trans hn
        replace hk := kq_t hk hk9
        replace hG := TG_sm (b := bs) hG
        replace hS21 : Ma 0 21 = (upd (upd (upd S (4 * k) (5)) (4 * k + 1) (imax 0 (kbO bs x t2))) (4 * k + 2) (mNv (kbT bs n x t2) 0 3)) := by first | exact hS9.2.2.2.1 | exact hS9.2.2.2.1.trans hS21
        replace hc21 : Ma 0 0 21 = nI k := hS9.2.2.2.2.trans hc21
        refine ⟨_, hMr, ?_⟩
        clear hp9 hs9 hMr hk9 hS9
        refine r_aload_n E (dat dkX10_parseStatement 148 rfl) rfl rfl ?_
        refine r_dup E (dat dkX10_parseStatement 149 rfl) rfl ?_
        refine q_getn E fl_X10_276 (dat dkX10_parseStatement 150 rfl) rfl rfl rfl (show (_ : Int32) = nI k from hc21) ?_
        refine r_iconst (v := 1) E (dat dkX10_parseStatement 151 rfl) rfl ?_
        refine r_iadd E (dat dkX10_parseStatement 152 rfl) ?_
        rw [show nI k + 1 = nI (k + 1) from nI_1 k]
        refine q_putn E ft_X10_276 (dat dkX10_parseStatement 153 rfl) rfl rfl rfl rfl ?_
        refine r_vreturn E (dat dkX10_parseStatement 154 rfl) (by decide) (by decide) ?_
        have ec : ch bs n x 5 t2 = (mAd bs n (mNe (kbT bs n x t2) 0 3), imax 0 (kbO bs x t2), mNv (kbT bs n x t2) 0 3, 0) := rfl
        refine ⟨rfl, _, hG, ⟨hk, hA, hT⟩, Or.inr (Or.inr ⟨5, t2, hv, hk30, hK2, ?_, rfl, _, hS21, ?_⟩)⟩
        · rw [ec]
        rw [ec]
        clear ec
        refine ⟨?_, ?_, ?_, ?_, ?_⟩
        · try dsimp only
          rw [upd_ne (by omega), upd_ne (by omega)]
          exact upd_at
        · try dsimp only
          rw [upd_ne (by omega)]
          exact upd_at
        · intro _
          try dsimp only
          exact upd_at
        · exact fun c => absurd c (by decide)
        · intro q hq
          rw [upd_ne (by omega), upd_ne (by omega), upd_ne (by omega)]
      ·
        exact absurd (show t2.2.2.2.2.1 ≤ 0 by rw [hK2.1]; decide) (by first | exact h47 | exact Int32.not_le.mpr h47)

set_option maxRecDepth 100000 in
set_option maxHeartbeats 4000000 in
theorem sp_st_v6 (l : Launch) (G : GT) (bs : Nat → Int32) (n : Nat) (A : Nat → Int32) (t : TT) (u : TT) (A0 : Nat → Int32) (x : PP) (T : Nat → Nat → Int32) (S : Nat → Int32) (k : Nat) (M : Mem) (hB : M 0 10 = bs) (hn : M 0 0 10 = nI n) (hA : M 0 1 = A) (hT : TI M t) (hG : TG n t) (hn6 : n ≤ 600) (hE : A = enc A0 x T) (hx : PIv x) (hC : rC n t u) (hS21 : M 0 21 = S) (hc21 : M 0 0 21 = nI k) (hk31 : k ≤ 30) (hv : vbF bs u = some 6) (hk30 : k < 30) : MC l G yX10_parseStatement cX10_parseStatement 3 none ({ frames := 6, cells := 0, slots := 0, locals := 127 } : Room) [9] lk0 [rv 0 0] (M) (fun r M2 => r = none ∧ ∃ t9, TG n t9 ∧ PK M M2 A t9 ∧ ((vbF bs u = none ∧ rX t9 (tFl 1 u)) ∨ (∃ v, vbF bs u = some v ∧ k = 30 ∧ rX t9 (tFl 4 u)) ∨ (∃ v t2, vbF bs u = some v ∧ k < 30 ∧ rK bs n t2 u ∧ t9 = mSm bs n (ch bs n x v t2).1 ∧ M2 0 0 21 = nI (k + 1) ∧ ∃ S2, M2 0 21 = S2 ∧ stC S2 S k v (ch bs n x v t2).2))) := by
  refine MC.of RX10 [some (rv 0 0), none, none] 2 (by decide +kernel) rfl rfl rfl ?_
  intro pp ee ss mm aa bb me cd ad E
  have hk : kq M M := kq_r
  have hz2 : A 2 * A 1 = nI x.1.2.2 := by rw [hE]; exact ce_x hx
  
  refine r_aload_n E (dat dkX10_parseStatement 0 rfl) rfl rfl ?_
  refine r_callV (κ := 9) (μ := []) E (sp_X10_statementKind l G bs n _ _ u _ hB hn hA hT hG hn6 hC) my_X10_statementKind iv_X10_statementKind ml_X10_273 cm_id ⟨by decide, rfl, rfl⟩ rfl rfl rfl rfl (by decide) (Nat.le_of_ble_eq_true rfl) (dat dkX10_parseStatement 1 rfl) ?_
  rintro _ M9 ⟨rfl, hM9⟩
  refine ⟨_, Mrg_z hM9, ?_⟩
  clear hM9
  rw [show oI (vbF bs u) = (6 : Int32) from by rw [hv]; rfl]
  refine r_istore_1 E (dat dkX10_parseStatement 2 rfl) rfl rfl ?_
  refine r_aload_n E (dat dkX10_parseStatement 3 rfl) rfl rfl ?_
  refine r_iload_n E (dat dkX10_parseStatement 4 rfl) rfl rfl ?_
  refine r_iconst (v := -1) E (dat dkX10_parseStatement 5 rfl) rfl ?_
  refine r_icmp_eq (tgt := 15) E (dat dkX10_parseStatement 6 rfl) rfl (fun h8 => ?_) (fun h8 => ?_)
  ·
    exact absurd h8 (by decide)
  ·
    refine r_iconst (v := 1) E (dat dkX10_parseStatement 7 rfl) rfl ?_
    refine r_goto (tgt := 16) E (dat dkX10_parseStatement 8 rfl) rfl ?_
    refine r_iconst (v := 1) E (dat dkX10_parseStatement 10 rfl) rfl ?_
    refine r_callV (κ := 9) (μ := []) E (px_ex l G bs n _ _ (1) (1) _ hB hn hA hT hG hn6) my_X10_expect iv_X10_expect ml_X10_194 cm_id ⟨by decide, rfl, rfl⟩ rfl rfl rfl rfl (by decide) (Nat.le_of_ble_eq_true rfl) (dat dkX10_parseStatement 11 rfl) ?_
    rintro _ M9 ⟨rfl, hp9, hs9⟩
    obtain ⟨Ma, hMr, hk9, hA, hT, hS9⟩ := Mrg_pk hp9 hs9
    replace hB := (hk9.2.2.2.1).trans hB
    replace hn := (hk9.2.2.2.2.2.2.2.2.1).trans hn
    replace hk := kq_t hk hk9
    replace hG := TG_ex (a := 1) (k := 1) (by decide) hG
    replace hS21 : Ma 0 21 = S := by first | exact hS9.2.2.2.1 | exact hS9.2.2.2.1.trans hS21
    replace hc21 : Ma 0 0 21 = nI k := hS9.2.2.2.2.trans hc21
    refine ⟨_, hMr, ?_⟩
    clear hp9 hs9 hMr hk9 hS9
    refine r_aload_n E (dat dkX10_parseStatement 12 rfl) rfl rfl ?_
    refine r_aload_n E (dat dkX10_parseStatement 13 rfl) rfl rfl ?_
    refine q_getn E fl_X10_276 (dat dkX10_parseStatement 14 rfl) rfl rfl rfl (show (_ : Int32) = nI k from hc21) ?_
    refine r_bipush (v := 30) E (dat dkX10_parseStatement 15 rfl) rfl ?_
    refine q_icmp_ge (tgt := 34) E (dat dkX10_parseStatement 16 rfl) rfl rfl (b := 30) rfl (by omega) (by omega) (fun h27 => ?_) (fun h27 => ?_)
    ·
      omega
    ·
      refine r_iconst (v := 1) E (dat dkX10_parseStatement 17 rfl) rfl ?_
      refine r_goto (tgt := 35) E (dat dkX10_parseStatement 18 rfl) rfl ?_
      refine r_iconst (v := 4) E (dat dkX10_parseStatement 20 rfl) rfl ?_
      refine r_callV (κ := 9) (μ := []) E (px_ex l G bs n _ _ (1) (4) _ hB hn hA hT hG hn6) my_X10_expect iv_X10_expect ml_X10_194 cm_id ⟨by decide, rfl, rfl⟩ rfl rfl rfl rfl (by decide) (Nat.le_of_ble_eq_true rfl) (dat dkX10_parseStatement 21 rfl) ?_
      rintro _ M9 ⟨rfl, hp9, hs9⟩
      obtain ⟨Ma, hMr, hk9, hA, hT, hS9⟩ := Mrg_pk hp9 hs9
      replace hB := (hk9.2.2.2.1).trans hB
      replace hn := (hk9.2.2.2.2.2.2.2.2.1).trans hn
      replace hk := kq_t hk hk9
      replace hG := TG_ex (a := 1) (k := 4) (by decide) hG
      replace hS21 : Ma 0 21 = S := by first | exact hS9.2.2.2.1 | exact hS9.2.2.2.1.trans hS21
      replace hc21 : Ma 0 0 21 = nI k := hS9.2.2.2.2.trans hc21
      refine ⟨_, hMr, ?_⟩
      clear hp9 hs9 hMr hk9 hS9
      refine r_aload_n E (dat dkX10_parseStatement 22 rfl) rfl rfl ?_
      refine r_callV (κ := 9) (μ := []) E (px_adv l G bs n _ _  _ hB hn hA hT hG hn6) my_X10_advanceToken iv_X10_advanceToken ml_X10_189 cm_id ⟨by decide, rfl, rfl⟩ rfl rfl rfl rfl (by decide) (Nat.le_of_ble_eq_true rfl) (dat dkX10_parseStatement 23 rfl) ?_
      rintro _ M9 ⟨rfl, hp9, hs9⟩
      obtain ⟨Ma, hMr, hk9, hA, hT, hS9⟩ := Mrg_pk hp9 hs9
      replace hB := (hk9.2.2.2.1).trans hB
      replace hn := (hk9.2.2.2.2.2.2.2.2.1).trans hn
      replace hk := kq_t hk hk9
      replace hG := TG_ad (b := bs) hG
      replace hS21 : Ma 0 21 = S := by first | exact hS9.2.2.2.1 | exact hS9.2.2.2.1.trans hS21
      replace hc21 : Ma 0 0 21 = nI k := hS9.2.2.2.2.trans hc21
      obtain ⟨t2, ht2⟩ : ∃ z, z = mAd bs n (mEx 1 4 (mEx 1 1 t)) := ⟨_, rfl⟩
      rw [← ht2] at hT hG
      refine ⟨_, hMr, ?_⟩
      clear hp9 hs9 hMr hk9 hS9
      have hK2 : rK bs n t2 u := by
        rw [ht2, mEx_n (a := 1) (by decide), mEx_n (a := 1) (by decide)]
        exact rC_K hC
      refine r_aload_n E (dat dkX10_parseStatement 24 rfl) rfl rfl ?_
      refine q_getn E fl_X10_165 (dat dkX10_parseStatement 25 rfl) rfl rfl rfl (show (_ : Int32) = _ from hT.2.2.2.2.1) ?_
      refine r_if_le (tgt := 51) E (dat dkX10_parseStatement 26 rfl) rfl (fun h47 => ?_) (fun h47 => ?_)
      ·
        refine r_iconst (v := 4) E (dat dkX10_parseStatement 28 rfl) rfl ?_
        refine r_aload_n E (dat dkX10_parseStatement 29 rfl) rfl rfl ?_
        refine q_getn E fl_X10_276 (dat dkX10_parseStatement 30 rfl) rfl rfl rfl (show (_ : Int32) = nI k from hc21) ?_
        refine r_imul E (dat dkX10_parseStatement 31 rfl) ?_
        rw [show (4 : Int32) * nI k = nI (4 * k) from pk_mul 4 k]
        refine r_istore_2 E (dat dkX10_parseStatement 32 rfl) rfl rfl ?_
        refine r_aload_n E (dat dkX10_parseStatement 33 rfl) rfl rfl ?_
        refine q_geta E fl_X10_36 (dat dkX10_parseStatement 34 rfl) rfl rfl rfl ?_
        refine r_iload_n E (dat dkX10_parseStatement 35 rfl) rfl rfl ?_
        refine r_iload_n E (dat dkX10_parseStatement 36 rfl) rfl rfl ?_
        refine q_iast E (dat dkX10_parseStatement 37 rfl) rfl rfl (by decide) (show (_ : Nat → Int32) = _ from hS21) (fun _ => rfl) rfl (by omega) ?_
        refine r_iload_n E (dat dkX10_parseStatement 38 rfl) rfl rfl ?_
        refine r_tabIn (off := 168) (tgt := 234) E (dat dkX10_parseStatement 39 rfl) (by decide +kernel) (by decide +kernel) (by rfl) rfl ?_
        refine r_aload_n E (dat dkX10_parseStatement 118 rfl) rfl rfl ?_
        refine q_geta E fl_X10_36 (dat dkX10_parseStatement 119 rfl) rfl rfl rfl ?_
        refine r_iload_n E (dat dkX10_parseStatement 120 rfl) rfl rfl ?_
        refine r_iconst (v := 1) E (dat dkX10_parseStatement 121 rfl) rfl ?_
        refine r_iadd E (dat dkX10_parseStatement 122 rfl) ?_
        refine r_aload_n E (dat dkX10_parseStatement 123 rfl) rfl rfl ?_
        refine r_callV (κ := 9) (μ := []) E (sp_X10_parseKnownBoots l G bs n _ _ A0 x T _ hB hn hA hT hG hn6 hE hx) my_X10_parseKnownBoots iv_X10_parseKnownBoots ml_X10_279 cm_id ⟨by decide, rfl, rfl⟩ rfl rfl rfl rfl (by decide) (Nat.le_of_ble_eq_true rfl) (dat dkX10_parseStatement 124 rfl) ?_
        rintro _ M9 ⟨rfl, hp9, hs9⟩
        obtain ⟨Ma, hMr, hk9, hA, hT, hS9, -⟩ := Mrg_pk3 T_X hp9 hs9 trivial
        replace hB := (hk9.2.2.2.1).trans hB
        replace hn := (hk9.2.2.2.2.2.2.2.2.1).trans hn
        replace hk := kq_t hk hk9
        replace hG := TG_kb (b := bs) (x := x) hG
        replace hS21 : Ma 0 21 = (upd S (4 * k) (6)) := by first | exact hS9.2.1 | exact hS9.2.1.trans hS21
        replace hc21 : Ma 0 0 21 = nI k := hS9.2.2.trans hc21
        refine ⟨_, hMr, ?_⟩
        clear hp9 hs9 hMr hk9 hS9
        refine q_iast E (dat dkX10_parseStatement 125 rfl) rfl rfl (by decide) (show (_ : Nat → Int32) = _ from hS21) (fun _ => rfl) (show nI (4 * k) + 1 = nI (4 * k + 1) from nI_1 _) (by omega) ?_
        refine r_goto (tgt := 279) E (dat dkX10_parseStatement 126 rfl) rfl ?_
        refine r_aload_n E (dat dkX10_parseStatement 146 rfl) rfl rfl ?_
        refine r_callV (κ := 9) (μ := []) E (px_smc l G bs n _ _  _ hB hn hA hT hG hn6) my_X10_parseSemicolon iv_X10_parseSemicolon ml_X10_233 cm_id ⟨by decide, rfl, rfl⟩ rfl rfl rfl rfl (by decide) (Nat.le_of_ble_eq_true rfl) (dat dkX10_parseStatement 147 rfl) ?_
        rintro _ M9 ⟨rfl, hp9, hs9⟩
        obtain ⟨Ma, hMr, hk9, hA, hT, hS9⟩ := Mrg_pk hp9 hs9
        replace hB := (hk9.2.2.2.1).trans hB
        replace hn := (hk9.2.2.2.2.2.2.2.2.1).trans hn
        replace hk := kq_t hk hk9
        replace hG := TG_sm (b := bs) hG
        replace hS21 : Ma 0 21 = (upd (upd S (4 * k) (6)) (4 * k + 1) (imax 0 (kbO bs x t2))) := by first | exact hS9.2.2.2.1 | exact hS9.2.2.2.1.trans hS21
        replace hc21 : Ma 0 0 21 = nI k := hS9.2.2.2.2.trans hc21
        refine ⟨_, hMr, ?_⟩
        clear hp9 hs9 hMr hk9 hS9
        refine r_aload_n E (dat dkX10_parseStatement 148 rfl) rfl rfl ?_
        refine r_dup E (dat dkX10_parseStatement 149 rfl) rfl ?_
        refine q_getn E fl_X10_276 (dat dkX10_parseStatement 150 rfl) rfl rfl rfl (show (_ : Int32) = nI k from hc21) ?_
        refine r_iconst (v := 1) E (dat dkX10_parseStatement 151 rfl) rfl ?_
        refine r_iadd E (dat dkX10_parseStatement 152 rfl) ?_
        rw [show nI k + 1 = nI (k + 1) from nI_1 k]
        refine q_putn E ft_X10_276 (dat dkX10_parseStatement 153 rfl) rfl rfl rfl rfl ?_
        refine r_vreturn E (dat dkX10_parseStatement 154 rfl) (by decide) (by decide) ?_
        have ec : ch bs n x 6 t2 = ((kbT bs n x t2), imax 0 (kbO bs x t2), 0, 0) := rfl
        refine ⟨rfl, _, hG, ⟨hk, hA, hT⟩, Or.inr (Or.inr ⟨6, t2, hv, hk30, hK2, ?_, rfl, _, hS21, ?_⟩)⟩
        · rw [ec]
        rw [ec]
        clear ec
        refine ⟨?_, ?_, ?_, ?_, ?_⟩
        · try dsimp only
          rw [upd_ne (by omega)]
          exact upd_at
        · try dsimp only
          exact upd_at
        · exact fun c => absurd c (by decide)
        · exact fun c => absurd c (by decide)
        · intro q hq
          rw [upd_ne (by omega), upd_ne (by omega)]
      ·
        exact absurd (show t2.2.2.2.2.1 ≤ 0 by rw [hK2.1]; decide) (by first | exact h47 | exact Int32.not_le.mpr h47)

set_option maxRecDepth 100000 in
set_option maxHeartbeats 4000000 in
theorem sp_st_v7 (l : Launch) (G : GT) (bs : Nat → Int32) (n : Nat) (A : Nat → Int32) (t : TT) (u : TT) (A0 : Nat → Int32) (x : PP) (T : Nat → Nat → Int32) (S : Nat → Int32) (k : Nat) (M : Mem) (hB : M 0 10 = bs) (hn : M 0 0 10 = nI n) (hA : M 0 1 = A) (hT : TI M t) (hG : TG n t) (hn6 : n ≤ 600) (hE : A = enc A0 x T) (hx : PIv x) (hC : rC n t u) (hS21 : M 0 21 = S) (hc21 : M 0 0 21 = nI k) (hk31 : k ≤ 30) (hv : vbF bs u = some 7) (hk30 : k < 30) : MC l G yX10_parseStatement cX10_parseStatement 3 none ({ frames := 6, cells := 0, slots := 0, locals := 127 } : Room) [9] lk0 [rv 0 0] (M) (fun r M2 => r = none ∧ ∃ t9, TG n t9 ∧ PK M M2 A t9 ∧ ((vbF bs u = none ∧ rX t9 (tFl 1 u)) ∨ (∃ v, vbF bs u = some v ∧ k = 30 ∧ rX t9 (tFl 4 u)) ∨ (∃ v t2, vbF bs u = some v ∧ k < 30 ∧ rK bs n t2 u ∧ t9 = mSm bs n (ch bs n x v t2).1 ∧ M2 0 0 21 = nI (k + 1) ∧ ∃ S2, M2 0 21 = S2 ∧ stC S2 S k v (ch bs n x v t2).2))) := by
  refine MC.of RX10 [some (rv 0 0), none, none] 2 (by decide +kernel) rfl rfl rfl ?_
  intro pp ee ss mm aa bb me cd ad E
  have hk : kq M M := kq_r
  have hz2 : A 2 * A 1 = nI x.1.2.2 := by rw [hE]; exact ce_x hx
  
  refine r_aload_n E (dat dkX10_parseStatement 0 rfl) rfl rfl ?_
  refine r_callV (κ := 9) (μ := []) E (sp_X10_statementKind l G bs n _ _ u _ hB hn hA hT hG hn6 hC) my_X10_statementKind iv_X10_statementKind ml_X10_273 cm_id ⟨by decide, rfl, rfl⟩ rfl rfl rfl rfl (by decide) (Nat.le_of_ble_eq_true rfl) (dat dkX10_parseStatement 1 rfl) ?_
  rintro _ M9 ⟨rfl, hM9⟩
  refine ⟨_, Mrg_z hM9, ?_⟩
  clear hM9
  rw [show oI (vbF bs u) = (7 : Int32) from by rw [hv]; rfl]
  refine r_istore_1 E (dat dkX10_parseStatement 2 rfl) rfl rfl ?_
  refine r_aload_n E (dat dkX10_parseStatement 3 rfl) rfl rfl ?_
  refine r_iload_n E (dat dkX10_parseStatement 4 rfl) rfl rfl ?_
  refine r_iconst (v := -1) E (dat dkX10_parseStatement 5 rfl) rfl ?_
  refine r_icmp_eq (tgt := 15) E (dat dkX10_parseStatement 6 rfl) rfl (fun h8 => ?_) (fun h8 => ?_)
  ·
    exact absurd h8 (by decide)
  ·
    refine r_iconst (v := 1) E (dat dkX10_parseStatement 7 rfl) rfl ?_
    refine r_goto (tgt := 16) E (dat dkX10_parseStatement 8 rfl) rfl ?_
    refine r_iconst (v := 1) E (dat dkX10_parseStatement 10 rfl) rfl ?_
    refine r_callV (κ := 9) (μ := []) E (px_ex l G bs n _ _ (1) (1) _ hB hn hA hT hG hn6) my_X10_expect iv_X10_expect ml_X10_194 cm_id ⟨by decide, rfl, rfl⟩ rfl rfl rfl rfl (by decide) (Nat.le_of_ble_eq_true rfl) (dat dkX10_parseStatement 11 rfl) ?_
    rintro _ M9 ⟨rfl, hp9, hs9⟩
    obtain ⟨Ma, hMr, hk9, hA, hT, hS9⟩ := Mrg_pk hp9 hs9
    replace hB := (hk9.2.2.2.1).trans hB
    replace hn := (hk9.2.2.2.2.2.2.2.2.1).trans hn
    replace hk := kq_t hk hk9
    replace hG := TG_ex (a := 1) (k := 1) (by decide) hG
    replace hS21 : Ma 0 21 = S := by first | exact hS9.2.2.2.1 | exact hS9.2.2.2.1.trans hS21
    replace hc21 : Ma 0 0 21 = nI k := hS9.2.2.2.2.trans hc21
    refine ⟨_, hMr, ?_⟩
    clear hp9 hs9 hMr hk9 hS9
    refine r_aload_n E (dat dkX10_parseStatement 12 rfl) rfl rfl ?_
    refine r_aload_n E (dat dkX10_parseStatement 13 rfl) rfl rfl ?_
    refine q_getn E fl_X10_276 (dat dkX10_parseStatement 14 rfl) rfl rfl rfl (show (_ : Int32) = nI k from hc21) ?_
    refine r_bipush (v := 30) E (dat dkX10_parseStatement 15 rfl) rfl ?_
    refine q_icmp_ge (tgt := 34) E (dat dkX10_parseStatement 16 rfl) rfl rfl (b := 30) rfl (by omega) (by omega) (fun h27 => ?_) (fun h27 => ?_)
    ·
      omega
    ·
      refine r_iconst (v := 1) E (dat dkX10_parseStatement 17 rfl) rfl ?_
      refine r_goto (tgt := 35) E (dat dkX10_parseStatement 18 rfl) rfl ?_
      refine r_iconst (v := 4) E (dat dkX10_parseStatement 20 rfl) rfl ?_
      refine r_callV (κ := 9) (μ := []) E (px_ex l G bs n _ _ (1) (4) _ hB hn hA hT hG hn6) my_X10_expect iv_X10_expect ml_X10_194 cm_id ⟨by decide, rfl, rfl⟩ rfl rfl rfl rfl (by decide) (Nat.le_of_ble_eq_true rfl) (dat dkX10_parseStatement 21 rfl) ?_
      rintro _ M9 ⟨rfl, hp9, hs9⟩
      obtain ⟨Ma, hMr, hk9, hA, hT, hS9⟩ := Mrg_pk hp9 hs9
      replace hB := (hk9.2.2.2.1).trans hB
      replace hn := (hk9.2.2.2.2.2.2.2.2.1).trans hn
      replace hk := kq_t hk hk9
      replace hG := TG_ex (a := 1) (k := 4) (by decide) hG
      replace hS21 : Ma 0 21 = S := by first | exact hS9.2.2.2.1 | exact hS9.2.2.2.1.trans hS21
      replace hc21 : Ma 0 0 21 = nI k := hS9.2.2.2.2.trans hc21
      refine ⟨_, hMr, ?_⟩
      clear hp9 hs9 hMr hk9 hS9
      refine r_aload_n E (dat dkX10_parseStatement 22 rfl) rfl rfl ?_
      refine r_callV (κ := 9) (μ := []) E (px_adv l G bs n _ _  _ hB hn hA hT hG hn6) my_X10_advanceToken iv_X10_advanceToken ml_X10_189 cm_id ⟨by decide, rfl, rfl⟩ rfl rfl rfl rfl (by decide) (Nat.le_of_ble_eq_true rfl) (dat dkX10_parseStatement 23 rfl) ?_
      rintro _ M9 ⟨rfl, hp9, hs9⟩
      obtain ⟨Ma, hMr, hk9, hA, hT, hS9⟩ := Mrg_pk hp9 hs9
      replace hB := (hk9.2.2.2.1).trans hB
      replace hn := (hk9.2.2.2.2.2.2.2.2.1).trans hn
      replace hk := kq_t hk hk9
      replace hG := TG_ad (b := bs) hG
      replace hS21 : Ma 0 21 = S := by first | exact hS9.2.2.2.1 | exact hS9.2.2.2.1.trans hS21
      replace hc21 : Ma 0 0 21 = nI k := hS9.2.2.2.2.trans hc21
      obtain ⟨t2, ht2⟩ : ∃ z, z = mAd bs n (mEx 1 4 (mEx 1 1 t)) := ⟨_, rfl⟩
      rw [← ht2] at hT hG
      refine ⟨_, hMr, ?_⟩
      clear hp9 hs9 hMr hk9 hS9
      have hK2 : rK bs n t2 u := by
        rw [ht2, mEx_n (a := 1) (by decide), mEx_n (a := 1) (by decide)]
        exact rC_K hC
      refine r_aload_n E (dat dkX10_parseStatement 24 rfl) rfl rfl ?_
      refine q_getn E fl_X10_165 (dat dkX10_parseStatement 25 rfl) rfl rfl rfl (show (_ : Int32) = _ from hT.2.2.2.2.1) ?_
      refine r_if_le (tgt := 51) E (dat dkX10_parseStatement 26 rfl) rfl (fun h47 => ?_) (fun h47 => ?_)
      ·
        refine r_iconst (v := 4) E (dat dkX10_parseStatement 28 rfl) rfl ?_
        refine r_aload_n E (dat dkX10_parseStatement 29 rfl) rfl rfl ?_
        refine q_getn E fl_X10_276 (dat dkX10_parseStatement 30 rfl) rfl rfl rfl (show (_ : Int32) = nI k from hc21) ?_
        refine r_imul E (dat dkX10_parseStatement 31 rfl) ?_
        rw [show (4 : Int32) * nI k = nI (4 * k) from pk_mul 4 k]
        refine r_istore_2 E (dat dkX10_parseStatement 32 rfl) rfl rfl ?_
        refine r_aload_n E (dat dkX10_parseStatement 33 rfl) rfl rfl ?_
        refine q_geta E fl_X10_36 (dat dkX10_parseStatement 34 rfl) rfl rfl rfl ?_
        refine r_iload_n E (dat dkX10_parseStatement 35 rfl) rfl rfl ?_
        refine r_iload_n E (dat dkX10_parseStatement 36 rfl) rfl rfl ?_
        refine q_iast E (dat dkX10_parseStatement 37 rfl) rfl rfl (by decide) (show (_ : Nat → Int32) = _ from hS21) (fun _ => rfl) rfl (by omega) ?_
        refine r_iload_n E (dat dkX10_parseStatement 38 rfl) rfl rfl ?_
        refine r_tabIn (off := 183) (tgt := 249) E (dat dkX10_parseStatement 39 rfl) (by decide +kernel) (by decide +kernel) (by rfl) rfl ?_
        refine r_aload_n E (dat dkX10_parseStatement 127 rfl) rfl rfl ?_
        refine q_geta E fl_X10_36 (dat dkX10_parseStatement 128 rfl) rfl rfl rfl ?_
        refine r_iload_n E (dat dkX10_parseStatement 129 rfl) rfl rfl ?_
        refine r_iconst (v := 1) E (dat dkX10_parseStatement 130 rfl) rfl ?_
        refine r_iadd E (dat dkX10_parseStatement 131 rfl) ?_
        refine r_aload_n E (dat dkX10_parseStatement 132 rfl) rfl rfl ?_
        refine r_iconst (v := 1) E (dat dkX10_parseStatement 133 rfl) rfl ?_
        refine r_bipush (v := 60) E (dat dkX10_parseStatement 134 rfl) rfl ?_
        refine r_callV (κ := 9) (μ := []) E (px_num l G bs n _ _ (1) (60) _ hB hn hA hT hG hn6) my_X10_parseNumber iv_X10_parseNumber ml_X10_198 cm_id ⟨by decide, rfl, rfl⟩ rfl rfl rfl rfl (by decide) (Nat.le_of_ble_eq_true rfl) (dat dkX10_parseStatement 135 rfl) ?_
        rintro _ M9 ⟨rfl, hp9, hs9⟩
        obtain ⟨Ma, hMr, hk9, hA, hT, hS9⟩ := Mrg_pk hp9 hs9
        replace hB := (hk9.2.2.2.1).trans hB
        replace hn := (hk9.2.2.2.2.2.2.2.2.1).trans hn
        replace hk := kq_t hk hk9
        replace hG := TG_ad (b := bs) (TG_ne (lo := 1) (hi := 60) hG)
        replace hS21 : Ma 0 21 = (upd S (4 * k) (7)) := by first | exact hS9.2.2.2.1 | exact hS9.2.2.2.1.trans hS21
        replace hc21 : Ma 0 0 21 = nI k := hS9.2.2.2.2.trans hc21
        refine ⟨_, hMr, ?_⟩
        clear hp9 hs9 hMr hk9 hS9
        refine q_iast E (dat dkX10_parseStatement 136 rfl) rfl rfl (by decide) (show (_ : Nat → Int32) = _ from hS21) (fun _ => rfl) (show nI (4 * k) + 1 = nI (4 * k + 1) from nI_1 _) (by omega) ?_
        refine r_goto (tgt := 279) E (dat dkX10_parseStatement 137 rfl) rfl ?_
        refine r_aload_n E (dat dkX10_parseStatement 146 rfl) rfl rfl ?_
        refine r_callV (κ := 9) (μ := []) E (px_smc l G bs n _ _  _ hB hn hA hT hG hn6) my_X10_parseSemicolon iv_X10_parseSemicolon ml_X10_233 cm_id ⟨by decide, rfl, rfl⟩ rfl rfl rfl rfl (by decide) (Nat.le_of_ble_eq_true rfl) (dat dkX10_parseStatement 147 rfl) ?_
        rintro _ M9 ⟨rfl, hp9, hs9⟩
        obtain ⟨Ma, hMr, hk9, hA, hT, hS9⟩ := Mrg_pk hp9 hs9
        replace hB := (hk9.2.2.2.1).trans hB
        replace hn := (hk9.2.2.2.2.2.2.2.2.1).trans hn
        replace hk := kq_t hk hk9
        replace hG := TG_sm (b := bs) hG
        replace hS21 : Ma 0 21 = (upd (upd S (4 * k) (7)) (4 * k + 1) (mNv t2 1 60)) := by first | exact hS9.2.2.2.1 | exact hS9.2.2.2.1.trans hS21
        replace hc21 : Ma 0 0 21 = nI k := hS9.2.2.2.2.trans hc21
        refine ⟨_, hMr, ?_⟩
        clear hp9 hs9 hMr hk9 hS9
        refine r_aload_n E (dat dkX10_parseStatement 148 rfl) rfl rfl ?_
        refine r_dup E (dat dkX10_parseStatement 149 rfl) rfl ?_
        refine q_getn E fl_X10_276 (dat dkX10_parseStatement 150 rfl) rfl rfl rfl (show (_ : Int32) = nI k from hc21) ?_
        refine r_iconst (v := 1) E (dat dkX10_parseStatement 151 rfl) rfl ?_
        refine r_iadd E (dat dkX10_parseStatement 152 rfl) ?_
        rw [show nI k + 1 = nI (k + 1) from nI_1 k]
        refine q_putn E ft_X10_276 (dat dkX10_parseStatement 153 rfl) rfl rfl rfl rfl ?_
        refine r_vreturn E (dat dkX10_parseStatement 154 rfl) (by decide) (by decide) ?_
        have ec : ch bs n x 7 t2 = (mAd bs n (mNe t2 1 60), mNv t2 1 60, 0, 0) := rfl
        refine ⟨rfl, _, hG, ⟨hk, hA, hT⟩, Or.inr (Or.inr ⟨7, t2, hv, hk30, hK2, ?_, rfl, _, hS21, ?_⟩)⟩
        · rw [ec]
        rw [ec]
        clear ec
        refine ⟨?_, ?_, ?_, ?_, ?_⟩
        · try dsimp only
          rw [upd_ne (by omega)]
          exact upd_at
        · try dsimp only
          exact upd_at
        · exact fun c => absurd c (by decide)
        · exact fun c => absurd c (by decide)
        · intro q hq
          rw [upd_ne (by omega), upd_ne (by omega)]
      ·
        exact absurd (show t2.2.2.2.2.1 ≤ 0 by rw [hK2.1]; decide) (by first | exact h47 | exact Int32.not_le.mpr h47)

theorem sp_st (l : Launch) (G : GT) (bs : Nat → Int32) (n : Nat) (A : Nat → Int32) (t : TT) (u : TT) (A0 : Nat → Int32) (x : PP) (T : Nat → Nat → Int32) (S : Nat → Int32) (k : Nat) (M : Mem) (hB : M 0 10 = bs) (hn : M 0 0 10 = nI n) (hA : M 0 1 = A) (hT : TI M t) (hG : TG n t) (hn6 : n ≤ 600) (hE : A = enc A0 x T) (hx : PIv x) (hC : rC n t u) (hS21 : M 0 21 = S) (hc21 : M 0 0 21 = nI k) (hk31 : k ≤ 30) : MC l G yX10_parseStatement cX10_parseStatement 3 none ({ frames := 6, cells := 0, slots := 0, locals := 127 } : Room) [9] lk0 [rv 0 0] (M) (fun r M2 => r = none ∧ ∃ t9, TG n t9 ∧ PK M M2 A t9 ∧ ((vbF bs u = none ∧ rX t9 (tFl 1 u)) ∨ (∃ v, vbF bs u = some v ∧ k = 30 ∧ rX t9 (tFl 4 u)) ∨ (∃ v t2, vbF bs u = some v ∧ k < 30 ∧ rK bs n t2 u ∧ t9 = mSm bs n (ch bs n x v t2).1 ∧ M2 0 0 21 = nI (k + 1) ∧ ∃ S2, M2 0 21 = S2 ∧ stC S2 S k v (ch bs n x v t2).2))) := by
  have hc : vbF bs u = none ∨ ∃ v, vbF bs u = some v := by
    cases vbF bs u with
    | none => exact Or.inl rfl
    | some v => exact Or.inr ⟨v, rfl⟩
  rcases hc with hv | ⟨v, hv⟩
  · exact sp_st_no l G bs n A t u A0 x T S k M hB hn hA hT hG hn6 hE hx hC hS21 hc21 hk31 hv
  · have hv8 := vbF_lt hv
    by_cases h3 : k < 30
    · rcases (show v = 0 ∨ v = 1 ∨ v = 2 ∨ v = 3 ∨ v = 4 ∨ v = 5 ∨ v = 6 ∨ v = 7 by omega) with rfl | rfl | rfl | rfl | rfl | rfl | rfl | rfl
      · exact sp_st_v0 l G bs n A t u A0 x T S k M hB hn hA hT hG hn6 hE hx hC hS21 hc21 hk31 hv h3
      · exact sp_st_v1 l G bs n A t u A0 x T S k M hB hn hA hT hG hn6 hE hx hC hS21 hc21 hk31 hv h3
      · exact sp_st_v2 l G bs n A t u A0 x T S k M hB hn hA hT hG hn6 hE hx hC hS21 hc21 hk31 hv h3
      · exact sp_st_v3 l G bs n A t u A0 x T S k M hB hn hA hT hG hn6 hE hx hC hS21 hc21 hk31 hv h3
      · exact sp_st_v4 l G bs n A t u A0 x T S k M hB hn hA hT hG hn6 hE hx hC hS21 hc21 hk31 hv h3
      · exact sp_st_v5 l G bs n A t u A0 x T S k M hB hn hA hT hG hn6 hE hx hC hS21 hc21 hk31 hv h3
      · exact sp_st_v6 l G bs n A t u A0 x T S k M hB hn hA hT hG hn6 hE hx hC hS21 hc21 hk31 hv h3
      · exact sp_st_v7 l G bs n A t u A0 x T S k M hB hn hA hT hG hn6 hE hx hC hS21 hc21 hk31 hv h3
    · exact sp_st_30 l G bs n A t u A0 x T S k v M hB hn hA hT hG hn6 hE hx hC hS21 hc21 hk31 hv8 hv h3
/-- one statement: the class's next step -/
theorem st_step {b : Nat → Int32} {n : Nat} {x : PP} {u t9 : TT} {S S1 : Nat → Int32} {k : Nat} {M2 : Mem} (hx : PIv x) (hn : n ≤ 600) (hu : ¬ u.2.1 = 0) (hk : k ≤ 30) (h21 : M2 0 21 = S1)
    (h : (vbF b u = none ∧ rX t9 (tFl 1 u)) ∨ (∃ v, vbF b u = some v ∧ k = 30 ∧ rX t9 (tFl 4 u)) ∨ (∃ v t2, vbF b u = some v ∧ k < 30 ∧ rK b n t2 u ∧ t9 = mSm b n (ch b n x v t2).1 ∧ M2 0 0 21 = nI (k + 1) ∧ ∃ S2, M2 0 21 = S2 ∧ stC S2 S k v (ch b n x v t2).2)) (vb : Nat → Int32) (g : CF) :
    (∃ uf s, rX t9 uf ∧ rSl b n x (31 - k) u (k, vb, g) = ((0, uf), s)) ∨ (∃ u2 v g2, k < 30 ∧ v < 8 ∧ rK b n t9 u2 ∧ rSl b n x (31 - (k + 1)) (tNx b n u2) (k + 1, upd vb k (nI v), g2) = rSl b n x (31 - k) u (k, vb, g) ∧ agr k g g2 ∧ M2 0 0 21 = nI (k + 1) ∧ stC S1 S k v (g2.1 k, g2.2.1 k, g2.2.2 k)) := by
  rcases h with ⟨h1, h2⟩ | ⟨v, h1, h2, h3⟩ | ⟨v, t2, h1, h2, h3, h4, h5, S2, h6, h7⟩
  · exact Or.inl ⟨_, _, h2, rSl_no hk hu h1⟩
  · exact Or.inl ⟨_, _, h3, rSl_30 h2 hu h1⟩
  · obtain ⟨c1, c2⟩ := ch_ok (ct := k) (f := g) hx hn h3 v
    by_cases hN : (rNx b n x k v u g).1.1 = 0
    · have hx1 := rN_x c1 hN
      rw [h4, mSm_x hx1.1]
      exact Or.inl ⟨_, _, hx1, rSl_n0 h2 hu h1 hN⟩
    · have hK := rN_k c1 hN
      obtain ⟨s1, s2⟩ := rK_s hK
      by_cases hS : (tSm b n (rNx b n x k v u g).1.2).1 = 0
      · rw [h4]
        exact Or.inl ⟨_, _, s2 hS, rSl_s0 h2 hu h1 hN hS⟩
      · obtain ⟨e1, e2, e3⟩ := c2 hN
        have e21 : S1 = S2 := h21.symm.trans h6
        subst e21
        obtain ⟨p1, p2, p3, p4, p5⟩ := h7
        exact Or.inr ⟨_, v, (rNx b n x k v u g).2, h2, vbF_lt h1, by rw [h4]; exact s1 hS, rSl_go h2 hu h1 hN hS, rNum_a v, h5, p1, p2.trans e1, fun q => (p3 q).trans (e2 q), fun q => (p4 q).trans (e3 q), p5⟩