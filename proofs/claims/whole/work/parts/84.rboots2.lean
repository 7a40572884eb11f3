/-! the reference's parser: boots -/
theorem aNm_6 {t : TT} (h : ¬ aNm t = 0) : t.2.1 = 1 ∧ t.1 - sTn t ≤ 6 := by
  unfold aNm at h
  by_cases q : t.2.1 = 1 ∧ t.1 - sTn t ≤ 6
  · exact q
  · rw [if_neg q] at h; exact absurd rfl h
/-- what the boots' record shows if there is no fault -/
theorem bt_z {b : Nat → Int32} {n z : Nat} {q : Int32} {t3 t5 t7 : TT} (h5 : t5 = mAd b n (mEx q 3 t3)) (h7 : t7 = mNe (mCl b n z t5) 1 9) (h : t7.2.2.2.2.1 = 0) : t3.2.2.2.2.1 = 0 ∧ ¬ q = 0 ∧ t5.2.2.2.2.1 = 0 := by
  rw [h7] at h
  have h1 := (mNe_i h).1
  unfold mCl at h1
  have h2 := (mNe_i (mAd_z h1)).1
  have h2c := h2
  rw [h5] at h2
  obtain ⟨h3, _, h4⟩ := mEx_z (by decide) (mAd_z h2)
  exact ⟨h3, h4, h2c⟩
theorem bt_y {b : Nat → Int32} {n : Nat} {a : Int32} {t t2 t3 : TT} (h2 : t2 = mAd b n (mEx a 4 t)) (h3 : t3 = mEx (aNm t2) 1 t2) (h : t3.2.2.2.2.1 = 0) : t3 = t2 ∧ ¬ aNm t2 = 0 ∧ ¬ a = 0 := by
  rw [h3] at h
  obtain ⟨h5, h6, h7⟩ := mEx_z (by decide) h
  rw [h2] at h5
  obtain ⟨_, _, h8⟩ := mEx_z (by decide) (mAd_z h5)
  exact ⟨h3.trans h6, h7, h8⟩
/-- boots as the reference reads them -/
def btP (b : Nat → Int32) (n : Nat) (x : PP) (t : TT) (A : Nat → Int32) (t8 : TT) (A2 : Nat → Int32) : Prop := ∃ t2 t3 t5 t7 q, t2 = mAd b n (mEx (if x.2.2.2.2.1 < 4 then 1 else 0) 4 t) ∧ t3 = mEx (aNm t2) 1 t2 ∧ q = (if 0 < t3.2.2.2.2.1 then 1 else if kNw b (sTn t2) (t2.1 - sTn t2) x = -1 then 1 else (0 : Int32)) ∧ t5 = mAd b n (mEx q 3 t3) ∧ t7 = mNe (mCl b n x.1.2.2 t5) 1 9 ∧ t8 = mAd b n t7 ∧ A2 = if t7.2.2.2.2.1 = 0 then abF A x.2.2.2.2.1 (t2.1 - sTn t2) (fun i => b (sTn t2 + i)) (mNv t5 0 (nI x.1.2.2 - 1)) (mNv (mCl b n x.1.2.2 t5) 1 9) else A
set_option maxRecDepth 100000 in
set_option maxHeartbeats 4000000 in
theorem sp_X10_parseBoots (l : Launch) (G : GT) (bs : Nat → Int32) (n : Nat) (A : Nat → Int32) (t : TT) (A0 : Nat → Int32) (x : PP) (M : Mem) (hB : M 0 10 = bs) (hn : M 0 0 10 = nI n) (hA : M 0 1 = A) (hT : TI M t) (hG : TG n t) (hn6 : n ≤ 600) (hE : A = pE A0 x) (hx : PIv x) : MC l G yX10_parseBoots cX10_parseBoots 3 none ({ frames := 5, cells := 0, slots := 0, locals := 109 } : Room) [9] lk0 [rv 0 0] (M) (fun r M2 => r = none ∧ (∃ t8 A2, btP bs n x t A t8 A2 ∧ TG n t8 ∧ PK M M2 A2 t8) ∧ PS3 M M2) := by
  refine MC.of RX10 [some (rv 0 0), none, none] 2 (by decide +kernel) rfl rfl rfl ?_
  intro pp ee ss mm aa bb me cd ad E
  have hk : kq M M := kq_r
  have hS : PS3 M M := PS3_r
  have hz2 : A 2 * A 1 = nI x.1.2.2 := by rw [hE]; exact ce_x hx
  have hA4 : A 4 = nI x.2.2.2.2.1 := by rw [hE]; rfl
  have hb4 := hx.2.2.2.2.1
  
  by_cases hk4 : x.2.2.2.2.1 < 4
  ·
    refine r_aload_n E (dat dkX10_parseBoots 0 rfl) rfl rfl ?_
    refine r_aload_n E (dat dkX10_parseBoots 1 rfl) rfl rfl ?_
    refine q_geta E fl_X10_9 (dat dkX10_parseBoots 2 rfl) rfl rfl rfl ?_
    refine r_iconst (v := 4) E (dat dkX10_parseBoots 3 rfl) rfl ?_
    refine q_iald E (dat dkX10_parseBoots 4 rfl) rfl rfl (by decide) (show (_ : Nat → Int32) = _ from hA) (show _ = nI 4 from rfl) (by omega) ?_
    rw [hA4]
    refine r_iconst (v := 4) E (dat dkX10_parseBoots 5 rfl) rfl ?_
    refine q_icmp_ge (tgt := 15) E (dat dkX10_parseBoots 6 rfl) rfl rfl (b := 4) rfl (by omega) (by omega) (fun h8 => ?_) (fun h8 => ?_)
    ·
      omega
    ·
      refine r_iconst (v := 1) E (dat dkX10_parseBoots 7 rfl) rfl ?_
      refine r_goto (tgt := 16) E (dat dkX10_parseBoots 8 rfl) rfl ?_
      refine r_iconst (v := 4) E (dat dkX10_parseBoots 10 rfl) rfl ?_
      refine r_callV (κ := 9) (μ := []) E (px_ex l G bs n _ _ (1) (4) _ hB hn hA hT hG hn6) my_X10_expect iv_X10_expect ml_X10_194 cm_id ⟨by decide, rfl, rfl⟩ rfl rfl rfl rfl (by decide) (Nat.le_of_ble_eq_true rfl) (dat dkX10_parseBoots 11 rfl) ?_
      rintro _ M9 ⟨rfl, hp9, hs9⟩
      obtain ⟨Ma, hMr, hk9, hA, hT, hS9⟩ := Mrg_pk hp9 hs9
      replace hB := (hk9.2.2.2.1).trans hB
      replace hn := (hk9.2.2.2.2.2.2.2.2.1).trans hn
      replace hk := kq_t hk hk9
      replace hS := PS3_t hS (PS_3 hS9)
      replace hG := TG_ex (a := 1) (k := 4) (by decide) hG
      refine ⟨_, hMr, ?_⟩
      clear hp9 hs9 hMr hk9 hS9
      refine r_aload_n E (dat dkX10_parseBoots 12 rfl) rfl rfl ?_
      refine r_callV (κ := 9) (μ := []) E (px_adv l G bs n _ _  _ hB hn hA hT hG hn6) my_X10_advanceToken iv_X10_advanceToken ml_X10_189 cm_id ⟨by decide, rfl, rfl⟩ rfl rfl rfl rfl (by decide) (Nat.le_of_ble_eq_true rfl) (dat dkX10_parseBoots 13 rfl) ?_
      rintro _ M9 ⟨rfl, hp9, hs9⟩
      obtain ⟨Ma, hMr, hk9, hA, hT, hS9⟩ := Mrg_pk hp9 hs9
      replace hB := (hk9.2.2.2.1).trans hB
      replace hn := (hk9.2.2.2.2.2.2.2.2.1).trans hn
      replace hk := kq_t hk hk9
      replace hS := PS3_t hS (PS_3 hS9)
      replace hG := TG_ad (b := bs) hG
      obtain ⟨t2, ht2⟩ : ∃ z, z = mAd bs n (mEx 1 4 t) := ⟨_, rfl⟩
      rw [← ht2] at hT hG
      refine ⟨_, hMr, ?_⟩
      clear hp9 hs9 hMr hk9 hS9
      refine r_aload_n E (dat dkX10_parseBoots 14 rfl) rfl rfl ?_
      refine r_callV (κ := 9) (μ := []) E (sp_X10_spellName l G bs n _ _ (sTn t2) _ hB hn hA hT hG hn6 (TG_st hG hn6).1 (TG_st hG hn6).2) my_X10_spellName iv_X10_spellName ml_X10_204 cm_id ⟨by decide, rfl, rfl⟩ rfl rfl rfl rfl (by decide) (Nat.le_of_ble_eq_true rfl) (dat dkX10_parseBoots 15 rfl) ?_
      rintro _ M9 ⟨rfl, hp9, hs9, hx9⟩
      obtain ⟨Ma, hMr, hk9, hA, hT, hS9, hX⟩ := Mrg_pk3 sPl_X hp9 hs9 hx9
      replace hB := (hk9.2.2.2.1).trans hB
      replace hn := (hk9.2.2.2.2.2.2.2.2.1).trans hn
      replace hk := kq_t hk hk9
      replace hS := PS3_t hS hS9
      replace hG := TG_ex (a := aNm t2) (k := 1) (by decide) hG
      obtain ⟨sp, hsp⟩ : ∃ sp, Ma 0 8 = sp := ⟨_, rfl⟩
      obtain ⟨t3, ht3⟩ : ∃ z, z = mEx (aNm t2) 1 t2 := ⟨_, rfl⟩
      rw [← ht3] at hG
      replace hT : TI Ma t3 := by rw [ht3]; exact hT
      replace hX : t3.2.2.2.2.1 = 0 → sPl Ma bs (sTn t2) (t2.1 - sTn t2) := by rw [ht3]; exact hX
      refine ⟨_, hMr, ?_⟩
      clear hp9 hs9 hMr hk9 hS9 hx9
      refine r_aload_n E (dat dkX10_parseBoots 16 rfl) rfl rfl ?_
      refine r_aload_n E (dat dkX10_parseBoots 17 rfl) rfl rfl ?_
      refine q_getn E fl_X10_165 (dat dkX10_parseBoots 18 rfl) rfl rfl rfl (show (_ : Int32) = _ from hT.2.2.2.2.1) ?_
      by_cases h33z : t3.2.2.2.2.1 = 0
      ·
        have hw7 := (aNm_6 (bt_y ht2 ht3 h33z).2.1).2
        refine r_if_gt (tgt := 44) E (dat dkX10_parseBoots 19 rfl) rfl (fun h33 => ?_) (fun h33 => ?_)
        ·
          (rw [h33z] at h33; exact absurd h33 (by decide))
        ·
          refine r_aload_n E (dat dkX10_parseBoots 20 rfl) rfl rfl ?_
          refine r_callV (κ := 9) (μ := []) E (sp_X10_spelledBoots l G A0 x (stT x zT) (t2.1 - sTn t2) sp _ (hA.trans hE) hx (hX h33z).1 hw7 hsp) my_X10_spelledBoots iv_X10_spelledBoots ml_X10_207 cm_id ⟨by decide, rfl, rfl⟩ rfl rfl rfl rfl (by decide) (Nat.le_of_ble_eq_true rfl) (dat dkX10_parseBoots 21 rfl) ?_
          rintro _ _ ⟨rfl, rfl⟩
          refine ⟨_, Mrg_z rfl, ?_⟩
          rw [kNw_of (b := bs) (s := sTn t2) (fun i hi => (congrFun hsp i).symm.trans ((hX h33z).2 i hi))]
          refine r_iconst (v := -1) E (dat dkX10_parseBoots 22 rfl) rfl ?_
          by_cases hkn : kNw bs (sTn t2) (t2.1 - sTn t2) x = -1
          ·
            refine r_icmp_ne (tgt := 48) E (dat dkX10_parseBoots 23 rfl) rfl (fun h41 => ?_) (fun h41 => ?_)
            ·
              exact absurd hkn h41
            ·
              refine r_iconst (v := 1) E (dat dkX10_parseBoots 24 rfl) rfl ?_
              refine r_goto (tgt := 49) E (dat dkX10_parseBoots 25 rfl) rfl ?_
              refine r_iconst (v := 3) E (dat dkX10_parseBoots 27 rfl) rfl ?_
              refine r_callV (κ := 9) (μ := []) E (px_ex l G bs n _ _ (1) (3) _ hB hn hA hT hG hn6) my_X10_expect iv_X10_expect ml_X10_194 cm_id ⟨by decide, rfl, rfl⟩ rfl rfl rfl rfl (by decide) (Nat.le_of_ble_eq_true rfl) (dat dkX10_parseBoots 28 rfl) ?_
              rintro _ M9 ⟨rfl, hp9, hs9⟩
              obtain ⟨Ma, hMr, hk9, hA, hT, hS9⟩ := Mrg_pk hp9 hs9
              replace hB := (hk9.2.2.2.1).trans hB
              replace hn := (hk9.2.2.2.2.2.2.2.2.1).trans hn
              replace hk := kq_t hk hk9
              replace hS := PS3_t hS (PS_3 hS9)
              replace hG := TG_ex (a := 1) (k := 3) (by decide) hG
              replace hX := fun q => (show sPl Ma _ _ _ from ⟨hS9.2.1.trans (hX q).1, fun i hi => (congrFun hS9.1 i).trans ((hX q).2 i hi)⟩)
              replace hsp := hS9.1.trans hsp
              refine ⟨_, hMr, ?_⟩
              clear hp9 hs9 hMr hk9 hS9
              refine r_aload_n E (dat dkX10_parseBoots 29 rfl) rfl rfl ?_
              refine r_callV (κ := 9) (μ := []) E (px_adv l G bs n _ _  _ hB hn hA hT hG hn6) my_X10_advanceToken iv_X10_advanceToken ml_X10_189 cm_id ⟨by decide, rfl, rfl⟩ rfl rfl rfl rfl (by decide) (Nat.le_of_ble_eq_true rfl) (dat dkX10_parseBoots 30 rfl) ?_
              rintro _ M9 ⟨rfl, hp9, hs9⟩
              obtain ⟨Ma, hMr, hk9, hA, hT, hS9⟩ := Mrg_pk hp9 hs9
              replace hB := (hk9.2.2.2.1).trans hB
              replace hn := (hk9.2.2.2.2.2.2.2.2.1).trans hn
              replace hk := kq_t hk hk9
              replace hS := PS3_t hS (PS_3 hS9)
              replace hG := TG_ad (b := bs) hG
              replace hX := fun q => (show sPl Ma _ _ _ from ⟨hS9.2.1.trans (hX q).1, fun i hi => (congrFun hS9.1 i).trans ((hX q).2 i hi)⟩)
              replace hsp := hS9.1.trans hsp
              obtain ⟨t5, ht5⟩ : ∃ z, z = mAd bs n (mEx 1 3 t3) := ⟨_, rfl⟩
              rw [← ht5] at hT hG
              refine ⟨_, hMr, ?_⟩
              clear hp9 hs9 hMr hk9 hS9
              refine r_aload_n E (dat dkX10_parseBoots 31 rfl) rfl rfl ?_
              refine r_callV (κ := 9) (μ := []) E (sp_X10_parseCell l G bs n _ _ x.1.2.2 _ hB hn hA hT hG hn6 hz2) my_X10_parseCell iv_X10_parseCell ml_X10_201 cm_id ⟨by decide, rfl, rfl⟩ rfl rfl rfl rfl (by decide) (Nat.le_of_ble_eq_true rfl) (dat dkX10_parseBoots 32 rfl) ?_
              rintro _ M9 ⟨rfl, hp9, hs9⟩
              obtain ⟨Ma, hMr, hk9, hA, hT, hS9⟩ := Mrg_pk hp9 hs9
              replace hB := (hk9.2.2.2.1).trans hB
              replace hn := (hk9.2.2.2.2.2.2.2.2.1).trans hn
              replace hk := kq_t hk hk9
              replace hS := PS3_t hS (PS_3 hS9)
              replace hG := TG_cl (b := bs) (z := x.1.2.2) hG
              replace hX := fun q => (show sPl Ma _ _ _ from ⟨hS9.2.1.trans (hX q).1, fun i hi => (congrFun hS9.1 i).trans ((hX q).2 i hi)⟩)
              replace hsp := hS9.1.trans hsp
              refine ⟨_, hMr, ?_⟩
              clear hp9 hs9 hMr hk9 hS9
              refine r_istore_1 E (dat dkX10_parseBoots 33 rfl) rfl rfl ?_
              refine r_aload_n E (dat dkX10_parseBoots 34 rfl) rfl rfl ?_
              refine r_iconst (v := 1) E (dat dkX10_parseBoots 35 rfl) rfl ?_
              refine r_bipush (v := 9) E (dat dkX10_parseBoots 36 rfl) rfl ?_
              refine r_callV (κ := 9) (μ := []) E (px_num l G bs n _ _ (1) (9) _ hB hn hA hT hG hn6) my_X10_parseNumber iv_X10_parseNumber ml_X10_198 cm_id ⟨by decide, rfl, rfl⟩ rfl rfl rfl rfl (by decide) (Nat.le_of_ble_eq_true rfl) (dat dkX10_parseBoots 37 rfl) ?_
              rintro _ M9 ⟨rfl, hp9, hs9⟩
              obtain ⟨Ma, hMr, hk9, hA, hT, hS9⟩ := Mrg_pk hp9 hs9
              replace hB := (hk9.2.2.2.1).trans hB
              replace hn := (hk9.2.2.2.2.2.2.2.2.1).trans hn
              replace hk := kq_t hk hk9
              replace hS := PS3_t hS (PS_3 hS9)
              replace hG := TG_ad (b := bs) (TG_ne (lo := 1) (hi := 9) hG)
              replace hX := fun q => (show sPl Ma _ _ _ from ⟨hS9.2.1.trans (hX q).1, fun i hi => (congrFun hS9.1 i).trans ((hX q).2 i hi)⟩)
              replace hsp := hS9.1.trans hsp
              refine ⟨_, hMr, ?_⟩
              clear hp9 hs9 hMr hk9 hS9
              obtain ⟨t7, ht7⟩ : ∃ z, z = mNe (mCl bs n x.1.2.2 t5) 1 9 := ⟨_, rfl⟩
              rw [← ht7] at hT hG
              have hf := mAd_f (b := bs) (n := n) (t := t7)
              refine r_istore_2 E (dat dkX10_parseBoots 38 rfl) rfl rfl ?_
              refine r_aload_n E (dat dkX10_parseBoots 39 rfl) rfl rfl ?_
              refine q_getn E fl_X10_165 (dat dkX10_parseBoots 40 rfl) rfl rfl rfl (show (_ : Int32) = _ from hT.2.2.2.2.1) ?_
              refine r_if_ne (tgt := 83) E (dat dkX10_parseBoots 41 rfl) rfl (fun h74 => ?_) (fun h74 => ?_)
              ·
                refine r_vreturn E (dat dkX10_parseBoots 46 rfl) (by decide) (by decide) ?_
                first
                  | (
                    refine ⟨rfl, ?_, hS⟩
                    refine ⟨_, _, ⟨t2, t3, t5, t7, 1, by rw [if_pos hk4]; exact ht2, ht3, by rw [if_neg (by rw [h33z]; decide), if_pos hkn], ht5, ht7, rfl, rfl⟩, hG, ?_⟩
                    rw [if_pos hz7]
                    exact ⟨hk, (abF_cg (fun i hi => (congrFun hsp i).symm.trans ((hX h33z).2 i hi))), hT⟩)
                  | (
                    refine ⟨rfl, ?_, hS⟩
                    refine ⟨_, _, ⟨t2, t3, t5, t7, 1, by rw [if_pos hk4]; exact ht2, ht3, by rw [if_neg (by rw [h33z]; decide), if_pos hkn], ht5, ht7, rfl, rfl⟩, hG, ?_⟩
                    rw [if_neg (show ¬ t7.2.2.2.2.1 = 0 from fun q => h74 (hf.trans q))]
                    exact ⟨hk, hA, hT⟩)
              ·
                have hz7 : t7.2.2.2.2.1 = 0 := hf.symm.trans (by first | exact h74 | exact Decidable.not_not.mp h74)
                refine r_aload_n E (dat dkX10_parseBoots 42 rfl) rfl rfl ?_
                refine r_iload_n E (dat dkX10_parseBoots 43 rfl) rfl rfl ?_
                refine r_iload_n E (dat dkX10_parseBoots 44 rfl) rfl rfl ?_
                refine r_callV (κ := 9) (μ := []) E (sp_X10_addBoots l G x.2.2.2.2.1 (t2.1 - sTn t2) sp (mNv t5 0 (nI x.1.2.2 - 1)) (mNv (mCl bs n x.1.2.2 t5) 1 9) _ A hA hA4 hk4 (hX h33z).1 hw7 hsp) my_X10_addBoots iv_X10_addBoots ml_X10_63 cm_id ⟨by decide, rfl, rfl⟩ rfl rfl rfl rfl (by decide) (Nat.le_of_ble_eq_true rfl) (dat dkX10_parseBoots 45 rfl) ?_
                rintro _ M9 ⟨rfl, rfl⟩
                refine ⟨_, Mrg_m0, ?_⟩
                refine r_vreturn E (dat dkX10_parseBoots 46 rfl) (by decide) (by decide) ?_
                first
                  | (
                    refine ⟨rfl, ?_, hS⟩
                    refine ⟨_, _, ⟨t2, t3, t5, t7, 1, by rw [if_pos hk4]; exact ht2, ht3, by rw [if_neg (by rw [h33z]; decide), if_pos hkn], ht5, ht7, rfl, rfl⟩, hG, ?_⟩
                    rw [if_pos hz7]
                    exact ⟨hk, (abF_cg (fun i hi => (congrFun hsp i).symm.trans ((hX h33z).2 i hi))), hT⟩)
                  | (
                    refine ⟨rfl, ?_, hS⟩
                    refine ⟨_, _, ⟨t2, t3, t5, t7, 1, by rw [if_pos hk4]; exact ht2, ht3, by rw [if_neg (by rw [h33z]; decide), if_pos hkn], ht5, ht7, rfl, rfl⟩, hG, ?_⟩
                    rw [if_neg (show ¬ t7.2.2.2.2.1 = 0 from fun q => h74 (hf.trans q))]
                    exact ⟨hk, hA, hT⟩)
          ·
            refine r_icmp_ne (tgt := 48) E (dat dkX10_parseBoots 23 rfl) rfl (fun h41 => ?_) (fun h41 => ?_)
            ·
              refine r_iconst (v := 0) E (dat dkX10_parseBoots 26 rfl) rfl ?_
              refine r_iconst (v := 3) E (dat dkX10_parseBoots 27 rfl) rfl ?_
              refine r_callV (κ := 9) (μ := []) E (px_ex l G bs n _ _ (0) (3) _ hB hn hA hT hG hn6) my_X10_expect iv_X10_expect ml_X10_194 cm_id ⟨by decide, rfl, rfl⟩ rfl rfl rfl rfl (by decide) (Nat.le_of_ble_eq_true rfl) (dat dkX10_parseBoots 28 rfl) ?_
              rintro _ M9 ⟨rfl, hp9, hs9⟩
              obtain ⟨Ma, hMr, hk9, hA, hT, hS9⟩ := Mrg_pk hp9 hs9
              replace hB := (hk9.2.2.2.1).trans hB
              replace hn := (hk9.2.2.2.2.2.2.2.2.1).trans hn
              replace hk := kq_t hk hk9
              replace hS := PS3_t hS (PS_3 hS9)
              replace hG := TG_ex (a := 0) (k := 3) (by decide) hG
              replace hX := fun q => (show sPl Ma _ _ _ from ⟨hS9.2.1.trans (hX q).1, fun i hi => (congrFun hS9.1 i).trans ((hX q).2 i hi)⟩)
              replace hsp := hS9.1.trans hsp
              refine ⟨_, hMr, ?_⟩
              clear hp9 hs9 hMr hk9 hS9
              refine r_aload_n E (dat dkX10_parseBoots 29 rfl) rfl rfl ?_
              refine r_callV (κ := 9) (μ := []) E (px_adv l G bs n _ _  _ hB hn hA hT hG hn6) my_X10_advanceToken iv_X10_advanceToken ml_X10_189 cm_id ⟨by decide, rfl, rfl⟩ rfl rfl rfl rfl (by decide) (Nat.le_of_ble_eq_true rfl) (dat dkX10_parseBoots 30 rfl) ?_
              rintro _ M9 ⟨rfl, hp9, hs9⟩
              obtain ⟨Ma, hMr, hk9, hA, hT, hS9⟩ := Mrg_pk hp9 hs9
              replace hB := (hk9.2.2.2.1).trans hB
              replace hn := (hk9.2.2.2.2.2.2.2.2.1).trans hn
              replace hk := kq_t hk hk9
              replace hS := PS3_t hS (PS_3 hS9)
              replace hG := TG_ad (b := bs) hG
              replace hX := fun q => (show sPl Ma _ _ _ from ⟨hS9.2.1.trans (hX q).1, fun i hi => (congrFun hS9.1 i).trans ((hX q).2 i hi)⟩)
              replace hsp := hS9.1.trans hsp
              obtain ⟨t5, ht5⟩ : ∃ z, z = mAd bs n (mEx 0 3 t3) := ⟨_, rfl⟩
              rw [← ht5] at hT hG
              refine ⟨_, hMr, ?_⟩
              clear hp9 hs9 hMr hk9 hS9
              refine r_aload_n E (dat dkX10_parseBoots 31 rfl) rfl rfl ?_
              refine r_callV (κ := 9) (μ := []) E (sp_X10_parseCell l G bs n _ _ x.1.2.2 _ hB hn hA hT hG hn6 hz2) my_X10_parseCell iv_X10_parseCell ml_X10_201 cm_id ⟨by decide, rfl, rfl⟩ rfl rfl rfl rfl (by decide) (Nat.le_of_ble_eq_true rfl) (dat dkX10_parseBoots 32 rfl) ?_
              rintro _ M9 ⟨rfl, hp9, hs9⟩
              obtain ⟨Ma, hMr, hk9, hA, hT, hS9⟩ := Mrg_pk hp9 hs9
              replace hB := (hk9.2.2.2.1).trans hB
              replace hn := (hk9.2.2.2.2.2.2.2.2.1).trans hn
              replace hk := kq_t hk hk9
              replace hS := PS3_t hS (PS_3 hS9)
              replace hG := TG_cl (b := bs) (z := x.1.2.2) hG
              replace hX := fun q => (show sPl Ma _ _ _ from ⟨hS9.2.1.trans (hX q).1, fun i hi => (congrFun hS9.1 i).trans ((hX q).2 i hi)⟩)
              replace hsp := hS9.1.trans hsp
              refine ⟨_, hMr, ?_⟩
              clear hp9 hs9 hMr hk9 hS9
              refine r_istore_1 E (dat dkX10_parseBoots 33 rfl) rfl rfl ?_
              refine r_aload_n E (dat dkX10_parseBoots 34 rfl) rfl rfl ?_
              refine r_iconst (v := 1) E (dat dkX10_parseBoots 35 rfl) rfl ?_
              refine r_bipush (v := 9) E (dat dkX10_parseBoots 36 rfl) rfl ?_
              refine r_callV (κ := 9) (μ := []) E (px_num l G bs n _ _ (1) (9) _ hB hn hA hT hG hn6) my_X10_parseNumber iv_X10_parseNumber ml_X10_198 cm_id ⟨by decide, rfl, rfl⟩ rfl rfl rfl rfl (by decide) (Nat.le_of_ble_eq_true rfl) (dat dkX10_parseBoots 37 rfl) ?_
              rintro _ M9 ⟨rfl, hp9, hs9⟩
              obtain ⟨Ma, hMr, hk9, hA, hT, hS9⟩ := Mrg_pk hp9 hs9
              replace hB := (hk9.2.2.2.1).trans hB
              replace hn := (hk9.2.2.2.2.2.2.2.2.1).trans hn
              replace hk := kq_t hk hk9
              replace hS := PS3_t hS (PS_3 hS9)
              replace hG := TG_ad (b := bs) (TG_ne (lo := 1) (hi := 9) hG)
              replace hX := fun q => (show sPl Ma _ _ _ from ⟨hS9.2.1.trans (hX q).1, fun i hi => (congrFun hS9.1 i).trans ((hX q).2 i hi)⟩)
              replace hsp := hS9.1.trans hsp
              refine ⟨_, hMr, ?_⟩
              clear hp9 hs9 hMr hk9 hS9
              obtain ⟨t7, ht7⟩ : ∃ z, z = mNe (mCl bs n x.1.2.2 t5) 1 9 := ⟨_, rfl⟩
              rw [← ht7] at hT hG
              have hf := mAd_f (b := bs) (n := n) (t := t7)
              refine r_istore_2 E (dat dkX10_parseBoots 38 rfl) rfl rfl ?_
              refine r_aload_n E (dat dkX10_parseBoots 39 rfl) rfl rfl ?_
              refine q_getn E fl_X10_165 (dat dkX10_parseBoots 40 rfl) rfl rfl rfl (show (_ : Int32) = _ from hT.2.2.2.2.1) ?_
              refine r_if_ne (tgt := 83) E (dat dkX10_parseBoots 41 rfl) rfl (fun h74 => ?_) (fun h74 => ?_)
              ·
                refine r_vreturn E (dat dkX10_parseBoots 46 rfl) (by decide) (by decide) ?_
                refine ⟨rfl, ?_, hS⟩
                refine ⟨_, _, ⟨t2, t3, t5, t7, 0, by rw [if_pos hk4]; exact ht2, ht3, by rw [if_neg (by rw [h33z]; decide), if_neg hkn], ht5, ht7, rfl, rfl⟩, hG, ?_⟩
                rw [if_neg (show ¬ t7.2.2.2.2.1 = 0 from fun q => h74 (hf.trans q))]
                exact ⟨hk, hA, hT⟩
              ·
                exact absurd rfl (bt_z ht5 ht7 (hf.symm.trans (by first | exact h74 | exact Decidable.not_not.mp h74))).2.1
            ·
              exact absurd (by first | exact h41 | exact Decidable.not_not.mp h41) hkn
      ·
        have hG3 := hG.2.1
        refine r_if_gt (tgt := 44) E (dat dkX10_parseBoots 19 rfl) rfl (fun h33 => ?_) (fun h33 => ?_)
        ·
          refine r_iconst (v := 1) E (dat dkX10_parseBoots 24 rfl) rfl ?_
          refine r_goto (tgt := 49) E (dat dkX10_parseBoots 25 rfl) rfl ?_
          refine r_iconst (v := 3) E (dat dkX10_parseBoots 27 rfl) rfl ?_
          refine r_callV (κ := 9) (μ := []) E (px_ex l G bs n _ _ (1) (3) _ hB hn hA hT hG hn6) my_X10_expect iv_X10_expect ml_X10_194 cm_id ⟨by decide, rfl, rfl⟩ rfl rfl rfl rfl (by decide) (Nat.le_of_ble_eq_true rfl) (dat dkX10_parseBoots 28 rfl) ?_
          rintro _ M9 ⟨rfl, hp9, hs9⟩
          obtain ⟨Ma, hMr, hk9, hA, hT, hS9⟩ := Mrg_pk hp9 hs9
          replace hB := (hk9.2.2.2.1).trans hB
          replace hn := (hk9.2.2.2.2.2.2.2.2.1).trans hn
          replace hk := kq_t hk hk9
          replace hS := PS3_t hS (PS_3 hS9)
          replace hG := TG_ex (a := 1) (k := 3) (by decide) hG
          replace hX := fun q => (show sPl Ma _ _ _ from ⟨hS9.2.1.trans (hX q).1, fun i hi => (congrFun hS9.1 i).trans ((hX q).2 i hi)⟩)
          replace hsp := hS9.1.trans hsp
          refine ⟨_, hMr, ?_⟩
          clear hp9 hs9 hMr hk9 hS9
          refine r_aload_n E (dat dkX10_parseBoots 29 rfl) rfl rfl ?_
          refine r_callV (κ := 9) (μ := []) E (px_adv l G bs n _ _  _ hB hn hA hT hG hn6) my_X10_advanceToken iv_X10_advanceToken ml_X10_189 cm_id ⟨by decide, rfl, rfl⟩ rfl rfl rfl rfl (by decide) (Nat.le_of_ble_eq_true rfl) (dat dkX10_parseBoots 30 rfl) ?_
          rintro _ M9 ⟨rfl, hp9, hs9⟩
          obtain ⟨Ma, hMr, hk9, hA, hT, hS9⟩ := Mrg_pk hp9 hs9
          replace hB := (hk9.2.2.2.1).trans hB
          replace hn := (hk9.2.2.2.2.2.2.2.2.1).trans hn
          replace hk := kq_t hk hk9
          replace hS := PS3_t hS (PS_3 hS9)
          replace hG := TG_ad (b := bs) hG
          replace hX := fun q => (show sPl Ma _ _ _ from ⟨hS9.2.1.trans (hX q).1, fun i hi => (congrFun hS9.1 i).trans ((hX q).2 i hi)⟩)
          replace hsp := hS9.1.trans hsp
          obtain ⟨t5, ht5⟩ : ∃ z, z = mAd bs n (mEx 1 3 t3) := ⟨_, rfl⟩
          rw [← ht5] at hT hG
          refine ⟨_, hMr, ?_⟩
          clear hp9 hs9 hMr hk9 hS9
          refine r_aload_n E (dat dkX10_parseBoots 31 rfl) rfl rfl ?_
          refine r_callV (κ := 9) (μ := []) E (sp_X10_parseCell l G bs n _ _ x.1.2.2 _ hB hn hA hT hG hn6 hz2) my_X10_parseCell iv_X10_parseCell ml_X10_201 cm_id ⟨by decide, rfl, rfl⟩ rfl rfl rfl rfl (by decide) (Nat.le_of_ble_eq_true rfl) (dat dkX10_parseBoots 32 rfl) ?_
          rintro _ M9 ⟨rfl, hp9, hs9⟩
          obtain ⟨Ma, hMr, hk9, hA, hT, hS9⟩ := Mrg_pk hp9 hs9
          replace hB := (hk9.2.2.2.1).trans hB
          replace hn := (hk9.2.2.2.2.2.2.2.2.1).trans hn
          replace hk := kq_t hk hk9
          replace hS := PS3_t hS (PS_3 hS9)
          replace hG := TG_cl (b := bs) (z := x.1.2.2) hG
          replace hX := fun q => (show sPl Ma _ _ _ from ⟨hS9.2.1.trans (hX q).1, fun i hi => (congrFun hS9.1 i).trans ((hX q).2 i hi)⟩)
          replace hsp := hS9.1.trans hsp
          refine ⟨_, hMr, ?_⟩
          clear hp9 hs9 hMr hk9 hS9
          refine r_istore_1 E (dat dkX10_parseBoots 33 rfl) rfl rfl ?_
          refine r_aload_n E (dat dkX10_parseBoots 34 rfl) rfl rfl ?_
          refine r_iconst (v := 1) E (dat dkX10_parseBoots 35 rfl) rfl ?_
          refine r_bipush (v := 9) E (dat dkX10_parseBoots 36 rfl) rfl ?_
          refine r_callV (κ := 9) (μ := []) E (px_num l G bs n _ _ (1) (9) _ hB hn hA hT hG hn6) my_X10_parseNumber iv_X10_parseNumber ml_X10_198 cm_id ⟨by decide, rfl, rfl⟩ rfl rfl rfl rfl (by decide) (Nat.le_of_ble_eq_true rfl) (dat dkX10_parseBoots 37 rfl) ?_
          rintro _ M9 ⟨rfl, hp9, hs9⟩
          obtain ⟨Ma, hMr, hk9, hA, hT, hS9⟩ := Mrg_pk hp9 hs9
          replace hB := (hk9.2.2.2.1).trans hB
          replace hn := (hk9.2.2.2.2.2.2.2.2.1).trans hn
          replace hk := kq_t hk hk9
          replace hS := PS3_t hS (PS_3 hS9)
          replace hG := TG_ad (b := bs) (TG_ne (lo := 1) (hi := 9) hG)
          replace hX := fun q => (show sPl Ma _ _ _ from ⟨hS9.2.1.trans (hX q).1, fun i hi => (congrFun hS9.1 i).trans ((hX q).2 i hi)⟩)
          replace hsp := hS9.1.trans hsp
          refine ⟨_, hMr, ?_⟩
          clear hp9 hs9 hMr hk9 hS9
          obtain ⟨t7, ht7⟩ : ∃ z, z = mNe (mCl bs n x.1.2.2 t5) 1 9 := ⟨_, rfl⟩
          rw [← ht7] at hT hG
          have hf := mAd_f (b := bs) (n := n) (t := t7)
          refine r_istore_2 E (dat dkX10_parseBoots 38 rfl) rfl rfl ?_
          refine r_aload_n E (dat dkX10_parseBoots 39 rfl) rfl rfl ?_
          refine q_getn E fl_X10_165 (dat dkX10_parseBoots 40 rfl) rfl rfl rfl (show (_ : Int32) = _ from hT.2.2.2.2.1) ?_
          refine r_if_ne (tgt := 83) E (dat dkX10_parseBoots 41 rfl) rfl (fun h74 => ?_) (fun h74 => ?_)
          ·
            refine r_vreturn E (dat dkX10_parseBoots 46 rfl) (by decide) (by decide) ?_
            refine ⟨rfl, ?_, hS⟩
            refine ⟨_, _, ⟨t2, t3, t5, t7, 1, by rw [if_pos hk4]; exact ht2, ht3, by rw [if_pos (hG3.resolve_left h33z)], ht5, ht7, rfl, rfl⟩, hG, ?_⟩
            rw [if_neg (show ¬ t7.2.2.2.2.1 = 0 from fun q => h74 (hf.trans q))]
            exact ⟨hk, hA, hT⟩
          ·
            exact absurd (bt_z ht5 ht7 (hf.symm.trans (by first | exact h74 | exact Decidable.not_not.mp h74))).1 h33z
        ·
          exact absurd (hG.2.1.resolve_left h33z) (by first | exact h33 | exact Int32.not_lt.mpr h33)
  ·
    refine r_aload_n E (dat dkX10_parseBoots 0 rfl) rfl rfl ?_
    refine r_aload_n E (dat dkX10_parseBoots 1 rfl) rfl rfl ?_
    refine q_geta E fl_X10_9 (dat dkX10_parseBoots 2 rfl) rfl rfl rfl ?_
    refine r_iconst (v := 4) E (dat dkX10_parseBoots 3 rfl) rfl ?_
    refine q_iald E (dat dkX10_parseBoots 4 rfl) rfl rfl (by decide) (show (_ : Nat → Int32) = _ from hA) (show _ = nI 4 from rfl) (by omega) ?_
    rw [hA4]
    refine r_iconst (v := 4) E (dat dkX10_parseBoots 5 rfl) rfl ?_
    refine q_icmp_ge (tgt := 15) E (dat dkX10_parseBoots 6 rfl) rfl rfl (b := 4) rfl (by omega) (by omega) (fun h8 => ?_) (fun h8 => ?_)
    ·
      refine r_iconst (v := 0) E (dat dkX10_parseBoots 9 rfl) rfl ?_
      refine r_iconst (v := 4) E (dat dkX10_parseBoots 10 rfl) rfl ?_
      refine r_callV (κ := 9) (μ := []) E (px_ex l G bs n _ _ (0) (4) _ hB hn hA hT hG hn6) my_X10_expect iv_X10_expect ml_X10_194 cm_id ⟨by decide, rfl, rfl⟩ rfl rfl rfl rfl (by decide) (Nat.le_of_ble_eq_true rfl) (dat dkX10_parseBoots 11 rfl) ?_
      rintro _ M9 ⟨rfl, hp9, hs9⟩
      obtain ⟨Ma, hMr, hk9, hA, hT, hS9⟩ := Mrg_pk hp9 hs9
      replace hB := (hk9.2.2.2.1).trans hB
      replace hn := (hk9.2.2.2.2.2.2.2.2.1).trans hn
      replace hk := kq_t hk hk9
      replace hS := PS3_t hS (PS_3 hS9)
      replace hG := TG_ex (a := 0) (k := 4) (by decide) hG
      refine ⟨_, hMr, ?_⟩
      clear hp9 hs9 hMr hk9 hS9
      refine r_aload_n E (dat dkX10_parseBoots 12 rfl) rfl rfl ?_
      refine r_callV (κ := 9) (μ := []) E (px_adv l G bs n _ _  _ hB hn hA hT hG hn6) my_X10_advanceToken iv_X10_advanceToken ml_X10_189 cm_id ⟨by decide, rfl, rfl⟩ rfl rfl rfl rfl (by decide) (Nat.le_of_ble_eq_true rfl) (dat dkX10_parseBoots 13 rfl) ?_
      rintro _ M9 ⟨rfl, hp9, hs9⟩
      obtain ⟨Ma, hMr, hk9, hA, hT, hS9⟩ := Mrg_pk hp9 hs9
      replace hB := (hk9.2.2.2.1).trans hB
      replace hn := (hk9.2.2.2.2.2.2.2.2.1).trans hn
      replace hk := kq_t hk hk9
      replace hS := PS3_t hS (PS_3 hS9)
      replace hG := TG_ad (b := bs) hG
      obtain ⟨t2, ht2⟩ : ∃ z, z = mAd bs n (mEx 0 4 t) := ⟨_, rfl⟩
      rw [← ht2] at hT hG
      refine ⟨_, hMr, ?_⟩
      clear hp9 hs9 hMr hk9 hS9
      refine r_aload_n E (dat dkX10_parseBoots 14 rfl) rfl rfl ?_
      refine r_callV (κ := 9) (μ := []) E (sp_X10_spellName l G bs n _ _ (sTn t2) _ hB hn hA hT hG hn6 (TG_st hG hn6).1 (TG_st hG hn6).2) my_X10_spellName iv_X10_spellName ml_X10_204 cm_id ⟨by decide, rfl, rfl⟩ rfl rfl rfl rfl (by decide) (Nat.le_of_ble_eq_true rfl) (dat dkX10_parseBoots 15 rfl) ?_
      rintro _ M9 ⟨rfl, hp9, hs9, hx9⟩
      obtain ⟨Ma, hMr, hk9, hA, hT, hS9, hX⟩ := Mrg_pk3 sPl_X hp9 hs9 hx9
      replace hB := (hk9.2.2.2.1).trans hB
      replace hn := (hk9.2.2.2.2.2.2.2.2.1).trans hn
      replace hk := kq_t hk hk9
      replace hS := PS3_t hS hS9
      replace hG := TG_ex (a := aNm t2) (k := 1) (by decide) hG
      obtain ⟨sp, hsp⟩ : ∃ sp, Ma 0 8 = sp := ⟨_, rfl⟩
      obtain ⟨t3, ht3⟩ : ∃ z, z = mEx (aNm t2) 1 t2 := ⟨_, rfl⟩
      rw [← ht3] at hG
      replace hT : TI Ma t3 := by rw [ht3]; exact hT
      replace hX : t3.2.2.2.2.1 = 0 → sPl Ma bs (sTn t2) (t2.1 - sTn t2) := by rw [ht3]; exact hX
      refine ⟨_, hMr, ?_⟩
      clear hp9 hs9 hMr hk9 hS9 hx9
      refine r_aload_n E (dat dkX10_parseBoots 16 rfl) rfl rfl ?_
      refine r_aload_n E (dat dkX10_parseBoots 17 rfl) rfl rfl ?_
      refine q_getn E fl_X10_165 (dat dkX10_parseBoots 18 rfl) rfl rfl rfl (show (_ : Int32) = _ from hT.2.2.2.2.1) ?_
      have h33z : ¬ t3.2.2.2.2.1 = 0 := fun q => (bt_y ht2 ht3 q).2.2 rfl
      ·
        have hG3 := hG.2.1
        refine r_if_gt (tgt := 44) E (dat dkX10_parseBoots 19 rfl) rfl (fun h33 => ?_) (fun h33 => ?_)
        ·
          refine r_iconst (v := 1) E (dat dkX10_parseBoots 24 rfl) rfl ?_
          refine r_goto (tgt := 49) E (dat dkX10_parseBoots 25 rfl) rfl ?_
          refine r_iconst (v := 3) E (dat dkX10_parseBoots 27 rfl) rfl ?_
          refine r_callV (κ := 9) (μ := []) E (px_ex l G bs n _ _ (1) (3) _ hB hn hA hT hG hn6) my_X10_expect iv_X10_expect ml_X10_194 cm_id ⟨by decide, rfl, rfl⟩ rfl rfl rfl rfl (by decide) (Nat.le_of_ble_eq_true rfl) (dat dkX10_parseBoots 28 rfl) ?_
          rintro _ M9 ⟨rfl, hp9, hs9⟩
          obtain ⟨Ma, hMr, hk9, hA, hT, hS9⟩ := Mrg_pk hp9 hs9
          replace hB := (hk9.2.2.2.1).trans hB
          replace hn := (hk9.2.2.2.2.2.2.2.2.1).trans hn
          replace hk := kq_t hk hk9
          replace hS := PS3_t hS (PS_3 hS9)
          replace hG := TG_ex (a := 1) (k := 3) (by decide) hG
          replace hX := fun q => (show sPl Ma _ _ _ from ⟨hS9.2.1.trans (hX q).1, fun i hi => (congrFun hS9.1 i).trans ((hX q).2 i hi)⟩)
          replace hsp := hS9.1.trans hsp
          refine ⟨_, hMr, ?_⟩
          clear hp9 hs9 hMr hk9 hS9
          refine r_aload_n E (dat dkX10_parseBoots 29 rfl) rfl rfl ?_
          refine r_callV (κ := 9) (μ := []) E (px_adv l G bs n _ _  _ hB hn hA hT hG hn6) my_X10_advanceToken iv_X10_advanceToken ml_X10_189 cm_id ⟨by decide, rfl, rfl⟩ rfl rfl rfl rfl (by decide) (Nat.le_of_ble_eq_true rfl) (dat dkX10_parseBoots 30 rfl) ?_
          rintro _ M9 ⟨rfl, hp9, hs9⟩
          obtain ⟨Ma, hMr, hk9, hA, hT, hS9⟩ := Mrg_pk hp9 hs9
          replace hB := (hk9.2.2.2.1).trans hB
          replace hn := (hk9.2.2.2.2.2.2.2.2.1).trans hn
          replace hk := kq_t hk hk9
          replace hS := PS3_t hS (PS_3 hS9)
          replace hG := TG_ad (b := bs) hG
          replace hX := fun q => (show sPl Ma _ _ _ from ⟨hS9.2.1.trans (hX q).1, fun i hi => (congrFun hS9.1 i).trans ((hX q).2 i hi)⟩)
          replace hsp := hS9.1.trans hsp
          obtain ⟨t5, ht5⟩ : ∃ z, z = mAd bs n (mEx 1 3 t3) := ⟨_, rfl⟩
          rw [← ht5] at hT hG
          refine ⟨_, hMr, ?_⟩
          clear hp9 hs9 hMr hk9 hS9
          refine r_aload_n E (dat dkX10_parseBoots 31 rfl) rfl rfl ?_
          refine r_callV (κ := 9) (μ := []) E (sp_X10_parseCell l G bs n _ _ x.1.2.2 _ hB hn hA hT hG hn6 hz2) my_X10_parseCell iv_X10_parseCell ml_X10_201 cm_id ⟨by decide, rfl, rfl⟩ rfl rfl rfl rfl (by decide) (Nat.le_of_ble_eq_true rfl) (dat dkX10_parseBoots 32 rfl) ?_
          rintro _ M9 ⟨rfl, hp9, hs9⟩
          obtain ⟨Ma, hMr, hk9, hA, hT, hS9⟩ := Mrg_pk hp9 hs9
          replace hB := (hk9.2.2.2.1).trans hB
          replace hn := (hk9.2.2.2.2.2.2.2.2.1).trans hn
          replace hk := kq_t hk hk9
          replace hS := PS3_t hS (PS_3 hS9)
          replace hG := TG_cl (b := bs) (z := x.1.2.2) hG
          replace hX := fun q => (show sPl Ma _ _ _ from ⟨hS9.2.1.trans (hX q).1, fun i hi => (congrFun hS9.1 i).trans ((hX q).2 i hi)⟩)
          replace hsp := hS9.1.trans hsp
          refine ⟨_, hMr, ?_⟩
          clear hp9 hs9 hMr hk9 hS9
          refine r_istore_1 E (dat dkX10_parseBoots 33 rfl) rfl rfl ?_
          refine r_aload_n E (dat dkX10_parseBoots 34 rfl) rfl rfl ?_
          refine r_iconst (v := 1) E (dat dkX10_parseBoots 35 rfl) rfl ?_
          refine r_bipush (v := 9) E (dat dkX10_parseBoots 36 rfl) rfl ?_
          refine r_callV (κ := 9) (μ := []) E (px_num l G bs n _ _ (1) (9) _ hB hn hA hT hG hn6) my_X10_parseNumber iv_X10_parseNumber ml_X10_198 cm_id ⟨by decide, rfl, rfl⟩ rfl rfl rfl rfl (by decide) (Nat.le_of_ble_eq_true rfl) (dat dkX10_parseBoots 37 rfl) ?_
          rintro _ M9 ⟨rfl, hp9, hs9⟩
          obtain ⟨Ma, hMr, hk9, hA, hT, hS9⟩ := Mrg_pk hp9 hs9
          replace hB := (hk9.2.2.2.1).trans hB
          replace hn := (hk9.2.2.2.2.2.2.2.2.1).trans hn
          replace hk := kq_t hk hk9
          replace hS := PS3_t hS (PS_3 hS9)
          replace hG := TG_ad (b := bs) (TG_ne (lo := 1) (hi := 9) hG)
          replace hX := fun q => (show sPl Ma _ _ _ from ⟨hS9.2.1.trans (hX q).1, fun i hi => (congrFun hS9.1 i).trans ((hX q).2 i hi)⟩)
          replace hsp := hS9.1.trans hsp
          refine ⟨_, hMr, ?_⟩
          clear hp9 hs9 hMr hk9 hS9
          obtain ⟨t7, ht7⟩ : ∃ z, z = mNe (mCl bs n x.1.2.2 t5) 1 9 := ⟨_, rfl⟩
          rw [← ht7] at hT hG
          have hf := mAd_f (b := bs) (n := n) (t := t7)
          refine r_istore_2 E (dat dkX10_parseBoots 38 rfl) rfl rfl ?_
          refine r_aload_n E (dat dkX10_parseBoots 39 rfl) rfl rfl ?_
          refine q_getn E fl_X10_165 (dat dkX10_parseBoots 40 rfl) rfl rfl rfl (show (_ : Int32) = _ from hT.2.2.2.2.1) ?_
          refine r_if_ne (tgt := 83) E (dat dkX10_parseBoots 41 rfl) rfl (fun h74 => ?_) (fun h74 => ?_)
          ·
            refine r_vreturn E (dat dkX10_parseBoots 46 rfl) (by decide) (by decide) ?_
            refine ⟨rfl, ?_, hS⟩
            refine ⟨_, _, ⟨t2, t3, t5, t7, 1, by rw [if_neg hk4]; exact ht2, ht3, by rw [if_pos (hG3.resolve_left h33z)], ht5, ht7, rfl, rfl⟩, hG, ?_⟩
            rw [if_neg (show ¬ t7.2.2.2.2.1 = 0 from fun q => h74 (hf.trans q))]
            exact ⟨hk, hA, hT⟩
          ·
            exact absurd (bt_z ht5 ht7 (hf.symm.trans (by first | exact h74 | exact Decidable.not_not.mp h74))).1 h33z
        ·
          exact absurd (hG.2.1.resolve_left h33z) (by first | exact h33 | exact Int32.not_lt.mpr h33)
    ·
      omega
