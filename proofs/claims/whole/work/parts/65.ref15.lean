/-! the reference: what is consistent, names -/
set_option maxRecDepth 100000 in
set_option maxHeartbeats 4000000 in
theorem sp_X10_areBootsConsistent (l : Launch) (G : GT) (A0 : Nat → Int32) (x : PP) (T : Nat → Nat → Int32)  (M : Mem) (hA : M 0 1 = enc A0 x T) (hx : PIv x) (hpl : PLi x T) : MC l G yX10_areBootsConsistent cX10_areBootsConsistent 2 (some .boolean) ({ frames := 2, cells := 0, slots := 0, locals := 46 } : Room) [9] lk0 [rv 0 0] (M) (fun r M2 => r = some (iv 1) ∧ M2 = M) := by
  refine MC.of RX10 [some (rv 0 0), none] 1 (by decide +kernel) rfl rfl rfl ?_
  intro pp ee ss mm aa bb me cd ad E
  obtain ⟨M0, rfl⟩ : ∃ M0, M = md M0 (enc A0 x T) := ⟨M, (md_of hA).symm⟩
  clear hA
  have hn64 := (PIv_z hx).1
  have hb4 := hx.2.2.2.2.1
  
  refine r_iconst (v := 0) E (dat dkX10_areBootsConsistent 0 rfl) rfl ?_
  refine r_istore_1 E (dat dkX10_areBootsConsistent 1 rfl) rfl rfl ?_
  refine r_for (x.2.2.2.2.1) (fun _ => True) (fun i => md M0 (enc A0 x T)) (fun i => [some (rv 0 0), some (iv (nI i))]) trivial rfl rfl ?_ ?_
  · intro i hi hI kk
    obtain ⟨f, hf, hfe⟩ := hpl i hi
    refine r_iload_n E (dat dkX10_areBootsConsistent 2 rfl) rfl rfl ?_
    refine r_aload_n E (dat dkX10_areBootsConsistent 3 rfl) rfl rfl ?_
    refine q_geta E fl_X10_9 (dat dkX10_areBootsConsistent 4 rfl) rfl rfl rfl ?_
    refine r_iconst (v := 4) E (dat dkX10_areBootsConsistent 5 rfl) rfl ?_
    refine q_iald E (dat dkX10_areBootsConsistent 6 rfl) rfl rfl (by decide) md_a (show _ = nI 4 from rfl) (by omega) ?_
    refine q_icmp_ge (tgt := 39) E (dat dkX10_areBootsConsistent 7 rfl) rfl rfl rfl (by omega) (by omega) (fun h9 => ?_) (fun h9 => ?_)
    ·
      omega
    ·
      refine r_aload_n E (dat dkX10_areBootsConsistent 8 rfl) rfl rfl ?_
      refine r_aload_n E (dat dkX10_areBootsConsistent 9 rfl) rfl rfl ?_
      refine q_geta E fl_X10_9 (dat dkX10_areBootsConsistent 10 rfl) rfl rfl rfl ?_
      refine r_iload_n E (dat dkX10_areBootsConsistent 11 rfl) rfl rfl ?_
      refine r_callS (μ := []) E (sp_X10_p l G i _) my_X10_p is_X10_p ml_X10_73 cm_nil rfl rfl (by decide) (Nat.le_of_ble_eq_true rfl) (dat dkX10_areBootsConsistent 12 rfl) ?_
      rintro _ _ ⟨rfl, hM⟩
      refine ⟨_, Mrg_z hM, ?_⟩
      clear hM
      refine r_bipush (v := 7) E (dat dkX10_areBootsConsistent 13 rfl) rfl ?_
      refine r_iadd E (dat dkX10_areBootsConsistent 14 rfl) ?_
      refine q_iald E (dat dkX10_areBootsConsistent 15 rfl) rfl rfl (by decide) md_a (nI_add (399 + 11 * i) 7) (by omega) ?_
      rw [e_pl hi, hfe]
      refine r_callV (κ := 9) (μ := []) E (sp_X10_isCell l G A0 x T (nI f) _ md_a hx) my_X10_isCell iv_X10_isCell ml_X10_326 cm_id ⟨by decide, rfl, rfl⟩ rfl rfl rfl rfl (by decide) (Nat.le_of_ble_eq_true rfl) (dat dkX10_areBootsConsistent 16 rfl) ?_
      rintro _ _ ⟨rfl, rfl⟩
      refine ⟨_, Mrg_z rfl, ?_⟩
      rw [ic_1 hx ⟨f, hf, rfl⟩]
      refine r_if_ne (tgt := 33) E (dat dkX10_areBootsConsistent 17 rfl) rfl (fun h28 => ?_) (fun h28 => ?_)
      ·
        refine q_iinc_1 E (dat dkX10_areBootsConsistent 20 rfl) rfl rfl ?_
        refine r_goto (tgt := 2) E (dat dkX10_areBootsConsistent 21 rfl) rfl ?_
        exact kk trivial
      ·
        exact absurd h28 (by decide)
  · intro hI
    refine r_iload_n E (dat dkX10_areBootsConsistent 2 rfl) rfl rfl ?_
    refine r_aload_n E (dat dkX10_areBootsConsistent 3 rfl) rfl rfl ?_
    refine q_geta E fl_X10_9 (dat dkX10_areBootsConsistent 4 rfl) rfl rfl rfl ?_
    refine r_iconst (v := 4) E (dat dkX10_areBootsConsistent 5 rfl) rfl ?_
    refine q_iald E (dat dkX10_areBootsConsistent 6 rfl) rfl rfl (by decide) md_a (show _ = nI 4 from rfl) (by omega) ?_
    refine q_icmp_ge (tgt := 39) E (dat dkX10_areBootsConsistent 7 rfl) rfl rfl rfl (by omega) (by omega) (fun h9 => ?_) (fun h9 => ?_)
    ·
      refine r_iconst (v := 1) E (dat dkX10_areBootsConsistent 22 rfl) rfl ?_
      refine r_zreturn E (dat dkX10_areBootsConsistent 23 rfl) rfl (by decide) (by decide) ?_
      exact ⟨rfl, rfl⟩
    ·
      omega

set_option maxRecDepth 100000 in
set_option maxHeartbeats 8000000 in
theorem sp_X10_areCellsConsistent (l : Launch) (G : GT) (A0 : Nat → Int32) (x : PP) (T : Nat → Nat → Int32) (B : Int) (M : Mem) (hA : M 0 1 = enc A0 x T) (hx : PIv x) (hs : SI x T B) : MC l G yX10_areCellsConsistent cX10_areCellsConsistent 3 (some .boolean) ({ frames := 2, cells := 0, slots := 0, locals := 42 } : Room) [9] lk0 [rv 0 0] (M) (fun r M2 => r = some (iv (if sm (T 2) x.1.2.2 + T 0 14 = T 0 13 then 1 else 0)) ∧ M2 = M) := by
  refine MC.of RX10 [some (rv 0 0), none, none] 2 (by decide +kernel) rfl rfl rfl ?_
  intro pp ee ss mm aa bb me cd ad E
  obtain ⟨M0, rfl⟩ : ∃ M0, M = md M0 (enc A0 x T) := ⟨M, (md_of hA).symm⟩
  clear hA
  have hn64 := (PIv_z hx).1
  
  refine r_iconst (v := 0) E (dat dkX10_areCellsConsistent 0 rfl) rfl ?_
  refine r_istore_1 E (dat dkX10_areCellsConsistent 1 rfl) rfl rfl ?_
  refine r_iconst (v := 0) E (dat dkX10_areCellsConsistent 2 rfl) rfl ?_
  refine r_istore_2 E (dat dkX10_areCellsConsistent 3 rfl) rfl rfl ?_
  refine r_for (x.1.2.2) (fun _ => True) (fun i => md M0 (enc A0 x T)) (fun i => [some (rv 0 0), some (iv (sm (T 2) i)), some (iv (nI i))]) trivial rfl rfl ?_ ?_
  · intro i hi hI kk
    have w0 : 0 ≤ T 1 i := i_le.mpr (hs.2.2.2.2.1 i hi)
    have a3 := hs.2.1 i hi
    have a4 := hs.2.2.1 i hi
    have a34 := hs.2.2.2.1 i hi
    have r30 : T 3 i ≤ 0 ↔ T 3 i = 0 := ⟨fun q => Int32.le_antisymm q (i_le.mpr a3.1), fun q => by rw [q]; decide⟩
    have r40 : T 4 i ≤ 0 ↔ T 4 i = 0 := ⟨fun q => Int32.le_antisymm q (i_le.mpr a4.1), fun q => by rw [q]; decide⟩
    refine r_iload_n E (dat dkX10_areCellsConsistent 4 rfl) rfl rfl ?_
    refine r_aload_n E (dat dkX10_areCellsConsistent 5 rfl) rfl rfl ?_
    refine r_callV (κ := 9) (μ := []) E (sp_X10_cells l G _ _ md_a) my_X10_cells iv_X10_cells ml_X10_115 cm_id ⟨by decide, rfl, rfl⟩ rfl rfl rfl rfl (by decide) (Nat.le_of_ble_eq_true rfl) (dat dkX10_areCellsConsistent 6 rfl) ?_
    rintro _ _ ⟨rfl, rfl⟩
    refine ⟨_, Mrg_z rfl, ?_⟩
    rw [ce_x hx]
    refine q_icmp_ge (tgt := 69) E (dat dkX10_areCellsConsistent 7 rfl) rfl rfl rfl (by omega) (by omega) (fun h9 => ?_) (fun h9 => ?_)
    ·
      omega
    ·
      refine r_iload_n E (dat dkX10_areCellsConsistent 8 rfl) rfl rfl ?_
      refine r_aload_n E (dat dkX10_areCellsConsistent 9 rfl) rfl rfl ?_
      refine r_iload_n E (dat dkX10_areCellsConsistent 10 rfl) rfl rfl ?_
      refine r_iconst (v := 2) E (dat dkX10_areCellsConsistent 11 rfl) rfl ?_
      refine r_callV (κ := 9) (μ := []) E (sp_X10_get l G i 2 _ _ md_a (by omega) (by decide)) my_X10_get iv_X10_get ml_X10_76 cm_id ⟨by decide, rfl, rfl⟩ rfl rfl rfl rfl (by decide) (Nat.le_of_ble_eq_true rfl) (dat dkX10_areCellsConsistent 12 rfl) ?_
      rintro _ _ ⟨rfl, rfl⟩
      refine ⟨_, Mrg_z rfl, ?_⟩
      rw [e_l hi hn64]
      refine r_iadd E (dat dkX10_areCellsConsistent 13 rfl) ?_
      refine r_istore_1 E (dat dkX10_areCellsConsistent 14 rfl) rfl rfl ?_
      refine r_aload_n E (dat dkX10_areCellsConsistent 15 rfl) rfl rfl ?_
      refine r_iload_n E (dat dkX10_areCellsConsistent 16 rfl) rfl rfl ?_
      refine r_iconst (v := 1) E (dat dkX10_areCellsConsistent 17 rfl) rfl ?_
      refine r_callV (κ := 9) (μ := []) E (sp_X10_get l G i 1 _ _ md_a (by omega) (by decide)) my_X10_get iv_X10_get ml_X10_76 cm_id ⟨by decide, rfl, rfl⟩ rfl rfl rfl rfl (by decide) (Nat.le_of_ble_eq_true rfl) (dat dkX10_areCellsConsistent 18 rfl) ?_
      rintro _ _ ⟨rfl, rfl⟩
      refine ⟨_, Mrg_z rfl, ?_⟩
      rw [e_w hi hn64]
      refine r_if_lt (tgt := 61) E (dat dkX10_areCellsConsistent 19 rfl) rfl (fun h27 => ?_) (fun h27 => ?_)
      ·
        exact absurd w0 (Int32.not_le.mpr h27)
      ·
        refine r_aload_n E (dat dkX10_areCellsConsistent 20 rfl) rfl rfl ?_
        refine r_iload_n E (dat dkX10_areCellsConsistent 21 rfl) rfl rfl ?_
        refine r_iconst (v := 4) E (dat dkX10_areCellsConsistent 22 rfl) rfl ?_
        refine r_callV (κ := 9) (μ := []) E (sp_X10_get l G i 4 _ _ md_a (by omega) (by decide)) my_X10_get iv_X10_get ml_X10_76 cm_id ⟨by decide, rfl, rfl⟩ rfl rfl rfl rfl (by decide) (Nat.le_of_ble_eq_true rfl) (dat dkX10_areCellsConsistent 23 rfl) ?_
        rintro _ _ ⟨rfl, rfl⟩
        refine ⟨_, Mrg_z rfl, ?_⟩
        rw [e_r hi hn64]
        refine r_if_le (tgt := 43) E (dat dkX10_areCellsConsistent 24 rfl) rfl (fun h36 => ?_) (fun h36 => ?_)
        ·
          refine r_iconst (v := 0) E (dat dkX10_areCellsConsistent 27 rfl) rfl ?_
          refine r_aload_n E (dat dkX10_areCellsConsistent 28 rfl) rfl rfl ?_
          refine r_iload_n E (dat dkX10_areCellsConsistent 29 rfl) rfl rfl ?_
          refine r_iconst (v := 5) E (dat dkX10_areCellsConsistent 30 rfl) rfl ?_
          refine r_callV (κ := 9) (μ := []) E (sp_X10_get l G i 5 _ _ md_a (by omega) (by decide)) my_X10_get iv_X10_get ml_X10_76 cm_id ⟨by decide, rfl, rfl⟩ rfl rfl rfl rfl (by decide) (Nat.le_of_ble_eq_true rfl) (dat dkX10_areCellsConsistent 31 rfl) ?_
          rintro _ _ ⟨rfl, rfl⟩
          refine ⟨_, Mrg_z rfl, ?_⟩
          rw [e_t hi hn64]
          refine r_if_le (tgt := 57) E (dat dkX10_areCellsConsistent 32 rfl) rfl (fun h50 => ?_) (fun h50 => ?_)
          ·
            refine r_iconst (v := 0) E (dat dkX10_areCellsConsistent 35 rfl) rfl ?_
            refine r_icmp_eq (tgt := 63) E (dat dkX10_areCellsConsistent 36 rfl) rfl (fun h58 => ?_) (fun h58 => ?_)
            ·
              refine q_iinc_2 E (dat dkX10_areCellsConsistent 39 rfl) rfl rfl ?_
              refine r_goto (tgt := 4) E (dat dkX10_areCellsConsistent 40 rfl) rfl ?_
              exact kk trivial
            ·
              (first
                | exact absurd rfl h58
                | exact absurd (r40.mpr (a34.mp (r30.mp (by first | exact h36 | exact Int32.not_lt.mp h36)))) (by first | exact h50 | exact Int32.not_le.mpr h50)
                | exact absurd (r30.mpr (a34.mpr (r40.mp (by first | exact h50 | exact Int32.not_lt.mp h50)))) (by first | exact h36 | exact Int32.not_le.mpr h36))
          ·
            refine r_iconst (v := 1) E (dat dkX10_areCellsConsistent 33 rfl) rfl ?_
            refine r_goto (tgt := 58) E (dat dkX10_areCellsConsistent 34 rfl) rfl ?_
            refine r_icmp_eq (tgt := 63) E (dat dkX10_areCellsConsistent 36 rfl) rfl (fun h58 => ?_) (fun h58 => ?_)
            ·
              refine q_iinc_2 E (dat dkX10_areCellsConsistent 39 rfl) rfl rfl ?_
              refine r_goto (tgt := 4) E (dat dkX10_areCellsConsistent 40 rfl) rfl ?_
              exact kk trivial
            ·
              (first
                | exact absurd rfl h58
                | exact absurd (r40.mpr (a34.mp (r30.mp (by first | exact h36 | exact Int32.not_lt.mp h36)))) (by first | exact h50 | exact Int32.not_le.mpr h50)
                | exact absurd (r30.mpr (a34.mpr (r40.mp (by first | exact h50 | exact Int32.not_lt.mp h50)))) (by first | exact h36 | exact Int32.not_le.mpr h36))
        ·
          refine r_iconst (v := 1) E (dat dkX10_areCellsConsistent 25 rfl) rfl ?_
          refine r_goto (tgt := 44) E (dat dkX10_areCellsConsistent 26 rfl) rfl ?_
          refine r_aload_n E (dat dkX10_areCellsConsistent 28 rfl) rfl rfl ?_
          refine r_iload_n E (dat dkX10_areCellsConsistent 29 rfl) rfl rfl ?_
          refine r_iconst (v := 5) E (dat dkX10_areCellsConsistent 30 rfl) rfl ?_
          refine r_callV (κ := 9) (μ := []) E (sp_X10_get l G i 5 _ _ md_a (by omega) (by decide)) my_X10_get iv_X10_get ml_X10_76 cm_id ⟨by decide, rfl, rfl⟩ rfl rfl rfl rfl (by decide) (Nat.le_of_ble_eq_true rfl) (dat dkX10_areCellsConsistent 31 rfl) ?_
          rintro _ _ ⟨rfl, rfl⟩
          refine ⟨_, Mrg_z rfl, ?_⟩
          rw [e_t hi hn64]
          refine r_if_le (tgt := 57) E (dat dkX10_areCellsConsistent 32 rfl) rfl (fun h50 => ?_) (fun h50 => ?_)
          ·
            refine r_iconst (v := 0) E (dat dkX10_areCellsConsistent 35 rfl) rfl ?_
            refine r_icmp_eq (tgt := 63) E (dat dkX10_areCellsConsistent 36 rfl) rfl (fun h58 => ?_) (fun h58 => ?_)
            ·
              refine q_iinc_2 E (dat dkX10_areCellsConsistent 39 rfl) rfl rfl ?_
              refine r_goto (tgt := 4) E (dat dkX10_areCellsConsistent 40 rfl) rfl ?_
              exact kk trivial
            ·
              (first
                | exact absurd rfl h58
                | exact absurd (r40.mpr (a34.mp (r30.mp (by first | exact h36 | exact Int32.not_lt.mp h36)))) (by first | exact h50 | exact Int32.not_le.mpr h50)
                | exact absurd (r30.mpr (a34.mpr (r40.mp (by first | exact h50 | exact Int32.not_lt.mp h50)))) (by first | exact h36 | exact Int32.not_le.mpr h36))
          ·
            refine r_iconst (v := 1) E (dat dkX10_areCellsConsistent 33 rfl) rfl ?_
            refine r_goto (tgt := 58) E (dat dkX10_areCellsConsistent 34 rfl) rfl ?_
            refine r_icmp_eq (tgt := 63) E (dat dkX10_areCellsConsistent 36 rfl) rfl (fun h58 => ?_) (fun h58 => ?_)
            ·
              refine q_iinc_2 E (dat dkX10_areCellsConsistent 39 rfl) rfl rfl ?_
              refine r_goto (tgt := 4) E (dat dkX10_areCellsConsistent 40 rfl) rfl ?_
              exact kk trivial
            ·
              (first
                | exact absurd rfl h58
                | exact absurd (r40.mpr (a34.mp (r30.mp (by first | exact h36 | exact Int32.not_lt.mp h36)))) (by first | exact h50 | exact Int32.not_le.mpr h50)
                | exact absurd (r30.mpr (a34.mpr (r40.mp (by first | exact h50 | exact Int32.not_lt.mp h50)))) (by first | exact h36 | exact Int32.not_le.mpr h36))
  · intro hI
    refine r_iload_n E (dat dkX10_areCellsConsistent 4 rfl) rfl rfl ?_
    refine r_aload_n E (dat dkX10_areCellsConsistent 5 rfl) rfl rfl ?_
    refine r_callV (κ := 9) (μ := []) E (sp_X10_cells l G _ _ md_a) my_X10_cells iv_X10_cells ml_X10_115 cm_id ⟨by decide, rfl, rfl⟩ rfl rfl rfl rfl (by decide) (Nat.le_of_ble_eq_true rfl) (dat dkX10_areCellsConsistent 6 rfl) ?_
    rintro _ _ ⟨rfl, rfl⟩
    refine ⟨_, Mrg_z rfl, ?_⟩
    rw [ce_x hx]
    refine q_icmp_ge (tgt := 69) E (dat dkX10_areCellsConsistent 7 rfl) rfl rfl rfl (by omega) (by omega) (fun h9 => ?_) (fun h9 => ?_)
    ·
      refine r_iload_n E (dat dkX10_areCellsConsistent 41 rfl) rfl rfl ?_
      refine r_aload_n E (dat dkX10_areCellsConsistent 42 rfl) rfl rfl ?_
      refine q_geta E fl_X10_9 (dat dkX10_areCellsConsistent 43 rfl) rfl rfl rfl ?_
      refine r_bipush (v := 10) E (dat dkX10_areCellsConsistent 44 rfl) rfl ?_
      refine q_iald E (dat dkX10_areCellsConsistent 45 rfl) rfl rfl (by decide) md_a (show _ = nI 10 from rfl) (by omega) ?_
      refine r_iadd E (dat dkX10_areCellsConsistent 46 rfl) ?_
      refine r_aload_n E (dat dkX10_areCellsConsistent 47 rfl) rfl rfl ?_
      refine q_geta E fl_X10_9 (dat dkX10_areCellsConsistent 48 rfl) rfl rfl rfl ?_
      refine r_bipush (v := 9) E (dat dkX10_areCellsConsistent 49 rfl) rfl ?_
      refine q_iald E (dat dkX10_areCellsConsistent 50 rfl) rfl rfl (by decide) md_a (show _ = nI 9 from rfl) (by omega) ?_
      refine r_icmp_ne (tgt := 92) E (dat dkX10_areCellsConsistent 51 rfl) rfl (fun h85 => ?_) (fun h85 => ?_)
      ·
        refine r_iconst (v := 0) E (dat dkX10_areCellsConsistent 54 rfl) rfl ?_
        refine r_zreturn E (dat dkX10_areCellsConsistent 55 rfl) rfl (by decide) (by decide) ?_
        refine ⟨?_, rfl⟩
        first
          | (rw [if_neg (show ¬ sm (T 2) x.1.2.2 + T 0 14 = T 0 13 from h85)]; done)
          | (rw [if_pos (show sm (T 2) x.1.2.2 + T 0 14 = T 0 13 from by first | exact h85 | exact Decidable.not_not.mp h85)]; done)
      ·
        refine r_iconst (v := 1) E (dat dkX10_areCellsConsistent 52 rfl) rfl ?_
        refine r_goto (tgt := 93) E (dat dkX10_areCellsConsistent 53 rfl) rfl ?_
        refine r_zreturn E (dat dkX10_areCellsConsistent 55 rfl) rfl (by decide) (by decide) ?_
        refine ⟨?_, rfl⟩
        first
          | (rw [if_neg (show ¬ sm (T 2) x.1.2.2 + T 0 14 = T 0 13 from h85)]; done)
          | (rw [if_pos (show sm (T 2) x.1.2.2 + T 0 14 = T 0 13 from by first | exact h85 | exact Decidable.not_not.mp h85)]; done)
    ·
      omega
