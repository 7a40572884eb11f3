/-! the reference's input -/
theorem by_sh (b : BitVec 32) (s : Nat) (hs : s ≤ 24) : (b.sshiftRight s).signExtend 8 = (b >>> s).signExtend 8 := by
  apply BitVec.eq_of_getLsbD_eq
  intro i hi
  rw [BitVec.getLsbD_signExtend, BitVec.getLsbD_signExtend, BitVec.getLsbD_sshiftRight, BitVec.getLsbD_ushiftRight]
  have h1 : s + i < 32 := by omega
  have h2 : i < 32 := by omega
  have h3 : ¬ 32 ≤ i := by omega
  simp [h1, h2, h3, hi]
theorem by_24 (x : Int32) : (x >>> ((24 : Int32) &&& 31)).toInt8.toInt32 = (x.toUInt32 >>> ((24 : Int32).toUInt32 &&& Int32.toUInt32 31)).toInt32.toInt8.toInt32 := by
  congr 1
  apply Int8.toBitVec_inj.mp
  exact by_sh x.toBitVec 24 (by decide)
theorem by_16 (x : Int32) : (x >>> ((16 : Int32) &&& 31)).toInt8.toInt32 = (x.toUInt32 >>> ((16 : Int32).toUInt32 &&& Int32.toUInt32 31)).toInt32.toInt8.toInt32 := by
  congr 1
  apply Int8.toBitVec_inj.mp
  exact by_sh x.toBitVec 16 (by decide)
theorem by_8 (x : Int32) : (x >>> ((8 : Int32) &&& 31)).toInt8.toInt32 = (x.toUInt32 >>> ((8 : Int32).toUInt32 &&& Int32.toUInt32 31)).toInt32.toInt8.toInt32 := by
  congr 1
  apply Int8.toBitVec_inj.mp
  exact by_sh x.toBitVec 8 (by decide)
theorem by_0 (x : Int32) : (x >>> ((0 : Int32) &&& 31)).toInt8.toInt32 = x.toInt8.toInt32 := by
  congr 1
  apply Int8.toBitVec_inj.mp
  exact (by_sh x.toBitVec 0 (by decide)).trans (by rw [show x.toBitVec >>> 0 = x.toBitVec from BitVec.ushiftRight_zero _]; rfl)
theorem gM_a10 {M : Mem} {P : Nat → Int32} {k : Int32} : gM 10 10 M P k 0 10 = P := rfl
set_option maxRecDepth 100000 in
set_option maxHeartbeats 8000000 in
theorem sp_X10_appendWord (l : Launch) (G : GT) (bs : Nat → Int32) (n : Nat) (a : Int32) (M : Mem) (hB : M 0 10 = bs) (hn : M 0 0 10 = nI n) (hn6 : n + 4 ≤ 600) : MC l G yX10_appendWord cX10_appendWord 3 none ({ frames := 0, cells := 0, slots := 0, locals := 0 } : Room) [9] lk0 [rv 0 0, iv a] (M) (fun r M2 => r = none ∧ M2 = gM 10 10 M (pf4 bs n a) (nI (n + 4))) := by
  refine MC.of RX10 [some (rv 0 0), some (iv a), none] 1 (by decide +kernel) rfl rfl rfl ?_
  intro pp ee ss mm aa bb me cd ad E
  obtain ⟨M0, rfl⟩ : ∃ M0, M = gM 10 10 M0 bs (nI n) := ⟨M, (gM_of hB hn).symm⟩
  clear hB hn
  
  refine r_iconst (v := 3) E (dat dkX10_appendWord 0 rfl) rfl ?_
  refine r_istore_2 E (dat dkX10_appendWord 1 rfl) rfl rfl ?_
  refine r_iload_n E (dat dkX10_appendWord 2 rfl) rfl rfl ?_
  refine r_if_lt (tgt := 38) E (dat dkX10_appendWord 3 rfl) rfl (fun h3 => ?_) (fun h3 => ?_)
  ·
    exact absurd h3 (by decide)
  ·
    refine r_aload_n E (dat dkX10_appendWord 4 rfl) rfl rfl ?_
    refine q_geta E fl_X10_25 (dat dkX10_appendWord 5 rfl) rfl rfl rfl ?_
    refine r_aload_n E (dat dkX10_appendWord 6 rfl) rfl rfl ?_
    refine q_getn E fl_X10_148 (dat dkX10_appendWord 7 rfl) rfl rfl rfl rfl ?_
    refine r_iload_n E (dat dkX10_appendWord 8 rfl) rfl rfl ?_
    refine r_bipush (v := 8) E (dat dkX10_appendWord 9 rfl) rfl ?_
    refine r_iload_n E (dat dkX10_appendWord 10 rfl) rfl rfl ?_
    refine r_imul E (dat dkX10_appendWord 11 rfl) ?_
    refine r_ishr E (dat dkX10_appendWord 12 rfl) ?_
    refine r_i2b E (dat dkX10_appendWord 13 rfl) ?_
    refine q_bast E (dat dkX10_appendWord 14 rfl) rfl rfl (by decide) gM_a10 (fun _ => gM_s (by decide)) (show _ = nI n from rfl) (by omega) (z := (a.toUInt32 >>> ((24 : Int32).toUInt32 &&& Int32.toUInt32 31)).toInt32.toInt8.toInt32) (show vp_nar .byte _ = _ from (congrArg (vp_nar .byte) (by_24 a)).trans (pk_vb _)) ?_
    refine r_aload_n E (dat dkX10_appendWord 15 rfl) rfl rfl ?_
    refine r_dup E (dat dkX10_appendWord 16 rfl) rfl ?_
    refine q_getn E fl_X10_148 (dat dkX10_appendWord 17 rfl) rfl rfl rfl rfl ?_
    refine r_iconst (v := 1) E (dat dkX10_appendWord 18 rfl) rfl ?_
    refine r_iadd E (dat dkX10_appendWord 19 rfl) ?_
    rw [show (gM 10 10 M0 (upd bs n ((a.toUInt32 >>> ((24 : Int32).toUInt32 &&& Int32.toUInt32 31)).toInt32.toInt8.toInt32)) (nI n) 0 0 10 + 1 : Int32) = nI (n + 1) from nI_1 n]
    refine q_putn E ft_X10_148 (dat dkX10_appendWord 20 rfl) rfl rfl rfl rfl ?_
    rw [gM_p]
    refine r_iinc_2 E (dat dkX10_appendWord 21 rfl) rfl rfl ?_
    refine r_goto (tgt := 2) E (dat dkX10_appendWord 22 rfl) rfl ?_
    refine r_iload_n E (dat dkX10_appendWord 2 rfl) rfl rfl ?_
    refine r_if_lt (tgt := 38) E (dat dkX10_appendWord 3 rfl) rfl (fun h3 => ?_) (fun h3 => ?_)
    ·
      exact absurd h3 (by decide)
    ·
      refine r_aload_n E (dat dkX10_appendWord 4 rfl) rfl rfl ?_
      refine q_geta E fl_X10_25 (dat dkX10_appendWord 5 rfl) rfl rfl rfl ?_
      refine r_aload_n E (dat dkX10_appendWord 6 rfl) rfl rfl ?_
      refine q_getn E fl_X10_148 (dat dkX10_appendWord 7 rfl) rfl rfl rfl rfl ?_
      refine r_iload_n E (dat dkX10_appendWord 8 rfl) rfl rfl ?_
      refine r_bipush (v := 8) E (dat dkX10_appendWord 9 rfl) rfl ?_
      refine r_iload_n E (dat dkX10_appendWord 10 rfl) rfl rfl ?_
      refine r_imul E (dat dkX10_appendWord 11 rfl) ?_
      refine r_ishr E (dat dkX10_appendWord 12 rfl) ?_
      refine r_i2b E (dat dkX10_appendWord 13 rfl) ?_
      refine q_bast E (dat dkX10_appendWord 14 rfl) rfl rfl (by decide) gM_a10 (fun _ => gM_s (by decide)) (show _ = nI (n + 1) from rfl) (by omega) (z := (a.toUInt32 >>> ((16 : Int32).toUInt32 &&& Int32.toUInt32 31)).toInt32.toInt8.toInt32) (show vp_nar .byte _ = _ from (congrArg (vp_nar .byte) (by_16 a)).trans (pk_vb _)) ?_
      refine r_aload_n E (dat dkX10_appendWord 15 rfl) rfl rfl ?_
      refine r_dup E (dat dkX10_appendWord 16 rfl) rfl ?_
      refine q_getn E fl_X10_148 (dat dkX10_appendWord 17 rfl) rfl rfl rfl rfl ?_
      refine r_iconst (v := 1) E (dat dkX10_appendWord 18 rfl) rfl ?_
      refine r_iadd E (dat dkX10_appendWord 19 rfl) ?_
      rw [show (gM 10 10 M0 (upd (upd bs n ((a.toUInt32 >>> ((24 : Int32).toUInt32 &&& Int32.toUInt32 31)).toInt32.toInt8.toInt32)) (n + 1) ((a.toUInt32 >>> ((16 : Int32).toUInt32 &&& Int32.toUInt32 31)).toInt32.toInt8.toInt32)) (nI (n + 1)) 0 0 10 + 1 : Int32) = nI (n + 2) from nI_1 (n + 1)]
      refine q_putn E ft_X10_148 (dat dkX10_appendWord 20 rfl) rfl rfl rfl rfl ?_
      rw [gM_p]
      refine r_iinc_2 E (dat dkX10_appendWord 21 rfl) rfl rfl ?_
      refine r_goto (tgt := 2) E (dat dkX10_appendWord 22 rfl) rfl ?_
      refine r_iload_n E (dat dkX10_appendWord 2 rfl) rfl rfl ?_
      refine r_if_lt (tgt := 38) E (dat dkX10_appendWord 3 rfl) rfl (fun h3 => ?_) (fun h3 => ?_)
      ·
        exact absurd h3 (by decide)
      ·
        refine r_aload_n E (dat dkX10_appendWord 4 rfl) rfl rfl ?_
        refine q_geta E fl_X10_25 (dat dkX10_appendWord 5 rfl) rfl rfl rfl ?_
        refine r_aload_n E (dat dkX10_appendWord 6 rfl) rfl rfl ?_
        refine q_getn E fl_X10_148 (dat dkX10_appendWord 7 rfl) rfl rfl rfl rfl ?_
        refine r_iload_n E (dat dkX10_appendWord 8 rfl) rfl rfl ?_
        refine r_bipush (v := 8) E (dat dkX10_appendWord 9 rfl) rfl ?_
        refine r_iload_n E (dat dkX10_appendWord 10 rfl) rfl rfl ?_
        refine r_imul E (dat dkX10_appendWord 11 rfl) ?_
        refine r_ishr E (dat dkX10_appendWord 12 rfl) ?_
        refine r_i2b E (dat dkX10_appendWord 13 rfl) ?_
        refine q_bast E (dat dkX10_appendWord 14 rfl) rfl rfl (by decide) gM_a10 (fun _ => gM_s (by decide)) (show _ = nI (n + 2) from rfl) (by omega) (z := (a.toUInt32 >>> ((8 : Int32).toUInt32 &&& Int32.toUInt32 31)).toInt32.toInt8.toInt32) (show vp_nar .byte _ = _ from (congrArg (vp_nar .byte) (by_8 a)).trans (pk_vb _)) ?_
        refine r_aload_n E (dat dkX10_appendWord 15 rfl) rfl rfl ?_
        refine r_dup E (dat dkX10_appendWord 16 rfl) rfl ?_
        refine q_getn E fl_X10_148 (dat dkX10_appendWord 17 rfl) rfl rfl rfl rfl ?_
        refine r_iconst (v := 1) E (dat dkX10_appendWord 18 rfl) rfl ?_
        refine r_iadd E (dat dkX10_appendWord 19 rfl) ?_
        rw [show (gM 10 10 M0 (upd (upd (upd bs n ((a.toUInt32 >>> ((24 : Int32).toUInt32 &&& Int32.toUInt32 31)).toInt32.toInt8.toInt32)) (n + 1) ((a.toUInt32 >>> ((16 : Int32).toUInt32 &&& Int32.toUInt32 31)).toInt32.toInt8.toInt32)) (n + 2) ((a.toUInt32 >>> ((8 : Int32).toUInt32 &&& Int32.toUInt32 31)).toInt32.toInt8.toInt32)) (nI (n + 2)) 0 0 10 + 1 : Int32) = nI (n + 3) from nI_1 (n + 2)]
        refine q_putn E ft_X10_148 (dat dkX10_appendWord 20 rfl) rfl rfl rfl rfl ?_
        rw [gM_p]
        refine r_iinc_2 E (dat dkX10_appendWord 21 rfl) rfl rfl ?_
        refine r_goto (tgt := 2) E (dat dkX10_appendWord 22 rfl) rfl ?_
        refine r_iload_n E (dat dkX10_appendWord 2 rfl) rfl rfl ?_
        refine r_if_lt (tgt := 38) E (dat dkX10_appendWord 3 rfl) rfl (fun h3 => ?_) (fun h3 => ?_)
        ·
          exact absurd h3 (by decide)
        ·
          refine r_aload_n E (dat dkX10_appendWord 4 rfl) rfl rfl ?_
          refine q_geta E fl_X10_25 (dat dkX10_appendWord 5 rfl) rfl rfl rfl ?_
          refine r_aload_n E (dat dkX10_appendWord 6 rfl) rfl rfl ?_
          refine q_getn E fl_X10_148 (dat dkX10_appendWord 7 rfl) rfl rfl rfl rfl ?_
          refine r_iload_n E (dat dkX10_appendWord 8 rfl) rfl rfl ?_
          refine r_bipush (v := 8) E (dat dkX10_appendWord 9 rfl) rfl ?_
          refine r_iload_n E (dat dkX10_appendWord 10 rfl) rfl rfl ?_
          refine r_imul E (dat dkX10_appendWord 11 rfl) ?_
          refine r_ishr E (dat dkX10_appendWord 12 rfl) ?_
          refine r_i2b E (dat dkX10_appendWord 13 rfl) ?_
          refine q_bast E (dat dkX10_appendWord 14 rfl) rfl rfl (by decide) gM_a10 (fun _ => gM_s (by decide)) (show _ = nI (n + 3) from rfl) (by omega) (z := a.toInt8.toInt32) (show vp_nar .byte _ = _ from (congrArg (vp_nar .byte) (by_0 a)).trans (pk_vb _)) ?_
          refine r_aload_n E (dat dkX10_appendWord 15 rfl) rfl rfl ?_
          refine r_dup E (dat dkX10_appendWord 16 rfl) rfl ?_
          refine q_getn E fl_X10_148 (dat dkX10_appendWord 17 rfl) rfl rfl rfl rfl ?_
          refine r_iconst (v := 1) E (dat dkX10_appendWord 18 rfl) rfl ?_
          refine r_iadd E (dat dkX10_appendWord 19 rfl) ?_
          rw [show (gM 10 10 M0 (upd (upd (upd (upd bs n ((a.toUInt32 >>> ((24 : Int32).toUInt32 &&& Int32.toUInt32 31)).toInt32.toInt8.toInt32)) (n + 1) ((a.toUInt32 >>> ((16 : Int32).toUInt32 &&& Int32.toUInt32 31)).toInt32.toInt8.toInt32)) (n + 2) ((a.toUInt32 >>> ((8 : Int32).toUInt32 &&& Int32.toUInt32 31)).toInt32.toInt8.toInt32)) (n + 3) (a.toInt8.toInt32)) (nI (n + 3)) 0 0 10 + 1 : Int32) = nI (n + 4) from nI_1 (n + 3)]
          refine q_putn E ft_X10_148 (dat dkX10_appendWord 20 rfl) rfl rfl rfl rfl ?_
          rw [gM_p]
          refine r_iinc_2 E (dat dkX10_appendWord 21 rfl) rfl rfl ?_
          refine r_goto (tgt := 2) E (dat dkX10_appendWord 22 rfl) rfl ?_
          refine r_iload_n E (dat dkX10_appendWord 2 rfl) rfl rfl ?_
          refine r_if_lt (tgt := 38) E (dat dkX10_appendWord 3 rfl) rfl (fun h3 => ?_) (fun h3 => ?_)
          ·
            refine r_vreturn E (dat dkX10_appendWord 23 rfl) (by decide) (by decide) ?_
            exact ⟨rfl, by rw [gM_gM (by decide)]; rfl⟩
          ·
            exact absurd (by decide) h3

set_option maxRecDepth 100000 in
set_option maxHeartbeats 4000000 in
theorem sp_X10_appendInput (l : Launch) (G : GT) (bs : Nat → Int32) (n : Nat) (a b d f g : Int32) (M : Mem) (hB : M 0 10 = bs) (hn : M 0 0 10 = nI n) (hn6 : n ≤ 600) : MC l G yX10_appendInput cX10_appendInput 6 (some .int) ({ frames := 1, cells := 0, slots := 0, locals := 22 } : Room) [9] lk0 [rv 0 0, iv a, iv b, iv d, iv f, iv g] (M) (fun r M2 => (n + 20 ≤ 600 ∧ M2 = gM 10 10 (mt M 0) (ap5 bs n a b d f g) (nI (n + 20)) ∧ r = some (iv (nI (n + 20)))) ∨ (¬ n + 20 ≤ 600 ∧ M2 = mt M 0 ∧ r = some (iv (-1)))) := by
  refine MC.of RX10 [some (rv 0 0), some (iv a), some (iv b), some (iv d), some (iv f), some (iv g)] 0 (by decide +kernel) rfl rfl rfl ?_
  intro pp ee ss mm aa bb me cd ad E
  refine r_aload_n E (dat dkX10_appendInput 0 rfl) rfl rfl ?_
  refine r_iconst (v := 0) E (dat dkX10_appendInput 1 rfl) rfl ?_
  refine q_putn E ft_X10_67 (dat dkX10_appendInput 2 rfl) rfl rfl rfl rfl ?_
  refine r_aload_n E (dat dkX10_appendInput 3 rfl) rfl rfl ?_
  refine q_getn E fl_X10_148 (dat dkX10_appendInput 4 rfl) rfl rfl rfl rfl ?_
  refine r_sipush (v := 580) E (dat dkX10_appendInput 5 rfl) rfl ?_
  refine q_icmp_le (tgt := 17) E (dat dkX10_appendInput 6 rfl) rfl hn (b := 580) rfl (by omega) (by omega) (fun h12 => ?_) (fun h12 => ?_)
  ·
    refine r_aload_n E (dat dkX10_appendInput 9 rfl) rfl rfl ?_
    refine r_iload_n E (dat dkX10_appendInput 10 rfl) rfl rfl ?_
    refine r_callV (κ := 9) (μ := []) E (sp_X10_appendWord l G bs n a _ hB hn (by omega)) my_X10_appendWord iv_X10_appendWord ml_X10_151 cm_id ⟨by decide, rfl, rfl⟩ rfl rfl rfl rfl (by decide) (Nat.le_of_ble_eq_true rfl) (dat dkX10_appendInput 11 rfl) ?_
    rintro _ _ ⟨rfl, rfl⟩
    refine ⟨_, Mrg_gM (by decide) rfl, ?_⟩
    refine r_aload_n E (dat dkX10_appendInput 12 rfl) rfl rfl ?_
    refine r_iload_n E (dat dkX10_appendInput 13 rfl) rfl rfl ?_
    refine r_callV (κ := 9) (μ := []) E (sp_X10_appendWord l G (pf4 bs n a) (n + 4) b _ rfl rfl (by omega)) my_X10_appendWord iv_X10_appendWord ml_X10_151 cm_id ⟨by decide, rfl, rfl⟩ rfl rfl rfl rfl (by decide) (Nat.le_of_ble_eq_true rfl) (dat dkX10_appendInput 14 rfl) ?_
    rintro _ _ ⟨rfl, rfl⟩
    refine ⟨_, Mrg_gM (by decide) rfl, ?_⟩
    rw [gM_gM (by decide)]
    refine r_aload_n E (dat dkX10_appendInput 15 rfl) rfl rfl ?_
    refine r_iload_n E (dat dkX10_appendInput 16 rfl) rfl rfl ?_
    refine r_callV (κ := 9) (μ := []) E (sp_X10_appendWord l G (pf4 (pf4 bs n a) (n + 4) b) (n + 8) d _ rfl rfl (by omega)) my_X10_appendWord iv_X10_appendWord ml_X10_151 cm_id ⟨by decide, rfl, rfl⟩ rfl rfl rfl rfl (by decide) (Nat.le_of_ble_eq_true rfl) (dat dkX10_appendInput 17 rfl) ?_
    rintro _ _ ⟨rfl, rfl⟩
    refine ⟨_, Mrg_gM (by decide) rfl, ?_⟩
    rw [gM_gM (by decide)]
    refine r_aload_n E (dat dkX10_appendInput 18 rfl) rfl rfl ?_
    refine r_iload E (dat dkX10_appendInput 19 rfl) rfl ?_
    refine r_callV (κ := 9) (μ := []) E (sp_X10_appendWord l G (pf4 (pf4 (pf4 bs n a) (n + 4) b) (n + 8) d) (n + 12) f _ rfl rfl (by omega)) my_X10_appendWord iv_X10_appendWord ml_X10_151 cm_id ⟨by decide, rfl, rfl⟩ rfl rfl rfl rfl (by decide) (Nat.le_of_ble_eq_true rfl) (dat dkX10_appendInput 20 rfl) ?_
    rintro _ _ ⟨rfl, rfl⟩
    refine ⟨_, Mrg_gM (by decide) rfl, ?_⟩
    rw [gM_gM (by decide)]
    refine r_aload_n E (dat dkX10_appendInput 21 rfl) rfl rfl ?_
    refine r_iload E (dat dkX10_appendInput 22 rfl) rfl ?_
    refine r_callV (κ := 9) (μ := []) E (sp_X10_appendWord l G (pf4 (pf4 (pf4 (pf4 bs n a) (n + 4) b) (n + 8) d) (n + 12) f) (n + 16) g _ rfl rfl (by omega)) my_X10_appendWord iv_X10_appendWord ml_X10_151 cm_id ⟨by decide, rfl, rfl⟩ rfl rfl rfl rfl (by decide) (Nat.le_of_ble_eq_true rfl) (dat dkX10_appendInput 23 rfl) ?_
    rintro _ _ ⟨rfl, rfl⟩
    refine ⟨_, Mrg_gM (by decide) rfl, ?_⟩
    rw [gM_gM (by decide)]
    refine r_aload_n E (dat dkX10_appendInput 24 rfl) rfl rfl ?_
    refine q_getn E fl_X10_148 (dat dkX10_appendInput 25 rfl) rfl rfl rfl rfl ?_
    refine r_ireturn E (dat dkX10_appendInput 26 rfl) (by decide) (by decide) ?_
    exact Or.inl ⟨by omega, rfl, rfl⟩
  ·
    refine r_iconst (v := -1) E (dat dkX10_appendInput 7 rfl) rfl ?_
    refine r_ireturn E (dat dkX10_appendInput 8 rfl) (by decide) (by decide) ?_
    exact Or.inr ⟨by omega, rfl, rfl⟩
