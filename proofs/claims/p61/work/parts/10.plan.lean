set_option maxRecDepth 100000 in
set_option maxHeartbeats 4000000 in
theorem sp_X2_hasCell (l : Launch) (G : GT) (B1 : Nat → Nat → Int32) (ro co : Int32) (n : Nat) (bc fr : Int32) (he gu be nm nl bh fp n0 n1 n2 n3 : Nat → Int32) (x : Int32) (M : Mem) (hA0 : M 0 = (vP B1 ro co (nI n) bc fr he gu be nm nl bh fp n0 n1 n2 n3))  : MC l G yX2_hasCell cX2_hasCell 2 (some .boolean) ({ frames := 0, cells := 0, slots := 0, locals := 0 } : Room) [2] lk0 [rv 0 0, iv x] (M) (fun r M2 => r = some (iv (hcI x n)) ∧ M2 = M) := by
  obtain ⟨M0, rfl⟩ : ∃ M0, M = m1 ((vP B1 ro co (nI n) bc fr he gu be nm nl bh fp n0 n1 n2 n3)) M0 := ⟨M, (m1_of hA0).symm⟩
  clear hA0
  refine MC.of RX2 [some (rv 0 0), some (iv x)] 0 (by decide +kernel) rfl rfl rfl ?_
  intro pp ee ss mm aa bb me cd ad E
  refine r_iload_n E (dat dkX2_hasCell 0 rfl) rfl rfl ?_
  refine r_if_lt (tgt := 16) E (dat dkX2_hasCell 1 rfl) rfl (fun h1 => ?_) (fun h1 => ?_)
  ·
    refine r_iconst (v := 0) E (dat dkX2_hasCell 8 rfl) rfl ?_
    refine r_zreturn E (dat dkX2_hasCell 9 rfl) rfl (by decide) (by decide) ?_
    exact ⟨by simp only [hcI, *, if_true, if_false], rfl⟩
  ·
    refine r_iload_n E (dat dkX2_hasCell 2 rfl) rfl rfl ?_
    refine r_aload_n E (dat dkX2_hasCell 3 rfl) rfl rfl ?_
    refine q_getn E fl_X2_42 (dat dkX2_hasCell 4 rfl) rfl rfl rfl (go1_0 gfP_9) ?_
    refine r_icmp_ge (tgt := 16) E (dat dkX2_hasCell 5 rfl) rfl (fun h9 => ?_) (fun h9 => ?_)
    ·
      refine r_iconst (v := 0) E (dat dkX2_hasCell 8 rfl) rfl ?_
      refine r_zreturn E (dat dkX2_hasCell 9 rfl) rfl (by decide) (by decide) ?_
      exact ⟨by simp only [hcI, *, if_true, if_false], rfl⟩
    ·
      refine r_iconst (v := 1) E (dat dkX2_hasCell 6 rfl) rfl ?_
      refine r_goto (tgt := 17) E (dat dkX2_hasCell 7 rfl) rfl ?_
      refine r_zreturn E (dat dkX2_hasCell 9 rfl) rfl (by decide) (by decide) ?_
      exact ⟨by simp only [hcI, *, if_true, if_false], rfl⟩

set_option maxRecDepth 100000 in
set_option maxHeartbeats 4000000 in
theorem sp_X2_cellBeside (l : Launch) (G : GT) (B1 : Nat → Nat → Int32) (ro co : Int32) (n : Nat) (bc fr : Int32) (he gu be nm nl bh fp n0 n1 n2 n3 : Nat → Int32) (c d : Nat) (M : Mem) (hA0 : M 0 = (vP B1 ro co (nI n) bc fr he gu be nm nl bh fp n0 n1 n2 n3)) (hc : c < n) (hn : n ≤ 64) (hd : d < 4) : MC l G yX2_cellBeside cX2_cellBeside 3 (some .int) ({ frames := 1, cells := 0, slots := 0, locals := 21 } : Room) [2] lk0 [rv 0 0, iv (nI c), iv (nI d)] (M) (fun r M2 => r = some (iv (be (c * 4 + d))) ∧ M2 = M) := by
  obtain ⟨M0, rfl⟩ : ∃ M0, M = m1 ((vP B1 ro co (nI n) bc fr he gu be nm nl bh fp n0 n1 n2 n3)) M0 := ⟨M, (m1_of hA0).symm⟩
  clear hA0
  refine MC.of RX2 [some (rv 0 0), some (iv (nI c)), some (iv (nI d))] 0 (by decide +kernel) rfl rfl rfl ?_
  intro pp ee ss mm aa bb me cd ad E
  refine r_aload_n E (dat dkX2_cellBeside 0 rfl) rfl rfl ?_
  refine r_iload_n E (dat dkX2_cellBeside 1 rfl) rfl rfl ?_
  refine r_callV (κ := 2) (μ := [0]) E (sp_X2_hasCell l G B1 ro co n bc fr he gu be nm nl bh fp n0 n1 n2 n3 (nI c) _ rfl) my_X2_hasCell iv_X2_hasCell ml_X2_51 (cm_of rfl) ⟨by decide, rfl, rfl⟩ rfl rfl rfl rfl (by decide) (Nat.le_of_ble_eq_true rfl) (dat dkX2_cellBeside 2 rfl) ?_
  rintro _ _ ⟨rfl, rfl⟩
  refine ⟨_, Mrg_z rfl, ?_⟩
  rw [hcI_in hc hn]
  refine r_if_eq (tgt := 17) E (dat dkX2_cellBeside 3 rfl) rfl (fun h5 => ?_) (fun h5 => ?_)
  ·
    exact absurd h5 (by decide)
  ·
    refine r_iload_n E (dat dkX2_cellBeside 4 rfl) rfl rfl ?_
    refine r_if_lt (tgt := 17) E (dat dkX2_cellBeside 5 rfl) rfl (fun h9 => ?_) (fun h9 => ?_)
    ·
      exact absurd h9 (nI_pos (by omega))
    ·
      refine r_iload_n E (dat dkX2_cellBeside 6 rfl) rfl rfl ?_
      refine r_iconst (v := 3) E (dat dkX2_cellBeside 7 rfl) rfl ?_
      refine q_icmp_le (tgt := 19) E (dat dkX2_cellBeside 8 rfl) rfl rfl (b := 3) rfl (by omega) (by omega) (fun h14 => ?_) (fun h14 => ?_)
      ·
        refine r_aload_n E (dat dkX2_cellBeside 11 rfl) rfl rfl ?_
        refine q_geta E fl_X2_18 (dat dkX2_cellBeside 12 rfl) rfl rfl rfl ?_
        refine r_iload_n E (dat dkX2_cellBeside 13 rfl) rfl rfl ?_
        refine r_iconst (v := 4) E (dat dkX2_cellBeside 14 rfl) rfl ?_
        refine r_imul E (dat dkX2_cellBeside 15 rfl) ?_
        refine r_iload_n E (dat dkX2_cellBeside 16 rfl) rfl rfl ?_
        refine r_iadd E (dat dkX2_cellBeside 17 rfl) ?_
        refine q_iald E (dat dkX2_cellBeside 18 rfl) rfl rfl (by decide) (gg1_0 gaP_3) (show _ = nI (c * 4 + d) by rw [show (4 : Int32) = nI 4 from rfl, pk_mul, nI_add]) (by omega) ?_
        refine r_ireturn E (dat dkX2_cellBeside 19 rfl) (by decide) (by decide) ?_
        exact ⟨rfl, rfl⟩
      ·
        omega
