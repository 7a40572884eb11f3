set_option maxRecDepth 100000 in
set_option maxHeartbeats 4000000 in
theorem sp_X5_isOpen (l : Launch) (G : GT) (B0 : Nat → Nat → Int32) (mi ra rd fh dr ev dp sw : Int32) (w lv hr ht pl sp wt : Nat → Int32) (c : Nat) (M : Mem) (hA0 : M 0 = (vS B0 mi ra rd fh dr ev dp sw w lv hr ht pl sp wt)) (hc : c < 64) : MC l G yX5_isOpen cX5_isOpen 2 (some .boolean) ({ frames := 0, cells := 0, slots := 0, locals := 0 } : Room) [1] lk0 [rv 0 0, iv (nI c)] (M) (fun r M2 => r = some (iv (opI (ht c))) ∧ M2 = M) := by
  obtain ⟨M0, rfl⟩ : ∃ M0, M = m1 ((vS B0 mi ra rd fh dr ev dp sw w lv hr ht pl sp wt)) M0 := ⟨M, (m1_of hA0).symm⟩
  clear hA0
  refine MC.of RX5 [some (rv 0 0), some (iv (nI c))] 0 (by decide +kernel) rfl rfl rfl ?_
  intro pp ee ss mm aa bb me cd ad E
  refine r_aload_n E (dat dkX5_isOpen 0 rfl) rfl rfl ?_
  refine q_geta E fl_X5_21 (dat dkX5_isOpen 1 rfl) rfl rfl rfl ?_
  refine r_iload_n E (dat dkX5_isOpen 2 rfl) rfl rfl ?_
  refine q_iald E (dat dkX5_isOpen 3 rfl) rfl rfl (by decide) (gg1_0 gaS_4) rfl (by omega) ?_
  refine r_if_le (tgt := 13) E (dat dkX5_isOpen 4 rfl) rfl (fun h6 => ?_) (fun h6 => ?_)
  ·
    refine r_iconst (v := 0) E (dat dkX5_isOpen 7 rfl) rfl ?_
    refine r_zreturn E (dat dkX5_isOpen 8 rfl) rfl (by decide) (by decide) ?_
    exact ⟨by simp only [opI, *, if_true, if_false], rfl⟩
  ·
    refine r_iconst (v := 1) E (dat dkX5_isOpen 5 rfl) rfl ?_
    refine r_goto (tgt := 14) E (dat dkX5_isOpen 6 rfl) rfl ?_
    refine r_zreturn E (dat dkX5_isOpen 8 rfl) rfl (by decide) (by decide) ?_
    exact ⟨by simp only [opI, *, if_true, if_false], rfl⟩

set_option maxRecDepth 100000 in
set_option maxHeartbeats 4000000 in
theorem sp_X5_waterUnder (l : Launch) (G : GT) (B0 : Nat → Nat → Int32) (mi ra rd fh dr ev dp sw : Int32) (w lv hr ht pl sp wt : Nat → Int32) (b q : Nat) (M : Mem) (hA0 : M 0 = (vS B0 mi ra rd fh dr ev dp sw w lv hr ht pl sp wt)) (hb : b < 4) (hq : pl b = nI q) (hq6 : q < 64) : MC l G yX5_waterUnder cX5_waterUnder 3 (some .int) ({ frames := 0, cells := 0, slots := 0, locals := 0 } : Room) [1] lk0 [rv 0 0, iv (nI b)] (M) (fun r M2 => r = some (iv (w q)) ∧ M2 = M) := by
  obtain ⟨M0, rfl⟩ : ∃ M0, M = m1 ((vS B0 mi ra rd fh dr ev dp sw w lv hr ht pl sp wt)) M0 := ⟨M, (m1_of hA0).symm⟩
  clear hA0
  refine MC.of RX5 [some (rv 0 0), some (iv (nI b)), none] 1 (by decide +kernel) rfl rfl rfl ?_
  intro pp ee ss mm aa bb me cd ad E
  refine r_aload_n E (dat dkX5_waterUnder 0 rfl) rfl rfl ?_
  refine q_geta E fl_X5_24 (dat dkX5_waterUnder 1 rfl) rfl rfl rfl ?_
  refine r_iload_n E (dat dkX5_waterUnder 2 rfl) rfl rfl ?_
  refine q_iald E (dat dkX5_waterUnder 3 rfl) rfl rfl (by decide) (gg1_0 gaS_5) rfl (by omega) ?_
  refine r_istore_2 E (dat dkX5_waterUnder 4 rfl) rfl rfl ?_
  refine r_iload_n E (dat dkX5_waterUnder 5 rfl) rfl rfl ?_
  refine r_if_lt (tgt := 26) E (dat dkX5_waterUnder 6 rfl) rfl (fun h8 => ?_) (fun h8 => ?_)
  ·
    exact absurd (hq ▸ h8) (nI_pos (by omega))
  ·
    refine r_iload_n E (dat dkX5_waterUnder 7 rfl) rfl rfl ?_
    refine r_bipush (v := 64) E (dat dkX5_waterUnder 8 rfl) rfl ?_
    refine q_icmp_ge (tgt := 26) E (dat dkX5_waterUnder 9 rfl) rfl hq (b := 64) rfl (by omega) (by omega) (fun h14 => ?_) (fun h14 => ?_)
    ·
      omega
    ·
      refine r_aload_n E (dat dkX5_waterUnder 10 rfl) rfl rfl ?_
      refine q_geta E fl_X5_9 (dat dkX5_waterUnder 11 rfl) rfl rfl rfl ?_
      refine r_iload_n E (dat dkX5_waterUnder 12 rfl) rfl rfl ?_
      refine q_iald E (dat dkX5_waterUnder 13 rfl) rfl rfl (by decide) (gg1_0 gaS_1) hq (by omega) ?_
      refine r_goto (tgt := 27) E (dat dkX5_waterUnder 14 rfl) rfl ?_
      refine r_ireturn E (dat dkX5_waterUnder 16 rfl) (by decide) (by decide) ?_
      exact ⟨rfl, rfl⟩

set_option maxRecDepth 100000 in
set_option maxHeartbeats 4000000 in
theorem sp_X5_flowIntoGutter (l : Launch) (G : GT) (B0 : Nat → Nat → Int32) (mi ra rd fh dr ev dp sw : Int32) (w lv hr ht pl sp wt : Nat → Int32) (B1 : Nat → Nat → Int32) (ro co : Int32) (n : Nat) (bc fr : Int32) (he gu be nm nl bh fp n0 n1 n2 n3 : Nat → Int32) (c : Nat) (M : Mem) (hA0 : M 0 = (vS B0 mi ra rd fh dr ev dp sw w lv hr ht pl sp wt)) (hA1 : M 1 = (vP B1 ro co (nI n) bc fr he gu be nm nl bh fp n0 n1 n2 n3)) (hc : c < 64) : MC l G yX5_flowIntoGutter cX5_flowIntoGutter 3 (some .int) ({ frames := 1, cells := 0, slots := 0, locals := 21 } : Room) [1, 2] lk0 [rv 0 0, rv 1 0, iv (nI c)] (M) (fun r M2 => r = some (iv (imax (gu c - lv c) 0)) ∧ M2 = M) := by
  obtain ⟨M0, rfl⟩ : ∃ M0, M = m2 ((vS B0 mi ra rd fh dr ev dp sw w lv hr ht pl sp wt)) ((vP B1 ro co (nI n) bc fr he gu be nm nl bh fp n0 n1 n2 n3)) M0 := ⟨M, (m2_of hA0 hA1).symm⟩
  clear hA0 hA1
  refine MC.of RX5 [some (rv 0 0), some (rv 1 0), some (iv (nI c))] 0 (by decide +kernel) rfl rfl rfl ?_
  intro pp ee ss mm aa bb me cd ad E
  refine r_aload_n E (dat dkX5_flowIntoGutter 0 rfl) rfl rfl ?_
  refine q_geta E fl_X5_117 (dat dkX5_flowIntoGutter 1 rfl) rfl rfl rfl ?_
  refine r_iload_n E (dat dkX5_flowIntoGutter 2 rfl) rfl rfl ?_
  refine q_iald E (dat dkX5_flowIntoGutter 3 rfl) rfl rfl (by decide) (gg2_1 gaP_2) rfl (by omega) ?_
  refine r_aload_n E (dat dkX5_flowIntoGutter 4 rfl) rfl rfl ?_
  refine q_geta E fl_X5_15 (dat dkX5_flowIntoGutter 5 rfl) rfl rfl rfl ?_
  refine r_iload_n E (dat dkX5_flowIntoGutter 6 rfl) rfl rfl ?_
  refine q_iald E (dat dkX5_flowIntoGutter 7 rfl) rfl rfl (by decide) (gg2_0 gaS_2) rfl (by omega) ?_
  refine r_isub E (dat dkX5_flowIntoGutter 8 rfl) ?_
  refine r_iconst (v := 0) E (dat dkX5_flowIntoGutter 9 rfl) rfl ?_
  refine r_mmax E ml_X5_136 (by decide) (dat dkX5_flowIntoGutter 10 rfl) ?_
  refine r_ireturn E (dat dkX5_flowIntoGutter 11 rfl) (by decide) (by decide) ?_
  exact ⟨rfl, rfl⟩

set_option maxRecDepth 100000 in
set_option maxHeartbeats 4000000 in
theorem sp_X5_lowestBeside (l : Launch) (G : GT) (B0 : Nat → Nat → Int32) (mi ra rd fh dr ev dp sw : Int32) (w lv hr ht pl sp wt : Nat → Int32) (B1 : Nat → Nat → Int32) (ro co : Int32) (n : Nat) (bc fr : Int32) (he gu be nm nl bh fp n0 n1 n2 n3 : Nat → Int32) (c : Nat) (nb : Nat → Nat → Option Nat) (hbe : ∀ c d, c < n → d < 4 → be (c * 4 + d) = oI (nb c d)) (hnb : ∀ c d k, nb c d = some k → k < n) (M : Mem) (hA0 : M 0 = (vS B0 mi ra rd fh dr ev dp sw w lv hr ht pl sp wt)) (hA1 : M 1 = (vP B1 ro co (nI n) bc fr he gu be nm nl bh fp n0 n1 n2 n3)) (hc : c < n) (hn : n ≤ 64) : MC l G yX5_lowestBeside cX5_lowestBeside 8 (some .int) ({ frames := 2, cells := 0, slots := 0, locals := 43 } : Room) [1, 2] lk0 [rv 0 0, rv 1 0, iv (nI c)] (M) (fun r M2 => r = some (iv (oI (loF nb (fun k => he k + w k) c 4))) ∧ M2 = M) := by
  obtain ⟨M0, rfl⟩ : ∃ M0, M = m2 ((vS B0 mi ra rd fh dr ev dp sw w lv hr ht pl sp wt)) ((vP B1 ro co (nI n) bc fr he gu be nm nl bh fp n0 n1 n2 n3)) M0 := ⟨M, (m2_of hA0 hA1).symm⟩
  clear hA0 hA1
  refine MC.of RX5 [some (rv 0 0), some (rv 1 0), some (iv (nI c)), none, none, none, none, none] 5 (by decide +kernel) rfl rfl rfl ?_
  intro pp ee ss mm aa bb me cd ad E
  refine r_iconst (v := -1) E (dat dkX5_lowestBeside 0 rfl) rfl ?_
  refine r_istore_3 E (dat dkX5_lowestBeside 1 rfl) rfl rfl ?_
  refine r_iconst (v := 0) E (dat dkX5_lowestBeside 2 rfl) rfl ?_
  refine r_istore_4 E (dat dkX5_lowestBeside 3 rfl) rfl rfl ?_
  refine r_iconst (v := 0) E (dat dkX5_lowestBeside 4 rfl) rfl ?_
  refine r_istore_5 E (dat dkX5_lowestBeside 5 rfl) rfl rfl ?_
  refine r_for (4) (fun _ => True) (fun i => m2 (vS B0 mi ra rd fh dr ev dp sw w lv hr ht pl sp wt) (vP B1 ro co (nI n) bc fr he gu be nm nl bh fp n0 n1 n2 n3) M0) (fun i => [some (rv 0 0), some (rv 1 0), some (iv (nI c)), some (iv (oI (loF nb (fun k => he k + w k) c i))), some (iv (lvF (fun k => he k + w k) (loF nb (fun k => he k + w k) c i))), some (iv (nI i)), none, none]) trivial rfl rfl ?_ ?_
  · intro i hi hI kk
    refine r_iload E (dat dkX5_lowestBeside 6 rfl) rfl ?_
    refine r_iconst (v := 3) E (dat dkX5_lowestBeside 7 rfl) rfl ?_
    refine q_icmp_gt (tgt := 70) E (dat dkX5_lowestBeside 8 rfl) rfl rfl (b := 3) rfl (by omega) (by omega) (fun h11 => ?_) (fun h11 => ?_)
    ·
      omega
    ·
      refine r_aload_n E (dat dkX5_lowestBeside 9 rfl) rfl rfl ?_
      refine r_iload_n E (dat dkX5_lowestBeside 10 rfl) rfl rfl ?_
      refine r_iload E (dat dkX5_lowestBeside 11 rfl) rfl ?_
      refine r_callV (κ := 2) (μ := [1]) E (sp_X2_cellBeside l G B1 ro co n bc fr he gu be nm nl bh fp n0 n1 n2 n3 c i _ rfl hc hn hi) my_X2_cellBeside iv_X2_cellBeside ml_X5_139 (cm_of rfl) ⟨by decide, rfl, rfl⟩ rfl rfl rfl rfl (by decide) (Nat.le_of_ble_eq_true rfl) (dat dkX5_lowestBeside 12 rfl) ?_
      rintro _ _ ⟨rfl, rfl⟩
      refine ⟨_, Mrg_z rfl, ?_⟩
      rw [hbe c i hc hi]
      rcases hz : nb c i with _ | o
      ·
        refine r_istore_6 E (dat dkX5_lowestBeside 13 rfl) rfl rfl ?_
        refine r_iload E (dat dkX5_lowestBeside 14 rfl) rfl ?_
        refine r_if_lt (tgt := 64) E (dat dkX5_lowestBeside 15 rfl) rfl (fun h25 => ?_) (fun h25 => ?_)
        ·
          refine q_iinc_5 E (dat dkX5_lowestBeside 36 rfl) rfl rfl ?_
          refine r_goto (tgt := 8) E (dat dkX5_lowestBeside 37 rfl) rfl ?_
          first
            | rw [loF_n hz] at kk
            | rw [loF_a hz (Or.inl h47) (fun b hb => by have := hlt b hb; omega)] at kk
            | rw [loF_a hz (Or.inr (i32_lt h54)) (fun b hb => by have := hlt b hb; omega)] at kk
            | rw [loF_b hz h47 (i32_nlt h54)] at kk
          refine r_back ?_ ?_ (kk trivial)
          · rfl
          · exact And.intro rfl (And.intro rfl (And.intro rfl (And.intro rfl (And.intro rfl (And.intro rfl trivial)))))
        ·
          exact absurd (by decide) h25
      ·
        have ho := hnb c i o hz
        have hlt := loF_lt (lev := (fun k => he k + w k)) (hnb c) i
        refine r_istore_6 E (dat dkX5_lowestBeside 13 rfl) rfl rfl ?_
        refine r_iload E (dat dkX5_lowestBeside 14 rfl) rfl ?_
        refine r_if_lt (tgt := 64) E (dat dkX5_lowestBeside 15 rfl) rfl (fun h25 => ?_) (fun h25 => ?_)
        ·
          exact absurd h25 (nI_pos (by omega))
        ·
          refine r_aload_n E (dat dkX5_lowestBeside 16 rfl) rfl rfl ?_
          refine q_geta E fl_X5_142 (dat dkX5_lowestBeside 17 rfl) rfl rfl rfl ?_
          refine r_iload E (dat dkX5_lowestBeside 18 rfl) rfl ?_
          refine q_iald E (dat dkX5_lowestBeside 19 rfl) rfl rfl (by decide) (gg2_1 gaP_1) rfl (by omega) ?_
          refine r_aload_n E (dat dkX5_lowestBeside 20 rfl) rfl rfl ?_
          refine q_geta E fl_X5_9 (dat dkX5_lowestBeside 21 rfl) rfl rfl rfl ?_
          refine r_iload E (dat dkX5_lowestBeside 22 rfl) rfl ?_
          refine q_iald E (dat dkX5_lowestBeside 23 rfl) rfl rfl (by decide) (gg2_0 gaS_1) rfl (by omega) ?_
          refine r_iadd E (dat dkX5_lowestBeside 24 rfl) ?_
          refine r_istore_7 E (dat dkX5_lowestBeside 25 rfl) rfl rfl ?_
          refine r_iload_n E (dat dkX5_lowestBeside 26 rfl) rfl rfl ?_
          refine r_iconst (v := -1) E (dat dkX5_lowestBeside 27 rfl) rfl ?_
          refine r_icmp_eq (tgt := 57) E (dat dkX5_lowestBeside 28 rfl) rfl (fun h47 => ?_) (fun h47 => ?_)
          ·
            refine r_iload E (dat dkX5_lowestBeside 32 rfl) rfl ?_
            refine r_istore_3 E (dat dkX5_lowestBeside 33 rfl) rfl rfl ?_
            refine r_iload E (dat dkX5_lowestBeside 34 rfl) rfl ?_
            refine r_istore_4 E (dat dkX5_lowestBeside 35 rfl) rfl rfl ?_
            refine q_iinc_5 E (dat dkX5_lowestBeside 36 rfl) rfl rfl ?_
            refine r_goto (tgt := 8) E (dat dkX5_lowestBeside 37 rfl) rfl ?_
            first
              | rw [loF_n hz] at kk
              | rw [loF_a hz (Or.inl h47) (fun b hb => by have := hlt b hb; omega)] at kk
              | rw [loF_a hz (Or.inr (i32_lt h54)) (fun b hb => by have := hlt b hb; omega)] at kk
              | rw [loF_b hz h47 (i32_nlt h54)] at kk
            refine r_back ?_ ?_ (kk trivial)
            · rfl
            · exact And.intro rfl (And.intro rfl (And.intro rfl (And.intro rfl (And.intro rfl (And.intro rfl trivial)))))
          ·
            refine r_iload E (dat dkX5_lowestBeside 29 rfl) rfl ?_
            refine r_iload E (dat dkX5_lowestBeside 30 rfl) rfl ?_
            refine r_icmp_ge (tgt := 64) E (dat dkX5_lowestBeside 31 rfl) rfl (fun h54 => ?_) (fun h54 => ?_)
            ·
              refine q_iinc_5 E (dat dkX5_lowestBeside 36 rfl) rfl rfl ?_
              refine r_goto (tgt := 8) E (dat dkX5_lowestBeside 37 rfl) rfl ?_
              first
                | rw [loF_n hz] at kk
                | rw [loF_a hz (Or.inl h47) (fun b hb => by have := hlt b hb; omega)] at kk
                | rw [loF_a hz (Or.inr (i32_lt h54)) (fun b hb => by have := hlt b hb; omega)] at kk
                | rw [loF_b hz h47 (i32_nlt h54)] at kk
              refine r_back ?_ ?_ (kk trivial)
              · rfl
              · exact And.intro rfl (And.intro rfl (And.intro rfl (And.intro rfl (And.intro rfl (And.intro rfl trivial)))))
            ·
              refine r_iload E (dat dkX5_lowestBeside 32 rfl) rfl ?_
              refine r_istore_3 E (dat dkX5_lowestBeside 33 rfl) rfl rfl ?_
              refine r_iload E (dat dkX5_lowestBeside 34 rfl) rfl ?_
              refine r_istore_4 E (dat dkX5_lowestBeside 35 rfl) rfl rfl ?_
              refine q_iinc_5 E (dat dkX5_lowestBeside 36 rfl) rfl rfl ?_
              refine r_goto (tgt := 8) E (dat dkX5_lowestBeside 37 rfl) rfl ?_
              first
                | rw [loF_n hz] at kk
                | rw [loF_a hz (Or.inl h47) (fun b hb => by have := hlt b hb; omega)] at kk
                | rw [loF_a hz (Or.inr (i32_lt h54)) (fun b hb => by have := hlt b hb; omega)] at kk
                | rw [loF_b hz h47 (i32_nlt h54)] at kk
              refine r_back ?_ ?_ (kk trivial)
              · rfl
              · exact And.intro rfl (And.intro rfl (And.intro rfl (And.intro rfl (And.intro rfl (And.intro rfl trivial)))))
  · intro hI
    refine r_iload E (dat dkX5_lowestBeside 6 rfl) rfl ?_
    refine r_iconst (v := 3) E (dat dkX5_lowestBeside 7 rfl) rfl ?_
    refine q_icmp_gt (tgt := 70) E (dat dkX5_lowestBeside 8 rfl) rfl rfl (b := 3) rfl (by omega) (by omega) (fun h11 => ?_) (fun h11 => ?_)
    ·
      refine r_iload_n E (dat dkX5_lowestBeside 38 rfl) rfl rfl ?_
      refine r_ireturn E (dat dkX5_lowestBeside 39 rfl) (by decide) (by decide) ?_
      exact ⟨rfl, rfl⟩
    ·
      omega

set_option maxRecDepth 100000 in
set_option maxHeartbeats 4000000 in
theorem sp_X5_flowBetween (l : Launch) (G : GT) (B0 : Nat → Nat → Int32) (mi ra rd fh dr ev dp sw : Int32) (w lv hr ht pl sp wt : Nat → Int32) (B1 : Nat → Nat → Int32) (ro co : Int32) (n : Nat) (bc fr : Int32) (he gu be nm nl bh fp n0 n1 n2 n3 : Nat → Int32) (c : Nat) (lo : Option Nat) (M : Mem) (hA0 : M 0 = (vS B0 mi ra rd fh dr ev dp sw w lv hr ht pl sp wt)) (hA1 : M 1 = (vP B1 ro co (nI n) bc fr he gu be nm nl bh fp n0 n1 n2 n3)) (hc : c < n) (hn : n ≤ 64) (hlo : ∀ k, lo = some k → k < n) : MC l G yX5_flowBetween cX5_flowBetween 5 (some .int) ({ frames := 1, cells := 0, slots := 0, locals := 21 } : Room) [1, 2] lk0 [rv 0 0, rv 1 0, iv (nI c), iv (oI lo)] (M) (fun r M2 => r = some (iv (flO he w c lo)) ∧ M2 = M) := by
  obtain ⟨M0, rfl⟩ : ∃ M0, M = m2 ((vS B0 mi ra rd fh dr ev dp sw w lv hr ht pl sp wt)) ((vP B1 ro co (nI n) bc fr he gu be nm nl bh fp n0 n1 n2 n3)) M0 := ⟨M, (m2_of hA0 hA1).symm⟩
  clear hA0 hA1
  refine MC.of RX5 [some (rv 0 0), some (rv 1 0), some (iv (nI c)), some (iv (oI lo)), none] 1 (by decide +kernel) rfl rfl rfl ?_
  intro pp ee ss mm aa bb me cd ad E
  rcases lo with _ | o
  ·
    refine r_aload_n E (dat dkX5_flowBetween 0 rfl) rfl rfl ?_
    refine r_iload_n E (dat dkX5_flowBetween 1 rfl) rfl rfl ?_
    refine r_callV (κ := 2) (μ := [1]) E (sp_X2_hasCell l G B1 ro co n bc fr he gu be nm nl bh fp n0 n1 n2 n3 (oI none) _ rfl) my_X2_hasCell iv_X2_hasCell ml_X5_145 (cm_of rfl) ⟨by decide, rfl, rfl⟩ rfl rfl rfl rfl (by decide) (Nat.le_of_ble_eq_true rfl) (dat dkX5_flowBetween 2 rfl) ?_
    rintro _ _ ⟨rfl, rfl⟩
    refine ⟨_, Mrg_z rfl, ?_⟩
    rw [show hcI (oI none) n = 0 from hcI_m1]
    refine r_if_ne (tgt := 10) E (dat dkX5_flowBetween 3 rfl) rfl (fun h5 => ?_) (fun h5 => ?_)
    ·
      exact absurd rfl h5
    ·
      refine r_iconst (v := 0) E (dat dkX5_flowBetween 4 rfl) rfl ?_
      refine r_ireturn E (dat dkX5_flowBetween 5 rfl) (by decide) (by decide) ?_
      exact ⟨rfl, rfl⟩
  ·
    have ho := hlo o rfl
    refine r_aload_n E (dat dkX5_flowBetween 0 rfl) rfl rfl ?_
    refine r_iload_n E (dat dkX5_flowBetween 1 rfl) rfl rfl ?_
    refine r_callV (κ := 2) (μ := [1]) E (sp_X2_hasCell l G B1 ro co n bc fr he gu be nm nl bh fp n0 n1 n2 n3 (oI (some o)) _ rfl) my_X2_hasCell iv_X2_hasCell ml_X5_145 (cm_of rfl) ⟨by decide, rfl, rfl⟩ rfl rfl rfl rfl (by decide) (Nat.le_of_ble_eq_true rfl) (dat dkX5_flowBetween 2 rfl) ?_
    rintro _ _ ⟨rfl, rfl⟩
    refine ⟨_, Mrg_z rfl, ?_⟩
    rw [show hcI (oI (some o)) n = 1 from hcI_in ho hn]
    refine r_if_ne (tgt := 10) E (dat dkX5_flowBetween 3 rfl) rfl (fun h5 => ?_) (fun h5 => ?_)
    ·
      refine r_aload_n E (dat dkX5_flowBetween 6 rfl) rfl rfl ?_
      refine q_geta E fl_X5_142 (dat dkX5_flowBetween 7 rfl) rfl rfl rfl ?_
      refine r_iload_n E (dat dkX5_flowBetween 8 rfl) rfl rfl ?_
      refine q_iald E (dat dkX5_flowBetween 9 rfl) rfl rfl (by decide) (gg2_1 gaP_1) rfl (by omega) ?_
      refine r_aload_n E (dat dkX5_flowBetween 10 rfl) rfl rfl ?_
      refine q_geta E fl_X5_9 (dat dkX5_flowBetween 11 rfl) rfl rfl rfl ?_
      refine r_iload_n E (dat dkX5_flowBetween 12 rfl) rfl rfl ?_
      refine q_iald E (dat dkX5_flowBetween 13 rfl) rfl rfl (by decide) (gg2_0 gaS_1) rfl (by omega) ?_
      refine r_iadd E (dat dkX5_flowBetween 14 rfl) ?_
      refine r_aload_n E (dat dkX5_flowBetween 15 rfl) rfl rfl ?_
      refine q_geta E fl_X5_142 (dat dkX5_flowBetween 16 rfl) rfl rfl rfl ?_
      refine r_iload_n E (dat dkX5_flowBetween 17 rfl) rfl rfl ?_
      refine q_iald E (dat dkX5_flowBetween 18 rfl) rfl rfl (by decide) (gg2_1 gaP_1) rfl (by omega) ?_
      refine r_isub E (dat dkX5_flowBetween 19 rfl) ?_
      refine r_aload_n E (dat dkX5_flowBetween 20 rfl) rfl rfl ?_
      refine q_geta E fl_X5_9 (dat dkX5_flowBetween 21 rfl) rfl rfl rfl ?_
      refine r_iload_n E (dat dkX5_flowBetween 22 rfl) rfl rfl ?_
      refine q_iald E (dat dkX5_flowBetween 23 rfl) rfl rfl (by decide) (gg2_0 gaS_1) rfl (by omega) ?_
      refine r_isub E (dat dkX5_flowBetween 24 rfl) ?_
      refine r_istore_4 E (dat dkX5_flowBetween 25 rfl) rfl rfl ?_
      refine r_iload E (dat dkX5_flowBetween 26 rfl) rfl ?_
      refine r_if_gt (tgt := 48) E (dat dkX5_flowBetween 27 rfl) rfl (fun h41 => ?_) (fun h41 => ?_)
      ·
        refine r_iload E (dat dkX5_flowBetween 30 rfl) rfl ?_
        refine r_iconst (v := 2) E (dat dkX5_flowBetween 31 rfl) rfl ?_
        refine r_idiv E (dat dkX5_flowBetween 32 rfl) (by decide) ?_
        refine r_aload_n E (dat dkX5_flowBetween 33 rfl) rfl rfl ?_
        refine q_geta E fl_X5_9 (dat dkX5_flowBetween 34 rfl) rfl rfl rfl ?_
        refine r_iload_n E (dat dkX5_flowBetween 35 rfl) rfl rfl ?_
        refine q_iald E (dat dkX5_flowBetween 36 rfl) rfl rfl (by decide) (gg2_0 gaS_1) rfl (by omega) ?_
        refine r_mmin E ml_X5_123 (by decide) (dat dkX5_flowBetween 37 rfl) ?_
        refine r_ireturn E (dat dkX5_flowBetween 38 rfl) (by decide) (by decide) ?_
        refine ⟨?_, rfl⟩
        simp only [flO, flA, h41, if_true, if_false]
      ·
        refine r_iconst (v := 0) E (dat dkX5_flowBetween 28 rfl) rfl ?_
        refine r_goto (tgt := 61) E (dat dkX5_flowBetween 29 rfl) rfl ?_
        refine r_ireturn E (dat dkX5_flowBetween 38 rfl) (by decide) (by decide) ?_
        refine ⟨?_, rfl⟩
        simp only [flO, flA, h41, if_true, if_false]
    ·
      exact absurd h5 (by decide)

set_option maxRecDepth 100000 in
set_option maxHeartbeats 4000000 in
theorem sp_X5_wetIfTooDeep (l : Launch) (G : GT) (B0 : Nat → Nat → Int32) (mi ra rd fh dr ev dp sw : Int32) (w lv hr ht pl sp wt : Nat → Int32) (B1 : Nat → Nat → Int32) (ro co : Int32) (n : Nat) (bc fr : Int32) (he gu be nm nl bh fp n0 n1 n2 n3 : Nat → Int32) (b q : Nat) (M : Mem) (hA0 : M 0 = (vS B0 mi ra rd fh dr ev dp sw w lv hr ht pl sp wt)) (hA1 : M 1 = (vP B1 ro co (nI n) bc fr he gu be nm nl bh fp n0 n1 n2 n3)) (hb : b < 4) (hq : pl b = nI q) (hq6 : q < 64) : MC l G yX5_wetIfTooDeep cX5_wetIfTooDeep 3 none ({ frames := 1, cells := 0, slots := 0, locals := 22 } : Room) [1, 2] lk0 [rv 0 0, rv 1 0, iv (nI b)] (M) (fun r M2 => r = none ∧ M2 = setm M 0 (vS B0 mi ra rd fh dr ev dp sw w lv hr ht pl sp (if bh b < w q then upd wt b 1 else wt))) := by
  obtain ⟨M0, rfl⟩ : ∃ M0, M = m2 ((vS B0 mi ra rd fh dr ev dp sw w lv hr ht pl sp wt)) ((vP B1 ro co (nI n) bc fr he gu be nm nl bh fp n0 n1 n2 n3)) M0 := ⟨M, (m2_of hA0 hA1).symm⟩
  clear hA0 hA1
  refine MC.of RX5 [some (rv 0 0), some (rv 1 0), some (iv (nI b))] 0 (by decide +kernel) rfl rfl rfl ?_
  intro pp ee ss mm aa bb me cd ad E
  refine r_aload_n E (dat dkX5_wetIfTooDeep 0 rfl) rfl rfl ?_
  refine r_iload_n E (dat dkX5_wetIfTooDeep 1 rfl) rfl rfl ?_
  refine r_callV (κ := 1) (μ := [0]) E (sp_X5_waterUnder l G B0 mi ra rd fh dr ev dp sw w lv hr ht pl sp wt b q _ rfl hb hq hq6) my_X5_waterUnder iv_X5_waterUnder ml_X5_129 (cm_of rfl) ⟨by decide, rfl, rfl⟩ rfl rfl rfl rfl (by decide) (Nat.le_of_ble_eq_true rfl) (dat dkX5_wetIfTooDeep 2 rfl) ?_
  rintro _ _ ⟨rfl, rfl⟩
  refine ⟨_, Mrg_z rfl, ?_⟩
  refine r_aload_n E (dat dkX5_wetIfTooDeep 3 rfl) rfl rfl ?_
  refine q_geta E fl_X5_133 (dat dkX5_wetIfTooDeep 4 rfl) rfl rfl rfl ?_
  refine r_iload_n E (dat dkX5_wetIfTooDeep 5 rfl) rfl rfl ?_
  refine q_iald E (dat dkX5_wetIfTooDeep 6 rfl) rfl rfl (by decide) (gg2_1 gaP_6) rfl (by omega) ?_
  refine r_icmp_le (tgt := 21) E (dat dkX5_wetIfTooDeep 7 rfl) rfl (fun h11 => ?_) (fun h11 => ?_)
  ·
    refine r_vreturn E (dat dkX5_wetIfTooDeep 13 rfl) (by decide) (by decide) ?_
    refine ⟨rfl, ?_⟩
    rw [pm2_0]
    first
      | rw [if_neg (i32_nlt h11)]
      | rw [if_pos (i32_nle h11)]
  ·
    refine r_aload_n E (dat dkX5_wetIfTooDeep 8 rfl) rfl rfl ?_
    refine q_geta E fl_X5_30 (dat dkX5_wetIfTooDeep 9 rfl) rfl rfl rfl ?_
    refine r_iload_n E (dat dkX5_wetIfTooDeep 10 rfl) rfl rfl ?_
    refine r_iconst (v := 1) E (dat dkX5_wetIfTooDeep 11 rfl) rfl ?_
    refine q_zast E (dat dkX5_wetIfTooDeep 12 rfl) rfl rfl (by decide) (gg2_0 gaS_7) (fun _ => sa2_0 paS_7) rfl (by omega) (z := 1) rfl ?_
    refine r_vreturn E (dat dkX5_wetIfTooDeep 13 rfl) (by decide) (by decide) ?_
    refine ⟨rfl, ?_⟩
    rw [pm2_0]
    first
      | rw [if_neg (i32_nlt h11)]
      | rw [if_pos (i32_nle h11)]

set_option maxRecDepth 100000 in
set_option maxHeartbeats 4000000 in
theorem sp_X5_runHydrants (l : Launch) (G : GT) (B0 : Nat → Nat → Int32) (mi ra rd fh dr ev dp sw : Int32) (w lv hr ht pl sp wt : Nat → Int32) (B1 : Nat → Nat → Int32) (ro co : Int32) (n : Nat) (bc fr : Int32) (he gu be nm nl bh fp n0 n1 n2 n3 : Nat → Int32) (M : Mem) (hA0 : M 0 = (vS B0 mi ra rd fh dr ev dp sw w lv hr ht pl sp wt)) (hA1 : M 1 = (vP B1 ro co (nI n) bc fr he gu be nm nl bh fp n0 n1 n2 n3)) (hn : n ≤ 64) : MC l G yX5_runHydrants cX5_runHydrants 3 none ({ frames := 1, cells := 0, slots := 0, locals := 21 } : Room) [1, 2] lk0 [rv 0 0, rv 1 0] (M) (fun r M2 => r = none ∧ M2 = setm M 0 (vS B0 mi ra rd (fh + sm (oF ht hr) n) dr ev dp sw (fil (oW ht hr w) w n) lv (fil (oR ht hr) hr n) (fil (oT ht) ht n) pl sp wt)) := by
  obtain ⟨M0, rfl⟩ : ∃ M0, M = m2 ((vS B0 mi ra rd fh dr ev dp sw w lv hr ht pl sp wt)) ((vP B1 ro co (nI n) bc fr he gu be nm nl bh fp n0 n1 n2 n3)) M0 := ⟨M, (m2_of hA0 hA1).symm⟩
  clear hA0 hA1
  refine MC.of RX5 [some (rv 0 0), some (rv 1 0), none] 1 (by decide +kernel) rfl rfl rfl ?_
  intro pp ee ss mm aa bb me cd ad E
  refine r_iconst (v := 0) E (dat dkX5_runHydrants 0 rfl) rfl ?_
  refine r_istore_2 E (dat dkX5_runHydrants 1 rfl) rfl rfl ?_
  refine r_for (n) (fun _ => True) (fun i => m2 (vS B0 mi ra rd (fh + sm (oF ht hr) i) dr ev dp sw (fil (oW ht hr w) w i) lv (fil (oR ht hr) hr i) (fil (oT ht) ht i) pl sp wt) (vP B1 ro co (nI n) bc fr he gu be nm nl bh fp n0 n1 n2 n3) M0) (fun i => [some (rv 0 0), some (rv 1 0), some (iv (nI i))]) trivial (by rw [fil_0, fil_0, fil_0, sm_0]) rfl ?_ ?_
  · intro i hi hI kk
    refine r_iload_n E (dat dkX5_runHydrants 2 rfl) rfl rfl ?_
    refine r_aload_n E (dat dkX5_runHydrants 3 rfl) rfl rfl ?_
    refine q_getn E fl_X5_102 (dat dkX5_runHydrants 4 rfl) rfl rfl rfl (go2_1 gfP_9) ?_
    refine q_icmp_ge (tgt := 80) E (dat dkX5_runHydrants 5 rfl) rfl rfl rfl (by omega) (by omega) (fun h7 => ?_) (fun h7 => ?_)
    ·
      omega
    ·
      refine r_aload_n E (dat dkX5_runHydrants 6 rfl) rfl rfl ?_
      refine r_iload_n E (dat dkX5_runHydrants 7 rfl) rfl rfl ?_
      refine r_callV (κ := 1) (μ := [0]) E (sp_X5_isOpen l G B0 mi ra rd (fh + sm (oF ht hr) i) dr ev dp sw (fil (oW ht hr w) w i) lv (fil (oR ht hr) hr i) (fil (oT ht) ht i) pl sp wt i _ rfl (by omega)) my_X5_isOpen iv_X5_isOpen ml_X5_105 (cm_of rfl) ⟨by decide, rfl, rfl⟩ rfl rfl rfl rfl (by decide) (Nat.le_of_ble_eq_true rfl) (dat dkX5_runHydrants 8 rfl) ?_
      rintro _ _ ⟨rfl, rfl⟩
      refine ⟨_, Mrg_z rfl, ?_⟩
      rw [fil_at]
      refine r_if_eq (tgt := 74) E (dat dkX5_runHydrants 9 rfl) rfl (fun h15 => ?_) (fun h15 => ?_)
      ·
        have hh := opI_0.mp h15
        refine q_iinc_2 E (dat dkX5_runHydrants 48 rfl) rfl rfl ?_
        refine r_goto (tgt := 2) E (dat dkX5_runHydrants 49 rfl) rfl ?_
        refine r_back ?_ ?_ (kk trivial)
        rotate_left
        · exact And.intro rfl (And.intro rfl (And.intro rfl trivial))
        congr 2 <;> first
          | with_reducible rfl
          | exact (fil_upd (oW_u hh)).symm
          | exact (fil_upd (oT_u hh)).symm
          | exact (fil_upd (oR_b hh h64).symm).symm
          | exact fil_same (oR_a hh h64)
          | exact sm_next _ (if_neg hh).symm
          | exact fil_same (if_pos hh)
          | exact sm_same _ (if_pos hh)
      ·
        have hh : ¬ ht i ≤ 0 := fun q => h15 (opI_0.mpr q)
        refine r_aload_n E (dat dkX5_runHydrants 10 rfl) rfl rfl ?_
        refine q_geta E fl_X5_9 (dat dkX5_runHydrants 11 rfl) rfl rfl rfl ?_
        refine r_iload_n E (dat dkX5_runHydrants 12 rfl) rfl rfl ?_
        refine r_dup2 E (dat dkX5_runHydrants 13 rfl) rfl rfl ?_
        refine q_iald E (dat dkX5_runHydrants 14 rfl) rfl rfl (by decide) (gg2_0 gaS_1) rfl (by omega) ?_
        refine r_aload_n E (dat dkX5_runHydrants 15 rfl) rfl rfl ?_
        refine q_geta E fl_X5_18 (dat dkX5_runHydrants 16 rfl) rfl rfl rfl ?_
        refine r_iload_n E (dat dkX5_runHydrants 17 rfl) rfl rfl ?_
        refine q_iald E (dat dkX5_runHydrants 18 rfl) rfl rfl (by decide) (gg2_0 gaS_3) rfl (by omega) ?_
        refine r_iadd E (dat dkX5_runHydrants 19 rfl) ?_
        refine q_iast E (dat dkX5_runHydrants 20 rfl) rfl rfl (by decide) (gg2_0 gaS_1) (fun _ => sa2_0 paS_1) rfl (by omega) ?_
        refine r_aload_n E (dat dkX5_runHydrants 21 rfl) rfl rfl ?_
        refine r_dup E (dat dkX5_runHydrants 22 rfl) rfl ?_
        refine q_getn E fl_X5_44 (dat dkX5_runHydrants 23 rfl) rfl rfl rfl (go2_0 gfS_10) ?_
        refine r_aload_n E (dat dkX5_runHydrants 24 rfl) rfl rfl ?_
        refine q_geta E fl_X5_18 (dat dkX5_runHydrants 25 rfl) rfl rfl rfl ?_
        refine r_iload_n E (dat dkX5_runHydrants 26 rfl) rfl rfl ?_
        refine q_iald E (dat dkX5_runHydrants 27 rfl) rfl rfl (by decide) (gg2_0 gaS_3) rfl (by omega) ?_
        refine r_iadd E (dat dkX5_runHydrants 28 rfl) ?_
        refine q_putn E ft_X5_44 (dat dkX5_runHydrants 29 rfl) rfl rfl rfl (sf2_0 pfS_10) ?_
        refine r_aload_n E (dat dkX5_runHydrants 30 rfl) rfl rfl ?_
        refine q_geta E fl_X5_21 (dat dkX5_runHydrants 31 rfl) rfl rfl rfl ?_
        refine r_iload_n E (dat dkX5_runHydrants 32 rfl) rfl rfl ?_
        refine r_dup2 E (dat dkX5_runHydrants 33 rfl) rfl rfl ?_
        refine q_iald E (dat dkX5_runHydrants 34 rfl) rfl rfl (by decide) (gg2_0 gaS_4) rfl (by omega) ?_
        refine r_iconst (v := 1) E (dat dkX5_runHydrants 35 rfl) rfl ?_
        refine r_isub E (dat dkX5_runHydrants 36 rfl) ?_
        refine q_iast E (dat dkX5_runHydrants 37 rfl) rfl rfl (by decide) (gg2_0 gaS_4) (fun _ => sa2_0 paS_4) rfl (by omega) ?_
        refine r_aload_n E (dat dkX5_runHydrants 38 rfl) rfl rfl ?_
        refine q_geta E fl_X5_21 (dat dkX5_runHydrants 39 rfl) rfl rfl rfl ?_
        refine r_iload_n E (dat dkX5_runHydrants 40 rfl) rfl rfl ?_
        refine q_iald E (dat dkX5_runHydrants 41 rfl) rfl rfl (by decide) (gg2_0 gaS_4) rfl (by omega) ?_
        rw [pk_us]; simp only [fil_at]
        refine r_if_ne (tgt := 74) E (dat dkX5_runHydrants 42 rfl) rfl (fun h64 => ?_) (fun h64 => ?_)
        ·
          refine q_iinc_2 E (dat dkX5_runHydrants 48 rfl) rfl rfl ?_
          refine r_goto (tgt := 2) E (dat dkX5_runHydrants 49 rfl) rfl ?_
          refine r_back ?_ ?_ (kk trivial)
          rotate_left
          · exact And.intro rfl (And.intro rfl (And.intro rfl trivial))
          congr 2 <;> first
            | with_reducible rfl
            | exact (fil_upd (oW_u hh)).symm
            | exact (fil_upd (oT_u hh)).symm
            | exact (fil_upd (oR_b hh h64).symm).symm
            | exact fil_same (oR_a hh h64)
            | exact sm_next _ (if_neg hh).symm
            | exact fil_same (if_pos hh)
            | exact sm_same _ (if_pos hh)
        ·
          refine r_aload_n E (dat dkX5_runHydrants 43 rfl) rfl rfl ?_
          refine q_geta E fl_X5_18 (dat dkX5_runHydrants 44 rfl) rfl rfl rfl ?_
          refine r_iload_n E (dat dkX5_runHydrants 45 rfl) rfl rfl ?_
          refine r_iconst (v := 0) E (dat dkX5_runHydrants 46 rfl) rfl ?_
          refine q_iast E (dat dkX5_runHydrants 47 rfl) rfl rfl (by decide) (gg2_0 gaS_3) (fun _ => sa2_0 paS_3) rfl (by omega) ?_
          refine q_iinc_2 E (dat dkX5_runHydrants 48 rfl) rfl rfl ?_
          refine r_goto (tgt := 2) E (dat dkX5_runHydrants 49 rfl) rfl ?_
          refine r_back ?_ ?_ (kk trivial)
          rotate_left
          · exact And.intro rfl (And.intro rfl (And.intro rfl trivial))
          congr 2 <;> first
            | with_reducible rfl
            | exact (fil_upd (oW_u hh)).symm
            | exact (fil_upd (oT_u hh)).symm
            | exact (fil_upd (oR_b hh h64).symm).symm
            | exact fil_same (oR_a hh h64)
            | exact sm_next _ (if_neg hh).symm
            | exact fil_same (if_pos hh)
            | exact sm_same _ (if_pos hh)
  · intro hI
    refine r_iload_n E (dat dkX5_runHydrants 2 rfl) rfl rfl ?_
    refine r_aload_n E (dat dkX5_runHydrants 3 rfl) rfl rfl ?_
    refine q_getn E fl_X5_102 (dat dkX5_runHydrants 4 rfl) rfl rfl rfl (go2_1 gfP_9) ?_
    refine q_icmp_ge (tgt := 80) E (dat dkX5_runHydrants 5 rfl) rfl rfl rfl (by omega) (by omega) (fun h7 => ?_) (fun h7 => ?_)
    ·
      refine r_vreturn E (dat dkX5_runHydrants 50 rfl) (by decide) (by decide) ?_
      exact ⟨rfl, by rw [pm2_0]⟩
    ·
      omega

set_option maxRecDepth 100000 in
set_option maxHeartbeats 4000000 in
theorem sp_X5_flowEverywhere (l : Launch) (G : GT) (B0 : Nat → Nat → Int32) (mi ra rd fh dr ev dp sw : Int32) (w lv hr ht pl sp wt : Nat → Int32) (B1 : Nat → Nat → Int32) (ro co : Int32) (n : Nat) (bc fr : Int32) (he gu be nm nl bh fp n0 n1 n2 n3 : Nat → Int32) (nb : Nat → Nat → Option Nat) (hbe : ∀ c d, c < n → d < 4 → be (c * 4 + d) = oI (nb c d)) (hnb : ∀ c d k, nb c d = some k → k < n) (M : Mem) (hA0 : M 0 = (vS B0 mi ra rd fh dr ev dp sw w lv hr ht pl sp wt)) (hA1 : M 1 = (vP B1 ro co (nI n) bc fr he gu be nm nl bh fp n0 n1 n2 n3)) (hn : n ≤ 64) : MC l G yX5_flowEverywhere cX5_flowEverywhere 5 none ({ frames := 3, cells := 0, slots := 0, locals := 70 } : Room) [1, 2] lk0 [rv 0 0, rv 1 0] (M) (fun r M2 => r = none ∧ M2 = setm M 0 (vS B0 mi ra rd fh dr ev dp sw ((fwN he gu nb (w, lv) n).1) ((fwN he gu nb (w, lv) n).2) hr ht pl sp wt)) := by
  obtain ⟨M0, rfl⟩ : ∃ M0, M = m2 ((vS B0 mi ra rd fh dr ev dp sw w lv hr ht pl sp wt)) ((vP B1 ro co (nI n) bc fr he gu be nm nl bh fp n0 n1 n2 n3)) M0 := ⟨M, (m2_of hA0 hA1).symm⟩
  clear hA0 hA1
  refine MC.of RX5 [some (rv 0 0), some (rv 1 0), none, none, none] 3 (by decide +kernel) rfl rfl rfl ?_
  intro pp ee ss mm aa bb me cd ad E
  refine r_iconst (v := 0) E (dat dkX5_flowEverywhere 0 rfl) rfl ?_
  refine r_istore_2 E (dat dkX5_flowEverywhere 1 rfl) rfl rfl ?_
  refine r_for (n) (fun _ => True) (fun i => m2 (vS B0 mi ra rd fh dr ev dp sw ((fwN he gu nb (w, lv) i).1) ((fwN he gu nb (w, lv) i).2) hr ht pl sp wt) (vP B1 ro co (nI n) bc fr he gu be nm nl bh fp n0 n1 n2 n3) M0) (fun i => [some (rv 0 0), some (rv 1 0), some (iv (nI i)), none, none]) trivial rfl rfl ?_ ?_
  · intro i hi hI kk
    rw [show fwN he gu nb (w, lv) (i + 1) = fwS he gu nb (fwN he gu nb (w, lv) i) i from rfl] at kk
    generalize fwN he gu nb (w, lv) i = X at kk ⊢
    obtain ⟨x, y⟩ := X
    dsimp only at kk ⊢
    refine r_iload_n E (dat dkX5_flowEverywhere 2 rfl) rfl rfl ?_
    refine r_aload_n E (dat dkX5_flowEverywhere 3 rfl) rfl rfl ?_
    refine q_getn E fl_X5_102 (dat dkX5_flowEverywhere 4 rfl) rfl rfl rfl (go2_1 gfP_9) ?_
    refine q_icmp_ge (tgt := 97) E (dat dkX5_flowEverywhere 5 rfl) rfl rfl rfl (by omega) (by omega) (fun h7 => ?_) (fun h7 => ?_)
    ·
      omega
    ·
      refine r_aload_n E (dat dkX5_flowEverywhere 6 rfl) rfl rfl ?_
      refine r_aload_n E (dat dkX5_flowEverywhere 7 rfl) rfl rfl ?_
      refine r_iload_n E (dat dkX5_flowEverywhere 8 rfl) rfl rfl ?_
      refine r_callV (κ := 1) (μ := [0, 1]) E (sp_X5_lowestBeside l G B0 mi ra rd fh dr ev dp sw x y hr ht pl sp wt B1 ro co n bc fr he gu be nm nl bh fp n0 n1 n2 n3 i nb hbe hnb _ rfl rfl hi hn) my_X5_lowestBeside iv_X5_lowestBeside ml_X5_109 (cm_of rfl) ⟨by decide, rfl, rfl⟩ rfl rfl rfl rfl (by decide) (Nat.le_of_ble_eq_true rfl) (dat dkX5_flowEverywhere 9 rfl) ?_
      rintro _ _ ⟨rfl, rfl⟩
      refine ⟨_, Mrg_z rfl, ?_⟩
      rcases hz : loF nb (fun k => he k + x k) i 4 with _ | o
      ·
        refine r_istore_3 E (dat dkX5_flowEverywhere 10 rfl) rfl rfl ?_
        refine r_aload_n E (dat dkX5_flowEverywhere 11 rfl) rfl rfl ?_
        refine r_aload_n E (dat dkX5_flowEverywhere 12 rfl) rfl rfl ?_
        refine r_iload_n E (dat dkX5_flowEverywhere 13 rfl) rfl rfl ?_
        refine r_iload_n E (dat dkX5_flowEverywhere 14 rfl) rfl rfl ?_
        refine r_callV (κ := 1) (μ := [0, 1]) E (sp_X5_flowBetween l G B0 mi ra rd fh dr ev dp sw x y hr ht pl sp wt B1 ro co n bc fr he gu be nm nl bh fp n0 n1 n2 n3 i (none) _ rfl rfl hi hn (fun k hk => by first | (cases hk; done) | (cases hk; exact ho))) my_X5_flowBetween iv_X5_flowBetween ml_X5_113 (cm_of rfl) ⟨by decide, rfl, rfl⟩ rfl rfl rfl rfl (by decide) (Nat.le_of_ble_eq_true rfl) (dat dkX5_flowEverywhere 15 rfl) ?_
        rintro _ _ ⟨rfl, rfl⟩
        refine ⟨_, Mrg_z rfl, ?_⟩
        refine r_istore_4 E (dat dkX5_flowEverywhere 16 rfl) rfl rfl ?_
        refine r_iload E (dat dkX5_flowEverywhere 17 rfl) rfl ?_
        refine r_if_le (tgt := 91) E (dat dkX5_flowEverywhere 18 rfl) rfl (fun h28 => ?_) (fun h28 => ?_)
        ·
          refine q_iinc_2 E (dat dkX5_flowEverywhere 61 rfl) rfl rfl ?_
          refine r_goto (tgt := 2) E (dat dkX5_flowEverywhere 62 rfl) rfl ?_
          first
            | rw [fwS_0 (he := he) (gu := gu) (nb := nb) (x := (x, y)) (c := i) hz] at kk
            | rw [fwS_1 (he := he) (gu := gu) (nb := nb) (x := (x, y)) (c := i) hz h28] at kk
            | rw [fwS_2 (he := he) (gu := gu) (nb := nb) (x := (x, y)) (c := i) hz h28] at kk
          refine r_back ?_ ?_ (kk trivial)
          rotate_left
          · exact And.intro rfl (And.intro rfl (And.intro rfl trivial))
          first
            | with_reducible rfl
            | (rw [fw_if1 h59]; done)
            | (rw [fw_if2 h68]; done)
            | (rw [fw_if3 h59 h68]; done)
        ·
          exact absurd (show flO he x i none ≤ 0 from (by decide : (0 : Int32) ≤ 0)) h28
      ·
        have ho := loF_lt (hnb i) 4 o hz
        refine r_istore_3 E (dat dkX5_flowEverywhere 10 rfl) rfl rfl ?_
        refine r_aload_n E (dat dkX5_flowEverywhere 11 rfl) rfl rfl ?_
        refine r_aload_n E (dat dkX5_flowEverywhere 12 rfl) rfl rfl ?_
        refine r_iload_n E (dat dkX5_flowEverywhere 13 rfl) rfl rfl ?_
        refine r_iload_n E (dat dkX5_flowEverywhere 14 rfl) rfl rfl ?_
        refine r_callV (κ := 1) (μ := [0, 1]) E (sp_X5_flowBetween l G B0 mi ra rd fh dr ev dp sw x y hr ht pl sp wt B1 ro co n bc fr he gu be nm nl bh fp n0 n1 n2 n3 i (some o) _ rfl rfl hi hn (fun k hk => by first | (cases hk; done) | (cases hk; exact ho))) my_X5_flowBetween iv_X5_flowBetween ml_X5_113 (cm_of rfl) ⟨by decide, rfl, rfl⟩ rfl rfl rfl rfl (by decide) (Nat.le_of_ble_eq_true rfl) (dat dkX5_flowEverywhere 15 rfl) ?_
        rintro _ _ ⟨rfl, rfl⟩
        refine ⟨_, Mrg_z rfl, ?_⟩
        refine r_istore_4 E (dat dkX5_flowEverywhere 16 rfl) rfl rfl ?_
        refine r_iload E (dat dkX5_flowEverywhere 17 rfl) rfl ?_
        refine r_if_le (tgt := 91) E (dat dkX5_flowEverywhere 18 rfl) rfl (fun h28 => ?_) (fun h28 => ?_)
        ·
          refine q_iinc_2 E (dat dkX5_flowEverywhere 61 rfl) rfl rfl ?_
          refine r_goto (tgt := 2) E (dat dkX5_flowEverywhere 62 rfl) rfl ?_
          first
            | rw [fwS_0 (he := he) (gu := gu) (nb := nb) (x := (x, y)) (c := i) hz] at kk
            | rw [fwS_1 (he := he) (gu := gu) (nb := nb) (x := (x, y)) (c := i) hz h28] at kk
            | rw [fwS_2 (he := he) (gu := gu) (nb := nb) (x := (x, y)) (c := i) hz h28] at kk
          refine r_back ?_ ?_ (kk trivial)
          rotate_left
          · exact And.intro rfl (And.intro rfl (And.intro rfl trivial))
          first
            | with_reducible rfl
            | (rw [fw_if1 h59]; done)
            | (rw [fw_if2 h68]; done)
            | (rw [fw_if3 h59 h68]; done)
        ·
          refine r_aload_n E (dat dkX5_flowEverywhere 19 rfl) rfl rfl ?_
          refine q_geta E fl_X5_9 (dat dkX5_flowEverywhere 20 rfl) rfl rfl rfl ?_
          refine r_iload_n E (dat dkX5_flowEverywhere 21 rfl) rfl rfl ?_
          refine r_dup2 E (dat dkX5_flowEverywhere 22 rfl) rfl rfl ?_
          refine q_iald E (dat dkX5_flowEverywhere 23 rfl) rfl rfl (by decide) (gg2_0 gaS_1) rfl (by omega) ?_
          refine r_iload E (dat dkX5_flowEverywhere 24 rfl) rfl ?_
          refine r_isub E (dat dkX5_flowEverywhere 25 rfl) ?_
          refine q_iast E (dat dkX5_flowEverywhere 26 rfl) rfl rfl (by decide) (gg2_0 gaS_1) (fun _ => sa2_0 paS_1) rfl (by omega) ?_
          refine r_aload_n E (dat dkX5_flowEverywhere 27 rfl) rfl rfl ?_
          refine q_geta E fl_X5_9 (dat dkX5_flowEverywhere 28 rfl) rfl rfl rfl ?_
          refine r_iload_n E (dat dkX5_flowEverywhere 29 rfl) rfl rfl ?_
          refine r_dup2 E (dat dkX5_flowEverywhere 30 rfl) rfl rfl ?_
          refine q_iald E (dat dkX5_flowEverywhere 31 rfl) rfl rfl (by decide) (gg2_0 gaS_1) rfl (by omega) ?_
          refine r_iload E (dat dkX5_flowEverywhere 32 rfl) rfl ?_
          refine r_iadd E (dat dkX5_flowEverywhere 33 rfl) ?_
          refine q_iast E (dat dkX5_flowEverywhere 34 rfl) rfl rfl (by decide) (gg2_0 gaS_1) (fun _ => sa2_0 paS_1) rfl (by omega) ?_
          refine r_aload_n E (dat dkX5_flowEverywhere 35 rfl) rfl rfl ?_
          refine q_geta E fl_X5_15 (dat dkX5_flowEverywhere 36 rfl) rfl rfl rfl ?_
          refine r_iload_n E (dat dkX5_flowEverywhere 37 rfl) rfl rfl ?_
          refine q_iald E (dat dkX5_flowEverywhere 38 rfl) rfl rfl (by decide) (gg2_0 gaS_2) rfl (by omega) ?_
          refine r_if_le (tgt := 91) E (dat dkX5_flowEverywhere 39 rfl) rfl (fun h59 => ?_) (fun h59 => ?_)
          ·
            refine q_iinc_2 E (dat dkX5_flowEverywhere 61 rfl) rfl rfl ?_
            refine r_goto (tgt := 2) E (dat dkX5_flowEverywhere 62 rfl) rfl ?_
            first
              | rw [fwS_0 (he := he) (gu := gu) (nb := nb) (x := (x, y)) (c := i) hz] at kk
              | rw [fwS_1 (he := he) (gu := gu) (nb := nb) (x := (x, y)) (c := i) hz h28] at kk
              | rw [fwS_2 (he := he) (gu := gu) (nb := nb) (x := (x, y)) (c := i) hz h28] at kk
            refine r_back ?_ ?_ (kk trivial)
            rotate_left
            · exact And.intro rfl (And.intro rfl (And.intro rfl trivial))
            first
              | with_reducible rfl
              | (rw [fw_if1 h59]; done)
              | (rw [fw_if2 h68]; done)
              | (rw [fw_if3 h59 h68]; done)
          ·
            refine r_aload_n E (dat dkX5_flowEverywhere 40 rfl) rfl rfl ?_
            refine q_geta E fl_X5_117 (dat dkX5_flowEverywhere 41 rfl) rfl rfl rfl ?_
            refine r_iload_n E (dat dkX5_flowEverywhere 42 rfl) rfl rfl ?_
            refine q_iald E (dat dkX5_flowEverywhere 43 rfl) rfl rfl (by decide) (gg2_1 gaP_2) rfl (by omega) ?_
            refine r_if_ne (tgt := 91) E (dat dkX5_flowEverywhere 44 rfl) rfl (fun h68 => ?_) (fun h68 => ?_)
            ·
              refine q_iinc_2 E (dat dkX5_flowEverywhere 61 rfl) rfl rfl ?_
              refine r_goto (tgt := 2) E (dat dkX5_flowEverywhere 62 rfl) rfl ?_
              first
                | rw [fwS_0 (he := he) (gu := gu) (nb := nb) (x := (x, y)) (c := i) hz] at kk
                | rw [fwS_1 (he := he) (gu := gu) (nb := nb) (x := (x, y)) (c := i) hz h28] at kk
                | rw [fwS_2 (he := he) (gu := gu) (nb := nb) (x := (x, y)) (c := i) hz h28] at kk
              refine r_back ?_ ?_ (kk trivial)
              rotate_left
              · exact And.intro rfl (And.intro rfl (And.intro rfl trivial))
              first
                | with_reducible rfl
                | (rw [fw_if1 h59]; done)
                | (rw [fw_if2 h68]; done)
                | (rw [fw_if3 h59 h68]; done)
            ·
              refine r_aload_n E (dat dkX5_flowEverywhere 45 rfl) rfl rfl ?_
              refine q_geta E fl_X5_15 (dat dkX5_flowEverywhere 46 rfl) rfl rfl rfl ?_
              refine r_iload_n E (dat dkX5_flowEverywhere 47 rfl) rfl rfl ?_
              refine r_dup2 E (dat dkX5_flowEverywhere 48 rfl) rfl rfl ?_
              refine q_iald E (dat dkX5_flowEverywhere 49 rfl) rfl rfl (by decide) (gg2_0 gaS_2) rfl (by omega) ?_
              refine r_iconst (v := 1) E (dat dkX5_flowEverywhere 50 rfl) rfl ?_
              refine r_isub E (dat dkX5_flowEverywhere 51 rfl) ?_
              refine q_iast E (dat dkX5_flowEverywhere 52 rfl) rfl rfl (by decide) (gg2_0 gaS_2) (fun _ => sa2_0 paS_2) rfl (by omega) ?_
              refine r_aload_n E (dat dkX5_flowEverywhere 53 rfl) rfl rfl ?_
              refine q_geta E fl_X5_15 (dat dkX5_flowEverywhere 54 rfl) rfl rfl rfl ?_
              refine r_iload_n E (dat dkX5_flowEverywhere 55 rfl) rfl rfl ?_
              refine r_dup2 E (dat dkX5_flowEverywhere 56 rfl) rfl rfl ?_
              refine q_iald E (dat dkX5_flowEverywhere 57 rfl) rfl rfl (by decide) (gg2_0 gaS_2) rfl (by omega) ?_
              refine r_iconst (v := 1) E (dat dkX5_flowEverywhere 58 rfl) rfl ?_
              refine r_iadd E (dat dkX5_flowEverywhere 59 rfl) ?_
              refine q_iast E (dat dkX5_flowEverywhere 60 rfl) rfl rfl (by decide) (gg2_0 gaS_2) (fun _ => sa2_0 paS_2) rfl (by omega) ?_
              refine q_iinc_2 E (dat dkX5_flowEverywhere 61 rfl) rfl rfl ?_
              refine r_goto (tgt := 2) E (dat dkX5_flowEverywhere 62 rfl) rfl ?_
              first
                | rw [fwS_0 (he := he) (gu := gu) (nb := nb) (x := (x, y)) (c := i) hz] at kk
                | rw [fwS_1 (he := he) (gu := gu) (nb := nb) (x := (x, y)) (c := i) hz h28] at kk
                | rw [fwS_2 (he := he) (gu := gu) (nb := nb) (x := (x, y)) (c := i) hz h28] at kk
              refine r_back ?_ ?_ (kk trivial)
              rotate_left
              · exact And.intro rfl (And.intro rfl (And.intro rfl trivial))
              first
                | with_reducible rfl
                | (rw [fw_if1 h59]; done)
                | (rw [fw_if2 h68]; done)
                | (rw [fw_if3 h59 h68]; done)
  · intro hI
    refine r_iload_n E (dat dkX5_flowEverywhere 2 rfl) rfl rfl ?_
    refine r_aload_n E (dat dkX5_flowEverywhere 3 rfl) rfl rfl ?_
    refine q_getn E fl_X5_102 (dat dkX5_flowEverywhere 4 rfl) rfl rfl rfl (go2_1 gfP_9) ?_
    refine q_icmp_ge (tgt := 97) E (dat dkX5_flowEverywhere 5 rfl) rfl rfl rfl (by omega) (by omega) (fun h7 => ?_) (fun h7 => ?_)
    ·
      refine r_vreturn E (dat dkX5_flowEverywhere 63 rfl) (by decide) (by decide) ?_
      exact ⟨rfl, by rw [pm2_0]⟩
    ·
      omega

set_option maxRecDepth 100000 in
set_option maxHeartbeats 4000000 in
theorem sp_X5_drainGutters (l : Launch) (G : GT) (B0 : Nat → Nat → Int32) (mi ra rd fh dr ev dp sw : Int32) (w lv hr ht pl sp wt : Nat → Int32) (B1 : Nat → Nat → Int32) (ro co : Int32) (n : Nat) (bc fr : Int32) (he gu be nm nl bh fp n0 n1 n2 n3 : Nat → Int32) (M : Mem) (hA0 : M 0 = (vS B0 mi ra rd fh dr ev dp sw w lv hr ht pl sp wt)) (hA1 : M 1 = (vP B1 ro co (nI n) bc fr he gu be nm nl bh fp n0 n1 n2 n3)) (hn : n ≤ 64) : MC l G yX5_drainGutters cX5_drainGutters 4 none ({ frames := 2, cells := 0, slots := 0, locals := 43 } : Room) [1, 2] lk0 [rv 0 0, rv 1 0] (M) (fun r M2 => r = none ∧ M2 = setm M 0 (vS B0 mi ra rd fh (dr + sm (dU gu lv w) n) ev dp sw (fil (fun k => w k - dU gu lv w k) w n) lv hr ht pl sp wt)) := by
  obtain ⟨M0, rfl⟩ : ∃ M0, M = m2 ((vS B0 mi ra rd fh dr ev dp sw w lv hr ht pl sp wt)) ((vP B1 ro co (nI n) bc fr he gu be nm nl bh fp n0 n1 n2 n3)) M0 := ⟨M, (m2_of hA0 hA1).symm⟩
  clear hA0 hA1
  refine MC.of RX5 [some (rv 0 0), some (rv 1 0), none, none] 2 (by decide +kernel) rfl rfl rfl ?_
  intro pp ee ss mm aa bb me cd ad E
  refine r_iconst (v := 0) E (dat dkX5_drainGutters 0 rfl) rfl ?_
  refine r_istore_2 E (dat dkX5_drainGutters 1 rfl) rfl rfl ?_
  refine r_for (n) (fun _ => True) (fun i => m2 (vS B0 mi ra rd fh (dr + sm (dU gu lv w) i) ev dp sw (fil (fun k => w k - dU gu lv w k) w i) lv hr ht pl sp wt) (vP B1 ro co (nI n) bc fr he gu be nm nl bh fp n0 n1 n2 n3) M0) (fun i => [some (rv 0 0), some (rv 1 0), some (iv (nI i)), none]) trivial (by rw [fil_0, sm_0]) rfl ?_ ?_
  · intro i hi hI kk
    refine r_iload_n E (dat dkX5_drainGutters 2 rfl) rfl rfl ?_
    refine r_aload_n E (dat dkX5_drainGutters 3 rfl) rfl rfl ?_
    refine q_getn E fl_X5_102 (dat dkX5_drainGutters 4 rfl) rfl rfl rfl (go2_1 gfP_9) ?_
    refine q_icmp_ge (tgt := 52) E (dat dkX5_drainGutters 5 rfl) rfl rfl rfl (by omega) (by omega) (fun h7 => ?_) (fun h7 => ?_)
    ·
      omega
    ·
      refine r_aload_n E (dat dkX5_drainGutters 6 rfl) rfl rfl ?_
      refine r_aload_n E (dat dkX5_drainGutters 7 rfl) rfl rfl ?_
      refine r_iload_n E (dat dkX5_drainGutters 8 rfl) rfl rfl ?_
      refine r_callV (κ := 1) (μ := [0, 1]) E (sp_X5_flowIntoGutter l G B0 mi ra rd fh (dr + sm (dU gu lv w) i) ev dp sw (fil (fun k => w k - dU gu lv w k) w i) lv hr ht pl sp wt B1 ro co n bc fr he gu be nm nl bh fp n0 n1 n2 n3 i _ rfl rfl (by omega)) my_X5_flowIntoGutter iv_X5_flowIntoGutter ml_X5_120 (cm_of rfl) ⟨by decide, rfl, rfl⟩ rfl rfl rfl rfl (by decide) (Nat.le_of_ble_eq_true rfl) (dat dkX5_drainGutters 9 rfl) ?_
      rintro _ _ ⟨rfl, rfl⟩
      refine ⟨_, Mrg_z rfl, ?_⟩
      refine r_aload_n E (dat dkX5_drainGutters 10 rfl) rfl rfl ?_
      refine q_geta E fl_X5_9 (dat dkX5_drainGutters 11 rfl) rfl rfl rfl ?_
      refine r_iload_n E (dat dkX5_drainGutters 12 rfl) rfl rfl ?_
      refine q_iald E (dat dkX5_drainGutters 13 rfl) rfl rfl (by decide) (gg2_0 gaS_1) rfl (by omega) ?_
      refine r_mmin E ml_X5_123 (by decide) (dat dkX5_drainGutters 14 rfl) ?_
      refine r_istore_3 E (dat dkX5_drainGutters 15 rfl) rfl rfl ?_
      refine r_aload_n E (dat dkX5_drainGutters 16 rfl) rfl rfl ?_
      refine q_geta E fl_X5_9 (dat dkX5_drainGutters 17 rfl) rfl rfl rfl ?_
      refine r_iload_n E (dat dkX5_drainGutters 18 rfl) rfl rfl ?_
      refine r_dup2 E (dat dkX5_drainGutters 19 rfl) rfl rfl ?_
      refine q_iald E (dat dkX5_drainGutters 20 rfl) rfl rfl (by decide) (gg2_0 gaS_1) rfl (by omega) ?_
      refine r_iload_n E (dat dkX5_drainGutters 21 rfl) rfl rfl ?_
      refine r_isub E (dat dkX5_drainGutters 22 rfl) ?_
      refine q_iast E (dat dkX5_drainGutters 23 rfl) rfl rfl (by decide) (gg2_0 gaS_1) (fun _ => sa2_0 paS_1) rfl (by omega) ?_
      refine r_aload_n E (dat dkX5_drainGutters 24 rfl) rfl rfl ?_
      refine r_dup E (dat dkX5_drainGutters 25 rfl) rfl ?_
      refine q_getn E fl_X5_47 (dat dkX5_drainGutters 26 rfl) rfl rfl rfl (go2_0 gfS_11) ?_
      refine r_iload_n E (dat dkX5_drainGutters 27 rfl) rfl rfl ?_
      refine r_iadd E (dat dkX5_drainGutters 28 rfl) ?_
      refine q_putn E ft_X5_47 (dat dkX5_drainGutters 29 rfl) rfl rfl rfl (sf2_0 pfS_11) ?_
      refine q_iinc_2 E (dat dkX5_drainGutters 30 rfl) rfl rfl ?_
      refine r_goto (tgt := 2) E (dat dkX5_drainGutters 31 rfl) rfl ?_
      refine r_back ?_ ?_ (kk trivial)
      rotate_left
      · exact And.intro rfl (And.intro rfl (And.intro rfl trivial))
      congr 2 <;> first
        | with_reducible rfl
        | exact (fil_upd (by rw [fil_at]; rfl)).symm
        | exact sm_next _ (by rw [fil_at]; rfl)
  · intro hI
    refine r_iload_n E (dat dkX5_drainGutters 2 rfl) rfl rfl ?_
    refine r_aload_n E (dat dkX5_drainGutters 3 rfl) rfl rfl ?_
    refine q_getn E fl_X5_102 (dat dkX5_drainGutters 4 rfl) rfl rfl rfl (go2_1 gfP_9) ?_
    refine q_icmp_ge (tgt := 52) E (dat dkX5_drainGutters 5 rfl) rfl rfl rfl (by omega) (by omega) (fun h7 => ?_) (fun h7 => ?_)
    ·
      refine r_vreturn E (dat dkX5_drainGutters 32 rfl) (by decide) (by decide) ?_
      exact ⟨rfl, by rw [pm2_0]⟩
    ·
      omega

set_option maxRecDepth 100000 in
set_option maxHeartbeats 4000000 in
theorem sp_X5_evaporate (l : Launch) (G : GT) (B0 : Nat → Nat → Int32) (mi ra rd fh dr ev dp sw : Int32) (w lv hr ht pl sp wt : Nat → Int32) (B1 : Nat → Nat → Int32) (ro co : Int32) (n : Nat) (bc fr : Int32) (he gu be nm nl bh fp n0 n1 n2 n3 : Nat → Int32) (M : Mem) (hA0 : M 0 = (vS B0 mi ra rd fh dr ev dp sw w lv hr ht pl sp wt)) (hA1 : M 1 = (vP B1 ro co (nI n) bc fr he gu be nm nl bh fp n0 n1 n2 n3)) (hn : n ≤ 64) : MC l G yX5_evaporate cX5_evaporate 3 none ({ frames := 0, cells := 0, slots := 0, locals := 0 } : Room) [1, 2] lk0 [rv 0 0, rv 1 0] (M) (fun r M2 => r = none ∧ M2 = setm M 0 (vS B0 mi ra rd fh dr (ev + sm (eE w) n) dp sw (fil (eW w) w n) lv hr ht pl sp wt)) := by
  obtain ⟨M0, rfl⟩ : ∃ M0, M = m2 ((vS B0 mi ra rd fh dr ev dp sw w lv hr ht pl sp wt)) ((vP B1 ro co (nI n) bc fr he gu be nm nl bh fp n0 n1 n2 n3)) M0 := ⟨M, (m2_of hA0 hA1).symm⟩
  clear hA0 hA1
  refine MC.of RX5 [some (rv 0 0), some (rv 1 0), none] 1 (by decide +kernel) rfl rfl rfl ?_
  intro pp ee ss mm aa bb me cd ad E
  refine r_iconst (v := 0) E (dat dkX5_evaporate 0 rfl) rfl ?_
  refine r_istore_2 E (dat dkX5_evaporate 1 rfl) rfl rfl ?_
  refine r_for (n) (fun _ => True) (fun i => m2 (vS B0 mi ra rd fh dr (ev + sm (eE w) i) dp sw (fil (eW w) w i) lv hr ht pl sp wt) (vP B1 ro co (nI n) bc fr he gu be nm nl bh fp n0 n1 n2 n3) M0) (fun i => [some (rv 0 0), some (rv 1 0), some (iv (nI i))]) trivial (by rw [fil_0, sm_0]) rfl ?_ ?_
  · intro i hi hI kk
    refine r_iload_n E (dat dkX5_evaporate 2 rfl) rfl rfl ?_
    refine r_aload_n E (dat dkX5_evaporate 3 rfl) rfl rfl ?_
    refine q_getn E fl_X5_102 (dat dkX5_evaporate 4 rfl) rfl rfl rfl (go2_1 gfP_9) ?_
    refine q_icmp_ge (tgt := 45) E (dat dkX5_evaporate 5 rfl) rfl rfl rfl (by omega) (by omega) (fun h7 => ?_) (fun h7 => ?_)
    ·
      omega
    ·
      refine r_aload_n E (dat dkX5_evaporate 6 rfl) rfl rfl ?_
      refine q_geta E fl_X5_9 (dat dkX5_evaporate 7 rfl) rfl rfl rfl ?_
      refine r_iload_n E (dat dkX5_evaporate 8 rfl) rfl rfl ?_
      refine q_iald E (dat dkX5_evaporate 9 rfl) rfl rfl (by decide) (gg2_0 gaS_1) rfl (by omega) ?_
      rw [fil_at]
      refine r_if_le (tgt := 39) E (dat dkX5_evaporate 10 rfl) rfl (fun h16 => ?_) (fun h16 => ?_)
      ·
        refine q_iinc_2 E (dat dkX5_evaporate 25 rfl) rfl rfl ?_
        refine r_goto (tgt := 2) E (dat dkX5_evaporate 26 rfl) rfl ?_
        refine r_back ?_ ?_ (kk trivial)
        rotate_left
        · exact And.intro rfl (And.intro rfl (And.intro rfl trivial))
        congr 2 <;> first
          | with_reducible rfl
          | exact (fil_upd (by rw [fil_at]; exact (if_neg h16).symm)).symm
          | exact sm_next _ (if_neg h16).symm
          | exact fil_same (if_pos h16)
          | exact sm_same _ (if_pos h16)
      ·
        refine r_aload_n E (dat dkX5_evaporate 11 rfl) rfl rfl ?_
        refine q_geta E fl_X5_9 (dat dkX5_evaporate 12 rfl) rfl rfl rfl ?_
        refine r_iload_n E (dat dkX5_evaporate 13 rfl) rfl rfl ?_
        refine r_dup2 E (dat dkX5_evaporate 14 rfl) rfl rfl ?_
        refine q_iald E (dat dkX5_evaporate 15 rfl) rfl rfl (by decide) (gg2_0 gaS_1) rfl (by omega) ?_
        refine r_iconst (v := 1) E (dat dkX5_evaporate 16 rfl) rfl ?_
        refine r_isub E (dat dkX5_evaporate 17 rfl) ?_
        refine q_iast E (dat dkX5_evaporate 18 rfl) rfl rfl (by decide) (gg2_0 gaS_1) (fun _ => sa2_0 paS_1) rfl (by omega) ?_
        refine r_aload_n E (dat dkX5_evaporate 19 rfl) rfl rfl ?_
        refine r_dup E (dat dkX5_evaporate 20 rfl) rfl ?_
        refine q_getn E fl_X5_50 (dat dkX5_evaporate 21 rfl) rfl rfl rfl (go2_0 gfS_12) ?_
        refine r_iconst (v := 1) E (dat dkX5_evaporate 22 rfl) rfl ?_
        refine r_iadd E (dat dkX5_evaporate 23 rfl) ?_
        refine q_putn E ft_X5_50 (dat dkX5_evaporate 24 rfl) rfl rfl rfl (sf2_0 pfS_12) ?_
        refine q_iinc_2 E (dat dkX5_evaporate 25 rfl) rfl rfl ?_
        refine r_goto (tgt := 2) E (dat dkX5_evaporate 26 rfl) rfl ?_
        refine r_back ?_ ?_ (kk trivial)
        rotate_left
        · exact And.intro rfl (And.intro rfl (And.intro rfl trivial))
        congr 2 <;> first
          | with_reducible rfl
          | exact (fil_upd (by rw [fil_at]; exact (if_neg h16).symm)).symm
          | exact sm_next _ (if_neg h16).symm
          | exact fil_same (if_pos h16)
          | exact sm_same _ (if_pos h16)
  · intro hI
    refine r_iload_n E (dat dkX5_evaporate 2 rfl) rfl rfl ?_
    refine r_aload_n E (dat dkX5_evaporate 3 rfl) rfl rfl ?_
    refine q_getn E fl_X5_102 (dat dkX5_evaporate 4 rfl) rfl rfl rfl (go2_1 gfP_9) ?_
    refine q_icmp_ge (tgt := 45) E (dat dkX5_evaporate 5 rfl) rfl rfl rfl (by omega) (by omega) (fun h7 => ?_) (fun h7 => ?_)
    ·
      refine r_vreturn E (dat dkX5_evaporate 27 rfl) (by decide) (by decide) ?_
      exact ⟨rfl, by rw [pm2_0]⟩
    ·
      omega
