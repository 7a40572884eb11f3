set_option maxRecDepth 100000 in
set_option maxHeartbeats 4000000 in
theorem sp_X5_isOpen (l : Launch) (G : GT) (B0 : Nat → Nat → Int32) (mi ra rd fh dr ev dp sw : Int32) (w lv hr ht pl sp wt : Nat → Int32) (c : Nat) (M : Mem) (hA0 : M 0 = (vS B0 mi ra rd fh dr ev dp sw w lv hr ht pl sp wt)) (hc : c < 64) : MC l G yX5_isOpen cX5_isOpen 2 (some .boolean) ({ frames := 0, cells := 0, slots := 0, locals := 0 } : Room) [1] lk0 [rv 0 0, iv (nI c)] (M) (fun r M2 => r = some (iv (opI (ht c))) ∧ M2 = M) := by
  obtain ⟨M0, rfl⟩ : ∃ M0, M = m1 ((vS B0 mi ra rd fh dr ev dp sw w lv hr ht pl sp wt)) M0 := ⟨M, (m1_of hA0).symm⟩
  clear hA0
  refine MC.of RX5 [some (rv 0 0), some (iv (nI c))] 0 (by decide +kernel) rfl rfl rfl ?_
  intro pp ee ss mm aa bb me cd ad E
  refine r_aload_n E (dat dkX5_isOpen 0 rfl) rfl rfl ?_
  refine q_geta E fl_X5_21 (dat dkX5_isOpen 1 rfl) rfl rfl rfl ?_
  refine r_iload_n E (dat dkX5_isOpen 2 rfl) rfl rfl ?_
  refine q_iald E (dat dkX5_isOpen 3 rfl) rfl rfl (by decide) (gg1_0 gaS_4) rfl (by omega) ?_
  refine r_if_le (tgt := 13) E (dat dkX5_isOpen 4 rfl) rfl (fun h6 => ?_) (fun h6 => ?_)
  ·
    refine r_iconst (v := 0) E (dat dkX5_isOpen 7 rfl) rfl ?_
    refine r_zreturn E (dat dkX5_isOpen 8 rfl) rfl (by decide) (by decide) ?_
    exact ⟨by simp only [opI, *, if_true, if_false], rfl⟩
  ·
    refine r_iconst (v := 1) E (dat dkX5_isOpen 5 rfl) rfl ?_
    refine r_goto (tgt := 14) E (dat dkX5_isOpen 6 rfl) rfl ?_
    refine r_zreturn E (dat dkX5_isOpen 8 rfl) rfl (by decide) (by decide) ?_
    exact ⟨by simp only [opI, *, if_true, if_false], rfl⟩

set_option maxRecDepth 100000 in
set_option maxHeartbeats 4000000 in
theorem sp_X5_waterUnder (l : Launch) (G : GT) (B0 : Nat → Nat → Int32) (mi ra rd fh dr ev dp sw : Int32) (w lv hr ht pl sp wt : Nat → Int32) (b q : Nat) (M : Mem) (hA0 : M 0 = (vS B0 mi ra rd fh dr ev dp sw w lv hr ht pl sp wt)) (hb : b < 4) (hq : pl b = nI q) (hq6 : q < 64) : MC l G yX5_waterUnder cX5_waterUnder 3 (some .int) ({ frames := 0, cells := 0, slots := 0, locals := 0 } : Room) [1] lk0 [rv 0 0, iv (nI b)] (M) (fun r M2 => r = some (iv (w q)) ∧ M2 = M) := by
  obtain ⟨M0, rfl⟩ : ∃ M0, M = m1 ((vS B0 mi ra rd fh dr ev dp sw w lv hr ht pl sp wt)) M0 := ⟨M, (m1_of hA0).symm⟩
  clear hA0
  refine MC.of RX5 [some (rv 0 0), some (iv (nI b)), none] 1 (by decide +kernel) rfl rfl rfl ?_
  intro pp ee ss mm aa bb me cd ad E
  refine r_aload_n E (dat dkX5_waterUnder 0 rfl) rfl rfl ?_
  refine q_geta E fl_X5_24 (dat dkX5_waterUnder 1 rfl) rfl rfl rfl ?_
  refine r_iload_n E (dat dkX5_waterUnder 2 rfl) rfl rfl ?_
  refine q_iald E (dat dkX5_waterUnder 3 rfl) rfl rfl (by decide) (gg1_0 gaS_5) rfl (by omega) ?_
  refine r_istore_2 E (dat dkX5_waterUnder 4 rfl) rfl rfl ?_
  refine r_iload_n E (dat dkX5_waterUnder 5 rfl) rfl rfl ?_
  refine r_if_lt (tgt := 26) E (dat dkX5_waterUnder 6 rfl) rfl (fun h8 => ?_) (fun h8 => ?_)
  ·
    exact absurd (hq ▸ h8) (nI_pos (by omega))
  ·
    refine r_iload_n E (dat dkX5_waterUnder 7 rfl) rfl rfl ?_
    refine r_bipush (v := 64) E (dat dkX5_waterUnder 8 rfl) rfl ?_
    refine q_icmp_ge (tgt := 26) E (dat dkX5_waterUnder 9 rfl) rfl hq (b := 64) rfl (by omega) (by omega) (fun h14 => ?_) (fun h14 => ?_)
    ·
      omega
    ·
      refine r_aload_n E (dat dkX5_waterUnder 10 rfl) rfl rfl ?_
      refine q_geta E fl_X5_9 (dat dkX5_waterUnder 11 rfl) rfl rfl rfl ?_
      refine r_iload_n E (dat dkX5_waterUnder 12 rfl) rfl rfl ?_
      refine q_iald E (dat dkX5_waterUnder 13 rfl) rfl rfl (by decide) (gg1_0 gaS_1) hq (by omega) ?_
      refine r_goto (tgt := 27) E (dat dkX5_waterUnder 14 rfl) rfl ?_
      refine r_ireturn E (dat dkX5_waterUnder 16 rfl) (by decide) (by decide) ?_
      exact ⟨rfl, rfl⟩

set_option maxRecDepth 100000 in
set_option maxHeartbeats 4000000 in
theorem sp_X5_flowIntoGutter (l : Launch) (G : GT) (B0 : Nat → Nat → Int32) (mi ra rd fh dr ev dp sw : Int32) (w lv hr ht pl sp wt : Nat → Int32) (B1 : Nat → Nat → Int32) (ro co : Int32) (n : Nat) (bc fr : Int32) (he gu be nm nl bh fp n0 n1 n2 n3 : Nat → Int32) (c : Nat) (M : Mem) (hA0 : M 0 = (vS B0 mi ra rd fh dr ev dp sw w lv hr ht pl sp wt)) (hA1 : M 1 = (vP B1 ro co (nI n) bc fr he gu be nm nl bh fp n0 n1 n2 n3)) (hc : c < 64) : MC l G yX5_flowIntoGutter cX5_flowIntoGutter 3 (some .int) ({ frames := 1, cells := 0, slots := 0, locals := 13 } : Room) [1, 2] lk0 [rv 0 0, rv 1 0, iv (nI c)] (M) (fun r M2 => r = some (iv (imax (gu c - lv c) 0)) ∧ M2 = M) := by
  obtain ⟨M0, rfl⟩ : ∃ M0, M = m2 ((vS B0 mi ra rd fh dr ev dp sw w lv hr ht pl sp wt)) ((vP B1 ro co (nI n) bc fr he gu be nm nl bh fp n0 n1 n2 n3)) M0 := ⟨M, (m2_of hA0 hA1).symm⟩
  clear hA0 hA1
  refine MC.of RX5 [some (rv 0 0), some (rv 1 0), some (iv (nI c))] 0 (by decide +kernel) rfl rfl rfl ?_
  intro pp ee ss mm aa bb me cd ad E
  refine r_aload_n E (dat dkX5_flowIntoGutter 0 rfl) rfl rfl ?_
  refine q_geta E fl_X5_117 (dat dkX5_flowIntoGutter 1 rfl) rfl rfl rfl ?_
  refine r_iload_n E (dat dkX5_flowIntoGutter 2 rfl) rfl rfl ?_
  refine q_iald E (dat dkX5_flowIntoGutter 3 rfl) rfl rfl (by decide) (gg2_1 gaP_2) rfl (by omega) ?_
  refine r_aload_n E (dat dkX5_flowIntoGutter 4 rfl) rfl rfl ?_
  refine q_geta E fl_X5_15 (dat dkX5_flowIntoGutter 5 rfl) rfl rfl rfl ?_
  refine r_iload_n E (dat dkX5_flowIntoGutter 6 rfl) rfl rfl ?_
  refine q_iald E (dat dkX5_flowIntoGutter 7 rfl) rfl rfl (by decide) (gg2_0 gaS_2) rfl (by omega) ?_
  refine r_isub E (dat dkX5_flowIntoGutter 8 rfl) ?_
  refine r_iconst (v := 0) E (dat dkX5_flowIntoGutter 9 rfl) rfl ?_
  refine r_mmax E ml_X5_136 (by decide) (dat dkX5_flowIntoGutter 10 rfl) ?_
  refine r_ireturn E (dat dkX5_flowIntoGutter 11 rfl) (by decide) (by decide) ?_
  exact ⟨rfl, rfl⟩

set_option maxRecDepth 100000 in
set_option maxHeartbeats 4000000 in
theorem sp_X5_lowestBeside (l : Launch) (G : GT) (B0 : Nat → Nat → Int32) (mi ra rd fh dr ev dp sw : Int32) (w lv hr ht pl sp wt : Nat → Int32) (B1 : Nat → Nat → Int32) (ro co : Int32) (n : Nat) (bc fr : Int32) (he gu be nm nl bh fp n0 n1 n2 n3 : Nat → Int32) (c : Nat) (nb : Nat → Nat → Option Nat) (hbe : ∀ c d, c < n → d < 4 → be (c * 4 + d) = oI (nb c d)) (hnb : ∀ c d k, nb c d = some k → k < n) (M : Mem) (hA0 : M 0 = (vS B0 mi ra rd fh dr ev dp sw w lv hr ht pl sp wt)) (hA1 : M 1 = (vP B1 ro co (nI n) bc fr he gu be nm nl bh fp n0 n1 n2 n3)) (hc : c < n) (hn : n ≤ 64) : MC l G yX5_lowestBeside cX5_lowestBeside 8 (some .int) ({ frames := 2, cells := 0, slots := 0, locals := 43 } : Room) [1, 2] lk0 [rv 0 0, rv 1 0, iv (nI c)] (M) (fun r M2 => r = some (iv (oI (loF nb (fun k => he k + w k) c 4))) ∧ M2 = M) := by
  obtain ⟨M0, rfl⟩ : ∃ M0, M = m2 ((vS B0 mi ra rd fh dr ev dp sw w lv hr ht pl sp wt)) ((vP B1 ro co (nI n) bc fr he gu be nm nl bh fp n0 n1 n2 n3)) M0 := ⟨M, (m2_of hA0 hA1).symm⟩
  clear hA0 hA1
  refine MC.of RX5 [some (rv 0 0), some (rv 1 0), some (iv (nI c)), none, none, none, none, none] 5 (by decide +kernel) rfl rfl rfl ?_
  intro pp ee ss mm aa bb me cd ad E
  refine r_iconst (v := -1) E (dat dkX5_lowestBeside 0 rfl) rfl ?_
  refine r_istore_3 E (dat dkX5_lowestBeside 1 rfl) rfl rfl ?_
  refine r_iconst (v := 0) E (dat dkX5_lowestBeside 2 rfl) rfl ?_
  refine r_istore_4 E (dat dkX5_lowestBeside 3 rfl) rfl rfl ?_
  refine r_iconst (v := 0) E (dat dkX5_lowestBeside 4 rfl) rfl ?_
  refine r_istore_5 E (dat dkX5_lowestBeside 5 rfl) rfl rfl ?_
  refine r_for (4) (fun _ => True) (fun i => m2 (vS B0 mi ra rd fh dr ev dp sw w lv hr ht pl sp wt) (vP B1 ro co (nI n) bc fr he gu be nm nl bh fp n0 n1 n2 n3) M0) (fun i => [some (rv 0 0), some (rv 1 0), some (iv (nI c)), some (iv (oI (loF nb (fun k => he k + w k) c i))), some (iv (lvF (fun k => he k + w k) (loF nb (fun k => he k + w k) c i))), some (iv (nI i)), none, none]) trivial rfl rfl ?_ ?_
  · intro i hi hI kk
    refine r_iload E (dat dkX5_lowestBeside 6 rfl) rfl ?_
    refine r_iconst (v := 3) E (dat dkX5_lowestBeside 7 rfl) rfl ?_
    refine q_icmp_gt (tgt := 70) E (dat dkX5_lowestBeside 8 rfl) rfl rfl (b := 3) rfl (by omega) (by omega) (fun h11 => ?_) (fun h11 => ?_)
    ·
      omega
    ·
      refine r_aload_n E (dat dkX5_lowestBeside 9 rfl) rfl rfl ?_
      refine r_iload_n E (dat dkX5_lowestBeside 10 rfl) rfl rfl ?_
      refine r_iload E (dat dkX5_lowestBeside 11 rfl) rfl ?_
      refine r_callV (κ := 2) (μ := [1]) E (sp_X2_cellBeside l G B1 ro co n bc fr he gu be nm nl bh fp n0 n1 n2 n3 c i _ rfl hc hn hi) my_X2_cellBeside iv_X2_cellBeside ml_X5_139 (cm_of rfl) ⟨by decide, rfl, rfl⟩ rfl rfl rfl rfl (by decide) (by decide) (dat dkX5_lowestBeside 12 rfl) ?_
      rintro _ _ ⟨rfl, rfl⟩
      refine ⟨_, Mrg_z rfl, ?_⟩
      rw [hbe c i hc hi]
      rcases hz : nb c i with _ | o
      ·
        refine r_istore_6 E (dat dkX5_lowestBeside 13 rfl) rfl rfl ?_
        refine r_iload E (dat dkX5_lowestBeside 14 rfl) rfl ?_
        refine r_if_lt (tgt := 64) E (dat dkX5_lowestBeside 15 rfl) rfl (fun h25 => ?_) (fun h25 => ?_)
        ·
          refine q_iinc_5 E (dat dkX5_lowestBeside 36 rfl) rfl rfl ?_
          refine r_goto (tgt := 8) E (dat dkX5_lowestBeside 37 rfl) rfl ?_
          first
            | rw [loF_n hz] at kk
            | rw [loF_a hz (Or.inl h47) (fun b hb => by have := hlt b hb; omega)] at kk
            | rw [loF_a hz (Or.inr (i32_lt h54)) (fun b hb => by have := hlt b hb; omega)] at kk
            | rw [loF_b hz h47 (i32_nlt h54)] at kk
          refine r_back ?_ ?_ (kk trivial)
          · rfl
          · exact And.intro rfl (And.intro rfl (And.intro rfl (And.intro rfl (And.intro rfl (And.intro rfl trivial)))))
        ·
          exact absurd (by decide) h25
      ·
        have ho := hnb c i o hz
        have hlt := loF_lt (lev := (fun k => he k + w k)) (hnb c) i
        refine r_istore_6 E (dat dkX5_lowestBeside 13 rfl) rfl rfl ?_
        refine r_iload E (dat dkX5_lowestBeside 14 rfl) rfl ?_
        refine r_if_lt (tgt := 64) E (dat dkX5_lowestBeside 15 rfl) rfl (fun h25 => ?_) (fun h25 => ?_)
        ·
          exact absurd h25 (nI_pos (by omega))
        ·
          refine r_aload_n E (dat dkX5_lowestBeside 16 rfl) rfl rfl ?_
          refine q_geta E fl_X5_142 (dat dkX5_lowestBeside 17 rfl) rfl rfl rfl ?_
          refine r_iload E (dat dkX5_lowestBeside 18 rfl) rfl ?_
          refine q_iald E (dat dkX5_lowestBeside 19 rfl) rfl rfl (by decide) (gg2_1 gaP_1) rfl (by omega) ?_
          refine r_aload_n E (dat dkX5_lowestBeside 20 rfl) rfl rfl ?_
          refine q_geta E fl_X5_9 (dat dkX5_lowestBeside 21 rfl) rfl rfl rfl ?_
          refine r_iload E (dat dkX5_lowestBeside 22 rfl) rfl ?_
          refine q_iald E (dat dkX5_lowestBeside 23 rfl) rfl rfl (by decide) (gg2_0 gaS_1) rfl (by omega) ?_
          refine r_iadd E (dat dkX5_lowestBeside 24 rfl) ?_
          refine r_istore_7 E (dat dkX5_lowestBeside 25 rfl) rfl rfl ?_
          refine r_iload_n E (dat dkX5_lowestBeside 26 rfl) rfl rfl ?_
          refine r_iconst (v := -1) E (dat dkX5_lowestBeside 27 rfl) rfl ?_
          refine r_icmp_eq (tgt := 57) E (dat dkX5_lowestBeside 28 rfl) rfl (fun h47 => ?_) (fun h47 => ?_)
          ·
            refine r_iload E (dat dkX5_lowestBeside 32 rfl) rfl ?_
            refine r_istore_3 E (dat dkX5_lowestBeside 33 rfl) rfl rfl ?_
            refine r_iload E (dat dkX5_lowestBeside 34 rfl) rfl ?_
            refine r_istore_4 E (dat dkX5_lowestBeside 35 rfl) rfl rfl ?_
            refine q_iinc_5 E (dat dkX5_lowestBeside 36 rfl) rfl rfl ?_
            refine r_goto (tgt := 8) E (dat dkX5_lowestBeside 37 rfl) rfl ?_
            first
              | rw [loF_n hz] at kk
              | rw [loF_a hz (Or.inl h47) (fun b hb => by have := hlt b hb; omega)] at kk
              | rw [loF_a hz (Or.inr (i32_lt h54)) (fun b hb => by have := hlt b hb; omega)] at kk
              | rw [loF_b hz h47 (i32_nlt h54)] at kk
            refine r_back ?_ ?_ (kk trivial)
            · rfl
            · exact And.intro rfl (And.intro rfl (And.intro rfl (And.intro rfl (And.intro rfl (And.intro rfl trivial)))))
          ·
            refine r_iload E (dat dkX5_lowestBeside 29 rfl) rfl ?_
            refine r_iload E (dat dkX5_lowestBeside 30 rfl) rfl ?_
            refine r_icmp_ge (tgt := 64) E (dat dkX5_lowestBeside 31 rfl) rfl (fun h54 => ?_) (fun h54 => ?_)
            ·
              refine q_iinc_5 E (dat dkX5_lowestBeside 36 rfl) rfl rfl ?_
              refine r_goto (tgt := 8) E (dat dkX5_lowestBeside 37 rfl) rfl ?_
              first
                | rw [loF_n hz] at kk
                | rw [loF_a hz (Or.inl h47) (fun b hb => by have := hlt b hb; omega)] at kk
                | rw [loF_a hz (Or.inr (i32_lt h54)) (fun b hb => by have := hlt b hb; omega)] at kk
                | rw [loF_b hz h47 (i32_nlt h54)] at kk
              refine r_back ?_ ?_ (kk trivial)
              · rfl
              · exact And.intro rfl (And.intro rfl (And.intro rfl (And.intro rfl (And.intro rfl (And.intro rfl trivial)))))
            ·
              refine r_iload E (dat dkX5_lowestBeside 32 rfl) rfl ?_
              refine r_istore_3 E (dat dkX5_lowestBeside 33 rfl) rfl rfl ?_
              refine r_iload E (dat dkX5_lowestBeside 34 rfl) rfl ?_
              refine r_istore_4 E (dat dkX5_lowestBeside 35 rfl) rfl rfl ?_
              refine q_iinc_5 E (dat dkX5_lowestBeside 36 rfl) rfl rfl ?_
              refine r_goto (tgt := 8) E (dat dkX5_lowestBeside 37 rfl) rfl ?_
              first
                | rw [loF_n hz] at kk
                | rw [loF_a hz (Or.inl h47) (fun b hb => by have := hlt b hb; omega)] at kk
                | rw [loF_a hz (Or.inr (i32_lt h54)) (fun b hb => by have := hlt b hb; omega)] at kk
                | rw [loF_b hz h47 (i32_nlt h54)] at kk
              refine r_back ?_ ?_ (kk trivial)
              · rfl
              · exact And.intro rfl (And.intro rfl (And.intro rfl (And.intro rfl (And.intro rfl (And.intro rfl trivial)))))
  · intro hI
    refine r_iload E (dat dkX5_lowestBeside 6 rfl) rfl ?_
    refine r_iconst (v := 3) E (dat dkX5_lowestBeside 7 rfl) rfl ?_
    refine q_icmp_gt (tgt := 70) E (dat dkX5_lowestBeside 8 rfl) rfl rfl (b := 3) rfl (by omega) (by omega) (fun h11 => ?_) (fun h11 => ?_)
    ·
      refine r_iload_n E (dat dkX5_lowestBeside 38 rfl) rfl rfl ?_
      refine r_ireturn E (dat dkX5_lowestBeside 39 rfl) (by decide) (by decide) ?_
      exact ⟨rfl, rfl⟩
    ·
      omega
