set_option maxRecDepth 100000 in
set_option maxHeartbeats 4000000 in
theorem sp_X5_fallAsRain (l : Launch) (G : GT) (B0 : Nat → Nat → Int32) (mi ra rd fh dr ev dp sw : Int32) (w lv hr ht pl sp wt : Nat → Int32) (B1 : Nat → Nat → Int32) (ro co : Int32) (n : Nat) (bc fr : Int32) (he gu be nm nl bh fp n0 n1 n2 n3 : Nat → Int32) (M : Mem) (hA0 : M 0 = (vS B0 mi ra rd fh dr ev dp sw w lv hr ht pl sp wt)) (hA1 : M 1 = (vP B1 ro co (nI n) bc fr he gu be nm nl bh fp n0 n1 n2 n3)) (hn : n ≤ 64) : MC l G yX5_fallAsRain cX5_fallAsRain 3 none ({ frames := 0, cells := 0, slots := 0, locals := 0 } : Room) [1, 2] lk0 [rv 0 0, rv 1 0] (M) (fun r M2 => r = none ∧ M2 = setm M 0 (vS B0 mi ra (rd + ra * nI n) fh dr ev dp sw (fil (fun k => w k + ra) w n) lv hr ht pl sp wt)) := by
  obtain ⟨M0, rfl⟩ : ∃ M0, M = m2 ((vS B0 mi ra rd fh dr ev dp sw w lv hr ht pl sp wt)) ((vP B1 ro co (nI n) bc fr he gu be nm nl bh fp n0 n1 n2 n3)) M0 := ⟨M, (m2_of hA0 hA1).symm⟩
  clear hA0 hA1
  refine MC.of RX5 [some (rv 0 0), some (rv 1 0), none] 1 (by decide +kernel) rfl rfl rfl ?_
  intro pp ee ss mm aa bb me cd ad E
  refine r_iconst (v := 0) E (dat dkX5_fallAsRain 0 rfl) rfl ?_
  refine r_istore_2 E (dat dkX5_fallAsRain 1 rfl) rfl rfl ?_
  refine r_for (n) (fun _ => True) (fun i => m2 (vS B0 mi ra rd fh dr ev dp sw (fil (fun k => w k + ra) w i) lv hr ht pl sp wt) (vP B1 ro co (nI n) bc fr he gu be nm nl bh fp n0 n1 n2 n3) M0) (fun i => [some (rv 0 0), some (rv 1 0), some (iv (nI i))]) trivial (by rw [fil_0]) rfl ?_ ?_
  · intro i hi hI kk
    refine r_iload_n E (dat dkX5_fallAsRain 2 rfl) rfl rfl ?_
    refine r_aload_n E (dat dkX5_fallAsRain 3 rfl) rfl rfl ?_
    refine q_getn E fl_X5_102 (dat dkX5_fallAsRain 4 rfl) rfl rfl rfl (go2_1 gfP_9) ?_
    refine q_icmp_ge (tgt := 29) E (dat dkX5_fallAsRain 5 rfl) rfl rfl rfl (by omega) (by omega) (fun h7 => ?_) (fun h7 => ?_)
    ·
      omega
    ·
      refine r_aload_n E (dat dkX5_fallAsRain 6 rfl) rfl rfl ?_
      refine q_geta E fl_X5_9 (dat dkX5_fallAsRain 7 rfl) rfl rfl rfl ?_
      refine r_iload_n E (dat dkX5_fallAsRain 8 rfl) rfl rfl ?_
      refine r_dup2 E (dat dkX5_fallAsRain 9 rfl) rfl rfl ?_
      refine q_iald E (dat dkX5_fallAsRain 10 rfl) rfl rfl (by decide) (gg2_0 gaS_1) rfl (by omega) ?_
      refine r_aload_n E (dat dkX5_fallAsRain 11 rfl) rfl rfl ?_
      refine q_getn E fl_X5_38 (dat dkX5_fallAsRain 12 rfl) rfl rfl rfl (go2_0 gfS_8) ?_
      refine r_iadd E (dat dkX5_fallAsRain 13 rfl) ?_
      refine q_iast E (dat dkX5_fallAsRain 14 rfl) rfl rfl (by decide) (gg2_0 gaS_1) (fun _ => sa2_0 paS_1) rfl (by omega) ?_
      refine q_iinc_2 E (dat dkX5_fallAsRain 15 rfl) rfl rfl ?_
      refine r_goto (tgt := 2) E (dat dkX5_fallAsRain 16 rfl) rfl ?_
      refine r_back ?_ ?_ (kk trivial)
      rotate_left
      · exact And.intro rfl (And.intro rfl (And.intro rfl trivial))
      rw [fil_upd (by rw [fil_at])]
  · intro hI
    refine r_iload_n E (dat dkX5_fallAsRain 2 rfl) rfl rfl ?_
    refine r_aload_n E (dat dkX5_fallAsRain 3 rfl) rfl rfl ?_
    refine q_getn E fl_X5_102 (dat dkX5_fallAsRain 4 rfl) rfl rfl rfl (go2_1 gfP_9) ?_
    refine q_icmp_ge (tgt := 29) E (dat dkX5_fallAsRain 5 rfl) rfl rfl rfl (by omega) (by omega) (fun h7 => ?_) (fun h7 => ?_)
    ·
      refine r_aload_n E (dat dkX5_fallAsRain 17 rfl) rfl rfl ?_
      refine r_dup E (dat dkX5_fallAsRain 18 rfl) rfl ?_
      refine q_getn E fl_X5_41 (dat dkX5_fallAsRain 19 rfl) rfl rfl rfl (go2_0 gfS_9) ?_
      refine r_aload_n E (dat dkX5_fallAsRain 20 rfl) rfl rfl ?_
      refine q_getn E fl_X5_38 (dat dkX5_fallAsRain 21 rfl) rfl rfl rfl (go2_0 gfS_8) ?_
      refine r_aload_n E (dat dkX5_fallAsRain 22 rfl) rfl rfl ?_
      refine q_getn E fl_X5_102 (dat dkX5_fallAsRain 23 rfl) rfl rfl rfl (go2_1 gfP_9) ?_
      refine r_imul E (dat dkX5_fallAsRain 24 rfl) ?_
      refine r_iadd E (dat dkX5_fallAsRain 25 rfl) ?_
      refine q_putn E ft_X5_41 (dat dkX5_fallAsRain 26 rfl) rfl rfl rfl (sf2_0 pfS_9) ?_
      refine r_vreturn E (dat dkX5_fallAsRain 27 rfl) (by decide) (by decide) ?_
      exact ⟨rfl, by rw [pm2_0]⟩
    ·
      omega

set_option maxRecDepth 100000 in
set_option maxHeartbeats 4000000 in
theorem sp_X5_isBalanced (l : Launch) (G : GT) (B0 : Nat → Nat → Int32) (mi ra rd fh dr ev dp sw : Int32) (w lv hr ht pl sp wt : Nat → Int32) (B1 : Nat → Nat → Int32) (ro co : Int32) (n : Nat) (bc fr : Int32) (he gu be nm nl bh fp n0 n1 n2 n3 : Nat → Int32) (bcn : Nat) (M : Mem) (hA0 : M 0 = (vS B0 mi ra rd fh dr ev dp sw w lv hr ht pl sp wt)) (hA1 : M 1 = (vP B1 ro co (nI n) bc fr he gu be nm nl bh fp n0 n1 n2 n3)) (hn : n ≤ 64) (hbc : bc = nI bcn) (hb4 : bcn ≤ 4) (hw : ∀ c, c < n → 0 ≤ w c) (hpl : ∀ b, b < bcn → ∃ q, q < n ∧ pl b = nI q) : MC l G yX5_isBalanced cX5_isBalanced 4 (some .boolean) ({ frames := 1, cells := 0, slots := 0, locals := 23 } : Room) [1, 2] lk0 [rv 0 0, rv 1 0] (M) (fun r M2 => r = some (iv (if rd + fh = sm w n + dr + ev then (if dp = sm lv n + sw then 1 else 0) else 0)) ∧ M2 = M) := by
  obtain ⟨M0, rfl⟩ : ∃ M0, M = m2 ((vS B0 mi ra rd fh dr ev dp sw w lv hr ht pl sp wt)) ((vP B1 ro co (nI n) bc fr he gu be nm nl bh fp n0 n1 n2 n3)) M0 := ⟨M, (m2_of hA0 hA1).symm⟩
  clear hA0 hA1
  refine MC.of RX5 [some (rv 0 0), some (rv 1 0), none, none] 2 (by decide +kernel) rfl rfl rfl ?_
  intro pp ee ss mm aa bb me cd ad E
  refine r_iconst (v := 0) E (dat dkX5_isBalanced 0 rfl) rfl ?_
  refine r_istore_2 E (dat dkX5_isBalanced 1 rfl) rfl rfl ?_
  refine r_iconst (v := 0) E (dat dkX5_isBalanced 2 rfl) rfl ?_
  refine r_istore_3 E (dat dkX5_isBalanced 3 rfl) rfl rfl ?_
  refine r_for (n) (fun _ => True) (fun i => m2 (vS B0 mi ra rd fh dr ev dp sw w lv hr ht pl sp wt) (vP B1 ro co (nI n) bc fr he gu be nm nl bh fp n0 n1 n2 n3) M0) (fun i => [some (rv 0 0), some (rv 1 0), some (iv (sm lv i)), some (iv (nI i))]) trivial rfl rfl ?_ ?_
  · intro i hi hI kk
    refine r_iload_n E (dat dkX5_isBalanced 4 rfl) rfl rfl ?_
    refine r_aload_n E (dat dkX5_isBalanced 5 rfl) rfl rfl ?_
    refine q_getn E fl_X5_102 (dat dkX5_isBalanced 6 rfl) rfl rfl rfl (go2_1 gfP_9) ?_
    refine q_icmp_ge (tgt := 38) E (dat dkX5_isBalanced 7 rfl) rfl rfl rfl (by omega) (by omega) (fun h9 => ?_) (fun h9 => ?_)
    ·
      omega
    ·
      refine r_aload_n E (dat dkX5_isBalanced 8 rfl) rfl rfl ?_
      refine q_geta E fl_X5_9 (dat dkX5_isBalanced 9 rfl) rfl rfl rfl ?_
      refine r_iload_n E (dat dkX5_isBalanced 10 rfl) rfl rfl ?_
      refine q_iald E (dat dkX5_isBalanced 11 rfl) rfl rfl (by decide) (gg2_0 gaS_1) rfl (by omega) ?_
      refine r_if_ge (tgt := 23) E (dat dkX5_isBalanced 12 rfl) rfl (fun h18 => ?_) (fun h18 => ?_)
      ·
        refine r_iload_n E (dat dkX5_isBalanced 15 rfl) rfl rfl ?_
        refine r_aload_n E (dat dkX5_isBalanced 16 rfl) rfl rfl ?_
        refine q_geta E fl_X5_15 (dat dkX5_isBalanced 17 rfl) rfl rfl rfl ?_
        refine r_iload_n E (dat dkX5_isBalanced 18 rfl) rfl rfl ?_
        refine q_iald E (dat dkX5_isBalanced 19 rfl) rfl rfl (by decide) (gg2_0 gaS_2) rfl (by omega) ?_
        refine r_iadd E (dat dkX5_isBalanced 20 rfl) ?_
        refine r_istore_2 E (dat dkX5_isBalanced 21 rfl) rfl rfl ?_
        refine q_iinc_3 E (dat dkX5_isBalanced 22 rfl) rfl rfl ?_
        refine r_goto (tgt := 4) E (dat dkX5_isBalanced 23 rfl) rfl ?_
        exact kk trivial
      ·
        exact absurd (hw i hi) h18
  · intro hI
    refine r_iload_n E (dat dkX5_isBalanced 4 rfl) rfl rfl ?_
    refine r_aload_n E (dat dkX5_isBalanced 5 rfl) rfl rfl ?_
    refine q_getn E fl_X5_102 (dat dkX5_isBalanced 6 rfl) rfl rfl rfl (go2_1 gfP_9) ?_
    refine q_icmp_ge (tgt := 38) E (dat dkX5_isBalanced 7 rfl) rfl rfl rfl (by omega) (by omega) (fun h9 => ?_) (fun h9 => ?_)
    ·
      refine r_iconst (v := 0) E (dat dkX5_isBalanced 24 rfl) rfl ?_
      refine r_istore_3 E (dat dkX5_isBalanced 25 rfl) rfl rfl ?_
      refine r_for (bcn) (fun _ => True) (fun i => m2 (vS B0 mi ra rd fh dr ev dp sw w lv hr ht pl sp wt) (vP B1 ro co (nI n) bc fr he gu be nm nl bh fp n0 n1 n2 n3) M0) (fun i => [some (rv 0 0), some (rv 1 0), some (iv (sm lv n)), some (iv (nI i))]) trivial rfl rfl ?_ ?_
      · intro i hi hI kk
        refine r_iload_n E (dat dkX5_isBalanced 26 rfl) rfl rfl ?_
        refine r_aload_n E (dat dkX5_isBalanced 27 rfl) rfl rfl ?_
        refine q_getn E fl_X5_95 (dat dkX5_isBalanced 28 rfl) rfl rfl rfl (go2_1 gfP_10) ?_
        refine q_icmp_ge (tgt := 69) E (dat dkX5_isBalanced 29 rfl) rfl rfl hbc (by omega) (by omega) (fun h45 => ?_) (fun h45 => ?_)
        ·
          omega
        ·
          refine r_aload_n E (dat dkX5_isBalanced 30 rfl) rfl rfl ?_
          refine r_aload_n E (dat dkX5_isBalanced 31 rfl) rfl rfl ?_
          refine q_geta E fl_X5_24 (dat dkX5_isBalanced 32 rfl) rfl rfl rfl ?_
          refine r_iload_n E (dat dkX5_isBalanced 33 rfl) rfl rfl ?_
          refine q_iald E (dat dkX5_isBalanced 34 rfl) rfl rfl (by decide) (gg2_0 gaS_5) rfl (by omega) ?_
          obtain ⟨q, hq, hp⟩ := hpl i hi
          rw [hp]
          refine r_callV (κ := 2) (μ := [1]) E (sp_X2_hasCell l G B1 ro co n bc fr he gu be nm nl bh fp n0 n1 n2 n3 (nI q) _ rfl) my_X2_hasCell iv_X2_hasCell ml_X5_145 (cm_of rfl) ⟨by decide, rfl, rfl⟩ rfl rfl rfl rfl (by decide) (Nat.le_of_ble_eq_true rfl) (dat dkX5_isBalanced 35 rfl) ?_
          rintro _ _ ⟨rfl, rfl⟩
          refine ⟨_, Mrg_z rfl, ?_⟩
          rw [hcI_in hq hn]
          refine r_if_ne (tgt := 63) E (dat dkX5_isBalanced 36 rfl) rfl (fun h58 => ?_) (fun h58 => ?_)
          ·
            refine q_iinc_3 E (dat dkX5_isBalanced 39 rfl) rfl rfl ?_
            refine r_goto (tgt := 40) E (dat dkX5_isBalanced 40 rfl) rfl ?_
            exact kk trivial
          ·
            exact absurd h58 (by decide)
      · intro hI
        refine r_iload_n E (dat dkX5_isBalanced 26 rfl) rfl rfl ?_
        refine r_aload_n E (dat dkX5_isBalanced 27 rfl) rfl rfl ?_
        refine q_getn E fl_X5_95 (dat dkX5_isBalanced 28 rfl) rfl rfl rfl (go2_1 gfP_10) ?_
        refine q_icmp_ge (tgt := 69) E (dat dkX5_isBalanced 29 rfl) rfl rfl hbc (by omega) (by omega) (fun h45 => ?_) (fun h45 => ?_)
        ·
          refine r_aload_n E (dat dkX5_isBalanced 41 rfl) rfl rfl ?_
          refine q_getn E fl_X5_41 (dat dkX5_isBalanced 42 rfl) rfl rfl rfl (go2_0 gfS_9) ?_
          refine r_aload_n E (dat dkX5_isBalanced 43 rfl) rfl rfl ?_
          refine q_getn E fl_X5_44 (dat dkX5_isBalanced 44 rfl) rfl rfl rfl (go2_0 gfS_10) ?_
          refine r_iadd E (dat dkX5_isBalanced 45 rfl) ?_
          refine r_aload_n E (dat dkX5_isBalanced 46 rfl) rfl rfl ?_
          refine r_aload_n E (dat dkX5_isBalanced 47 rfl) rfl rfl ?_
          refine r_callV (κ := 1) (μ := [0, 1]) E (sp_X5_sumOfWater l G B0 mi ra rd fh dr ev dp sw w lv hr ht pl sp wt B1 ro co n bc fr he gu be nm nl bh fp n0 n1 n2 n3 _ rfl rfl hn) my_X5_sumOfWater iv_X5_sumOfWater ml_X5_148 (cm_of rfl) ⟨by decide, rfl, rfl⟩ rfl rfl rfl rfl (by decide) (Nat.le_of_ble_eq_true rfl) (dat dkX5_isBalanced 48 rfl) ?_
          rintro _ _ ⟨rfl, rfl⟩
          refine ⟨_, Mrg_z rfl, ?_⟩
          refine r_aload_n E (dat dkX5_isBalanced 49 rfl) rfl rfl ?_
          refine q_getn E fl_X5_47 (dat dkX5_isBalanced 50 rfl) rfl rfl rfl (go2_0 gfS_11) ?_
          refine r_iadd E (dat dkX5_isBalanced 51 rfl) ?_
          refine r_aload_n E (dat dkX5_isBalanced 52 rfl) rfl rfl ?_
          refine q_getn E fl_X5_50 (dat dkX5_isBalanced 53 rfl) rfl rfl rfl (go2_0 gfS_12) ?_
          refine r_iadd E (dat dkX5_isBalanced 54 rfl) ?_
          refine r_icmp_ne (tgt := 113) E (dat dkX5_isBalanced 55 rfl) rfl (fun h93 => ?_) (fun h93 => ?_)
          ·
            refine r_iconst (v := 0) E (dat dkX5_isBalanced 65 rfl) rfl ?_
            refine r_zreturn E (dat dkX5_isBalanced 66 rfl) rfl (by decide) (by decide) ?_
            refine ⟨?_, rfl⟩
            first
              | (simp only [h93, h106, if_true, if_false]; done)
              | (simp only [h93, if_true, if_false]; done)
          ·
            refine r_aload_n E (dat dkX5_isBalanced 56 rfl) rfl rfl ?_
            refine q_getn E fl_X5_53 (dat dkX5_isBalanced 57 rfl) rfl rfl rfl (go2_0 gfS_13) ?_
            refine r_iload_n E (dat dkX5_isBalanced 58 rfl) rfl rfl ?_
            refine r_aload_n E (dat dkX5_isBalanced 59 rfl) rfl rfl ?_
            refine q_getn E fl_X5_56 (dat dkX5_isBalanced 60 rfl) rfl rfl rfl (go2_0 gfS_14) ?_
            refine r_iadd E (dat dkX5_isBalanced 61 rfl) ?_
            refine r_icmp_ne (tgt := 113) E (dat dkX5_isBalanced 62 rfl) rfl (fun h106 => ?_) (fun h106 => ?_)
            ·
              refine r_iconst (v := 0) E (dat dkX5_isBalanced 65 rfl) rfl ?_
              refine r_zreturn E (dat dkX5_isBalanced 66 rfl) rfl (by decide) (by decide) ?_
              refine ⟨?_, rfl⟩
              first
                | (simp only [h93, h106, if_true, if_false]; done)
                | (simp only [h93, if_true, if_false]; done)
            ·
              refine r_iconst (v := 1) E (dat dkX5_isBalanced 63 rfl) rfl ?_
              refine r_goto (tgt := 114) E (dat dkX5_isBalanced 64 rfl) rfl ?_
              refine r_zreturn E (dat dkX5_isBalanced 66 rfl) rfl (by decide) (by decide) ?_
              refine ⟨?_, rfl⟩
              first
                | (simp only [h93, h106, if_true, if_false]; done)
                | (simp only [h93, if_true, if_false]; done)
        ·
          omega
    ·
      omega

set_option maxRecDepth 100000 in
set_option maxHeartbeats 4000000 in
theorem sp_X5_throwWater (l : Launch) (G : GT) (B0 : Nat → Nat → Int32) (mi ra rd fh dr ev dp sw : Int32) (w lv hr ht pl sp wt : Nat → Int32) (B1 : Nat → Nat → Int32) (ro co : Int32) (n : Nat) (bc fr : Int32) (he gu be nm nl bh fp n0 n1 n2 n3 : Nat → Int32) (nb : Nat → Nat → Option Nat) (hbe : ∀ c d, c < n → d < 4 → be (c * 4 + d) = oI (nb c d)) (hnb : ∀ c d k, nb c d = some k → k < n) (b q : Nat) (M : Mem) (hA0 : M 0 = (vS B0 mi ra rd fh dr ev dp sw w lv hr ht pl sp wt)) (hA1 : M 1 = (vP B1 ro co (nI n) bc fr he gu be nm nl bh fp n0 n1 n2 n3)) (hn : n ≤ 64) (hb : b < 4) (hq : pl b = nI q) (hqn : q < n) : MC l G yX5_throwWater cX5_throwWater 8 (some .int) ({ frames := 2, cells := 0, slots := 0, locals := 43 } : Room) [1, 2] lk0 [rv 0 0, rv 1 0, iv (nI b)] (M) (fun r M2 => r = some (iv (thW nb q (w q / 5) w 4).2) ∧ M2 = setm M 0 (vS B0 mi ra rd fh dr ev dp sw (upd (thW nb q (w q / 5) w 4).1 q ((thW nb q (w q / 5) w 4).1 q - (thW nb q (w q / 5) w 4).2)) lv hr ht pl (upd sp b (sp b + 1)) wt)) := by
  obtain ⟨M0, rfl⟩ : ∃ M0, M = m2 ((vS B0 mi ra rd fh dr ev dp sw w lv hr ht pl sp wt)) ((vP B1 ro co (nI n) bc fr he gu be nm nl bh fp n0 n1 n2 n3)) M0 := ⟨M, (m2_of hA0 hA1).symm⟩
  clear hA0 hA1
  refine MC.of RX5 [some (rv 0 0), some (rv 1 0), some (iv (nI b)), none, none, none, none, none] 5 (by decide +kernel) rfl rfl rfl ?_
  intro pp ee ss mm aa bb me cd ad E
  refine r_aload_n E (dat dkX5_throwWater 0 rfl) rfl rfl ?_
  refine q_geta E fl_X5_24 (dat dkX5_throwWater 1 rfl) rfl rfl rfl ?_
  refine r_iload_n E (dat dkX5_throwWater 2 rfl) rfl rfl ?_
  refine q_iald E (dat dkX5_throwWater 3 rfl) rfl rfl (by decide) (gg2_0 gaS_5) rfl (by omega) ?_
  rw [hq]
  refine r_istore_3 E (dat dkX5_throwWater 4 rfl) rfl rfl ?_
  refine r_aload_n E (dat dkX5_throwWater 5 rfl) rfl rfl ?_
  refine r_iload_n E (dat dkX5_throwWater 6 rfl) rfl rfl ?_
  refine r_callV (κ := 1) (μ := [0]) E (sp_X5_waterUnder l G B0 mi ra rd fh dr ev dp sw w lv hr ht pl sp wt b q _ rfl hb hq (by omega)) my_X5_waterUnder iv_X5_waterUnder ml_X5_129 (cm_of rfl) ⟨by decide, rfl, rfl⟩ rfl rfl rfl rfl (by decide) (Nat.le_of_ble_eq_true rfl) (dat dkX5_throwWater 7 rfl) ?_
  rintro _ _ ⟨rfl, rfl⟩
  refine ⟨_, Mrg_z rfl, ?_⟩
  refine r_iconst (v := 5) E (dat dkX5_throwWater 8 rfl) rfl ?_
  refine r_idiv E (dat dkX5_throwWater 9 rfl) (by decide) ?_
  refine r_istore_4 E (dat dkX5_throwWater 10 rfl) rfl rfl ?_
  refine r_iconst (v := 0) E (dat dkX5_throwWater 11 rfl) rfl ?_
  refine r_istore_5 E (dat dkX5_throwWater 12 rfl) rfl rfl ?_
  refine r_iconst (v := 0) E (dat dkX5_throwWater 13 rfl) rfl ?_
  refine r_istore_6 E (dat dkX5_throwWater 14 rfl) rfl rfl ?_
  refine r_for (4) (fun _ => True) (fun i => m2 (vS B0 mi ra rd fh dr ev dp sw ((thW nb q (w q / 5) w i).1) lv hr ht pl sp wt) (vP B1 ro co (nI n) bc fr he gu be nm nl bh fp n0 n1 n2 n3) M0) (fun i => [some (rv 0 0), some (rv 1 0), some (iv (nI b)), some (iv (nI q)), some (iv (w q / 5)), some (iv (thW nb q (w q / 5) w i).2), some (iv (nI i)), none]) trivial rfl rfl ?_ ?_
  · intro i hi hI kk
    refine r_iload E (dat dkX5_throwWater 15 rfl) rfl ?_
    refine r_iconst (v := 3) E (dat dkX5_throwWater 16 rfl) rfl ?_
    refine q_icmp_gt (tgt := 67) E (dat dkX5_throwWater 17 rfl) rfl rfl (b := 3) rfl (by omega) (by omega) (fun h25 => ?_) (fun h25 => ?_)
    ·
      omega
    ·
      refine r_aload_n E (dat dkX5_throwWater 18 rfl) rfl rfl ?_
      refine r_iload_n E (dat dkX5_throwWater 19 rfl) rfl rfl ?_
      refine r_iload E (dat dkX5_throwWater 20 rfl) rfl ?_
      refine r_callV (κ := 2) (μ := [1]) E (sp_X2_cellBeside l G B1 ro co n bc fr he gu be nm nl bh fp n0 n1 n2 n3 q i _ rfl hqn hn hi) my_X2_cellBeside iv_X2_cellBeside ml_X5_139 (cm_of rfl) ⟨by decide, rfl, rfl⟩ rfl rfl rfl rfl (by decide) (Nat.le_of_ble_eq_true rfl) (dat dkX5_throwWater 21 rfl) ?_
      rintro _ _ ⟨rfl, rfl⟩
      refine ⟨_, Mrg_z rfl, ?_⟩
      rw [hbe q i hqn hi]
      rcases hz : nb q i with _ | o
      ·
        refine r_istore_7 E (dat dkX5_throwWater 22 rfl) rfl rfl ?_
        refine r_iload E (dat dkX5_throwWater 23 rfl) rfl ?_
        refine r_if_lt (tgt := 61) E (dat dkX5_throwWater 24 rfl) rfl (fun h39 => ?_) (fun h39 => ?_)
        ·
          refine q_iinc_6 E (dat dkX5_throwWater 37 rfl) rfl rfl ?_
          refine r_goto (tgt := 22) E (dat dkX5_throwWater 38 rfl) rfl ?_
          first
            | rw [thW_n hz] at kk
            | rw [thW_s hz] at kk
          refine r_back ?_ ?_ (kk trivial)
          · rfl
          · exact And.intro rfl (And.intro rfl (And.intro rfl (And.intro rfl (And.intro rfl (And.intro rfl (And.intro rfl (trivial)))))))
        ·
          exact absurd (show oI none < 0 by decide) h39
      ·
        have ho := hnb q i o hz
        refine r_istore_7 E (dat dkX5_throwWater 22 rfl) rfl rfl ?_
        refine r_iload E (dat dkX5_throwWater 23 rfl) rfl ?_
        refine r_if_lt (tgt := 61) E (dat dkX5_throwWater 24 rfl) rfl (fun h39 => ?_) (fun h39 => ?_)
        ·
          exact absurd h39 (nI_pos (by omega))
        ·
          refine r_aload_n E (dat dkX5_throwWater 25 rfl) rfl rfl ?_
          refine q_geta E fl_X5_9 (dat dkX5_throwWater 26 rfl) rfl rfl rfl ?_
          refine r_iload E (dat dkX5_throwWater 27 rfl) rfl ?_
          refine r_dup2 E (dat dkX5_throwWater 28 rfl) rfl rfl ?_
          refine q_iald E (dat dkX5_throwWater 29 rfl) rfl rfl (by decide) (gg2_0 gaS_1) rfl (by omega) ?_
          refine r_iload E (dat dkX5_throwWater 30 rfl) rfl ?_
          refine r_iadd E (dat dkX5_throwWater 31 rfl) ?_
          refine q_iast E (dat dkX5_throwWater 32 rfl) rfl rfl (by decide) (gg2_0 gaS_1) (fun _ => sa2_0 paS_1) rfl (by omega) ?_
          refine r_iload E (dat dkX5_throwWater 33 rfl) rfl ?_
          refine r_iload E (dat dkX5_throwWater 34 rfl) rfl ?_
          refine r_iadd E (dat dkX5_throwWater 35 rfl) ?_
          refine r_istore_5 E (dat dkX5_throwWater 36 rfl) rfl rfl ?_
          refine q_iinc_6 E (dat dkX5_throwWater 37 rfl) rfl rfl ?_
          refine r_goto (tgt := 22) E (dat dkX5_throwWater 38 rfl) rfl ?_
          first
            | rw [thW_n hz] at kk
            | rw [thW_s hz] at kk
          refine r_back ?_ ?_ (kk trivial)
          · rfl
          · exact And.intro rfl (And.intro rfl (And.intro rfl (And.intro rfl (And.intro rfl (And.intro rfl (And.intro rfl (trivial)))))))
  · intro hI
    refine r_iload E (dat dkX5_throwWater 15 rfl) rfl ?_
    refine r_iconst (v := 3) E (dat dkX5_throwWater 16 rfl) rfl ?_
    refine q_icmp_gt (tgt := 67) E (dat dkX5_throwWater 17 rfl) rfl rfl (b := 3) rfl (by omega) (by omega) (fun h25 => ?_) (fun h25 => ?_)
    ·
      refine r_aload_n E (dat dkX5_throwWater 39 rfl) rfl rfl ?_
      refine r_iload_n E (dat dkX5_throwWater 40 rfl) rfl rfl ?_
      refine r_callV (κ := 2) (μ := [1]) E (sp_X2_hasCell l G B1 ro co n bc fr he gu be nm nl bh fp n0 n1 n2 n3 (nI q) _ rfl) my_X2_hasCell iv_X2_hasCell ml_X5_145 (cm_of rfl) ⟨by decide, rfl, rfl⟩ rfl rfl rfl rfl (by decide) (Nat.le_of_ble_eq_true rfl) (dat dkX5_throwWater 41 rfl) ?_
      rintro _ _ ⟨rfl, rfl⟩
      refine ⟨_, Mrg_z rfl, ?_⟩
      rw [hcI_in hqn hn]
      refine r_if_eq (tgt := 86) E (dat dkX5_throwWater 42 rfl) rfl (fun h72 => ?_) (fun h72 => ?_)
      ·
        exact absurd h72 (by decide)
      ·
        refine r_aload_n E (dat dkX5_throwWater 43 rfl) rfl rfl ?_
        refine q_geta E fl_X5_9 (dat dkX5_throwWater 44 rfl) rfl rfl rfl ?_
        refine r_iload_n E (dat dkX5_throwWater 45 rfl) rfl rfl ?_
        refine r_dup2 E (dat dkX5_throwWater 46 rfl) rfl rfl ?_
        refine q_iald E (dat dkX5_throwWater 47 rfl) rfl rfl (by decide) (gg2_0 gaS_1) rfl (by omega) ?_
        refine r_iload E (dat dkX5_throwWater 48 rfl) rfl ?_
        refine r_isub E (dat dkX5_throwWater 49 rfl) ?_
        refine q_iast E (dat dkX5_throwWater 50 rfl) rfl rfl (by decide) (gg2_0 gaS_1) (fun _ => sa2_0 paS_1) rfl (by omega) ?_
        refine r_aload_n E (dat dkX5_throwWater 51 rfl) rfl rfl ?_
        refine q_geta E fl_X5_27 (dat dkX5_throwWater 52 rfl) rfl rfl rfl ?_
        refine r_iload_n E (dat dkX5_throwWater 53 rfl) rfl rfl ?_
        refine r_dup2 E (dat dkX5_throwWater 54 rfl) rfl rfl ?_
        refine q_iald E (dat dkX5_throwWater 55 rfl) rfl rfl (by decide) (gg2_0 gaS_6) rfl (by omega) ?_
        refine r_iconst (v := 1) E (dat dkX5_throwWater 56 rfl) rfl ?_
        refine r_iadd E (dat dkX5_throwWater 57 rfl) ?_
        refine q_iast E (dat dkX5_throwWater 58 rfl) rfl rfl (by decide) (gg2_0 gaS_6) (fun _ => sa2_0 paS_6) rfl (by omega) ?_
        refine r_iload E (dat dkX5_throwWater 59 rfl) rfl ?_
        refine r_ireturn E (dat dkX5_throwWater 60 rfl) (by decide) (by decide) ?_
        exact ⟨rfl, by rw [pm2_0]⟩
    ·
      omega

set_option maxRecDepth 100000 in
set_option maxHeartbeats 4000000 in
theorem sp_X5_letPass (l : Launch) (G : GT) (B0 : Nat → Nat → Int32) (mi ra rd fh dr ev dp sw : Int32) (w lv hr ht pl sp wt : Nat → Int32) (B1 : Nat → Nat → Int32) (ro co : Int32) (n : Nat) (bc fr : Int32) (he gu be nm nl bh fp n0 n1 n2 n3 : Nat → Int32) (bcn t : Nat) (nb : Nat → Nat → Option Nat) (hbe : ∀ c d, c < n → d < 4 → be (c * 4 + d) = oI (nb c d)) (hnb : ∀ c d k, nb c d = some k → k < n) (M : Mem) (hA0 : M 0 = (vS B0 mi ra rd fh dr ev dp sw w lv hr ht pl sp wt)) (hA1 : M 1 = (vP B1 ro co (nI n) bc fr he gu be nm nl bh fp n0 n1 n2 n3)) (hn : n ≤ 64) (ht9 : t ≤ 999) (hbc : bc = nI bcn) (hb4 : bcn ≤ 4) (hpl : ∀ b, b < bcn → ∃ q, q < n ∧ pl b = nI q) : MC l G yX5_letPass cX5_letPass 5 none ({ frames := 4, cells := 0, slots := 0, locals := 94 } : Room) [1, 2] lk0 [rv 0 0, rv 1 0, iv (nI t)] (M) (fun r M2 => r = none ∧ M2 = setm M 0 (mnN n bcn he gu bh nb (vS B0 mi ra rd fh dr ev dp sw w lv hr ht pl sp wt) t)) := by
  obtain ⟨M0, rfl⟩ : ∃ M0, M = m2 ((vS B0 mi ra rd fh dr ev dp sw w lv hr ht pl sp wt)) ((vP B1 ro co (nI n) bc fr he gu be nm nl bh fp n0 n1 n2 n3)) M0 := ⟨M, (m2_of hA0 hA1).symm⟩
  clear hA0 hA1
  refine MC.of RX5 [some (rv 0 0), some (rv 1 0), some (iv (nI t)), none, none] 2 (by decide +kernel) rfl rfl rfl ?_
  intro pp ee ss mm aa bb me cd ad E
  refine r_iconst (v := 0) E (dat dkX5_letPass 0 rfl) rfl ?_
  refine r_istore_3 E (dat dkX5_letPass 1 rfl) rfl rfl ?_
  refine r_for (t) (fun _ => True) (fun i => m2 (mnN n bcn he gu bh nb (vS B0 mi ra rd fh dr ev dp sw w lv hr ht pl sp wt) i) (vP B1 ro co (nI n) bc fr he gu be nm nl bh fp n0 n1 n2 n3) M0) (fun i => [some (rv 0 0), some (rv 1 0), some (iv (nI t)), some (iv (nI i)), none]) trivial rfl rfl ?_ ?_
  · intro i0 hi0 hI0 kk0
    have h5 := mnN_5 (n := n) (bcn := bcn) (he := he) (gu := gu) (bh := bh) (nb := nb) (T := (vS B0 mi ra rd fh dr ev dp sw w lv hr ht pl sp wt)) i0
    rw [show mnN n bcn he gu bh nb (vS B0 mi ra rd fh dr ev dp sw w lv hr ht pl sp wt) (i0 + 1) = mnS n bcn he gu bh nb (mnN n bcn he gu bh nb (vS B0 mi ra rd fh dr ev dp sw w lv hr ht pl sp wt) i0) from rfl] at kk0
    generalize mnN n bcn he gu bh nb (vS B0 mi ra rd fh dr ev dp sw w lv hr ht pl sp wt) i0 = T at kk0 h5 ⊢
    have hpT : ∀ b, b < bcn → ∃ q, q < n ∧ T 5 b = nI q := by rw [h5]; exact hpl
    rw [← evS T]
    refine r_iload_n E (dat dkX5_letPass 2 rfl) rfl rfl ?_
    refine r_iload_n E (dat dkX5_letPass 3 rfl) rfl rfl ?_
    refine q_icmp_ge (tgt := 83) E (dat dkX5_letPass 4 rfl) rfl rfl rfl (by omega) (by omega) (fun h4 => ?_) (fun h4 => ?_)
    ·
      omega
    ·
      refine r_aload_n E (dat dkX5_letPass 5 rfl) rfl rfl ?_
      refine r_dup E (dat dkX5_letPass 6 rfl) rfl ?_
      refine q_getn E fl_X5_34 (dat dkX5_letPass 7 rfl) rfl rfl rfl (go2_0 gfS_7) ?_
      refine r_iconst (v := 1) E (dat dkX5_letPass 8 rfl) rfl ?_
      refine r_iadd E (dat dkX5_letPass 9 rfl) ?_
      refine q_putn E ft_X5_34 (dat dkX5_letPass 10 rfl) rfl rfl rfl (sf2_0 pfS_7) ?_
      refine r_aload_n E (dat dkX5_letPass 11 rfl) rfl rfl ?_
      refine r_aload_n E (dat dkX5_letPass 12 rfl) rfl rfl ?_
      refine r_callV (κ := 1) (μ := [0, 1]) E (sp_X5_fallAsRain l G T (T 0 7 + 1) (T 0 8) (T 0 9) (T 0 10) (T 0 11) (T 0 12) (T 0 13) (T 0 14) (T 1) (T 2) (T 3) (T 4) (T 5) (T 6) (T 7) B1 ro co n bc fr he gu be nm nl bh fp n0 n1 n2 n3 _ rfl rfl hn) my_X5_fallAsRain iv_X5_fallAsRain ml_X5_79 (cm_of rfl) ⟨by decide, rfl, rfl⟩ rfl rfl rfl rfl (by decide) (Nat.le_of_ble_eq_true rfl) (dat dkX5_letPass 13 rfl) ?_
      rintro _ _ ⟨rfl, rfl⟩
      refine ⟨_, Mrg_e (by decide) (by decide) pm2_0 rfl, ?_⟩
      refine r_aload_n E (dat dkX5_letPass 14 rfl) rfl rfl ?_
      refine r_aload_n E (dat dkX5_letPass 15 rfl) rfl rfl ?_
      refine r_callV (κ := 1) (μ := [0, 1]) E (sp_X5_runHydrants l G T (T 0 7 + 1) (T 0 8) (T 0 9 + T 0 8 * nI n) (T 0 10) (T 0 11) (T 0 12) (T 0 13) (T 0 14) (mw1 n T) (T 2) (T 3) (T 4) (T 5) (T 6) (T 7) B1 ro co n bc fr he gu be nm nl bh fp n0 n1 n2 n3 _ rfl rfl hn) my_X5_runHydrants iv_X5_runHydrants ml_X5_83 (cm_of rfl) ⟨by decide, rfl, rfl⟩ rfl rfl rfl rfl (by decide) (Nat.le_of_ble_eq_true rfl) (dat dkX5_letPass 16 rfl) ?_
      rintro _ _ ⟨rfl, rfl⟩
      refine ⟨_, Mrg_e (by decide) (by decide) pm2_0 rfl, ?_⟩
      refine r_aload_n E (dat dkX5_letPass 17 rfl) rfl rfl ?_
      refine r_aload_n E (dat dkX5_letPass 18 rfl) rfl rfl ?_
      refine r_callV (κ := 1) (μ := [0, 1]) E (sp_X5_flowEverywhere l G T (T 0 7 + 1) (T 0 8) (T 0 9 + T 0 8 * nI n) (T 0 10 + sm (oF (T 4) (T 3)) n) (T 0 11) (T 0 12) (T 0 13) (T 0 14) (mw2 n T) (T 2) (fil (oR (T 4) (T 3)) (T 3) n) (fil (oT (T 4)) (T 4) n) (T 5) (T 6) (T 7) B1 ro co n bc fr he gu be nm nl bh fp n0 n1 n2 n3 nb hbe hnb _ rfl rfl hn) my_X5_flowEverywhere iv_X5_flowEverywhere ml_X5_86 (cm_of rfl) ⟨by decide, rfl, rfl⟩ rfl rfl rfl rfl (by decide) (Nat.le_of_ble_eq_true rfl) (dat dkX5_letPass 19 rfl) ?_
      rintro _ _ ⟨rfl, rfl⟩
      refine ⟨_, Mrg_e (by decide) (by decide) pm2_0 rfl, ?_⟩
      refine r_aload_n E (dat dkX5_letPass 20 rfl) rfl rfl ?_
      refine r_aload_n E (dat dkX5_letPass 21 rfl) rfl rfl ?_
      refine r_callV (κ := 1) (μ := [0, 1]) E (sp_X5_drainGutters l G T (T 0 7 + 1) (T 0 8) (T 0 9 + T 0 8 * nI n) (T 0 10 + sm (oF (T 4) (T 3)) n) (T 0 11) (T 0 12) (T 0 13) (T 0 14) ((mf3 n he gu nb T).1) ((mf3 n he gu nb T).2) (fil (oR (T 4) (T 3)) (T 3) n) (fil (oT (T 4)) (T 4) n) (T 5) (T 6) (T 7) B1 ro co n bc fr he gu be nm nl bh fp n0 n1 n2 n3 _ rfl rfl hn) my_X5_drainGutters iv_X5_drainGutters ml_X5_89 (cm_of rfl) ⟨by decide, rfl, rfl⟩ rfl rfl rfl rfl (by decide) (Nat.le_of_ble_eq_true rfl) (dat dkX5_letPass 22 rfl) ?_
      rintro _ _ ⟨rfl, rfl⟩
      refine ⟨_, Mrg_e (by decide) (by decide) pm2_0 rfl, ?_⟩
      refine r_aload_n E (dat dkX5_letPass 23 rfl) rfl rfl ?_
      refine q_getn E fl_X5_34 (dat dkX5_letPass 24 rfl) rfl rfl rfl (go2_0 gfS_7) ?_
      refine r_bipush (v := 10) E (dat dkX5_letPass 25 rfl) rfl ?_
      refine r_irem E (dat dkX5_letPass 26 rfl) (by decide) ?_
      refine r_if_ne (tgt := 52) E (dat dkX5_letPass 27 rfl) rfl (fun h44 => ?_) (fun h44 => ?_)
      ·
        have hz : ¬ mz T = 0 := h44
        refine r_iconst (v := 0) E (dat dkX5_letPass 31 rfl) rfl ?_
        refine r_istore_4 E (dat dkX5_letPass 32 rfl) rfl rfl ?_
        refine r_for (bcn) (fun _ => True) (fun i => m2 (vS T (T 0 7 + 1) (T 0 8) (T 0 9 + T 0 8 * nI n) (T 0 10 + sm (oF (T 4) (T 3)) n) (T 0 11 + sm (dU gu (mf3 n he gu nb T).2 (mf3 n he gu nb T).1) n) (T 0 12) (T 0 13) (T 0 14) (mw4 n he gu nb T) ((mf3 n he gu nb T).2) (fil (oR (T 4) (T 3)) (T 3) n) (fil (oT (T 4)) (T 4) n) (T 5) (T 6) (fil (wtF (mw4 n he gu nb T) (T 5) bh (T 7)) (T 7) i)) (vP B1 ro co (nI n) bc fr he gu be nm nl bh fp n0 n1 n2 n3) M0) (fun i => [some (rv 0 0), some (rv 1 0), some (iv (nI t)), some (iv (nI i0)), some (iv (nI i))]) trivial (by first | (rw [fil_0]; done) | (rw [fil_0]; rfl)) rfl ?_ ?_
        · intro i hi hI kk
          refine r_iload E (dat dkX5_letPass 33 rfl) rfl ?_
          refine r_aload_n E (dat dkX5_letPass 34 rfl) rfl rfl ?_
          refine q_getn E fl_X5_95 (dat dkX5_letPass 35 rfl) rfl rfl rfl (go2_1 gfP_10) ?_
          refine q_icmp_ge (tgt := 77) E (dat dkX5_letPass 36 rfl) rfl rfl hbc (by omega) (by omega) (fun h61 => ?_) (fun h61 => ?_)
          ·
            omega
          ·
            refine r_aload_n E (dat dkX5_letPass 37 rfl) rfl rfl ?_
            refine r_aload_n E (dat dkX5_letPass 38 rfl) rfl rfl ?_
            refine r_iload E (dat dkX5_letPass 39 rfl) rfl ?_
            obtain ⟨q, hqn, hq⟩ := hpT i hi
            refine r_callV (κ := 1) (μ := [0, 1]) E (sp_X5_wetIfTooDeep l G T (T 0 7 + 1) (T 0 8) (T 0 9 + T 0 8 * nI n) (T 0 10 + sm (oF (T 4) (T 3)) n) (T 0 11 + sm (dU gu (mf3 n he gu nb T).2 (mf3 n he gu nb T).1) n) (T 0 12) (T 0 13) (T 0 14) (mw4 n he gu nb T) ((mf3 n he gu nb T).2) (fil (oR (T 4) (T 3)) (T 3) n) (fil (oT (T 4)) (T 4) n) (T 5) (T 6) (fil (wtF (mw4 n he gu nb T) (T 5) bh (T 7)) (T 7) i) B1 ro co n bc fr he gu be nm nl bh fp n0 n1 n2 n3 i q _ rfl rfl (by omega) hq (by omega)) my_X5_wetIfTooDeep iv_X5_wetIfTooDeep ml_X5_98 (cm_of rfl) ⟨by decide, rfl, rfl⟩ rfl rfl rfl rfl (by decide) (Nat.le_of_ble_eq_true rfl) (dat dkX5_letPass 40 rfl) ?_
            rintro _ _ ⟨rfl, rfl⟩
            refine ⟨_, Mrg_e (by decide) (by decide) pm2_0 rfl, ?_⟩
            refine q_iinc_4 E (dat dkX5_letPass 41 rfl) rfl rfl ?_
            refine r_goto (tgt := 55) E (dat dkX5_letPass 42 rfl) rfl ?_
            rw [wt_s hq (by omega)]
            exact kk trivial
        · intro hI
          refine r_iload E (dat dkX5_letPass 33 rfl) rfl ?_
          refine r_aload_n E (dat dkX5_letPass 34 rfl) rfl rfl ?_
          refine q_getn E fl_X5_95 (dat dkX5_letPass 35 rfl) rfl rfl rfl (go2_1 gfP_10) ?_
          refine q_icmp_ge (tgt := 77) E (dat dkX5_letPass 36 rfl) rfl rfl hbc (by omega) (by omega) (fun h61 => ?_) (fun h61 => ?_)
          ·
            refine q_iinc_3 E (dat dkX5_letPass 43 rfl) rfl rfl ?_
            refine r_goto (tgt := 2) E (dat dkX5_letPass 44 rfl) rfl ?_
            refine r_back ?_ ?_ (kk0 trivial)
            rotate_left
            · exact And.intro rfl (And.intro rfl (And.intro rfl (And.intro rfl (trivial))))
            unfold mnS
            first
              | (unfold mw5; simp only [if_pos hz]; done)
              | (unfold mw5; simp only [if_neg hz]; done)
          ·
            omega
      ·
        have hz : mz T = 0 := h44
        refine r_aload_n E (dat dkX5_letPass 28 rfl) rfl rfl ?_
        refine r_aload_n E (dat dkX5_letPass 29 rfl) rfl rfl ?_
        refine r_callV (κ := 1) (μ := [0, 1]) E (sp_X5_evaporate l G T (T 0 7 + 1) (T 0 8) (T 0 9 + T 0 8 * nI n) (T 0 10 + sm (oF (T 4) (T 3)) n) (T 0 11 + sm (dU gu (mf3 n he gu nb T).2 (mf3 n he gu nb T).1) n) (T 0 12) (T 0 13) (T 0 14) (mw4 n he gu nb T) ((mf3 n he gu nb T).2) (fil (oR (T 4) (T 3)) (T 3) n) (fil (oT (T 4)) (T 4) n) (T 5) (T 6) (T 7) B1 ro co n bc fr he gu be nm nl bh fp n0 n1 n2 n3 _ rfl rfl hn) my_X5_evaporate iv_X5_evaporate ml_X5_92 (cm_of rfl) ⟨by decide, rfl, rfl⟩ rfl rfl rfl rfl (by decide) (Nat.le_of_ble_eq_true rfl) (dat dkX5_letPass 30 rfl) ?_
        rintro _ _ ⟨rfl, rfl⟩
        refine ⟨_, Mrg_e (by decide) (by decide) pm2_0 rfl, ?_⟩
        refine r_iconst (v := 0) E (dat dkX5_letPass 31 rfl) rfl ?_
        refine r_istore_4 E (dat dkX5_letPass 32 rfl) rfl rfl ?_
        refine r_for (bcn) (fun _ => True) (fun i => m2 (vS T (T 0 7 + 1) (T 0 8) (T 0 9 + T 0 8 * nI n) (T 0 10 + sm (oF (T 4) (T 3)) n) (T 0 11 + sm (dU gu (mf3 n he gu nb T).2 (mf3 n he gu nb T).1) n) (T 0 12 + sm (eE (mw4 n he gu nb T)) n) (T 0 13) (T 0 14) (fil (eW (mw4 n he gu nb T)) (mw4 n he gu nb T) n) ((mf3 n he gu nb T).2) (fil (oR (T 4) (T 3)) (T 3) n) (fil (oT (T 4)) (T 4) n) (T 5) (T 6) (fil (wtF (fil (eW (mw4 n he gu nb T)) (mw4 n he gu nb T) n) (T 5) bh (T 7)) (T 7) i)) (vP B1 ro co (nI n) bc fr he gu be nm nl bh fp n0 n1 n2 n3) M0) (fun i => [some (rv 0 0), some (rv 1 0), some (iv (nI t)), some (iv (nI i0)), some (iv (nI i))]) trivial (by first | (rw [fil_0]; done) | (rw [fil_0]; rfl)) rfl ?_ ?_
        · intro i hi hI kk
          refine r_iload E (dat dkX5_letPass 33 rfl) rfl ?_
          refine r_aload_n E (dat dkX5_letPass 34 rfl) rfl rfl ?_
          refine q_getn E fl_X5_95 (dat dkX5_letPass 35 rfl) rfl rfl rfl (go2_1 gfP_10) ?_
          refine q_icmp_ge (tgt := 77) E (dat dkX5_letPass 36 rfl) rfl rfl hbc (by omega) (by omega) (fun h61 => ?_) (fun h61 => ?_)
          ·
            omega
          ·
            refine r_aload_n E (dat dkX5_letPass 37 rfl) rfl rfl ?_
            refine r_aload_n E (dat dkX5_letPass 38 rfl) rfl rfl ?_
            refine r_iload E (dat dkX5_letPass 39 rfl) rfl ?_
            obtain ⟨q, hqn, hq⟩ := hpT i hi
            refine r_callV (κ := 1) (μ := [0, 1]) E (sp_X5_wetIfTooDeep l G T (T 0 7 + 1) (T 0 8) (T 0 9 + T 0 8 * nI n) (T 0 10 + sm (oF (T 4) (T 3)) n) (T 0 11 + sm (dU gu (mf3 n he gu nb T).2 (mf3 n he gu nb T).1) n) (T 0 12 + sm (eE (mw4 n he gu nb T)) n) (T 0 13) (T 0 14) (fil (eW (mw4 n he gu nb T)) (mw4 n he gu nb T) n) ((mf3 n he gu nb T).2) (fil (oR (T 4) (T 3)) (T 3) n) (fil (oT (T 4)) (T 4) n) (T 5) (T 6) (fil (wtF (fil (eW (mw4 n he gu nb T)) (mw4 n he gu nb T) n) (T 5) bh (T 7)) (T 7) i) B1 ro co n bc fr he gu be nm nl bh fp n0 n1 n2 n3 i q _ rfl rfl (by omega) hq (by omega)) my_X5_wetIfTooDeep iv_X5_wetIfTooDeep ml_X5_98 (cm_of rfl) ⟨by decide, rfl, rfl⟩ rfl rfl rfl rfl (by decide) (Nat.le_of_ble_eq_true rfl) (dat dkX5_letPass 40 rfl) ?_
            rintro _ _ ⟨rfl, rfl⟩
            refine ⟨_, Mrg_e (by decide) (by decide) pm2_0 rfl, ?_⟩
            refine q_iinc_4 E (dat dkX5_letPass 41 rfl) rfl rfl ?_
            refine r_goto (tgt := 55) E (dat dkX5_letPass 42 rfl) rfl ?_
            rw [wt_s hq (by omega)]
            exact kk trivial
        · intro hI
          refine r_iload E (dat dkX5_letPass 33 rfl) rfl ?_
          refine r_aload_n E (dat dkX5_letPass 34 rfl) rfl rfl ?_
          refine q_getn E fl_X5_95 (dat dkX5_letPass 35 rfl) rfl rfl rfl (go2_1 gfP_10) ?_
          refine q_icmp_ge (tgt := 77) E (dat dkX5_letPass 36 rfl) rfl rfl hbc (by omega) (by omega) (fun h61 => ?_) (fun h61 => ?_)
          ·
            refine q_iinc_3 E (dat dkX5_letPass 43 rfl) rfl rfl ?_
            refine r_goto (tgt := 2) E (dat dkX5_letPass 44 rfl) rfl ?_
            refine r_back ?_ ?_ (kk0 trivial)
            rotate_left
            · exact And.intro rfl (And.intro rfl (And.intro rfl (And.intro rfl (trivial))))
            unfold mnS
            first
              | (unfold mw5; simp only [if_pos hz]; done)
              | (unfold mw5; simp only [if_neg hz]; done)
          ·
            omega
  · intro hI0
    refine r_iload_n E (dat dkX5_letPass 2 rfl) rfl rfl ?_
    refine r_iload_n E (dat dkX5_letPass 3 rfl) rfl rfl ?_
    refine q_icmp_ge (tgt := 83) E (dat dkX5_letPass 4 rfl) rfl rfl rfl (by omega) (by omega) (fun h4 => ?_) (fun h4 => ?_)
    ·
      refine r_vreturn E (dat dkX5_letPass 45 rfl) (by decide) (by decide) ?_
      exact ⟨rfl, by rw [pm2_0]⟩
    ·
      omega
