set_option maxRecDepth 100000 in
set_option maxHeartbeats 4000000 in
theorem sp_X3_findAll (l : Launch) (G : GT) (B2 : Nat → Nat → Int32) (ct : Int32) (lb sz wa qu : Nat → Int32) (B0 : Nat → Nat → Int32) (mi ra rd fh dr ev dp sw : Int32) (w lv hr ht pl sp wt : Nat → Int32) (B1 : Nat → Nat → Int32) (ro co : Int32) (n : Nat) (bc fr : Int32) (he gu be nm nl bh fp n0 n1 n2 n3 : Nat → Int32) (nb : Nat → Nat → Option Nat) (hbe : ∀ c d, c < n → d < 4 → be (c * 4 + d) = oI (nb c d)) (hnb : ∀ c d k, nb c d = some k → k < n) (M : Mem) (hA0 : M 0 = (vU B2 (ct) lb sz wa qu)) (hA1 : M 1 = (vP B1 ro co (nI n) bc fr he gu be nm nl bh fp n0 n1 n2 n3)) (hA2 : M 2 = (vS B0 mi ra rd fh dr ev dp sw w lv hr ht pl sp wt)) (hn : n ≤ 64) : MC l G yX3_findAll cX3_findAll 4 none ({ frames := 3, cells := 0, slots := 0, locals := 71 } : Room) [5, 2, 1] lk0 [rv 0 0, rv 1 0, rv 2 0] (M) (fun r M2 => r = none ∧ M2 = setm M 0 (vU B2 (nI (pN nb w ((0, (fun _ => -1), sz, wa, qu) : PT) n).1) ((pN nb w ((0, (fun _ => -1), sz, wa, qu) : PT) n).2.1) ((pN nb w ((0, (fun _ => -1), sz, wa, qu) : PT) n).2.2.1) ((pN nb w ((0, (fun _ => -1), sz, wa, qu) : PT) n).2.2.2.1) ((pN nb w ((0, (fun _ => -1), sz, wa, qu) : PT) n).2.2.2.2))) := by
  obtain ⟨M0, rfl⟩ : ∃ M0, M = m3 ((vU B2 (ct) lb sz wa qu)) ((vP B1 ro co (nI n) bc fr he gu be nm nl bh fp n0 n1 n2 n3)) ((vS B0 mi ra rd fh dr ev dp sw w lv hr ht pl sp wt)) M0 := ⟨M, (m3_of hA0 hA1 hA2).symm⟩
  clear hA0 hA1 hA2
  refine MC.of RX3 [some (rv 0 0), some (rv 1 0), some (rv 2 0), none] 1 (by decide +kernel) rfl rfl rfl ?_
  intro pp ee ss mm aa bb me cd ad E
  refine r_aload_n E (dat dkX3_findAll 0 rfl) rfl rfl ?_
  refine q_geta E fl_X3_9 (dat dkX3_findAll 1 rfl) rfl rfl rfl ?_
  refine r_iconst (v := -1) E (dat dkX3_findAll 2 rfl) rfl ?_
  refine r_callS (μ := [0]) E (sp_fill l G 5 1 64 (-1) _ rfl (by decide) (by decide)) my_J7_fill_53178 is_J7_fill_53178 ml_X3_28 (cm_of rfl) rfl rfl (by decide) (by decide) (dat dkX3_findAll 3 rfl) ?_
  rintro _ _ ⟨rfl, rfl⟩
  refine ⟨_, Mrg_e (by decide) (by decide) (sa3_0 paU_1) rfl, ?_⟩
  refine r_aload_n E (dat dkX3_findAll 4 rfl) rfl rfl ?_
  refine r_iconst (v := 0) E (dat dkX3_findAll 5 rfl) rfl ?_
  refine q_putn E ft_X3_24 (dat dkX3_findAll 6 rfl) rfl rfl rfl (sf3_0 pfU_4) ?_
  refine r_iconst (v := 0) E (dat dkX3_findAll 7 rfl) rfl ?_
  refine r_istore_3 E (dat dkX3_findAll 8 rfl) rfl rfl ?_
  refine r_for (n) (fun _ => True) (fun i => m3 (vU B2 (nI (pN nb w ((0, (fun _ => -1), sz, wa, qu) : PT) i).1) ((pN nb w ((0, (fun _ => -1), sz, wa, qu) : PT) i).2.1) ((pN nb w ((0, (fun _ => -1), sz, wa, qu) : PT) i).2.2.1) ((pN nb w ((0, (fun _ => -1), sz, wa, qu) : PT) i).2.2.2.1) ((pN nb w ((0, (fun _ => -1), sz, wa, qu) : PT) i).2.2.2.2)) (vP B1 ro co (nI n) bc fr he gu be nm nl bh fp n0 n1 n2 n3) (vS B0 mi ra rd fh dr ev dp sw w lv hr ht pl sp wt) M0) (fun i => [some (rv 0 0), some (rv 1 0), some (rv 2 0), some (iv (nI i))]) trivial rfl rfl ?_ ?_
  · intro i hi hI kk
    have hle := pN_le (nb := nb) (w := w) (s := ((0, (fun _ => -1), sz, wa, qu) : PT)) rfl i
    rw [show pN nb w ((0, (fun _ => -1), sz, wa, qu) : PT) (i + 1) = pS nb w (pN nb w ((0, (fun _ => -1), sz, wa, qu) : PT) i) i from rfl] at kk
    generalize pN nb w ((0, (fun _ => -1), sz, wa, qu) : PT) i = X at kk hle ⊢
    obtain ⟨k, lb, sz, wa, qu⟩ := X
    dsimp only at hle ⊢
    refine r_iload_n E (dat dkX3_findAll 9 rfl) rfl rfl ?_
    refine r_aload_n E (dat dkX3_findAll 10 rfl) rfl rfl ?_
    refine q_getn E fl_X3_34 (dat dkX3_findAll 11 rfl) rfl rfl rfl (go3_1 gfP_9) ?_
    refine q_icmp_ge (tgt := 65) E (dat dkX3_findAll 12 rfl) rfl rfl rfl (by omega) (by omega) (fun h20 => ?_) (fun h20 => ?_)
    ·
      omega
    ·
      refine r_aload_n E (dat dkX3_findAll 13 rfl) rfl rfl ?_
      refine q_geta E fl_X3_39 (dat dkX3_findAll 14 rfl) rfl rfl rfl ?_
      refine r_iload_n E (dat dkX3_findAll 15 rfl) rfl rfl ?_
      refine q_iald E (dat dkX3_findAll 16 rfl) rfl rfl (by decide) (gg3_2 gaS_1) rfl (by omega) ?_
      refine r_if_le (tgt := 59) E (dat dkX3_findAll 17 rfl) rfl (fun h29 => ?_) (fun h29 => ?_)
      ·
        refine q_iinc_3 E (dat dkX3_findAll 35 rfl) rfl rfl ?_
        refine r_goto (tgt := 15) E (dat dkX3_findAll 36 rfl) rfl ?_
        first
          | rw [pS_0 (fun q => i32_nlt h29 q.1)] at kk
          | rw [pS_0 (fun q => h39 q.2)] at kk
          | rw [pS_1 (i32_nle h29) h39] at kk
        exact kk trivial
      ·
        refine r_aload_n E (dat dkX3_findAll 18 rfl) rfl rfl ?_
        refine q_geta E fl_X3_9 (dat dkX3_findAll 19 rfl) rfl rfl rfl ?_
        refine r_iload_n E (dat dkX3_findAll 20 rfl) rfl rfl ?_
        refine q_iald E (dat dkX3_findAll 21 rfl) rfl rfl (by decide) (gg3_0 gaU_1) rfl (by omega) ?_
        refine r_iconst (v := -1) E (dat dkX3_findAll 22 rfl) rfl ?_
        refine r_icmp_ne (tgt := 59) E (dat dkX3_findAll 23 rfl) rfl (fun h39 => ?_) (fun h39 => ?_)
        ·
          refine q_iinc_3 E (dat dkX3_findAll 35 rfl) rfl rfl ?_
          refine r_goto (tgt := 15) E (dat dkX3_findAll 36 rfl) rfl ?_
          first
            | rw [pS_0 (fun q => i32_nlt h29 q.1)] at kk
            | rw [pS_0 (fun q => h39 q.2)] at kk
            | rw [pS_1 (i32_nle h29) h39] at kk
          exact kk trivial
        ·
          refine r_aload_n E (dat dkX3_findAll 24 rfl) rfl rfl ?_
          refine r_aload_n E (dat dkX3_findAll 25 rfl) rfl rfl ?_
          refine r_aload_n E (dat dkX3_findAll 26 rfl) rfl rfl ?_
          refine r_iload_n E (dat dkX3_findAll 27 rfl) rfl rfl ?_
          refine r_callV (κ := 5) (μ := [0, 1, 2]) E (sp_X3_fillFrom l G B2 k lb sz wa qu B0 mi ra rd fh dr ev dp sw w lv hr ht pl sp wt B1 ro co n bc fr he gu be nm nl bh fp n0 n1 n2 n3 nb hbe hnb i _ rfl rfl rfl hn hi (by omega)) my_X3_fillFrom iv_X3_fillFrom ml_X3_44 (cm_of rfl) ⟨by decide, rfl, rfl⟩ rfl rfl rfl rfl (by decide) (Nat.le_of_ble_eq_true rfl) (dat dkX3_findAll 28 rfl) ?_
          rintro _ _ ⟨rfl, rfl⟩
          refine ⟨_, Mrg_e (by decide) (by decide) pm3_0 rfl, ?_⟩
          refine r_aload_n E (dat dkX3_findAll 29 rfl) rfl rfl ?_
          refine r_dup E (dat dkX3_findAll 30 rfl) rfl ?_
          refine q_getn E fl_X3_24 (dat dkX3_findAll 31 rfl) rfl rfl rfl (go3_0 gfU_4) ?_
          refine r_iconst (v := 1) E (dat dkX3_findAll 32 rfl) rfl ?_
          refine r_iadd E (dat dkX3_findAll 33 rfl) ?_
          rw [show nI k + 1 = nI (k + 1) from nI_1 k]
          refine q_putn E ft_X3_24 (dat dkX3_findAll 34 rfl) rfl rfl rfl (sf3_0 pfU_4) ?_
          refine q_iinc_3 E (dat dkX3_findAll 35 rfl) rfl rfl ?_
          refine r_goto (tgt := 15) E (dat dkX3_findAll 36 rfl) rfl ?_
          first
            | rw [pS_0 (fun q => i32_nlt h29 q.1)] at kk
            | rw [pS_0 (fun q => h39 q.2)] at kk
            | rw [pS_1 (i32_nle h29) h39] at kk
          exact kk trivial
  · intro hI
    refine r_iload_n E (dat dkX3_findAll 9 rfl) rfl rfl ?_
    refine r_aload_n E (dat dkX3_findAll 10 rfl) rfl rfl ?_
    refine q_getn E fl_X3_34 (dat dkX3_findAll 11 rfl) rfl rfl rfl (go3_1 gfP_9) ?_
    refine q_icmp_ge (tgt := 65) E (dat dkX3_findAll 12 rfl) rfl rfl rfl (by omega) (by omega) (fun h20 => ?_) (fun h20 => ?_)
    ·
      refine r_vreturn E (dat dkX3_findAll 37 rfl) (by decide) (by decide) ?_
      exact ⟨rfl, by rw [pm3_0]⟩
    ·
      omega

set_option maxRecDepth 100000 in
set_option maxHeartbeats 4000000 in
theorem sp_X8_findAll (l : Launch) (G : GT) (B2 : Nat → Nat → Int32) (se qu : Nat → Int32) (B0 : Nat → Nat → Int32) (mi ra rd fh dr ev dp sw : Int32) (w lv hr ht pl sp wt : Nat → Int32) (B1 : Nat → Nat → Int32) (ro co : Int32) (n : Nat) (bc fr : Int32) (he gu be nm nl bh fp n0 n1 n2 n3 : Nat → Int32) (nb : Nat → Nat → Option Nat) (hbe : ∀ c d, c < n → d < 4 → be (c * 4 + d) = oI (nb c d)) (hnb : ∀ c d k, nb c d = some k → k < n) (f : Nat) (h : Int32) (M : Mem) (hA0 : M 0 = (vW B2 (se) (qu))) (hA1 : M 1 = (vP B1 ro co (nI n) bc fr he gu be nm nl bh fp n0 n1 n2 n3)) (hA2 : M 2 = (vS B0 mi ra rd fh dr ev dp sw w lv hr ht pl sp wt)) (hn : n ≤ 64) (hf : f < n) : MC l G yX8_findAll cX8_findAll 10 none ({ frames := 2, cells := 0, slots := 0, locals := 43 } : Room) [6, 2, 1] lk0 [rv 0 0, rv 1 0, rv 2 0, iv (nI f), iv h] (M) (fun r M2 => r = none ∧ M2 = setm M 0 (vW B2 ((wF nb w h 64 0 ((upd (fun _ => -1) f 0, upd qu 0 (nI f), 1) : BT)).1) ((wF nb w h 64 0 ((upd (fun _ => -1) f 0, upd qu 0 (nI f), 1) : BT)).2.1))) := by
  obtain ⟨M0, rfl⟩ : ∃ M0, M = m3 ((vW B2 (se) (qu))) ((vP B1 ro co (nI n) bc fr he gu be nm nl bh fp n0 n1 n2 n3)) ((vS B0 mi ra rd fh dr ev dp sw w lv hr ht pl sp wt)) M0 := ⟨M, (m3_of hA0 hA1 hA2).symm⟩
  clear hA0 hA1 hA2
  refine MC.of RX8 [some (rv 0 0), some (rv 1 0), some (rv 2 0), some (iv (nI f)), some (iv h), none, none, none, none, none] 5 (by decide +kernel) rfl rfl rfl ?_
  intro pp ee ss mm aa bb me cd ad E
  refine r_aload_n E (dat dkX8_findAll 0 rfl) rfl rfl ?_
  refine q_geta E fl_X8_9 (dat dkX8_findAll 1 rfl) rfl rfl rfl ?_
  refine r_iconst (v := -1) E (dat dkX8_findAll 2 rfl) rfl ?_
  refine r_callS (μ := [0]) E (sp_fill l G 6 1 64 (-1) _ rfl (by decide) (by decide)) my_J7_fill_53178 is_J7_fill_53178 ml_X8_18 (cm_of rfl) rfl rfl (by decide) (by decide) (dat dkX8_findAll 3 rfl) ?_
  rintro _ _ ⟨rfl, rfl⟩
  refine ⟨_, Mrg_e (by decide) (by decide) (sa3_0 paW_1) rfl, ?_⟩
  refine r_aload_n E (dat dkX8_findAll 4 rfl) rfl rfl ?_
  refine r_iload_n E (dat dkX8_findAll 5 rfl) rfl rfl ?_
  refine r_callV (κ := 2) (μ := [1]) E (sp_X2_hasCell l G B1 ro co n bc fr he gu be nm nl bh fp n0 n1 n2 n3 (nI f) _ rfl) my_X2_hasCell iv_X2_hasCell ml_X8_24 (cm_of rfl) ⟨by decide, rfl, rfl⟩ rfl rfl rfl rfl (by decide) (Nat.le_of_ble_eq_true rfl) (dat dkX8_findAll 6 rfl) ?_
  rintro _ _ ⟨rfl, rfl⟩
  refine ⟨_, Mrg_z rfl, ?_⟩
  rw [hcI_in hf hn]
  refine r_if_ne (tgt := 17) E (dat dkX8_findAll 7 rfl) rfl (fun h13 => ?_) (fun h13 => ?_)
  ·
    refine r_aload_n E (dat dkX8_findAll 9 rfl) rfl rfl ?_
    refine q_geta E fl_X8_9 (dat dkX8_findAll 10 rfl) rfl rfl rfl ?_
    refine r_iload_n E (dat dkX8_findAll 11 rfl) rfl rfl ?_
    refine r_iconst (v := 0) E (dat dkX8_findAll 12 rfl) rfl ?_
    refine q_iast E (dat dkX8_findAll 13 rfl) rfl rfl (by decide) (gg3_0 gaW_1) (fun _ => sa3_0 paW_1) rfl (by omega) ?_
    refine r_aload_n E (dat dkX8_findAll 14 rfl) rfl rfl ?_
    refine q_geta E fl_X8_15 (dat dkX8_findAll 15 rfl) rfl rfl rfl ?_
    refine r_iconst (v := 0) E (dat dkX8_findAll 16 rfl) rfl ?_
    refine r_iload_n E (dat dkX8_findAll 17 rfl) rfl rfl ?_
    refine q_iast E (dat dkX8_findAll 18 rfl) rfl rfl (by decide) (gg3_0 gaW_2) (fun _ => sa3_0 paW_2) (show (0 : Int32) = nI 0 from rfl) (by omega) ?_
    refine r_iconst (v := 1) E (dat dkX8_findAll 19 rfl) rfl ?_
    refine r_istore_5 E (dat dkX8_findAll 20 rfl) rfl rfl ?_
    refine r_iconst (v := 0) E (dat dkX8_findAll 21 rfl) rfl ?_
    refine r_istore_6 E (dat dkX8_findAll 22 rfl) rfl rfl ?_
    refine r_while (β := Nat × BT) (fun x => 64 - x.1) (fun x => x.1 ≤ 64 ∧ bOK n x.2 ∧ wF nb w h (64 - x.1) x.1 x.2 = (wF nb w h 64 0 ((upd (fun _ => -1) f 0, upd qu 0 (nI f), 1) : BT))) (fun x => m3 (vW B2 (x.2.1) (x.2.2.1)) (vP B1 ro co (nI n) bc fr he gu be nm nl bh fp n0 n1 n2 n3) (vS B0 mi ra rd fh dr ev dp sw w lv hr ht pl sp wt) M0) (fun x => [some (rv 0 0), some (rv 1 0), some (rv 2 0), some (iv (nI f)), some (iv h), some (iv (nI x.2.2.2)), some (iv (nI x.1)), none, none, none]) ((0, ((upd (fun _ => -1) f 0, upd qu 0 (nI f), 1) : BT))) ⟨Nat.zero_le _, ⟨(show 1 ≤ 64 by omega), fun i hi => ⟨f, hf, (by rw [show i = 0 by (have h1 : i < 1 := hi); omega]; rfl)⟩⟩, rfl⟩ rfl rfl ?_
    intro y hI kk0
    obtain ⟨done, X⟩ := y
    dsimp only at hI ⊢
    have hq64 := hI.2.1.1
    refine r_iload E (dat dkX8_findAll 23 rfl) rfl ?_
    refine r_iload E (dat dkX8_findAll 24 rfl) rfl ?_
    refine q_icmp_ge (tgt := 154) E (dat dkX8_findAll 25 rfl) rfl rfl rfl (by omega) (by omega) (fun h41 => ?_) (fun h41 => ?_)
    ·
      refine r_vreturn E (dat dkX8_findAll 81 rfl) (by decide) (by decide) ?_
      refine ⟨rfl, ?_⟩
      rw [pm3_0, ← hI.2.2]
      first
        | rw [wF_no (show ¬ done < X.2.2 from Nat.not_lt.mpr h41)]
        | rw [wF_end h48]
    ·
      refine r_iload E (dat dkX8_findAll 26 rfl) rfl ?_
      refine r_bipush (v := 64) E (dat dkX8_findAll 27 rfl) rfl ?_
      refine q_icmp_ge (tgt := 154) E (dat dkX8_findAll 28 rfl) rfl rfl (b := 64) rfl (by omega) (by omega) (fun h48 => ?_) (fun h48 => ?_)
      ·
        refine r_vreturn E (dat dkX8_findAll 81 rfl) (by decide) (by decide) ?_
        refine ⟨rfl, ?_⟩
        rw [pm3_0, ← hI.2.2]
        first
          | rw [wF_no (show ¬ done < X.2.2 from Nat.not_lt.mpr h41)]
          | rw [wF_end h48]
      ·
        refine r_aload_n E (dat dkX8_findAll 29 rfl) rfl rfl ?_
        refine q_geta E fl_X8_15 (dat dkX8_findAll 30 rfl) rfl rfl rfl ?_
        refine r_iload E (dat dkX8_findAll 31 rfl) rfl ?_
        refine q_iald E (dat dkX8_findAll 32 rfl) rfl rfl (by decide) (gg3_0 gaW_2) rfl (by omega) ?_
        obtain ⟨q, hqn, hq⟩ := hI.2.1.2 done h41
        rw [hq]
        refine r_istore_7 E (dat dkX8_findAll 33 rfl) rfl rfl ?_
        refine r_iconst (v := 0) E (dat dkX8_findAll 34 rfl) rfl ?_
        refine r_istore_8 E (dat dkX8_findAll 35 rfl) rfl rfl ?_
        refine r_for (4) (fun _ => bOK n X) (fun i => m3 (vW B2 ((wN nb w h q X i).1) ((wN nb w h q X i).2.1)) (vP B1 ro co (nI n) bc fr he gu be nm nl bh fp n0 n1 n2 n3) (vS B0 mi ra rd fh dr ev dp sw w lv hr ht pl sp wt) M0) (fun i => [some (rv 0 0), some (rv 1 0), some (rv 2 0), some (iv (nI f)), some (iv h), some (iv (nI (wN nb w h q X i).2.2)), some (iv (nI done)), some (iv (nI q)), some (iv (nI i)), none]) hI.2.1 rfl rfl ?_ ?_
        · intro i hi hI0 kk
          have hb := wN_ok (w := w) (h := h) (q := q) hnb hI0 i
          rw [show wN nb w h q X (i + 1) = wD nb w h q i (wN nb w h q X i) from rfl] at kk
          generalize wN nb w h q X i = Q at kk hb ⊢
          have hb64 := hb.1
          refine r_iload E (dat dkX8_findAll 36 rfl) rfl ?_
          refine r_iconst (v := 3) E (dat dkX8_findAll 37 rfl) rfl ?_
          refine q_icmp_gt (tgt := 148) E (dat dkX8_findAll 38 rfl) rfl rfl (b := 3) rfl (by omega) (by omega) (fun h66 => ?_) (fun h66 => ?_)
          ·
            omega
          ·
            refine r_aload_n E (dat dkX8_findAll 39 rfl) rfl rfl ?_
            refine r_iload E (dat dkX8_findAll 40 rfl) rfl ?_
            refine r_iload E (dat dkX8_findAll 41 rfl) rfl ?_
            refine r_callV (κ := 2) (μ := [1]) E (sp_X2_cellBeside l G B1 ro co n bc fr he gu be nm nl bh fp n0 n1 n2 n3 q i _ rfl hqn hn hi) my_X2_cellBeside iv_X2_cellBeside ml_X8_30 (cm_of rfl) ⟨by decide, rfl, rfl⟩ rfl rfl rfl rfl (by decide) (Nat.le_of_ble_eq_true rfl) (dat dkX8_findAll 42 rfl) ?_
            rintro _ _ ⟨rfl, rfl⟩
            refine ⟨_, Mrg_z rfl, ?_⟩
            rw [hbe q i hqn hi]
            rcases hz : nb q i with _ | o
            ·
              refine r_istore_9 E (dat dkX8_findAll 43 rfl) rfl rfl ?_
              refine r_iload E (dat dkX8_findAll 44 rfl) rfl ?_
              refine r_if_lt (tgt := 142) E (dat dkX8_findAll 45 rfl) rfl (fun h81 => ?_) (fun h81 => ?_)
              ·
                refine q_iinc_8 E (dat dkX8_findAll 77 rfl) rfl rfl ?_
                refine r_goto (tgt := 63) E (dat dkX8_findAll 78 rfl) rfl ?_
                first
                  | rw [wD_0 hz] at kk
                  | rw [wD_1 hz (fun q => h92 q.1)] at kk
                  | rw [wD_1 hz (fun q => i32_nlt q.2.1 h104)] at kk
                  | rw [wD_1 hz (fun q => absurd q.2.2 (by omega))] at kk
                  | rw [wD_2 hz h92 (Int32.not_lt.mp h104) h111] at kk
                refine r_back ?_ ?_ (kk hI0)
                · rfl
                · exact And.intro rfl (And.intro rfl (And.intro rfl (And.intro rfl (And.intro rfl (And.intro rfl (And.intro rfl (And.intro rfl (And.intro rfl (trivial)))))))))
              ·
                exact absurd (show oI none < 0 by decide) h81
            ·
              have ho := hnb q i o hz
              refine r_istore_9 E (dat dkX8_findAll 43 rfl) rfl rfl ?_
              refine r_iload E (dat dkX8_findAll 44 rfl) rfl ?_
              refine r_if_lt (tgt := 142) E (dat dkX8_findAll 45 rfl) rfl (fun h81 => ?_) (fun h81 => ?_)
              ·
                exact absurd h81 (nI_pos (by omega))
              ·
                refine r_aload_n E (dat dkX8_findAll 46 rfl) rfl rfl ?_
                refine q_geta E fl_X8_9 (dat dkX8_findAll 47 rfl) rfl rfl rfl ?_
                refine r_iload E (dat dkX8_findAll 48 rfl) rfl ?_
                refine q_iald E (dat dkX8_findAll 49 rfl) rfl rfl (by decide) (gg3_0 gaW_1) rfl (by omega) ?_
                refine r_iconst (v := -1) E (dat dkX8_findAll 50 rfl) rfl ?_
                refine r_icmp_ne (tgt := 142) E (dat dkX8_findAll 51 rfl) rfl (fun h92 => ?_) (fun h92 => ?_)
                ·
                  refine q_iinc_8 E (dat dkX8_findAll 77 rfl) rfl rfl ?_
                  refine r_goto (tgt := 63) E (dat dkX8_findAll 78 rfl) rfl ?_
                  first
                    | rw [wD_0 hz] at kk
                    | rw [wD_1 hz (fun q => h92 q.1)] at kk
                    | rw [wD_1 hz (fun q => i32_nlt q.2.1 h104)] at kk
                    | rw [wD_1 hz (fun q => absurd q.2.2 (by omega))] at kk
                    | rw [wD_2 hz h92 (Int32.not_lt.mp h104) h111] at kk
                  refine r_back ?_ ?_ (kk hI0)
                  · rfl
                  · exact And.intro rfl (And.intro rfl (And.intro rfl (And.intro rfl (And.intro rfl (And.intro rfl (And.intro rfl (And.intro rfl (And.intro rfl (trivial)))))))))
                ·
                  refine r_aload_n E (dat dkX8_findAll 52 rfl) rfl rfl ?_
                  refine q_geta E fl_X8_34 (dat dkX8_findAll 53 rfl) rfl rfl rfl ?_
                  refine r_iload E (dat dkX8_findAll 54 rfl) rfl ?_
                  refine q_iald E (dat dkX8_findAll 55 rfl) rfl rfl (by decide) (gg3_2 gaS_1) rfl (by omega) ?_
                  refine r_iload E (dat dkX8_findAll 56 rfl) rfl ?_
                  refine r_icmp_gt (tgt := 142) E (dat dkX8_findAll 57 rfl) rfl (fun h104 => ?_) (fun h104 => ?_)
                  ·
                    refine q_iinc_8 E (dat dkX8_findAll 77 rfl) rfl rfl ?_
                    refine r_goto (tgt := 63) E (dat dkX8_findAll 78 rfl) rfl ?_
                    first
                      | rw [wD_0 hz] at kk
                      | rw [wD_1 hz (fun q => h92 q.1)] at kk
                      | rw [wD_1 hz (fun q => i32_nlt q.2.1 h104)] at kk
                      | rw [wD_1 hz (fun q => absurd q.2.2 (by omega))] at kk
                      | rw [wD_2 hz h92 (Int32.not_lt.mp h104) h111] at kk
                    refine r_back ?_ ?_ (kk hI0)
                    · rfl
                    · exact And.intro rfl (And.intro rfl (And.intro rfl (And.intro rfl (And.intro rfl (And.intro rfl (And.intro rfl (And.intro rfl (And.intro rfl (trivial)))))))))
                  ·
                    refine r_iload E (dat dkX8_findAll 58 rfl) rfl ?_
                    refine r_bipush (v := 64) E (dat dkX8_findAll 59 rfl) rfl ?_
                    refine q_icmp_ge (tgt := 142) E (dat dkX8_findAll 60 rfl) rfl rfl (b := 64) rfl (by omega) (by omega) (fun h111 => ?_) (fun h111 => ?_)
                    ·
                      refine q_iinc_8 E (dat dkX8_findAll 77 rfl) rfl rfl ?_
                      refine r_goto (tgt := 63) E (dat dkX8_findAll 78 rfl) rfl ?_
                      first
                        | rw [wD_0 hz] at kk
                        | rw [wD_1 hz (fun q => h92 q.1)] at kk
                        | rw [wD_1 hz (fun q => i32_nlt q.2.1 h104)] at kk
                        | rw [wD_1 hz (fun q => absurd q.2.2 (by omega))] at kk
                        | rw [wD_2 hz h92 (Int32.not_lt.mp h104) h111] at kk
                      refine r_back ?_ ?_ (kk hI0)
                      · rfl
                      · exact And.intro rfl (And.intro rfl (And.intro rfl (And.intro rfl (And.intro rfl (And.intro rfl (And.intro rfl (And.intro rfl (And.intro rfl (trivial)))))))))
                    ·
                      refine r_aload_n E (dat dkX8_findAll 61 rfl) rfl rfl ?_
                      refine q_geta E fl_X8_9 (dat dkX8_findAll 62 rfl) rfl rfl rfl ?_
                      refine r_iload E (dat dkX8_findAll 63 rfl) rfl ?_
                      refine r_aload_n E (dat dkX8_findAll 64 rfl) rfl rfl ?_
                      refine q_geta E fl_X8_9 (dat dkX8_findAll 65 rfl) rfl rfl rfl ?_
                      refine r_iload E (dat dkX8_findAll 66 rfl) rfl ?_
                      refine q_iald E (dat dkX8_findAll 67 rfl) rfl rfl (by decide) (gg3_0 gaW_1) rfl (by omega) ?_
                      refine r_iconst (v := 1) E (dat dkX8_findAll 68 rfl) rfl ?_
                      refine r_iadd E (dat dkX8_findAll 69 rfl) ?_
                      refine q_iast E (dat dkX8_findAll 70 rfl) rfl rfl (by decide) (gg3_0 gaW_1) (fun _ => sa3_0 paW_1) rfl (by omega) ?_
                      refine r_aload_n E (dat dkX8_findAll 71 rfl) rfl rfl ?_
                      refine q_geta E fl_X8_15 (dat dkX8_findAll 72 rfl) rfl rfl rfl ?_
                      refine r_iload E (dat dkX8_findAll 73 rfl) rfl ?_
                      refine r_iload E (dat dkX8_findAll 74 rfl) rfl ?_
                      refine q_iast E (dat dkX8_findAll 75 rfl) rfl rfl (by decide) (gg3_0 gaW_2) (fun _ => sa3_0 paW_2) rfl (by omega) ?_
                      refine q_iinc_5 E (dat dkX8_findAll 76 rfl) rfl rfl ?_
                      refine q_iinc_8 E (dat dkX8_findAll 77 rfl) rfl rfl ?_
                      refine r_goto (tgt := 63) E (dat dkX8_findAll 78 rfl) rfl ?_
                      first
                        | rw [wD_0 hz] at kk
                        | rw [wD_1 hz (fun q => h92 q.1)] at kk
                        | rw [wD_1 hz (fun q => i32_nlt q.2.1 h104)] at kk
                        | rw [wD_1 hz (fun q => absurd q.2.2 (by omega))] at kk
                        | rw [wD_2 hz h92 (Int32.not_lt.mp h104) h111] at kk
                      refine r_back ?_ ?_ (kk hI0)
                      · rfl
                      · exact And.intro rfl (And.intro rfl (And.intro rfl (And.intro rfl (And.intro rfl (And.intro rfl (And.intro rfl (And.intro rfl (And.intro rfl (trivial)))))))))
        · intro hI0
          refine r_iload E (dat dkX8_findAll 36 rfl) rfl ?_
          refine r_iconst (v := 3) E (dat dkX8_findAll 37 rfl) rfl ?_
          refine q_icmp_gt (tgt := 148) E (dat dkX8_findAll 38 rfl) rfl rfl (b := 3) rfl (by omega) (by omega) (fun h66 => ?_) (fun h66 => ?_)
          ·
            refine q_iinc_6 E (dat dkX8_findAll 79 rfl) rfl rfl ?_
            refine r_goto (tgt := 37) E (dat dkX8_findAll 80 rfl) rfl ?_
            refine r_back ?_ ?_ (kk0 (done + 1, wS nb w h X done) ⟨by omega, ?_, (wF_go h41 h48).trans hI.2.2⟩ (by show 64 - (done + 1) < 64 - done; omega))
            rotate_left
            · exact And.intro rfl (And.intro rfl (And.intro rfl (And.intro rfl (And.intro rfl (And.intro (by show some (iv (nI (wN nb w h q X 4).2.2)) = some (iv (nI (wN nb w h (X.2.1 done).toNatClampNeg X 4).2.2)); rw [hq, nI_clamp (by omega)]) (And.intro rfl trivial))))))
            · exact wN_ok hnb hI.2.1 4
            · unfold wS; simp only [hq, nI_clamp (show q < 2 ^ 31 by omega)]
          ·
            omega
  ·
    exact absurd h13 (by decide)
