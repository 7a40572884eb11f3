set_option maxRecDepth 100000 in
set_option maxHeartbeats 4000000 in
theorem sp_X3_findAll (l : Launch) (G : GT) (B2 : Nat → Nat → Int32) (ct : Int32) (lb sz wa qu : Nat → Int32) (B0 : Nat → Nat → Int32) (mi ra rd fh dr ev dp sw : Int32) (w lv hr ht pl sp wt : Nat → Int32) (B1 : Nat → Nat → Int32) (ro co : Int32) (n : Nat) (bc fr : Int32) (he gu be nm nl bh fp n0 n1 n2 n3 : Nat → Int32) (nb : Nat → Nat → Option Nat) (hbe : ∀ c d, c < n → d < 4 → be (c * 4 + d) = oI (nb c d)) (hnb : ∀ c d k, nb c d = some k → k < n) (M : Mem) (hA0 : M 0 = (vU B2 (ct) lb sz wa qu)) (hA1 : M 1 = (vP B1 ro co (nI n) bc fr he gu be nm nl bh fp n0 n1 n2 n3)) (hA2 : M 2 = (vS B0 mi ra rd fh dr ev dp sw w lv hr ht pl sp wt)) (hn : n ≤ 64) : MC l G yX3_findAll cX3_findAll 4 none ({ frames := 3, cells := 0, slots := 0, locals := 71 } : Room) [5, 2, 1] lk0 [rv 0 0, rv 1 0, rv 2 0] (M) (fun r M2 => r = none ∧ M2 = setm M 0 (vU B2 (nI (pN nb w ((0, (fun _ => -1), sz, wa, qu) : PT) n).1) ((pN nb w ((0, (fun _ => -1), sz, wa, qu) : PT) n).2.1) ((pN nb w ((0, (fun _ => -1), sz, wa, qu) : PT) n).2.2.1) ((pN nb w ((0, (fun _ => -1), sz, wa, qu) : PT) n).2.2.2.1) ((pN nb w ((0, (fun _ => -1), sz, wa, qu) : PT) n).2.2.2.2))) := by
  obtain ⟨M0, rfl⟩ : ∃ M0, M = m3 ((vU B2 (ct) lb sz wa qu)) ((vP B1 ro co (nI n) bc fr he gu be nm nl bh fp n0 n1 n2 n3)) ((vS B0 mi ra rd fh dr ev dp sw w lv hr ht pl sp wt)) M0 := ⟨M, (m3_of hA0 hA1 hA2).symm⟩
  clear hA0 hA1 hA2
  refine MC.of RX3 [some (rv 0 0), some (rv 1 0), some (rv 2 0), none] 1 (by decide +kernel) rfl rfl rfl ?_
  intro pp ee ss mm aa bb me cd ad E
  refine r_aload_n E (dat dkX3_findAll 0 rfl) rfl rfl ?_
  refine q_geta E fl_X3_9 (dat dkX3_findAll 1 rfl) rfl rfl rfl ?_
  refine r_iconst (v := -1) E (dat dkX3_findAll 2 rfl) rfl ?_
  refine r_callS (μ := [0]) E (sp_fill l G 5 1 64 (-1) _ rfl (by decide) (by decide)) my_J7_fill_53178 is_J7_fill_53178 ml_X3_28 (cm_of rfl) rfl rfl (by decide) (by decide) (dat dkX3_findAll 3 rfl) ?_
  rintro _ _ ⟨rfl, rfl⟩
  refine ⟨_, Mrg_e (by decide) (by decide) (sa3_0 paU_1) rfl, ?_⟩
  refine r_aload_n E (dat dkX3_findAll 4 rfl) rfl rfl ?_
  refine r_iconst (v := 0) E (dat dkX3_findAll 5 rfl) rfl ?_
  refine q_putn E ft_X3_24 (dat dkX3_findAll 6 rfl) rfl rfl rfl (sf3_0 pfU_4) ?_
  refine r_iconst (v := 0) E (dat dkX3_findAll 7 rfl) rfl ?_
  refine r_istore_3 E (dat dkX3_findAll 8 rfl) rfl rfl ?_
  refine r_for (n) (fun _ => True) (fun i => m3 (vU B2 (nI (pN nb w ((0, (fun _ => -1), sz, wa, qu) : PT) i).1) ((pN nb w ((0, (fun _ => -1), sz, wa, qu) : PT) i).2.1) ((pN nb w ((0, (fun _ => -1), sz, wa, qu) : PT) i).2.2.1) ((pN nb w ((0, (fun _ => -1), sz, wa, qu) : PT) i).2.2.2.1) ((pN nb w ((0, (fun _ => -1), sz, wa, qu) : PT) i).2.2.2.2)) (vP B1 ro co (nI n) bc fr he gu be nm nl bh fp n0 n1 n2 n3) (vS B0 mi ra rd fh dr ev dp sw w lv hr ht pl sp wt) M0) (fun i => [some (rv 0 0), some (rv 1 0), some (rv 2 0), some (iv (nI i))]) trivial rfl rfl ?_ ?_
  · intro i hi hI kk
    have hle := pN_le (nb := nb) (w := w) (s := ((0, (fun _ => -1), sz, wa, qu) : PT)) rfl i
    rw [show pN nb w ((0, (fun _ => -1), sz, wa, qu) : PT) (i + 1) = pS nb w (pN nb w ((0, (fun _ => -1), sz, wa, qu) : PT) i) i from rfl] at kk
    generalize pN nb w ((0, (fun _ => -1), sz, wa, qu) : PT) i = X at kk hle ⊢
    obtain ⟨k, lb, sz, wa, qu⟩ := X
    dsimp only at hle ⊢
    refine r_iload_n E (dat dkX3_findAll 9 rfl) rfl rfl ?_
    refine r_aload_n E (dat dkX3_findAll 10 rfl) rfl rfl ?_
    refine q_getn E fl_X3_34 (dat dkX3_findAll 11 rfl) rfl rfl rfl (go3_1 gfP_9) ?_
    refine q_icmp_ge (tgt := 65) E (dat dkX3_findAll 12 rfl) rfl rfl rfl (by omega) (by omega) (fun h20 => ?_) (fun h20 => ?_)
    ·
      omega
    ·
      refine r_aload_n E (dat dkX3_findAll 13 rfl) rfl rfl ?_
      refine q_geta E fl_X3_39 (dat dkX3_findAll 14 rfl) rfl rfl rfl ?_
      refine r_iload_n E (dat dkX3_findAll 15 rfl) rfl rfl ?_
      refine q_iald E (dat dkX3_findAll 16 rfl) rfl rfl (by decide) (gg3_2 gaS_1) rfl (by omega) ?_
      refine r_if_le (tgt := 59) E (dat dkX3_findAll 17 rfl) rfl (fun h29 => ?_) (fun h29 => ?_)
      ·
        refine q_iinc_3 E (dat dkX3_findAll 35 rfl) rfl rfl ?_
        refine r_goto (tgt := 15) E (dat dkX3_findAll 36 rfl) rfl ?_
        first
          | rw [pS_0 (fun q => i32_nlt h29 q.1)] at kk
          | rw [pS_0 (fun q => h39 q.2)] at kk
          | rw [pS_1 (i32_nle h29) h39] at kk
        exact kk trivial
      ·
        refine r_aload_n E (dat dkX3_findAll 18 rfl) rfl rfl ?_
        refine q_geta E fl_X3_9 (dat dkX3_findAll 19 rfl) rfl rfl rfl ?_
        refine r_iload_n E (dat dkX3_findAll 20 rfl) rfl rfl ?_
        refine q_iald E (dat dkX3_findAll 21 rfl) rfl rfl (by decide) (gg3_0 gaU_1) rfl (by omega) ?_
        refine r_iconst (v := -1) E (dat dkX3_findAll 22 rfl) rfl ?_
        refine r_icmp_ne (tgt := 59) E (dat dkX3_findAll 23 rfl) rfl (fun h39 => ?_) (fun h39 => ?_)
        ·
          refine q_iinc_3 E (dat dkX3_findAll 35 rfl) rfl rfl ?_
          refine r_goto (tgt := 15) E (dat dkX3_findAll 36 rfl) rfl ?_
          first
            | rw [pS_0 (fun q => i32_nlt h29 q.1)] at kk
            | rw [pS_0 (fun q => h39 q.2)] at kk
            | rw [pS_1 (i32_nle h29) h39] at kk
          exact kk trivial
        ·
          refine r_aload_n E (dat dkX3_findAll 24 rfl) rfl rfl ?_
          refine r_aload_n E (dat dkX3_findAll 25 rfl) rfl rfl ?_
          refine r_aload_n E (dat dkX3_findAll 26 rfl) rfl rfl ?_
          refine r_iload_n E (dat dkX3_findAll 27 rfl) rfl rfl ?_
          refine r_callV (κ := 5) (μ := [0, 1, 2]) E (sp_X3_fillFrom l G B2 k lb sz wa qu B0 mi ra rd fh dr ev dp sw w lv hr ht pl sp wt B1 ro co n bc fr he gu be nm nl bh fp n0 n1 n2 n3 nb hbe hnb i _ rfl rfl rfl hn hi (by omega)) my_X3_fillFrom iv_X3_fillFrom ml_X3_44 (cm_of rfl) ⟨by decide, rfl, rfl⟩ rfl rfl rfl rfl (by decide) (Nat.le_of_ble_eq_true rfl) (dat dkX3_findAll 28 rfl) ?_
          rintro _ _ ⟨rfl, rfl⟩
          refine ⟨_, Mrg_e (by decide) (by decide) pm3_0 rfl, ?_⟩
          refine r_aload_n E (dat dkX3_findAll 29 rfl) rfl rfl ?_
          refine r_dup E (dat dkX3_findAll 30 rfl) rfl ?_
          refine q_getn E fl_X3_24 (dat dkX3_findAll 31 rfl) rfl rfl rfl (go3_0 gfU_4) ?_
          refine r_iconst (v := 1) E (dat dkX3_findAll 32 rfl) rfl ?_
          refine r_iadd E (dat dkX3_findAll 33 rfl) ?_
          rw [show nI k + 1 = nI (k + 1) from nI_1 k]
          refine q_putn E ft_X3_24 (dat dkX3_findAll 34 rfl) rfl rfl rfl (sf3_0 pfU_4) ?_
          refine q_iinc_3 E (dat dkX3_findAll 35 rfl) rfl rfl ?_
          refine r_goto (tgt := 15) E (dat dkX3_findAll 36 rfl) rfl ?_
          first
            | rw [pS_0 (fun q => i32_nlt h29 q.1)] at kk
            | rw [pS_0 (fun q => h39 q.2)] at kk
            | rw [pS_1 (i32_nle h29) h39] at kk
          exact kk trivial
  · intro hI
    refine r_iload_n E (dat dkX3_findAll 9 rfl) rfl rfl ?_
    refine r_aload_n E (dat dkX3_findAll 10 rfl) rfl rfl ?_
    refine q_getn E fl_X3_34 (dat dkX3_findAll 11 rfl) rfl rfl rfl (go3_1 gfP_9) ?_
    refine q_icmp_ge (tgt := 65) E (dat dkX3_findAll 12 rfl) rfl rfl rfl (by omega) (by omega) (fun h20 => ?_) (fun h20 => ?_)
    ·
      refine r_vreturn E (dat dkX3_findAll 37 rfl) (by decide) (by decide) ?_
      exact ⟨rfl, by rw [pm3_0]⟩
    ·
      omega
