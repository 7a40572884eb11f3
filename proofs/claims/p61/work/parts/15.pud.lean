set_option maxRecDepth 100000 in
set_option maxHeartbeats 4000000 in
theorem sp_X3_fillFrom (l : Launch) (G : GT) (B2 : Nat → Nat → Int32) (k : Nat) (lb sz wa qu : Nat → Int32) (B0 : Nat → Nat → Int32) (mi ra rd fh dr ev dp sw : Int32) (w lv hr ht pl sp wt : Nat → Int32) (B1 : Nat → Nat → Int32) (ro co : Int32) (n : Nat) (bc fr : Int32) (he gu be nm nl bh fp n0 n1 n2 n3 : Nat → Int32) (nb : Nat → Nat → Option Nat) (hbe : ∀ c d, c < n → d < 4 → be (c * 4 + d) = oI (nb c d)) (hnb : ∀ c d k, nb c d = some k → k < n) (f : Nat) (M : Mem) (hA0 : M 0 = (vU B2 (nI k) lb sz wa qu)) (hA1 : M 1 = (vP B1 ro co (nI n) bc fr he gu be nm nl bh fp n0 n1 n2 n3)) (hA2 : M 2 = (vS B0 mi ra rd fh dr ev dp sw w lv hr ht pl sp wt)) (hn : n ≤ 64) (hf : f < n) (hk : k < 64) : MC l G yX3_fillFrom cX3_fillFrom 9 none ({ frames := 2, cells := 0, slots := 0, locals := 43 } : Room) [5, 2, 1] lk0 [rv 0 0, rv 1 0, rv 2 0, iv (nI f)] (M) (fun r M2 => r = none ∧ M2 = setm M 0 (vU B2 (nI k) ((bF nb w k 64 0 (((upd lb f (nI k), upd qu 0 (nI f), 1), upd sz k 0, upd wa k 0) : BS)).1.1) ((bF nb w k 64 0 (((upd lb f (nI k), upd qu 0 (nI f), 1), upd sz k 0, upd wa k 0) : BS)).2.1) ((bF nb w k 64 0 (((upd lb f (nI k), upd qu 0 (nI f), 1), upd sz k 0, upd wa k 0) : BS)).2.2) ((bF nb w k 64 0 (((upd lb f (nI k), upd qu 0 (nI f), 1), upd sz k 0, upd wa k 0) : BS)).1.2.1))) := by
  obtain ⟨M0, rfl⟩ : ∃ M0, M = m3 ((vU B2 (nI k) lb sz wa qu)) ((vP B1 ro co (nI n) bc fr he gu be nm nl bh fp n0 n1 n2 n3)) ((vS B0 mi ra rd fh dr ev dp sw w lv hr ht pl sp wt)) M0 := ⟨M, (m3_of hA0 hA1 hA2).symm⟩
  clear hA0 hA1 hA2
  refine MC.of RX3 [some (rv 0 0), some (rv 1 0), some (rv 2 0), some (iv (nI f)), none, none, none, none, none] 5 (by decide +kernel) rfl rfl rfl ?_
  intro pp ee ss mm aa bb me cd ad E
  refine r_aload_n E (dat dkX3_fillFrom 0 rfl) rfl rfl ?_
  refine q_geta E fl_X3_15 (dat dkX3_fillFrom 1 rfl) rfl rfl rfl ?_
  refine r_aload_n E (dat dkX3_fillFrom 2 rfl) rfl rfl ?_
  refine q_getn E fl_X3_24 (dat dkX3_fillFrom 3 rfl) rfl rfl rfl (go3_0 gfU_4) ?_
  refine r_iconst (v := 0) E (dat dkX3_fillFrom 4 rfl) rfl ?_
  refine q_iast E (dat dkX3_fillFrom 5 rfl) rfl rfl (by decide) (gg3_0 gaU_2) (fun _ => sa3_0 paU_2) rfl (by omega) ?_
  refine r_aload_n E (dat dkX3_fillFrom 6 rfl) rfl rfl ?_
  refine q_geta E fl_X3_18 (dat dkX3_fillFrom 7 rfl) rfl rfl rfl ?_
  refine r_aload_n E (dat dkX3_fillFrom 8 rfl) rfl rfl ?_
  refine q_getn E fl_X3_24 (dat dkX3_fillFrom 9 rfl) rfl rfl rfl (go3_0 gfU_4) ?_
  refine r_iconst (v := 0) E (dat dkX3_fillFrom 10 rfl) rfl ?_
  refine q_iast E (dat dkX3_fillFrom 11 rfl) rfl rfl (by decide) (gg3_0 gaU_3) (fun _ => sa3_0 paU_3) rfl (by omega) ?_
  refine r_aload_n E (dat dkX3_fillFrom 12 rfl) rfl rfl ?_
  refine q_geta E fl_X3_9 (dat dkX3_fillFrom 13 rfl) rfl rfl rfl ?_
  refine r_iload_n E (dat dkX3_fillFrom 14 rfl) rfl rfl ?_
  refine r_aload_n E (dat dkX3_fillFrom 15 rfl) rfl rfl ?_
  refine q_getn E fl_X3_24 (dat dkX3_fillFrom 16 rfl) rfl rfl rfl (go3_0 gfU_4) ?_
  refine q_iast E (dat dkX3_fillFrom 17 rfl) rfl rfl (by decide) (gg3_0 gaU_1) (fun _ => sa3_0 paU_1) rfl (by omega) ?_
  refine r_aload_n E (dat dkX3_fillFrom 18 rfl) rfl rfl ?_
  refine q_geta E fl_X3_21 (dat dkX3_fillFrom 19 rfl) rfl rfl rfl ?_
  refine r_iconst (v := 0) E (dat dkX3_fillFrom 20 rfl) rfl ?_
  refine r_iload_n E (dat dkX3_fillFrom 21 rfl) rfl rfl ?_
  refine q_iast E (dat dkX3_fillFrom 22 rfl) rfl rfl (by decide) (gg3_0 gaU_4) (fun _ => sa3_0 paU_4) (show (0 : Int32) = nI 0 from rfl) (by omega) ?_
  refine r_iconst (v := 1) E (dat dkX3_fillFrom 23 rfl) rfl ?_
  refine r_istore_4 E (dat dkX3_fillFrom 24 rfl) rfl rfl ?_
  refine r_iconst (v := 0) E (dat dkX3_fillFrom 25 rfl) rfl ?_
  refine r_istore_5 E (dat dkX3_fillFrom 26 rfl) rfl rfl ?_
  refine r_while (β := Nat × BS) (fun x => 64 - x.1) (fun x => x.1 ≤ 64 ∧ bOK n x.2.1 ∧ bF nb w k (64 - x.1) x.1 x.2 = (bF nb w k 64 0 (((upd lb f (nI k), upd qu 0 (nI f), 1), upd sz k 0, upd wa k 0) : BS))) (fun x => m3 (vU B2 (nI k) (x.2.1.1) (x.2.2.1) (x.2.2.2) (x.2.1.2.1)) (vP B1 ro co (nI n) bc fr he gu be nm nl bh fp n0 n1 n2 n3) (vS B0 mi ra rd fh dr ev dp sw w lv hr ht pl sp wt) M0) (fun x => [some (rv 0 0), some (rv 1 0), some (rv 2 0), some (iv (nI f)), some (iv (nI x.2.1.2.2)), some (iv (nI x.1)), none, none, none]) ((0, (((upd lb f (nI k), upd qu 0 (nI f), 1), upd sz k 0, upd wa k 0) : BS))) ⟨Nat.zero_le _, ⟨(show 1 ≤ 64 by omega), fun i hi => ⟨f, hf, (by rw [show i = 0 by (have h1 : i < 1 := hi); omega]; rfl)⟩⟩, rfl⟩ rfl rfl ?_
  intro y hI kk0
  obtain ⟨done, X, Z, W⟩ := y
  dsimp only at hI ⊢
  have hq64 := hI.2.1.1
  refine r_iload E (dat dkX3_fillFrom 27 rfl) rfl ?_
  refine r_iload E (dat dkX3_fillFrom 28 rfl) rfl ?_
  refine q_icmp_ge (tgt := 185) E (dat dkX3_fillFrom 29 rfl) rfl rfl rfl (by omega) (by omega) (fun h47 => ?_) (fun h47 => ?_)
  ·
    refine r_vreturn E (dat dkX3_fillFrom 101 rfl) (by decide) (by decide) ?_
    refine ⟨rfl, ?_⟩
    rw [pm3_0, ← hI.2.2]
    first
      | rw [bF_no (show ¬ done < (X, Z, W).1.2.2 from Nat.not_lt.mpr h47)]
      | rw [bF_end h54]
  ·
    refine r_iload E (dat dkX3_fillFrom 30 rfl) rfl ?_
    refine r_bipush (v := 64) E (dat dkX3_fillFrom 31 rfl) rfl ?_
    refine q_icmp_ge (tgt := 185) E (dat dkX3_fillFrom 32 rfl) rfl rfl (b := 64) rfl (by omega) (by omega) (fun h54 => ?_) (fun h54 => ?_)
    ·
      refine r_vreturn E (dat dkX3_fillFrom 101 rfl) (by decide) (by decide) ?_
      refine ⟨rfl, ?_⟩
      rw [pm3_0, ← hI.2.2]
      first
        | rw [bF_no (show ¬ done < (X, Z, W).1.2.2 from Nat.not_lt.mpr h47)]
        | rw [bF_end h54]
    ·
      refine r_aload_n E (dat dkX3_fillFrom 33 rfl) rfl rfl ?_
      refine q_geta E fl_X3_21 (dat dkX3_fillFrom 34 rfl) rfl rfl rfl ?_
      refine r_iload E (dat dkX3_fillFrom 35 rfl) rfl ?_
      refine q_iald E (dat dkX3_fillFrom 36 rfl) rfl rfl (by decide) (gg3_0 gaU_4) rfl (by omega) ?_
      obtain ⟨q, hqn, hq⟩ := hI.2.1.2 done h47
      rw [hq]
      refine r_istore_6 E (dat dkX3_fillFrom 37 rfl) rfl rfl ?_
      refine r_aload_n E (dat dkX3_fillFrom 38 rfl) rfl rfl ?_
      refine q_geta E fl_X3_15 (dat dkX3_fillFrom 39 rfl) rfl rfl rfl ?_
      refine r_aload_n E (dat dkX3_fillFrom 40 rfl) rfl rfl ?_
      refine q_getn E fl_X3_24 (dat dkX3_fillFrom 41 rfl) rfl rfl rfl (go3_0 gfU_4) ?_
      refine r_dup2 E (dat dkX3_fillFrom 42 rfl) rfl rfl ?_
      refine q_iald E (dat dkX3_fillFrom 43 rfl) rfl rfl (by decide) (gg3_0 gaU_2) rfl (by omega) ?_
      refine r_iconst (v := 1) E (dat dkX3_fillFrom 44 rfl) rfl ?_
      refine r_iadd E (dat dkX3_fillFrom 45 rfl) ?_
      refine q_iast E (dat dkX3_fillFrom 46 rfl) rfl rfl (by decide) (gg3_0 gaU_2) (fun _ => sa3_0 paU_2) rfl (by omega) ?_
      refine r_aload_n E (dat dkX3_fillFrom 47 rfl) rfl rfl ?_
      refine q_geta E fl_X3_18 (dat dkX3_fillFrom 48 rfl) rfl rfl rfl ?_
      refine r_aload_n E (dat dkX3_fillFrom 49 rfl) rfl rfl ?_
      refine q_getn E fl_X3_24 (dat dkX3_fillFrom 50 rfl) rfl rfl rfl (go3_0 gfU_4) ?_
      refine r_dup2 E (dat dkX3_fillFrom 51 rfl) rfl rfl ?_
      refine q_iald E (dat dkX3_fillFrom 52 rfl) rfl rfl (by decide) (gg3_0 gaU_3) rfl (by omega) ?_
      refine r_aload_n E (dat dkX3_fillFrom 53 rfl) rfl rfl ?_
      refine q_geta E fl_X3_39 (dat dkX3_fillFrom 54 rfl) rfl rfl rfl ?_
      refine r_iload E (dat dkX3_fillFrom 55 rfl) rfl ?_
      refine q_iald E (dat dkX3_fillFrom 56 rfl) rfl rfl (by decide) (gg3_2 gaS_1) rfl (by omega) ?_
      refine r_iadd E (dat dkX3_fillFrom 57 rfl) ?_
      refine q_iast E (dat dkX3_fillFrom 58 rfl) rfl rfl (by decide) (gg3_0 gaU_3) (fun _ => sa3_0 paU_3) rfl (by omega) ?_
      refine r_iconst (v := 0) E (dat dkX3_fillFrom 59 rfl) rfl ?_
      refine r_istore_7 E (dat dkX3_fillFrom 60 rfl) rfl rfl ?_
      refine r_for (4) (fun _ => bOK n X) (fun i => m3 (vU B2 (nI k) ((bN nb w (nI k) q X i).1) (upd Z k (Z k + 1)) (upd W k (W k + w q)) ((bN nb w (nI k) q X i).2.1)) (vP B1 ro co (nI n) bc fr he gu be nm nl bh fp n0 n1 n2 n3) (vS B0 mi ra rd fh dr ev dp sw w lv hr ht pl sp wt) M0) (fun i => [some (rv 0 0), some (rv 1 0), some (rv 2 0), some (iv (nI f)), some (iv (nI (bN nb w (nI k) q X i).2.2)), some (iv (nI done)), some (iv (nI q)), some (iv (nI i)), none]) hI.2.1 rfl rfl ?_ ?_
      · intro i hi hI0 kk
        have hb := bN_ok (w := w) (ct := nI k) (q := q) hnb hI0 i
        rw [show bN nb w (nI k) q X (i + 1) = bD nb w (nI k) q i (bN nb w (nI k) q X i) from rfl] at kk
        generalize bN nb w (nI k) q X i = Q at kk hb ⊢
        have hb64 := hb.1
        refine r_iload E (dat dkX3_fillFrom 61 rfl) rfl ?_
        refine r_iconst (v := 3) E (dat dkX3_fillFrom 62 rfl) rfl ?_
        refine q_icmp_gt (tgt := 179) E (dat dkX3_fillFrom 63 rfl) rfl rfl (b := 3) rfl (by omega) (by omega) (fun h104 => ?_) (fun h104 => ?_)
        ·
          omega
        ·
          refine r_aload_n E (dat dkX3_fillFrom 64 rfl) rfl rfl ?_
          refine r_iload E (dat dkX3_fillFrom 65 rfl) rfl ?_
          refine r_iload E (dat dkX3_fillFrom 66 rfl) rfl ?_
          refine r_callV (κ := 2) (μ := [1]) E (sp_X2_cellBeside l G B1 ro co n bc fr he gu be nm nl bh fp n0 n1 n2 n3 q i _ rfl hqn hn hi) my_X2_cellBeside iv_X2_cellBeside ml_X3_48 (cm_of rfl) ⟨by decide, rfl, rfl⟩ rfl rfl rfl rfl (by decide) (Nat.le_of_ble_eq_true rfl) (dat dkX3_fillFrom 67 rfl) ?_
          rintro _ _ ⟨rfl, rfl⟩
          refine ⟨_, Mrg_z rfl, ?_⟩
          rw [hbe q i hqn hi]
          rcases hz : nb q i with _ | o
          ·
            refine r_istore_8 E (dat dkX3_fillFrom 68 rfl) rfl rfl ?_
            refine r_iload E (dat dkX3_fillFrom 69 rfl) rfl ?_
            refine r_if_lt (tgt := 173) E (dat dkX3_fillFrom 70 rfl) rfl (fun h119 => ?_) (fun h119 => ?_)
            ·
              refine q_iinc_7 E (dat dkX3_fillFrom 97 rfl) rfl rfl ?_
              refine r_goto (tgt := 101) E (dat dkX3_fillFrom 98 rfl) rfl ?_
              first
                | rw [bD_0 hz] at kk
                | rw [bD_1 hz (fun q => h130 q.1)] at kk
                | rw [bD_1 hz (fun q => i32_nlt h140 q.2.1)] at kk
                | rw [bD_1 hz (fun q => absurd q.2.2 (by omega))] at kk
                | rw [bD_2 hz h130 (i32_nle h140) h147] at kk
              refine r_back ?_ ?_ (kk hI0)
              · rfl
              · exact And.intro rfl (And.intro rfl (And.intro rfl (And.intro rfl (And.intro rfl (And.intro rfl (And.intro rfl (And.intro rfl (trivial))))))))
            ·
              exact absurd (show oI none < 0 by decide) h119
          ·
            have ho := hnb q i o hz
            refine r_istore_8 E (dat dkX3_fillFrom 68 rfl) rfl rfl ?_
            refine r_iload E (dat dkX3_fillFrom 69 rfl) rfl ?_
            refine r_if_lt (tgt := 173) E (dat dkX3_fillFrom 70 rfl) rfl (fun h119 => ?_) (fun h119 => ?_)
            ·
              exact absurd h119 (nI_pos (by omega))
            ·
              refine r_aload_n E (dat dkX3_fillFrom 71 rfl) rfl rfl ?_
              refine q_geta E fl_X3_9 (dat dkX3_fillFrom 72 rfl) rfl rfl rfl ?_
              refine r_iload E (dat dkX3_fillFrom 73 rfl) rfl ?_
              refine q_iald E (dat dkX3_fillFrom 74 rfl) rfl rfl (by decide) (gg3_0 gaU_1) rfl (by omega) ?_
              refine r_iconst (v := -1) E (dat dkX3_fillFrom 75 rfl) rfl ?_
              refine r_icmp_ne (tgt := 173) E (dat dkX3_fillFrom 76 rfl) rfl (fun h130 => ?_) (fun h130 => ?_)
              ·
                refine q_iinc_7 E (dat dkX3_fillFrom 97 rfl) rfl rfl ?_
                refine r_goto (tgt := 101) E (dat dkX3_fillFrom 98 rfl) rfl ?_
                first
                  | rw [bD_0 hz] at kk
                  | rw [bD_1 hz (fun q => h130 q.1)] at kk
                  | rw [bD_1 hz (fun q => i32_nlt h140 q.2.1)] at kk
                  | rw [bD_1 hz (fun q => absurd q.2.2 (by omega))] at kk
                  | rw [bD_2 hz h130 (i32_nle h140) h147] at kk
                refine r_back ?_ ?_ (kk hI0)
                · rfl
                · exact And.intro rfl (And.intro rfl (And.intro rfl (And.intro rfl (And.intro rfl (And.intro rfl (And.intro rfl (And.intro rfl (trivial))))))))
              ·
                refine r_aload_n E (dat dkX3_fillFrom 77 rfl) rfl rfl ?_
                refine q_geta E fl_X3_39 (dat dkX3_fillFrom 78 rfl) rfl rfl rfl ?_
                refine r_iload E (dat dkX3_fillFrom 79 rfl) rfl ?_
                refine q_iald E (dat dkX3_fillFrom 80 rfl) rfl rfl (by decide) (gg3_2 gaS_1) rfl (by omega) ?_
                refine r_if_le (tgt := 173) E (dat dkX3_fillFrom 81 rfl) rfl (fun h140 => ?_) (fun h140 => ?_)
                ·
                  refine q_iinc_7 E (dat dkX3_fillFrom 97 rfl) rfl rfl ?_
                  refine r_goto (tgt := 101) E (dat dkX3_fillFrom 98 rfl) rfl ?_
                  first
                    | rw [bD_0 hz] at kk
                    | rw [bD_1 hz (fun q => h130 q.1)] at kk
                    | rw [bD_1 hz (fun q => i32_nlt h140 q.2.1)] at kk
                    | rw [bD_1 hz (fun q => absurd q.2.2 (by omega))] at kk
                    | rw [bD_2 hz h130 (i32_nle h140) h147] at kk
                  refine r_back ?_ ?_ (kk hI0)
                  · rfl
                  · exact And.intro rfl (And.intro rfl (And.intro rfl (And.intro rfl (And.intro rfl (And.intro rfl (And.intro rfl (And.intro rfl (trivial))))))))
                ·
                  refine r_iload E (dat dkX3_fillFrom 82 rfl) rfl ?_
                  refine r_bipush (v := 64) E (dat dkX3_fillFrom 83 rfl) rfl ?_
                  refine q_icmp_ge (tgt := 173) E (dat dkX3_fillFrom 84 rfl) rfl rfl (b := 64) rfl (by omega) (by omega) (fun h147 => ?_) (fun h147 => ?_)
                  ·
                    refine q_iinc_7 E (dat dkX3_fillFrom 97 rfl) rfl rfl ?_
                    refine r_goto (tgt := 101) E (dat dkX3_fillFrom 98 rfl) rfl ?_
                    first
                      | rw [bD_0 hz] at kk
                      | rw [bD_1 hz (fun q => h130 q.1)] at kk
                      | rw [bD_1 hz (fun q => i32_nlt h140 q.2.1)] at kk
                      | rw [bD_1 hz (fun q => absurd q.2.2 (by omega))] at kk
                      | rw [bD_2 hz h130 (i32_nle h140) h147] at kk
                    refine r_back ?_ ?_ (kk hI0)
                    · rfl
                    · exact And.intro rfl (And.intro rfl (And.intro rfl (And.intro rfl (And.intro rfl (And.intro rfl (And.intro rfl (And.intro rfl (trivial))))))))
                  ·
                    refine r_aload_n E (dat dkX3_fillFrom 85 rfl) rfl rfl ?_
                    refine q_geta E fl_X3_9 (dat dkX3_fillFrom 86 rfl) rfl rfl rfl ?_
                    refine r_iload E (dat dkX3_fillFrom 87 rfl) rfl ?_
                    refine r_aload_n E (dat dkX3_fillFrom 88 rfl) rfl rfl ?_
                    refine q_getn E fl_X3_24 (dat dkX3_fillFrom 89 rfl) rfl rfl rfl (go3_0 gfU_4) ?_
                    refine q_iast E (dat dkX3_fillFrom 90 rfl) rfl rfl (by decide) (gg3_0 gaU_1) (fun _ => sa3_0 paU_1) rfl (by omega) ?_
                    refine r_aload_n E (dat dkX3_fillFrom 91 rfl) rfl rfl ?_
                    refine q_geta E fl_X3_21 (dat dkX3_fillFrom 92 rfl) rfl rfl rfl ?_
                    refine r_iload E (dat dkX3_fillFrom 93 rfl) rfl ?_
                    refine r_iload E (dat dkX3_fillFrom 94 rfl) rfl ?_
                    refine q_iast E (dat dkX3_fillFrom 95 rfl) rfl rfl (by decide) (gg3_0 gaU_4) (fun _ => sa3_0 paU_4) rfl (by omega) ?_
                    refine q_iinc_4 E (dat dkX3_fillFrom 96 rfl) rfl rfl ?_
                    refine q_iinc_7 E (dat dkX3_fillFrom 97 rfl) rfl rfl ?_
                    refine r_goto (tgt := 101) E (dat dkX3_fillFrom 98 rfl) rfl ?_
                    first
                      | rw [bD_0 hz] at kk
                      | rw [bD_1 hz (fun q => h130 q.1)] at kk
                      | rw [bD_1 hz (fun q => i32_nlt h140 q.2.1)] at kk
                      | rw [bD_1 hz (fun q => absurd q.2.2 (by omega))] at kk
                      | rw [bD_2 hz h130 (i32_nle h140) h147] at kk
                    refine r_back ?_ ?_ (kk hI0)
                    · rfl
                    · exact And.intro rfl (And.intro rfl (And.intro rfl (And.intro rfl (And.intro rfl (And.intro rfl (And.intro rfl (And.intro rfl (trivial))))))))
      · intro hI0
        refine r_iload E (dat dkX3_fillFrom 61 rfl) rfl ?_
        refine r_iconst (v := 3) E (dat dkX3_fillFrom 62 rfl) rfl ?_
        refine q_icmp_gt (tgt := 179) E (dat dkX3_fillFrom 63 rfl) rfl rfl (b := 3) rfl (by omega) (by omega) (fun h104 => ?_) (fun h104 => ?_)
        ·
          refine q_iinc_5 E (dat dkX3_fillFrom 99 rfl) rfl rfl ?_
          refine r_goto (tgt := 43) E (dat dkX3_fillFrom 100 rfl) rfl ?_
          refine r_back ?_ ?_ (kk0 (done + 1, bS nb w k (X, Z, W) done) ⟨by omega, ?_, (bF_go h47 h54).trans hI.2.2⟩ (by show 64 - (done + 1) < 64 - done; omega))
          rotate_left
          · exact And.intro rfl (And.intro rfl (And.intro rfl (And.intro rfl (And.intro (by show some (iv (nI (bN nb w (nI k) q X 4).2.2)) = some (iv (nI (bN nb w (nI k) (X.2.1 done).toNatClampNeg X 4).2.2)); rw [hq, nI_clamp (by omega)]) (And.intro rfl trivial)))))
          · exact bN_ok hnb hI.2.1 4
          · unfold bS; simp only [hq, nI_clamp (show q < 2 ^ 31 by omega)]
        ·
          omega
