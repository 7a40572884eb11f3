set_option maxRecDepth 100000 in
set_option maxHeartbeats 16000000 in
theorem sp_X2_readBoots (l : Launch) (G : GT) (B1 : Nat → Nat → Int32) (ro co : Int32) (z : Nat) (bcn : Nat) (fr : Int32) (he gu be nm nl bh fp n0 n1 n2 n3 : Nat → Int32) (B0 : Nat → Nat → Int32) (n : Nat) (ki st va ec eo : Int32) (bs : Nat → Int32) (p : Nat) (M : Mem) (hA0 : M 0 = (vP B1 ro co (nI z) (nI bcn) fr he gu be nm nl bh fp n0 n1 n2 n3)) (hA1 : M 1 = (vT B0 (nI n) (nI (p)) (ki) (st) (va) (ec) (eo) bs)) (nlN : Nat → Nat) (hb4 : bcn ≤ 4) (hnl : ∀ i, i < bcn → nl i = nI (nlN i) ∧ nlN i ≤ 6) (hz : z ≤ 64) (hp : p ≤ n) (hn : n ≤ 600) (hby : ∀ i, i < n → fits .byte (.int (bs i)) = true) : MC l G yX2_readBoots cX2_readBoots 2 (some .boolean) ({ frames := 4, cells := 0, slots := 0, locals := 82 } : Room) [2, 3] lk0 [rv 0 0, rv 1 0] (M) (fun r M2 => r = some (iv (rBt bs n ((p, ki, st, va, ec, eo) : TT) z nlN ((bcn, nl, fp, bh, rw4 n0 n1 n2 n3) : BB)).1.1) ∧ M2 = setm (setm M 0 (vP B1 ro co (nI z) (nI (rBt bs n ((p, ki, st, va, ec, eo) : TT) z nlN ((bcn, nl, fp, bh, rw4 n0 n1 n2 n3) : BB)).2.1) fr he gu be nm ((rBt bs n ((p, ki, st, va, ec, eo) : TT) z nlN ((bcn, nl, fp, bh, rw4 n0 n1 n2 n3) : BB)).2.2.1) ((rBt bs n ((p, ki, st, va, ec, eo) : TT) z nlN ((bcn, nl, fp, bh, rw4 n0 n1 n2 n3) : BB)).2.2.2.2.1) ((rBt bs n ((p, ki, st, va, ec, eo) : TT) z nlN ((bcn, nl, fp, bh, rw4 n0 n1 n2 n3) : BB)).2.2.2.1) ((rBt bs n ((p, ki, st, va, ec, eo) : TT) z nlN ((bcn, nl, fp, bh, rw4 n0 n1 n2 n3) : BB)).2.2.2.2.2 0) ((rBt bs n ((p, ki, st, va, ec, eo) : TT) z nlN ((bcn, nl, fp, bh, rw4 n0 n1 n2 n3) : BB)).2.2.2.2.2 1) ((rBt bs n ((p, ki, st, va, ec, eo) : TT) z nlN ((bcn, nl, fp, bh, rw4 n0 n1 n2 n3) : BB)).2.2.2.2.2 2) ((rBt bs n ((p, ki, st, va, ec, eo) : TT) z nlN ((bcn, nl, fp, bh, rw4 n0 n1 n2 n3) : BB)).2.2.2.2.2 3))) 1 (vT B0 (nI n) (nI ((rBt bs n ((p, ki, st, va, ec, eo) : TT) z nlN ((bcn, nl, fp, bh, rw4 n0 n1 n2 n3) : BB)).1.2).1) ((rBt bs n ((p, ki, st, va, ec, eo) : TT) z nlN ((bcn, nl, fp, bh, rw4 n0 n1 n2 n3) : BB)).1.2).2.1 ((rBt bs n ((p, ki, st, va, ec, eo) : TT) z nlN ((bcn, nl, fp, bh, rw4 n0 n1 n2 n3) : BB)).1.2).2.2.1 ((rBt bs n ((p, ki, st, va, ec, eo) : TT) z nlN ((bcn, nl, fp, bh, rw4 n0 n1 n2 n3) : BB)).1.2).2.2.2.1 ((rBt bs n ((p, ki, st, va, ec, eo) : TT) z nlN ((bcn, nl, fp, bh, rw4 n0 n1 n2 n3) : BB)).1.2).2.2.2.2.1 ((rBt bs n ((p, ki, st, va, ec, eo) : TT) z nlN ((bcn, nl, fp, bh, rw4 n0 n1 n2 n3) : BB)).1.2).2.2.2.2.2 bs)) := by
  obtain ⟨M0, rfl⟩ : ∃ M0, M = m2 ((vP B1 ro co (nI z) (nI bcn) fr he gu be nm nl bh fp n0 n1 n2 n3)) ((vT B0 (nI n) (nI (p)) (ki) (st) (va) (ec) (eo) bs)) M0 := ⟨M, (m2_of hA0 hA1).symm⟩
  clear hA0 hA1
  refine MC.of RX2 [some (rv 0 0), some (rv 1 0)] 0 (by decide +kernel) rfl rfl rfl ?_
  intro pp ee ss mm aa bb me cd ad E
  refine r_aload_n E (dat dkX2_readBoots 0 rfl) rfl rfl ?_
  refine q_getn E fl_X2_45 (dat dkX2_readBoots 1 rfl) rfl rfl rfl (go2_0 gfP_10) ?_
  refine r_iconst (v := 4) E (dat dkX2_readBoots 2 rfl) rfl ?_
  refine q_icmp_lt (tgt := 14) E (dat dkX2_readBoots 3 rfl) rfl rfl (b := 4) rfl (by omega) (by omega) (fun h5 => ?_) (fun h5 => ?_)
  ·
    refine r_aload_n E (dat dkX2_readBoots 8 rfl) rfl rfl ?_
    refine r_callV (κ := 3) (μ := [1]) E (sp_X6_takeName l G B0 n (ki) (st) (va) (ec) (eo) bs (p) _ rfl hp hn) my_X6_takeName iv_X6_takeName ml_X2_124 (cm_of rfl) ⟨by decide, rfl, rfl⟩ rfl rfl rfl rfl (by decide) (Nat.le_of_ble_eq_true rfl) (dat dkX2_readBoots 9 rfl) ?_
    rintro _ _ ⟨rfl, rfl⟩
    refine ⟨_, Mrg_e (by decide) (by decide) pm2_1 rfl, ?_⟩
    refine r_if_ne (tgt := 23) E (dat dkX2_readBoots 10 rfl) rfl (fun h18 => ?_) (fun h18 => ?_)
    ·
      have hC0 := fe_n h18
      have hle := tP_le (b := bs) hp
      have h6 := tmC_in hC0
      refine r_aload_n E (dat dkX2_readBoots 13 rfl) rfl rfl ?_
      refine r_aload_n E (dat dkX2_readBoots 14 rfl) rfl rfl ?_
      refine r_callV (κ := 2) (μ := [0, 1]) E (sp_X2_bootsNamed l G B1 ro co z bcn fr he gu be nm nl bh fp n0 n1 n2 n3 B0 n (tP bs n p) (tS bs n p) (tK bs n (p)) (tV bs n (p) (va)) (feI (tmC bs n p) (ec) (tmC bs n p)) (feI (tmC bs n p) (eo) (nI (tS bs n (p)))) bs _ rfl rfl nlN (by omega) hnl hle.1 hle.2 hn) my_X2_bootsNamed iv_X2_bootsNamed ml_X2_127 (cm_of rfl) ⟨by decide, rfl, rfl⟩ rfl rfl rfl rfl (by decide) (Nat.le_of_ble_eq_true rfl) (dat dkX2_readBoots 15 rfl) ?_
      rintro _ _ ⟨rfl, rfl⟩
      refine ⟨_, Mrg_z rfl, ?_⟩
      refine r_iconst (v := -1) E (dat dkX2_readBoots 16 rfl) rfl ?_
      refine r_icmp_eq (tgt := 38) E (dat dkX2_readBoots 17 rfl) rfl (fun h29 => ?_) (fun h29 => ?_)
      ·
        refine r_aload_n E (dat dkX2_readBoots 22 rfl) rfl rfl ?_
        refine q_geta E fl_X2_26 (dat dkX2_readBoots 23 rfl) rfl rfl rfl ?_
        refine r_aload_n E (dat dkX2_readBoots 24 rfl) rfl rfl ?_
        refine q_getn E fl_X2_45 (dat dkX2_readBoots 25 rfl) rfl rfl rfl (go2_0 gfP_10) ?_
        refine r_aload_n E (dat dkX2_readBoots 26 rfl) rfl rfl ?_
        refine r_aload_n E (dat dkX2_readBoots 27 rfl) rfl rfl ?_
        refine q_geta E fl_X2_23 (dat dkX2_readBoots 28 rfl) rfl rfl rfl ?_
        refine r_aload_n E (dat dkX2_readBoots 29 rfl) rfl rfl ?_
        refine q_getn E fl_X2_45 (dat dkX2_readBoots 30 rfl) rfl rfl rfl (go2_0 gfP_10) ?_
        refine q_aalN E (dat dkX2_readBoots 31 rfl) rfl rfl (by decide) rfl (by omega) ?_
        refine r_callV (κ := 3) (μ := [1, 0]) E (sp_X6_copyName l G B0 n (tP bs n p) (tS bs n p) (tK bs n (p)) (tV bs n (p) (va)) (feI (tmC bs n p) (ec) (tmC bs n p)) (feI (tmC bs n p) (eo) (nI (tS bs n (p)))) bs B1 ro co (nI z) (nI bcn) fr he gu be nm nl bh fp n0 n1 n2 n3 bcn _ rfl rfl (by omega) hle.1 hle.2 hn h6 hby) my_X6_copyName iv_X6_copyName ml_X2_131 (cm_of rfl) ⟨by decide, rfl, rfl⟩ rfl rfl rfl rfl (by decide) (Nat.le_of_ble_eq_true rfl) (dat dkX2_readBoots 32 rfl) ?_
        rintro _ _ ⟨rfl, rfl⟩
        refine ⟨_, Mrg_e (i := 1) (by decide) (by decide) pm2_0 rfl, ?_⟩
        refine q_iast E (dat dkX2_readBoots 33 rfl) rfl rfl (by decide) (gg2_0 gaP_5) (fun _ => sa2_0 paP_5) rfl (by omega) ?_
        refine r_aload_n E (dat dkX2_readBoots 34 rfl) rfl rfl ?_
        refine r_iconst (v := 0) E (dat dkX2_readBoots 35 rfl) rfl ?_
        refine r_aload_n E (dat dkX2_readBoots 36 rfl) rfl rfl ?_
        refine q_getn E fl_X2_42 (dat dkX2_readBoots 37 rfl) rfl rfl rfl (go2_0 gfP_9) ?_
        refine r_iconst (v := 1) E (dat dkX2_readBoots 38 rfl) rfl ?_
        refine r_isub E (dat dkX2_readBoots 39 rfl) ?_
        refine r_callV (κ := 3) (μ := [1]) E (sp_X6_takeNumber l G B0 n (tK bs n (p)) (nI (tS bs n (p))) (tV bs n (p) (va)) (feI (tmC bs n p) (ec) (tmC bs n p)) (feI (tmC bs n p) (eo) (nI (tS bs n (p)))) bs (tP bs n (p)) (0) (nI z - 1) _ rfl (tP_le (b := bs) hp).2 hn) my_X6_takeNumber iv_X6_takeNumber ml_X2_120 (cm_of rfl) ⟨by decide, rfl, rfl⟩ rfl rfl rfl rfl (by decide) (Nat.le_of_ble_eq_true rfl) (dat dkX2_readBoots 40 rfl) ?_
        rintro _ _ ⟨rfl, rfl⟩
        refine ⟨_, Mrg_e (by decide) (by decide) pm2_1 rfl, ?_⟩
        refine r_if_ne (tgt := 76) E (dat dkX2_readBoots 41 rfl) rfl (fun h71 => ?_) (fun h71 => ?_)
        ·
          have hC1 := fe_n h71
          refine r_aload_n E (dat dkX2_readBoots 44 rfl) rfl rfl ?_
          refine q_geta E fl_X2_32 (dat dkX2_readBoots 45 rfl) rfl rfl rfl ?_
          refine r_aload_n E (dat dkX2_readBoots 46 rfl) rfl rfl ?_
          refine q_getn E fl_X2_45 (dat dkX2_readBoots 47 rfl) rfl rfl rfl (go2_0 gfP_10) ?_
          refine r_aload_n E (dat dkX2_readBoots 48 rfl) rfl rfl ?_
          refine q_getn E fl_X2_113 (dat dkX2_readBoots 49 rfl) rfl rfl rfl (go2_1 gfT_5) ?_
          refine q_iast E (dat dkX2_readBoots 50 rfl) rfl rfl (by decide) (gg2_0 gaP_7) (fun _ => sa2_0 paP_7) rfl (by omega) ?_
          refine r_aload_n E (dat dkX2_readBoots 51 rfl) rfl rfl ?_
          refine r_iconst (v := 1) E (dat dkX2_readBoots 52 rfl) rfl ?_
          refine r_bipush (v := 9) E (dat dkX2_readBoots 53 rfl) rfl ?_
          refine r_callV (κ := 3) (μ := [1]) E (sp_X6_takeNumber l G B0 n (tK bs n (tP bs n (p))) (nI (tS bs n (tP bs n (p)))) (tV bs n (tP bs n (p)) (tV bs n (p) (va))) (feI (tnC bs n (tP bs n (p)) (tV bs n (p) (va)) (0) (nI z - 1)) (feI (tmC bs n p) (ec) (tmC bs n p)) (tnC bs n (tP bs n (p)) (tV bs n (p) (va)) (0) (nI z - 1))) (feI (tnC bs n (tP bs n (p)) (tV bs n (p) (va)) (0) (nI z - 1)) (feI (tmC bs n p) (eo) (nI (tS bs n (p)))) (nI (tS bs n (tP bs n (p))))) bs (tP bs n (tP bs n (p))) (1) (9) _ rfl (tP_le (b := bs) (tP_le (b := bs) hp).2).2 hn) my_X6_takeNumber iv_X6_takeNumber ml_X2_120 (cm_of rfl) ⟨by decide, rfl, rfl⟩ rfl rfl rfl rfl (by decide) (Nat.le_of_ble_eq_true rfl) (dat dkX2_readBoots 54 rfl) ?_
          rintro _ _ ⟨rfl, rfl⟩
          refine ⟨_, Mrg_e (by decide) (by decide) pm2_1 rfl, ?_⟩
          refine r_if_ne (tgt := 101) E (dat dkX2_readBoots 55 rfl) rfl (fun h96 => ?_) (fun h96 => ?_)
          ·
            have hC2 := fe_n h96
            refine r_aload_n E (dat dkX2_readBoots 58 rfl) rfl rfl ?_
            refine q_geta E fl_X2_29 (dat dkX2_readBoots 59 rfl) rfl rfl rfl ?_
            refine r_aload_n E (dat dkX2_readBoots 60 rfl) rfl rfl ?_
            refine q_getn E fl_X2_45 (dat dkX2_readBoots 61 rfl) rfl rfl rfl (go2_0 gfP_10) ?_
            refine r_aload_n E (dat dkX2_readBoots 62 rfl) rfl rfl ?_
            refine q_getn E fl_X2_113 (dat dkX2_readBoots 63 rfl) rfl rfl rfl (go2_1 gfT_5) ?_
            refine q_iast E (dat dkX2_readBoots 64 rfl) rfl rfl (by decide) (gg2_0 gaP_6) (fun _ => sa2_0 paP_6) rfl (by omega) ?_
            refine r_aload_n E (dat dkX2_readBoots 65 rfl) rfl rfl ?_
            refine r_dup E (dat dkX2_readBoots 66 rfl) rfl ?_
            refine q_getn E fl_X2_45 (dat dkX2_readBoots 67 rfl) rfl rfl rfl (go2_0 gfP_10) ?_
            refine r_iconst (v := 1) E (dat dkX2_readBoots 68 rfl) rfl ?_
            refine r_iadd E (dat dkX2_readBoots 69 rfl) ?_
            rw [show nI bcn + 1 = nI (bcn + 1) from nI_1 bcn]
            refine q_putn E ft_X2_45 (dat dkX2_readBoots 70 rfl) rfl rfl rfl (sf2_0 pfP_10) ?_
            refine r_aload_n E (dat dkX2_readBoots 71 rfl) rfl rfl ?_
            refine r_callV (κ := 3) (μ := [1]) E (sp_X6_takeSemicolon l G B0 n (tK bs n (tP bs n (tP bs n (p)))) (nI (tS bs n (tP bs n (tP bs n (p))))) (tV bs n (tP bs n (tP bs n (p))) (tV bs n (tP bs n (p)) (tV bs n (p) (va)))) (feI (tnC bs n (tP bs n (tP bs n (p))) (tV bs n (tP bs n (p)) (tV bs n (p) (va))) (1) (9)) (feI (tnC bs n (tP bs n (p)) (tV bs n (p) (va)) (0) (nI z - 1)) (feI (tmC bs n p) (ec) (tmC bs n p)) (tnC bs n (tP bs n (p)) (tV bs n (p) (va)) (0) (nI z - 1))) (tnC bs n (tP bs n (tP bs n (p))) (tV bs n (tP bs n (p)) (tV bs n (p) (va))) (1) (9))) (feI (tnC bs n (tP bs n (tP bs n (p))) (tV bs n (tP bs n (p)) (tV bs n (p) (va))) (1) (9)) (feI (tnC bs n (tP bs n (p)) (tV bs n (p) (va)) (0) (nI z - 1)) (feI (tmC bs n p) (eo) (nI (tS bs n (p)))) (nI (tS bs n (tP bs n (p))))) (nI (tS bs n (tP bs n (tP bs n (p)))))) bs (tP bs n (tP bs n (tP bs n (p)))) _ rfl (tP_le (b := bs) (tP_le (b := bs) (tP_le (b := bs) hp).2).2).2 hn) my_X6_takeSemicolon iv_X6_takeSemicolon ml_X2_116 (cm_of rfl) ⟨by decide, rfl, rfl⟩ rfl rfl rfl rfl (by decide) (Nat.le_of_ble_eq_true rfl) (dat dkX2_readBoots 72 rfl) ?_
            rintro _ _ ⟨rfl, rfl⟩
            refine ⟨_, Mrg_e (by decide) (by decide) pm2_1 rfl, ?_⟩
            refine r_zreturn E (dat dkX2_readBoots 73 rfl) fe_b (by decide) (by decide) ?_
            rw [pm2_0, pm2_1]
            have e : (rBt bs n ((p, ki, st, va, ec, eo) : TT) z nlN ((bcn, nl, fp, bh, rw4 n0 n1 n2 n3) : BB)) = _ := (if_neg (by omega)).trans ((if_neg (fun q => q hC0)).trans ((if_neg (fun q => q h29)).trans ((if_neg (fun q => q hC1)).trans (if_neg (fun q => q hC2)))))
            rw [e]
            rw [hC0]
            rw [hC1]
            rw [hC2]
            exact ⟨rfl, rfl⟩
          ·
            refine r_iconst (v := 0) E (dat dkX2_readBoots 56 rfl) rfl ?_
            refine r_zreturn E (dat dkX2_readBoots 57 rfl) rfl (by decide) (by decide) ?_
            rw [pm2_0, pm2_1]
            have e : (rBt bs n ((p, ki, st, va, ec, eo) : TT) z nlN ((bcn, nl, fp, bh, rw4 n0 n1 n2 n3) : BB)) = _ := (if_neg (by omega)).trans ((if_neg (fun q => q hC0)).trans ((if_neg (fun q => q h29)).trans ((if_neg (fun q => q hC1)).trans (if_pos (fe_z h96)))))
            rw [e]
            rw [hC0]
            rw [hC1]
            exact ⟨rfl, rfl⟩
        ·
          refine r_iconst (v := 0) E (dat dkX2_readBoots 42 rfl) rfl ?_
          refine r_zreturn E (dat dkX2_readBoots 43 rfl) rfl (by decide) (by decide) ?_
          rw [pm2_0, pm2_1]
          have e : (rBt bs n ((p, ki, st, va, ec, eo) : TT) z nlN ((bcn, nl, fp, bh, rw4 n0 n1 n2 n3) : BB)) = _ := (if_neg (by omega)).trans ((if_neg (fun q => q hC0)).trans ((if_neg (fun q => q h29)).trans (if_pos (fe_z h71))))
          rw [e]
          rw [hC0]
          exact ⟨rfl, rfl⟩
      ·
        refine r_aload_n E (dat dkX2_readBoots 18 rfl) rfl rfl ?_
        refine r_iconst (v := 3) E (dat dkX2_readBoots 19 rfl) rfl ?_
        refine r_callV (κ := 3) (μ := [1]) E (sp_X6_fail l G B0 n (nI (tP bs n (p))) (tK bs n (p)) (nI (tS bs n (p))) (tV bs n (p) (va)) (feI (tmC bs n p) (ec) (tmC bs n p)) (feI (tmC bs n p) (eo) (nI (tS bs n (p)))) bs 3 _ rfl) my_X6_fail iv_X6_fail ml_X2_73 (cm_of rfl) ⟨by decide, rfl, rfl⟩ rfl rfl rfl rfl (by decide) (Nat.le_of_ble_eq_true rfl) (dat dkX2_readBoots 20 rfl) ?_
        rintro _ _ ⟨rfl, rfl⟩
        refine ⟨_, Mrg_e (by decide) (by decide) pm2_1 rfl, ?_⟩
        refine r_zreturn E (dat dkX2_readBoots 21 rfl) rfl (by decide) (by decide) ?_
        rw [pm2_0, pm2_1]
        have e : (rBt bs n ((p, ki, st, va, ec, eo) : TT) z nlN ((bcn, nl, fp, bh, rw4 n0 n1 n2 n3) : BB)) = _ := (if_neg (by omega)).trans ((if_neg (fun q => q hC0)).trans (if_pos h29))
        rw [e]
        exact ⟨rfl, rfl⟩
    ·
      refine r_iconst (v := 0) E (dat dkX2_readBoots 11 rfl) rfl ?_
      refine r_zreturn E (dat dkX2_readBoots 12 rfl) rfl (by decide) (by decide) ?_
      rw [pm2_0, pm2_1]
      have e : (rBt bs n ((p, ki, st, va, ec, eo) : TT) z nlN ((bcn, nl, fp, bh, rw4 n0 n1 n2 n3) : BB)) = _ := (if_neg (by omega)).trans (if_pos (fe_z h18))
      rw [e]
      exact ⟨rfl, rfl⟩
  ·
    refine r_aload_n E (dat dkX2_readBoots 4 rfl) rfl rfl ?_
    refine r_iconst (v := 4) E (dat dkX2_readBoots 5 rfl) rfl ?_
    refine r_callV (κ := 3) (μ := [1]) E (sp_X6_fail l G B0 n (nI (p)) (ki) (st) (va) (ec) (eo) bs 4 _ rfl) my_X6_fail iv_X6_fail ml_X2_73 (cm_of rfl) ⟨by decide, rfl, rfl⟩ rfl rfl rfl rfl (by decide) (Nat.le_of_ble_eq_true rfl) (dat dkX2_readBoots 6 rfl) ?_
    rintro _ _ ⟨rfl, rfl⟩
    refine ⟨_, Mrg_e (by decide) (by decide) pm2_1 rfl, ?_⟩
    refine r_zreturn E (dat dkX2_readBoots 7 rfl) rfl (by decide) (by decide) ?_
    rw [pm2_0, pm2_1]
    have e : (rBt bs n ((p, ki, st, va, ec, eo) : TT) z nlN ((bcn, nl, fp, bh, rw4 n0 n1 n2 n3) : BB)) = _ := if_pos h5
    rw [e]
    exact ⟨rfl, rfl⟩
