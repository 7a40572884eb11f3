theorem bn_0 : narrow .boolean (.int 0) = .int 0 := rfl
theorem bn_1 : narrow .boolean (.int 1) = .int 1 := rfl
theorem bn_tSm {b : Nat → Int32} {n : Nat} {t : TT} : narrow .boolean (.int (tSm b n t).1) = .int (tSm b n t).1 := fe_b
theorem bn_rRn {b : Nat → Int32} {n : Nat} {fr : Int32} {t : TT} : narrow .boolean (.int (rRn b n t fr).1.1) = .int (rRn b n t fr).1.1 := by
  unfold rRn
  split
  · exact fe_b
  · first | exact bn_0 | exact bn_1
theorem bn_rGt {b : Nat → Int32} {n z : Nat} {gu : Nat → Int32} {t : TT} : narrow .boolean (.int (rGt b n t z gu).1.1) = .int (rGt b n t z gu).1.1 := by
  unfold rGt
  split
  · unfold rGt2
    split
    · exact fe_b
    · first | exact bn_0 | exact bn_1
  · first | exact bn_0 | exact bn_1
theorem bn_rRw {b : Nat → Int32} {n u v z lea mo : Nat} {he : Nat → Int32} {t : TT} : narrow .boolean (.int (rRw b n t u v z lea mo he).1.1) = .int (rRw b n t u v z lea mo he).1.1 := by
  unfold rRw
  split
  · first | exact bn_0 | exact bn_1
  · split
    · first | exact bn_0 | exact bn_1
    · exact fe_b
    · first | exact bn_0 | exact bn_1
theorem bn_rBt {b : Nat → Int32} {n z : Nat} {nlN : Nat → Nat} {bb : BB} {t : TT} : narrow .boolean (.int (rBt b n t z nlN bb).1.1) = .int (rBt b n t z nlN bb).1.1 := by
  obtain ⟨k, nl, fp, bh, r⟩ := bb
  unfold rBt
  dsimp only
  split
  · first | exact bn_0 | exact bn_1
  · split
    · first | exact bn_0 | exact bn_1
    · split
      · first | exact bn_0 | exact bn_1
      · split
        · first | exact bn_0 | exact bn_1
        · split
          · first | exact bn_0 | exact bn_1
          · exact fe_b
set_option maxRecDepth 100000 in
set_option maxHeartbeats 16000000 in
theorem sp_X2_readStatement (l : Launch) (G : GT) (B1 : Nat → Nat → Int32) (be nm : Nat → Int32) (u v z : Nat) (he gu : Nat → Int32) (fr : Int32) (bcn : Nat) (nl fp bh : Nat → Int32) (r : Nat → Nat → Int32) (B0 : Nat → Nat → Int32) (n : Nat) (bs : Nat → Int32) (p s : Nat) (ki va ec eo : Int32) (M : Mem) (hA0 : M 0 = vPx B1 be nm (((u, v, z), he, gu, fr, bcn, nl, fp, bh, r) : PP)) (hA1 : M 1 = vTx B0 n bs ((p, ki, nI s, va, ec, eo) : TT)) (hI : PIv (((u, v, z), he, gu, fr, bcn, nl, fp, bh, r) : PP)) (hsp : s ≤ p) (hp : p ≤ n) (hn : n ≤ 600) (hby : ∀ i, i < n → fits .byte (.int (bs i)) = true) : MC l G yX2_readStatement cX2_readStatement 2 (some .boolean) ({ frames := 5, cells := 0, slots := 0, locals := 107 } : Room) [2, 3] lk0 [rv 0 0, rv 1 0] (M) (fun r9 M2 => r9 = some (iv (rSt bs n ((p, ki, nI s, va, ec, eo) : TT) (((u, v, z), he, gu, fr, bcn, nl, fp, bh, r) : PP)).1.1) ∧ M2 = setm (setm M 0 (vPx B1 be nm (rSt bs n ((p, ki, nI s, va, ec, eo) : TT) (((u, v, z), he, gu, fr, bcn, nl, fp, bh, r) : PP)).2)) 1 (vTx B0 n bs (rSt bs n ((p, ki, nI s, va, ec, eo) : TT) (((u, v, z), he, gu, fr, bcn, nl, fp, bh, r) : PP)).1.2)) := by
  obtain ⟨M0, rfl⟩ : ∃ M0, M = m2 (vPx B1 be nm (((u, v, z), he, gu, fr, bcn, nl, fp, bh, r) : PP)) (vTx B0 n bs ((p, ki, nI s, va, ec, eo) : TT)) M0 := ⟨M, (m2_of hA0 hA1).symm⟩
  clear hA0 hA1
  refine MC.of RX2 [some (rv 0 0), some (rv 1 0)] 0 (by decide +kernel) rfl rfl rfl ?_
  intro pp ee ss mm aa bb me cd ad E
  have hz := PIv_z hI
  obtain ⟨x1, x2, x3, x4, x5, x6, x7⟩ := hI
  dsimp only at x1 x2 x3 x4 x5 x6 x7 hz
  have ew : ∀ w, tW bs ((p, ki, nI s, va, ec, eo) : TT) w = isW bs ki s p w := fun w => tW_eq (by omega)
  refine r_aload_n E (dat dkX2_readStatement 0 rfl) rfl rfl ?_
  refine q_ldc (i := 1) E (by decide) rfl rfl (dat dkX2_readStatement 1 rfl) ?_
  refine r_callV (κ := 3) (μ := [1]) E (sp_X6_isWord l G B0 n p s ki va ec eo bs 1 _ rfl (by decide) hsp hp hn) my_X6_isWord iv_X6_isWord ml_X2_87 (cm_of rfl) ⟨by decide, rfl, rfl⟩ rfl rfl rfl rfl (by decide) (Nat.le_of_ble_eq_true rfl) (dat dkX2_readStatement 2 rfl) ?_
  rintro _ _ ⟨rfl, rfl⟩
  refine ⟨_, Mrg_z rfl, ?_⟩
  refine r_if_eq (tgt := 15) E (dat dkX2_readStatement 3 rfl) rfl (fun h6 => ?_) (fun h6 => ?_)
  ·
    refine r_aload_n E (dat dkX2_readStatement 8 rfl) rfl rfl ?_
    refine q_ldc (i := 2) E (by decide) rfl rfl (dat dkX2_readStatement 9 rfl) ?_
    refine r_callV (κ := 3) (μ := [1]) E (sp_X6_isWord l G B0 n p s ki va ec eo bs 2 _ rfl (by decide) hsp hp hn) my_X6_isWord iv_X6_isWord ml_X2_87 (cm_of rfl) ⟨by decide, rfl, rfl⟩ rfl rfl rfl rfl (by decide) (Nat.le_of_ble_eq_true rfl) (dat dkX2_readStatement 10 rfl) ?_
    rintro _ _ ⟨rfl, rfl⟩
    refine ⟨_, Mrg_z rfl, ?_⟩
    refine r_if_eq (tgt := 30) E (dat dkX2_readStatement 11 rfl) rfl (fun h21 => ?_) (fun h21 => ?_)
    ·
      refine r_aload_n E (dat dkX2_readStatement 16 rfl) rfl rfl ?_
      refine q_ldc (i := 3) E (by decide) rfl rfl (dat dkX2_readStatement 17 rfl) ?_
      refine r_callV (κ := 3) (μ := [1]) E (sp_X6_isWord l G B0 n p s ki va ec eo bs 3 _ rfl (by decide) hsp hp hn) my_X6_isWord iv_X6_isWord ml_X2_87 (cm_of rfl) ⟨by decide, rfl, rfl⟩ rfl rfl rfl rfl (by decide) (Nat.le_of_ble_eq_true rfl) (dat dkX2_readStatement 18 rfl) ?_
      rintro _ _ ⟨rfl, rfl⟩
      refine ⟨_, Mrg_z rfl, ?_⟩
      refine r_if_eq (tgt := 45) E (dat dkX2_readStatement 19 rfl) rfl (fun h36 => ?_) (fun h36 => ?_)
      ·
        refine r_aload_n E (dat dkX2_readStatement 24 rfl) rfl rfl ?_
        refine q_ldc (i := 4) E (by decide) rfl rfl (dat dkX2_readStatement 25 rfl) ?_
        refine r_callV (κ := 3) (μ := [1]) E (sp_X6_isWord l G B0 n p s ki va ec eo bs 4 _ rfl (by decide) hsp hp hn) my_X6_isWord iv_X6_isWord ml_X2_87 (cm_of rfl) ⟨by decide, rfl, rfl⟩ rfl rfl rfl rfl (by decide) (Nat.le_of_ble_eq_true rfl) (dat dkX2_readStatement 26 rfl) ?_
        rintro _ _ ⟨rfl, rfl⟩
        refine ⟨_, Mrg_z rfl, ?_⟩
        refine r_if_eq (tgt := 60) E (dat dkX2_readStatement 27 rfl) rfl (fun h51 => ?_) (fun h51 => ?_)
        ·
          refine r_aload_n E (dat dkX2_readStatement 32 rfl) rfl rfl ?_
          refine r_iconst (v := 1) E (dat dkX2_readStatement 33 rfl) rfl ?_
          refine r_callV (κ := 3) (μ := [1]) E (sp_X6_fail l G B0 n (nI p) ki (nI s) va ec eo bs 1 _ rfl) my_X6_fail iv_X6_fail ml_X2_73 (cm_of rfl) ⟨by decide, rfl, rfl⟩ rfl rfl rfl rfl (by decide) (Nat.le_of_ble_eq_true rfl) (dat dkX2_readStatement 34 rfl) ?_
          rintro _ _ ⟨rfl, rfl⟩
          refine ⟨_, Mrg_e (by decide) (by decide) pm2_1 rfl, ?_⟩
          refine r_zreturn E (dat dkX2_readStatement 35 rfl) rfl (by decide) (by decide) ?_
          rw [pm2_01, show (rSt bs n ((p, ki, nI s, va, ec, eo) : TT) (((u, v, z), he, gu, fr, bcn, nl, fp, bh, r) : PP)) = _ from (if_neg (fun q => absurd (((ew _).symm.trans q).symm.trans h6) (by decide))).trans ((if_neg (fun q => absurd (((ew _).symm.trans q).symm.trans h21) (by decide))).trans ((if_neg (fun q => absurd (((ew _).symm.trans q).symm.trans h36) (by decide))).trans (if_neg (fun q => absurd (((ew _).symm.trans q).symm.trans h51) (by decide)))))]
          exact ⟨rfl, rfl⟩
        ·
          refine r_aload_n E (dat dkX2_readStatement 28 rfl) rfl rfl ?_
          refine r_aload_n E (dat dkX2_readStatement 29 rfl) rfl rfl ?_
          refine r_callV (κ := 2) (μ := [0, 1]) E (sp_X2_readRain l G B1 (nI u) (nI v) z (nI bcn) fr he gu be nm nl bh fp (r 0) (r 1) (r 2) (r 3) B0 n ki (nI s) va ec eo bs p _ rfl rfl hp hn) my_X2_readRain iv_X2_readRain ml_X2_106 (cm_of rfl) ⟨by decide, rfl, rfl⟩ rfl rfl rfl rfl (by decide) (Nat.le_of_ble_eq_true rfl) (dat dkX2_readStatement 30 rfl) ?_
          rintro _ _ ⟨rfl, rfl⟩
          refine ⟨_, Mrg_ee (i := 0) (j := 1) (by decide) (by decide) (by decide) pm2_01 rfl, ?_⟩
          refine r_zreturn E (dat dkX2_readStatement 31 rfl) (bn_rRn) (by decide) (by decide) ?_
          rw [pm2_01, show (rSt bs n ((p, ki, nI s, va, ec, eo) : TT) (((u, v, z), he, gu, fr, bcn, nl, fp, bh, r) : PP)) = _ from (if_neg (fun q => absurd (((ew _).symm.trans q).symm.trans h6) (by decide))).trans ((if_neg (fun q => absurd (((ew _).symm.trans q).symm.trans h21) (by decide))).trans ((if_neg (fun q => absurd (((ew _).symm.trans q).symm.trans h36) (by decide))).trans (if_pos ((ew _).trans (isW_b.resolve_left h51)))))]
          exact ⟨rfl, rfl⟩
      ·
        refine r_aload_n E (dat dkX2_readStatement 20 rfl) rfl rfl ?_
        refine r_aload_n E (dat dkX2_readStatement 21 rfl) rfl rfl ?_
        refine r_callV (κ := 2) (μ := [0, 1]) E (sp_X2_readBoots l G B1 (nI u) (nI v) z bcn fr he gu be nm nl bh fp (r 0) (r 1) (r 2) (r 3) B0 n ki (nI s) va ec eo bs p _ rfl rfl (fun i => (nl i).toNatClampNeg) x5 x6 hz.1 hp hn hby) my_X2_readBoots iv_X2_readBoots ml_X2_101 (cm_of rfl) ⟨by decide, rfl, rfl⟩ rfl rfl rfl rfl (by decide) (Nat.le_of_ble_eq_true rfl) (dat dkX2_readStatement 22 rfl) ?_
        rintro _ _ ⟨rfl, rfl⟩
        refine ⟨_, Mrg_ee (i := 0) (j := 1) (by decide) (by decide) (by decide) pm2_01 rfl, ?_⟩
        refine r_zreturn E (dat dkX2_readStatement 23 rfl) (bn_rBt) (by decide) (by decide) ?_
        rw [pm2_01, show (rSt bs n ((p, ki, nI s, va, ec, eo) : TT) (((u, v, z), he, gu, fr, bcn, nl, fp, bh, r) : PP)) = _ from (if_neg (fun q => absurd (((ew _).symm.trans q).symm.trans h6) (by decide))).trans ((if_neg (fun q => absurd (((ew _).symm.trans q).symm.trans h21) (by decide))).trans (if_pos ((ew _).trans (isW_b.resolve_left h36))))]
        obtain ⟨e1, e2, e3, e4, e5, e6⟩ := rBt_rw4 (b := bs) (n := n) (t := ((p, ki, nI s, va, ec, eo) : TT)) (z := z) (nlN := fun i => (nl i).toNatClampNeg) (k := bcn) (nl := nl) (fp := fp) (bh := bh) (r := rw4 (r 0) (r 1) (r 2) (r 3)) (r' := r) (fun j hj => rw4_lt hj)
        refine ⟨congrArg (fun q => some (iv q.1)) e1, ?_⟩
        rw [e1, e2, e3, e4, e5, e6 0 (by decide), e6 1 (by decide), e6 2 (by decide), e6 3 (by decide)]
        rfl
    ·
      refine r_aload_n E (dat dkX2_readStatement 12 rfl) rfl rfl ?_
      refine r_aload_n E (dat dkX2_readStatement 13 rfl) rfl rfl ?_
      refine r_callV (κ := 2) (μ := [0, 1]) E (sp_X2_readGutter l G B1 (nI u) (nI v) z (nI bcn) fr he gu be nm nl bh fp (r 0) (r 1) (r 2) (r 3) B0 n ki (nI s) va ec eo bs p _ rfl rfl hp hn hz.1) my_X2_readGutter iv_X2_readGutter ml_X2_96 (cm_of rfl) ⟨by decide, rfl, rfl⟩ rfl rfl rfl rfl (by decide) (Nat.le_of_ble_eq_true rfl) (dat dkX2_readStatement 14 rfl) ?_
      rintro _ _ ⟨rfl, rfl⟩
      refine ⟨_, Mrg_ee (i := 0) (j := 1) (by decide) (by decide) (by decide) pm2_01 rfl, ?_⟩
      refine r_zreturn E (dat dkX2_readStatement 15 rfl) (bn_rGt) (by decide) (by decide) ?_
      rw [pm2_01, show (rSt bs n ((p, ki, nI s, va, ec, eo) : TT) (((u, v, z), he, gu, fr, bcn, nl, fp, bh, r) : PP)) = _ from (if_neg (fun q => absurd (((ew _).symm.trans q).symm.trans h6) (by decide))).trans (if_pos ((ew _).trans (isW_b.resolve_left h21)))]
      exact ⟨rfl, rfl⟩
  ·
    refine r_aload_n E (dat dkX2_readStatement 4 rfl) rfl rfl ?_
    refine r_aload_n E (dat dkX2_readStatement 5 rfl) rfl rfl ?_
    refine r_callV (κ := 2) (μ := [0, 1]) E (sp_X2_readRow l G B1 u v z (leO u v) (moO u v) (nI bcn) fr he gu be nm nl bh fp (r 0) (r 1) (r 2) (r 3) B0 n ki (nI s) va ec eo bs p _ rfl rfl hp hn hz.2.1 hz.2.2.1 hz.2.2.2.1 x1 hz.2.2.2.2) my_X2_readRow iv_X2_readRow ml_X2_91 (cm_of rfl) ⟨by decide, rfl, rfl⟩ rfl rfl rfl rfl (by decide) (Nat.le_of_ble_eq_true rfl) (dat dkX2_readStatement 6 rfl) ?_
    rintro _ _ ⟨rfl, rfl⟩
    refine ⟨_, Mrg_ee (i := 0) (j := 1) (by decide) (by decide) (by decide) pm2_01 rfl, ?_⟩
    refine r_zreturn E (dat dkX2_readStatement 7 rfl) (bn_rRw) (by decide) (by decide) ?_
    rw [pm2_01, show (rSt bs n ((p, ki, nI s, va, ec, eo) : TT) (((u, v, z), he, gu, fr, bcn, nl, fp, bh, r) : PP)) = _ from if_pos ((ew _).trans (isW_b.resolve_left h6))]
    exact ⟨rfl, rfl⟩
