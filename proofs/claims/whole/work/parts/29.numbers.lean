theorem sp_rd1 (l : Launch) (G : GT) (B3 : Nat → Nat → Int32) (ct : Nat) (vb : Nat → Int32) (f : CF) (B0 : Nat → Nat → Int32) (n : Nat) (bs : Nat → Int32) (t : TT) (lo hi : Int32) (M : Mem) (h0 : M 0 = vCx B3 ct vb f) (h1 : M 1 = vTx B0 n bs t) (hct : ct < 30) (hp : t.1 ≤ n) (hn : n ≤ 600) : MC l G yX4_readFirst cX4_readFirst 5 (some .boolean) ({ frames := 4, cells := 0, slots := 0, locals := 82 } : Room) [4, 3] lk0 [rv 0 0, rv 1 0, iv lo, iv hi] M (fun r9 M2 => r9 = some (iv (nu1 bs n ct lo hi t f).1.1) ∧ M2 = setm (setm M 0 (vCx B3 ct vb (nu1 bs n ct lo hi t f).2)) 1 (vTx B0 n bs (nu1 bs n ct lo hi t f).1.2)) := sp_X4_readFirst l G B3 ct vb f.1 f.2.1 f.2.2 B0 n t.2.1 t.2.2.1 t.2.2.2.1 t.2.2.2.2.1 t.2.2.2.2.2 bs t.1 lo hi M h0 h1 hct hp hn
theorem sp_rd2 (l : Launch) (G : GT) (B3 : Nat → Nat → Int32) (ct : Nat) (vb : Nat → Int32) (f : CF) (B0 : Nat → Nat → Int32) (n : Nat) (bs : Nat → Int32) (t : TT) (lo hi : Int32) (M : Mem) (h0 : M 0 = vCx B3 ct vb f) (h1 : M 1 = vTx B0 n bs t) (hct : ct < 30) (hp : t.1 ≤ n) (hn : n ≤ 600) : MC l G yX4_readSecond cX4_readSecond 5 (some .boolean) ({ frames := 4, cells := 0, slots := 0, locals := 82 } : Room) [4, 3] lk0 [rv 0 0, rv 1 0, iv lo, iv hi] M (fun r9 M2 => r9 = some (iv (nu2 bs n ct lo hi t f).1.1) ∧ M2 = setm (setm M 0 (vCx B3 ct vb (nu2 bs n ct lo hi t f).2)) 1 (vTx B0 n bs (nu2 bs n ct lo hi t f).1.2)) := sp_X4_readSecond l G B3 ct vb f.1 f.2.1 f.2.2 B0 n t.2.1 t.2.2.1 t.2.2.2.1 t.2.2.2.2.1 t.2.2.2.2.2 bs t.1 lo hi M h0 h1 hct hp hn
theorem sp_rd3 (l : Launch) (G : GT) (B3 : Nat → Nat → Int32) (ct : Nat) (vb : Nat → Int32) (f : CF) (B0 : Nat → Nat → Int32) (n : Nat) (bs : Nat → Int32) (t : TT) (lo hi : Int32) (M : Mem) (h0 : M 0 = vCx B3 ct vb f) (h1 : M 1 = vTx B0 n bs t) (hct : ct < 30) (hp : t.1 ≤ n) (hn : n ≤ 600) : MC l G yX4_readThird cX4_readThird 5 (some .boolean) ({ frames := 4, cells := 0, slots := 0, locals := 82 } : Room) [4, 3] lk0 [rv 0 0, rv 1 0, iv lo, iv hi] M (fun r9 M2 => r9 = some (iv (nu3 bs n ct lo hi t f).1.1) ∧ M2 = setm (setm M 0 (vCx B3 ct vb (nu3 bs n ct lo hi t f).2)) 1 (vTx B0 n bs (nu3 bs n ct lo hi t f).1.2)) := sp_X4_readThird l G B3 ct vb f.1 f.2.1 f.2.2 B0 n t.2.1 t.2.2.1 t.2.2.2.1 t.2.2.2.2.1 t.2.2.2.2.2 bs t.1 lo hi M h0 h1 hct hp hn
theorem sp_rdN (l : Launch) (G : GT) (B3 : Nat → Nat → Int32) (ct : Nat) (vb : Nat → Int32) (f : CF) (B0 : Nat → Nat → Int32) (n : Nat) (bs : Nat → Int32) (t : TT) (B1 : Nat → Nat → Int32) (be nm : Nat → Int32) (x : PP) (M : Mem) (h0 : M 0 = vCx B3 ct vb f) (h1 : M 1 = vTx B0 n bs t) (h2 : M 2 = vPx B1 be nm x) (hx : PIv x) (hct : ct < 30) (hp : t.1 ≤ n) (hn : n ≤ 600) : MC l G yX4_readName cX4_readName 3 (some .boolean) ({ frames := 4, cells := 0, slots := 0, locals := 80 } : Room) [4, 3, 2] lk0 [rv 0 0, rv 1 0, rv 2 0] M (fun r9 M2 => r9 = some (iv (nuN bs n ct x.2.2.2.2.1 (fun i => (x.2.2.2.2.2.1 i).toNatClampNeg) x.2.2.2.2.2.2.2.2 t f).1.1) ∧ M2 = setm (setm M 0 (vCx B3 ct vb (nuN bs n ct x.2.2.2.2.1 (fun i => (x.2.2.2.2.2.1 i).toNatClampNeg) x.2.2.2.2.2.2.2.2 t f).2)) 1 (vTx B0 n bs (nuN bs n ct x.2.2.2.2.1 (fun i => (x.2.2.2.2.2.1 i).toNatClampNeg) x.2.2.2.2.2.2.2.2 t f).1.2)) := by
  refine MC.mono (sp_X4_readName l G B3 ct vb f.1 f.2.1 f.2.2 B0 n t.2.1 t.2.2.1 t.2.2.2.1 t.2.2.2.2.1 t.2.2.2.2.2 bs t.1 B1 (nI x.1.1) (nI x.1.2.1) x.1.2.2 x.2.2.2.2.1 x.2.2.2.1 x.2.1 x.2.2.1 be nm x.2.2.2.2.2.1 x.2.2.2.2.2.2.2.1 x.2.2.2.2.2.2.1 (x.2.2.2.2.2.2.2.2 0) (x.2.2.2.2.2.2.2.2 1) (x.2.2.2.2.2.2.2.2 2) (x.2.2.2.2.2.2.2.2 3) M h0 h1 h2 (fun i => (x.2.2.2.2.2.1 i).toNatClampNeg) hx.2.2.2.2.1 hx.2.2.2.2.2.1 hct hp hn) (fun r9 M9 h => ?_)
  have e : nmS (gNm bs (tS bs n t.1) (tP bs n t.1) (x.2.2.2.2.2.2.2.2 0) (x.2.2.2.2.2.2.2.2 1) (x.2.2.2.2.2.2.2.2 2) (x.2.2.2.2.2.2.2.2 3) (fun i => (x.2.2.2.2.2.1 i).toNatClampNeg)) x.2.2.2.2.1 0 = nuG bs n x.2.2.2.2.1 (fun i => (x.2.2.2.2.2.1 i).toNatClampNeg) x.2.2.2.2.2.2.2.2 t := nmS_congr _ 0 (fun q _ hq => by
    have h4 := hx.2.2.2.2.1
    unfold gNm
    rw [rw4_lt (r := x.2.2.2.2.2.2.2.2) (by omega)])
  rw [e] at h
  unfold nuN
  by_cases c1 : tmC bs n t.1 = 0
  · rw [if_pos c1] at h ⊢
    by_cases c2 : nuG bs n x.2.2.2.2.1 (fun i => (x.2.2.2.2.2.1 i).toNatClampNeg) x.2.2.2.2.2.2.2.2 t = -1
    · rw [if_pos c2] at h ⊢; exact h
    · rw [if_neg c2] at h ⊢; exact h
  · rw [if_neg c1] at h ⊢
    obtain ⟨a, c⟩ := h
    refine ⟨a, c.trans ?_⟩
    rw [← h0, setm_self]
    rfl
/-- a statement's numbers, by a plan -/
def rNx (b : Nat → Int32) (n : Nat) (x : PP) (ct k : Nat) (t : TT) (f : CF) : NR := rNum b n x.1.2.2 ct x.2.2.2.2.1 (fun i => (x.2.2.2.2.2.1 i).toNatClampNeg) x.2.2.2.2.2.2.2.2 k t f
theorem nuN_le {b : Nat → Int32} {n ct bcn : Nat} {nlN : Nat → Nat} {r : Nat → Nat → Int32} {t : TT} {f : CF} (hp : t.1 ≤ n) : (nuN b n ct bcn nlN r t f).1.2.1 ≤ n := by
  have h := (tP_le (b := b) hp).2
  unfold nuN
  split
  · split
    · exact h
    · exact h
  · exact h
theorem nuN_b {b : Nat → Int32} {n ct bcn : Nat} {nlN : Nat → Nat} {r : Nat → Nat → Int32} {t : TT} {f : CF} : narrow .boolean (.int (nuN b n ct bcn nlN r t f).1.1) = .int (nuN b n ct bcn nlN r t f).1.1 := by
  unfold nuN
  split
  · split
    · exact bn_0
    · exact bn_1
  · exact bn_0
theorem rNx_1 {b : Nat → Int32} {n ct : Nat} {x : PP} {t : TT} {f : CF} : rNx b n x ct 1 t f = nuA (nu1 b n ct 0 (nI x.1.2.2 - 1) t f) (fun t f => nuA (nu2 b n ct 1 20 t f) (fun t f => nu3 b n ct 1 60 t f)) := rfl
set_option maxRecDepth 100000 in
set_option maxHeartbeats 16000000 in
theorem sp_X4_readNumbers (l : Launch) (G : GT) (B3 : Nat → Nat → Int32) (ct : Nat) (vb : Nat → Int32) (f : CF) (B0 : Nat → Nat → Int32) (n : Nat) (bs : Nat → Int32) (t : TT) (B1 : Nat → Nat → Int32) (be nm : Nat → Int32) (x : PP) (k : Nat) (M : Mem) (hA0 : M 0 = vCx B3 ct vb f) (hA1 : M 1 = vTx B0 n bs t) (hA2 : M 2 = vPx B1 be nm x) (hk : k < 8) (hx : PIv x) (hct : ct < 30) (hp : t.1 ≤ n) (hn : n ≤ 600) : MC l G yX4_readNumbers cX4_readNumbers 4 (some .boolean) ({ frames := 5, cells := 0, slots := 0, locals := 106 } : Room) [4, 3, 2] lk0 [rv 0 0, rv 1 0, rv 2 0, rv 98 k] (M) (fun r9 M2 => r9 = some (iv (rNx bs n x ct k t f).1.1) ∧ M2 = setm (setm M 0 (vCx B3 ct vb (rNx bs n x ct k t f).2)) 1 (vTx B0 n bs (rNx bs n x ct k t f).1.2)) := by
  obtain ⟨M0, rfl⟩ : ∃ M0, M = m3 (vCx B3 ct vb f) (vTx B0 n bs t) (vPx B1 be nm x) M0 := ⟨M, (m3_of hA0 hA1 hA2).symm⟩
  clear hA0 hA1 hA2
  refine MC.of RX4 [some (rv 0 0), some (rv 1 0), some (rv 2 0), some (rv 98 k)] 0 (by decide +kernel) rfl rfl rfl ?_
  intro pp ee ss mm aa bb me cd ad E
  rcases (show k = 0 ∨ k = 1 ∨ k = 2 ∨ k = 3 ∨ k = 4 ∨ k = 5 ∨ k = 6 ∨ k = 7 by omega) with rfl | rfl | rfl | rfl | rfl | rfl | rfl | rfl
  ·
    refine q_gswm E gs_X4_69 (dat dkX4_readNumbers 0 rfl) ?_
    refine r_aload_n E (dat dkX4_readNumbers 1 rfl) rfl rfl ?_
    refine r_callN (C := "PuddleCity$Verb") (owner := "java/lang/Enum") (x := ⟨"PuddleCity$Verb", "ordinal", "()I"⟩) E (sp_ordinal l G 0 _ (by omega)) (KRC_e E (by omega)) ow_code ow_link ow_same (va_Decl.of (E.2.2.2.2.1 _ ow_inst) (E.2.2.2.2.1 _ ow_code)) ow_sel ow_inst (by decide +kernel) rfl rfl (by decide) (Nat.le_of_ble_eq_true rfl) (dat dkX4_readNumbers 2 rfl) ?_
    rintro _ _ ⟨rfl, hM⟩
    refine ⟨hM, ?_⟩
    clear hM
    refine q_swld (i := 0) E (by omega) rfl (dat dkX4_readNumbers 3 rfl) ?_
    refine r_tabIn (off := 40) (tgt := 48) E (dat dkX4_readNumbers 4 rfl) (by decide +kernel) (by decide +kernel) (by rfl) rfl ?_
    refine r_aload_n E (dat dkX4_readNumbers 5 rfl) rfl rfl ?_
    refine r_aload_n E (dat dkX4_readNumbers 6 rfl) rfl rfl ?_
    refine r_iconst (v := 0) E (dat dkX4_readNumbers 7 rfl) rfl ?_
    refine r_bipush (v := 9) E (dat dkX4_readNumbers 8 rfl) rfl ?_
    refine r_callV (κ := 4) (μ := [0, 1]) E (sp_rd1 l G B3 ct vb f B0 n bs t (0) (9) _ rfl rfl hct hp hn) my_X4_readFirst iv_X4_readFirst ml_X4_78 (cm_of rfl) ⟨by decide, rfl, rfl⟩ rfl rfl rfl rfl (by decide) (Nat.le_of_ble_eq_true rfl) (dat dkX4_readNumbers 9 rfl) ?_
    rintro _ _ ⟨rfl, rfl⟩
    refine ⟨_, Mrg_ee (i := 0) (j := 1) (by decide) (by decide) (by decide) pm3_01 rfl, ?_⟩
    refine r_zreturn E (dat dkX4_readNumbers 10 rfl) fe_b (by decide) (by decide) ?_
    exact ⟨rfl, by rw [pm3_01]; rfl⟩
  ·
    refine q_gswm E gs_X4_69 (dat dkX4_readNumbers 0 rfl) ?_
    refine r_aload_n E (dat dkX4_readNumbers 1 rfl) rfl rfl ?_
    refine r_callN (C := "PuddleCity$Verb") (owner := "java/lang/Enum") (x := ⟨"PuddleCity$Verb", "ordinal", "()I"⟩) E (sp_ordinal l G 1 _ (by omega)) (KRC_e E (by omega)) ow_code ow_link ow_same (va_Decl.of (E.2.2.2.2.1 _ ow_inst) (E.2.2.2.2.1 _ ow_code)) ow_sel ow_inst (by decide +kernel) rfl rfl (by decide) (Nat.le_of_ble_eq_true rfl) (dat dkX4_readNumbers 2 rfl) ?_
    rintro _ _ ⟨rfl, hM⟩
    refine ⟨hM, ?_⟩
    clear hM
    refine q_swld (i := 1) E (by omega) rfl (dat dkX4_readNumbers 3 rfl) ?_
    refine r_tabIn (off := 49) (tgt := 57) E (dat dkX4_readNumbers 4 rfl) (by decide +kernel) (by decide +kernel) (by rfl) rfl ?_
    refine r_aload_n E (dat dkX4_readNumbers 11 rfl) rfl rfl ?_
    refine r_aload_n E (dat dkX4_readNumbers 12 rfl) rfl rfl ?_
    refine r_iconst (v := 0) E (dat dkX4_readNumbers 13 rfl) rfl ?_
    refine r_aload_n E (dat dkX4_readNumbers 14 rfl) rfl rfl ?_
    refine q_getn E fl_X4_82 (dat dkX4_readNumbers 15 rfl) rfl rfl rfl (go3_2 gfP_9) ?_
    refine r_iconst (v := 1) E (dat dkX4_readNumbers 16 rfl) rfl ?_
    refine r_isub E (dat dkX4_readNumbers 17 rfl) ?_
    refine r_callV (κ := 4) (μ := [0, 1]) E (sp_rd1 l G B3 ct vb f B0 n bs t (0) (nI x.1.2.2 - 1) _ rfl rfl hct hp hn) my_X4_readFirst iv_X4_readFirst ml_X4_78 (cm_of rfl) ⟨by decide, rfl, rfl⟩ rfl rfl rfl rfl (by decide) (Nat.le_of_ble_eq_true rfl) (dat dkX4_readNumbers 18 rfl) ?_
    rintro _ _ ⟨rfl, rfl⟩
    refine ⟨_, Mrg_ee (i := 0) (j := 1) (by decide) (by decide) (by decide) pm3_01 rfl, ?_⟩
    refine r_if_eq (tgt := 98) E (dat dkX4_readNumbers 19 rfl) rfl (fun h69 => ?_) (fun h69 => ?_)
    ·
      refine r_iconst (v := 0) E (dat dkX4_readNumbers 34 rfl) rfl ?_
      refine r_zreturn E (dat dkX4_readNumbers 35 rfl) rfl (by decide) (by decide) ?_
      first
        | (rw [show (rNx bs n x ct 1 t f) = _ from rNx_1.trans (nuA_0 h69)]; exact ⟨by rw [h69], by rw [pm3_01]⟩)
        | (rw [show (rNx bs n x ct 1 t f) = _ from rNx_1.trans ((nuA_1 h69).trans (nuA_0 h80))]; exact ⟨by rw [h80], by rw [pm3_01]⟩)
        | (rw [show (rNx bs n x ct 1 t f) = _ from rNx_1.trans ((nuA_1 h69).trans (nuA_1 h80))]; exact ⟨by rw [h91], by rw [pm3_01]⟩)
        | (rw [show (rNx bs n x ct 1 t f) = _ from rNx_1.trans ((nuA_1 h69).trans (nuA_1 h80))]; exact ⟨congrArg (fun q => some (iv q)) (fe_1 h91).symm, by rw [pm3_01]⟩)
    ·
      refine r_aload_n E (dat dkX4_readNumbers 20 rfl) rfl rfl ?_
      refine r_aload_n E (dat dkX4_readNumbers 21 rfl) rfl rfl ?_
      refine r_iconst (v := 1) E (dat dkX4_readNumbers 22 rfl) rfl ?_
      refine r_bipush (v := 20) E (dat dkX4_readNumbers 23 rfl) rfl ?_
      refine r_callV (κ := 4) (μ := [0, 1]) E (sp_rd2 l G B3 ct vb (nu1 bs n ct 0 (nI x.1.2.2 - 1) t f).2 B0 n bs (nu1 bs n ct 0 (nI x.1.2.2 - 1) t f).1.2 (1) (20) _ rfl rfl hct (tP_le (b := bs) hp).2 hn) my_X4_readSecond iv_X4_readSecond ml_X4_87 (cm_of rfl) ⟨by decide, rfl, rfl⟩ rfl rfl rfl rfl (by decide) (Nat.le_of_ble_eq_true rfl) (dat dkX4_readNumbers 24 rfl) ?_
      rintro _ _ ⟨rfl, rfl⟩
      refine ⟨_, Mrg_ee (i := 0) (j := 1) (by decide) (by decide) (by decide) pm3_01 rfl, ?_⟩
      refine r_if_eq (tgt := 98) E (dat dkX4_readNumbers 25 rfl) rfl (fun h80 => ?_) (fun h80 => ?_)
      ·
        refine r_iconst (v := 0) E (dat dkX4_readNumbers 34 rfl) rfl ?_
        refine r_zreturn E (dat dkX4_readNumbers 35 rfl) rfl (by decide) (by decide) ?_
        first
          | (rw [show (rNx bs n x ct 1 t f) = _ from rNx_1.trans (nuA_0 h69)]; exact ⟨by rw [h69], by rw [pm3_01]⟩)
          | (rw [show (rNx bs n x ct 1 t f) = _ from rNx_1.trans ((nuA_1 h69).trans (nuA_0 h80))]; exact ⟨by rw [h80], by rw [pm3_01]⟩)
          | (rw [show (rNx bs n x ct 1 t f) = _ from rNx_1.trans ((nuA_1 h69).trans (nuA_1 h80))]; exact ⟨by rw [h91], by rw [pm3_01]⟩)
          | (rw [show (rNx bs n x ct 1 t f) = _ from rNx_1.trans ((nuA_1 h69).trans (nuA_1 h80))]; exact ⟨congrArg (fun q => some (iv q)) (fe_1 h91).symm, by rw [pm3_01]⟩)
      ·
        refine r_aload_n E (dat dkX4_readNumbers 26 rfl) rfl rfl ?_
        refine r_aload_n E (dat dkX4_readNumbers 27 rfl) rfl rfl ?_
        refine r_iconst (v := 1) E (dat dkX4_readNumbers 28 rfl) rfl ?_
        refine r_bipush (v := 60) E (dat dkX4_readNumbers 29 rfl) rfl ?_
        refine r_callV (κ := 4) (μ := [0, 1]) E (sp_rd3 l G B3 ct vb (nu2 bs n ct 1 20 (nu1 bs n ct 0 (nI x.1.2.2 - 1) t f).1.2 (nu1 bs n ct 0 (nI x.1.2.2 - 1) t f).2).2 B0 n bs (nu2 bs n ct 1 20 (nu1 bs n ct 0 (nI x.1.2.2 - 1) t f).1.2 (nu1 bs n ct 0 (nI x.1.2.2 - 1) t f).2).1.2 (1) (60) _ rfl rfl hct (tP_le (b := bs) (tP_le (b := bs) hp).2).2 hn) my_X4_readThird iv_X4_readThird ml_X4_90 (cm_of rfl) ⟨by decide, rfl, rfl⟩ rfl rfl rfl rfl (by decide) (Nat.le_of_ble_eq_true rfl) (dat dkX4_readNumbers 30 rfl) ?_
        rintro _ _ ⟨rfl, rfl⟩
        refine ⟨_, Mrg_ee (i := 0) (j := 1) (by decide) (by decide) (by decide) pm3_01 rfl, ?_⟩
        refine r_if_eq (tgt := 98) E (dat dkX4_readNumbers 31 rfl) rfl (fun h91 => ?_) (fun h91 => ?_)
        ·
          refine r_iconst (v := 0) E (dat dkX4_readNumbers 34 rfl) rfl ?_
          refine r_zreturn E (dat dkX4_readNumbers 35 rfl) rfl (by decide) (by decide) ?_
          first
            | (rw [show (rNx bs n x ct 1 t f) = _ from rNx_1.trans (nuA_0 h69)]; exact ⟨by rw [h69], by rw [pm3_01]⟩)
            | (rw [show (rNx bs n x ct 1 t f) = _ from rNx_1.trans ((nuA_1 h69).trans (nuA_0 h80))]; exact ⟨by rw [h80], by rw [pm3_01]⟩)
            | (rw [show (rNx bs n x ct 1 t f) = _ from rNx_1.trans ((nuA_1 h69).trans (nuA_1 h80))]; exact ⟨by rw [h91], by rw [pm3_01]⟩)
            | (rw [show (rNx bs n x ct 1 t f) = _ from rNx_1.trans ((nuA_1 h69).trans (nuA_1 h80))]; exact ⟨congrArg (fun q => some (iv q)) (fe_1 h91).symm, by rw [pm3_01]⟩)
        ·
          refine r_iconst (v := 1) E (dat dkX4_readNumbers 32 rfl) rfl ?_
          refine r_goto (tgt := 99) E (dat dkX4_readNumbers 33 rfl) rfl ?_
          refine r_zreturn E (dat dkX4_readNumbers 35 rfl) rfl (by decide) (by decide) ?_
          first
            | (rw [show (rNx bs n x ct 1 t f) = _ from rNx_1.trans (nuA_0 h69)]; exact ⟨by rw [h69], by rw [pm3_01]⟩)
            | (rw [show (rNx bs n x ct 1 t f) = _ from rNx_1.trans ((nuA_1 h69).trans (nuA_0 h80))]; exact ⟨by rw [h80], by rw [pm3_01]⟩)
            | (rw [show (rNx bs n x ct 1 t f) = _ from rNx_1.trans ((nuA_1 h69).trans (nuA_1 h80))]; exact ⟨by rw [h91], by rw [pm3_01]⟩)
            | (rw [show (rNx bs n x ct 1 t f) = _ from rNx_1.trans ((nuA_1 h69).trans (nuA_1 h80))]; exact ⟨congrArg (fun q => some (iv q)) (fe_1 h91).symm, by rw [pm3_01]⟩)
  ·
    refine q_gswm E gs_X4_69 (dat dkX4_readNumbers 0 rfl) ?_
    refine r_aload_n E (dat dkX4_readNumbers 1 rfl) rfl rfl ?_
    refine r_callN (C := "PuddleCity$Verb") (owner := "java/lang/Enum") (x := ⟨"PuddleCity$Verb", "ordinal", "()I"⟩) E (sp_ordinal l G 2 _ (by omega)) (KRC_e E (by omega)) ow_code ow_link ow_same (va_Decl.of (E.2.2.2.2.1 _ ow_inst) (E.2.2.2.2.1 _ ow_code)) ow_sel ow_inst (by decide +kernel) rfl rfl (by decide) (Nat.le_of_ble_eq_true rfl) (dat dkX4_readNumbers 2 rfl) ?_
    rintro _ _ ⟨rfl, hM⟩
    refine ⟨hM, ?_⟩
    clear hM
    refine q_swld (i := 2) E (by omega) rfl (dat dkX4_readNumbers 3 rfl) ?_
    refine r_tabOut (tgt := 173) E (dat dkX4_readNumbers 4 rfl) (Or.inr (by decide +kernel)) rfl ?_
    refine r_aload_n E (dat dkX4_readNumbers 81 rfl) rfl rfl ?_
    refine r_aload_n E (dat dkX4_readNumbers 82 rfl) rfl rfl ?_
    refine r_iconst (v := 0) E (dat dkX4_readNumbers 83 rfl) rfl ?_
    refine r_aload_n E (dat dkX4_readNumbers 84 rfl) rfl rfl ?_
    refine q_getn E fl_X4_82 (dat dkX4_readNumbers 85 rfl) rfl rfl rfl (go3_2 gfP_9) ?_
    refine r_iconst (v := 1) E (dat dkX4_readNumbers 86 rfl) rfl ?_
    refine r_isub E (dat dkX4_readNumbers 87 rfl) ?_
    refine r_callV (κ := 4) (μ := [0, 1]) E (sp_rd1 l G B3 ct vb f B0 n bs t (0) (nI x.1.2.2 - 1) _ rfl rfl hct hp hn) my_X4_readFirst iv_X4_readFirst ml_X4_78 (cm_of rfl) ⟨by decide, rfl, rfl⟩ rfl rfl rfl rfl (by decide) (Nat.le_of_ble_eq_true rfl) (dat dkX4_readNumbers 88 rfl) ?_
    rintro _ _ ⟨rfl, rfl⟩
    refine ⟨_, Mrg_ee (i := 0) (j := 1) (by decide) (by decide) (by decide) pm3_01 rfl, ?_⟩
    refine r_zreturn E (dat dkX4_readNumbers 89 rfl) fe_b (by decide) (by decide) ?_
    exact ⟨rfl, by rw [pm3_01]; rfl⟩
  ·
    refine q_gswm E gs_X4_69 (dat dkX4_readNumbers 0 rfl) ?_
    refine r_aload_n E (dat dkX4_readNumbers 1 rfl) rfl rfl ?_
    refine r_callN (C := "PuddleCity$Verb") (owner := "java/lang/Enum") (x := ⟨"PuddleCity$Verb", "ordinal", "()I"⟩) E (sp_ordinal l G 3 _ (by omega)) (KRC_e E (by omega)) ow_code ow_link ow_same (va_Decl.of (E.2.2.2.2.1 _ ow_inst) (E.2.2.2.2.1 _ ow_code)) ow_sel ow_inst (by decide +kernel) rfl rfl (by decide) (Nat.le_of_ble_eq_true rfl) (dat dkX4_readNumbers 2 rfl) ?_
    rintro _ _ ⟨rfl, hM⟩
    refine ⟨hM, ?_⟩
    clear hM
    refine q_swld (i := 3) E (by omega) rfl (dat dkX4_readNumbers 3 rfl) ?_
    refine r_tabIn (off := 92) (tgt := 100) E (dat dkX4_readNumbers 4 rfl) (by decide +kernel) (by decide +kernel) (by rfl) rfl ?_
    refine r_aload_n E (dat dkX4_readNumbers 36 rfl) rfl rfl ?_
    refine r_aload_n E (dat dkX4_readNumbers 37 rfl) rfl rfl ?_
    refine r_iconst (v := 0) E (dat dkX4_readNumbers 38 rfl) rfl ?_
    refine r_aload_n E (dat dkX4_readNumbers 39 rfl) rfl rfl ?_
    refine q_getn E fl_X4_82 (dat dkX4_readNumbers 40 rfl) rfl rfl rfl (go3_2 gfP_9) ?_
    refine r_iconst (v := 1) E (dat dkX4_readNumbers 41 rfl) rfl ?_
    refine r_isub E (dat dkX4_readNumbers 42 rfl) ?_
    refine r_callV (κ := 4) (μ := [0, 1]) E (sp_rd1 l G B3 ct vb f B0 n bs t (0) (nI x.1.2.2 - 1) _ rfl rfl hct hp hn) my_X4_readFirst iv_X4_readFirst ml_X4_78 (cm_of rfl) ⟨by decide, rfl, rfl⟩ rfl rfl rfl rfl (by decide) (Nat.le_of_ble_eq_true rfl) (dat dkX4_readNumbers 43 rfl) ?_
    rintro _ _ ⟨rfl, rfl⟩
    refine ⟨_, Mrg_ee (i := 0) (j := 1) (by decide) (by decide) (by decide) pm3_01 rfl, ?_⟩
    refine r_if_eq (tgt := 130) E (dat dkX4_readNumbers 44 rfl) rfl (fun h112 => ?_) (fun h112 => ?_)
    ·
      refine r_iconst (v := 0) E (dat dkX4_readNumbers 53 rfl) rfl ?_
      refine r_zreturn E (dat dkX4_readNumbers 54 rfl) rfl (by decide) (by decide) ?_
      first
        | (rw [show (rNx bs n x ct 3 t f) = _ from nuA_0 h112]; exact ⟨by rw [h112], by rw [pm3_01]⟩)
        | (rw [show (rNx bs n x ct 3 t f) = _ from nuA_1 h112]; exact ⟨by rw [h123], by rw [pm3_01]⟩)
        | (rw [show (rNx bs n x ct 3 t f) = _ from nuA_1 h112]; exact ⟨congrArg (fun q => some (iv q)) (fe_1 h123).symm, by rw [pm3_01]⟩)
    ·
      refine r_aload_n E (dat dkX4_readNumbers 45 rfl) rfl rfl ?_
      refine r_aload_n E (dat dkX4_readNumbers 46 rfl) rfl rfl ?_
      refine r_iconst (v := 1) E (dat dkX4_readNumbers 47 rfl) rfl ?_
      refine r_bipush (v := 9) E (dat dkX4_readNumbers 48 rfl) rfl ?_
      refine r_callV (κ := 4) (μ := [0, 1]) E (sp_rd2 l G B3 ct vb (nu1 bs n ct 0 (nI x.1.2.2 - 1) t f).2 B0 n bs (nu1 bs n ct 0 (nI x.1.2.2 - 1) t f).1.2 (1) (9) _ rfl rfl hct (tP_le (b := bs) hp).2 hn) my_X4_readSecond iv_X4_readSecond ml_X4_87 (cm_of rfl) ⟨by decide, rfl, rfl⟩ rfl rfl rfl rfl (by decide) (Nat.le_of_ble_eq_true rfl) (dat dkX4_readNumbers 49 rfl) ?_
      rintro _ _ ⟨rfl, rfl⟩
      refine ⟨_, Mrg_ee (i := 0) (j := 1) (by decide) (by decide) (by decide) pm3_01 rfl, ?_⟩
      refine r_if_eq (tgt := 130) E (dat dkX4_readNumbers 50 rfl) rfl (fun h123 => ?_) (fun h123 => ?_)
      ·
        refine r_iconst (v := 0) E (dat dkX4_readNumbers 53 rfl) rfl ?_
        refine r_zreturn E (dat dkX4_readNumbers 54 rfl) rfl (by decide) (by decide) ?_
        first
          | (rw [show (rNx bs n x ct 3 t f) = _ from nuA_0 h112]; exact ⟨by rw [h112], by rw [pm3_01]⟩)
          | (rw [show (rNx bs n x ct 3 t f) = _ from nuA_1 h112]; exact ⟨by rw [h123], by rw [pm3_01]⟩)
          | (rw [show (rNx bs n x ct 3 t f) = _ from nuA_1 h112]; exact ⟨congrArg (fun q => some (iv q)) (fe_1 h123).symm, by rw [pm3_01]⟩)
      ·
        refine r_iconst (v := 1) E (dat dkX4_readNumbers 51 rfl) rfl ?_
        refine r_goto (tgt := 131) E (dat dkX4_readNumbers 52 rfl) rfl ?_
        refine r_zreturn E (dat dkX4_readNumbers 54 rfl) rfl (by decide) (by decide) ?_
        first
          | (rw [show (rNx bs n x ct 3 t f) = _ from nuA_0 h112]; exact ⟨by rw [h112], by rw [pm3_01]⟩)
          | (rw [show (rNx bs n x ct 3 t f) = _ from nuA_1 h112]; exact ⟨by rw [h123], by rw [pm3_01]⟩)
          | (rw [show (rNx bs n x ct 3 t f) = _ from nuA_1 h112]; exact ⟨congrArg (fun q => some (iv q)) (fe_1 h123).symm, by rw [pm3_01]⟩)
  ·
    refine q_gswm E gs_X4_69 (dat dkX4_readNumbers 0 rfl) ?_
    refine r_aload_n E (dat dkX4_readNumbers 1 rfl) rfl rfl ?_
    refine r_callN (C := "PuddleCity$Verb") (owner := "java/lang/Enum") (x := ⟨"PuddleCity$Verb", "ordinal", "()I"⟩) E (sp_ordinal l G 4 _ (by omega)) (KRC_e E (by omega)) ow_code ow_link ow_same (va_Decl.of (E.2.2.2.2.1 _ ow_inst) (E.2.2.2.2.1 _ ow_code)) ow_sel ow_inst (by decide +kernel) rfl rfl (by decide) (Nat.le_of_ble_eq_true rfl) (dat dkX4_readNumbers 2 rfl) ?_
    rintro _ _ ⟨rfl, hM⟩
    refine ⟨hM, ?_⟩
    clear hM
    refine q_swld (i := 4) E (by omega) rfl (dat dkX4_readNumbers 3 rfl) ?_
    refine r_tabOut (tgt := 173) E (dat dkX4_readNumbers 4 rfl) (Or.inr (by decide +kernel)) rfl ?_
    refine r_aload_n E (dat dkX4_readNumbers 81 rfl) rfl rfl ?_
    refine r_aload_n E (dat dkX4_readNumbers 82 rfl) rfl rfl ?_
    refine r_iconst (v := 0) E (dat dkX4_readNumbers 83 rfl) rfl ?_
    refine r_aload_n E (dat dkX4_readNumbers 84 rfl) rfl rfl ?_
    refine q_getn E fl_X4_82 (dat dkX4_readNumbers 85 rfl) rfl rfl rfl (go3_2 gfP_9) ?_
    refine r_iconst (v := 1) E (dat dkX4_readNumbers 86 rfl) rfl ?_
    refine r_isub E (dat dkX4_readNumbers 87 rfl) ?_
    refine r_callV (κ := 4) (μ := [0, 1]) E (sp_rd1 l G B3 ct vb f B0 n bs t (0) (nI x.1.2.2 - 1) _ rfl rfl hct hp hn) my_X4_readFirst iv_X4_readFirst ml_X4_78 (cm_of rfl) ⟨by decide, rfl, rfl⟩ rfl rfl rfl rfl (by decide) (Nat.le_of_ble_eq_true rfl) (dat dkX4_readNumbers 88 rfl) ?_
    rintro _ _ ⟨rfl, rfl⟩
    refine ⟨_, Mrg_ee (i := 0) (j := 1) (by decide) (by decide) (by decide) pm3_01 rfl, ?_⟩
    refine r_zreturn E (dat dkX4_readNumbers 89 rfl) fe_b (by decide) (by decide) ?_
    exact ⟨rfl, by rw [pm3_01]; rfl⟩
  ·
    refine q_gswm E gs_X4_69 (dat dkX4_readNumbers 0 rfl) ?_
    refine r_aload_n E (dat dkX4_readNumbers 1 rfl) rfl rfl ?_
    refine r_callN (C := "PuddleCity$Verb") (owner := "java/lang/Enum") (x := ⟨"PuddleCity$Verb", "ordinal", "()I"⟩) E (sp_ordinal l G 5 _ (by omega)) (KRC_e E (by omega)) ow_code ow_link ow_same (va_Decl.of (E.2.2.2.2.1 _ ow_inst) (E.2.2.2.2.1 _ ow_code)) ow_sel ow_inst (by decide +kernel) rfl rfl (by decide) (Nat.le_of_ble_eq_true rfl) (dat dkX4_readNumbers 2 rfl) ?_
    rintro _ _ ⟨rfl, hM⟩
    refine ⟨hM, ?_⟩
    clear hM
    refine q_swld (i := 5) E (by omega) rfl (dat dkX4_readNumbers 3 rfl) ?_
    refine r_tabIn (off := 124) (tgt := 132) E (dat dkX4_readNumbers 4 rfl) (by decide +kernel) (by decide +kernel) (by rfl) rfl ?_
    refine r_aload_n E (dat dkX4_readNumbers 55 rfl) rfl rfl ?_
    refine r_aload_n E (dat dkX4_readNumbers 56 rfl) rfl rfl ?_
    refine r_aload_n E (dat dkX4_readNumbers 57 rfl) rfl rfl ?_
    refine r_callV (κ := 4) (μ := [0, 1, 2]) E (sp_rdN l G B3 ct vb f B0 n bs t B1 be nm x _ rfl rfl rfl hx hct hp hn) my_X4_readName iv_X4_readName ml_X4_93 (cm_of rfl) ⟨by decide, rfl, rfl⟩ rfl rfl rfl rfl (by decide) (Nat.le_of_ble_eq_true rfl) (dat dkX4_readNumbers 58 rfl) ?_
    rintro _ _ ⟨rfl, rfl⟩
    refine ⟨_, Mrg_ee (i := 0) (j := 1) (by decide) (by decide) (by decide) pm3_01 rfl, ?_⟩
    refine r_if_eq (tgt := 155) E (dat dkX4_readNumbers 59 rfl) rfl (fun h138 => ?_) (fun h138 => ?_)
    ·
      refine r_iconst (v := 0) E (dat dkX4_readNumbers 68 rfl) rfl ?_
      refine r_zreturn E (dat dkX4_readNumbers 69 rfl) rfl (by decide) (by decide) ?_
      first
        | (rw [show (rNx bs n x ct 5 t f) = _ from nuA_0 h138]; exact ⟨by rw [h138], by rw [pm3_01]⟩)
        | (rw [show (rNx bs n x ct 5 t f) = _ from nuA_1 h138]; exact ⟨by rw [h148], by rw [pm3_01]⟩)
        | (rw [show (rNx bs n x ct 5 t f) = _ from nuA_1 h138]; exact ⟨congrArg (fun q => some (iv q)) (fe_1 h148).symm, by rw [pm3_01]⟩)
    ·
      refine r_aload_n E (dat dkX4_readNumbers 60 rfl) rfl rfl ?_
      refine r_aload_n E (dat dkX4_readNumbers 61 rfl) rfl rfl ?_
      refine r_iconst (v := 0) E (dat dkX4_readNumbers 62 rfl) rfl ?_
      refine r_iconst (v := 3) E (dat dkX4_readNumbers 63 rfl) rfl ?_
      refine r_callV (κ := 4) (μ := [0, 1]) E (sp_rd2 l G B3 ct vb (nuN bs n ct x.2.2.2.2.1 (fun i => (x.2.2.2.2.2.1 i).toNatClampNeg) x.2.2.2.2.2.2.2.2 t f).2 B0 n bs (nuN bs n ct x.2.2.2.2.1 (fun i => (x.2.2.2.2.2.1 i).toNatClampNeg) x.2.2.2.2.2.2.2.2 t f).1.2 (0) (3) _ rfl rfl hct (nuN_le hp) hn) my_X4_readSecond iv_X4_readSecond ml_X4_87 (cm_of rfl) ⟨by decide, rfl, rfl⟩ rfl rfl rfl rfl (by decide) (Nat.le_of_ble_eq_true rfl) (dat dkX4_readNumbers 64 rfl) ?_
      rintro _ _ ⟨rfl, rfl⟩
      refine ⟨_, Mrg_ee (i := 0) (j := 1) (by decide) (by decide) (by decide) pm3_01 rfl, ?_⟩
      refine r_if_eq (tgt := 155) E (dat dkX4_readNumbers 65 rfl) rfl (fun h148 => ?_) (fun h148 => ?_)
      ·
        refine r_iconst (v := 0) E (dat dkX4_readNumbers 68 rfl) rfl ?_
        refine r_zreturn E (dat dkX4_readNumbers 69 rfl) rfl (by decide) (by decide) ?_
        first
          | (rw [show (rNx bs n x ct 5 t f) = _ from nuA_0 h138]; exact ⟨by rw [h138], by rw [pm3_01]⟩)
          | (rw [show (rNx bs n x ct 5 t f) = _ from nuA_1 h138]; exact ⟨by rw [h148], by rw [pm3_01]⟩)
          | (rw [show (rNx bs n x ct 5 t f) = _ from nuA_1 h138]; exact ⟨congrArg (fun q => some (iv q)) (fe_1 h148).symm, by rw [pm3_01]⟩)
      ·
        refine r_iconst (v := 1) E (dat dkX4_readNumbers 66 rfl) rfl ?_
        refine r_goto (tgt := 156) E (dat dkX4_readNumbers 67 rfl) rfl ?_
        refine r_zreturn E (dat dkX4_readNumbers 69 rfl) rfl (by decide) (by decide) ?_
        first
          | (rw [show (rNx bs n x ct 5 t f) = _ from nuA_0 h138]; exact ⟨by rw [h138], by rw [pm3_01]⟩)
          | (rw [show (rNx bs n x ct 5 t f) = _ from nuA_1 h138]; exact ⟨by rw [h148], by rw [pm3_01]⟩)
          | (rw [show (rNx bs n x ct 5 t f) = _ from nuA_1 h138]; exact ⟨congrArg (fun q => some (iv q)) (fe_1 h148).symm, by rw [pm3_01]⟩)
  ·
    refine q_gswm E gs_X4_69 (dat dkX4_readNumbers 0 rfl) ?_
    refine r_aload_n E (dat dkX4_readNumbers 1 rfl) rfl rfl ?_
    refine r_callN (C := "PuddleCity$Verb") (owner := "java/lang/Enum") (x := ⟨"PuddleCity$Verb", "ordinal", "()I"⟩) E (sp_ordinal l G 6 _ (by omega)) (KRC_e E (by omega)) ow_code ow_link ow_same (va_Decl.of (E.2.2.2.2.1 _ ow_inst) (E.2.2.2.2.1 _ ow_code)) ow_sel ow_inst (by decide +kernel) rfl rfl (by decide) (Nat.le_of_ble_eq_true rfl) (dat dkX4_readNumbers 2 rfl) ?_
    rintro _ _ ⟨rfl, hM⟩
    refine ⟨hM, ?_⟩
    clear hM
    refine q_swld (i := 6) E (by omega) rfl (dat dkX4_readNumbers 3 rfl) ?_
    refine r_tabIn (off := 149) (tgt := 157) E (dat dkX4_readNumbers 4 rfl) (by decide +kernel) (by decide +kernel) (by rfl) rfl ?_
    refine r_aload_n E (dat dkX4_readNumbers 70 rfl) rfl rfl ?_
    refine r_aload_n E (dat dkX4_readNumbers 71 rfl) rfl rfl ?_
    refine r_aload_n E (dat dkX4_readNumbers 72 rfl) rfl rfl ?_
    refine r_callV (κ := 4) (μ := [0, 1, 2]) E (sp_rdN l G B3 ct vb f B0 n bs t B1 be nm x _ rfl rfl rfl hx hct hp hn) my_X4_readName iv_X4_readName ml_X4_93 (cm_of rfl) ⟨by decide, rfl, rfl⟩ rfl rfl rfl rfl (by decide) (Nat.le_of_ble_eq_true rfl) (dat dkX4_readNumbers 73 rfl) ?_
    rintro _ _ ⟨rfl, rfl⟩
    refine ⟨_, Mrg_ee (i := 0) (j := 1) (by decide) (by decide) (by decide) pm3_01 rfl, ?_⟩
    refine r_zreturn E (dat dkX4_readNumbers 74 rfl) nuN_b (by decide) (by decide) ?_
    exact ⟨rfl, by rw [pm3_01]; rfl⟩
  ·
    refine q_gswm E gs_X4_69 (dat dkX4_readNumbers 0 rfl) ?_
    refine r_aload_n E (dat dkX4_readNumbers 1 rfl) rfl rfl ?_
    refine r_callN (C := "PuddleCity$Verb") (owner := "java/lang/Enum") (x := ⟨"PuddleCity$Verb", "ordinal", "()I"⟩) E (sp_ordinal l G 7 _ (by omega)) (KRC_e E (by omega)) ow_code ow_link ow_same (va_Decl.of (E.2.2.2.2.1 _ ow_inst) (E.2.2.2.2.1 _ ow_code)) ow_sel ow_inst (by decide +kernel) rfl rfl (by decide) (Nat.le_of_ble_eq_true rfl) (dat dkX4_readNumbers 2 rfl) ?_
    rintro _ _ ⟨rfl, hM⟩
    refine ⟨hM, ?_⟩
    clear hM
    refine q_swld (i := 7) E (by omega) rfl (dat dkX4_readNumbers 3 rfl) ?_
    refine r_tabIn (off := 156) (tgt := 164) E (dat dkX4_readNumbers 4 rfl) (by decide +kernel) (by decide +kernel) (by rfl) rfl ?_
    refine r_aload_n E (dat dkX4_readNumbers 75 rfl) rfl rfl ?_
    refine r_aload_n E (dat dkX4_readNumbers 76 rfl) rfl rfl ?_
    refine r_iconst (v := 1) E (dat dkX4_readNumbers 77 rfl) rfl ?_
    refine r_bipush (v := 60) E (dat dkX4_readNumbers 78 rfl) rfl ?_
    refine r_callV (κ := 4) (μ := [0, 1]) E (sp_rd1 l G B3 ct vb f B0 n bs t (1) (60) _ rfl rfl hct hp hn) my_X4_readFirst iv_X4_readFirst ml_X4_78 (cm_of rfl) ⟨by decide, rfl, rfl⟩ rfl rfl rfl rfl (by decide) (Nat.le_of_ble_eq_true rfl) (dat dkX4_readNumbers 79 rfl) ?_
    rintro _ _ ⟨rfl, rfl⟩
    refine ⟨_, Mrg_ee (i := 0) (j := 1) (by decide) (by decide) (by decide) pm3_01 rfl, ?_⟩
    refine r_zreturn E (dat dkX4_readNumbers 80 rfl) fe_b (by decide) (by decide) ?_
    exact ⟨rfl, by rw [pm3_01]; rfl⟩
