theorem PIv_0 {he : Nat → Int32} {bb : BB} : PIv ((0, 0, 0), he, (fun _ => 0), 0, (0, bb.2)) :=
  ⟨Nat.zero_le _, Nat.zero_le _, rfl, Or.inl rfl, Nat.zero_le _, fun i hi => absurd (show i < 0 from hi) (Nat.not_lt_zero i), fun i hi => absurd (show i < 0 from hi) (Nat.not_lt_zero i)⟩
section
variable {b : Nat → Int32} {n k : Nat} {t : TT} {x : PP}
theorem rSs_end (h : t.2.1 = 0) : rSs b n (600 - k) t x = ((1, t), x) := by
  cases 600 - k with
  | zero => rfl
  | succ f => exact if_pos h
theorem rSs_out (h : 600 ≤ k) : rSs b n (600 - k) t x = ((1, t), x) := by
  rw [show 600 - k = 0 by omega]; rfl
theorem rSs_no (hk : k < 600) (h : ¬ t.2.1 = 0) (h2 : (rSt b n t x).1.1 = 0) : rSs b n (600 - k) t x = rSt b n t x := by
  obtain ⟨f, hf⟩ : ∃ f, 600 - k = f + 1 := ⟨600 - k - 1, by omega⟩
  rw [hf]; exact (if_neg h).trans (if_pos h2)
theorem rSs_go (hk : k < 600) (h : ¬ t.2.1 = 0) (h2 : ¬ (rSt b n t x).1.1 = 0) : rSs b n (600 - (k + 1)) (tNx b n (rSt b n t x).1.2) (rSt b n t x).2 = rSs b n (600 - k) t x := by
  obtain ⟨f, hf⟩ : ∃ f, 600 - k = f + 1 := ⟨600 - k - 1, by omega⟩
  rw [hf, show 600 - (k + 1) = f by omega]; exact ((if_neg h).trans (if_neg h2)).symm
end
/-- the reading's last state -/
def rFy (b : Nat → Int32) (n : Nat) (t : TT) (bb : BB) (he : Nat → Int32) : (Int32 × TT) × PP := rSs b n 600 (tNx b n (0, t.2.1, t.2.2.1, t.2.2.2.1, 0, -1)) ((0, 0, 0), he, (fun _ => 0), 0, (0, bb.2))
theorem rFr_0 {b : Nat → Int32} {n : Nat} {t : TT} {bb : BB} {he : Nat → Int32} (h : (rFy b n t bb he).1.1 = 0) : rFr b n t bb he = rFy b n t bb he := if_pos h
theorem rFr_1 {b : Nat → Int32} {n : Nat} {t : TT} {bb : BB} {he : Nat → Int32} (h : ¬ (rFy b n t bb he).1.1 = 0) (h2 : (rFy b n t bb he).2.1.1 < 2) : rFr b n t bb he = ((0, tFl 5 (rFy b n t bb he).1.2), (rFy b n t bb he).2) := (if_neg h).trans (if_pos h2)
theorem rFr_2 {b : Nat → Int32} {n : Nat} {t : TT} {bb : BB} {he : Nat → Int32} (h : ¬ (rFy b n t bb he).1.1 = 0) (h2 : ¬ (rFy b n t bb he).2.1.1 < 2) : rFr b n t bb he = rFy b n t bb he := (if_neg h).trans (if_neg h2)
/-- the neighbours behind a reading -/
def rFb (R : (Int32 × TT) × PP) (be : Nat → Int32) : Nat → Int32 := if R.1.1 = 0 then be else fil (gB R.2.1.1 R.2.1.2.1) be (R.2.1.1 * R.2.1.2.1 * 4)
set_option maxRecDepth 100000 in
set_option maxHeartbeats 16000000 in
theorem sp_X2_readFrom (l : Launch) (G : GT) (B1 : Nat → Nat → Int32) (ro co ce bc fr : Int32) (he gu be nm nl bh fp n0 n1 n2 n3 : Nat → Int32) (B0 : Nat → Nat → Int32) (n : Nat) (bs : Nat → Int32) (p : Nat) (ki st va ec eo : Int32) (M : Mem) (hA0 : M 0 = vP B1 ro co ce bc fr he gu be nm nl bh fp n0 n1 n2 n3) (hA1 : M 1 = vTx B0 n bs ((p, ki, st, va, ec, eo) : TT)) (hn : n ≤ 600) (hby : ∀ i, i < n → fits .byte (.int (bs i)) = true) : MC l G yX2_readFrom cX2_readFrom 3 (some .boolean) ({ frames := 6, cells := 0, slots := 0, locals := 128 } : Room) [2, 3] lk0 [rv 0 0, rv 1 0] (M) (fun r9 M2 => r9 = some (iv (rFr bs n ((p, ki, st, va, ec, eo) : TT) ((0, nl, fp, bh, rw4 n0 n1 n2 n3) : BB) he).1.1) ∧ M2 = setm (setm M 0 (vPx B1 (rFb (rFr bs n ((p, ki, st, va, ec, eo) : TT) ((0, nl, fp, bh, rw4 n0 n1 n2 n3) : BB) he) be) nm (rFr bs n ((p, ki, st, va, ec, eo) : TT) ((0, nl, fp, bh, rw4 n0 n1 n2 n3) : BB) he).2)) 1 (vTx B0 n bs (rFr bs n ((p, ki, st, va, ec, eo) : TT) ((0, nl, fp, bh, rw4 n0 n1 n2 n3) : BB) he).1.2)) := by
  obtain ⟨M0, rfl⟩ : ∃ M0, M = m2 (vP B1 ro co ce bc fr he gu be nm nl bh fp n0 n1 n2 n3) (vTx B0 n bs ((p, ki, st, va, ec, eo) : TT)) M0 := ⟨M, (m2_of hA0 hA1).symm⟩
  clear hA0 hA1
  refine MC.of RX2 [some (rv 0 0), some (rv 1 0), none] 1 (by decide +kernel) rfl rfl rfl ?_
  intro pp ee ss mm aa bb me cd ad E
  refine r_aload_n E (dat dkX2_readFrom 0 rfl) rfl rfl ?_
  refine r_callV (κ := 2) (μ := [0]) E (sp_X2_empty l G B1 ro co ce bc fr he gu be nm nl bh fp n0 n1 n2 n3 _ rfl) my_X2_empty iv_X2_empty ml_X2_55 (cm_of rfl) ⟨by decide, rfl, rfl⟩ rfl rfl rfl rfl (by decide) (Nat.le_of_ble_eq_true rfl) (dat dkX2_readFrom 1 rfl) ?_
  rintro _ _ ⟨rfl, rfl⟩
  refine ⟨_, Mrg_e (by decide) (by decide) pm2_0 rfl, ?_⟩
  refine r_aload_n E (dat dkX2_readFrom 2 rfl) rfl rfl ?_
  refine r_callV (κ := 3) (μ := [1]) E (sp_X6_rewind l G B0 n (nI p) ki st va ec eo bs _ rfl) my_X6_rewind iv_X6_rewind ml_X2_58 (cm_of rfl) ⟨by decide, rfl, rfl⟩ rfl rfl rfl rfl (by decide) (Nat.le_of_ble_eq_true rfl) (dat dkX2_readFrom 3 rfl) ?_
  rintro _ _ ⟨rfl, rfl⟩
  refine ⟨_, Mrg_e (by decide) (by decide) pm2_1 rfl, ?_⟩
  refine r_aload_n E (dat dkX2_readFrom 4 rfl) rfl rfl ?_
  refine r_callV (κ := 3) (μ := [1]) E (sp_X6_next l G B0 n ki st va 0 (-1) bs 0 _ rfl (Nat.zero_le n) hn) my_X6_next iv_X6_next ml_X2_63 (cm_of rfl) ⟨by decide, rfl, rfl⟩ rfl rfl rfl rfl (by decide) (Nat.le_of_ble_eq_true rfl) (dat dkX2_readFrom 5 rfl) ?_
  rintro _ _ ⟨rfl, rfl⟩
  refine ⟨_, Mrg_e (by decide) (by decide) pm2_1 rfl, ?_⟩
  refine r_iconst (v := 0) E (dat dkX2_readFrom 6 rfl) rfl ?_
  refine r_istore_2 E (dat dkX2_readFrom 7 rfl) rfl rfl ?_
  refine r_while (β := Nat × TT × PP) (fun x => 600 - x.1) (fun x => x.1 ≤ 600 ∧ x.2.1.1 ≤ n ∧ PIv x.2.2 ∧ rSs bs n (600 - x.1) x.2.1 x.2.2 = (rFy bs n ((p, ki, st, va, ec, eo) : TT) ((0, nl, fp, bh, rw4 n0 n1 n2 n3) : BB) he) ∧ ∃ s, s ≤ x.2.1.1 ∧ x.2.1.2.2.1 = nI s) (fun x => m2 (vPx B1 be nm x.2.2) (vTx B0 n bs x.2.1) M0) (fun x => [some (rv 0 0), some (rv 1 0), some (iv (nI x.1))]) ((0, tNx bs n ((0, ki, st, va, 0, -1) : TT), (((0, 0, 0), he, (fun _ => 0), 0, (0, nl, fp, bh, rw4 n0 n1 n2 n3)) : PP))) ⟨Nat.zero_le _, (tP_le (Nat.zero_le n)).2, PIv_0 (bb := ((0, nl, fp, bh, rw4 n0 n1 n2 n3) : BB)), rfl, _, (tP_le (b := bs) (Nat.zero_le n)).1, rfl⟩ rfl rfl ?_
  intro y hI kk0
  obtain ⟨k9, ⟨p9, ki9, st9, va9, ec9, eo9⟩, ⟨⟨u9, v9, z9⟩, he9, gu9, fr9, b9, nl9, fp9, bh9, r9⟩⟩ := y
  obtain ⟨hv1, hv2, hv3, hv4, s9, hs1, hs2⟩ := hI
  dsimp only at hv1 hv2 hv4 hs1 hs2 ⊢
  subst hs2
  refine r_iload_n E (dat dkX2_readFrom 8 rfl) rfl rfl ?_
  refine r_sipush (v := 600) E (dat dkX2_readFrom 9 rfl) rfl ?_
  refine q_icmp_ge (tgt := 48) E (dat dkX2_readFrom 10 rfl) rfl rfl (b := 600) rfl (by omega) (by omega) (fun h18 => ?_) (fun h18 => ?_)
  ·
    have hy : (rFy bs n ((p, ki, st, va, ec, eo) : TT) ((0, nl, fp, bh, rw4 n0 n1 n2 n3) : BB) he) = ((1, ((p9, ki9, nI s9, va9, ec9, eo9) : TT)), (((u9, v9, z9), he9, gu9, fr9, b9, nl9, fp9, bh9, r9) : PP)) := by
      refine hv4.symm.trans ?_
      first
        | exact rSs_end h25
        | exact rSs_out h18
    have hv31 : u9 ≤ 8 := hv3.1
    refine r_aload_n E (dat dkX2_readFrom 24 rfl) rfl rfl ?_
    refine q_getn E fl_X2_35 (dat dkX2_readFrom 25 rfl) rfl rfl rfl (go2_0 gfP_7) ?_
    refine r_iconst (v := 2) E (dat dkX2_readFrom 26 rfl) rfl ?_
    refine q_icmp_ge (tgt := 62) E (dat dkX2_readFrom 27 rfl) rfl (a := u9) rfl (b := 2) rfl (by omega) (by omega) (fun h53 => ?_) (fun h53 => ?_)
    ·
      refine r_aload_n E (dat dkX2_readFrom 32 rfl) rfl rfl ?_
      refine r_callV (κ := 2) (μ := [0]) E (sp_X2_findBeside l G B1 u9 v9 (nI z9) (nI b9) fr9 he9 gu9 be nm nl9 bh9 fp9 (r9 0) (r9 1) (r9 2) (r9 3) _ rfl (by have h1 := (PIv_z hv3).1; have h2 := hv3.2.2.1; dsimp only at h1 h2; omega) hv3.1 hv3.2.1) my_X2_findBeside iv_X2_findBeside ml_X2_76 (cm_of rfl) ⟨by decide, rfl, rfl⟩ rfl rfl rfl rfl (by decide) (Nat.le_of_ble_eq_true rfl) (dat dkX2_readFrom 33 rfl) ?_
      rintro _ _ ⟨rfl, rfl⟩
      refine ⟨_, Mrg_e (by decide) (by decide) pm2_0 rfl, ?_⟩
      refine r_iconst (v := 1) E (dat dkX2_readFrom 34 rfl) rfl ?_
      refine r_zreturn E (dat dkX2_readFrom 35 rfl) rfl (by decide) (by decide) ?_
      rw [pm2_01, rFr_2 (by rw [hy]; exact (by decide : ¬ (1 : Int32) = 0)) (by rw [hy]; show ¬ u9 < 2; omega), hy]
      exact ⟨rfl, rfl⟩
    ·
      refine r_aload_n E (dat dkX2_readFrom 28 rfl) rfl rfl ?_
      refine r_iconst (v := 5) E (dat dkX2_readFrom 29 rfl) rfl ?_
      refine r_callV (κ := 3) (μ := [1]) E (sp_X6_fail l G B0 n (nI p9) ki9 (nI s9) va9 ec9 eo9 bs 5 _ rfl) my_X6_fail iv_X6_fail ml_X2_73 (cm_of rfl) ⟨by decide, rfl, rfl⟩ rfl rfl rfl rfl (by decide) (Nat.le_of_ble_eq_true rfl) (dat dkX2_readFrom 30 rfl) ?_
      rintro _ _ ⟨rfl, rfl⟩
      refine ⟨_, Mrg_e (by decide) (by decide) pm2_1 rfl, ?_⟩
      refine r_zreturn E (dat dkX2_readFrom 31 rfl) rfl (by decide) (by decide) ?_
      rw [pm2_01, rFr_1 (by rw [hy]; exact (by decide : ¬ (1 : Int32) = 0)) (by rw [hy]; exact h53), hy]
      exact ⟨rfl, rfl⟩
  ·
    refine r_aload_n E (dat dkX2_readFrom 11 rfl) rfl rfl ?_
    refine q_getn E fl_X2_66 (dat dkX2_readFrom 12 rfl) rfl rfl rfl (go2_1 gfT_3) ?_
    refine r_if_eq (tgt := 48) E (dat dkX2_readFrom 13 rfl) rfl (fun h25 => ?_) (fun h25 => ?_)
    ·
      have hy : (rFy bs n ((p, ki, st, va, ec, eo) : TT) ((0, nl, fp, bh, rw4 n0 n1 n2 n3) : BB) he) = ((1, ((p9, ki9, nI s9, va9, ec9, eo9) : TT)), (((u9, v9, z9), he9, gu9, fr9, b9, nl9, fp9, bh9, r9) : PP)) := by
        refine hv4.symm.trans ?_
        first
          | exact rSs_end h25
          | exact rSs_out h18
      have hv31 : u9 ≤ 8 := hv3.1
      refine r_aload_n E (dat dkX2_readFrom 24 rfl) rfl rfl ?_
      refine q_getn E fl_X2_35 (dat dkX2_readFrom 25 rfl) rfl rfl rfl (go2_0 gfP_7) ?_
      refine r_iconst (v := 2) E (dat dkX2_readFrom 26 rfl) rfl ?_
      refine q_icmp_ge (tgt := 62) E (dat dkX2_readFrom 27 rfl) rfl (a := u9) rfl (b := 2) rfl (by omega) (by omega) (fun h53 => ?_) (fun h53 => ?_)
      ·
        refine r_aload_n E (dat dkX2_readFrom 32 rfl) rfl rfl ?_
        refine r_callV (κ := 2) (μ := [0]) E (sp_X2_findBeside l G B1 u9 v9 (nI z9) (nI b9) fr9 he9 gu9 be nm nl9 bh9 fp9 (r9 0) (r9 1) (r9 2) (r9 3) _ rfl (by have h1 := (PIv_z hv3).1; have h2 := hv3.2.2.1; dsimp only at h1 h2; omega) hv3.1 hv3.2.1) my_X2_findBeside iv_X2_findBeside ml_X2_76 (cm_of rfl) ⟨by decide, rfl, rfl⟩ rfl rfl rfl rfl (by decide) (Nat.le_of_ble_eq_true rfl) (dat dkX2_readFrom 33 rfl) ?_
        rintro _ _ ⟨rfl, rfl⟩
        refine ⟨_, Mrg_e (by decide) (by decide) pm2_0 rfl, ?_⟩
        refine r_iconst (v := 1) E (dat dkX2_readFrom 34 rfl) rfl ?_
        refine r_zreturn E (dat dkX2_readFrom 35 rfl) rfl (by decide) (by decide) ?_
        rw [pm2_01, rFr_2 (by rw [hy]; exact (by decide : ¬ (1 : Int32) = 0)) (by rw [hy]; show ¬ u9 < 2; omega), hy]
        exact ⟨rfl, rfl⟩
      ·
        refine r_aload_n E (dat dkX2_readFrom 28 rfl) rfl rfl ?_
        refine r_iconst (v := 5) E (dat dkX2_readFrom 29 rfl) rfl ?_
        refine r_callV (κ := 3) (μ := [1]) E (sp_X6_fail l G B0 n (nI p9) ki9 (nI s9) va9 ec9 eo9 bs 5 _ rfl) my_X6_fail iv_X6_fail ml_X2_73 (cm_of rfl) ⟨by decide, rfl, rfl⟩ rfl rfl rfl rfl (by decide) (Nat.le_of_ble_eq_true rfl) (dat dkX2_readFrom 30 rfl) ?_
        rintro _ _ ⟨rfl, rfl⟩
        refine ⟨_, Mrg_e (by decide) (by decide) pm2_1 rfl, ?_⟩
        refine r_zreturn E (dat dkX2_readFrom 31 rfl) rfl (by decide) (by decide) ?_
        rw [pm2_01, rFr_1 (by rw [hy]; exact (by decide : ¬ (1 : Int32) = 0)) (by rw [hy]; exact h53), hy]
        exact ⟨rfl, rfl⟩
    ·
      refine r_aload_n E (dat dkX2_readFrom 14 rfl) rfl rfl ?_
      refine r_aload_n E (dat dkX2_readFrom 15 rfl) rfl rfl ?_
      refine r_callV (κ := 2) (μ := [0, 1]) E (sp_X2_readStatement l G B1 be nm u9 v9 z9 he9 gu9 fr9 b9 nl9 fp9 bh9 r9 B0 n bs p9 s9 ki9 va9 ec9 eo9 _ rfl rfl hv3 hs1 hv2 hn hby) my_X2_readStatement iv_X2_readStatement ml_X2_69 (cm_of rfl) ⟨by decide, rfl, rfl⟩ rfl rfl rfl rfl (by decide) (Nat.le_of_ble_eq_true rfl) (dat dkX2_readFrom 16 rfl) ?_
      rintro _ _ ⟨rfl, rfl⟩
      refine ⟨_, Mrg_ee (i := 0) (j := 1) (by decide) (by decide) (by decide) pm2_01 rfl, ?_⟩
      refine r_if_ne (tgt := 38) E (dat dkX2_readFrom 17 rfl) rfl (fun h33 => ?_) (fun h33 => ?_)
      ·
        have hok := rSt_ok hv3 hv2 h33
        refine r_aload_n E (dat dkX2_readFrom 20 rfl) rfl rfl ?_
        refine r_callV (κ := 3) (μ := [1]) E (sp_X6_next l G B0 n (rSt bs n ((p9, ki9, nI s9, va9, ec9, eo9) : TT) (((u9, v9, z9), he9, gu9, fr9, b9, nl9, fp9, bh9, r9) : PP)).1.2.2.1 (rSt bs n ((p9, ki9, nI s9, va9, ec9, eo9) : TT) (((u9, v9, z9), he9, gu9, fr9, b9, nl9, fp9, bh9, r9) : PP)).1.2.2.2.1 (rSt bs n ((p9, ki9, nI s9, va9, ec9, eo9) : TT) (((u9, v9, z9), he9, gu9, fr9, b9, nl9, fp9, bh9, r9) : PP)).1.2.2.2.2.1 (rSt bs n ((p9, ki9, nI s9, va9, ec9, eo9) : TT) (((u9, v9, z9), he9, gu9, fr9, b9, nl9, fp9, bh9, r9) : PP)).1.2.2.2.2.2.1 (rSt bs n ((p9, ki9, nI s9, va9, ec9, eo9) : TT) (((u9, v9, z9), he9, gu9, fr9, b9, nl9, fp9, bh9, r9) : PP)).1.2.2.2.2.2.2 bs (rSt bs n ((p9, ki9, nI s9, va9, ec9, eo9) : TT) (((u9, v9, z9), he9, gu9, fr9, b9, nl9, fp9, bh9, r9) : PP)).1.2.1 _ rfl hok.2.2 hn) my_X6_next iv_X6_next ml_X2_63 (cm_of rfl) ⟨by decide, rfl, rfl⟩ rfl rfl rfl rfl (by decide) (Nat.le_of_ble_eq_true rfl) (dat dkX2_readFrom 21 rfl) ?_
        rintro _ _ ⟨rfl, rfl⟩
        refine ⟨_, Mrg_e (by decide) (by decide) pm2_1 rfl, ?_⟩
        refine q_iinc_2 E (dat dkX2_readFrom 22 rfl) rfl rfl ?_
        refine r_goto (tgt := 14) E (dat dkX2_readFrom 23 rfl) rfl ?_
        exact kk0 (k9 + 1, tNx bs n (rSt bs n ((p9, ki9, nI s9, va9, ec9, eo9) : TT) (((u9, v9, z9), he9, gu9, fr9, b9, nl9, fp9, bh9, r9) : PP)).1.2, (rSt bs n ((p9, ki9, nI s9, va9, ec9, eo9) : TT) (((u9, v9, z9), he9, gu9, fr9, b9, nl9, fp9, bh9, r9) : PP)).2) ⟨by show k9 + 1 ≤ 600; omega, (tP_le hok.2.2).2, hok.1, (rSs_go h18 h25 h33).trans hv4, _, (tP_le (b := bs) hok.2.2).1, rfl⟩ (by show 600 - (k9 + 1) < 600 - k9; omega)
      ·
        refine r_iconst (v := 0) E (dat dkX2_readFrom 18 rfl) rfl ?_
        refine r_zreturn E (dat dkX2_readFrom 19 rfl) rfl (by decide) (by decide) ?_
        rw [pm2_01]
        have h0 : (rSt bs n ((p9, ki9, nI s9, va9, ec9, eo9) : TT) (((u9, v9, z9), he9, gu9, fr9, b9, nl9, fp9, bh9, r9) : PP)).1.1 = 0 := by first | exact h33 | exact Decidable.not_not.mp h33
        have hy : (rFy bs n ((p, ki, st, va, ec, eo) : TT) ((0, nl, fp, bh, rw4 n0 n1 n2 n3) : BB) he) = (rSt bs n ((p9, ki9, nI s9, va9, ec9, eo9) : TT) (((u9, v9, z9), he9, gu9, fr9, b9, nl9, fp9, bh9, r9) : PP)) := hv4.symm.trans (rSs_no h18 h25 h0)
        rw [rFr_0 (by rw [hy]; exact h0), hy, show rFb (rSt bs n ((p9, ki9, nI s9, va9, ec9, eo9) : TT) (((u9, v9, z9), he9, gu9, fr9, b9, nl9, fp9, bh9, r9) : PP)) be = be from if_pos h0]
        exact ⟨by rw [h0], rfl⟩
