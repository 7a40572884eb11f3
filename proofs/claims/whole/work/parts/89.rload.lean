/-! the reference: a setup loaded -/
theorem Mrg_pk1 {M M9 : Mem} {A : Nat → Int32} {t : TT} (h : PK (vw [] M) M9 A t) : ∃ M2, Mrg 1 [] M M9 M2 ∧ kq M M2 ∧ M2 0 1 = A ∧ TI M2 t := ⟨setm M 0 (M9 0), Mrg_m0, h.1, h.2.1, h.2.2⟩
theorem GUz_st {b : Nat → Int32} {n : Nat} {t : TT} {x : PP} (hx : PIv x) (hg : GUz x) (ht : t.1 ≤ n) (h : ¬ (rSt b n t x).1.1 = 0) : GUz (rSt b n t x).2 := by
  have hz := PIv_z hx
  obtain ⟨⟨u, v, z⟩, he, gu, fr, k, nl, fp, bh, r⟩ := x
  have hzu : z = u * v := hx.2.2.1
  have hg2 : ∀ c, z ≤ c → gu c = 0 := hg
  dsimp only at hz
  by_cases w1 : tW b t wRow = 1
  · have e : rSt b n t ((u, v, z), he, gu, fr, k, nl, fp, bh, r) = _ := if_pos w1
    rw [e] at h ⊢
    have hlm : leO u v ≤ moO u v := by
      rcases hz.2.2.2.2 with ⟨_, a, c⟩ | ⟨_, a, c⟩ <;> omega
    obtain ⟨g1, g2, g3, g4, g5, g6, g7⟩ := rRw_ok ht hlm h
    intro c hc
    refine hg2 c (Nat.le_trans ?_ (show (rRw b n t u v z (leO u v) (moO u v) he).2.2.2.2 ≤ c from hc))
    rw [g5]
    rcases hz.2.2.2.2 with ⟨a0, a, c0⟩ | ⟨a0, a, c0⟩
    · rw [hzu, a0, Nat.zero_mul]; omega
    · have hv : (rRw b n t u v z (leO u v) (moO u v) he).2.2.2.1 = v := by omega
      rw [hv, Nat.succ_mul, hzu]; omega
  · by_cases w2 : tW b t wGutter = 1
    · have e : rSt b n t ((u, v, z), he, gu, fr, k, nl, fp, bh, r) = _ := (if_neg w1).trans (if_pos w2)
      rw [e]
      intro c hc
      have hc2 : z ≤ c := hc
      show (rGt b n t z gu).2 c = 0
      by_cases c1 : tnC b n t.1 t.2.2.2.1 0 (nI z - 1) = 0
      · obtain ⟨q, hq, hq2⟩ := nI_ex (z := z) (by omega) (tnC_in c1).1 (tnC_in c1).2
        rw [show rGt b n t z gu = rGt2 b n (tTk 0 b n t) (tV b n t.1 t.2.2.2.1).toNatClampNeg gu from if_pos c1, hq2, nI_clamp (by omega)]
        unfold rGt2
        split
        · show upd gu q _ c = 0
          rw [upd_ne (by omega)]
          exact hg2 c hc2
        · exact hg2 c hc2
      · rw [show rGt b n t z gu = ((0, tTk (tnC b n t.1 t.2.2.2.1 0 (nI z - 1)) b n t), gu) from if_neg c1]
        exact hg2 c hc2
    · by_cases w3 : tW b t wBoots = 1
      · rw [show rSt b n t ((u, v, z), he, gu, fr, k, nl, fp, bh, r) = _ from (if_neg w1).trans ((if_neg w2).trans (if_pos w3))]
        exact hg2
      · by_cases w4 : tW b t wRain = 1
        · rw [show rSt b n t ((u, v, z), he, gu, fr, k, nl, fp, bh, r) = _ from (if_neg w1).trans ((if_neg w2).trans ((if_neg w3).trans (if_pos w4)))]
          exact hg2
        · rw [show rSt b n t ((u, v, z), he, gu, fr, k, nl, fp, bh, r) = _ from (if_neg w1).trans ((if_neg w2).trans ((if_neg w3).trans (if_neg w4)))]
          exact hg2
theorem tK_pn {b : Nat → Int32} {n p : Nat} (h : ¬ tK b n p = 0) (hn : n ≤ 600) (hp : p ≤ n) : p < n := by
  apply Nat.not_le.mp
  intro q
  have := (tS_le (b := b) hp).1
  exact h (if_pos (show n ≤ tS b n p by omega))
/-- what a setup's loading keeps -/
def lsK (M M2 : Mem) : Prop := M2 0 3 = M 0 3 ∧ M2 0 4 = M 0 4 ∧ M2 0 10 = M 0 10 ∧ M2 0 25 = M 0 25 ∧ M2 0 0 25 = M 0 0 25 ∧ M2 0 0 6 = 0 ∧ M2 0 0 10 = 0
def lsBad (M M2 : Mem) (A : Nat → Int32) (R : (Int32 × TT) × PP) (r : Option AV) : Prop := R.1.1 = 0 ∧ r = some (iv (-1)) ∧ lsK M M2 ∧ (∀ q, q < 443 → M2 0 1 q = A q) ∧ M2 0 0 4 = M 0 0 4 ∧ M2 0 0 5 = M 0 0 5 ∧ M2 0 0 11 = R.1.2.2.2.2.2.1 ∧ M2 0 0 12 = R.1.2.2.2.2.2.2 ∧ 0 < R.1.2.2.2.2.2.1
def lsOk (M M2 : Mem) (R : (Int32 × TT) × PP) (r : Option AV) : Prop := ¬ R.1.1 = 0 ∧ r = some (iv (nI R.2.1.2.2)) ∧ lsK M M2 ∧ (∃ A0, M2 0 1 = pE A0 R.2) ∧ M2 0 0 4 = 0 ∧ M2 0 0 5 = 0 ∧ M2 0 0 11 = 0 ∧ M2 0 0 12 = -1 ∧ R.1.2.2.2.2.2.1 = 0 ∧ R.1.2.2.2.2.2.2 = -1 ∧ PIv R.2 ∧ 2 ≤ R.2.1.1
theorem u0_K {b : Nat → Int32} {n : Nat} {t u : TT} : rK b n (mAd b n (mB0 t)) (0, u.2.1, u.2.2.1, u.2.2.2.1, 0, -1) := by
  rw [mAd_0 (show (mB0 t).2.2.2.2.1 = 0 from rfl)]
  exact ⟨rfl, rfl, Nat.zero_le n, rfl, rfl, rfl, fun q => mV_2 q, rfl⟩
theorem TG_b0 {b : Nat → Int32} {n : Nat} {t : TT} : TG n (mAd b n (mB0 t)) := by
  rw [mAd_0 (show (mB0 t).2.2.2.2.1 = 0 from rfl)]
  exact ⟨(tP_le (Nat.zero_le n)).2, Or.inl rfl, _, (tP_le (Nat.zero_le n)).1, rfl⟩
set_option maxRecDepth 100000 in
set_option maxHeartbeats 8000000 in
theorem sp_X10_loadSetup (l : Launch) (G : GT) (bs : Nat → Int32) (n : Nat) (A S : Nat → Int32) (t0 u : TT) (bx : BB) (he : Nat → Int32) (M : Mem) (hB : M 0 10 = bs) (hn : M 0 0 10 = nI n) (hA : M 0 1 = A) (hS2 : M 0 2 = S) (hT : TI M t0) (hn6 : n ≤ 600) : MC l G yX10_loadSetup cX10_loadSetup 1 (some .int) ({ frames := 7, cells := 0, slots := 0, locals := 151 } : Room) [9] lk0 [rv 0 0] (M) (fun r M2 => lsBad M M2 A (rFr bs n u bx he) r ∨ lsOk M M2 (rFr bs n u bx he) r) := by
  refine MC.of RX10 [some (rv 0 0)] 0 (by decide +kernel) rfl rfl rfl ?_
  intro pp ee ss mm aa bb me cd ad E
  refine r_aload_n E (dat dkX10_loadSetup 0 rfl) rfl rfl ?_
  refine r_iconst (v := 0) E (dat dkX10_loadSetup 1 rfl) rfl ?_
  refine q_putn E ft_X10_67 (dat dkX10_loadSetup 2 rfl) rfl rfl rfl rfl ?_
  refine r_aload_n E (dat dkX10_loadSetup 3 rfl) rfl rfl ?_
  refine r_aload_n E (dat dkX10_loadSetup 4 rfl) rfl rfl ?_
  refine q_geta E fl_X10_13 (dat dkX10_loadSetup 5 rfl) rfl rfl rfl ?_
  refine r_callV (κ := 9) (μ := []) E (sp_X10_copyTo2 l G A S _ hA hS2) my_X10_copyTo iv_X10_copyTo ml_X10_236 cm_id ⟨by decide, rfl, rfl⟩ rfl rfl rfl rfl (by decide) (Nat.le_of_ble_eq_true rfl) (dat dkX10_loadSetup 6 rfl) ?_
  rintro _ _ ⟨rfl, rfl⟩
  refine ⟨_, Mrg_ar (by decide) rfl, ?_⟩
  refine r_aload_n E (dat dkX10_loadSetup 7 rfl) rfl rfl ?_
  refine r_callV (κ := 9) (μ := []) E (sp_X10_clear l G _ A hA) my_X10_clear iv_X10_clear ml_X10_240 cm_id ⟨by decide, rfl, rfl⟩ rfl rfl rfl rfl (by decide) (Nat.le_of_ble_eq_true rfl) (dat dkX10_loadSetup 8 rfl) ?_
  rintro _ _ ⟨rfl, rfl⟩
  refine ⟨_, Mrg_md2 (by decide) rfl, ?_⟩
  obtain ⟨Mb, hMb⟩ : ∃ Z, Z = (md (ar 2 (setm M 0 (sett (M 0) 0 (upd (M 0 0) 6 0))) (fil A S 443)) (fil (fun _ => 0) A 443)) := ⟨_, rfl⟩
  rw [← hMb]
  have hBb : Mb 0 10 = bs := by rw [hMb]; exact hB
  have hnb : Mb 0 0 10 = nI n := by rw [hMb]; exact hn
  have hTb : TI Mb t0 := by rw [hMb]; exact hT
  have hAb : Mb 0 1 = fil (fun _ => 0) A 443 := by rw [hMb]; rfl
  refine r_aload_n E (dat dkX10_loadSetup 9 rfl) rfl rfl ?_
  refine r_callV (κ := 9) (μ := []) E (sp_X10_beginText l G bs n t0 _ hBb hnb hTb hn6) my_X10_beginText iv_X10_beginText ml_X10_243 cm_id ⟨by decide, rfl, rfl⟩ rfl rfl rfl rfl (by decide) (Nat.le_of_ble_eq_true rfl) (dat dkX10_loadSetup 10 rfl) ?_
  rintro _ _ ⟨rfl, rfl⟩
  refine ⟨_, Mrg_tt (by decide) rfl, ?_⟩
  obtain ⟨t1, ht1⟩ : ∃ z, z = mAd bs n (mB0 t0) := ⟨_, rfl⟩
  rw [← ht1]
  obtain ⟨AZ, hAZe⟩ : ∃ Z, Z = fil (fun _ => 0) A 443 := ⟨_, rfl⟩
  have hAZ : CA0 AZ := fun q hq => by rw [hAZe]; exact if_pos hq
  clear hA hT hB hn
  obtain ⟨Ma, hMa⟩ : ∃ Z, Z = ttM Mb t1 := ⟨_, rfl⟩
  rw [← hMa]
  have hA : Ma 0 1 = AZ := by rw [hMa, hAZe]; exact hAb
  have hT : TI Ma t1 := by rw [hMa]; exact TI_tt
  have hG : TG n t1 := by rw [ht1]; exact TG_b0
  have hK1 : rK bs n t1 ((0, u.2.1, u.2.2.1, u.2.2.2.1, 0, -1) : TT) := by rw [ht1]; exact u0_K
  have hk : kq Mb Ma := by rw [hMa]; exact kq_r
  have hB : Ma 0 10 = bs := by rw [hMa]; exact hBb
  have hn : Ma 0 0 10 = nI n := by rw [hMa]; exact hnb
  refine r_while (β := Mem × TT × TT × PP × Nat) (fun y => if y.2.1.2.2.2.2.1 = 0 then n + 1 - y.2.1.1 else 0) (fun y => kq Mb y.1 ∧ TI y.1 y.2.1 ∧ TG n y.2.1 ∧ ((rK bs n y.2.1 y.2.2.1 ∧ PIv y.2.2.2.1 ∧ GUz y.2.2.2.1 ∧ y.1 0 1 = pE AZ y.2.2.2.1 ∧ y.2.2.2.2 ≤ y.2.2.1.1 ∧ rSs bs n (600 - y.2.2.2.2) (tNx bs n y.2.2.1) y.2.2.2.1 = (rFy bs n u bx he)) ∨ (rX y.2.1 (rFy bs n u bx he).1.2 ∧ (rFy bs n u bx he).1.1 = 0))) (fun y => y.1) (fun y => [some (rv 0 0)]) ((Ma, t1, ((0, u.2.1, u.2.2.1, u.2.2.2.1, 0, -1) : TT), (((0, 0, 0), he, (fun _ => 0), 0, (0, bx.2)) : PP), 0)) ⟨hk, hT, hG, Or.inl ⟨hK1, PIv_0 (bb := bx), (fun _ _ => rfl), hA.trans (pE_0 (bb := bx) hAZ).symm, Nat.zero_le _, rfl⟩⟩ rfl rfl ?_
  intro y hI kk0
  obtain ⟨Mc, tt, uu, xx, j⟩ := y
  obtain ⟨hk, hT, hG, hI⟩ := hI
  dsimp only at hk hT hG hI ⊢
  replace hB := (hk.2.2.2.1).trans hBb
  replace hn := (hk.2.2.2.2.2.2.2.2.1).trans hnb
  have htn := hG.1
  refine r_aload_n E (dat dkX10_loadSetup 11 rfl) rfl rfl ?_
  refine q_getn E fl_X10_165 (dat dkX10_loadSetup 12 rfl) rfl rfl rfl (show (_ : Int32) = _ from hT.2.2.2.2.1) ?_
  by_cases hf0 : tt.2.2.2.2.1 = 0
  ·
    refine r_if_ne (tgt := 42) E (dat dkX10_loadSetup 13 rfl) rfl (fun h25 => ?_) (fun h25 => ?_)
    ·
      exact absurd hf0 h25
    ·
      refine r_aload_n E (dat dkX10_loadSetup 14 rfl) rfl rfl ?_
      refine q_getn E fl_X10_174 (dat dkX10_loadSetup 15 rfl) rfl rfl rfl (show (_ : Int32) = _ from hT.2.2.1) ?_
      refine r_if_eq (tgt := 42) E (dat dkX10_loadSetup 16 rfl) rfl (fun h32 => ?_) (fun h32 => ?_)
      ·
        have htk : tt.2.1 = 0 := by first | exact h32 | exact Decidable.not_not.mp h32
        obtain ⟨a1, hxx, a3, hA, a5, a6⟩ := hI.resolve_right (fun q => fz q.1.1 hf0)
        have hY : (rFy bs n u bx he) = ((1, tNx bs n uu), xx) := a6.symm.trans (rSs_end (a1.2.2.2.2.1.symm.trans htk))
        have hY1 : ¬ (rFy bs n u bx he).1.1 = 0 := by rw [hY]; exact (by decide : ¬ (1 : Int32) = 0)
        have hA2 : pE AZ xx 2 = nI xx.1.1 := rfl
        have hx81 := hxx.1
        refine r_aload_n E (dat dkX10_loadSetup 20 rfl) rfl rfl ?_
        refine r_aload_n E (dat dkX10_loadSetup 21 rfl) rfl rfl ?_
        refine q_geta E fl_X10_9 (dat dkX10_loadSetup 22 rfl) rfl rfl rfl ?_
        refine r_iconst (v := 2) E (dat dkX10_loadSetup 23 rfl) rfl ?_
        refine q_iald E (dat dkX10_loadSetup 24 rfl) rfl rfl (by decide) (show (_ : Nat → Int32) = _ from hA) (show _ = nI 2 from rfl) (by omega) ?_
        rw [hA2]
        refine r_iconst (v := 2) E (dat dkX10_loadSetup 25 rfl) rfl ?_
        refine q_icmp_lt (tgt := 57) E (dat dkX10_loadSetup 26 rfl) rfl rfl (b := 2) rfl (by omega) (by omega) (fun h50 => ?_) (fun h50 => ?_)
        ·
          refine r_iconst (v := 0) E (dat dkX10_loadSetup 29 rfl) rfl ?_
          refine r_iconst (v := 5) E (dat dkX10_loadSetup 30 rfl) rfl ?_
          refine r_callV (κ := 9) (μ := []) E (px_ex l G bs n _ _ (0) (5) _ hB hn hA hT hG hn6) my_X10_expect iv_X10_expect ml_X10_194 cm_id ⟨by decide, rfl, rfl⟩ rfl rfl rfl rfl (by decide) (Nat.le_of_ble_eq_true rfl) (dat dkX10_loadSetup 31 rfl) ?_
          rintro _ M9 ⟨rfl, hp9, hs9⟩
          obtain ⟨Ma, hMr, hk9, hA, hT, hS9⟩ := Mrg_pk hp9 hs9
          replace hB := (hk9.2.2.2.1).trans hB
          replace hn := (hk9.2.2.2.2.2.2.2.2.1).trans hn
          replace hk := kq_t hk hk9
          replace hG := TG_ex (a := 0) (k := 5) (by decide) hG
          obtain ⟨t9, ht9⟩ : ∃ z, z = mEx 0 5 tt := ⟨_, rfl⟩
          rw [← ht9] at hT hG
          refine ⟨_, hMr, ?_⟩
          clear hp9 hs9 hMr hk9 hS9
          refine r_aload_n E (dat dkX10_loadSetup 32 rfl) rfl rfl ?_
          refine r_callV (κ := 9) (μ := []) E (sp_X10_endText l G _) my_X10_endText iv_X10_endText ml_X10_249 cm_id ⟨by decide, rfl, rfl⟩ rfl rfl rfl rfl (by decide) (Nat.le_of_ble_eq_true rfl) (dat dkX10_loadSetup 33 rfl) ?_
          rintro _ M9 ⟨rfl, rfl⟩
          refine ⟨_, Mrg_m0, ?_⟩
          refine r_aload_n E (dat dkX10_loadSetup 34 rfl) rfl rfl ?_
          refine q_getn E fl_X10_165 (dat dkX10_loadSetup 35 rfl) rfl rfl rfl (show (_ : Int32) = _ from hT.2.2.2.2.1) ?_
          refine r_if_le (tgt := 83) E (dat dkX10_loadSetup 36 rfl) rfl (fun h70 => ?_) (fun h70 => ?_)
          ·
            refine r_aload_n E (dat dkX10_loadSetup 43 rfl) rfl rfl ?_
            refine r_iconst (v := 0) E (dat dkX10_loadSetup 44 rfl) rfl ?_
            refine q_putn E ft_X10_70 (dat dkX10_loadSetup 45 rfl) rfl rfl rfl rfl ?_
            refine r_aload_n E (dat dkX10_loadSetup 46 rfl) rfl rfl ?_
            refine r_iconst (v := 0) E (dat dkX10_loadSetup 47 rfl) rfl ?_
            refine q_putz E ft_X10_255 (dat dkX10_loadSetup 48 rfl) rfl rfl rfl rfl rfl rfl ?_
            refine r_aload_n E (dat dkX10_loadSetup 49 rfl) rfl rfl ?_
            refine r_callV (κ := 9) (μ := []) E (sp_X10_cells l G _ (pE AZ xx) hA) my_X10_cells iv_X10_cells ml_X10_115 cm_id ⟨by decide, rfl, rfl⟩ rfl rfl rfl rfl (by decide) (Nat.le_of_ble_eq_true rfl) (dat dkX10_loadSetup 50 rfl) ?_
            rintro _ _ ⟨rfl, rfl⟩
            refine ⟨_, Mrg_z rfl, ?_⟩
            rw [show pE AZ xx 2 * pE AZ xx 1 = nI xx.1.2.2 from ce_x hxx]
            refine r_ireturn E (dat dkX10_loadSetup 51 rfl) (by decide) (by decide) ?_
            have q9 := hk
            obtain ⟨z1, z2, z3, z4, z5, z6, z7, z8, z9, z10, z11, z12⟩ := q9
            rw [hMb] at z1 z2 z3 z4 z5 z6 z7 z8 z9 z10 z11 z12
            have hz9 : t9.2.2.2.2.1 = 0 := by
              rcases hG.2.1 with q | q
              · exact q
              · exact absurd q (by first | exact Int32.not_lt.mpr h70 | exact h70)
            first
              | exact absurd rfl (mEx_z (a := 0) (k := 5) (t := tt) (by decide) (by rw [← ht9]; exact hz9)).2.2
              | (
               have hxr : ¬ (rFr bs n u bx he).1.1 = 0 ∧ (rFr bs n u bx he).2 = xx ∧ (rFr bs n u bx he).1.2 = tNx bs n uu ∧ 2 ≤ xx.1.1 := by
                 have e := rFr_2 hY1 (by rw [hY]; show ¬ xx.1.1 < 2; omega)
                 rw [e, hY]
                 exact ⟨(by decide : ¬ (1 : Int32) = 0), rfl, rfl, by omega⟩
               right
               have e17 : Ma 0 0 17 = 0 := hT.2.2.2.2.1.trans hz9
               refine ⟨hxr.1, by rw [hxr.2.1], ⟨z2, z3, z4, z5, z12, z8, rfl⟩, ⟨AZ, by rw [hxr.2.1]; exact hA⟩, rfl, rfl, e17, ?_, by rw [hxr.2.2.1]; exact a1.2.1, by rw [hxr.2.2.1]; exact a1.2.2.2.2.2.2.2, by rw [hxr.2.1]; exact hxx, by rw [hxr.2.1]; exact hxr.2.2.2⟩
               show (if Ma 0 0 17 = 0 then (-1 : Int32) else Ma 0 0 18) = -1
               rw [if_pos e17])
          ·
            refine r_aload_n E (dat dkX10_loadSetup 37 rfl) rfl rfl ?_
            refine r_aload_n E (dat dkX10_loadSetup 38 rfl) rfl rfl ?_
            refine q_geta E fl_X10_13 (dat dkX10_loadSetup 39 rfl) rfl rfl rfl ?_
            refine r_callV (κ := 9) (μ := []) E (sp_X10_copyFrom2 l G _ (fil A S 443) _ (show Ma 0 1 = _ from hA) (show Ma 0 2 = _ from (hk.1.trans (by rw [hMb]; rfl)))) my_X10_copyFrom iv_X10_copyFrom ml_X10_252 cm_id ⟨by decide, rfl, rfl⟩ rfl rfl rfl rfl (by decide) (Nat.le_of_ble_eq_true rfl) (dat dkX10_loadSetup 40 rfl) ?_
            rintro _ _ ⟨rfl, rfl⟩
            refine ⟨_, Mrg_md2 (by decide) rfl, ?_⟩
            refine r_iconst (v := -1) E (dat dkX10_loadSetup 41 rfl) rfl ?_
            refine r_ireturn E (dat dkX10_loadSetup 42 rfl) (by decide) (by decide) ?_
            have q9 := hk
            obtain ⟨z1, z2, z3, z4, z5, z6, z7, z8, z9, z10, z11, z12⟩ := q9
            rw [hMb] at z1 z2 z3 z4 z5 z6 z7 z8 z9 z10 z11 z12
            have hf9 : 0 < t9.2.2.2.2.1 := by first | exact h70 | exact Int32.not_le.mp h70
            first
              | exact absurd hf0 (fz (by rw [ht9, mEx_n (a := 1) (by decide)] at hf9; exact hf9))
              | (
               have hx9 : rX t9 (rFr bs n u bx he).1.2 ∧ (rFr bs n u bx he).1.1 = 0 := by
                 have e5 : (rFr bs n u bx he) = ((0, tFl 5 (tNx bs n uu)), xx) := by
                   have e := rFr_1 hY1 (by rw [hY]; show xx.1.1 < 2; omega)
                   rw [e, hY]
                 rw [e5, ht9]
                 exact ⟨rC_x (rK_C a1) (by decide), rfl⟩
               left
               refine ⟨hx9.2, rfl, ⟨z2, z3, z4, z5, z12, z8, rfl⟩, ?_, z6, z7, ?_, ?_, by rw [← hx9.1.2.1]; exact hx9.1.1⟩
               · intro q hq
                 show fil (fil A S 443) _ 443 q = A q
                 rw [show fil (fil A S 443) _ 443 q = fil A S 443 q from if_pos hq]
                 exact if_pos hq
               · exact (show Ma 0 0 17 = _ from hT.2.2.2.2.1).trans hx9.1.2.1
               · show (if Ma 0 0 17 = 0 then (-1 : Int32) else Ma 0 0 18) = _
                 rw [if_neg (by rw [hT.2.2.2.2.1]; exact fz hf9), hT.2.2.2.2.2]
                 exact hx9.1.2.2)
        ·
          refine r_iconst (v := 1) E (dat dkX10_loadSetup 27 rfl) rfl ?_
          refine r_goto (tgt := 58) E (dat dkX10_loadSetup 28 rfl) rfl ?_
          refine r_iconst (v := 5) E (dat dkX10_loadSetup 30 rfl) rfl ?_
          refine r_callV (κ := 9) (μ := []) E (px_ex l G bs n _ _ (1) (5) _ hB hn hA hT hG hn6) my_X10_expect iv_X10_expect ml_X10_194 cm_id ⟨by decide, rfl, rfl⟩ rfl rfl rfl rfl (by decide) (Nat.le_of_ble_eq_true rfl) (dat dkX10_loadSetup 31 rfl) ?_
          rintro _ M9 ⟨rfl, hp9, hs9⟩
          obtain ⟨Ma, hMr, hk9, hA, hT, hS9⟩ := Mrg_pk hp9 hs9
          replace hB := (hk9.2.2.2.1).trans hB
          replace hn := (hk9.2.2.2.2.2.2.2.2.1).trans hn
          replace hk := kq_t hk hk9
          replace hG := TG_ex (a := 1) (k := 5) (by decide) hG
          obtain ⟨t9, ht9⟩ : ∃ z, z = mEx 1 5 tt := ⟨_, rfl⟩
          rw [← ht9] at hT hG
          refine ⟨_, hMr, ?_⟩
          clear hp9 hs9 hMr hk9 hS9
          refine r_aload_n E (dat dkX10_loadSetup 32 rfl) rfl rfl ?_
          refine r_callV (κ := 9) (μ := []) E (sp_X10_endText l G _) my_X10_endText iv_X10_endText ml_X10_249 cm_id ⟨by decide, rfl, rfl⟩ rfl rfl rfl rfl (by decide) (Nat.le_of_ble_eq_true rfl) (dat dkX10_loadSetup 33 rfl) ?_
          rintro _ M9 ⟨rfl, rfl⟩
          refine ⟨_, Mrg_m0, ?_⟩
          refine r_aload_n E (dat dkX10_loadSetup 34 rfl) rfl rfl ?_
          refine q_getn E fl_X10_165 (dat dkX10_loadSetup 35 rfl) rfl rfl rfl (show (_ : Int32) = _ from hT.2.2.2.2.1) ?_
          refine r_if_le (tgt := 83) E (dat dkX10_loadSetup 36 rfl) rfl (fun h70 => ?_) (fun h70 => ?_)
          ·
            refine r_aload_n E (dat dkX10_loadSetup 43 rfl) rfl rfl ?_
            refine r_iconst (v := 0) E (dat dkX10_loadSetup 44 rfl) rfl ?_
            refine q_putn E ft_X10_70 (dat dkX10_loadSetup 45 rfl) rfl rfl rfl rfl ?_
            refine r_aload_n E (dat dkX10_loadSetup 46 rfl) rfl rfl ?_
            refine r_iconst (v := 0) E (dat dkX10_loadSetup 47 rfl) rfl ?_
            refine q_putz E ft_X10_255 (dat dkX10_loadSetup 48 rfl) rfl rfl rfl rfl rfl rfl ?_
            refine r_aload_n E (dat dkX10_loadSetup 49 rfl) rfl rfl ?_
            refine r_callV (κ := 9) (μ := []) E (sp_X10_cells l G _ (pE AZ xx) hA) my_X10_cells iv_X10_cells ml_X10_115 cm_id ⟨by decide, rfl, rfl⟩ rfl rfl rfl rfl (by decide) (Nat.le_of_ble_eq_true rfl) (dat dkX10_loadSetup 50 rfl) ?_
            rintro _ _ ⟨rfl, rfl⟩
            refine ⟨_, Mrg_z rfl, ?_⟩
            rw [show pE AZ xx 2 * pE AZ xx 1 = nI xx.1.2.2 from ce_x hxx]
            refine r_ireturn E (dat dkX10_loadSetup 51 rfl) (by decide) (by decide) ?_
            have q9 := hk
            obtain ⟨z1, z2, z3, z4, z5, z6, z7, z8, z9, z10, z11, z12⟩ := q9
            rw [hMb] at z1 z2 z3 z4 z5 z6 z7 z8 z9 z10 z11 z12
            have hz9 : t9.2.2.2.2.1 = 0 := by
              rcases hG.2.1 with q | q
              · exact q
              · exact absurd q (by first | exact Int32.not_lt.mpr h70 | exact h70)
            first
              | exact absurd rfl (mEx_z (a := 0) (k := 5) (t := tt) (by decide) (by rw [← ht9]; exact hz9)).2.2
              | (
               have hxr : ¬ (rFr bs n u bx he).1.1 = 0 ∧ (rFr bs n u bx he).2 = xx ∧ (rFr bs n u bx he).1.2 = tNx bs n uu ∧ 2 ≤ xx.1.1 := by
                 have e := rFr_2 hY1 (by rw [hY]; show ¬ xx.1.1 < 2; omega)
                 rw [e, hY]
                 exact ⟨(by decide : ¬ (1 : Int32) = 0), rfl, rfl, by omega⟩
               right
               have e17 : Ma 0 0 17 = 0 := hT.2.2.2.2.1.trans hz9
               refine ⟨hxr.1, by rw [hxr.2.1], ⟨z2, z3, z4, z5, z12, z8, rfl⟩, ⟨AZ, by rw [hxr.2.1]; exact hA⟩, rfl, rfl, e17, ?_, by rw [hxr.2.2.1]; exact a1.2.1, by rw [hxr.2.2.1]; exact a1.2.2.2.2.2.2.2, by rw [hxr.2.1]; exact hxx, by rw [hxr.2.1]; exact hxr.2.2.2⟩
               show (if Ma 0 0 17 = 0 then (-1 : Int32) else Ma 0 0 18) = -1
               rw [if_pos e17])
          ·
            refine r_aload_n E (dat dkX10_loadSetup 37 rfl) rfl rfl ?_
            refine r_aload_n E (dat dkX10_loadSetup 38 rfl) rfl rfl ?_
            refine q_geta E fl_X10_13 (dat dkX10_loadSetup 39 rfl) rfl rfl rfl ?_
            refine r_callV (κ := 9) (μ := []) E (sp_X10_copyFrom2 l G _ (fil A S 443) _ (show Ma 0 1 = _ from hA) (show Ma 0 2 = _ from (hk.1.trans (by rw [hMb]; rfl)))) my_X10_copyFrom iv_X10_copyFrom ml_X10_252 cm_id ⟨by decide, rfl, rfl⟩ rfl rfl rfl rfl (by decide) (Nat.le_of_ble_eq_true rfl) (dat dkX10_loadSetup 40 rfl) ?_
            rintro _ _ ⟨rfl, rfl⟩
            refine ⟨_, Mrg_md2 (by decide) rfl, ?_⟩
            refine r_iconst (v := -1) E (dat dkX10_loadSetup 41 rfl) rfl ?_
            refine r_ireturn E (dat dkX10_loadSetup 42 rfl) (by decide) (by decide) ?_
            have q9 := hk
            obtain ⟨z1, z2, z3, z4, z5, z6, z7, z8, z9, z10, z11, z12⟩ := q9
            rw [hMb] at z1 z2 z3 z4 z5 z6 z7 z8 z9 z10 z11 z12
            have hf9 : 0 < t9.2.2.2.2.1 := by first | exact h70 | exact Int32.not_le.mp h70
            first
              | exact absurd hf0 (fz (by rw [ht9, mEx_n (a := 1) (by decide)] at hf9; exact hf9))
              | (
               have hx9 : rX t9 (rFr bs n u bx he).1.2 ∧ (rFr bs n u bx he).1.1 = 0 := by
                 have e5 : (rFr bs n u bx he) = ((0, tFl 5 (tNx bs n uu)), xx) := by
                   have e := rFr_1 hY1 (by rw [hY]; show xx.1.1 < 2; omega)
                   rw [e, hY]
                 rw [e5, ht9]
                 exact ⟨rC_x (rK_C a1) (by decide), rfl⟩
               left
               refine ⟨hx9.2, rfl, ⟨z2, z3, z4, z5, z12, z8, rfl⟩, ?_, z6, z7, ?_, ?_, by rw [← hx9.1.2.1]; exact hx9.1.1⟩
               · intro q hq
                 show fil (fil A S 443) _ 443 q = A q
                 rw [show fil (fil A S 443) _ 443 q = fil A S 443 q from if_pos hq]
                 exact if_pos hq
               · exact (show Ma 0 0 17 = _ from hT.2.2.2.2.1).trans hx9.1.2.1
               · show (if Ma 0 0 17 = 0 then (-1 : Int32) else Ma 0 0 18) = _
                 rw [if_neg (by rw [hT.2.2.2.2.1]; exact fz hf9), hT.2.2.2.2.2]
                 exact hx9.1.2.2)
      ·
        refine r_aload_n E (dat dkX10_loadSetup 17 rfl) rfl rfl ?_
        obtain ⟨a1, hxx, a3, hA, a5, a6⟩ := hI.resolve_right (fun q => fz q.1.1 hf0)
        have htok : ¬ (tNx bs n uu).2.1 = 0 := fun q => h32 (a1.2.2.2.2.1.trans q)
        have hj6 : j < 600 := by have := tK_pn htok hn6 a1.2.2.1; omega
        refine r_callV (κ := 9) (μ := []) E (sp_X10_parsePart l G bs n _ _ (tNx bs n uu) AZ xx _ hB hn hA hT hG hn6 rfl hxx a3 hAZ (rK_C a1)) my_X10_parsePart iv_X10_parsePart ml_X10_246 cm_id ⟨by decide, rfl, rfl⟩ rfl rfl rfl rfl (by decide) (Nat.le_of_ble_eq_true rfl) (dat dkX10_loadSetup 18 rfl) ?_
        rintro _ M9 ⟨rfl, t4, A2, hp9, hG4, hres⟩
        obtain ⟨Ma, hMr, hk9, hA, hT⟩ := Mrg_pk1 hp9
        replace hk := kq_t hk hk9
        
        refine ⟨_, hMr, ?_⟩
        clear hp9 hMr hk9
        refine r_goto (tgt := 21) E (dat dkX10_loadSetup 19 rfl) rfl ?_
        have hpos : tt.1 < n + 1 := by omega
        refine kk0 (Ma, t4, (rSt bs n (tNx bs n uu) xx).1.2, (rSt bs n (tNx bs n uu) xx).2, j + 1) ⟨hk, hT, hG4, ?_⟩ ?_
        · rcases hres with ⟨r1, r2, r3⟩ | ⟨r1, r2⟩
          · have hok := rSt_ok hxx (tP_le a1.2.2.1).2 r1
            have hj1 := (tP_le (b := bs) a1.2.2.1).1
            have hj2 := (tS_le (b := bs) a1.2.2.1).1
            exact Or.inl ⟨r2, hok.1, GUz_st hxx a3 (tP_le a1.2.2.1).2 r1, hA.trans r3, (by have h1 : tP bs n uu.1 < (rSt bs n (tNx bs n uu) xx).1.2.1 := hok.2.1; show j + 1 ≤ (rSt bs n (tNx bs n uu) xx).1.2.1; omega), (rSs_go hj6 htok r1).trans a6⟩
          · have e : rSt bs n (tNx bs n uu) xx = (rFy bs n u bx he) := (rSs_no hj6 htok r1).symm.trans a6
            rw [e] at r1 r2
            exact Or.inr ⟨r2, r1⟩
        · show (if t4.2.2.2.2.1 = 0 then n + 1 - t4.1 else 0) < (if tt.2.2.2.2.1 = 0 then n + 1 - tt.1 else 0)
          rw [if_pos hf0]
          by_cases q0 : t4.2.2.2.2.1 = 0
          · rw [if_pos q0]
            rcases hres with ⟨r1, r2, r3⟩ | ⟨r1, r2⟩
            · have hok := rSt_ok hxx (tP_le a1.2.2.1).2 r1
              have h1 : tP bs n uu.1 < (rSt bs n (tNx bs n uu) xx).1.2.1 := hok.2.1
              have h2 := (tP_le (b := bs) r2.2.2.1).1
              have h3 := (tS_le (b := bs) r2.2.2.1).1
              rw [r2.2.2.2.1, a1.2.2.2.1]
              have h4 := (tP_le (b := bs) r2.2.2.1).2
              omega
            · exact absurd q0 (fz r2.1)
          · rw [if_neg q0]; omega
  ·
    have hd := hI.resolve_left (fun q => hf0 q.1.1)
    obtain ⟨AA, hA⟩ : ∃ Z, Mc 0 1 = Z := ⟨_, rfl⟩
    refine r_if_ne (tgt := 42) E (dat dkX10_loadSetup 13 rfl) rfl (fun h25 => ?_) (fun h25 => ?_)
    ·
      refine r_aload_n E (dat dkX10_loadSetup 20 rfl) rfl rfl ?_
      refine r_aload_n E (dat dkX10_loadSetup 21 rfl) rfl rfl ?_
      refine q_geta E fl_X10_9 (dat dkX10_loadSetup 22 rfl) rfl rfl rfl ?_
      refine r_iconst (v := 2) E (dat dkX10_loadSetup 23 rfl) rfl ?_
      refine q_iald E (dat dkX10_loadSetup 24 rfl) rfl rfl (by decide) (show (_ : Nat → Int32) = _ from hA) (show _ = nI 2 from rfl) (by omega) ?_
      refine r_iconst (v := 2) E (dat dkX10_loadSetup 25 rfl) rfl ?_
      refine r_icmp_lt (tgt := 57) E (dat dkX10_loadSetup 26 rfl) rfl (fun h50 => ?_) (fun h50 => ?_)
      ·
        refine r_iconst (v := 0) E (dat dkX10_loadSetup 29 rfl) rfl ?_
        refine r_iconst (v := 5) E (dat dkX10_loadSetup 30 rfl) rfl ?_
        refine r_callV (κ := 9) (μ := []) E (px_ex l G bs n _ _ (0) (5) _ hB hn hA hT hG hn6) my_X10_expect iv_X10_expect ml_X10_194 cm_id ⟨by decide, rfl, rfl⟩ rfl rfl rfl rfl (by decide) (Nat.le_of_ble_eq_true rfl) (dat dkX10_loadSetup 31 rfl) ?_
        rintro _ M9 ⟨rfl, hp9, hs9⟩
        obtain ⟨Ma, hMr, hk9, hA, hT, hS9⟩ := Mrg_pk hp9 hs9
        replace hB := (hk9.2.2.2.1).trans hB
        replace hn := (hk9.2.2.2.2.2.2.2.2.1).trans hn
        replace hk := kq_t hk hk9
        replace hG := TG_ex (a := 0) (k := 5) (by decide) hG
        obtain ⟨t9, ht9⟩ : ∃ z, z = mEx 0 5 tt := ⟨_, rfl⟩
        rw [← ht9] at hT hG
        refine ⟨_, hMr, ?_⟩
        clear hp9 hs9 hMr hk9 hS9
        refine r_aload_n E (dat dkX10_loadSetup 32 rfl) rfl rfl ?_
        refine r_callV (κ := 9) (μ := []) E (sp_X10_endText l G _) my_X10_endText iv_X10_endText ml_X10_249 cm_id ⟨by decide, rfl, rfl⟩ rfl rfl rfl rfl (by decide) (Nat.le_of_ble_eq_true rfl) (dat dkX10_loadSetup 33 rfl) ?_
        rintro _ M9 ⟨rfl, rfl⟩
        refine ⟨_, Mrg_m0, ?_⟩
        refine r_aload_n E (dat dkX10_loadSetup 34 rfl) rfl rfl ?_
        refine q_getn E fl_X10_165 (dat dkX10_loadSetup 35 rfl) rfl rfl rfl (show (_ : Int32) = _ from hT.2.2.2.2.1) ?_
        refine r_if_le (tgt := 83) E (dat dkX10_loadSetup 36 rfl) rfl (fun h70 => ?_) (fun h70 => ?_)
        ·
          exact absurd (show t9.2.2.2.2.1 ≤ 0 from by first | exact h70 | exact Int32.not_lt.mp h70) (Int32.not_le.mpr (by rw [ht9, mEx_x hd.1.1]; exact hd.1.1))
        ·
          refine r_aload_n E (dat dkX10_loadSetup 37 rfl) rfl rfl ?_
          refine r_aload_n E (dat dkX10_loadSetup 38 rfl) rfl rfl ?_
          refine q_geta E fl_X10_13 (dat dkX10_loadSetup 39 rfl) rfl rfl rfl ?_
          refine r_callV (κ := 9) (μ := []) E (sp_X10_copyFrom2 l G _ (fil A S 443) _ (show Ma 0 1 = _ from hA) (show Ma 0 2 = _ from (hk.1.trans (by rw [hMb]; rfl)))) my_X10_copyFrom iv_X10_copyFrom ml_X10_252 cm_id ⟨by decide, rfl, rfl⟩ rfl rfl rfl rfl (by decide) (Nat.le_of_ble_eq_true rfl) (dat dkX10_loadSetup 40 rfl) ?_
          rintro _ _ ⟨rfl, rfl⟩
          refine ⟨_, Mrg_md2 (by decide) rfl, ?_⟩
          refine r_iconst (v := -1) E (dat dkX10_loadSetup 41 rfl) rfl ?_
          refine r_ireturn E (dat dkX10_loadSetup 42 rfl) (by decide) (by decide) ?_
          have q9 := hk
          obtain ⟨z1, z2, z3, z4, z5, z6, z7, z8, z9, z10, z11, z12⟩ := q9
          rw [hMb] at z1 z2 z3 z4 z5 z6 z7 z8 z9 z10 z11 z12
          have hf9 : 0 < t9.2.2.2.2.1 := by first | exact h70 | exact Int32.not_le.mp h70
          have hx9 : rX t9 (rFr bs n u bx he).1.2 ∧ (rFr bs n u bx he).1.1 = 0 := by
            have e5 : (rFr bs n u bx he) = (rFy bs n u bx he) := rFr_0 hd.2
            rw [e5, ht9, mEx_x hd.1.1]
            exact hd
          left
          refine ⟨hx9.2, rfl, ⟨z2, z3, z4, z5, z12, z8, rfl⟩, ?_, z6, z7, ?_, ?_, by rw [← hx9.1.2.1]; exact hx9.1.1⟩
          · intro q hq
            show fil (fil A S 443) _ 443 q = A q
            rw [show fil (fil A S 443) _ 443 q = fil A S 443 q from if_pos hq]
            exact if_pos hq
          · exact (show Ma 0 0 17 = _ from hT.2.2.2.2.1).trans hx9.1.2.1
          · show (if Ma 0 0 17 = 0 then (-1 : Int32) else Ma 0 0 18) = _
            rw [if_neg (by rw [hT.2.2.2.2.1]; exact fz hf9), hT.2.2.2.2.2]
            exact hx9.1.2.2
      ·
        refine r_iconst (v := 1) E (dat dkX10_loadSetup 27 rfl) rfl ?_
        refine r_goto (tgt := 58) E (dat dkX10_loadSetup 28 rfl) rfl ?_
        refine r_iconst (v := 5) E (dat dkX10_loadSetup 30 rfl) rfl ?_
        refine r_callV (κ := 9) (μ := []) E (px_ex l G bs n _ _ (1) (5) _ hB hn hA hT hG hn6) my_X10_expect iv_X10_expect ml_X10_194 cm_id ⟨by decide, rfl, rfl⟩ rfl rfl rfl rfl (by decide) (Nat.le_of_ble_eq_true rfl) (dat dkX10_loadSetup 31 rfl) ?_
        rintro _ M9 ⟨rfl, hp9, hs9⟩
        obtain ⟨Ma, hMr, hk9, hA, hT, hS9⟩ := Mrg_pk hp9 hs9
        replace hB := (hk9.2.2.2.1).trans hB
        replace hn := (hk9.2.2.2.2.2.2.2.2.1).trans hn
        replace hk := kq_t hk hk9
        replace hG := TG_ex (a := 1) (k := 5) (by decide) hG
        obtain ⟨t9, ht9⟩ : ∃ z, z = mEx 1 5 tt := ⟨_, rfl⟩
        rw [← ht9] at hT hG
        refine ⟨_, hMr, ?_⟩
        clear hp9 hs9 hMr hk9 hS9
        refine r_aload_n E (dat dkX10_loadSetup 32 rfl) rfl rfl ?_
        refine r_callV (κ := 9) (μ := []) E (sp_X10_endText l G _) my_X10_endText iv_X10_endText ml_X10_249 cm_id ⟨by decide, rfl, rfl⟩ rfl rfl rfl rfl (by decide) (Nat.le_of_ble_eq_true rfl) (dat dkX10_loadSetup 33 rfl) ?_
        rintro _ M9 ⟨rfl, rfl⟩
        refine ⟨_, Mrg_m0, ?_⟩
        refine r_aload_n E (dat dkX10_loadSetup 34 rfl) rfl rfl ?_
        refine q_getn E fl_X10_165 (dat dkX10_loadSetup 35 rfl) rfl rfl rfl (show (_ : Int32) = _ from hT.2.2.2.2.1) ?_
        refine r_if_le (tgt := 83) E (dat dkX10_loadSetup 36 rfl) rfl (fun h70 => ?_) (fun h70 => ?_)
        ·
          exact absurd (show t9.2.2.2.2.1 ≤ 0 from by first | exact h70 | exact Int32.not_lt.mp h70) (Int32.not_le.mpr (by rw [ht9, mEx_x hd.1.1]; exact hd.1.1))
        ·
          refine r_aload_n E (dat dkX10_loadSetup 37 rfl) rfl rfl ?_
          refine r_aload_n E (dat dkX10_loadSetup 38 rfl) rfl rfl ?_
          refine q_geta E fl_X10_13 (dat dkX10_loadSetup 39 rfl) rfl rfl rfl ?_
          refine r_callV (κ := 9) (μ := []) E (sp_X10_copyFrom2 l G _ (fil A S 443) _ (show Ma 0 1 = _ from hA) (show Ma 0 2 = _ from (hk.1.trans (by rw [hMb]; rfl)))) my_X10_copyFrom iv_X10_copyFrom ml_X10_252 cm_id ⟨by decide, rfl, rfl⟩ rfl rfl rfl rfl (by decide) (Nat.le_of_ble_eq_true rfl) (dat dkX10_loadSetup 40 rfl) ?_
          rintro _ _ ⟨rfl, rfl⟩
          refine ⟨_, Mrg_md2 (by decide) rfl, ?_⟩
          refine r_iconst (v := -1) E (dat dkX10_loadSetup 41 rfl) rfl ?_
          refine r_ireturn E (dat dkX10_loadSetup 42 rfl) (by decide) (by decide) ?_
          have q9 := hk
          obtain ⟨z1, z2, z3, z4, z5, z6, z7, z8, z9, z10, z11, z12⟩ := q9
          rw [hMb] at z1 z2 z3 z4 z5 z6 z7 z8 z9 z10 z11 z12
          have hf9 : 0 < t9.2.2.2.2.1 := by first | exact h70 | exact Int32.not_le.mp h70
          have hx9 : rX t9 (rFr bs n u bx he).1.2 ∧ (rFr bs n u bx he).1.1 = 0 := by
            have e5 : (rFr bs n u bx he) = (rFy bs n u bx he) := rFr_0 hd.2
            rw [e5, ht9, mEx_x hd.1.1]
            exact hd
          left
          refine ⟨hx9.2, rfl, ⟨z2, z3, z4, z5, z12, z8, rfl⟩, ?_, z6, z7, ?_, ?_, by rw [← hx9.1.2.1]; exact hx9.1.1⟩
          · intro q hq
            show fil (fil A S 443) _ 443 q = A q
            rw [show fil (fil A S 443) _ 443 q = fil A S 443 q from if_pos hq]
            exact if_pos hq
          · exact (show Ma 0 0 17 = _ from hT.2.2.2.2.1).trans hx9.1.2.1
          · show (if Ma 0 0 17 = 0 then (-1 : Int32) else Ma 0 0 18) = _
            rw [if_neg (by rw [hT.2.2.2.2.1]; exact fz hf9), hT.2.2.2.2.2]
            exact hx9.1.2.2
    ·
      exact absurd (by first | exact h25 | exact Decidable.not_not.mp h25) hf0
