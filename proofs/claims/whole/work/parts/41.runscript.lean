theorem exC_no {g : Nat → Int32} {N i : Nat} (h : N ≤ i) : exC g (N - i) i = i := by rw [show N - i = 0 by omega]; rfl
theorem exC_le {g : Nat → Int32} : ∀ (f i : Nat), exC g f i ≤ i + f
  | 0, i => Nat.le_refl i
  | f + 1, i => by
    unfold exC
    split
    · omega
    · have := exC_le (g := g) f (i + 1); omega
set_option maxRecDepth 100000 in
set_option maxHeartbeats 4000000 in
theorem sp_X9_runScript (l : Launch) (G : GT) (BP : Nat → Nat → Int32) (be nm : Nat → Int32) (x : PP) (q : Nat) (o h : Nat) (M : Mem) (hpn : (M 0 0 9).toNatClampNeg = q) (hq : q = 17 ∨ q = 18) (hP : M q = vPx BP be nm x) (hx : PIv x) (ho1 : M 6 0 1 = nI o) (hh1 : M 6 0 2 = nI h) (ho8 : o < 8) (hh8 : h ≤ 8) (hwt : WTi (M 3)) (hbe : BEx be x) (hpl : PLi x (M 3)) (B0 : Nat → Nat → Int32) (n : Nat) (bs : Nat → Int32) (t : TT) (hT : M 1 = vTx B0 n bs t) (hn : n ≤ 600) : MC l G yX9_runScript cX9_runScript 3 (some .int) ({ frames := 7, cells := 0, slots := 0, locals := 167 } : Room) KC lkC [rv 0 0] (M) (fun r M2 => ((scR M bs n t x).1.1 = 0 ∧ M2 = (scM M B0 bs n t x) ∧ r = some (iv (-1))) ∨ (¬ (scR M bs n t x).1.1 = 0 ∧ M2 = setm (kpM (scM M B0 bs n t x) o h) 3 (exT x (scR M bs n t x).2.2.1 (scR M bs n t x).2.2.2 (M 3) (scN M bs n t x)) ∧ r = some (iv (nI (scN M bs n t x))))) := by
  refine MC.of RX9 [some (rv 0 0), none, none] 2 (by decide +kernel) rfl rfl rfl ?_
  intro pp ee ss mm aa bb me cd ad E
  rcases hq with rfl | rfl
  ·
    have h_ro : M 17 0 7 = nI x.1.1 := by rw [hP]; rfl
    have h_co : M 17 0 8 = nI x.1.2.1 := by rw [hP]; rfl
    have h_ce : M 17 0 9 = nI x.1.2.2 := by rw [hP]; rfl
    have h_bc : M 17 0 10 = nI x.2.2.2.2.1 := by rw [hP]; rfl
    have h_fr : M 17 0 11 = x.2.2.2.1 := by rw [hP]; rfl
    have h_he : M 17 1 = x.2.1 := by rw [hP]; rfl
    have h_gu : M 17 2 = x.2.2.1 := by rw [hP]; rfl
    have h_be : M 17 3 = be := by rw [hP]; rfl
    have h_nl : M 17 5 = x.2.2.2.2.2.1 := by rw [hP]; rfl
    have h_bh : M 17 6 = x.2.2.2.2.2.2.2.1 := by rw [hP]; rfl
    have h_fp : M 17 7 = x.2.2.2.2.2.2.1 := by rw [hP]; rfl
    have h_n0 : M 17 8 = x.2.2.2.2.2.2.2.2 0 := by rw [hP]; rfl
    have h_n1 : M 17 9 = x.2.2.2.2.2.2.2.2 1 := by rw [hP]; rfl
    have h_n2 : M 17 10 = x.2.2.2.2.2.2.2.2 2 := by rw [hP]; rfl
    have h_n3 : M 17 11 = x.2.2.2.2.2.2.2.2 3 := by rw [hP]; rfl
    have hn64 := (PIv_z hx).1
    
    refine r_aload_n E (dat dkX9_runScript 0 rfl) rfl rfl ?_
    refine q_getl E fl_X9_19 (dat dkX9_runScript 1 rfl) rfl rfl rfl ?_
    refine r_aload_n E (dat dkX9_runScript 2 rfl) rfl rfl ?_
    refine q_getl E fl_X9_10 (dat dkX9_runScript 3 rfl) rfl rfl rfl ?_
    refine r_aload_n E (dat dkX9_runScript 4 rfl) rfl rfl ?_
    refine q_getd E fl_X9_64 (dat dkX9_runScript 5 rfl) rfl rfl rfl hpn ?_
    refine r_callV (κ := 4) (μ := [2, 1, 17]) E (sp_X4_readFrom l G (M 2) (M 2 0 4) (M 2 1) (M 2 2, M 2 3, M 2 4) B0 n bs t.1 t.2.1 t.2.2.1 t.2.2.2.1 t.2.2.2.2.1 t.2.2.2.2.2 BP be nm x _ (evC (M 2)).symm hT hP hx hn) my_X4_readFrom iv_X4_readFrom ml_X9_109 (cm_of rfl) ⟨by decide, rfl, rfl⟩ rfl rfl rfl rfl (by decide) (Nat.le_of_ble_eq_true rfl) (dat dkX9_runScript 6 rfl) ?_
    rintro _ _ ⟨rfl, rfl⟩
    refine ⟨_, (show Mrg _ _ M _ (setm (setm M 2 (vCx (M 2) (scR M bs n t x).2.1 (scR M bs n t x).2.2.1 (scR M bs n t x).2.2.2)) 1 (vTx B0 n bs (scR M bs n t x).1.2)) from Mrg_ee (i := 0) (j := 1) (by decide) (by decide) (by decide) rfl rfl), ?_⟩
    refine r_istore_1 E (dat dkX9_runScript 7 rfl) rfl rfl ?_
    refine r_aload_n E (dat dkX9_runScript 8 rfl) rfl rfl ?_
    refine q_getl E fl_X9_10 (dat dkX9_runScript 9 rfl) rfl rfl rfl ?_
    refine r_callV (κ := 3) (μ := [1]) E (sp_X6_clear l G B0 n (nI (scR M bs n t x).1.2.1) (scR M bs n t x).1.2.2.1 (scR M bs n t x).1.2.2.2.1 (scR M bs n t x).1.2.2.2.2.1 (scR M bs n t x).1.2.2.2.2.2.1 (scR M bs n t x).1.2.2.2.2.2.2 bs _ rfl) my_X6_clear iv_X6_clear ml_X9_89 (cm_of rfl) ⟨by decide, rfl, rfl⟩ rfl rfl rfl rfl (by decide) (Nat.le_of_ble_eq_true rfl) (dat dkX9_runScript 10 rfl) ?_
    rintro _ _ ⟨rfl, rfl⟩
    refine ⟨_, (show Mrg _ _ (setm (setm M 2 (vCx (M 2) (scR M bs n t x).2.1 (scR M bs n t x).2.2.1 (scR M bs n t x).2.2.2)) 1 (vTx B0 n bs (scR M bs n t x).1.2)) _ (scM M B0 bs n t x) from Mrg_e (i := 0) (by decide) (by decide) setm_setm rfl), ?_⟩
    refine r_iload_n E (dat dkX9_runScript 11 rfl) rfl rfl ?_
    refine r_if_ne (tgt := 29) E (dat dkX9_runScript 12 rfl) rfl (fun h24 => ?_) (fun h24 => ?_)
    ·
      refine r_aload_n E (dat dkX9_runScript 15 rfl) rfl rfl ?_
      refine q_getl E fl_X9_39 (dat dkX9_runScript 16 rfl) rfl rfl rfl ?_
      refine r_aload_n E (dat dkX9_runScript 17 rfl) rfl rfl ?_
      refine q_getl E fl_X9_26 (dat dkX9_runScript 18 rfl) rfl rfl rfl ?_
      refine r_callV (κ := 7) (μ := [6, 3, 7, 8, 9, 10, 11, 12, 13, 14]) E (sp_X1_keep l G (M 6) o h (M 6 1) _ (by show M 6 = _; rw [← ho1, ← hh1]; exact (evH _).symm) ho8 hh8 hwt) my_X1_keep iv_X1_keep ml_X9_112 (cm_of rfl) ⟨by decide, rfl, rfl⟩ rfl rfl rfl rfl (by decide) (Nat.le_of_ble_eq_true rfl) (dat dkX9_runScript 19 rfl) ?_
      rintro _ _ ⟨rfl, hM9⟩
      refine ⟨_, (show Mrg _ _ (scM M B0 bs n t x) _ (kpM (scM M B0 bs n t x) o h) from Mrg_kp (M := (scM M B0 bs n t x)) hM9), ?_⟩
      clear hM9
      have e3 : (kpM (scM M B0 bs n t x) o h) 3 = M 3 := kpM_ne (by decide) (by decide)
      have e2 : (kpM (scM M B0 bs n t x) o h) 2 = vCx (M 2) (scR M bs n t x).2.1 (scR M bs n t x).2.2.1 (scR M bs n t x).2.2.2 := kpM_ne (by decide) (by decide)
      have e0 : (kpM (scM M B0 bs n t x) o h) 0 = M 0 := kpM_ne (by decide) (by decide)
      have hP9 : (kpM (scM M B0 bs n t x) o h) 17 = vPx BP be nm x := (kpM_ne (by decide) (by decide)).trans hP
      have hpn : ((kpM (scM M B0 bs n t x) o h) 0 0 9).toNatClampNeg = 17 := by rw [e0]; exact hpn
      have h_cn : (kpM (scM M B0 bs n t x) o h) 2 0 4 = nI (scR M bs n t x).2.1 := by rw [e2]; rfl
      have hso := scR_so (M := M) (bs := bs) (n := n) (t := t) hx
      have h_ro : (kpM (scM M B0 bs n t x) o h) 17 0 7 = nI x.1.1 := by rw [hP9]; rfl
      have h_co : (kpM (scM M B0 bs n t x) o h) 17 0 8 = nI x.1.2.1 := by rw [hP9]; rfl
      have h_ce : (kpM (scM M B0 bs n t x) o h) 17 0 9 = nI x.1.2.2 := by rw [hP9]; rfl
      have h_bc : (kpM (scM M B0 bs n t x) o h) 17 0 10 = nI x.2.2.2.2.1 := by rw [hP9]; rfl
      have h_fr : (kpM (scM M B0 bs n t x) o h) 17 0 11 = x.2.2.2.1 := by rw [hP9]; rfl
      have h_he : (kpM (scM M B0 bs n t x) o h) 17 1 = x.2.1 := by rw [hP9]; rfl
      have h_gu : (kpM (scM M B0 bs n t x) o h) 17 2 = x.2.2.1 := by rw [hP9]; rfl
      have h_be : (kpM (scM M B0 bs n t x) o h) 17 3 = be := by rw [hP9]; rfl
      have h_nl : (kpM (scM M B0 bs n t x) o h) 17 5 = x.2.2.2.2.2.1 := by rw [hP9]; rfl
      have h_bh : (kpM (scM M B0 bs n t x) o h) 17 6 = x.2.2.2.2.2.2.2.1 := by rw [hP9]; rfl
      have h_fp : (kpM (scM M B0 bs n t x) o h) 17 7 = x.2.2.2.2.2.2.1 := by rw [hP9]; rfl
      have h_n0 : (kpM (scM M B0 bs n t x) o h) 17 8 = x.2.2.2.2.2.2.2.2 0 := by rw [hP9]; rfl
      have h_n1 : (kpM (scM M B0 bs n t x) o h) 17 9 = x.2.2.2.2.2.2.2.2 1 := by rw [hP9]; rfl
      have h_n2 : (kpM (scM M B0 bs n t x) o h) 17 10 = x.2.2.2.2.2.2.2.2 2 := by rw [hP9]; rfl
      have h_n3 : (kpM (scM M B0 bs n t x) o h) 17 11 = x.2.2.2.2.2.2.2.2 3 := by rw [hP9]; rfl
      refine r_iconst (v := 0) E (dat dkX9_runScript 20 rfl) rfl ?_
      refine r_istore_2 E (dat dkX9_runScript 21 rfl) rfl rfl ?_
      refine r_for ((scR M bs n t x).2.1) (fun i => scN M bs n t x = exC (exG x (scR M bs n t x).2.2.1 (scR M bs n t x).2.2.2 (M 3)) ((scR M bs n t x).2.1 - i) i) (fun i => setm (kpM (scM M B0 bs n t x) o h) 3 (exT x (scR M bs n t x).2.2.1 (scR M bs n t x).2.2.2 (M 3) i)) (fun i => [some (rv 0 0), some (iv (scR M bs n t x).1.1), some (iv (nI i))]) rfl (by (show setm (kpM (scM M B0 bs n t x) o h) 3 (M 3) = (kpM (scM M B0 bs n t x) o h)); rw [← e3, setm_self]) rfl ?_ ?_
      · intro i hi hI kk
        obtain ⟨v, hv8, hvi, hvo, -⟩ := hso.2 i hi
        have hvc : ((scR M bs n t x).2.2.1 i).toNatClampNeg = v := by rw [hvi]; exact nI_clamp (by omega)
        rw [← hvc] at hv8 hvi hvo
        have hso1 := hso.1
        refine r_iload_n E (dat dkX9_runScript 22 rfl) rfl rfl ?_
        refine r_aload_n E (dat dkX9_runScript 23 rfl) rfl rfl ?_
        refine q_getl E fl_X9_19 (dat dkX9_runScript 24 rfl) rfl rfl rfl ?_
        refine q_getn E fl_X9_116 (dat dkX9_runScript 25 rfl) rfl rfl rfl h_cn ?_
        refine q_icmp_ge (tgt := 78) E (dat dkX9_runScript 26 rfl) rfl rfl rfl (by omega) (by omega) (fun h50 => ?_) (fun h50 => ?_)
        ·
          omega
        ·
          refine r_aload_n E (dat dkX9_runScript 27 rfl) rfl rfl ?_
          refine q_getl E fl_X9_19 (dat dkX9_runScript 28 rfl) rfl rfl rfl ?_
          refine r_iload_n E (dat dkX9_runScript 29 rfl) rfl rfl ?_
          refine r_aload_n E (dat dkX9_runScript 30 rfl) rfl rfl ?_
          refine q_getd E fl_X9_64 (dat dkX9_runScript 31 rfl) rfl rfl rfl hpn ?_
          refine r_aload_n E (dat dkX9_runScript 32 rfl) rfl rfl ?_
          refine q_getl E fl_X9_26 (dat dkX9_runScript 33 rfl) rfl rfl rfl ?_
          refine r_callV (κ := 4) (μ := [2, 17, 3]) E (sp_X4_execute l G (M 2) (scR M bs n t x).2.1 (scR M bs n t x).2.2.1 (scR M bs n t x).2.2.2 BP (nI x.1.1) (nI x.1.2.1) x.1.2.2 x.2.2.2.2.1 x.2.2.2.1 x.2.1 x.2.2.1 be nm x.2.2.2.2.2.1 x.2.2.2.2.2.2.2.1 x.2.2.2.2.2.2.1 (x.2.2.2.2.2.2.2.2 0) (x.2.2.2.2.2.2.2.2 1) (x.2.2.2.2.2.2.2.2 2) (x.2.2.2.2.2.2.2.2 3) (exT x (scR M bs n t x).2.2.1 (scR M bs n t x).2.2.2 (M 3) i) i ((scR M bs n t x).2.2.1 i).toNatClampNeg (nbx x) hbe (nbx_lt hx) _ e2 hP9 (evS _).symm hn64 hx.2.2.2.2.1 (by omega) hv8 hvi hvo (exT_pl hx hpl i)) my_X4_execute iv_X4_execute ml_X9_119 (cm_of rfl) ⟨by decide, rfl, rfl⟩ rfl rfl rfl rfl (by decide) (Nat.le_of_ble_eq_true rfl) (dat dkX9_runScript 34 rfl) ?_
          rintro _ _ ⟨rfl, rfl⟩
          refine ⟨_, (show Mrg _ _ (setm (kpM (scM M B0 bs n t x) o h) 3 (exT x (scR M bs n t x).2.2.1 (scR M bs n t x).2.2.2 (M 3) i)) _ (setm (kpM (scM M B0 bs n t x) o h) 3 (exT x (scR M bs n t x).2.2.1 (scR M bs n t x).2.2.2 (M 3) (i + 1))) from Mrg_e (i := 2) (by decide) (by decide) setm_setm rfl), ?_⟩
          refine r_if_eq (tgt := 78) E (dat dkX9_runScript 35 rfl) rfl (fun h69 => ?_) (fun h69 => ?_)
          ·
            refine r_iload_n E (dat dkX9_runScript 38 rfl) rfl rfl ?_
            refine r_ireturn E (dat dkX9_runScript 39 rfl) (by decide) (by decide) ?_
            refine Or.inr ⟨by first | exact h24 | assumption, ?_, ?_⟩
            · first
                | (rw [hI, exC_hit hi h69]; refine congrArg _ ?_; exact exK_z _ h69)
                | (rw [hI, exC_no (Nat.le_refl _)])
            · first
                | rw [hI, exC_hit hi h69]
                | rw [hI, exC_no (Nat.le_refl _)]
          ·
            refine q_iinc_2 E (dat dkX9_runScript 36 rfl) rfl rfl ?_
            refine r_goto (tgt := 42) E (dat dkX9_runScript 37 rfl) rfl ?_
            exact kk (hI.trans (exC_go hi h69).symm)
      · intro hI
        refine r_iload_n E (dat dkX9_runScript 22 rfl) rfl rfl ?_
        refine r_aload_n E (dat dkX9_runScript 23 rfl) rfl rfl ?_
        refine q_getl E fl_X9_19 (dat dkX9_runScript 24 rfl) rfl rfl rfl ?_
        refine q_getn E fl_X9_116 (dat dkX9_runScript 25 rfl) rfl rfl rfl h_cn ?_
        refine q_icmp_ge (tgt := 78) E (dat dkX9_runScript 26 rfl) rfl rfl rfl (by omega) (by omega) (fun h50 => ?_) (fun h50 => ?_)
        ·
          refine r_iload_n E (dat dkX9_runScript 38 rfl) rfl rfl ?_
          refine r_ireturn E (dat dkX9_runScript 39 rfl) (by decide) (by decide) ?_
          refine Or.inr ⟨by first | exact h24 | assumption, ?_, ?_⟩
          · first
              | (rw [hI, exC_hit hi h69]; refine congrArg _ ?_; exact exK_z _ h69)
              | (rw [hI, exC_no (Nat.le_refl _)])
          · first
              | rw [hI, exC_hit hi h69]
              | rw [hI, exC_no (Nat.le_refl _)]
        ·
          have := hso.1; omega
    ·
      refine r_iconst (v := -1) E (dat dkX9_runScript 13 rfl) rfl ?_
      refine r_ireturn E (dat dkX9_runScript 14 rfl) (by decide) (by decide) ?_
      exact Or.inl ⟨by first | exact h24 | exact Decidable.not_not.mp h24, rfl, rfl⟩
  ·
    have h_ro : M 18 0 7 = nI x.1.1 := by rw [hP]; rfl
    have h_co : M 18 0 8 = nI x.1.2.1 := by rw [hP]; rfl
    have h_ce : M 18 0 9 = nI x.1.2.2 := by rw [hP]; rfl
    have h_bc : M 18 0 10 = nI x.2.2.2.2.1 := by rw [hP]; rfl
    have h_fr : M 18 0 11 = x.2.2.2.1 := by rw [hP]; rfl
    have h_he : M 18 1 = x.2.1 := by rw [hP]; rfl
    have h_gu : M 18 2 = x.2.2.1 := by rw [hP]; rfl
    have h_be : M 18 3 = be := by rw [hP]; rfl
    have h_nl : M 18 5 = x.2.2.2.2.2.1 := by rw [hP]; rfl
    have h_bh : M 18 6 = x.2.2.2.2.2.2.2.1 := by rw [hP]; rfl
    have h_fp : M 18 7 = x.2.2.2.2.2.2.1 := by rw [hP]; rfl
    have h_n0 : M 18 8 = x.2.2.2.2.2.2.2.2 0 := by rw [hP]; rfl
    have h_n1 : M 18 9 = x.2.2.2.2.2.2.2.2 1 := by rw [hP]; rfl
    have h_n2 : M 18 10 = x.2.2.2.2.2.2.2.2 2 := by rw [hP]; rfl
    have h_n3 : M 18 11 = x.2.2.2.2.2.2.2.2 3 := by rw [hP]; rfl
    have hn64 := (PIv_z hx).1
    
    refine r_aload_n E (dat dkX9_runScript 0 rfl) rfl rfl ?_
    refine q_getl E fl_X9_19 (dat dkX9_runScript 1 rfl) rfl rfl rfl ?_
    refine r_aload_n E (dat dkX9_runScript 2 rfl) rfl rfl ?_
    refine q_getl E fl_X9_10 (dat dkX9_runScript 3 rfl) rfl rfl rfl ?_
    refine r_aload_n E (dat dkX9_runScript 4 rfl) rfl rfl ?_
    refine q_getd E fl_X9_64 (dat dkX9_runScript 5 rfl) rfl rfl rfl hpn ?_
    refine r_callV (κ := 4) (μ := [2, 1, 18]) E (sp_X4_readFrom l G (M 2) (M 2 0 4) (M 2 1) (M 2 2, M 2 3, M 2 4) B0 n bs t.1 t.2.1 t.2.2.1 t.2.2.2.1 t.2.2.2.2.1 t.2.2.2.2.2 BP be nm x _ (evC (M 2)).symm hT hP hx hn) my_X4_readFrom iv_X4_readFrom ml_X9_109 (cm_of rfl) ⟨by decide, rfl, rfl⟩ rfl rfl rfl rfl (by decide) (Nat.le_of_ble_eq_true rfl) (dat dkX9_runScript 6 rfl) ?_
    rintro _ _ ⟨rfl, rfl⟩
    refine ⟨_, (show Mrg _ _ M _ (setm (setm M 2 (vCx (M 2) (scR M bs n t x).2.1 (scR M bs n t x).2.2.1 (scR M bs n t x).2.2.2)) 1 (vTx B0 n bs (scR M bs n t x).1.2)) from Mrg_ee (i := 0) (j := 1) (by decide) (by decide) (by decide) rfl rfl), ?_⟩
    refine r_istore_1 E (dat dkX9_runScript 7 rfl) rfl rfl ?_
    refine r_aload_n E (dat dkX9_runScript 8 rfl) rfl rfl ?_
    refine q_getl E fl_X9_10 (dat dkX9_runScript 9 rfl) rfl rfl rfl ?_
    refine r_callV (κ := 3) (μ := [1]) E (sp_X6_clear l G B0 n (nI (scR M bs n t x).1.2.1) (scR M bs n t x).1.2.2.1 (scR M bs n t x).1.2.2.2.1 (scR M bs n t x).1.2.2.2.2.1 (scR M bs n t x).1.2.2.2.2.2.1 (scR M bs n t x).1.2.2.2.2.2.2 bs _ rfl) my_X6_clear iv_X6_clear ml_X9_89 (cm_of rfl) ⟨by decide, rfl, rfl⟩ rfl rfl rfl rfl (by decide) (Nat.le_of_ble_eq_true rfl) (dat dkX9_runScript 10 rfl) ?_
    rintro _ _ ⟨rfl, rfl⟩
    refine ⟨_, (show Mrg _ _ (setm (setm M 2 (vCx (M 2) (scR M bs n t x).2.1 (scR M bs n t x).2.2.1 (scR M bs n t x).2.2.2)) 1 (vTx B0 n bs (scR M bs n t x).1.2)) _ (scM M B0 bs n t x) from Mrg_e (i := 0) (by decide) (by decide) setm_setm rfl), ?_⟩
    refine r_iload_n E (dat dkX9_runScript 11 rfl) rfl rfl ?_
    refine r_if_ne (tgt := 29) E (dat dkX9_runScript 12 rfl) rfl (fun h24 => ?_) (fun h24 => ?_)
    ·
      refine r_aload_n E (dat dkX9_runScript 15 rfl) rfl rfl ?_
      refine q_getl E fl_X9_39 (dat dkX9_runScript 16 rfl) rfl rfl rfl ?_
      refine r_aload_n E (dat dkX9_runScript 17 rfl) rfl rfl ?_
      refine q_getl E fl_X9_26 (dat dkX9_runScript 18 rfl) rfl rfl rfl ?_
      refine r_callV (κ := 7) (μ := [6, 3, 7, 8, 9, 10, 11, 12, 13, 14]) E (sp_X1_keep l G (M 6) o h (M 6 1) _ (by show M 6 = _; rw [← ho1, ← hh1]; exact (evH _).symm) ho8 hh8 hwt) my_X1_keep iv_X1_keep ml_X9_112 (cm_of rfl) ⟨by decide, rfl, rfl⟩ rfl rfl rfl rfl (by decide) (Nat.le_of_ble_eq_true rfl) (dat dkX9_runScript 19 rfl) ?_
      rintro _ _ ⟨rfl, hM9⟩
      refine ⟨_, (show Mrg _ _ (scM M B0 bs n t x) _ (kpM (scM M B0 bs n t x) o h) from Mrg_kp (M := (scM M B0 bs n t x)) hM9), ?_⟩
      clear hM9
      have e3 : (kpM (scM M B0 bs n t x) o h) 3 = M 3 := kpM_ne (by decide) (by decide)
      have e2 : (kpM (scM M B0 bs n t x) o h) 2 = vCx (M 2) (scR M bs n t x).2.1 (scR M bs n t x).2.2.1 (scR M bs n t x).2.2.2 := kpM_ne (by decide) (by decide)
      have e0 : (kpM (scM M B0 bs n t x) o h) 0 = M 0 := kpM_ne (by decide) (by decide)
      have hP9 : (kpM (scM M B0 bs n t x) o h) 18 = vPx BP be nm x := (kpM_ne (by decide) (by decide)).trans hP
      have hpn : ((kpM (scM M B0 bs n t x) o h) 0 0 9).toNatClampNeg = 18 := by rw [e0]; exact hpn
      have h_cn : (kpM (scM M B0 bs n t x) o h) 2 0 4 = nI (scR M bs n t x).2.1 := by rw [e2]; rfl
      have hso := scR_so (M := M) (bs := bs) (n := n) (t := t) hx
      have h_ro : (kpM (scM M B0 bs n t x) o h) 18 0 7 = nI x.1.1 := by rw [hP9]; rfl
      have h_co : (kpM (scM M B0 bs n t x) o h) 18 0 8 = nI x.1.2.1 := by rw [hP9]; rfl
      have h_ce : (kpM (scM M B0 bs n t x) o h) 18 0 9 = nI x.1.2.2 := by rw [hP9]; rfl
      have h_bc : (kpM (scM M B0 bs n t x) o h) 18 0 10 = nI x.2.2.2.2.1 := by rw [hP9]; rfl
      have h_fr : (kpM (scM M B0 bs n t x) o h) 18 0 11 = x.2.2.2.1 := by rw [hP9]; rfl
      have h_he : (kpM (scM M B0 bs n t x) o h) 18 1 = x.2.1 := by rw [hP9]; rfl
      have h_gu : (kpM (scM M B0 bs n t x) o h) 18 2 = x.2.2.1 := by rw [hP9]; rfl
      have h_be : (kpM (scM M B0 bs n t x) o h) 18 3 = be := by rw [hP9]; rfl
      have h_nl : (kpM (scM M B0 bs n t x) o h) 18 5 = x.2.2.2.2.2.1 := by rw [hP9]; rfl
      have h_bh : (kpM (scM M B0 bs n t x) o h) 18 6 = x.2.2.2.2.2.2.2.1 := by rw [hP9]; rfl
      have h_fp : (kpM (scM M B0 bs n t x) o h) 18 7 = x.2.2.2.2.2.2.1 := by rw [hP9]; rfl
      have h_n0 : (kpM (scM M B0 bs n t x) o h) 18 8 = x.2.2.2.2.2.2.2.2 0 := by rw [hP9]; rfl
      have h_n1 : (kpM (scM M B0 bs n t x) o h) 18 9 = x.2.2.2.2.2.2.2.2 1 := by rw [hP9]; rfl
      have h_n2 : (kpM (scM M B0 bs n t x) o h) 18 10 = x.2.2.2.2.2.2.2.2 2 := by rw [hP9]; rfl
      have h_n3 : (kpM (scM M B0 bs n t x) o h) 18 11 = x.2.2.2.2.2.2.2.2 3 := by rw [hP9]; rfl
      refine r_iconst (v := 0) E (dat dkX9_runScript 20 rfl) rfl ?_
      refine r_istore_2 E (dat dkX9_runScript 21 rfl) rfl rfl ?_
      refine r_for ((scR M bs n t x).2.1) (fun i => scN M bs n t x = exC (exG x (scR M bs n t x).2.2.1 (scR M bs n t x).2.2.2 (M 3)) ((scR M bs n t x).2.1 - i) i) (fun i => setm (kpM (scM M B0 bs n t x) o h) 3 (exT x (scR M bs n t x).2.2.1 (scR M bs n t x).2.2.2 (M 3) i)) (fun i => [some (rv 0 0), some (iv (scR M bs n t x).1.1), some (iv (nI i))]) rfl (by (show setm (kpM (scM M B0 bs n t x) o h) 3 (M 3) = (kpM (scM M B0 bs n t x) o h)); rw [← e3, setm_self]) rfl ?_ ?_
      · intro i hi hI kk
        obtain ⟨v, hv8, hvi, hvo, -⟩ := hso.2 i hi
        have hvc : ((scR M bs n t x).2.2.1 i).toNatClampNeg = v := by rw [hvi]; exact nI_clamp (by omega)
        rw [← hvc] at hv8 hvi hvo
        have hso1 := hso.1
        refine r_iload_n E (dat dkX9_runScript 22 rfl) rfl rfl ?_
        refine r_aload_n E (dat dkX9_runScript 23 rfl) rfl rfl ?_
        refine q_getl E fl_X9_19 (dat dkX9_runScript 24 rfl) rfl rfl rfl ?_
        refine q_getn E fl_X9_116 (dat dkX9_runScript 25 rfl) rfl rfl rfl h_cn ?_
        refine q_icmp_ge (tgt := 78) E (dat dkX9_runScript 26 rfl) rfl rfl rfl (by omega) (by omega) (fun h50 => ?_) (fun h50 => ?_)
        ·
          omega
        ·
          refine r_aload_n E (dat dkX9_runScript 27 rfl) rfl rfl ?_
          refine q_getl E fl_X9_19 (dat dkX9_runScript 28 rfl) rfl rfl rfl ?_
          refine r_iload_n E (dat dkX9_runScript 29 rfl) rfl rfl ?_
          refine r_aload_n E (dat dkX9_runScript 30 rfl) rfl rfl ?_
          refine q_getd E fl_X9_64 (dat dkX9_runScript 31 rfl) rfl rfl rfl hpn ?_
          refine r_aload_n E (dat dkX9_runScript 32 rfl) rfl rfl ?_
          refine q_getl E fl_X9_26 (dat dkX9_runScript 33 rfl) rfl rfl rfl ?_
          refine r_callV (κ := 4) (μ := [2, 18, 3]) E (sp_X4_execute l G (M 2) (scR M bs n t x).2.1 (scR M bs n t x).2.2.1 (scR M bs n t x).2.2.2 BP (nI x.1.1) (nI x.1.2.1) x.1.2.2 x.2.2.2.2.1 x.2.2.2.1 x.2.1 x.2.2.1 be nm x.2.2.2.2.2.1 x.2.2.2.2.2.2.2.1 x.2.2.2.2.2.2.1 (x.2.2.2.2.2.2.2.2 0) (x.2.2.2.2.2.2.2.2 1) (x.2.2.2.2.2.2.2.2 2) (x.2.2.2.2.2.2.2.2 3) (exT x (scR M bs n t x).2.2.1 (scR M bs n t x).2.2.2 (M 3) i) i ((scR M bs n t x).2.2.1 i).toNatClampNeg (nbx x) hbe (nbx_lt hx) _ e2 hP9 (evS _).symm hn64 hx.2.2.2.2.1 (by omega) hv8 hvi hvo (exT_pl hx hpl i)) my_X4_execute iv_X4_execute ml_X9_119 (cm_of rfl) ⟨by decide, rfl, rfl⟩ rfl rfl rfl rfl (by decide) (Nat.le_of_ble_eq_true rfl) (dat dkX9_runScript 34 rfl) ?_
          rintro _ _ ⟨rfl, rfl⟩
          refine ⟨_, (show Mrg _ _ (setm (kpM (scM M B0 bs n t x) o h) 3 (exT x (scR M bs n t x).2.2.1 (scR M bs n t x).2.2.2 (M 3) i)) _ (setm (kpM (scM M B0 bs n t x) o h) 3 (exT x (scR M bs n t x).2.2.1 (scR M bs n t x).2.2.2 (M 3) (i + 1))) from Mrg_e (i := 2) (by decide) (by decide) setm_setm rfl), ?_⟩
          refine r_if_eq (tgt := 78) E (dat dkX9_runScript 35 rfl) rfl (fun h69 => ?_) (fun h69 => ?_)
          ·
            refine r_iload_n E (dat dkX9_runScript 38 rfl) rfl rfl ?_
            refine r_ireturn E (dat dkX9_runScript 39 rfl) (by decide) (by decide) ?_
            refine Or.inr ⟨by first | exact h24 | assumption, ?_, ?_⟩
            · first
                | (rw [hI, exC_hit hi h69]; refine congrArg _ ?_; exact exK_z _ h69)
                | (rw [hI, exC_no (Nat.le_refl _)])
            · first
                | rw [hI, exC_hit hi h69]
                | rw [hI, exC_no (Nat.le_refl _)]
          ·
            refine q_iinc_2 E (dat dkX9_runScript 36 rfl) rfl rfl ?_
            refine r_goto (tgt := 42) E (dat dkX9_runScript 37 rfl) rfl ?_
            exact kk (hI.trans (exC_go hi h69).symm)
      · intro hI
        refine r_iload_n E (dat dkX9_runScript 22 rfl) rfl rfl ?_
        refine r_aload_n E (dat dkX9_runScript 23 rfl) rfl rfl ?_
        refine q_getl E fl_X9_19 (dat dkX9_runScript 24 rfl) rfl rfl rfl ?_
        refine q_getn E fl_X9_116 (dat dkX9_runScript 25 rfl) rfl rfl rfl h_cn ?_
        refine q_icmp_ge (tgt := 78) E (dat dkX9_runScript 26 rfl) rfl rfl rfl (by omega) (by omega) (fun h50 => ?_) (fun h50 => ?_)
        ·
          refine r_iload_n E (dat dkX9_runScript 38 rfl) rfl rfl ?_
          refine r_ireturn E (dat dkX9_runScript 39 rfl) (by decide) (by decide) ?_
          refine Or.inr ⟨by first | exact h24 | assumption, ?_, ?_⟩
          · first
              | (rw [hI, exC_hit hi h69]; refine congrArg _ ?_; exact exK_z _ h69)
              | (rw [hI, exC_no (Nat.le_refl _)])
          · first
              | rw [hI, exC_hit hi h69]
              | rw [hI, exC_no (Nat.le_refl _)]
        ·
          have := hso.1; omega
    ·
      refine r_iconst (v := -1) E (dat dkX9_runScript 13 rfl) rfl ?_
      refine r_ireturn E (dat dkX9_runScript 14 rfl) (by decide) (by decide) ?_
      exact Or.inl ⟨by first | exact h24 | exact Decidable.not_not.mp h24, rfl, rfl⟩
