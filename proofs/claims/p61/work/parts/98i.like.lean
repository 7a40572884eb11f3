/-! comparing the law's city with the class -/
theorem cm_K2 : CM (KL ++ [11] ++ [11]) lkC KC lkC [] := cm_nil0 (by decide)
theorem gS19 {M : Mem} {A : Nat → Nat → Int32} {t k : Nat} {v : Int32} (h : A t k = v) : setm M 19 A 19 t k = v := by rw [setm_s]; exact h
theorem sS19 {M : Mem} {A A2 : Nat → Nat → Int32} {t : Nat} {f : Nat → Int32} (h : sett A t f = A2) : setm (setm M 19 A) 19 (sett (setm M 19 A 19) t f) = setm M 19 A2 := by rw [setm_s, setm_ss, h]
theorem gX19 {M : Mem} {Z A : Nat → Nat → Int32} {f g : Nat → Int32} {t k : Nat} {v : Int32} (h19 : M 19 = A) (h : A t k = v) : XM M Z f g 19 t k = v := by rw [XM_o (by decide) (by decide) (by decide), h19]; exact h
theorem fl0 {x : PP} {T : Nat → Nat → Int32} {k o : Nat} (h : 0 ≤ (T 1 k).toInt) : 0 ≤ (flO x.2.1 (T 1) k (some o)).toInt := (fl_b h).1
theorem flI {f : Int32} (h0 : 0 ≤ f.toInt) (h : ¬ f = 0) : ¬ f ≤ 0 := fun q => h (Int32.toInt_inj.mp (by have := i_le.mp q; rw [i_0] at this ⊢; omega))
theorem cl_J {x : PP} {v R c w : Nat} (hv : v = x.1.2.1) (hR : 1 ≤ R) (hC : 1 ≤ dC c w) (hc : 1 ≤ c) : (nI R - 1) * nI v + nI c + rtI w - 1 = nI (clC x R (dC c w)) := by
  obtain ⟨a, rfl⟩ : ∃ a, R = a + 1 := ⟨R - 1, by omega⟩
  have e2 := rt_c (c := c) (w := w) hc
  obtain ⟨b, hb⟩ : ∃ b, dC c w = b + 1 := ⟨dC c w - 1, by omega⟩
  rw [hb] at e2 ⊢
  unfold clC
  rw [Nat.add_sub_cancel, Nat.add_sub_cancel, ← hv, show nI (a + 1) = nI a + 1 from (nI_1 a).symm, show nI (a * v + b) = nI a * nI v + nI b by rw [pk_mul, nI_add]]
  rw [← nI_1 b] at e2
  grind
theorem boot_I {x : PP} {q : Nat} : (nI (q / x.1.2.1 + 1) - 1) * nI x.1.2.1 + nI (q % x.1.2.1 + 1) - 1 = nI q := by
  rw [cl_I, Nat.div_add_mod' q x.1.2.1]
set_option maxRecDepth 100000 in
set_option maxHeartbeats 16000000 in
theorem sp_L_isLike (l : Launch) (hst : l.stackTraces = false) (G : GT) (be nm : Nat → Int32) (BP : Nat → Nat → Int32) (x : PP) (q : Nat) (B T : Nat → Nat → Int32) (L9 : Int) (M : Mem) (hC : CI x be nm BP q M) (h10 : (M 0 0 10).toNatClampNeg < 20) (h3 : M 3 = T) (h19 : M 19 = LE B x T) (hw : LWi x) (hB : WLi B x) (hh : HTi x) (hS : LSt x B T L9) (hm : (T 0 7).toInt ≤ 200) : MC l G yL_isLike cL_isLike 10 (some .boolean) ({ frames := 27, cells := 1350, slots := 8168, locals := 720 } : Room) KL lkC [rv 19 0, rv 0 0] M (fun r M2 => r = some (iv 1) ∧ ∃ Z B', WLi B' x ∧ RTi B' x T ∧ M2 = setm (setm M 15 Z) 19 (LE B' x T)) := by
  refine MC.of RL [some (rv 19 0), some (rv 0 0), none, none, none, none, none, none, none, none] 8 (by decide +kernel) rfl rfl rfl ?_
  intro pp ee ss mm aa bb me cd ad E
  have E0 := E
  obtain ⟨hZ, hX, hpl, hwt, hrt, hcn⟩ := hS
  have hx := hC.2.2.2.1
  have h64 := ce_64 hx
  have h25 := LW_25 hx hw
  have hro := hw.1.2
  have hco := hw.2.1.2
  have hT : WBi x T := ⟨hX.2.2.1, Int.le_trans hX.2.2.2 (by omega)⟩
  obtain ⟨p9, hP⟩ := pd_ex hx (T 1)
  obtain ⟨Lq, hL⟩ : ∃ Lq, pdL (T 1) x.1.2.2 p9 Lq := ⟨_, fun c _ => rfl⟩
  refine r_mem (M' := setm M 19 (LE (MB B 0 0) x T)) (by rw [MB_0, ← h19, setm_self]) ?_
  refine r_aload_n E (dat dkL_isLike_k0 0 rfl) rfl rfl ?_
  refine r_callV (κ := 8) (μ := []) E (kd_minute l G h3) my_X9_minute iv_X9_minute ml_L_168 cm_KL ⟨by decide, rfl, rfl⟩ rfl rfl rfl rfl (by decide) (Nat.le_of_ble_eq_true rfl) (dat dkL_isLike_k0 1 rfl) ?_
  rintro _ _ ⟨rfl, rfl⟩
  refine ⟨_, Mrg_z rfl, ?_⟩
  refine r_aload_n E (dat dkL_isLike_k0 2 rfl) rfl rfl ?_
  refine q_getn E fl_L_92 (dat dkL_isLike_k0 3 rfl) rfl rfl rfl (gS19 LE_v16) ?_
  refine r_icmp_ne (tgt := 66) E (dat dkL_isLike_k0 4 rfl) rfl (fun h8 => ?_) (fun h8 => ?_)
  ·
    exact absurd rfl h8
  ·
    refine r_aload_n E (dat dkL_isLike_k0 5 rfl) rfl rfl ?_
    refine r_callV (κ := 8) (μ := []) E (kd_rain l G h3) my_X9_rain iv_X9_rain ml_L_170 cm_KL ⟨by decide, rfl, rfl⟩ rfl rfl rfl rfl (by decide) (Nat.le_of_ble_eq_true rfl) (dat dkL_isLike_k0 6 rfl) ?_
    rintro _ _ ⟨rfl, rfl⟩
    refine ⟨_, Mrg_z rfl, ?_⟩
    refine r_aload_n E (dat dkL_isLike_k0 7 rfl) rfl rfl ?_
    refine q_getn E fl_L_101 (dat dkL_isLike_k0 8 rfl) rfl rfl rfl (gS19 LE_v15) ?_
    refine r_icmp_ne (tgt := 66) E (dat dkL_isLike_k0 9 rfl) rfl (fun h19 => ?_) (fun h19 => ?_)
    ·
      exact absurd rfl h19
    ·
      refine r_aload_n E (dat dkL_isLike_k0 10 rfl) rfl rfl ?_
      refine r_callV (κ := 8) (μ := []) E (kd_rained l G h3) my_X9_rained iv_X9_rained ml_L_172 cm_KL ⟨by decide, rfl, rfl⟩ rfl rfl rfl rfl (by decide) (Nat.le_of_ble_eq_true rfl) (dat dkL_isLike_k0 11 rfl) ?_
      rintro _ _ ⟨rfl, rfl⟩
      refine ⟨_, Mrg_z rfl, ?_⟩
      refine r_aload_n E (dat dkL_isLike_k0 12 rfl) rfl rfl ?_
      refine q_getn E fl_L_104 (dat dkL_isLike_k0 13 rfl) rfl rfl rfl (gS19 LE_v17) ?_
      refine r_icmp_ne (tgt := 66) E (dat dkL_isLike_k0 14 rfl) rfl (fun h30 => ?_) (fun h30 => ?_)
      ·
        exact absurd rfl h30
      ·
        refine r_aload_n E (dat dkL_isLike_k0 15 rfl) rfl rfl ?_
        refine r_callV (κ := 8) (μ := []) E (kd_fromHydrants l G h3) my_X9_fromHydrants iv_X9_fromHydrants ml_L_174 cm_KL ⟨by decide, rfl, rfl⟩ rfl rfl rfl rfl (by decide) (Nat.le_of_ble_eq_true rfl) (dat dkL_isLike_k0 16 rfl) ?_
        rintro _ _ ⟨rfl, rfl⟩
        refine ⟨_, Mrg_z rfl, ?_⟩
        refine r_aload_n E (dat dkL_isLike_k0 17 rfl) rfl rfl ?_
        refine q_getn E fl_L_107 (dat dkL_isLike_k0 18 rfl) rfl rfl rfl (gS19 LE_v18) ?_
        refine r_icmp_ne (tgt := 66) E (dat dkL_isLike_k0 19 rfl) rfl (fun h41 => ?_) (fun h41 => ?_)
        ·
          exact absurd rfl h41
        ·
          refine r_aload_n E (dat dkL_isLike_k0 20 rfl) rfl rfl ?_
          refine r_callV (κ := 8) (μ := []) E (kd_drained l G h3) my_X9_drained iv_X9_drained ml_L_177 cm_KL ⟨by decide, rfl, rfl⟩ rfl rfl rfl rfl (by decide) (Nat.le_of_ble_eq_true rfl) (dat dkL_isLike_k0 21 rfl) ?_
          rintro _ _ ⟨rfl, rfl⟩
          refine ⟨_, Mrg_z rfl, ?_⟩
          refine r_aload_n E (dat dkL_isLike_k0 22 rfl) rfl rfl ?_
          refine q_getn E fl_L_88 (dat dkL_isLike_k0 23 rfl) rfl rfl rfl (gS19 LE_v19) ?_
          refine r_icmp_ne (tgt := 66) E (dat dkL_isLike_k0 24 rfl) rfl (fun h52 => ?_) (fun h52 => ?_)
          ·
            exact absurd rfl h52
          ·
            refine r_aload_n E (dat dkL_isLike_k0 25 rfl) rfl rfl ?_
            refine r_callV (κ := 8) (μ := []) E (kd_evaporated l G h3) my_X9_evaporated iv_X9_evaporated ml_L_179 cm_KL ⟨by decide, rfl, rfl⟩ rfl rfl rfl rfl (by decide) (Nat.le_of_ble_eq_true rfl) (dat dkL_isLike_k0 26 rfl) ?_
            rintro _ _ ⟨rfl, rfl⟩
            refine ⟨_, Mrg_z rfl, ?_⟩
            refine r_aload_n E (dat dkL_isLike_k0 27 rfl) rfl rfl ?_
            refine q_getn E fl_L_113 (dat dkL_isLike_k0 28 rfl) rfl rfl rfl (gS19 LE_v20) ?_
            refine r_icmp_eq (tgt := 68) E (dat dkL_isLike_k0 29 rfl) rfl (fun h63 => ?_) (fun h63 => ?_)
            ·
              refine r_aload_n E (dat dkL_isLike_k0 32 rfl) rfl rfl ?_
              refine q_geta E fl_L_29 (dat dkL_isLike_k0 33 rfl) rfl rfl rfl ?_
              refine r_astore_2 E (dat dkL_isLike_k0 34 rfl) rfl rfl ?_
              refine r_aload_n E (dat dkL_isLike_k0 35 rfl) rfl rfl ?_
              refine r_alen E (dat dkL_isLike_k0 36 rfl) rfl (by decide) rfl rfl ?_
              refine r_istore_3 E (dat dkL_isLike_k0 37 rfl) rfl rfl ?_
              refine r_iconst (v := 0) E (dat dkL_isLike_k0 38 rfl) rfl ?_
              refine r_istore_4 E (dat dkL_isLike_k0 39 rfl) rfl rfl ?_
              refine r_for (7) (fun _ => True) (fun i => setm M 19 (LE (MB B i 0) x T)) (fun i => [some (rv 19 0), some (rv 0 0), some (rv 19 7), some (iv (nI 7)), some (iv (nI i)), none, none, none, none, none]) trivial rfl rfl ?_ ?_
              · intro i hi hI ki
                refine r_iload E (dat dkL_isLike_k0 40 rfl) rfl ?_
                refine r_iload_n E (dat dkL_isLike_k0 41 rfl) rfl rfl ?_
                refine q_icmp_ge (tgt := 119) E (dat dkL_isLike_k0 42 rfl) rfl rfl (b := 7) rfl (by omega) (by omega) (fun h82 => ?_) (fun h82 => ?_)
                ·
                  omega
                ·
                  refine r_aload_n E (dat dkL_isLike_k0 43 rfl) rfl rfl ?_
                  refine r_iload E (dat dkL_isLike_k0 44 rfl) rfl ?_
                  refine q_laa (a := 6) E (dat dkL_isLike_k0 45 rfl) rfl rfl rfl (by decide) rfl hi ?_
                  refine r_astore_5 E (dat dkL_isLike_k0 46 rfl) rfl rfl ?_
                  refine r_iconst (v := 0) E (dat dkL_isLike_k0 47 rfl) rfl ?_
                  refine r_istore_6 E (dat dkL_isLike_k0 48 rfl) rfl rfl ?_
                  refine r_for (7) (fun _ => True) (fun k => setm M 19 (LE (MB B i k) x T)) (fun k => [some (rv 19 0), some (rv 0 0), some (rv 19 7), some (iv (nI 7)), some (iv (nI i)), some (rv 19 (20 + 7 * 6 + i)), some (iv (nI k)), none, none, none]) trivial rfl rfl ?_ ?_
                  · intro k hk hIk kk
                    refine r_iload E (dat dkL_isLike_k0 49 rfl) rfl ?_
                    refine r_bipush (v := 7) E (dat dkL_isLike_k1 0 rfl) rfl ?_
                    refine q_icmp_ge (tgt := 113) E (dat dkL_isLike_k1 1 rfl) rfl rfl (b := 7) rfl (by omega) (by omega) (fun h98 => ?_) (fun h98 => ?_)
                    ·
                      omega
                    ·
                      refine r_aload E (dat dkL_isLike_k1 2 rfl) rfl ?_
                      refine r_iload E (dat dkL_isLike_k1 3 rfl) rfl ?_
                      refine r_iconst (v := -1) E (dat dkL_isLike_k1 4 rfl) rfl ?_
                      refine q_iasv E (dat dkL_isLike_k1 5 rfl) (lae (by decide) hi) (lok (Nat.le_of_ble_eq_true rfl) rfl (by decide) hi) (by decide) rfl hk (sS19 (MB_s hi)) ?_
                      refine q_iinc_6 E (dat dkL_isLike_k1 6 rfl) rfl rfl ?_
                      refine r_goto (tgt := 94) E (dat dkL_isLike_k1 7 rfl) rfl ?_
                      exact kk trivial
                  · intro hIk
                    refine r_iload E (dat dkL_isLike_k0 49 rfl) rfl ?_
                    refine r_bipush (v := 7) E (dat dkL_isLike_k1 0 rfl) rfl ?_
                    refine q_icmp_ge (tgt := 113) E (dat dkL_isLike_k1 1 rfl) rfl rfl (b := 7) rfl (by omega) (by omega) (fun h98 => ?_) (fun h98 => ?_)
                    ·
                      refine q_iinc_4 E (dat dkL_isLike_k1 8 rfl) rfl rfl ?_
                      refine r_goto (tgt := 79) E (dat dkL_isLike_k1 9 rfl) rfl ?_
                      refine r_back ?_ ?_ (ki trivial)
                      rotate_left
                      · exact ⟨rfl, rfl, rfl, rfl, rfl, trivial⟩
                      · rw [MB_7]
                    ·
                      omega
              · intro hI
                refine r_iload E (dat dkL_isLike_k0 40 rfl) rfl ?_
                refine r_iload_n E (dat dkL_isLike_k0 41 rfl) rfl rfl ?_
                refine q_icmp_ge (tgt := 119) E (dat dkL_isLike_k0 42 rfl) rfl rfl (b := 7) rfl (by omega) (by omega) (fun h82 => ?_) (fun h82 => ?_)
                ·
                  refine r_iconst (v := 0) E (dat dkL_isLike_k1 10 rfl) rfl ?_
                  refine r_istore_2 E (dat dkL_isLike_k1 11 rfl) rfl rfl ?_
                  refine r_iconst (v := 1) E (dat dkL_isLike_k1 12 rfl) rfl ?_
                  refine r_istore_3 E (dat dkL_isLike_k1 13 rfl) rfl rfl ?_
                  rw [← MB_K hw]
                  refine r_back (L2 := [some (rv 19 0), some (rv 0 0), some (iv (nI (kN (rp Lq) (0 * x.1.2.1)))), some (iv (nI (0 + 1))), none, none, none, none, none, none]) rfl ⟨rfl, rfl, (by rw [Nat.zero_mul]; rfl), rfl, trivial⟩ ?_
                  refine r_forX (β := Nat → Int32) (x.1.1) (fun r mk => mI x (T 1) p9 Lq (r * x.1.2.1) mk) (fun _ => 0) (fun _ => 0) (fun r mk => setm M 19 (LE (LK (MB B 7 0) x mk) x T)) (fun r mk => [some (rv 19 0), some (rv 0 0), some (iv (nI (kN (rp Lq) (r * x.1.2.1)))), some (iv (nI (r + 1))), none, none, none, none, none, none]) (fun _ => -1) (by rw [Nat.zero_mul]; exact mI_0) rfl rfl rfl rfl ?_ ?_
                  · intro r mk hr hIr kr
                    refine r_iload_n E (dat dkL_isLike_k1 14 rfl) rfl rfl ?_
                    refine r_aload_n E (dat dkL_isLike_k1 15 rfl) rfl rfl ?_
                    refine q_getn E fl_L_95 (dat dkL_isLike_k1 16 rfl) rfl rfl rfl (gS19 LE_v12) ?_
                    refine q_icmp_gt (tgt := 193) E (dat dkL_isLike_k1 17 rfl) rfl rfl rfl (by omega) (by omega) (fun h128 => ?_) (fun h128 => ?_)
                    ·
                      omega
                    ·
                      refine r_iconst (v := 1) E (dat dkL_isLike_k1 18 rfl) rfl ?_
                      refine r_istore_4 E (dat dkL_isLike_k1 19 rfl) rfl rfl ?_
                      refine r_forX (β := Nat → Int32) (x.1.2.1) (fun c mk => mI x (T 1) p9 Lq (r * x.1.2.1 + c) mk) (fun _ => 0) (fun _ => 0) (fun c mk => setm M 19 (LE (LK (MB B 7 0) x mk) x T)) (fun c mk => [some (rv 19 0), some (rv 0 0), some (iv (nI (kN (rp Lq) (r * x.1.2.1 + c)))), some (iv (nI (r + 1))), some (iv (nI (c + 1))), none, none, none, none, none]) mk hIr rfl rfl rfl rfl ?_ ?_
                      · intro c mk hc hIc kc
                        have hin : inC x (r + 1) (c + 1) := ⟨⟨by omega, by omega⟩, by omega, by omega⟩
                        have hcl : clC x (r + 1) (c + 1) = r * x.1.2.1 + c := rfl
                        have hkn : r * x.1.2.1 + c < x.1.2.2 := clC_lt hx.2.2.1 hin
                        have hr7 : r + 1 < 7 := by omega
                        have hc7 : c + 1 < 7 := by omega
                        have hw0 := (WB_k hT hkn).1
                        refine r_iload E (dat dkL_isLike_k1 20 rfl) rfl ?_
                        refine r_aload_n E (dat dkL_isLike_k1 21 rfl) rfl rfl ?_
                        refine q_getn E fl_L_98 (dat dkL_isLike_k1 22 rfl) rfl rfl rfl (gS19 LE_v13) ?_
                        refine q_icmp_gt (tgt := 187) E (dat dkL_isLike_k1 23 rfl) rfl rfl rfl (by omega) (by omega) (fun h140 => ?_) (fun h140 => ?_)
                        ·
                          omega
                        ·
                          refine r_aload_n E (dat dkL_isLike_k1 24 rfl) rfl rfl ?_
                          refine q_geta E fl_L_14 (dat dkL_isLike_k1 25 rfl) rfl rfl rfl ?_
                          refine r_iload_n E (dat dkL_isLike_k1 26 rfl) rfl rfl ?_
                          refine q_laa (a := 1) E (dat dkL_isLike_k1 27 rfl) rfl rfl rfl (by decide) rfl hr7 ?_
                          refine r_iload E (dat dkL_isLike_k1 28 rfl) rfl ?_
                          refine q_ialv E (dat dkL_isLike_k1 29 rfl) (lae (by decide) hr7) (lok (Nat.le_of_ble_eq_true rfl) rfl (by decide) hr7) (by decide) rfl hc7 (gS19 (LE_wk hr7 hin hcl)) ?_
                          refine r_if_eq (tgt := 181) E (dat dkL_isLike_k1 30 rfl) rfl (fun h152 => ?_) (fun h152 => ?_)
                          ·
                            obtain ⟨hI2, hk2⟩ : mI x (T 1) p9 Lq (r * x.1.2.1 + (c + 1)) mk ∧ kN (rp Lq) (r * x.1.2.1 + (c + 1)) = kN (rp Lq) (r * x.1.2.1 + c) := mI_skip (i := r * x.1.2.1 + c) h64 hP hL hkn hIc (Or.inl (fun q9 => by rw [h152] at q9; exact absurd q9 (by decide)))
                            refine q_iinc_4 E (dat dkL_isLike_k1 45 rfl) rfl rfl ?_
                            refine r_goto (tgt := 134) E (dat dkL_isLike_k1 46 rfl) rfl ?_
                            refine r_back ?_ ?_ (kc _ hI2)
                            rotate_left
                            · exact ⟨rfl, rfl, (by rw [hk2]), rfl, rfl, trivial⟩
                            · rfl
                          ·
                            have hwp : 0 < T 1 (r * x.1.2.1 + c) := i_lt.mpr (by have := i_0; have : ¬ (T 1 (r * x.1.2.1 + c)).toInt = 0 := fun q9 => h152 (Int32.toInt_inj.mp (q9.trans i_0.symm)); omega)
                            refine r_aload_n E (dat dkL_isLike_k1 31 rfl) rfl rfl ?_
                            refine q_geta E fl_L_29 (dat dkL_isLike_k1 32 rfl) rfl rfl rfl ?_
                            refine r_iload_n E (dat dkL_isLike_k1 33 rfl) rfl rfl ?_
                            refine q_laa (a := 6) E (dat dkL_isLike_k1 34 rfl) rfl rfl rfl (by decide) rfl hr7 ?_
                            refine r_iload E (dat dkL_isLike_k1 35 rfl) rfl ?_
                            refine q_ialv E (dat dkL_isLike_k1 36 rfl) (lae (by decide) hr7) (lok (Nat.le_of_ble_eq_true rfl) rfl (by decide) hr7) (by decide) rfl hc7 (gS19 ((LE_raw (Or.inr rfl) hr7).trans (LK_in hr7 hin))) ?_
                            refine r_if_lt (tgt := 170) E (dat dkL_isLike_k1 37 rfl) rfl (fun h164 => ?_) (fun h164 => ?_)
                            ·
                              have hmk1 := (MK_0 (mI_K h64 hP hIc) hkn).mp h164
                              refine r_aload_n E (dat dkL_isLike_k1 39 rfl) rfl rfl ?_
                              refine r_iload_n E (dat dkL_isLike_k1 40 rfl) rfl rfl ?_
                              refine r_iload E (dat dkL_isLike_k1 41 rfl) rfl ?_
                              refine r_iload_n E (dat dkL_isLike_k1 42 rfl) rfl rfl ?_
                              refine r_callV (κ := 9) (μ := [19]) E (sp_L_fill l G (MB B 7 0) x T p9 (kN (rp Lq) (r * x.1.2.1 + c)) hx hw (MB_W hB) hh hT hP (by have := kN_le (rp Lq) (r * x.1.2.1 + c); omega) 25 mk (r + 1) (c + 1) _ rfl (mI_K h64 hP hIc) hr7 hc7 (Nat.le_trans (kN_le _ _) h25)) my_L_fill iv_L_fill ml_L_124 (cm_of rfl) ⟨by decide, rfl, rfl⟩ rfl rfl rfl rfl (by decide) (Nat.le_of_ble_eq_true rfl) (dat dkL_isLike_k1 43 rfl) ?_
                              rintro _ _ ⟨rfl, m2, -, -, hB2, rfl⟩
                              refine ⟨_, Mrg_e (i := 0) (by decide) (by decide) setm_ss rfl, ?_⟩
                              obtain ⟨hI2, hk2⟩ : mI x (T 1) p9 Lq (r * x.1.2.1 + (c + 1)) m2 ∧ kN (rp Lq) (r * x.1.2.1 + (c + 1)) = kN (rp Lq) (r * x.1.2.1 + c) + 1 := mI_fill (i := r * x.1.2.1 + c) h64 (nbx_lt hx) hP hL hkn hIc hwp hmk1 (hB2 hin)
                              refine q_iinc_2 E (dat dkL_isLike_k1 44 rfl) rfl rfl ?_
                              refine q_iinc_4 E (dat dkL_isLike_k1 45 rfl) rfl rfl ?_
                              refine r_goto (tgt := 134) E (dat dkL_isLike_k1 46 rfl) rfl ?_
                              refine r_back ?_ ?_ (kc _ hI2)
                              rotate_left
                              · exact ⟨rfl, rfl, (by rw [hk2]), rfl, rfl, trivial⟩
                              · rfl
                            ·
                              obtain ⟨hI2, hk2⟩ : mI x (T 1) p9 Lq (r * x.1.2.1 + (c + 1)) mk ∧ kN (rp Lq) (r * x.1.2.1 + (c + 1)) = kN (rp Lq) (r * x.1.2.1 + c) := mI_skip (i := r * x.1.2.1 + c) h64 hP hL hkn hIc (Or.inr (fun q9 => h164 ((MK_0 (mI_K h64 hP hIc) hkn).mpr q9)))
                              refine r_goto (tgt := 181) E (dat dkL_isLike_k1 38 rfl) rfl ?_
                              refine q_iinc_4 E (dat dkL_isLike_k1 45 rfl) rfl rfl ?_
                              refine r_goto (tgt := 134) E (dat dkL_isLike_k1 46 rfl) rfl ?_
                              refine r_back ?_ ?_ (kc _ hI2)
                              rotate_left
                              · exact ⟨rfl, rfl, (by rw [hk2]), rfl, rfl, trivial⟩
                              · rfl
                      · intro mk hIc
                        refine r_iload E (dat dkL_isLike_k1 20 rfl) rfl ?_
                        refine r_aload_n E (dat dkL_isLike_k1 21 rfl) rfl rfl ?_
                        refine q_getn E fl_L_98 (dat dkL_isLike_k1 22 rfl) rfl rfl rfl (gS19 LE_v13) ?_
                        refine q_icmp_gt (tgt := 187) E (dat dkL_isLike_k1 23 rfl) rfl rfl rfl (by omega) (by omega) (fun h140 => ?_) (fun h140 => ?_)
                        ·
                          refine q_iinc_3 E (dat dkL_isLike_k1 47 rfl) rfl rfl ?_
                          refine r_goto (tgt := 123) E (dat dkL_isLike_k1 48 rfl) rfl ?_
                          have hI2 : mI x (T 1) p9 Lq ((r + 1) * x.1.2.1) mk := by rw [Nat.succ_mul]; exact hIc
                          refine r_back ?_ ?_ (kr _ hI2)
                          rotate_left
                          · exact ⟨rfl, rfl, (by rw [Nat.succ_mul]), rfl, trivial⟩
                          · rfl
                        ·
                          omega
                  · intro mk hIr
                    refine r_iload_n E (dat dkL_isLike_k1 14 rfl) rfl rfl ?_
                    refine r_aload_n E (dat dkL_isLike_k1 15 rfl) rfl rfl ?_
                    refine q_getn E fl_L_95 (dat dkL_isLike_k1 16 rfl) rfl rfl rfl (gS19 LE_v12) ?_
                    refine q_icmp_gt (tgt := 193) E (dat dkL_isLike_k1 17 rfl) rfl rfl rfl (by omega) (by omega) (fun h128 => ?_) (fun h128 => ?_)
                    ·
                      have hI9 : mI x (T 1) p9 Lq x.1.2.2 mk := by rw [hx.2.2.1]; exact hIr
                      have hk9 : kN (rp Lq) (x.1.1 * x.1.2.1) = kN (rp Lq) x.1.2.2 := by rw [hx.2.2.1]
                      rw [hk9]
                      have hB9 : WLi (LK (MB B 7 0) x mk) x := LK_W (MB_W hB)
                      have hR9 : RTi (LK (MB B 7 0) x mk) x T := LK_R hw (MB_R hw hrt)
                      have hK9 : ∀ r c, r < 7 → inC x r c → LK (MB B 7 0) x mk (20 + 7 * 6 + r) c = if 0 < T 1 (clC x r c) then nI (kN (rp Lq) (p9 (clC x r c))) else -1 := by
                        intro r c hr hin
                        have hkn := clC_lt hx.2.2.1 hin
                        rw [LK_in hr hin, hI9 _ hkn]
                        by_cases h1 : 0 < T 1 (clC x r c)
                        · have := (hP.1 _ hkn h1).1
                          rw [if_pos h1, if_pos ⟨h1, by omega⟩]
                        · rw [if_neg h1, if_neg (fun q9 => h1 q9.1)]
                      generalize LK (MB B 7 0) x mk = B9 at hB9 hR9 hK9 ⊢
                      clear hI9 hIr hk9
                      obtain ⟨M1, hM1⟩ : ∃ M1, M1 = setm M 19 (LE B9 x T) := ⟨_, rfl⟩
                      rw [← hM1]
                      have hC1 : CI x be nm BP q M1 := hM1 ▸ CI_19 hC
                      have h31 : M1 3 = T := by rw [hM1]; exact h3
                      have h191 : M1 19 = LE B9 x T := by rw [hM1]; exact setm_s
                      have h3X : ∀ {Z : Nat → Nat → Int32} {f g : Nat → Int32}, vw [] (XM M1 Z f g) 3 = T := fun {Z f g} => h31
                      have hCX : ∀ {Z : Nat → Nat → Int32} {f g : Nat → Int32}, CI x be nm BP q (vw [] (XM M1 Z f g)) := fun {Z f g} => CI_X hC1
                      have hAX : ∀ {Z : Nat → Nat → Int32} {f g : Nat → Int32}, vw [19] (XM M1 Z f g) 0 = LE B9 x T := fun {Z f g} => h191
                      have hMo : ∀ j, j ≠ 19 → M1 j = M j := fun j hj => by rw [hM1]; exact setm_n hj
                      have h9 : (M1 0 0 9).toNatClampNeg < 20 := by rw [hC1.1]; have := hC1.2.1; omega
                      have h101 : (M1 0 0 10).toNatClampNeg < 20 := by rw [hMo 0 (by decide)]; exact h10
                      clear hM1
                      refine r_bipush (v := 40) E (dat dkL_isLike_k1 49 rfl) rfl ?_
                      refine r_newI (κ := 11) (N := 40) E (dat dkL_isLike_k2 0 rfl) an_int rfl rfl (by decide) rfl (by decide) (Nat.le_of_ble_eq_true rfl) (Nat.le_of_ble_eq_true rfl) (eOK_KL (κs := []) ⟨by decide, fun _ h => by cases h⟩ h9 h101) (fun _ => rfl) (fun _ => rfl) (fun qa E1 hAS1 => ?_)
                      clear E
                      have E := E1
                      refine r_astore_3 E (dat dkL_isLike_k2 1 rfl) rfl rfl ?_
                      refine r_bipush (v := 40) E (dat dkL_isLike_k2 2 rfl) rfl ?_
                      refine r_newI (κ := 11) (N := 40) E (dat dkL_isLike_k2 3 rfl) an_int rfl rfl (by decide) rfl (by decide) (Nat.le_of_ble_eq_true rfl) (Nat.le_of_ble_eq_true rfl) (eOK_KL (κs := [11]) ⟨by decide, fun κ h => by rcases List.mem_singleton.mp h with rfl; decide⟩ h9 h101) (fun _ => rfl) (fun _ => rfl) (fun qb E2 hAS2 => ?_)
                      refine r_mem (M' := XM M1 (M1 15) (fun _ => 0) (fun _ => 0)) XM_i.symm ?_
                      clear E
                      have E := E2
                      refine r_astore_4 E (dat dkL_isLike_k2 4 rfl) rfl rfl ?_
                      refine r_iconst (v := 1) E (dat dkL_isLike_k2 5 rfl) rfl ?_
                      refine r_istore_5 E (dat dkL_isLike_k2 6 rfl) rfl rfl ?_
                      refine r_wide (k2 := 2) (n2 := 80) (by decide) (by decide) ?_
                      refine r_forX (β := Nat → Nat → Int32) (x.1.1) (fun r Z => True) (fun r => 2 + 180 * r) (fun r => 80 + 1080 * r) (fun r Z => XM M1 Z (szA (T 1) p9 Lq (r * x.1.2.1)) (smA (T 1) p9 Lq (r * x.1.2.1))) (fun r Z => [some (rv 19 0), some (rv 0 0), some (iv (nI (kN (rp Lq) x.1.2.2))), some (rv 20 0), some (rv 21 0), some (iv (nI (r + 1))), none, none, none, none]) (M1 15) trivial rfl rfl (by rw [Nat.zero_mul, szA_0, smA_0]) rfl ?_ ?_
                      · intro r Z hr hIr kr
                        refine r_iload E (dat dkL_isLike_k2 7 rfl) rfl ?_
                        refine r_aload_n E (dat dkL_isLike_k2 8 rfl) rfl rfl ?_
                        refine q_getn E fl_L_95 (dat dkL_isLike_k2 9 rfl) rfl rfl rfl (gX19 h191 LE_v12) ?_
                        refine q_icmp_gt (tgt := 551) E (dat dkL_isLike_k2 10 rfl) rfl rfl rfl (by omega) (by omega) (fun h213 => ?_) (fun h213 => ?_)
                        ·
                          omega
                        ·
                          refine r_iconst (v := 1) E (dat dkL_isLike_k2 11 rfl) rfl ?_
                          refine r_istore_6 E (dat dkL_isLike_k2 12 rfl) rfl rfl ?_
                          refine r_forX (β := Nat → Nat → Int32) (x.1.2.1) (fun c Z => True) (fun c => 2 + 180 * r + 36 * c) (fun c => 80 + 1080 * r + 216 * c) (fun c Z => XM M1 Z (szA (T 1) p9 Lq (r * x.1.2.1 + c)) (smA (T 1) p9 Lq (r * x.1.2.1 + c))) (fun c Z => [some (rv 19 0), some (rv 0 0), some (iv (nI (kN (rp Lq) x.1.2.2))), some (rv 20 0), some (rv 21 0), some (iv (nI (r + 1))), some (iv (nI (c + 1))), none, none, none]) Z trivial rfl rfl rfl rfl ?_ ?_
                          · intro c Z hc hIc kc
                            have hin : inC x (r + 1) (c + 1) := ⟨⟨by omega, by omega⟩, by omega, by omega⟩
                            have hcl : clC x (r + 1) (c + 1) = r * x.1.2.1 + c := rfl
                            have hkn : r * x.1.2.1 + c < x.1.2.2 := clC_lt hx.2.2.1 hin
                            have hr7 : r + 1 < 7 := by omega
                            have hc7 : c + 1 < 7 := by omega
                            have hcell := cl_I (x := x) (r := r) (c := c)
                            have hw0 := (WB_k hT hkn).1
                            obtain ⟨hin2, hlo⟩ := lwW_of hx hw hB9 hh hT hin
                            rw [hcl] at hlo
                            have hw4 := @lwW_lt B9 x T (r + 1) (c + 1)
                            have hd1 := @dR_b (r + 1) (lwW B9 x T (r + 1) (c + 1))
                            have hd2 := @dC_b (c + 1) (lwW B9 x T (r + 1) (c + 1))
                            generalize hw9 : lwW B9 x T (r + 1) (c + 1) = w9 at hin2 hlo hw4 hd1 hd2
                            generalize ho : clC x (dR (r + 1) w9) (dC (c + 1) w9) = o at hlo
                            have hmv0 := hK9 (r + 1) (c + 1) hr7 hin
                            rw [hcl] at hmv0
                            generalize hmva : (if 0 < T 1 (r * x.1.2.1 + c) then nI (kN (rp Lq) (p9 (r * x.1.2.1 + c))) else -1) = mv at hmv0
                            have hmv := hmv0
                            refine r_iload E (dat dkL_isLike_k2 13 rfl) rfl ?_
                            refine r_aload_n E (dat dkL_isLike_k2 14 rfl) rfl rfl ?_
                            refine q_getn E fl_L_98 (dat dkL_isLike_k2 15 rfl) rfl rfl rfl (gX19 h191 LE_v13) ?_
                            refine q_icmp_gt (tgt := 545) E (dat dkL_isLike_k2 16 rfl) rfl rfl rfl (by omega) (by omega) (fun h225 => ?_) (fun h225 => ?_)
                            ·
                              omega
                            ·
                              refine r_iload E (dat dkL_isLike_k2 17 rfl) rfl ?_
                              refine r_iconst (v := 1) E (dat dkL_isLike_k2 18 rfl) rfl ?_
                              refine r_isub E (dat dkL_isLike_k2 19 rfl) ?_
                              refine r_aload_n E (dat dkL_isLike_k2 20 rfl) rfl rfl ?_
                              refine q_getn E fl_L_98 (dat dkL_isLike_k2 21 rfl) rfl rfl rfl (gX19 h191 LE_v13) ?_
                              refine r_imul E (dat dkL_isLike_k2 22 rfl) ?_
                              refine r_iload E (dat dkL_isLike_k2 23 rfl) rfl ?_
                              refine r_iadd E (dat dkL_isLike_k2 24 rfl) ?_
                              refine r_iconst (v := 1) E (dat dkL_isLike_k2 25 rfl) rfl ?_
                              refine r_isub E (dat dkL_isLike_k2 26 rfl) ?_
                              rw [hcell]
                              refine r_istore_7 E (dat dkL_isLike_k2 27 rfl) rfl rfl ?_
                              refine r_aload_n E (dat dkL_isLike_k2 28 rfl) rfl rfl ?_
                              refine r_iload E (dat dkL_isLike_k2 29 rfl) rfl ?_
                              refine r_iload E (dat dkL_isLike_k2 30 rfl) rfl ?_
                              refine r_callV (κ := 9) (μ := [19]) E (sp_L_flow l G B9 x T (r + 1) (c + 1) _ hAX hx hw hB9 hh hT hin) my_L_flow iv_L_flow ml_L_110 (cm_of rfl) ⟨by decide, rfl, rfl⟩ rfl rfl rfl rfl ⟨by decide, by decide, by dsimp only; omega, by dsimp only; omega⟩ (Nat.le_of_ble_eq_true rfl) (dat dkL_isLike_k2 31 rfl) ?_
                              rintro _ _ ⟨rfl, rfl⟩
                              refine ⟨_, Mrg_z rfl, ?_⟩
                              rw [hcl, hlo]
                              have hf0 := fl0 (x := x) (T := T) hw0 (k := r * x.1.2.1 + c) (o := o)
                              generalize hf9 : flO x.2.1 (T 1) (r * x.1.2.1 + c) (some o) = f9 at hf0 ⊢
                              refine r_istore_8 E (dat dkL_isLike_k2 32 rfl) rfl rfl ?_
                              refine r_aload_n E (dat dkL_isLike_k2 33 rfl) rfl rfl ?_
                              refine r_iload E (dat dkL_isLike_k2 34 rfl) rfl ?_
                              refine r_iload E (dat dkL_isLike_k2 35 rfl) rfl ?_
                              refine r_callV (κ := 9) (μ := [19]) E (sp_L_lowest l G B9 x T (r + 1) (c + 1) _ hAX (by omega) (by omega) (by omega) (by omega)) my_L_lowest iv_L_lowest ml_L_80 (cm_of rfl) ⟨by decide, rfl, rfl⟩ rfl rfl rfl rfl ⟨by decide, by decide, by dsimp only; omega, by dsimp only; omega⟩ (Nat.le_of_ble_eq_true rfl) (dat dkL_isLike_k2 36 rfl) ?_
                              rintro _ _ ⟨rfl, rfl⟩
                              refine ⟨_, Mrg_z rfl, ?_⟩
                              rw [hw9]
                              refine r_istore_9 E (dat dkL_isLike_k2 37 rfl) rfl rfl ?_
                              refine r_cut (M2 := XM M1 Z (szA (T 1) p9 Lq (r * x.1.2.1 + (c + 1))) (smA (T 1) p9 Lq (r * x.1.2.1 + (c + 1)))) (pc2 := 319) (S2 := []) (L2 := [some (rv 19 0), some (rv 0 0), some (iv (nI (kN (rp Lq) x.1.2.2))), some (rv 20 0), some (rv 21 0), some (iv (nI (r + 1))), some (iv (nI (c + 1))), some (iv (nI (r * x.1.2.1 + c))), some (iv f9), some (iv (nI w9))]) (fun hJ => ?_) ?_
                              ·
                                refine r_aload_n E (dat dkL_isLike_k2 38 rfl) rfl rfl ?_
                                refine q_geta E fl_L_29 (dat dkL_isLike_k2 39 rfl) rfl rfl rfl ?_
                                refine r_iload E (dat dkL_isLike_k2 40 rfl) rfl ?_
                                refine q_laa (a := 6) E (dat dkL_isLike_k2 41 rfl) rfl rfl rfl (by decide) rfl (by omega) ?_
                                refine r_iload E (dat dkL_isLike_k2 42 rfl) rfl ?_
                                refine q_ialv E (dat dkL_isLike_k2 43 rfl) (lae (by decide) (by omega)) (lok (Nat.le_of_ble_eq_true rfl) rfl (by decide) (by omega)) (by decide) rfl hc7 (gX19 h191 ((LE_raw (Or.inr rfl) hr7).trans hmv)) ?_
                                refine r_if_lt (tgt := 319) E (dat dkL_isLike_k2 44 rfl) rfl (fun h274 => ?_) (fun h274 => ?_)
                                ·
                                  have hwn : ¬ 0 < T 1 (r * x.1.2.1 + c) := fun q9 => by
                                    rw [if_pos q9] at hmva
                                    rw [← hmva] at h274
                                    have := kN_le (rp Lq) (p9 (r * x.1.2.1 + c))
                                    have := (hP.1 _ hkn q9).1
                                    exact absurd h274 (nI_pos (by omega))
                                  rw [show szA (T 1) p9 Lq (r * x.1.2.1 + (c + 1)) = szA (T 1) p9 Lq (r * x.1.2.1 + c) from szA_n hwn, show smA (T 1) p9 Lq (r * x.1.2.1 + (c + 1)) = smA (T 1) p9 Lq (r * x.1.2.1 + c) from smA_n hwn] at hJ
                                  exact hJ
                                ·
                                  have hwp : 0 < T 1 (r * x.1.2.1 + c) := by
                                    by_cases q9 : 0 < T 1 (r * x.1.2.1 + c)
                                    · exact q9
                                    · rw [if_neg q9] at hmva
                                      rw [← hmva] at h274
                                      exact absurd (by decide) h274
                                  rw [if_pos hwp] at hmva
                                  obtain ⟨j9, hj9⟩ : ∃ j9, j9 = kN (rp Lq) (p9 (r * x.1.2.1 + c)) := ⟨_, rfl⟩
                                  have hj40 : j9 < 40 := by
                                    have := kN_le (rp Lq) (p9 (r * x.1.2.1 + c))
                                    have := (hP.1 _ hkn hwp).1
                                    omega
                                  rw [← hj9] at hmva
                                  refine r_aload_n E (dat dkL_isLike_k2 45 rfl) rfl rfl ?_
                                  refine r_aload_n E (dat dkL_isLike_k2 46 rfl) rfl rfl ?_
                                  refine q_geta E fl_L_29 (dat dkL_isLike_k2 47 rfl) rfl rfl rfl ?_
                                  refine r_iload E (dat dkL_isLike_k2 48 rfl) rfl ?_
                                  refine q_laa (a := 6) E (dat dkL_isLike_k2 49 rfl) rfl rfl rfl (by decide) rfl hr7 ?_
                                  refine r_iload E (dat dkL_isLike_k3 0 rfl) rfl ?_
                                  refine q_ialv E (dat dkL_isLike_k3 1 rfl) (lae (by decide) hr7) (lok (Nat.le_of_ble_eq_true rfl) rfl (by decide) hr7) (by decide) rfl hc7 (gX19 h191 ((LE_raw (Or.inr rfl) hr7).trans hmv)) ?_
                                  refine r_dup2 E (dat dkL_isLike_k3 2 rfl) rfl rfl ?_
                                  refine q_ialv E (dat dkL_isLike_k3 3 rfl) rfl rfl (by decide) hmva.symm hj40 rfl ?_
                                  refine r_iconst (v := 1) E (dat dkL_isLike_k3 4 rfl) rfl ?_
                                  refine r_iadd E (dat dkL_isLike_k3 5 rfl) ?_
                                  refine q_iasv E (dat dkL_isLike_k3 6 rfl) rfl rfl (by decide) hmva.symm hj40 (XM_s20.trans (congrArg (fun F => XM M1 Z F _) (szA_s hwp hj9.symm))) ?_
                                  refine r_aload E (dat dkL_isLike_k3 7 rfl) rfl ?_
                                  refine r_aload_n E (dat dkL_isLike_k3 8 rfl) rfl rfl ?_
                                  refine q_geta E fl_L_29 (dat dkL_isLike_k3 9 rfl) rfl rfl rfl ?_
                                  refine r_iload E (dat dkL_isLike_k3 10 rfl) rfl ?_
                                  refine q_laa (a := 6) E (dat dkL_isLike_k3 11 rfl) rfl rfl rfl (by decide) rfl hr7 ?_
                                  refine r_iload E (dat dkL_isLike_k3 12 rfl) rfl ?_
                                  refine q_ialv E (dat dkL_isLike_k3 13 rfl) (lae (by decide) hr7) (lok (Nat.le_of_ble_eq_true rfl) rfl (by decide) hr7) (by decide) rfl hc7 (gX19 h191 ((LE_raw (Or.inr rfl) hr7).trans hmv)) ?_
                                  refine r_dup2 E (dat dkL_isLike_k3 14 rfl) rfl rfl ?_
                                  refine q_ialv E (dat dkL_isLike_k3 15 rfl) rfl rfl (by decide) hmva.symm hj40 rfl ?_
                                  refine r_aload_n E (dat dkL_isLike_k3 16 rfl) rfl rfl ?_
                                  refine q_geta E fl_L_14 (dat dkL_isLike_k3 17 rfl) rfl rfl rfl ?_
                                  refine r_iload E (dat dkL_isLike_k3 18 rfl) rfl ?_
                                  refine q_laa (a := 1) E (dat dkL_isLike_k3 19 rfl) rfl rfl rfl (by decide) rfl hr7 ?_
                                  refine r_iload E (dat dkL_isLike_k3 20 rfl) rfl ?_
                                  refine q_ialv E (dat dkL_isLike_k3 21 rfl) (lae (by decide) hr7) (lok (Nat.le_of_ble_eq_true rfl) rfl (by decide) hr7) (by decide) rfl hc7 (gX19 h191 (LE_wk hr7 hin hcl)) ?_
                                  refine r_iadd E (dat dkL_isLike_k3 22 rfl) ?_
                                  refine q_iasv E (dat dkL_isLike_k3 23 rfl) rfl rfl (by decide) hmva.symm hj40 (XM_s21.trans (congrArg (fun F => XM M1 Z _ F) (smA_s hwp hj9.symm))) ?_
                                  exact hJ
                              ·
                                refine r_aload_n E (dat dkL_isLike_k3 24 rfl) rfl rfl ?_
                                refine r_iload E (dat dkL_isLike_k3 25 rfl) rfl ?_
                                refine r_callV (κ := 8) (μ := []) E (kd_waterOn l hst G h3X hCX hkn) my_X9_waterOn iv_X9_waterOn ml_L_182 cm_K2 ⟨by decide, rfl, rfl⟩ rfl rfl rfl rfl ⟨by decide, by decide, by dsimp only; omega, by dsimp only; omega⟩ (Nat.le_of_ble_eq_true rfl) (dat dkL_isLike_k3 26 rfl) ?_
                                rintro _ _ ⟨rfl, rfl⟩
                                refine ⟨_, Mrg_z rfl, ?_⟩
                                refine r_aload_n E (dat dkL_isLike_k3 27 rfl) rfl rfl ?_
                                refine q_geta E fl_L_14 (dat dkL_isLike_k3 28 rfl) rfl rfl rfl ?_
                                refine r_iload E (dat dkL_isLike_k3 29 rfl) rfl ?_
                                refine q_laa (a := 1) E (dat dkL_isLike_k3 30 rfl) rfl rfl rfl (by decide) rfl (by omega) ?_
                                refine r_iload E (dat dkL_isLike_k3 31 rfl) rfl ?_
                                refine q_ialv E (dat dkL_isLike_k3 32 rfl) (lae (by decide) (by omega)) (lok (Nat.le_of_ble_eq_true rfl) rfl (by decide) (by omega)) (by decide) rfl hc7 (gX19 h191 (LE_wk (by omega) hin hcl)) ?_
                                refine r_icmp_ne (tgt := 537) E (dat dkL_isLike_k3 33 rfl) rfl (fun h335 => ?_) (fun h335 => ?_)
                                ·
                                  exact absurd rfl h335
                                ·
                                  refine r_aload_n E (dat dkL_isLike_k3 34 rfl) rfl rfl ?_
                                  refine r_iload E (dat dkL_isLike_k3 35 rfl) rfl ?_
                                  refine r_callV (κ := 8) (μ := []) E (kd_levelOf l hst G h3X hCX hkn) my_X9_levelOf iv_X9_levelOf ml_L_185 cm_K2 ⟨by decide, rfl, rfl⟩ rfl rfl rfl rfl ⟨by decide, by decide, by dsimp only; omega, by dsimp only; omega⟩ (Nat.le_of_ble_eq_true rfl) (dat dkL_isLike_k3 36 rfl) ?_
                                  rintro _ _ ⟨rfl, rfl⟩
                                  refine ⟨_, Mrg_z rfl, ?_⟩
                                  refine r_aload_n E (dat dkL_isLike_k3 37 rfl) rfl rfl ?_
                                  refine r_iload E (dat dkL_isLike_k3 38 rfl) rfl ?_
                                  refine r_iload E (dat dkL_isLike_k3 39 rfl) rfl ?_
                                  refine r_callV (κ := 9) (μ := [19]) E (sp_L_level l G B9 x T (r + 1) (c + 1) _ hAX hr7 hc7) my_L_level iv_L_level ml_L_76 (cm_of rfl) ⟨by decide, rfl, rfl⟩ rfl rfl rfl rfl ⟨by decide, by decide, by dsimp only; omega, by dsimp only; omega⟩ (Nat.le_of_ble_eq_true rfl) (dat dkL_isLike_k3 40 rfl) ?_
                                  rintro _ _ ⟨rfl, rfl⟩
                                  refine ⟨_, Mrg_z rfl, ?_⟩
                                  rw [lvL_in hr7 hin, hcl]
                                  refine r_icmp_ne (tgt := 537) E (dat dkL_isLike_k3 41 rfl) rfl (fun h352 => ?_) (fun h352 => ?_)
                                  ·
                                    exact absurd rfl h352
                                  ·
                                    refine r_aload_n E (dat dkL_isLike_k3 42 rfl) rfl rfl ?_
                                    refine r_iload E (dat dkL_isLike_k3 43 rfl) rfl ?_
                                    refine r_callV (κ := 8) (μ := []) E (kd_leavesOn l hst G h3X hCX hkn) my_X9_leavesOn iv_X9_leavesOn ml_L_188 cm_K2 ⟨by decide, rfl, rfl⟩ rfl rfl rfl rfl ⟨by decide, by decide, by dsimp only; omega, by dsimp only; omega⟩ (Nat.le_of_ble_eq_true rfl) (dat dkL_isLike_k3 44 rfl) ?_
                                    rintro _ _ ⟨rfl, rfl⟩
                                    refine ⟨_, Mrg_z rfl, ?_⟩
                                    refine r_aload_n E (dat dkL_isLike_k3 45 rfl) rfl rfl ?_
                                    refine q_geta E fl_L_17 (dat dkL_isLike_k3 46 rfl) rfl rfl rfl ?_
                                    refine r_iload E (dat dkL_isLike_k3 47 rfl) rfl ?_
                                    refine q_laa (a := 2) E (dat dkL_isLike_k3 48 rfl) rfl rfl rfl (by decide) rfl (by omega) ?_
                                    refine r_iload E (dat dkL_isLike_k3 49 rfl) rfl ?_
                                    refine q_ialv E (dat dkL_isLike_k4 0 rfl) (lae (by decide) (by omega)) (lok (Nat.le_of_ble_eq_true rfl) rfl (by decide) (by omega)) (by decide) rfl hc7 (gX19 h191 (LE_lk (by omega) hin hcl)) ?_
                                    refine r_icmp_ne (tgt := 537) E (dat dkL_isLike_k4 1 rfl) rfl (fun h371 => ?_) (fun h371 => ?_)
                                    ·
                                      exact absurd rfl h371
                                    ·
                                      refine r_aload_n E (dat dkL_isLike_k4 2 rfl) rfl rfl ?_
                                      refine r_iload E (dat dkL_isLike_k4 3 rfl) rfl ?_
                                      refine r_callV (κ := 8) (μ := []) E (kd_gutterFlow l hst G h3X hCX hkn) my_X9_gutterFlow iv_X9_gutterFlow ml_L_191 cm_K2 ⟨by decide, rfl, rfl⟩ rfl rfl rfl rfl ⟨by decide, by decide, by dsimp only; omega, by dsimp only; omega⟩ (Nat.le_of_ble_eq_true rfl) (dat dkL_isLike_k4 4 rfl) ?_
                                      rintro _ _ ⟨rfl, rfl⟩
                                      refine ⟨_, Mrg_z rfl, ?_⟩
                                      refine r_iconst (v := 0) E (dat dkL_isLike_k4 5 rfl) rfl ?_
                                      refine r_aload_n E (dat dkL_isLike_k4 6 rfl) rfl rfl ?_
                                      refine q_geta E fl_L_20 (dat dkL_isLike_k4 7 rfl) rfl rfl rfl ?_
                                      refine r_iload E (dat dkL_isLike_k4 8 rfl) rfl ?_
                                      refine q_laa (a := 3) E (dat dkL_isLike_k4 9 rfl) rfl rfl rfl (by decide) rfl (by omega) ?_
                                      refine r_iload E (dat dkL_isLike_k4 10 rfl) rfl ?_
                                      refine q_ialv E (dat dkL_isLike_k4 11 rfl) (lae (by decide) (by omega)) (lok (Nat.le_of_ble_eq_true rfl) rfl (by decide) (by omega)) (by decide) rfl hc7 (gX19 h191 (LE_gk (by omega) hin hcl)) ?_
                                      refine r_aload_n E (dat dkL_isLike_k4 12 rfl) rfl rfl ?_
                                      refine q_geta E fl_L_17 (dat dkL_isLike_k4 13 rfl) rfl rfl rfl ?_
                                      refine r_iload E (dat dkL_isLike_k4 14 rfl) rfl ?_
                                      refine q_laa (a := 2) E (dat dkL_isLike_k4 15 rfl) rfl rfl rfl (by decide) rfl (by omega) ?_
                                      refine r_iload E (dat dkL_isLike_k4 16 rfl) rfl ?_
                                      refine q_ialv E (dat dkL_isLike_k4 17 rfl) (lae (by decide) (by omega)) (lok (Nat.le_of_ble_eq_true rfl) rfl (by decide) (by omega)) (by decide) rfl hc7 (gX19 h191 (LE_lk (by omega) hin hcl)) ?_
                                      refine r_isub E (dat dkL_isLike_k4 18 rfl) ?_
                                      refine r_mmax E ml_L_194 ⟨by decide, Nat.le_of_ble_eq_true rfl, by dsimp only; omega, by dsimp only; omega⟩ (dat dkL_isLike_k4 19 rfl) ?_
                                      refine r_icmp_ne (tgt := 537) E (dat dkL_isLike_k4 20 rfl) rfl (fun h405 => ?_) (fun h405 => ?_)
                                      ·
                                        exact absurd (imax_c _ _) h405
                                      ·
                                        refine r_aload_n E (dat dkL_isLike_k4 21 rfl) rfl rfl ?_
                                        refine r_iload E (dat dkL_isLike_k4 22 rfl) rfl ?_
                                        refine r_callV (κ := 8) (μ := []) E (kd_hydrantMinutes l hst G h3X hCX hkn) my_X9_hydrantMinutes iv_X9_hydrantMinutes ml_L_197 cm_K2 ⟨by decide, rfl, rfl⟩ rfl rfl rfl rfl ⟨by decide, by decide, by dsimp only; omega, by dsimp only; omega⟩ (Nat.le_of_ble_eq_true rfl) (dat dkL_isLike_k4 23 rfl) ?_
                                        rintro _ _ ⟨rfl, rfl⟩
                                        refine ⟨_, Mrg_z rfl, ?_⟩
                                        refine r_aload_n E (dat dkL_isLike_k4 24 rfl) rfl rfl ?_
                                        refine q_geta E fl_L_26 (dat dkL_isLike_k4 25 rfl) rfl rfl rfl ?_
                                        refine r_iload E (dat dkL_isLike_k4 26 rfl) rfl ?_
                                        refine q_laa (a := 5) E (dat dkL_isLike_k4 27 rfl) rfl rfl rfl (by decide) rfl (by omega) ?_
                                        refine r_iload E (dat dkL_isLike_k4 28 rfl) rfl ?_
                                        refine q_ialv E (dat dkL_isLike_k4 29 rfl) (lae (by decide) (by omega)) (lok (Nat.le_of_ble_eq_true rfl) rfl (by decide) (by omega)) (by decide) rfl hc7 (gX19 h191 (LE_mk (by omega) hin hcl)) ?_
                                        refine r_icmp_ne (tgt := 537) E (dat dkL_isLike_k4 30 rfl) rfl (fun h424 => ?_) (fun h424 => ?_)
                                        ·
                                          exact absurd rfl h424
                                        ·
                                          refine r_aload_n E (dat dkL_isLike_k4 31 rfl) rfl rfl ?_
                                          refine r_iload E (dat dkL_isLike_k4 32 rfl) rfl ?_
                                          refine r_callV (κ := 8) (μ := []) E (kd_hydrantRate l hst G h3X hCX hkn) my_X9_hydrantRate iv_X9_hydrantRate ml_L_200 cm_K2 ⟨by decide, rfl, rfl⟩ rfl rfl rfl rfl ⟨by decide, by decide, by dsimp only; omega, by dsimp only; omega⟩ (Nat.le_of_ble_eq_true rfl) (dat dkL_isLike_k4 33 rfl) ?_
                                          rintro _ _ ⟨rfl, rfl⟩
                                          refine ⟨_, Mrg_z rfl, ?_⟩
                                          refine r_cut (M2 := XM M1 Z (szA (T 1) p9 Lq (r * x.1.2.1 + (c + 1))) (smA (T 1) p9 Lq (r * x.1.2.1 + (c + 1)))) (pc2 := 463) (S2 := []) (L2 := [some (rv 19 0), some (rv 0 0), some (iv (nI (kN (rp Lq) x.1.2.2))), some (rv 20 0), some (rv 21 0), some (iv (nI (r + 1))), some (iv (nI (c + 1))), some (iv (nI (r * x.1.2.1 + c))), some (iv f9), some (iv (nI w9))]) (fun hJ => ?_) ?_
                                          ·
                                            refine r_aload_n E (dat dkL_isLike_k4 34 rfl) rfl rfl ?_
                                            refine q_geta E fl_L_26 (dat dkL_isLike_k4 35 rfl) rfl rfl rfl ?_
                                            refine r_iload E (dat dkL_isLike_k4 36 rfl) rfl ?_
                                            refine q_laa (a := 5) E (dat dkL_isLike_k4 37 rfl) rfl rfl rfl (by decide) rfl (by omega) ?_
                                            refine r_iload E (dat dkL_isLike_k4 38 rfl) rfl ?_
                                            refine q_ialv E (dat dkL_isLike_k4 39 rfl) (lae (by decide) (by omega)) (lok (Nat.le_of_ble_eq_true rfl) rfl (by decide) (by omega)) (by decide) rfl hc7 (gX19 h191 (LE_mk (by omega) hin hcl)) ?_
                                            refine r_if_le (tgt := 459) E (dat dkL_isLike_k4 40 rfl) rfl (fun h443 => ?_) (fun h443 => ?_)
                                            ·
                                              have h40 : T 3 (r * x.1.2.1 + c) = 0 := (hZ.1.2.2.2.1 _ hkn).mpr (Int32.toInt_inj.mp (by have := i_le.mp h443; have h5 := (hZ.1.2.2.1 _ hkn).1; rw [i_0] at this ⊢; omega))
                                              rw [h40]
                                              refine r_iconst (v := 0) E (dat dkL_isLike_k4 48 rfl) rfl ?_
                                              refine r_icmp_ne (tgt := 537) E (dat dkL_isLike_k4 49 rfl) rfl (fun h460 => ?_) (fun h460 => ?_)
                                              ·
                                                exact absurd rfl h460
                                              ·
                                                exact hJ
                                            ·
                                              have hrate : B9 (20 + 7 * 4 + (r + 1)) (c + 1) = T 3 (r * x.1.2.1 + c) := hR9 (r + 1) (c + 1) hin (fun q9 => h443 (by rw [show T 4 (r * x.1.2.1 + c) = 0 from q9]; exact Int32.le_refl _))
                                              refine r_aload_n E (dat dkL_isLike_k4 41 rfl) rfl rfl ?_
                                              refine q_geta E fl_L_23 (dat dkL_isLike_k4 42 rfl) rfl rfl rfl ?_
                                              refine r_iload E (dat dkL_isLike_k4 43 rfl) rfl ?_
                                              refine q_laa (a := 4) E (dat dkL_isLike_k4 44 rfl) rfl rfl rfl (by decide) rfl (by omega) ?_
                                              refine r_iload E (dat dkL_isLike_k4 45 rfl) rfl ?_
                                              refine q_ialv E (dat dkL_isLike_k4 46 rfl) (lae (by decide) (by omega)) (lok (Nat.le_of_ble_eq_true rfl) rfl (by decide) (by omega)) (by decide) rfl hc7 (gX19 h191 ((LE_raw (Or.inl rfl) hr7).trans hrate)) ?_
                                              refine r_goto (tgt := 460) E (dat dkL_isLike_k4 47 rfl) rfl ?_
                                              refine r_icmp_ne (tgt := 537) E (dat dkL_isLike_k4 49 rfl) rfl (fun h460 => ?_) (fun h460 => ?_)
                                              ·
                                                exact absurd rfl h460
                                              ·
                                                exact hJ
                                          ·
                                            refine r_aload_n E (dat dkL_isLike_k5 0 rfl) rfl rfl ?_
                                            refine r_iload E (dat dkL_isLike_k5 1 rfl) rfl ?_
                                            refine r_callV (κ := 8) (μ := []) E (kd_puddleOf l hst G h3X hP hL hCX hkn) my_X9_puddleOf iv_X9_puddleOf ml_L_203 cm_K2 ⟨by decide, rfl, rfl⟩ rfl rfl rfl rfl ⟨by decide, by decide, by dsimp only; omega, by dsimp only; omega⟩ (Nat.le_of_ble_eq_true rfl) (dat dkL_isLike_k5 2 rfl) ?_
                                            rintro _ _ ⟨rfl, Z2, rfl⟩
                                            refine ⟨_, Mrg_e (i := 15) (by decide) (by decide) XM_15 rfl, ?_⟩
                                            rw [hmva]
                                            refine r_aload_n E (dat dkL_isLike_k5 3 rfl) rfl rfl ?_
                                            refine q_geta E fl_L_29 (dat dkL_isLike_k5 4 rfl) rfl rfl rfl ?_
                                            refine r_iload E (dat dkL_isLike_k5 5 rfl) rfl ?_
                                            refine q_laa (a := 6) E (dat dkL_isLike_k5 6 rfl) rfl rfl rfl (by decide) rfl (by omega) ?_
                                            refine r_iload E (dat dkL_isLike_k5 7 rfl) rfl ?_
                                            refine q_ialv E (dat dkL_isLike_k5 8 rfl) (lae (by decide) (by omega)) (lok (Nat.le_of_ble_eq_true rfl) rfl (by decide) (by omega)) (by decide) rfl hc7 (gX19 h191 ((LE_raw (Or.inr rfl) hr7).trans hmv)) ?_
                                            refine r_icmp_ne (tgt := 537) E (dat dkL_isLike_k5 9 rfl) rfl (fun h479 => ?_) (fun h479 => ?_)
                                            ·
                                              exact absurd rfl h479
                                            ·
                                              refine r_aload_n E (dat dkL_isLike_k5 10 rfl) rfl rfl ?_
                                              refine r_iload E (dat dkL_isLike_k5 11 rfl) rfl ?_
                                              refine r_callV (κ := 8) (μ := []) E (kd_flowFrom l hst G h3X hCX hkn) my_X9_flowFrom iv_X9_flowFrom ml_L_206 cm_K2 ⟨by decide, rfl, rfl⟩ rfl rfl rfl rfl ⟨by decide, by decide, by dsimp only; omega, by dsimp only; omega⟩ (Nat.le_of_ble_eq_true rfl) (dat dkL_isLike_k5 12 rfl) ?_
                                              rintro _ _ ⟨rfl, rfl⟩
                                              refine ⟨_, Mrg_z rfl, ?_⟩
                                              rw [hlo, hf9]
                                              refine r_iload E (dat dkL_isLike_k5 13 rfl) rfl ?_
                                              refine r_icmp_ne (tgt := 537) E (dat dkL_isLike_k5 14 rfl) rfl (fun h490 => ?_) (fun h490 => ?_)
                                              ·
                                                exact absurd rfl h490
                                              ·
                                                refine r_aload_n E (dat dkL_isLike_k5 15 rfl) rfl rfl ?_
                                                refine r_iload E (dat dkL_isLike_k5 16 rfl) rfl ?_
                                                refine r_callV (κ := 8) (μ := []) E (kd_flowsTo l hst G h3X hCX hkn) my_X9_flowsTo iv_X9_flowsTo ml_L_209 cm_K2 ⟨by decide, rfl, rfl⟩ rfl rfl rfl rfl ⟨by decide, by decide, by dsimp only; omega, by dsimp only; omega⟩ (Nat.le_of_ble_eq_true rfl) (dat dkL_isLike_k5 17 rfl) ?_
                                                rintro _ _ ⟨rfl, rfl⟩
                                                refine ⟨_, Mrg_z rfl, ?_⟩
                                                rw [hlo, hf9]
                                                refine r_iload E (dat dkL_isLike_k5 18 rfl) rfl ?_
                                                refine r_if_ne (tgt := 508) E (dat dkL_isLike_k5 19 rfl) rfl (fun h501 => ?_) (fun h501 => ?_)
                                                ·
                                                  have hgo := cl_J (v := x.1.2.1) (R := dR (r + 1) w9) (c := c + 1) (w := w9) (x := x) rfl hin2.1.1 hin2.2.1 (by omega)
                                                  rw [if_neg (flI hf0 h501)]
                                                  refine r_iload E (dat dkL_isLike_k5 22 rfl) rfl ?_
                                                  refine r_iload E (dat dkL_isLike_k5 23 rfl) rfl ?_
                                                  refine r_callS (μ := []) E (sp_L_down l G w9 _ hw4) my_L_down is_L_down ml_L_69 cm_nil rfl rfl ⟨by decide, by decide, by dsimp only; omega, by dsimp only; omega⟩ (Nat.le_of_ble_eq_true rfl) (dat dkL_isLike_k5 24 rfl) ?_
                                                  rintro _ _ ⟨rfl, rfl⟩
                                                  refine ⟨_, Mrg_z rfl, ?_⟩
                                                  refine r_iadd E (dat dkL_isLike_k5 25 rfl) ?_
                                                  rw [dn_r (by omega)]
                                                  refine r_iconst (v := 1) E (dat dkL_isLike_k5 26 rfl) rfl ?_
                                                  refine r_isub E (dat dkL_isLike_k5 27 rfl) ?_
                                                  refine r_aload_n E (dat dkL_isLike_k5 28 rfl) rfl rfl ?_
                                                  refine q_getn E fl_L_98 (dat dkL_isLike_k5 29 rfl) rfl rfl rfl (gX19 h191 LE_v13) ?_
                                                  refine r_imul E (dat dkL_isLike_k5 30 rfl) ?_
                                                  refine r_iload E (dat dkL_isLike_k5 31 rfl) rfl ?_
                                                  refine r_iadd E (dat dkL_isLike_k5 32 rfl) ?_
                                                  refine r_iload E (dat dkL_isLike_k5 33 rfl) rfl ?_
                                                  refine r_callS (μ := []) E (sp_L_right l G w9 _ hw4) my_L_right is_L_right ml_L_73 cm_nil rfl rfl ⟨by decide, by decide, by dsimp only; omega, by dsimp only; omega⟩ (Nat.le_of_ble_eq_true rfl) (dat dkL_isLike_k5 34 rfl) ?_
                                                  rintro _ _ ⟨rfl, rfl⟩
                                                  refine ⟨_, Mrg_z rfl, ?_⟩
                                                  refine r_iadd E (dat dkL_isLike_k5 35 rfl) ?_
                                                  refine r_iconst (v := 1) E (dat dkL_isLike_k5 36 rfl) rfl ?_
                                                  refine r_isub E (dat dkL_isLike_k5 37 rfl) ?_
                                                  refine r_icmp_eq (tgt := 539) E (dat dkL_isLike_k5 38 rfl) rfl (fun h534 => ?_) (fun h534 => ?_)
                                                  ·
                                                    refine q_iinc_6 E (dat dkL_isLike_k5 41 rfl) rfl rfl ?_
                                                    refine r_goto (tgt := 219) E (dat dkL_isLike_k5 42 rfl) rfl ?_
                                                    refine r_wide (k2 := 2 + 180 * r + 36 * (c + 1)) (n2 := 80 + 1080 * r + 216 * (c + 1)) (by dsimp only; omega) (by dsimp only; omega) ?_
                                                    refine r_back ?_ ?_ (kc Z2 trivial)
                                                    rotate_left
                                                    · exact ⟨rfl, rfl, rfl, rfl, rfl, rfl, rfl, trivial⟩
                                                    · rfl
                                                  ·
                                                    first
                                                      | exact absurd rfl h534
                                                      | exact absurd (by rw [hgo]; exact congrArg nI ho.symm) h534
                                                ·
                                                  rw [show f9 = 0 from h501, if_pos (Int32.le_refl _)]
                                                  refine r_iconst (v := -1) E (dat dkL_isLike_k5 20 rfl) rfl ?_
                                                  refine r_goto (tgt := 534) E (dat dkL_isLike_k5 21 rfl) rfl ?_
                                                  refine r_icmp_eq (tgt := 539) E (dat dkL_isLike_k5 38 rfl) rfl (fun h534 => ?_) (fun h534 => ?_)
                                                  ·
                                                    refine q_iinc_6 E (dat dkL_isLike_k5 41 rfl) rfl rfl ?_
                                                    refine r_goto (tgt := 219) E (dat dkL_isLike_k5 42 rfl) rfl ?_
                                                    refine r_wide (k2 := 2 + 180 * r + 36 * (c + 1)) (n2 := 80 + 1080 * r + 216 * (c + 1)) (by dsimp only; omega) (by dsimp only; omega) ?_
                                                    refine r_back ?_ ?_ (kc Z2 trivial)
                                                    rotate_left
                                                    · exact ⟨rfl, rfl, rfl, rfl, rfl, rfl, rfl, trivial⟩
                                                    · rfl
                                                  ·
                                                    first
                                                      | exact absurd rfl h534
                                                      | exact absurd (by rw [hgo]; exact congrArg nI ho.symm) h534
                          · intro Z hIc
                            refine r_iload E (dat dkL_isLike_k2 13 rfl) rfl ?_
                            refine r_aload_n E (dat dkL_isLike_k2 14 rfl) rfl rfl ?_
                            refine q_getn E fl_L_98 (dat dkL_isLike_k2 15 rfl) rfl rfl rfl (gX19 h191 LE_v13) ?_
                            refine q_icmp_gt (tgt := 545) E (dat dkL_isLike_k2 16 rfl) rfl rfl rfl (by omega) (by omega) (fun h225 => ?_) (fun h225 => ?_)
                            ·
                              refine q_iinc_5 E (dat dkL_isLike_k5 43 rfl) rfl rfl ?_
                              refine r_goto (tgt := 207) E (dat dkL_isLike_k5 44 rfl) rfl ?_
                              refine r_wide (k2 := 2 + 180 * (r + 1)) (n2 := 80 + 1080 * (r + 1)) (by omega) (by omega) ?_
                              refine r_back ?_ ?_ (kr Z trivial)
                              rotate_left
                              · exact ⟨rfl, rfl, rfl, rfl, rfl, rfl, trivial⟩
                              · rw [Nat.succ_mul]
                            ·
                              omega
                      · intro Z hIr
                        refine r_iload E (dat dkL_isLike_k2 7 rfl) rfl ?_
                        refine r_aload_n E (dat dkL_isLike_k2 8 rfl) rfl rfl ?_
                        refine q_getn E fl_L_95 (dat dkL_isLike_k2 9 rfl) rfl rfl rfl (gX19 h191 LE_v12) ?_
                        refine q_icmp_gt (tgt := 551) E (dat dkL_isLike_k2 10 rfl) rfl rfl rfl (by omega) (by omega) (fun h213 => ?_) (fun h213 => ?_)
                        ·
                          rw [← hx.2.2.1]
                          refine r_wide (k2 := 902) (n2 := 5480) (by omega) (by omega) ?_
                          refine r_aload_n E (dat dkL_isLike_k5 45 rfl) rfl rfl ?_
                          refine r_callV (κ := 8) (μ := []) E (kd_puddleCount l G h3X hP hL hCX) my_X9_puddleCount iv_X9_puddleCount ml_L_212 cm_K2 ⟨by decide, rfl, rfl⟩ rfl rfl rfl rfl ⟨by decide, by decide, by dsimp only; omega, by dsimp only; omega⟩ (Nat.le_of_ble_eq_true rfl) (dat dkL_isLike_k5 46 rfl) ?_
                          rintro _ _ ⟨rfl, Z2, rfl⟩
                          refine ⟨_, Mrg_e (i := 15) (by decide) (by decide) XM_15 rfl, ?_⟩
                          refine r_iload_n E (dat dkL_isLike_k5 47 rfl) rfl rfl ?_
                          refine r_icmp_eq (tgt := 561) E (dat dkL_isLike_k5 48 rfl) rfl (fun h556 => ?_) (fun h556 => ?_)
                          ·
                            refine r_iconst (v := 0) E (dat dkL_isLike_k6 1 rfl) rfl ?_
                            refine r_istore_5 E (dat dkL_isLike_k6 2 rfl) rfl rfl ?_
                            refine r_forX (β := Nat → Nat → Int32) (kN (rp Lq) x.1.2.2) (fun u Z => True) (fun u => 902 + 16 * u) (fun u => 5480 + 96 * u) (fun u Z => XM M1 Z (szA (T 1) p9 Lq x.1.2.2) (smA (T 1) p9 Lq x.1.2.2)) (fun u Z => [some (rv 19 0), some (rv 0 0), some (iv (nI (kN (rp Lq) x.1.2.2))), some (rv 20 0), some (rv 21 0), some (iv (nI u)), none, none, none, none]) Z2 trivial rfl rfl rfl rfl ?_ ?_
                            · intro u Z hu hIu ku
                              obtain ⟨m9, hm9, hr9, hu9⟩ := kN_ex hu
                              have hkle := kN_le (rp Lq) x.1.2.2
                              have hu25 : u < 25 := by omega
                              refine r_iload E (dat dkL_isLike_k6 3 rfl) rfl ?_
                              refine r_iload_n E (dat dkL_isLike_k6 4 rfl) rfl rfl ?_
                              refine q_icmp_ge (tgt := 605) E (dat dkL_isLike_k6 5 rfl) rfl rfl rfl (by omega) (by omega) (fun h567 => ?_) (fun h567 => ?_)
                              ·
                                omega
                              ·
                                refine r_aload_n E (dat dkL_isLike_k6 6 rfl) rfl rfl ?_
                                refine r_iload E (dat dkL_isLike_k6 7 rfl) rfl ?_
                                refine r_callV (κ := 8) (μ := []) E (hu9 ▸ kd_puddleSize l hst G h3X hP hL hCX hm9 hr9) my_X9_puddleSize iv_X9_puddleSize ml_L_215 cm_K2 ⟨by decide, rfl, rfl⟩ rfl rfl rfl rfl ⟨by decide, by decide, by dsimp only; omega, by dsimp only; omega⟩ (Nat.le_of_ble_eq_true rfl) (dat dkL_isLike_k6 8 rfl) ?_
                                rintro _ _ ⟨rfl, Z2, rfl⟩
                                refine ⟨_, Mrg_e (i := 15) (by decide) (by decide) XM_15 rfl, ?_⟩
                                refine r_aload_n E (dat dkL_isLike_k6 9 rfl) rfl rfl ?_
                                refine r_iload E (dat dkL_isLike_k6 10 rfl) rfl ?_
                                refine q_ialv E (dat dkL_isLike_k6 11 rfl) rfl rfl (by decide) rfl (show u < 40 by omega) rfl ?_
                                refine r_icmp_ne (tgt := 597) E (dat dkL_isLike_k6 12 rfl) rfl (fun h580 => ?_) (fun h580 => ?_)
                                ·
                                  exact absurd (by rw [← hu9]; exact (szA_z h64 hP hL hm9 hr9).symm) h580
                                ·
                                  refine r_aload_n E (dat dkL_isLike_k6 13 rfl) rfl rfl ?_
                                  refine r_iload E (dat dkL_isLike_k6 14 rfl) rfl ?_
                                  refine r_callV (κ := 8) (μ := []) E (hu9 ▸ kd_puddleWater l hst G h3X hP hL hCX hm9 hr9) my_X9_puddleWater iv_X9_puddleWater ml_L_218 cm_K2 ⟨by decide, rfl, rfl⟩ rfl rfl rfl rfl ⟨by decide, by decide, by dsimp only; omega, by dsimp only; omega⟩ (Nat.le_of_ble_eq_true rfl) (dat dkL_isLike_k6 15 rfl) ?_
                                  rintro _ _ ⟨rfl, Z3, rfl⟩
                                  refine ⟨_, Mrg_e (i := 15) (by decide) (by decide) XM_15 rfl, ?_⟩
                                  refine r_aload E (dat dkL_isLike_k6 16 rfl) rfl ?_
                                  refine r_iload E (dat dkL_isLike_k6 17 rfl) rfl ?_
                                  refine q_ialv E (dat dkL_isLike_k6 18 rfl) rfl rfl (by decide) rfl (show u < 40 by omega) rfl ?_
                                  refine r_icmp_eq (tgt := 599) E (dat dkL_isLike_k6 19 rfl) rfl (fun h594 => ?_) (fun h594 => ?_)
                                  ·
                                    refine q_iinc_5 E (dat dkL_isLike_k6 22 rfl) rfl rfl ?_
                                    refine r_goto (tgt := 564) E (dat dkL_isLike_k6 23 rfl) rfl ?_
                                    refine r_wide (k2 := 902 + 16 * (u + 1)) (n2 := 5480 + 96 * (u + 1)) (by dsimp only; omega) (by dsimp only; omega) ?_
                                    refine r_back ?_ ?_ (ku Z3 trivial)
                                    rotate_left
                                    · exact ⟨rfl, rfl, rfl, rfl, rfl, rfl, trivial⟩
                                    · rfl
                                  ·
                                    exact absurd (by rw [← hu9]; exact (smA_z h64 hP hL hm9 hr9).symm) h594
                            · intro Z hIu
                              have hkle := kN_le (rp Lq) x.1.2.2
                              refine r_iload E (dat dkL_isLike_k6 3 rfl) rfl ?_
                              refine r_iload_n E (dat dkL_isLike_k6 4 rfl) rfl rfl ?_
                              refine q_icmp_ge (tgt := 605) E (dat dkL_isLike_k6 5 rfl) rfl rfl rfl (by omega) (by omega) (fun h567 => ?_) (fun h567 => ?_)
                              ·
                                refine r_wide (k2 := 1302) (n2 := 7880) (by omega) (by omega) ?_
                                refine r_iconst (v := 0) E (dat dkL_isLike_k6 24 rfl) rfl ?_
                                refine r_istore_5 E (dat dkL_isLike_k6 25 rfl) rfl rfl ?_
                                refine r_forX (β := Nat → Nat → Int32) (x.2.2.2.2.1) (fun b Z => True) (fun b => 1302 + 24 * b) (fun b => 7880 + 144 * b) (fun b Z => XM M1 Z (szA (T 1) p9 Lq x.1.2.2) (smA (T 1) p9 Lq x.1.2.2)) (fun b Z => [some (rv 19 0), some (rv 0 0), some (iv (nI (kN (rp Lq) x.1.2.2))), some (rv 20 0), some (rv 21 0), some (iv (nI b)), none, none, none, none]) Z trivial rfl rfl rfl rfl ?_ ?_
                                · intro b Z hb hIb kb
                                  obtain ⟨o9, ho9, hpq⟩ := hpl b hb
                                  have hbp := boot_I (x := x) (q := o9)
                                  have hb2 := hw.2.2
                                  refine r_iload E (dat dkL_isLike_k6 26 rfl) rfl ?_
                                  refine r_aload_n E (dat dkL_isLike_k6 27 rfl) rfl rfl ?_
                                  refine q_getn E fl_L_116 (dat dkL_isLike_k6 28 rfl) rfl rfl rfl (gX19 h191 LE_v14) ?_
                                  refine q_icmp_ge (tgt := 690) E (dat dkL_isLike_k6 29 rfl) rfl rfl rfl (by omega) (by omega) (fun h614 => ?_) (fun h614 => ?_)
                                  ·
                                    omega
                                  ·
                                    refine r_aload_n E (dat dkL_isLike_k6 30 rfl) rfl rfl ?_
                                    refine r_iload E (dat dkL_isLike_k6 31 rfl) rfl ?_
                                    refine r_callV (κ := 8) (μ := []) E (kd_placeOf l hst G h3X hCX hb) my_X9_placeOf iv_X9_placeOf ml_L_221 cm_K2 ⟨by decide, rfl, rfl⟩ rfl rfl rfl rfl ⟨by decide, by decide, by dsimp only; omega, by dsimp only; omega⟩ (Nat.le_of_ble_eq_true rfl) (dat dkL_isLike_k6 32 rfl) ?_
                                    rintro _ _ ⟨rfl, rfl⟩
                                    refine ⟨_, Mrg_z rfl, ?_⟩
                                    refine r_aload_n E (dat dkL_isLike_k6 33 rfl) rfl rfl ?_
                                    refine q_geta E fl_L_32 (dat dkL_isLike_k6 34 rfl) rfl rfl rfl ?_
                                    refine r_iload E (dat dkL_isLike_k6 35 rfl) rfl ?_
                                    refine q_ialv E (dat dkL_isLike_k6 36 rfl) rfl rfl (by decide) rfl (by omega) (gX19 h191 (LE_b8 hb hpq (by omega))) ?_
                                    refine r_iconst (v := 1) E (dat dkL_isLike_k6 37 rfl) rfl ?_
                                    refine r_isub E (dat dkL_isLike_k6 38 rfl) ?_
                                    refine r_aload_n E (dat dkL_isLike_k6 39 rfl) rfl rfl ?_
                                    refine q_getn E fl_L_98 (dat dkL_isLike_k6 40 rfl) rfl rfl rfl (gX19 h191 LE_v13) ?_
                                    refine r_imul E (dat dkL_isLike_k6 41 rfl) ?_
                                    refine r_aload_n E (dat dkL_isLike_k6 42 rfl) rfl rfl ?_
                                    refine q_geta E fl_L_36 (dat dkL_isLike_k6 43 rfl) rfl rfl rfl ?_
                                    refine r_iload E (dat dkL_isLike_k6 44 rfl) rfl ?_
                                    refine q_ialv E (dat dkL_isLike_k6 45 rfl) rfl rfl (by decide) rfl (by omega) (gX19 h191 (LE_b9 hb hpq (by omega))) ?_
                                    refine r_iadd E (dat dkL_isLike_k6 46 rfl) ?_
                                    refine r_iconst (v := 1) E (dat dkL_isLike_k6 47 rfl) rfl ?_
                                    refine r_isub E (dat dkL_isLike_k6 48 rfl) ?_
                                    refine r_icmp_ne (tgt := 682) E (dat dkL_isLike_k6 49 rfl) rfl (fun h647 => ?_) (fun h647 => ?_)
                                    ·
                                      exact absurd (hpq.trans hbp.symm) h647
                                    ·
                                      refine r_aload_n E (dat dkL_isLike_k7 0 rfl) rfl rfl ?_
                                      refine r_iload E (dat dkL_isLike_k7 1 rfl) rfl ?_
                                      refine r_callV (κ := 8) (μ := []) E (kd_isWet l hst G h3X hCX hb hwt) my_X9_isWet iv_X9_isWet ml_L_224 cm_K2 ⟨by decide, rfl, rfl⟩ rfl rfl rfl rfl ⟨by decide, by decide, by dsimp only; omega, by dsimp only; omega⟩ (Nat.le_of_ble_eq_true rfl) (dat dkL_isLike_k7 2 rfl) ?_
                                      rintro _ _ ⟨rfl, rfl⟩
                                      refine ⟨_, Mrg_z rfl, ?_⟩
                                      refine r_aload_n E (dat dkL_isLike_k7 3 rfl) rfl rfl ?_
                                      refine q_geta E fl_L_45 (dat dkL_isLike_k7 4 rfl) rfl rfl rfl ?_
                                      refine r_iload E (dat dkL_isLike_k7 5 rfl) rfl ?_
                                      refine q_zalv E (dat dkL_isLike_k7 6 rfl) rfl rfl (by decide) rfl (by omega) (gX19 h191 (LE_b12 hb)) ?_
                                      refine r_icmp_ne (tgt := 682) E (dat dkL_isLike_k7 7 rfl) rfl (fun h663 => ?_) (fun h663 => ?_)
                                      ·
                                        exact absurd rfl h663
                                      ·
                                        refine r_aload_n E (dat dkL_isLike_k7 8 rfl) rfl rfl ?_
                                        refine r_iload E (dat dkL_isLike_k7 9 rfl) rfl ?_
                                        refine r_callV (κ := 8) (μ := []) E (kd_splashesOf l hst G h3X hCX hb) my_X9_splashesOf iv_X9_splashesOf ml_L_227 cm_K2 ⟨by decide, rfl, rfl⟩ rfl rfl rfl rfl ⟨by decide, by decide, by dsimp only; omega, by dsimp only; omega⟩ (Nat.le_of_ble_eq_true rfl) (dat dkL_isLike_k7 10 rfl) ?_
                                        rintro _ _ ⟨rfl, rfl⟩
                                        refine ⟨_, Mrg_z rfl, ?_⟩
                                        refine r_aload_n E (dat dkL_isLike_k7 11 rfl) rfl rfl ?_
                                        refine q_geta E fl_L_42 (dat dkL_isLike_k7 12 rfl) rfl rfl rfl ?_
                                        refine r_iload E (dat dkL_isLike_k7 13 rfl) rfl ?_
                                        refine q_ialv E (dat dkL_isLike_k7 14 rfl) rfl rfl (by decide) rfl (by omega) (gX19 h191 (LE_b11 hb)) ?_
                                        refine r_icmp_eq (tgt := 684) E (dat dkL_isLike_k7 15 rfl) rfl (fun h679 => ?_) (fun h679 => ?_)
                                        ·
                                          refine q_iinc_5 E (dat dkL_isLike_k7 18 rfl) rfl rfl ?_
                                          refine r_goto (tgt := 608) E (dat dkL_isLike_k7 19 rfl) rfl ?_
                                          refine r_wide (k2 := 1302 + 24 * (b + 1)) (n2 := 7880 + 144 * (b + 1)) (by dsimp only; omega) (by dsimp only; omega) ?_
                                          refine r_back ?_ ?_ (kb Z trivial)
                                          rotate_left
                                          · exact ⟨rfl, rfl, rfl, rfl, rfl, rfl, trivial⟩
                                          · rfl
                                        ·
                                          exact absurd rfl h679
                                · intro Z hIb
                                  have hb2 := hw.2.2
                                  refine r_iload E (dat dkL_isLike_k6 26 rfl) rfl ?_
                                  refine r_aload_n E (dat dkL_isLike_k6 27 rfl) rfl rfl ?_
                                  refine q_getn E fl_L_116 (dat dkL_isLike_k6 28 rfl) rfl rfl rfl (gX19 h191 LE_v14) ?_
                                  refine q_icmp_ge (tgt := 690) E (dat dkL_isLike_k6 29 rfl) rfl rfl rfl (by omega) (by omega) (fun h614 => ?_) (fun h614 => ?_)
                                  ·
                                    refine r_aload_n E (dat dkL_isLike_k7 20 rfl) rfl rfl ?_
                                    refine r_callV (κ := 8) (μ := []) E (kd_isConsistent l G h3X hCX hZ hcn hpl) my_X9_isConsistent iv_X9_isConsistent ml_L_230 cm_K2 ⟨by decide, rfl, rfl⟩ rfl rfl rfl rfl ⟨by decide, by decide, by dsimp only; omega, by dsimp only; omega⟩ (Nat.le_of_ble_eq_true rfl) (dat dkL_isLike_k7 21 rfl) ?_
                                    rintro _ _ ⟨rfl, Z2, rfl⟩
                                    refine ⟨_, Mrg_e (i := 15) (by decide) (by decide) XM_15 rfl, ?_⟩
                                    refine r_back (M2 := XM M1 Z2 (szA (T 1) p9 Lq x.1.2.2) (smA (T 1) p9 Lq x.1.2.2)) (L2 := [none, none, none, none, none, none, none, none, none, none]) rfl trivial ?_
                                    refine r_drop (M2 := XM M1 Z2 (szA (T 1) p9 Lq x.1.2.2) (smA (T 1) p9 Lq x.1.2.2)) hAS2 (fun _ _ => rfl) (eOK_KL (κs := [11]) ⟨by decide, fun κ h => by rcases List.mem_singleton.mp h with rfl; decide⟩ h9 h101) rfl rfl ?_
                                    refine r_drop (M2 := setm (setm M 15 Z2) 19 (LE B9 x T)) hAS1 (fun j hj => ?_) (eOK_KL (κs := []) ⟨by decide, fun _ h => by cases h⟩ h9 h101) rfl rfl ?_
                                    · have hj20 : j < 20 := hj
                                      by_cases h1 : j = 15
                                      · subst h1; rfl
                                      · rw [XM_o h1 (by omega) (by omega)]
                                        by_cases h2 : j = 19
                                        · subst h2; rw [h191, setm_s]
                                        · rw [hMo j h2, setm_n h2, setm_n h1]
                                    refine r_zreturn E0 (dat dkL_isLike_k7 22 rfl) rfl (by dsimp only; omega) (by dsimp only; omega) ?_
                                    exact ⟨rfl, Z2, B9, hB9, hR9, rfl⟩
                                  ·
                                    omega
                              ·
                                omega
                          ·
                            exact absurd rfl h556
                        ·
                          omega
                    ·
                      omega
                ·
                  omega
            ·
              exact absurd rfl h63
