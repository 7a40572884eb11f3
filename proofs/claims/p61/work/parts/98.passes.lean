set_option maxRecDepth 100000 in
set_option maxHeartbeats 16000000 in
theorem sp_L_passes (l : Launch) (G : GT) (B : Nat → Nat → Int32) (x : PP) (T : Nat → Nat → Int32) (n : Nat) (M : Mem) (hA0 : M 0 = (LE B x T)) (hx : PIv x) (hw : LWi x) (hB : WLi B x) (hh : HTi x) (hg : GUi x) (L9 : Int) (hL9 : L9 < 2147483648) (hS : ∀ i, i ≤ n → ZI x (mnX x T i) L9 ∧ XJ x (mnX x T i) ∧ (mnX x T i 0 7).toInt + (n - i : Nat) ≤ 200 ∧ PLi x (mnX x T i) ∧ WTi (mnX x T i) ∧ RTi B x (mnX x T i)) (hn : n ≤ 200) : MC l G yL_passes cL_passes 8 (some .int) ({ frames := 3, cells := 0, slots := 0, locals := 70 } : Room) [9] lk0 [rv 0 0, iv (nI n)] (M) (fun r M2 => r = some (iv (mnX x T n 0 11 - T 0 11)) ∧ M2 = setm M 0 (LE B x (mnX x T n))) := by
  obtain ⟨M0, rfl⟩ : ∃ M0, M = m1 ((LE B x T)) M0 := ⟨M, (m1_of hA0).symm⟩
  clear hA0
  refine MC.of RL [some (rv 0 0), some (iv (nI n)), none, none, none, none, none, none] 6 (by decide +kernel) rfl rfl rfl ?_
  intro pp ee ss mm aa bb me cd ad E
  have hro := hw.1.2
  have hco := hw.2.1.2
  have hbo := hw.2.2
  refine r_aload_n E (dat dkL_passes_k0 0 rfl) rfl rfl ?_
  refine q_getn E fl_L_88 (dat dkL_passes_k0 1 rfl) rfl rfl rfl (gh1_0 LE_v19) ?_
  refine r_istore_2 E (dat dkL_passes_k0 2 rfl) rfl rfl ?_
  refine r_iconst (v := 0) E (dat dkL_passes_k0 3 rfl) rfl ?_
  refine r_istore_3 E (dat dkL_passes_k0 4 rfl) rfl rfl ?_
  refine r_for (n) (fun _ => True) (fun i0 => m1 (LE B x (mnX x T i0)) M0) (fun i0 => [some (rv 0 0), some (iv (nI n)), some (iv (T 0 11)), some (iv (nI i0)), none, none, none, none]) trivial rfl rfl ?_ ?_
  · intro i0 hi0 hIi0 ki0
    obtain ⟨hZ, hX, h200, hpl, hwt, hrt⟩ := hS i0 (by omega)
    have hmm := (mm_n hx (LW_PV hw) (hS 0 (Nat.zero_le _)).1.1 (hS 0 (Nat.zero_le _)).2.2.2.1 i0 (by
      have h0 := (hS 0 (Nat.zero_le _)).2.2.1
      have h1 : mnX x T 0 0 7 = T 0 7 := rfl
      rw [h1] at h0 ⊢
      omega)).1
    rw [show mnX x (mnX x T 0) i0 = mnX x T i0 from rfl, show mnX x (mnX x T 0) (i0 + 1) = mnX x T (i0 + 1) from rfl] at hmm
    rw [← hmm] at ki0
    clear hmm
    generalize mnX x T i0 = U at ki0 hZ hX h200 hpl hwt hrt ⊢
    have ht := SI_ht hZ.1
    have hm200 : (U 0 7).toInt + 1 ≤ 200 := by omega
    have hN := zi_N hx hw hZ hX hm200
    have hl2 := hZ.2.2
    obtain ⟨m, hm7, hm9⟩ : ∃ m : Nat, U 0 7 + 1 = nI m ∧ m ≤ 200 := by
      have h0 := hZ.2.1.1
      have e : (U 0 7 + 1).toInt = (U 0 7).toInt + 1 := i_add (by show _ ≤ _ + (1 : Int); omega) (by show _ + (1 : Int) < _; omega)
      refine ⟨((U 0 7).toInt + 1).toNat, Int32.toInt_inj.mp ?_, by omega⟩
      rw [e, ni_t (by omega)]
      omega
    refine r_iload_n E (dat dkL_passes_k0 5 rfl) rfl rfl ?_
    refine r_iload_n E (dat dkL_passes_k0 6 rfl) rfl rfl ?_
    refine q_icmp_ge (tgt := 521) E (dat dkL_passes_k0 7 rfl) rfl rfl rfl (by omega) (by omega) (fun h9 => ?_) (fun h9 => ?_)
    ·
      omega
    ·
      refine r_aload_n E (dat dkL_passes_k0 8 rfl) rfl rfl ?_
      refine r_dup E (dat dkL_passes_k0 9 rfl) rfl ?_
      refine q_getn E fl_L_92 (dat dkL_passes_k0 10 rfl) rfl rfl rfl (gh1_0 LE_v16) ?_
      refine r_iconst (v := 1) E (dat dkL_passes_k0 11 rfl) rfl ?_
      refine r_iadd E (dat dkL_passes_k0 12 rfl) ?_
      refine q_putn E ft_L_92 (dat dkL_passes_k0 13 rfl) rfl rfl rfl (sf1_0 LE_f16) ?_
      refine r_iconst (v := 1) E (dat dkL_passes_k0 14 rfl) rfl ?_
      refine r_istore_4 E (dat dkL_passes_k0 15 rfl) rfl rfl ?_
      refine r_for (x.1.1) (fun _ => True) (fun r => m1 (LE B x (q1 x U (r * x.1.2.1))) M0) (fun r => [some (rv 0 0), some (iv (nI n)), some (iv (T 0 11)), some (iv (nI i0)), some (iv (nI (r + 1))), none, none, none]) trivial (by rw [Nat.zero_mul]; rfl) rfl ?_ ?_
      · intro r hr hIr kr
        refine r_iload E (dat dkL_passes_k0 16 rfl) rfl ?_
        refine r_aload_n E (dat dkL_passes_k0 17 rfl) rfl rfl ?_
        refine q_getn E fl_L_95 (dat dkL_passes_k0 18 rfl) rfl rfl rfl (gh1_0 LE_v12) ?_
        refine q_icmp_gt (tgt := 160) E (dat dkL_passes_k0 19 rfl) rfl rfl rfl (by omega) (by omega) (fun h31 => ?_) (fun h31 => ?_)
        ·
          omega
        ·
          refine r_iconst (v := 1) E (dat dkL_passes_k0 20 rfl) rfl ?_
          refine r_istore_5 E (dat dkL_passes_k0 21 rfl) rfl rfl ?_
          refine r_for (x.1.2.1) (fun _ => True) (fun c => m1 (LE B x (q1 x U (r * x.1.2.1 + c))) M0) (fun c => [some (rv 0 0), some (iv (nI n)), some (iv (T 0 11)), some (iv (nI i0)), some (iv (nI (r + 1))), some (iv (nI (c + 1))), none, none]) trivial rfl rfl ?_ ?_
          · intro c hc hIc kc
            have hin : inC x (r + 1) (c + 1) := ⟨⟨by omega, by omega⟩, by omega, by omega⟩
            have hcl : clC x (r + 1) (c + 1) = r * x.1.2.1 + c := rfl
            have hkn : r * x.1.2.1 + c < x.1.2.2 := clC_lt hx.2.2.1 hin
            have hr7 : r + 1 < 7 := by have := hw.1.2; omega
            have hc7 : c + 1 < 7 := by have := hw.2.1.2; omega
            obtain ⟨e4, e3⟩ := q1_k ht hkn
            rw [show q1 x U (r * x.1.2.1 + (c + 1)) = r1C (q1 x U (r * x.1.2.1 + c)) (r * x.1.2.1 + c) from rfl] at kc
            generalize q1 x U (r * x.1.2.1 + c) = V at e4 e3 kc ⊢
            refine r_iload E (dat dkL_passes_k0 22 rfl) rfl ?_
            refine r_aload_n E (dat dkL_passes_k0 23 rfl) rfl rfl ?_
            refine q_getn E fl_L_98 (dat dkL_passes_k0 24 rfl) rfl rfl rfl (gh1_0 LE_v13) ?_
            refine q_icmp_gt (tgt := 154) E (dat dkL_passes_k0 25 rfl) rfl rfl rfl (by omega) (by omega) (fun h43 => ?_) (fun h43 => ?_)
            ·
              omega
            ·
              refine r_aload_n E (dat dkL_passes_k0 26 rfl) rfl rfl ?_
              refine q_geta E fl_L_14 (dat dkL_passes_k0 27 rfl) rfl rfl rfl ?_
              refine r_iload E (dat dkL_passes_k0 28 rfl) rfl ?_
              refine q_laa (a := 1) E (dat dkL_passes_k0 29 rfl) rfl rfl rfl (by decide) rfl hr7 ?_
              refine r_iload E (dat dkL_passes_k0 30 rfl) rfl ?_
              refine r_dup2 E (dat dkL_passes_k0 31 rfl) rfl rfl ?_
              refine q_ialv E (dat dkL_passes_k0 32 rfl) (lae (by decide) hr7) (lok (Nat.le_of_ble_eq_true rfl) rfl (by decide) hr7) (by decide) rfl hc7 (gh1_0 (LE_wk hr7 hin hcl)) ?_
              refine r_aload_n E (dat dkL_passes_k0 33 rfl) rfl rfl ?_
              refine q_getn E fl_L_101 (dat dkL_passes_k0 34 rfl) rfl rfl rfl (gh1_0 LE_v15) ?_
              refine r_iadd E (dat dkL_passes_k0 35 rfl) ?_
              refine q_iasv E (dat dkL_passes_k0 36 rfl) (lae (by decide) hr7) (lok (Nat.le_of_ble_eq_true rfl) rfl (by decide) hr7) (by decide) rfl hc7 (sa1_0 (LE_swk hr7 hin hcl)) ?_
              refine r_aload_n E (dat dkL_passes_k0 37 rfl) rfl rfl ?_
              refine r_dup E (dat dkL_passes_k0 38 rfl) rfl ?_
              refine q_getn E fl_L_104 (dat dkL_passes_k0 39 rfl) rfl rfl rfl (gh1_0 (LE_v17.trans (sc_r (by decide)))) ?_
              refine r_aload_n E (dat dkL_passes_k0 40 rfl) rfl rfl ?_
              refine q_getn E fl_L_101 (dat dkL_passes_k0 41 rfl) rfl rfl rfl (gh1_0 (LE_v15.trans (sc_r (by decide)))) ?_
              refine r_iadd E (dat dkL_passes_k0 42 rfl) ?_
              refine q_putn E ft_L_104 (dat dkL_passes_k0 43 rfl) rfl rfl rfl (sf1_0 LE_f17) ?_
              refine r_mem (M' := m1 (LE B x (raC V (r * x.1.2.1 + c))) M0) rfl ?_
              have hW4 : raC V (r * x.1.2.1 + c) 4 (r * x.1.2.1 + c) = V 4 (r * x.1.2.1 + c) := raC_4
              generalize hWd : raC V (r * x.1.2.1 + c) = W at hW4 ⊢
              refine r_aload_n E (dat dkL_passes_k0 44 rfl) rfl rfl ?_
              refine q_geta E fl_L_26 (dat dkL_passes_k0 45 rfl) rfl rfl rfl ?_
              refine r_iload E (dat dkL_passes_k0 46 rfl) rfl ?_
              refine q_laa (a := 5) E (dat dkL_passes_k0 47 rfl) rfl rfl rfl (by decide) rfl (by omega) ?_
              refine r_iload E (dat dkL_passes_k0 48 rfl) rfl ?_
              refine q_ialv E (dat dkL_passes_k0 49 rfl) (lae (by decide) (by omega)) (lok (Nat.le_of_ble_eq_true rfl) rfl (by decide) (by omega)) (by decide) rfl hc7 (gh1_0 (LE_mk (by omega) hin hcl)) ?_
              refine r_if_ne (tgt := 92) E (dat dkL_passes_k1 0 rfl) rfl (fun h86 => ?_) (fun h86 => ?_)
              ·
                have hrate : B (20 + 7 * 4 + (r + 1)) (c + 1) = V 3 (r * x.1.2.1 + c) := by
                  rw [e3]
                  exact hrt (r + 1) (c + 1) hin (fun q => h86 (hW4.trans (e4.trans q)))
                have hfin := (r1_b (B := B) (x := x) (U := V) (k := r * x.1.2.1 + c) (fun q => h86 (hW4.trans q))).symm
                rw [hWd] at hfin
                refine r_aload_n E (dat dkL_passes_k1 2 rfl) rfl rfl ?_
                refine q_geta E fl_L_14 (dat dkL_passes_k1 3 rfl) rfl rfl rfl ?_
                refine r_iload E (dat dkL_passes_k1 4 rfl) rfl ?_
                refine q_laa (a := 1) E (dat dkL_passes_k1 5 rfl) rfl rfl rfl (by decide) rfl (by omega) ?_
                refine r_iload E (dat dkL_passes_k1 6 rfl) rfl ?_
                refine r_dup2 E (dat dkL_passes_k1 7 rfl) rfl rfl ?_
                refine q_ialv E (dat dkL_passes_k1 8 rfl) (lae (by decide) (by omega)) (lok (Nat.le_of_ble_eq_true rfl) rfl (by decide) (by omega)) (by decide) rfl hc7 (gh1_0 (LE_wk (by omega) hin hcl)) ?_
                refine r_aload_n E (dat dkL_passes_k1 9 rfl) rfl rfl ?_
                refine q_geta E fl_L_23 (dat dkL_passes_k1 10 rfl) rfl rfl rfl ?_
                refine r_iload E (dat dkL_passes_k1 11 rfl) rfl ?_
                refine q_laa (a := 4) E (dat dkL_passes_k1 12 rfl) rfl rfl rfl (by decide) rfl hr7 ?_
                refine r_iload E (dat dkL_passes_k1 13 rfl) rfl ?_
                refine q_ialv E (dat dkL_passes_k1 14 rfl) (lae (by decide) hr7) (lok (Nat.le_of_ble_eq_true rfl) rfl (by decide) hr7) (by decide) rfl hc7 (gh1_0 ((LE_raw (by decide) hr7).trans hrate)) ?_
                refine r_iadd E (dat dkL_passes_k1 15 rfl) ?_
                refine q_iasv E (dat dkL_passes_k1 16 rfl) (lae (by decide) (by omega)) (lok (Nat.le_of_ble_eq_true rfl) rfl (by decide) (by omega)) (by decide) rfl hc7 (sa1_0 (LE_swk (by omega) hin hcl)) ?_
                refine r_aload_n E (dat dkL_passes_k1 17 rfl) rfl rfl ?_
                refine r_dup E (dat dkL_passes_k1 18 rfl) rfl ?_
                refine q_getn E fl_L_107 (dat dkL_passes_k1 19 rfl) rfl rfl rfl (gh1_0 (LE_v18.trans (sc_r (by decide)))) ?_
                refine r_aload_n E (dat dkL_passes_k1 20 rfl) rfl rfl ?_
                refine q_geta E fl_L_23 (dat dkL_passes_k1 21 rfl) rfl rfl rfl ?_
                refine r_iload E (dat dkL_passes_k1 22 rfl) rfl ?_
                refine q_laa (a := 4) E (dat dkL_passes_k1 23 rfl) rfl rfl rfl (by decide) rfl hr7 ?_
                refine r_iload E (dat dkL_passes_k1 24 rfl) rfl ?_
                refine q_ialv E (dat dkL_passes_k1 25 rfl) (lae (by decide) hr7) (lok (Nat.le_of_ble_eq_true rfl) rfl (by decide) hr7) (by decide) rfl hc7 (gh1_0 ((LE_raw (by decide) hr7).trans hrate)) ?_
                refine r_iadd E (dat dkL_passes_k1 26 rfl) ?_
                refine q_putn E ft_L_107 (dat dkL_passes_k1 27 rfl) rfl rfl rfl (sf1_0 LE_f18) ?_
                refine r_aload_n E (dat dkL_passes_k1 28 rfl) rfl rfl ?_
                refine q_geta E fl_L_26 (dat dkL_passes_k1 29 rfl) rfl rfl rfl ?_
                refine r_iload E (dat dkL_passes_k1 30 rfl) rfl ?_
                refine q_laa (a := 5) E (dat dkL_passes_k1 31 rfl) rfl rfl rfl (by decide) rfl hr7 ?_
                refine r_iload E (dat dkL_passes_k1 32 rfl) rfl ?_
                refine r_dup2 E (dat dkL_passes_k1 33 rfl) rfl rfl ?_
                refine q_ialv E (dat dkL_passes_k1 34 rfl) (lae (by decide) hr7) (lok (Nat.le_of_ble_eq_true rfl) rfl (by decide) hr7) (by decide) rfl hc7 (gh1_0 ((LE_mk hr7 hin hcl).trans ((sc_r (by decide)).trans (sc_r (by decide))))) ?_
                refine r_iconst (v := 1) E (dat dkL_passes_k1 35 rfl) rfl ?_
                refine r_isub E (dat dkL_passes_k1 36 rfl) ?_
                refine q_iasv E (dat dkL_passes_k1 37 rfl) (lae (by decide) hr7) (lok (Nat.le_of_ble_eq_true rfl) rfl (by decide) hr7) (by decide) rfl hc7 (sa1_0 (LE_smk hr7 hin hcl)) ?_
                refine q_iinc_5 E (dat dkL_passes_k1 38 rfl) rfl rfl ?_
                refine r_goto (tgt := 37) E (dat dkL_passes_k1 39 rfl) rfl ?_
                refine r_back ?_ ?_ (kc trivial)
                rotate_left
                · exact ⟨rfl, rfl, rfl, rfl, rfl, rfl, trivial⟩
                · exact congrArg (fun Z => m1 Z M0) hfin
              ·
                have hfin : LE B x (r1C V (r * x.1.2.1 + c)) = LE B x W := congrArg (LE B x) ((r1_a (hW4.symm.trans h86)).trans hWd)
                refine r_goto (tgt := 148) E (dat dkL_passes_k1 1 rfl) rfl ?_
                refine q_iinc_5 E (dat dkL_passes_k1 38 rfl) rfl rfl ?_
                refine r_goto (tgt := 37) E (dat dkL_passes_k1 39 rfl) rfl ?_
                refine r_back ?_ ?_ (kc trivial)
                rotate_left
                · exact ⟨rfl, rfl, rfl, rfl, rfl, rfl, trivial⟩
                · exact congrArg (fun Z => m1 Z M0) hfin
          · intro hIc
            refine r_iload E (dat dkL_passes_k0 22 rfl) rfl ?_
            refine r_aload_n E (dat dkL_passes_k0 23 rfl) rfl rfl ?_
            refine q_getn E fl_L_98 (dat dkL_passes_k0 24 rfl) rfl rfl rfl (gh1_0 LE_v13) ?_
            refine q_icmp_gt (tgt := 154) E (dat dkL_passes_k0 25 rfl) rfl rfl rfl (by omega) (by omega) (fun h43 => ?_) (fun h43 => ?_)
            ·
              refine q_iinc_4 E (dat dkL_passes_k1 40 rfl) rfl rfl ?_
              refine r_goto (tgt := 25) E (dat dkL_passes_k1 41 rfl) rfl ?_
              refine r_back ?_ ?_ (kr trivial)
              rotate_left
              · exact ⟨rfl, rfl, rfl, rfl, rfl, trivial⟩
              · rw [Nat.succ_mul]
            ·
              omega
      · intro hIr
        refine r_iload E (dat dkL_passes_k0 16 rfl) rfl ?_
        refine r_aload_n E (dat dkL_passes_k0 17 rfl) rfl rfl ?_
        refine q_getn E fl_L_95 (dat dkL_passes_k0 18 rfl) rfl rfl rfl (gh1_0 LE_v12) ?_
        refine q_icmp_gt (tgt := 160) E (dat dkL_passes_k0 19 rfl) rfl rfl rfl (by omega) (by omega) (fun h31 => ?_) (fun h31 => ?_)
        ·
          refine r_iconst (v := 1) E (dat dkL_passes_k1 42 rfl) rfl ?_
          refine r_istore_4 E (dat dkL_passes_k1 43 rfl) rfl rfl ?_
          refine r_for (x.1.1) (fun _ => True) (fun r => m1 (LE B x (q2 x U (r * x.1.2.1))) M0) (fun r => [some (rv 0 0), some (iv (nI n)), some (iv (T 0 11)), some (iv (nI i0)), some (iv (nI (r + 1))), none, none, none]) trivial (by rw [Nat.zero_mul, ← hx.2.2.1]; rfl) rfl ?_ ?_
          · intro r hr hIr kr
            refine r_iload E (dat dkL_passes_k1 44 rfl) rfl ?_
            refine r_aload_n E (dat dkL_passes_k1 45 rfl) rfl rfl ?_
            refine q_getn E fl_L_95 (dat dkL_passes_k1 46 rfl) rfl rfl rfl (gh1_0 LE_v12) ?_
            refine q_icmp_gt (tgt := 335) E (dat dkL_passes_k1 47 rfl) rfl rfl rfl (by omega) (by omega) (fun h169 => ?_) (fun h169 => ?_)
            ·
              omega
            ·
              refine r_iconst (v := 1) E (dat dkL_passes_k1 48 rfl) rfl ?_
              refine r_istore_5 E (dat dkL_passes_k1 49 rfl) rfl rfl ?_
              refine r_for (x.1.2.1) (fun _ => True) (fun c => m1 (LE B x (q2 x U (r * x.1.2.1 + c))) M0) (fun c => [some (rv 0 0), some (iv (nI n)), some (iv (T 0 11)), some (iv (nI i0)), some (iv (nI (r + 1))), some (iv (nI (c + 1))), none, none]) trivial rfl rfl ?_ ?_
              · intro c hc hIc kc
                have hin : inC x (r + 1) (c + 1) := ⟨⟨by omega, by omega⟩, by omega, by omega⟩
                have hcl : clC x (r + 1) (c + 1) = r * x.1.2.1 + c := rfl
                have hkn : r * x.1.2.1 + c < x.1.2.2 := clC_lt hx.2.2.1 hin
                have hr7 : r + 1 < 7 := by have := hw.1.2; omega
                have hc7 : c + 1 < 7 := by have := hw.2.1.2; omega
                have hWB := q2_w hx hw ht hN (i := r * x.1.2.1 + c) (by omega)
                have hLV := (q2_l hx hw ht hN hL9 hl2 (i := r * x.1.2.1 + c) (by omega)).1 _ hkn
                rw [show q2 x U (r * x.1.2.1 + (c + 1)) = r2C x (q2 x U (r * x.1.2.1 + c)) (r * x.1.2.1 + c) from rfl] at kc
                generalize q2 x U (r * x.1.2.1 + c) = V at hWB hLV kc ⊢
                obtain ⟨hin2, hlo⟩ := lwW_of hx hw hB hh hWB hin
                rw [hcl] at hlo
                have hw4 := @lwW_lt B x V (r + 1) (c + 1)
                have hd1 := @dR_b (r + 1) (lwW B x V (r + 1) (c + 1))
                have hd2 := @dC_b (c + 1) (lwW B x V (r + 1) (c + 1))
                have hr2 : dR (r + 1) (lwW B x V (r + 1) (c + 1)) < 7 := by have := hw.1.2; omega
                have hc2 : dC (c + 1) (lwW B x V (r + 1) (c + 1)) < 7 := by have := hw.2.1.2; omega
                generalize hw9 : lwW B x V (r + 1) (c + 1) = w9 at hin2 hlo hw4 hd1 hd2 hr2 hc2
                generalize ho : clC x (dR (r + 1) w9) (dC (c + 1) w9) = o at hlo
                have hgk := (hg _ hkn).1
                refine r_iload E (dat dkL_passes_k2 0 rfl) rfl ?_
                refine r_aload_n E (dat dkL_passes_k2 1 rfl) rfl rfl ?_
                refine q_getn E fl_L_98 (dat dkL_passes_k2 2 rfl) rfl rfl rfl (gh1_0 LE_v13) ?_
                refine q_icmp_gt (tgt := 329) E (dat dkL_passes_k2 3 rfl) rfl rfl rfl (by omega) (by omega) (fun h181 => ?_) (fun h181 => ?_)
                ·
                  omega
                ·
                  refine r_aload_n E (dat dkL_passes_k2 4 rfl) rfl rfl ?_
                  refine r_iload E (dat dkL_passes_k2 5 rfl) rfl ?_
                  refine r_iload E (dat dkL_passes_k2 6 rfl) rfl ?_
                  refine r_callV (κ := 9) (μ := [0]) E (sp_L_flow l G B x V (r + 1) (c + 1) _ rfl hx hw hB hh hWB hin) my_L_flow iv_L_flow ml_L_110 (cm_of rfl) ⟨by decide, rfl, rfl⟩ rfl rfl rfl rfl (by decide) (Nat.le_of_ble_eq_true rfl) (dat dkL_passes_k2 7 rfl) ?_
                  rintro _ _ ⟨rfl, rfl⟩
                  refine ⟨_, Mrg_z rfl, ?_⟩
                  rw [hcl, hlo]
                  generalize hf9 : flO x.2.1 (V 1) (r * x.1.2.1 + c) (some o) = f9
                  refine r_istore_6 E (dat dkL_passes_k2 8 rfl) rfl rfl ?_
                  refine r_iload E (dat dkL_passes_k2 9 rfl) rfl ?_
                  refine r_if_ne (tgt := 202) E (dat dkL_passes_k2 10 rfl) rfl (fun h196 => ?_) (fun h196 => ?_)
                  ·
                    refine r_aload_n E (dat dkL_passes_k2 12 rfl) rfl rfl ?_
                    refine r_iload E (dat dkL_passes_k2 13 rfl) rfl ?_
                    refine r_iload E (dat dkL_passes_k2 14 rfl) rfl ?_
                    refine r_callV (κ := 9) (μ := [0]) E (sp_L_lowest l G B x V (r + 1) (c + 1) _ rfl (by omega) (by omega) (by omega) (by omega)) my_L_lowest iv_L_lowest ml_L_80 (cm_of rfl) ⟨by decide, rfl, rfl⟩ rfl rfl rfl rfl (by decide) (Nat.le_of_ble_eq_true rfl) (dat dkL_passes_k2 15 rfl) ?_
                    rintro _ _ ⟨rfl, rfl⟩
                    refine ⟨_, Mrg_z rfl, ?_⟩
                    rw [hw9]
                    refine r_istore_7 E (dat dkL_passes_k2 16 rfl) rfl rfl ?_
                    refine r_aload_n E (dat dkL_passes_k2 17 rfl) rfl rfl ?_
                    refine q_geta E fl_L_14 (dat dkL_passes_k2 18 rfl) rfl rfl rfl ?_
                    refine r_iload E (dat dkL_passes_k2 19 rfl) rfl ?_
                    refine q_laa (a := 1) E (dat dkL_passes_k2 20 rfl) rfl rfl rfl (by decide) rfl hr7 ?_
                    refine r_iload E (dat dkL_passes_k2 21 rfl) rfl ?_
                    refine r_dup2 E (dat dkL_passes_k2 22 rfl) rfl rfl ?_
                    refine q_ialv E (dat dkL_passes_k2 23 rfl) (lae (by decide) hr7) (lok (Nat.le_of_ble_eq_true rfl) rfl (by decide) hr7) (by decide) rfl hc7 (gh1_0 (LE_wk hr7 hin hcl)) ?_
                    refine r_iload E (dat dkL_passes_k2 24 rfl) rfl ?_
                    refine r_isub E (dat dkL_passes_k2 25 rfl) ?_
                    refine q_iasv E (dat dkL_passes_k2 26 rfl) (lae (by decide) hr7) (lok (Nat.le_of_ble_eq_true rfl) rfl (by decide) hr7) (by decide) rfl hc7 (sa1_0 (LE_swk hr7 hin hcl)) ?_
                    refine r_aload_n E (dat dkL_passes_k2 27 rfl) rfl rfl ?_
                    refine q_geta E fl_L_14 (dat dkL_passes_k2 28 rfl) rfl rfl rfl ?_
                    refine r_iload E (dat dkL_passes_k2 29 rfl) rfl ?_
                    refine r_iload E (dat dkL_passes_k2 30 rfl) rfl ?_
                    refine r_callS (μ := []) E (sp_L_down l G w9 _ (by omega)) my_L_down is_L_down ml_L_69 cm_nil rfl rfl (by decide) (Nat.le_of_ble_eq_true rfl) (dat dkL_passes_k2 31 rfl) ?_
                    rintro _ _ ⟨rfl, rfl⟩
                    refine ⟨_, Mrg_z rfl, ?_⟩
                    refine r_iadd E (dat dkL_passes_k2 32 rfl) ?_
                    refine q_laa (a := 1) E (dat dkL_passes_k2 33 rfl) rfl rfl rfl (by decide) (dn_r (by omega)) hr2 ?_
                    refine r_iload E (dat dkL_passes_k2 34 rfl) rfl ?_
                    refine r_iload E (dat dkL_passes_k2 35 rfl) rfl ?_
                    refine r_callS (μ := []) E (sp_L_right l G w9 _ (by omega)) my_L_right is_L_right ml_L_73 cm_nil rfl rfl (by decide) (Nat.le_of_ble_eq_true rfl) (dat dkL_passes_k2 36 rfl) ?_
                    rintro _ _ ⟨rfl, rfl⟩
                    refine ⟨_, Mrg_z rfl, ?_⟩
                    refine r_iadd E (dat dkL_passes_k2 37 rfl) ?_
                    refine r_dup2 E (dat dkL_passes_k2 38 rfl) rfl rfl ?_
                    refine q_ialv E (dat dkL_passes_k2 39 rfl) (lae (by decide) hr2) (lok (Nat.le_of_ble_eq_true rfl) rfl (by decide) hr2) (by decide) (rt_c (by omega)) hc2 (gh1_0 (LE_wk hr2 hin2 ho)) ?_
                    refine r_iload E (dat dkL_passes_k2 40 rfl) rfl ?_
                    refine r_iadd E (dat dkL_passes_k2 41 rfl) ?_
                    refine q_iasv E (dat dkL_passes_k2 42 rfl) (lae (by decide) hr2) (lok (Nat.le_of_ble_eq_true rfl) rfl (by decide) hr2) (by decide) (rt_c (by omega)) hc2 (sa1_0 (LE_swk hr2 hin2 ho)) ?_
                    refine r_aload_n E (dat dkL_passes_k2 43 rfl) rfl rfl ?_
                    refine q_geta E fl_L_17 (dat dkL_passes_k2 44 rfl) rfl rfl rfl ?_
                    refine r_iload E (dat dkL_passes_k2 45 rfl) rfl ?_
                    refine q_laa (a := 2) E (dat dkL_passes_k2 46 rfl) rfl rfl rfl (by decide) rfl hr7 ?_
                    refine r_iload E (dat dkL_passes_k2 47 rfl) rfl ?_
                    refine q_ialv E (dat dkL_passes_k2 48 rfl) (lae (by decide) hr7) (lok (Nat.le_of_ble_eq_true rfl) rfl (by decide) hr7) (by decide) rfl hc7 (gh1_0 ((LE_lk hr7 hin hcl).trans ((sc_r (by decide)).trans (sc_r (by decide))))) ?_
                    refine r_if_eq (tgt := 323) E (dat dkL_passes_k2 49 rfl) rfl (fun h264 => ?_) (fun h264 => ?_)
                    ·
                      have hcd : ¬ (0 < V 2 (r * x.1.2.1 + c) ∧ x.2.2.1 (r * x.1.2.1 + c) = 0) := fun q => by rw [h264] at q; exact absurd q.1 (by decide)
                      have hfin := congrArg (LE B x) (r2_1 hf9.symm hlo h196 hcd)
                      refine q_iinc_5 E (dat dkL_passes_k3 34 rfl) rfl rfl ?_
                      refine r_goto (tgt := 175) E (dat dkL_passes_k3 35 rfl) rfl ?_
                      refine r_back ?_ ?_ (kc trivial)
                      rotate_left
                      · exact ⟨rfl, rfl, rfl, rfl, rfl, rfl, trivial⟩
                      · exact congrArg (fun Z => m1 Z M0) hfin
                    ·
                      refine r_aload_n E (dat dkL_passes_k3 0 rfl) rfl rfl ?_
                      refine q_geta E fl_L_20 (dat dkL_passes_k3 1 rfl) rfl rfl rfl ?_
                      refine r_iload E (dat dkL_passes_k3 2 rfl) rfl ?_
                      refine q_laa (a := 3) E (dat dkL_passes_k3 3 rfl) rfl rfl rfl (by decide) rfl hr7 ?_
                      refine r_iload E (dat dkL_passes_k3 4 rfl) rfl ?_
                      refine q_ialv E (dat dkL_passes_k3 5 rfl) (lae (by decide) hr7) (lok (Nat.le_of_ble_eq_true rfl) rfl (by decide) hr7) (by decide) rfl hc7 (gh1_0 (LE_gk hr7 hin hcl)) ?_
                      refine r_if_le (tgt := 283) E (dat dkL_passes_k3 6 rfl) rfl (fun h277 => ?_) (fun h277 => ?_)
                      ·
                        have hcd : 0 < V 2 (r * x.1.2.1 + c) ∧ x.2.2.1 (r * x.1.2.1 + c) = 0 := ⟨i_lt.mpr (by have := i_0; have : ¬ (V 2 (r * x.1.2.1 + c)).toInt = 0 := fun q => h264 (Int32.toInt_inj.mp (q.trans i_0.symm)); omega), Int32.le_antisymm h277 (i_le.mpr (by rw [i_0]; exact hgk))⟩
                        have hfin := congrArg (LE B x) (r2_2 hf9.symm hlo h196 hcd)
                        refine r_aload_n E (dat dkL_passes_k3 8 rfl) rfl rfl ?_
                        refine q_geta E fl_L_17 (dat dkL_passes_k3 9 rfl) rfl rfl rfl ?_
                        refine r_iload E (dat dkL_passes_k3 10 rfl) rfl ?_
                        refine q_laa (a := 2) E (dat dkL_passes_k3 11 rfl) rfl rfl rfl (by decide) rfl hr7 ?_
                        refine r_iload E (dat dkL_passes_k3 12 rfl) rfl ?_
                        refine r_dup2 E (dat dkL_passes_k3 13 rfl) rfl rfl ?_
                        refine q_ialv E (dat dkL_passes_k3 14 rfl) (lae (by decide) hr7) (lok (Nat.le_of_ble_eq_true rfl) rfl (by decide) hr7) (by decide) rfl hc7 (gh1_0 ((LE_lk hr7 hin hcl).trans ((sc_r (by decide)).trans (sc_r (by decide))))) ?_
                        refine r_iconst (v := 1) E (dat dkL_passes_k3 15 rfl) rfl ?_
                        refine r_isub E (dat dkL_passes_k3 16 rfl) ?_
                        refine q_iasv E (dat dkL_passes_k3 17 rfl) (lae (by decide) hr7) (lok (Nat.le_of_ble_eq_true rfl) rfl (by decide) hr7) (by decide) rfl hc7 (sa1_0 (LE_slk hr7 hin hcl)) ?_
                        refine r_aload_n E (dat dkL_passes_k3 18 rfl) rfl rfl ?_
                        refine q_geta E fl_L_17 (dat dkL_passes_k3 19 rfl) rfl rfl rfl ?_
                        refine r_iload E (dat dkL_passes_k3 20 rfl) rfl ?_
                        refine r_iload E (dat dkL_passes_k3 21 rfl) rfl ?_
                        refine r_callS (μ := []) E (sp_L_down l G w9 _ (by omega)) my_L_down is_L_down ml_L_69 cm_nil rfl rfl (by decide) (Nat.le_of_ble_eq_true rfl) (dat dkL_passes_k3 22 rfl) ?_
                        rintro _ _ ⟨rfl, rfl⟩
                        refine ⟨_, Mrg_z rfl, ?_⟩
                        refine r_iadd E (dat dkL_passes_k3 23 rfl) ?_
                        refine q_laa (a := 2) E (dat dkL_passes_k3 24 rfl) rfl rfl rfl (by decide) (dn_r (by omega)) hr2 ?_
                        refine r_iload E (dat dkL_passes_k3 25 rfl) rfl ?_
                        refine r_iload E (dat dkL_passes_k3 26 rfl) rfl ?_
                        refine r_callS (μ := []) E (sp_L_right l G w9 _ (by omega)) my_L_right is_L_right ml_L_73 cm_nil rfl rfl (by decide) (Nat.le_of_ble_eq_true rfl) (dat dkL_passes_k3 27 rfl) ?_
                        rintro _ _ ⟨rfl, rfl⟩
                        refine ⟨_, Mrg_z rfl, ?_⟩
                        refine r_iadd E (dat dkL_passes_k3 28 rfl) ?_
                        refine r_dup2 E (dat dkL_passes_k3 29 rfl) rfl rfl ?_
                        refine q_ialv E (dat dkL_passes_k3 30 rfl) (lae (by decide) hr2) (lok (Nat.le_of_ble_eq_true rfl) rfl (by decide) hr2) (by decide) (rt_c (by omega)) hc2 (gh1_0 (LE_lk hr2 hin2 ho)) ?_
                        refine r_iconst (v := 1) E (dat dkL_passes_k3 31 rfl) rfl ?_
                        refine r_iadd E (dat dkL_passes_k3 32 rfl) ?_
                        refine q_iasv E (dat dkL_passes_k3 33 rfl) (lae (by decide) hr2) (lok (Nat.le_of_ble_eq_true rfl) rfl (by decide) hr2) (by decide) (rt_c (by omega)) hc2 (sa1_0 (LE_slk hr2 hin2 ho)) ?_
                        refine q_iinc_5 E (dat dkL_passes_k3 34 rfl) rfl rfl ?_
                        refine r_goto (tgt := 175) E (dat dkL_passes_k3 35 rfl) rfl ?_
                        refine r_back ?_ ?_ (kc trivial)
                        rotate_left
                        · exact ⟨rfl, rfl, rfl, rfl, rfl, rfl, trivial⟩
                        · exact congrArg (fun Z => m1 Z M0) hfin
                      ·
                        have hcd : ¬ (0 < V 2 (r * x.1.2.1 + c) ∧ x.2.2.1 (r * x.1.2.1 + c) = 0) := fun q => h277 (by rw [q.2]; decide)
                        have hfin := congrArg (LE B x) (r2_1 hf9.symm hlo h196 hcd)
                        refine r_goto (tgt := 323) E (dat dkL_passes_k3 7 rfl) rfl ?_
                        refine q_iinc_5 E (dat dkL_passes_k3 34 rfl) rfl rfl ?_
                        refine r_goto (tgt := 175) E (dat dkL_passes_k3 35 rfl) rfl ?_
                        refine r_back ?_ ?_ (kc trivial)
                        rotate_left
                        · exact ⟨rfl, rfl, rfl, rfl, rfl, rfl, trivial⟩
                        · exact congrArg (fun Z => m1 Z M0) hfin
                  ·
                    have hfin := congrArg (LE B x) (r2_0 hlo (hf9.trans h196))
                    refine r_goto (tgt := 323) E (dat dkL_passes_k2 11 rfl) rfl ?_
                    refine q_iinc_5 E (dat dkL_passes_k3 34 rfl) rfl rfl ?_
                    refine r_goto (tgt := 175) E (dat dkL_passes_k3 35 rfl) rfl ?_
                    refine r_back ?_ ?_ (kc trivial)
                    rotate_left
                    · exact ⟨rfl, rfl, rfl, rfl, rfl, rfl, trivial⟩
                    · exact congrArg (fun Z => m1 Z M0) hfin
              · intro hIc
                refine r_iload E (dat dkL_passes_k2 0 rfl) rfl ?_
                refine r_aload_n E (dat dkL_passes_k2 1 rfl) rfl rfl ?_
                refine q_getn E fl_L_98 (dat dkL_passes_k2 2 rfl) rfl rfl rfl (gh1_0 LE_v13) ?_
                refine q_icmp_gt (tgt := 329) E (dat dkL_passes_k2 3 rfl) rfl rfl rfl (by omega) (by omega) (fun h181 => ?_) (fun h181 => ?_)
                ·
                  refine q_iinc_4 E (dat dkL_passes_k3 36 rfl) rfl rfl ?_
                  refine r_goto (tgt := 163) E (dat dkL_passes_k3 37 rfl) rfl ?_
                  refine r_back ?_ ?_ (kr trivial)
                  rotate_left
                  · exact ⟨rfl, rfl, rfl, rfl, rfl, trivial⟩
                  · rw [Nat.succ_mul]
                ·
                  omega
          · intro hIr
            refine r_iload E (dat dkL_passes_k1 44 rfl) rfl ?_
            refine r_aload_n E (dat dkL_passes_k1 45 rfl) rfl rfl ?_
            refine q_getn E fl_L_95 (dat dkL_passes_k1 46 rfl) rfl rfl rfl (gh1_0 LE_v12) ?_
            refine q_icmp_gt (tgt := 335) E (dat dkL_passes_k1 47 rfl) rfl rfl rfl (by omega) (by omega) (fun h169 => ?_) (fun h169 => ?_)
            ·
              refine r_iconst (v := 1) E (dat dkL_passes_k3 38 rfl) rfl ?_
              refine r_istore_4 E (dat dkL_passes_k3 39 rfl) rfl rfl ?_
              refine r_for (x.1.1) (fun _ => True) (fun r => m1 (LE B x (q3 x U (r * x.1.2.1))) M0) (fun r => [some (rv 0 0), some (iv (nI n)), some (iv (T 0 11)), some (iv (nI i0)), some (iv (nI (r + 1))), none, none, none]) trivial (by rw [Nat.zero_mul, ← hx.2.2.1]; rfl) rfl ?_ ?_
              · intro r hr hIr kr
                refine r_iload E (dat dkL_passes_k3 40 rfl) rfl ?_
                refine r_aload_n E (dat dkL_passes_k3 41 rfl) rfl rfl ?_
                refine q_getn E fl_L_95 (dat dkL_passes_k3 42 rfl) rfl rfl rfl (gh1_0 LE_v12) ?_
                refine q_icmp_gt (tgt := 491) E (dat dkL_passes_k3 43 rfl) rfl rfl rfl (by omega) (by omega) (fun h344 => ?_) (fun h344 => ?_)
                ·
                  omega
                ·
                  refine r_iconst (v := 1) E (dat dkL_passes_k3 44 rfl) rfl ?_
                  refine r_istore_5 E (dat dkL_passes_k3 45 rfl) rfl rfl ?_
                  refine r_for (x.1.2.1) (fun _ => True) (fun c => m1 (LE B x (q3 x U (r * x.1.2.1 + c))) M0) (fun c => [some (rv 0 0), some (iv (nI n)), some (iv (T 0 11)), some (iv (nI i0)), some (iv (nI (r + 1))), some (iv (nI (c + 1))), none, none]) trivial rfl rfl ?_ ?_
                  · intro c hc hIc kc
                    have hin : inC x (r + 1) (c + 1) := ⟨⟨by omega, by omega⟩, by omega, by omega⟩
                    have hcl : clC x (r + 1) (c + 1) = r * x.1.2.1 + c := rfl
                    have hkn : r * x.1.2.1 + c < x.1.2.2 := clC_lt hx.2.2.1 hin
                    have hr7 : r + 1 < 7 := by have := hw.1.2; omega
                    have hc7 : c + 1 < 7 := by have := hw.2.1.2; omega
                    obtain ⟨e1, e2⟩ := q3_k hx hw ht hN hkn
                    have hw3 := WB_k (q2_w hx hw ht hN (Nat.le_refl _)) hkn
                    have hl3 := (q2_l hx hw ht hN hL9 hl2 (Nat.le_refl _)).1 _ hkn
                    rw [← e1] at hw3
                    rw [← e2] at hl3
                    have h7 := q3_7 (x := x) (T := U) (r * x.1.2.1 + c)
                    rw [hm7] at h7
                    clear e1 e2
                    rw [show q3 x U (r * x.1.2.1 + (c + 1)) = r3C x (q3 x U (r * x.1.2.1 + c)) (r * x.1.2.1 + c) from rfl] at kc
                    generalize q3 x U (r * x.1.2.1 + c) = V at hw3 hl3 h7 kc ⊢
                    obtain ⟨N, hdN, hN9, hNw, hNs, hNe⟩ := dr_N (x := x) hw3 hl3 (hg _ hkn)
                    refine r_iload E (dat dkL_passes_k3 46 rfl) rfl ?_
                    refine r_aload_n E (dat dkL_passes_k3 47 rfl) rfl rfl ?_
                    refine q_getn E fl_L_98 (dat dkL_passes_k3 48 rfl) rfl rfl rfl (gh1_0 LE_v13) ?_
                    refine q_icmp_gt (tgt := 485) E (dat dkL_passes_k3 49 rfl) rfl rfl rfl (by omega) (by omega) (fun h356 => ?_) (fun h356 => ?_)
                    ·
                      omega
                    ·
                      refine r_aload_n E (dat dkL_passes_k4 0 rfl) rfl rfl ?_
                      refine q_geta E fl_L_17 (dat dkL_passes_k4 1 rfl) rfl rfl rfl ?_
                      refine r_iload E (dat dkL_passes_k4 2 rfl) rfl ?_
                      refine q_laa (a := 2) E (dat dkL_passes_k4 3 rfl) rfl rfl rfl (by decide) rfl hr7 ?_
                      refine r_iload E (dat dkL_passes_k4 4 rfl) rfl ?_
                      refine q_ialv E (dat dkL_passes_k4 5 rfl) (lae (by decide) hr7) (lok (Nat.le_of_ble_eq_true rfl) rfl (by decide) hr7) (by decide) rfl hc7 (gh1_0 (LE_lk hr7 hin hcl)) ?_
                      refine r_istore_6 E (dat dkL_passes_k4 6 rfl) rfl rfl ?_
                      refine r_for (N) (fun _ => True) (fun d => m1 (LE B x (dV V (r * x.1.2.1 + c) d)) M0) (fun d => [some (rv 0 0), some (iv (nI n)), some (iv (T 0 11)), some (iv (nI i0)), some (iv (nI (r + 1))), some (iv (nI (c + 1))), some (iv (V 2 (r * x.1.2.1 + c) + nI d)), none]) trivial (by rw [dV_0]) (by rw [show nI 0 = 0 from rfl, Int32.add_zero]) ?_ ?_
                      · intro d hd hId kd
                        refine r_iload E (dat dkL_passes_k4 7 rfl) rfl ?_
                        refine r_aload_n E (dat dkL_passes_k4 8 rfl) rfl rfl ?_
                        refine q_geta E fl_L_20 (dat dkL_passes_k4 9 rfl) rfl rfl rfl ?_
                        refine r_iload E (dat dkL_passes_k4 10 rfl) rfl ?_
                        refine q_laa (a := 3) E (dat dkL_passes_k4 11 rfl) rfl rfl rfl (by decide) rfl hr7 ?_
                        refine r_iload E (dat dkL_passes_k4 12 rfl) rfl ?_
                        refine q_ialv E (dat dkL_passes_k4 13 rfl) (lae (by decide) hr7) (lok (Nat.le_of_ble_eq_true rfl) rfl (by decide) hr7) (by decide) rfl hc7 (gh1_0 (LE_gk hr7 hin hcl)) ?_
                        refine r_icmp_ge (tgt := 429) E (dat dkL_passes_k4 14 rfl) rfl (fun h383 => ?_) (fun h383 => ?_)
                        ·
                          exact absurd h383 (Int32.not_le.mpr (hNs d hd).1)
                        ·
                          refine r_aload_n E (dat dkL_passes_k4 15 rfl) rfl rfl ?_
                          refine q_geta E fl_L_14 (dat dkL_passes_k4 16 rfl) rfl rfl rfl ?_
                          refine r_iload E (dat dkL_passes_k4 17 rfl) rfl ?_
                          refine q_laa (a := 1) E (dat dkL_passes_k4 18 rfl) rfl rfl rfl (by decide) rfl hr7 ?_
                          refine r_iload E (dat dkL_passes_k4 19 rfl) rfl ?_
                          refine q_ialv E (dat dkL_passes_k4 20 rfl) (lae (by decide) hr7) (lok (Nat.le_of_ble_eq_true rfl) rfl (by decide) hr7) (by decide) rfl hc7 (gh1_0 (LE_wk hr7 hin hcl)) ?_
                          refine r_if_le (tgt := 429) E (dat dkL_passes_k4 21 rfl) rfl (fun h396 => ?_) (fun h396 => ?_)
                          ·
                            exact absurd (show V 1 (r * x.1.2.1 + c) - nI d ≤ 0 by rw [← dV_1 (U := V)]; exact h396) (Int32.not_le.mpr (hNs d hd).2)
                          ·
                            refine r_aload_n E (dat dkL_passes_k4 22 rfl) rfl rfl ?_
                            refine q_geta E fl_L_14 (dat dkL_passes_k4 23 rfl) rfl rfl rfl ?_
                            refine r_iload E (dat dkL_passes_k4 24 rfl) rfl ?_
                            refine q_laa (a := 1) E (dat dkL_passes_k4 25 rfl) rfl rfl rfl (by decide) rfl hr7 ?_
                            refine r_iload E (dat dkL_passes_k4 26 rfl) rfl ?_
                            refine r_dup2 E (dat dkL_passes_k4 27 rfl) rfl rfl ?_
                            refine q_ialv E (dat dkL_passes_k4 28 rfl) (lae (by decide) hr7) (lok (Nat.le_of_ble_eq_true rfl) rfl (by decide) hr7) (by decide) rfl hc7 (gh1_0 (LE_wk hr7 hin hcl)) ?_
                            refine r_iconst (v := 1) E (dat dkL_passes_k4 29 rfl) rfl ?_
                            refine r_isub E (dat dkL_passes_k4 30 rfl) ?_
                            refine q_iasv E (dat dkL_passes_k4 31 rfl) (lae (by decide) hr7) (lok (Nat.le_of_ble_eq_true rfl) rfl (by decide) hr7) (by decide) rfl hc7 (sa1_0 (LE_swk hr7 hin hcl)) ?_
                            refine r_aload_n E (dat dkL_passes_k4 32 rfl) rfl rfl ?_
                            refine r_dup E (dat dkL_passes_k4 33 rfl) rfl ?_
                            refine q_getn E fl_L_88 (dat dkL_passes_k4 34 rfl) rfl rfl rfl (gh1_0 LE_v19) ?_
                            refine r_iconst (v := 1) E (dat dkL_passes_k4 35 rfl) rfl ?_
                            refine r_iadd E (dat dkL_passes_k4 36 rfl) ?_
                            refine q_putn E ft_L_88 (dat dkL_passes_k4 37 rfl) rfl rfl rfl (sf1_0 LE_f19) ?_
                            refine r_iinc_6 E (dat dkL_passes_k4 38 rfl) rfl rfl ?_
                            refine r_goto (tgt := 371) E (dat dkL_passes_k4 39 rfl) rfl ?_
                            refine r_back ?_ ?_ (kd trivial)
                            rotate_left
                            · exact ⟨rfl, rfl, rfl, rfl, rfl, rfl, (by rw [← nI_1 d, ← Int32.add_assoc]; rfl), trivial⟩
                            · exact congrArg (fun Z => m1 (LE B x Z) M0) dV_s.symm
                      · intro hId
                        refine r_iload E (dat dkL_passes_k4 7 rfl) rfl ?_
                        refine r_aload_n E (dat dkL_passes_k4 8 rfl) rfl rfl ?_
                        refine q_geta E fl_L_20 (dat dkL_passes_k4 9 rfl) rfl rfl rfl ?_
                        refine r_iload E (dat dkL_passes_k4 10 rfl) rfl ?_
                        refine q_laa (a := 3) E (dat dkL_passes_k4 11 rfl) rfl rfl rfl (by decide) rfl hr7 ?_
                        refine r_iload E (dat dkL_passes_k4 12 rfl) rfl ?_
                        refine q_ialv E (dat dkL_passes_k4 13 rfl) (lae (by decide) hr7) (lok (Nat.le_of_ble_eq_true rfl) rfl (by decide) hr7) (by decide) rfl hc7 (gh1_0 (LE_gk hr7 hin hcl)) ?_
                        refine r_icmp_ge (tgt := 429) E (dat dkL_passes_k4 14 rfl) rfl (fun h383 => ?_) (fun h383 => ?_)
                        ·
                          have hdone := trivial
                          refine r_aload_n E (dat dkL_passes_k4 40 rfl) rfl rfl ?_
                          refine q_getn E fl_L_92 (dat dkL_passes_k4 41 rfl) rfl rfl rfl (gh1_0 LE_v16) ?_
                          refine r_bipush (v := 10) E (dat dkL_passes_k4 42 rfl) rfl ?_
                          refine r_irem E (dat dkL_passes_k4 43 rfl) (by decide) ?_
                          refine r_if_gt (tgt := 479) E (dat dkL_passes_k4 44 rfl) rfl (fun h436 => ?_) (fun h436 => ?_)
                          ·
                            have hfin := congrArg (LE B x) (r3_1 hdN h7 (by omega) h436)
                            refine q_iinc_5 E (dat dkL_passes_k5 19 rfl) rfl rfl ?_
                            refine r_goto (tgt := 350) E (dat dkL_passes_k5 20 rfl) rfl ?_
                            refine r_back ?_ ?_ (kc trivial)
                            rotate_left
                            · exact ⟨rfl, rfl, rfl, rfl, rfl, rfl, trivial⟩
                            · exact congrArg (fun Z => m1 Z M0) hfin
                          ·
                            refine r_aload_n E (dat dkL_passes_k4 45 rfl) rfl rfl ?_
                            refine q_geta E fl_L_14 (dat dkL_passes_k4 46 rfl) rfl rfl rfl ?_
                            refine r_iload E (dat dkL_passes_k4 47 rfl) rfl ?_
                            refine q_laa (a := 1) E (dat dkL_passes_k4 48 rfl) rfl rfl rfl (by decide) rfl hr7 ?_
                            refine r_iload E (dat dkL_passes_k4 49 rfl) rfl ?_
                            refine q_ialv E (dat dkL_passes_k5 0 rfl) (lae (by decide) hr7) (lok (Nat.le_of_ble_eq_true rfl) rfl (by decide) hr7) (by decide) rfl hc7 (gh1_0 (LE_wk hr7 hin hcl)) ?_
                            refine r_if_ne (tgt := 455) E (dat dkL_passes_k5 1 rfl) rfl (fun h449 => ?_) (fun h449 => ?_)
                            ·
                              have hfin := congrArg (LE B x) (r3_3 hdN h7 (by omega) h436 h449)
                              refine r_aload_n E (dat dkL_passes_k5 3 rfl) rfl rfl ?_
                              refine q_geta E fl_L_14 (dat dkL_passes_k5 4 rfl) rfl rfl rfl ?_
                              refine r_iload E (dat dkL_passes_k5 5 rfl) rfl ?_
                              refine q_laa (a := 1) E (dat dkL_passes_k5 6 rfl) rfl rfl rfl (by decide) rfl hr7 ?_
                              refine r_iload E (dat dkL_passes_k5 7 rfl) rfl ?_
                              refine r_dup2 E (dat dkL_passes_k5 8 rfl) rfl rfl ?_
                              refine q_ialv E (dat dkL_passes_k5 9 rfl) (lae (by decide) hr7) (lok (Nat.le_of_ble_eq_true rfl) rfl (by decide) hr7) (by decide) rfl hc7 (gh1_0 (LE_wk hr7 hin hcl)) ?_
                              refine r_iconst (v := 1) E (dat dkL_passes_k5 10 rfl) rfl ?_
                              refine r_isub E (dat dkL_passes_k5 11 rfl) ?_
                              refine q_iasv E (dat dkL_passes_k5 12 rfl) (lae (by decide) hr7) (lok (Nat.le_of_ble_eq_true rfl) rfl (by decide) hr7) (by decide) rfl hc7 (sa1_0 (LE_swk hr7 hin hcl)) ?_
                              refine r_aload_n E (dat dkL_passes_k5 13 rfl) rfl rfl ?_
                              refine r_dup E (dat dkL_passes_k5 14 rfl) rfl ?_
                              refine q_getn E fl_L_113 (dat dkL_passes_k5 15 rfl) rfl rfl rfl (gh1_0 LE_v20) ?_
                              refine r_iconst (v := 1) E (dat dkL_passes_k5 16 rfl) rfl ?_
                              refine r_iadd E (dat dkL_passes_k5 17 rfl) ?_
                              refine q_putn E ft_L_113 (dat dkL_passes_k5 18 rfl) rfl rfl rfl (sf1_0 LE_f20) ?_
                              refine q_iinc_5 E (dat dkL_passes_k5 19 rfl) rfl rfl ?_
                              refine r_goto (tgt := 350) E (dat dkL_passes_k5 20 rfl) rfl ?_
                              refine r_back ?_ ?_ (kc trivial)
                              rotate_left
                              · exact ⟨rfl, rfl, rfl, rfl, rfl, rfl, trivial⟩
                              · exact congrArg (fun Z => m1 Z M0) hfin
                            ·
                              have hfin := congrArg (LE B x) (r3_2 hdN h7 (by omega) h436 h449)
                              refine r_goto (tgt := 479) E (dat dkL_passes_k5 2 rfl) rfl ?_
                              refine q_iinc_5 E (dat dkL_passes_k5 19 rfl) rfl rfl ?_
                              refine r_goto (tgt := 350) E (dat dkL_passes_k5 20 rfl) rfl ?_
                              refine r_back ?_ ?_ (kc trivial)
                              rotate_left
                              · exact ⟨rfl, rfl, rfl, rfl, rfl, rfl, trivial⟩
                              · exact congrArg (fun Z => m1 Z M0) hfin
                        ·
                          refine r_aload_n E (dat dkL_passes_k4 15 rfl) rfl rfl ?_
                          refine q_geta E fl_L_14 (dat dkL_passes_k4 16 rfl) rfl rfl rfl ?_
                          refine r_iload E (dat dkL_passes_k4 17 rfl) rfl ?_
                          refine q_laa (a := 1) E (dat dkL_passes_k4 18 rfl) rfl rfl rfl (by decide) rfl hr7 ?_
                          refine r_iload E (dat dkL_passes_k4 19 rfl) rfl ?_
                          refine q_ialv E (dat dkL_passes_k4 20 rfl) (lae (by decide) hr7) (lok (Nat.le_of_ble_eq_true rfl) rfl (by decide) hr7) (by decide) rfl hc7 (gh1_0 (LE_wk hr7 hin hcl)) ?_
                          refine r_if_le (tgt := 429) E (dat dkL_passes_k4 21 rfl) rfl (fun h396 => ?_) (fun h396 => ?_)
                          ·
                            refine r_aload_n E (dat dkL_passes_k4 40 rfl) rfl rfl ?_
                            refine q_getn E fl_L_92 (dat dkL_passes_k4 41 rfl) rfl rfl rfl (gh1_0 LE_v16) ?_
                            refine r_bipush (v := 10) E (dat dkL_passes_k4 42 rfl) rfl ?_
                            refine r_irem E (dat dkL_passes_k4 43 rfl) (by decide) ?_
                            refine r_if_gt (tgt := 479) E (dat dkL_passes_k4 44 rfl) rfl (fun h436 => ?_) (fun h436 => ?_)
                            ·
                              have hfin := congrArg (LE B x) (r3_1 hdN h7 (by omega) h436)
                              refine q_iinc_5 E (dat dkL_passes_k5 19 rfl) rfl rfl ?_
                              refine r_goto (tgt := 350) E (dat dkL_passes_k5 20 rfl) rfl ?_
                              refine r_back ?_ ?_ (kc trivial)
                              rotate_left
                              · exact ⟨rfl, rfl, rfl, rfl, rfl, rfl, trivial⟩
                              · exact congrArg (fun Z => m1 Z M0) hfin
                            ·
                              refine r_aload_n E (dat dkL_passes_k4 45 rfl) rfl rfl ?_
                              refine q_geta E fl_L_14 (dat dkL_passes_k4 46 rfl) rfl rfl rfl ?_
                              refine r_iload E (dat dkL_passes_k4 47 rfl) rfl ?_
                              refine q_laa (a := 1) E (dat dkL_passes_k4 48 rfl) rfl rfl rfl (by decide) rfl hr7 ?_
                              refine r_iload E (dat dkL_passes_k4 49 rfl) rfl ?_
                              refine q_ialv E (dat dkL_passes_k5 0 rfl) (lae (by decide) hr7) (lok (Nat.le_of_ble_eq_true rfl) rfl (by decide) hr7) (by decide) rfl hc7 (gh1_0 (LE_wk hr7 hin hcl)) ?_
                              refine r_if_ne (tgt := 455) E (dat dkL_passes_k5 1 rfl) rfl (fun h449 => ?_) (fun h449 => ?_)
                              ·
                                have hfin := congrArg (LE B x) (r3_3 hdN h7 (by omega) h436 h449)
                                refine r_aload_n E (dat dkL_passes_k5 3 rfl) rfl rfl ?_
                                refine q_geta E fl_L_14 (dat dkL_passes_k5 4 rfl) rfl rfl rfl ?_
                                refine r_iload E (dat dkL_passes_k5 5 rfl) rfl ?_
                                refine q_laa (a := 1) E (dat dkL_passes_k5 6 rfl) rfl rfl rfl (by decide) rfl hr7 ?_
                                refine r_iload E (dat dkL_passes_k5 7 rfl) rfl ?_
                                refine r_dup2 E (dat dkL_passes_k5 8 rfl) rfl rfl ?_
                                refine q_ialv E (dat dkL_passes_k5 9 rfl) (lae (by decide) hr7) (lok (Nat.le_of_ble_eq_true rfl) rfl (by decide) hr7) (by decide) rfl hc7 (gh1_0 (LE_wk hr7 hin hcl)) ?_
                                refine r_iconst (v := 1) E (dat dkL_passes_k5 10 rfl) rfl ?_
                                refine r_isub E (dat dkL_passes_k5 11 rfl) ?_
                                refine q_iasv E (dat dkL_passes_k5 12 rfl) (lae (by decide) hr7) (lok (Nat.le_of_ble_eq_true rfl) rfl (by decide) hr7) (by decide) rfl hc7 (sa1_0 (LE_swk hr7 hin hcl)) ?_
                                refine r_aload_n E (dat dkL_passes_k5 13 rfl) rfl rfl ?_
                                refine r_dup E (dat dkL_passes_k5 14 rfl) rfl ?_
                                refine q_getn E fl_L_113 (dat dkL_passes_k5 15 rfl) rfl rfl rfl (gh1_0 LE_v20) ?_
                                refine r_iconst (v := 1) E (dat dkL_passes_k5 16 rfl) rfl ?_
                                refine r_iadd E (dat dkL_passes_k5 17 rfl) ?_
                                refine q_putn E ft_L_113 (dat dkL_passes_k5 18 rfl) rfl rfl rfl (sf1_0 LE_f20) ?_
                                refine q_iinc_5 E (dat dkL_passes_k5 19 rfl) rfl rfl ?_
                                refine r_goto (tgt := 350) E (dat dkL_passes_k5 20 rfl) rfl ?_
                                refine r_back ?_ ?_ (kc trivial)
                                rotate_left
                                · exact ⟨rfl, rfl, rfl, rfl, rfl, rfl, trivial⟩
                                · exact congrArg (fun Z => m1 Z M0) hfin
                              ·
                                have hfin := congrArg (LE B x) (r3_2 hdN h7 (by omega) h436 h449)
                                refine r_goto (tgt := 479) E (dat dkL_passes_k5 2 rfl) rfl ?_
                                refine q_iinc_5 E (dat dkL_passes_k5 19 rfl) rfl rfl ?_
                                refine r_goto (tgt := 350) E (dat dkL_passes_k5 20 rfl) rfl ?_
                                refine r_back ?_ ?_ (kc trivial)
                                rotate_left
                                · exact ⟨rfl, rfl, rfl, rfl, rfl, rfl, trivial⟩
                                · exact congrArg (fun Z => m1 Z M0) hfin
                          ·
                            exact absurd hNe (fun q => q.elim h383 (fun q2 => h396 (show dV V (r * x.1.2.1 + c) N 1 (r * x.1.2.1 + c) ≤ 0 by rw [dV_1]; exact q2)))
                  · intro hIc
                    refine r_iload E (dat dkL_passes_k3 46 rfl) rfl ?_
                    refine r_aload_n E (dat dkL_passes_k3 47 rfl) rfl rfl ?_
                    refine q_getn E fl_L_98 (dat dkL_passes_k3 48 rfl) rfl rfl rfl (gh1_0 LE_v13) ?_
                    refine q_icmp_gt (tgt := 485) E (dat dkL_passes_k3 49 rfl) rfl rfl rfl (by omega) (by omega) (fun h356 => ?_) (fun h356 => ?_)
                    ·
                      refine q_iinc_4 E (dat dkL_passes_k5 21 rfl) rfl rfl ?_
                      refine r_goto (tgt := 338) E (dat dkL_passes_k5 22 rfl) rfl ?_
                      refine r_back ?_ ?_ (kr trivial)
                      rotate_left
                      · exact ⟨rfl, rfl, rfl, rfl, rfl, trivial⟩
                      · rw [Nat.succ_mul]
                    ·
                      omega
              · intro hIr
                refine r_iload E (dat dkL_passes_k3 40 rfl) rfl ?_
                refine r_aload_n E (dat dkL_passes_k3 41 rfl) rfl rfl ?_
                refine q_getn E fl_L_95 (dat dkL_passes_k3 42 rfl) rfl rfl rfl (gh1_0 LE_v12) ?_
                refine q_icmp_gt (tgt := 491) E (dat dkL_passes_k3 43 rfl) rfl rfl rfl (by omega) (by omega) (fun h344 => ?_) (fun h344 => ?_)
                ·
                  refine r_iconst (v := 0) E (dat dkL_passes_k5 23 rfl) rfl ?_
                  refine r_istore_4 E (dat dkL_passes_k5 24 rfl) rfl rfl ?_
                  refine r_for (x.2.2.2.2.1) (fun _ => True) (fun b => m1 (LE B x (q4 x U b)) M0) (fun b => [some (rv 0 0), some (iv (nI n)), some (iv (T 0 11)), some (iv (nI i0)), some (iv (nI b)), none, none, none]) trivial (by show m1 (LE B x (q3 x U x.1.2.2)) M0 = _; rw [hx.2.2.1]) rfl ?_ ?_
                  · intro b hb hIb kb
                    refine r_iload E (dat dkL_passes_k5 25 rfl) rfl ?_
                    refine r_aload_n E (dat dkL_passes_k5 26 rfl) rfl rfl ?_
                    refine q_getn E fl_L_116 (dat dkL_passes_k5 27 rfl) rfl rfl rfl (gh1_0 LE_v14) ?_
                    refine q_icmp_ge (tgt := 515) E (dat dkL_passes_k5 28 rfl) rfl rfl rfl (by omega) (by omega) (fun h500 => ?_) (fun h500 => ?_)
                    ·
                      omega
                    ·
                      refine r_aload_n E (dat dkL_passes_k5 29 rfl) rfl rfl ?_
                      refine r_iload E (dat dkL_passes_k5 30 rfl) rfl ?_
                      refine r_callV (κ := 9) (μ := [0]) E (sp_L_soak l G B x (q4 x U b) b _ rfl hx hw (fun z hz => by rw [q4_5]; exact hpl z hz) (q4_wt hwt b) hb) my_L_soak iv_L_soak ml_L_119 (cm_of rfl) ⟨by decide, rfl, rfl⟩ rfl rfl rfl rfl (by decide) (Nat.le_of_ble_eq_true rfl) (dat dkL_passes_k5 31 rfl) ?_
                      rintro _ _ ⟨rfl, rfl⟩
                      refine ⟨_, Mrg_e (by decide) (by decide) pm1_0 rfl, ?_⟩
                      refine q_iinc_4 E (dat dkL_passes_k5 32 rfl) rfl rfl ?_
                      refine r_goto (tgt := 494) E (dat dkL_passes_k5 33 rfl) rfl ?_
                      refine r_back ?_ ?_ (kb trivial)
                      rotate_left
                      · exact ⟨rfl, rfl, rfl, rfl, rfl, trivial⟩
                      · rfl
                  · intro hIb
                    refine r_iload E (dat dkL_passes_k5 25 rfl) rfl ?_
                    refine r_aload_n E (dat dkL_passes_k5 26 rfl) rfl rfl ?_
                    refine q_getn E fl_L_116 (dat dkL_passes_k5 27 rfl) rfl rfl rfl (gh1_0 LE_v14) ?_
                    refine q_icmp_ge (tgt := 515) E (dat dkL_passes_k5 28 rfl) rfl rfl rfl (by omega) (by omega) (fun h500 => ?_) (fun h500 => ?_)
                    ·
                      refine q_iinc_3 E (dat dkL_passes_k5 34 rfl) rfl rfl ?_
                      refine r_goto (tgt := 7) E (dat dkL_passes_k5 35 rfl) rfl ?_
                      refine r_back ?_ ?_ (ki0 trivial)
                      rotate_left
                      · exact ⟨rfl, rfl, rfl, rfl, trivial⟩
                      · rfl
                    ·
                      omega
                ·
                  omega
            ·
              omega
        ·
          omega
  · intro hIi0
    refine r_iload_n E (dat dkL_passes_k0 5 rfl) rfl rfl ?_
    refine r_iload_n E (dat dkL_passes_k0 6 rfl) rfl rfl ?_
    refine q_icmp_ge (tgt := 521) E (dat dkL_passes_k0 7 rfl) rfl rfl rfl (by omega) (by omega) (fun h9 => ?_) (fun h9 => ?_)
    ·
      refine r_aload_n E (dat dkL_passes_k5 36 rfl) rfl rfl ?_
      refine q_getn E fl_L_88 (dat dkL_passes_k5 37 rfl) rfl rfl rfl (gh1_0 LE_v19) ?_
      refine r_iload_n E (dat dkL_passes_k5 38 rfl) rfl rfl ?_
      refine r_isub E (dat dkL_passes_k5 39 rfl) ?_
      refine r_ireturn E (dat dkL_passes_k5 40 rfl) (by decide) (by decide) ?_
      exact ⟨rfl, by rw [pm1_0]⟩
    ·
      omega
