set_option maxRecDepth 100000 in
theorem sp_fill (l : Launch) (G : GT) (κ t N : Nat) (v : Int32) (M : Mem) (hae : ae κ t = some (0, N)) (hok : t ∈ KT κ) (hN : N ≤ 4096) : MC l G yJ7_fill_53178 cJ7_fill_53178 4 none ({ frames := 0, cells := 0, slots := 0, locals := 0 } : Room) [κ] lk0 [rv 0 t, iv v] (M) (fun r M2 => r = none ∧ M2 = setm M 0 (sett (M 0) t (fun _ => v))) := by
  refine MC.of RJ7 [some (rv 0 t), some (iv v), none, none] 2 (by decide +kernel) rfl rfl rfl ?_
  intro pp ee ss mm aa bb me cd ad E
  have hj : okb ([κ], lk0, ad) 0 t = true := by
    show (decide (0 < 1) && (KT κ).contains t) = true
    rw [Bool.and_eq_true]
    exact ⟨rfl, List.contains_iff_mem.mpr hok⟩
  have hlen : Int32.ofNat N = nI N := rfl
  refine r_iconst (v := 0) E (dat dkJ7_fill_53178 0 rfl) rfl ?_
  refine r_istore_2 E (dat dkJ7_fill_53178 1 rfl) rfl rfl ?_
  refine r_aload_n E (dat dkJ7_fill_53178 2 rfl) rfl rfl ?_
  refine r_alen E (dat dkJ7_fill_53178 3 rfl) hae (by decide) hj hlen ?_
  refine r_istore_3 E (dat dkJ7_fill_53178 4 rfl) rfl rfl ?_
  refine r_for N (fun _ => True) (fun i => setm M 0 (sett (M 0) t (fil (fun _ => v) (M 0 t) i))) (fun i => [some (rv 0 t), some (iv v), some (iv (nI i)), some (iv (nI N))]) trivial (by rw [fil_0]; funext a; unfold setm sett; split <;> rename_i h; (subst h; funext b; split <;> rename_i h2; (subst h2; rfl); rfl); rfl) rfl ?_ ?_
  · intro i hi _ kk
    refine r_iload_n E (dat dkJ7_fill_53178 5 rfl) rfl rfl ?_
    refine r_iload_n E (dat dkJ7_fill_53178 6 rfl) rfl rfl ?_
    refine q_icmp_ge (tgt := 20) E (dat dkJ7_fill_53178 7 rfl) rfl rfl rfl (by omega) (by omega) (fun h => by omega) (fun h => ?_)
    refine r_aload_n E (dat dkJ7_fill_53178 8 rfl) rfl rfl ?_
    refine r_iload_n E (dat dkJ7_fill_53178 9 rfl) rfl rfl ?_
    refine r_iload_n E (dat dkJ7_fill_53178 10 rfl) rfl rfl ?_
    refine q_iast (M2 := fun f => setm M 0 (sett (M 0) t f)) E (dat dkJ7_fill_53178 11 rfl) hae hj hN (by rw [setm_s, sett_s]) (fun f => by rw [setm_s, setm_setm, sett_sett]) rfl hi ?_
    refine q_iinc_2 E (dat dkJ7_fill_53178 12 rfl) rfl rfl ?_
    refine r_goto (tgt := 5) E (dat dkJ7_fill_53178 13 rfl) rfl ?_
    rw [fil_upd rfl]
    exact kk trivial
  · intro _
    refine r_iload_n E (dat dkJ7_fill_53178 5 rfl) rfl rfl ?_
    refine r_iload_n E (dat dkJ7_fill_53178 6 rfl) rfl rfl ?_
    refine q_icmp_ge (tgt := 20) E (dat dkJ7_fill_53178 7 rfl) rfl rfl rfl (by omega) (by omega) (fun h => ?_) (fun h => by omega)
    refine r_range (j := 0) (t := t) (f := fun _ => v) hae (fun i hi => by rw [setm_s, sett_s]; exact (if_pos hi).symm) rfl ?_
    refine r_vreturn E (dat dkJ7_fill_53178 14 rfl) (by decide) (by decide) ?_
    exact ⟨rfl, by rw [setm_s, setm_setm, sett_sett]⟩

set_option maxRecDepth 100000 in
set_option maxHeartbeats 4000000 in
theorem sp_X5_startOver (l : Launch) (G : GT) (B0 : Nat → Nat → Int32) (mi ra rd fh dr ev dp sw : Int32) (w lv hr ht pl sp wt : Nat → Int32) (B1 : Nat → Nat → Int32) (ro co : Int32) (n : Nat) (bc fr : Int32) (he gu be nm nl bh fp n0 n1 n2 n3 : Nat → Int32) (M : Mem) (hA0 : M 0 = (vS B0 mi ra rd fh dr ev dp sw w lv hr ht pl sp wt)) (hA1 : M 1 = (vP B1 ro co (nI n) bc fr he gu be nm nl bh fp n0 n1 n2 n3))  : MC l G yX5_startOver cX5_startOver 3 none ({ frames := 1, cells := 0, slots := 0, locals := 23 } : Room) [1, 2] lk0 [rv 0 0, rv 1 0] (M) (fun r M2 => r = none ∧ M2 = setm M 0 (vS B0 (0) (fr) (0) (0) (0) (0) (0) (0) (fun _ => 0) (fun _ => 0) (fun _ => 0) (fun _ => 0) (fp) (fun _ => 0) (fun _ => 0))) := by
  obtain ⟨M0, rfl⟩ : ∃ M0, M = m2 ((vS B0 mi ra rd fh dr ev dp sw w lv hr ht pl sp wt)) ((vP B1 ro co (nI n) bc fr he gu be nm nl bh fp n0 n1 n2 n3)) M0 := ⟨M, (m2_of hA0 hA1).symm⟩
  clear hA0 hA1
  refine MC.of RX5 [some (rv 0 0), some (rv 1 0), none] 1 (by decide +kernel) rfl rfl rfl ?_
  intro pp ee ss mm aa bb me cd ad E
  refine r_aload_n E (dat dkX5_startOver 0 rfl) rfl rfl ?_
  refine q_geta E fl_X5_9 (dat dkX5_startOver 1 rfl) rfl rfl rfl ?_
  refine r_iconst (v := 0) E (dat dkX5_startOver 2 rfl) rfl ?_
  refine r_callS (μ := [0]) E (sp_fill l G 1 1 64 (0) _ rfl (by decide) (by decide)) my_J7_fill_53178 is_J7_fill_53178 ml_X5_59 (cm_of rfl) rfl rfl (by decide) (by decide) (dat dkX5_startOver 3 rfl) ?_
  rintro _ _ ⟨rfl, rfl⟩
  refine ⟨_, Mrg_e (by decide) (by decide) (sa2_0 paS_1) rfl, ?_⟩
  refine r_aload_n E (dat dkX5_startOver 4 rfl) rfl rfl ?_
  refine q_geta E fl_X5_15 (dat dkX5_startOver 5 rfl) rfl rfl rfl ?_
  refine r_iconst (v := 0) E (dat dkX5_startOver 6 rfl) rfl ?_
  refine r_callS (μ := [0]) E (sp_fill l G 1 2 64 (0) _ rfl (by decide) (by decide)) my_J7_fill_53178 is_J7_fill_53178 ml_X5_59 (cm_of rfl) rfl rfl (by decide) (by decide) (dat dkX5_startOver 7 rfl) ?_
  rintro _ _ ⟨rfl, rfl⟩
  refine ⟨_, Mrg_e (by decide) (by decide) (sa2_0 paS_2) rfl, ?_⟩
  refine r_aload_n E (dat dkX5_startOver 8 rfl) rfl rfl ?_
  refine q_geta E fl_X5_18 (dat dkX5_startOver 9 rfl) rfl rfl rfl ?_
  refine r_iconst (v := 0) E (dat dkX5_startOver 10 rfl) rfl ?_
  refine r_callS (μ := [0]) E (sp_fill l G 1 3 64 (0) _ rfl (by decide) (by decide)) my_J7_fill_53178 is_J7_fill_53178 ml_X5_59 (cm_of rfl) rfl rfl (by decide) (by decide) (dat dkX5_startOver 11 rfl) ?_
  rintro _ _ ⟨rfl, rfl⟩
  refine ⟨_, Mrg_e (by decide) (by decide) (sa2_0 paS_3) rfl, ?_⟩
  refine r_aload_n E (dat dkX5_startOver 12 rfl) rfl rfl ?_
  refine q_geta E fl_X5_21 (dat dkX5_startOver 13 rfl) rfl rfl rfl ?_
  refine r_iconst (v := 0) E (dat dkX5_startOver 14 rfl) rfl ?_
  refine r_callS (μ := [0]) E (sp_fill l G 1 4 64 (0) _ rfl (by decide) (by decide)) my_J7_fill_53178 is_J7_fill_53178 ml_X5_59 (cm_of rfl) rfl rfl (by decide) (by decide) (dat dkX5_startOver 15 rfl) ?_
  rintro _ _ ⟨rfl, rfl⟩
  refine ⟨_, Mrg_e (by decide) (by decide) (sa2_0 paS_4) rfl, ?_⟩
  refine r_iconst (v := 0) E (dat dkX5_startOver 16 rfl) rfl ?_
  refine r_istore_2 E (dat dkX5_startOver 17 rfl) rfl rfl ?_
  refine r_for (4) (fun _ => True) (fun i => m2 (vS B0 mi ra rd fh dr ev dp sw (fun _ => 0) (fun _ => 0) (fun _ => 0) (fun _ => 0) (fil fp pl i) (fil (fun _ => 0) sp i) (fil (fun _ => 0) wt i)) (vP B1 ro co (nI n) bc fr he gu be nm nl bh fp n0 n1 n2 n3) M0) (fun i => [some (rv 0 0), some (rv 1 0), some (iv (nI i))]) trivial (by rw [fil_0, fil_0, fil_0]) rfl ?_ ?_
  · intro i hi hI kk
    refine r_iload_n E (dat dkX5_startOver 18 rfl) rfl rfl ?_
    refine r_iconst (v := 4) E (dat dkX5_startOver 19 rfl) rfl ?_
    refine q_icmp_ge (tgt := 71) E (dat dkX5_startOver 20 rfl) rfl rfl (b := 4) rfl (by omega) (by omega) (fun h36 => ?_) (fun h36 => ?_)
    ·
      omega
    ·
      refine r_aload_n E (dat dkX5_startOver 21 rfl) rfl rfl ?_
      refine q_geta E fl_X5_24 (dat dkX5_startOver 22 rfl) rfl rfl rfl ?_
      refine r_iload_n E (dat dkX5_startOver 23 rfl) rfl rfl ?_
      refine r_aload_n E (dat dkX5_startOver 24 rfl) rfl rfl ?_
      refine q_geta E fl_X5_65 (dat dkX5_startOver 25 rfl) rfl rfl rfl ?_
      refine r_iload_n E (dat dkX5_startOver 26 rfl) rfl rfl ?_
      refine q_iald E (dat dkX5_startOver 27 rfl) rfl rfl (by decide) (gg2_1 gaP_7) rfl (by omega) ?_
      refine q_iast E (dat dkX5_startOver 28 rfl) rfl rfl (by decide) (gg2_0 gaS_5) (fun _ => sa2_0 paS_5) rfl (by omega) ?_
      refine r_aload_n E (dat dkX5_startOver 29 rfl) rfl rfl ?_
      refine q_geta E fl_X5_27 (dat dkX5_startOver 30 rfl) rfl rfl rfl ?_
      refine r_iload_n E (dat dkX5_startOver 31 rfl) rfl rfl ?_
      refine r_iconst (v := 0) E (dat dkX5_startOver 32 rfl) rfl ?_
      refine q_iast E (dat dkX5_startOver 33 rfl) rfl rfl (by decide) (gg2_0 gaS_6) (fun _ => sa2_0 paS_6) rfl (by omega) ?_
      refine r_aload_n E (dat dkX5_startOver 34 rfl) rfl rfl ?_
      refine q_geta E fl_X5_30 (dat dkX5_startOver 35 rfl) rfl rfl rfl ?_
      refine r_iload_n E (dat dkX5_startOver 36 rfl) rfl rfl ?_
      refine r_iconst (v := 0) E (dat dkX5_startOver 37 rfl) rfl ?_
      refine q_zast E (dat dkX5_startOver 38 rfl) rfl rfl (by decide) (gg2_0 gaS_7) (fun _ => sa2_0 paS_7) rfl (by omega) (z := 0) rfl ?_
      refine q_iinc_2 E (dat dkX5_startOver 39 rfl) rfl rfl ?_
      refine r_goto (tgt := 34) E (dat dkX5_startOver 40 rfl) rfl ?_
      refine r_back ?_ ?_ (kk trivial)
      rotate_left
      · exact And.intro rfl (And.intro rfl (And.intro rfl trivial))
      rw [fil_upd rfl, fil_upd rfl, fil_upd rfl]
  · intro hI
    refine r_iload_n E (dat dkX5_startOver 18 rfl) rfl rfl ?_
    refine r_iconst (v := 4) E (dat dkX5_startOver 19 rfl) rfl ?_
    refine q_icmp_ge (tgt := 71) E (dat dkX5_startOver 20 rfl) rfl rfl (b := 4) rfl (by omega) (by omega) (fun h36 => ?_) (fun h36 => ?_)
    ·
      refine r_range (f := fp) rfl (fun i hi => (if_pos hi).symm) (sa2_0 paS_5) ?_
      refine r_range (f := fun _ => 0) rfl (fun i hi => (if_pos hi).symm) (sa2_0 paS_6) ?_
      refine r_range (f := fun _ => 0) rfl (fun i hi => (if_pos hi).symm) (sa2_0 paS_7) ?_
      refine r_aload_n E (dat dkX5_startOver 41 rfl) rfl rfl ?_
      refine r_iconst (v := 0) E (dat dkX5_startOver 42 rfl) rfl ?_
      refine q_putn E ft_X5_34 (dat dkX5_startOver 43 rfl) rfl rfl rfl (sf2_0 pfS_7) ?_
      refine r_aload_n E (dat dkX5_startOver 44 rfl) rfl rfl ?_
      refine r_aload_n E (dat dkX5_startOver 45 rfl) rfl rfl ?_
      refine q_getn E fl_X5_70 (dat dkX5_startOver 46 rfl) rfl rfl rfl (go2_1 gfP_11) ?_
      refine q_putn E ft_X5_38 (dat dkX5_startOver 47 rfl) rfl rfl rfl (sf2_0 pfS_8) ?_
      refine r_aload_n E (dat dkX5_startOver 48 rfl) rfl rfl ?_
      refine r_iconst (v := 0) E (dat dkX5_startOver 49 rfl) rfl ?_
      refine q_putn E ft_X5_41 (dat dkX5_startOver 50 rfl) rfl rfl rfl (sf2_0 pfS_9) ?_
      refine r_aload_n E (dat dkX5_startOver 51 rfl) rfl rfl ?_
      refine r_iconst (v := 0) E (dat dkX5_startOver 52 rfl) rfl ?_
      refine q_putn E ft_X5_44 (dat dkX5_startOver 53 rfl) rfl rfl rfl (sf2_0 pfS_10) ?_
      refine r_aload_n E (dat dkX5_startOver 54 rfl) rfl rfl ?_
      refine r_iconst (v := 0) E (dat dkX5_startOver 55 rfl) rfl ?_
      refine q_putn E ft_X5_47 (dat dkX5_startOver 56 rfl) rfl rfl rfl (sf2_0 pfS_11) ?_
      refine r_aload_n E (dat dkX5_startOver 57 rfl) rfl rfl ?_
      refine r_iconst (v := 0) E (dat dkX5_startOver 58 rfl) rfl ?_
      refine q_putn E ft_X5_50 (dat dkX5_startOver 59 rfl) rfl rfl rfl (sf2_0 pfS_12) ?_
      refine r_aload_n E (dat dkX5_startOver 60 rfl) rfl rfl ?_
      refine r_iconst (v := 0) E (dat dkX5_startOver 61 rfl) rfl ?_
      refine q_putn E ft_X5_53 (dat dkX5_startOver 62 rfl) rfl rfl rfl (sf2_0 pfS_13) ?_
      refine r_aload_n E (dat dkX5_startOver 63 rfl) rfl rfl ?_
      refine r_iconst (v := 0) E (dat dkX5_startOver 64 rfl) rfl ?_
      refine q_putn E ft_X5_56 (dat dkX5_startOver 65 rfl) rfl rfl rfl (sf2_0 pfS_14) ?_
      refine r_vreturn E (dat dkX5_startOver 66 rfl) (by decide) (by decide) ?_
      exact ⟨rfl, by rw [pm2_0]⟩
    ·
      omega

theorem zn_fit {x : Int32} (h : fits .boolean (.int x) = true) : vp_nar .boolean x = x := by
  have h2 : (x == 0 || x == 1) = true := h
  rw [Bool.or_eq_true] at h2
  rcases h2 with h | h <;> (rw [eq_of_beq h]; rfl)

set_option maxRecDepth 100000 in
set_option maxHeartbeats 4000000 in
theorem sp_X5_copyFrom (l : Launch) (G : GT) (B0 : Nat → Nat → Int32) (mi ra rd fh dr ev dp sw : Int32) (w lv hr ht pl sp wt : Nat → Int32) (B1 : Nat → Nat → Int32) (mi2 ra2 rd2 fh2 dr2 ev2 dp2 sw2 : Int32) (w2 lv2 hr2 ht2 pl2 sp2 wt2 : Nat → Int32) (M : Mem) (hA0 : M 0 = (vS B0 mi ra rd fh dr ev dp sw w lv hr ht pl sp wt)) (hA1 : M 1 = (vS B1 mi2 ra2 rd2 fh2 dr2 ev2 dp2 sw2 w2 lv2 hr2 ht2 pl2 sp2 wt2)) (hwt : ∀ i, i < 4 → fits .boolean (.int (wt2 i)) = true) : MC l G yX5_copyFrom cX5_copyFrom 3 none ({ frames := 1, cells := 0, slots := 0, locals := 40 } : Room) [1, 1] lk0 [rv 0 0, rv 1 0] (M) (fun r M2 => r = none ∧ M2 = setm M 0 (M 1)) := by
  obtain ⟨M0, rfl⟩ : ∃ M0, M = m2 ((vS B0 mi ra rd fh dr ev dp sw w lv hr ht pl sp wt)) ((vS B1 mi2 ra2 rd2 fh2 dr2 ev2 dp2 sw2 w2 lv2 hr2 ht2 pl2 sp2 wt2)) M0 := ⟨M, (m2_of hA0 hA1).symm⟩
  clear hA0 hA1
  refine MC.of RX5 [some (rv 0 0), some (rv 1 0), none] 1 (by decide +kernel) rfl rfl rfl ?_
  intro pp ee ss mm aa bb me cd ad E
  refine r_aload_n E (dat dkX5_copyFrom 0 rfl) rfl rfl ?_
  refine q_geta E fl_X5_9 (dat dkX5_copyFrom 1 rfl) rfl rfl rfl ?_
  refine r_iconst (v := 0) E (dat dkX5_copyFrom 2 rfl) rfl ?_
  refine r_aload_n E (dat dkX5_copyFrom 3 rfl) rfl rfl ?_
  refine q_geta E fl_X5_9 (dat dkX5_copyFrom 4 rfl) rfl rfl rfl ?_
  refine r_iconst (v := 0) E (dat dkX5_copyFrom 5 rfl) rfl ?_
  refine r_bipush (v := 64) E (dat dkX5_copyFrom 6 rfl) rfl ?_
  refine q_acopy (a := 0) (b := 0) (z := 64) (f2 := w2) E ml_X5_73 (dat dkX5_copyFrom 7 rfl) rfl rfl (by decide) rfl rfl (gg2_1 gaS_1) (gg2_0 gaS_1) rfl rfl rfl (by omega) (by omega) (by decide) (fun _ _ => rfl) (by decide) (fun i hi => cpy_all hi) (sa2_0 paS_1) ?_
  refine r_aload_n E (dat dkX5_copyFrom 8 rfl) rfl rfl ?_
  refine q_geta E fl_X5_15 (dat dkX5_copyFrom 9 rfl) rfl rfl rfl ?_
  refine r_iconst (v := 0) E (dat dkX5_copyFrom 10 rfl) rfl ?_
  refine r_aload_n E (dat dkX5_copyFrom 11 rfl) rfl rfl ?_
  refine q_geta E fl_X5_15 (dat dkX5_copyFrom 12 rfl) rfl rfl rfl ?_
  refine r_iconst (v := 0) E (dat dkX5_copyFrom 13 rfl) rfl ?_
  refine r_bipush (v := 64) E (dat dkX5_copyFrom 14 rfl) rfl ?_
  refine q_acopy (a := 0) (b := 0) (z := 64) (f2 := lv2) E ml_X5_73 (dat dkX5_copyFrom 15 rfl) rfl rfl (by decide) rfl rfl (gg2_1 gaS_2) (gg2_0 gaS_2) rfl rfl rfl (by omega) (by omega) (by decide) (fun _ _ => rfl) (by decide) (fun i hi => cpy_all hi) (sa2_0 paS_2) ?_
  refine r_aload_n E (dat dkX5_copyFrom 16 rfl) rfl rfl ?_
  refine q_geta E fl_X5_18 (dat dkX5_copyFrom 17 rfl) rfl rfl rfl ?_
  refine r_iconst (v := 0) E (dat dkX5_copyFrom 18 rfl) rfl ?_
  refine r_aload_n E (dat dkX5_copyFrom 19 rfl) rfl rfl ?_
  refine q_geta E fl_X5_18 (dat dkX5_copyFrom 20 rfl) rfl rfl rfl ?_
  refine r_iconst (v := 0) E (dat dkX5_copyFrom 21 rfl) rfl ?_
  refine r_bipush (v := 64) E (dat dkX5_copyFrom 22 rfl) rfl ?_
  refine q_acopy (a := 0) (b := 0) (z := 64) (f2 := hr2) E ml_X5_73 (dat dkX5_copyFrom 23 rfl) rfl rfl (by decide) rfl rfl (gg2_1 gaS_3) (gg2_0 gaS_3) rfl rfl rfl (by omega) (by omega) (by decide) (fun _ _ => rfl) (by decide) (fun i hi => cpy_all hi) (sa2_0 paS_3) ?_
  refine r_aload_n E (dat dkX5_copyFrom 24 rfl) rfl rfl ?_
  refine q_geta E fl_X5_21 (dat dkX5_copyFrom 25 rfl) rfl rfl rfl ?_
  refine r_iconst (v := 0) E (dat dkX5_copyFrom 26 rfl) rfl ?_
  refine r_aload_n E (dat dkX5_copyFrom 27 rfl) rfl rfl ?_
  refine q_geta E fl_X5_21 (dat dkX5_copyFrom 28 rfl) rfl rfl rfl ?_
  refine r_iconst (v := 0) E (dat dkX5_copyFrom 29 rfl) rfl ?_
  refine r_bipush (v := 64) E (dat dkX5_copyFrom 30 rfl) rfl ?_
  refine q_acopy (a := 0) (b := 0) (z := 64) (f2 := ht2) E ml_X5_73 (dat dkX5_copyFrom 31 rfl) rfl rfl (by decide) rfl rfl (gg2_1 gaS_4) (gg2_0 gaS_4) rfl rfl rfl (by omega) (by omega) (by decide) (fun _ _ => rfl) (by decide) (fun i hi => cpy_all hi) (sa2_0 paS_4) ?_
  refine r_aload_n E (dat dkX5_copyFrom 32 rfl) rfl rfl ?_
  refine q_geta E fl_X5_24 (dat dkX5_copyFrom 33 rfl) rfl rfl rfl ?_
  refine r_iconst (v := 0) E (dat dkX5_copyFrom 34 rfl) rfl ?_
  refine r_aload_n E (dat dkX5_copyFrom 35 rfl) rfl rfl ?_
  refine q_geta E fl_X5_24 (dat dkX5_copyFrom 36 rfl) rfl rfl rfl ?_
  refine r_iconst (v := 0) E (dat dkX5_copyFrom 37 rfl) rfl ?_
  refine r_iconst (v := 4) E (dat dkX5_copyFrom 38 rfl) rfl ?_
  refine q_acopy (a := 0) (b := 0) (z := 4) (f2 := pl2) E ml_X5_73 (dat dkX5_copyFrom 39 rfl) rfl rfl (by decide) rfl rfl (gg2_1 gaS_5) (gg2_0 gaS_5) rfl rfl rfl (by omega) (by omega) (by decide) (fun _ _ => rfl) (by decide) (fun i hi => cpy_all hi) (sa2_0 paS_5) ?_
  refine r_aload_n E (dat dkX5_copyFrom 40 rfl) rfl rfl ?_
  refine q_geta E fl_X5_27 (dat dkX5_copyFrom 41 rfl) rfl rfl rfl ?_
  refine r_iconst (v := 0) E (dat dkX5_copyFrom 42 rfl) rfl ?_
  refine r_aload_n E (dat dkX5_copyFrom 43 rfl) rfl rfl ?_
  refine q_geta E fl_X5_27 (dat dkX5_copyFrom 44 rfl) rfl rfl rfl ?_
  refine r_iconst (v := 0) E (dat dkX5_copyFrom 45 rfl) rfl ?_
  refine r_iconst (v := 4) E (dat dkX5_copyFrom 46 rfl) rfl ?_
  refine q_acopy (a := 0) (b := 0) (z := 4) (f2 := sp2) E ml_X5_73 (dat dkX5_copyFrom 47 rfl) rfl rfl (by decide) rfl rfl (gg2_1 gaS_6) (gg2_0 gaS_6) rfl rfl rfl (by omega) (by omega) (by decide) (fun _ _ => rfl) (by decide) (fun i hi => cpy_all hi) (sa2_0 paS_6) ?_
  refine r_iconst (v := 0) E (dat dkX5_copyFrom 48 rfl) rfl ?_
  refine r_istore_2 E (dat dkX5_copyFrom 49 rfl) rfl rfl ?_
  refine r_for (4) (fun _ => True) (fun i => m2 (vS B0 mi ra rd fh dr ev dp sw (w2) (lv2) (hr2) (ht2) (pl2) (sp2) (fil wt2 wt i)) (vS B1 mi2 ra2 rd2 fh2 dr2 ev2 dp2 sw2 w2 lv2 hr2 ht2 pl2 sp2 wt2) M0) (fun i => [some (rv 0 0), some (rv 1 0), some (iv (nI i))]) trivial (by rw [fil_0]) rfl ?_ ?_
  · intro i hi hI kk
    refine r_iload_n E (dat dkX5_copyFrom 50 rfl) rfl rfl ?_
    refine r_iconst (v := 4) E (dat dkX5_copyFrom 51 rfl) rfl ?_
    refine q_icmp_ge (tgt := 113) E (dat dkX5_copyFrom 52 rfl) rfl rfl (b := 4) rfl (by omega) (by omega) (fun h92 => ?_) (fun h92 => ?_)
    ·
      omega
    ·
      refine r_aload_n E (dat dkX5_copyFrom 53 rfl) rfl rfl ?_
      refine q_geta E fl_X5_30 (dat dkX5_copyFrom 54 rfl) rfl rfl rfl ?_
      refine r_iload_n E (dat dkX5_copyFrom 55 rfl) rfl rfl ?_
      refine r_aload_n E (dat dkX5_copyFrom 56 rfl) rfl rfl ?_
      refine q_geta E fl_X5_30 (dat dkX5_copyFrom 57 rfl) rfl rfl rfl ?_
      refine r_iload_n E (dat dkX5_copyFrom 58 rfl) rfl rfl ?_
      refine q_zald E (dat dkX5_copyFrom 59 rfl) rfl rfl (by decide) (gg2_1 gaS_7) rfl (by omega) ?_
      refine q_zast E (dat dkX5_copyFrom 60 rfl) rfl rfl (by decide) (gg2_0 gaS_7) (fun _ => sa2_0 paS_7) rfl (by omega) (z := wt2 i) (zn_fit (hwt i hi)) ?_
      refine q_iinc_2 E (dat dkX5_copyFrom 61 rfl) rfl rfl ?_
      refine r_goto (tgt := 90) E (dat dkX5_copyFrom 62 rfl) rfl ?_
      refine r_back ?_ ?_ (kk trivial)
      rotate_left
      · exact And.intro rfl (And.intro rfl (And.intro rfl trivial))
      rw [fil_upd rfl]
  · intro hI
    refine r_iload_n E (dat dkX5_copyFrom 50 rfl) rfl rfl ?_
    refine r_iconst (v := 4) E (dat dkX5_copyFrom 51 rfl) rfl ?_
    refine q_icmp_ge (tgt := 113) E (dat dkX5_copyFrom 52 rfl) rfl rfl (b := 4) rfl (by omega) (by omega) (fun h92 => ?_) (fun h92 => ?_)
    ·
      refine r_aload_n E (dat dkX5_copyFrom 63 rfl) rfl rfl ?_
      refine r_aload_n E (dat dkX5_copyFrom 64 rfl) rfl rfl ?_
      refine q_getn E fl_X5_34 (dat dkX5_copyFrom 65 rfl) rfl rfl rfl (go2_1 gfS_7) ?_
      refine q_putn E ft_X5_34 (dat dkX5_copyFrom 66 rfl) rfl rfl rfl (sf2_0 pfS_7) ?_
      refine r_aload_n E (dat dkX5_copyFrom 67 rfl) rfl rfl ?_
      refine r_aload_n E (dat dkX5_copyFrom 68 rfl) rfl rfl ?_
      refine q_getn E fl_X5_38 (dat dkX5_copyFrom 69 rfl) rfl rfl rfl (go2_1 gfS_8) ?_
      refine q_putn E ft_X5_38 (dat dkX5_copyFrom 70 rfl) rfl rfl rfl (sf2_0 pfS_8) ?_
      refine r_aload_n E (dat dkX5_copyFrom 71 rfl) rfl rfl ?_
      refine r_aload_n E (dat dkX5_copyFrom 72 rfl) rfl rfl ?_
      refine q_getn E fl_X5_41 (dat dkX5_copyFrom 73 rfl) rfl rfl rfl (go2_1 gfS_9) ?_
      refine q_putn E ft_X5_41 (dat dkX5_copyFrom 74 rfl) rfl rfl rfl (sf2_0 pfS_9) ?_
      refine r_aload_n E (dat dkX5_copyFrom 75 rfl) rfl rfl ?_
      refine r_aload_n E (dat dkX5_copyFrom 76 rfl) rfl rfl ?_
      refine q_getn E fl_X5_44 (dat dkX5_copyFrom 77 rfl) rfl rfl rfl (go2_1 gfS_10) ?_
      refine q_putn E ft_X5_44 (dat dkX5_copyFrom 78 rfl) rfl rfl rfl (sf2_0 pfS_10) ?_
      refine r_aload_n E (dat dkX5_copyFrom 79 rfl) rfl rfl ?_
      refine r_aload_n E (dat dkX5_copyFrom 80 rfl) rfl rfl ?_
      refine q_getn E fl_X5_47 (dat dkX5_copyFrom 81 rfl) rfl rfl rfl (go2_1 gfS_11) ?_
      refine q_putn E ft_X5_47 (dat dkX5_copyFrom 82 rfl) rfl rfl rfl (sf2_0 pfS_11) ?_
      refine r_aload_n E (dat dkX5_copyFrom 83 rfl) rfl rfl ?_
      refine r_aload_n E (dat dkX5_copyFrom 84 rfl) rfl rfl ?_
      refine q_getn E fl_X5_50 (dat dkX5_copyFrom 85 rfl) rfl rfl rfl (go2_1 gfS_12) ?_
      refine q_putn E ft_X5_50 (dat dkX5_copyFrom 86 rfl) rfl rfl rfl (sf2_0 pfS_12) ?_
      refine r_aload_n E (dat dkX5_copyFrom 87 rfl) rfl rfl ?_
      refine r_aload_n E (dat dkX5_copyFrom 88 rfl) rfl rfl ?_
      refine q_getn E fl_X5_53 (dat dkX5_copyFrom 89 rfl) rfl rfl rfl (go2_1 gfS_13) ?_
      refine q_putn E ft_X5_53 (dat dkX5_copyFrom 90 rfl) rfl rfl rfl (sf2_0 pfS_13) ?_
      refine r_aload_n E (dat dkX5_copyFrom 91 rfl) rfl rfl ?_
      refine r_aload_n E (dat dkX5_copyFrom 92 rfl) rfl rfl ?_
      refine q_getn E fl_X5_56 (dat dkX5_copyFrom 93 rfl) rfl rfl rfl (go2_1 gfS_14) ?_
      refine q_putn E ft_X5_56 (dat dkX5_copyFrom 94 rfl) rfl rfl rfl (sf2_0 pfS_14) ?_
      refine r_range (f := wt2) rfl (fun i hi => (if_pos hi).symm) (sa2_0 paS_7) ?_
      refine r_objs (eqS (j0 := 0) (B2 := B1) rfl rfl rfl) ?_
      refine r_vreturn E (dat dkX5_copyFrom 95 rfl) (by decide) (by decide) ?_
      exact ⟨rfl, by rw [pm2_0, gm2_1, pm2_0]⟩
    ·
      omega

set_option maxRecDepth 100000 in
set_option maxHeartbeats 4000000 in
theorem sp_X5_sumOfWater (l : Launch) (G : GT) (B0 : Nat → Nat → Int32) (mi ra rd fh dr ev dp sw : Int32) (w lv hr ht pl sp wt : Nat → Int32) (B1 : Nat → Nat → Int32) (ro co : Int32) (n : Nat) (bc fr : Int32) (he gu be nm nl bh fp n0 n1 n2 n3 : Nat → Int32) (M : Mem) (hA0 : M 0 = (vS B0 mi ra rd fh dr ev dp sw w lv hr ht pl sp wt)) (hA1 : M 1 = (vP B1 ro co (nI n) bc fr he gu be nm nl bh fp n0 n1 n2 n3)) (hn : n ≤ 64) : MC l G yX5_sumOfWater cX5_sumOfWater 4 (some .int) ({ frames := 0, cells := 0, slots := 0, locals := 0 } : Room) [1, 2] lk0 [rv 0 0, rv 1 0] (M) (fun r M2 => r = some (iv (sm w n)) ∧ M2 = M) := by
  obtain ⟨M0, rfl⟩ : ∃ M0, M = m2 ((vS B0 mi ra rd fh dr ev dp sw w lv hr ht pl sp wt)) ((vP B1 ro co (nI n) bc fr he gu be nm nl bh fp n0 n1 n2 n3)) M0 := ⟨M, (m2_of hA0 hA1).symm⟩
  clear hA0 hA1
  refine MC.of RX5 [some (rv 0 0), some (rv 1 0), none, none] 2 (by decide +kernel) rfl rfl rfl ?_
  intro pp ee ss mm aa bb me cd ad E
  refine r_iconst (v := 0) E (dat dkX5_sumOfWater 0 rfl) rfl ?_
  refine r_istore_2 E (dat dkX5_sumOfWater 1 rfl) rfl rfl ?_
  refine r_iconst (v := 0) E (dat dkX5_sumOfWater 2 rfl) rfl ?_
  refine r_istore_3 E (dat dkX5_sumOfWater 3 rfl) rfl rfl ?_
  refine r_for (n) (fun _ => True) (fun i => m2 (vS B0 mi ra rd fh dr ev dp sw w lv hr ht pl sp wt) (vP B1 ro co (nI n) bc fr he gu be nm nl bh fp n0 n1 n2 n3) M0) (fun i => [some (rv 0 0), some (rv 1 0), some (iv (sm w i)), some (iv (nI i))]) trivial rfl rfl ?_ ?_
  · intro i hi hI kk
    refine r_iload_n E (dat dkX5_sumOfWater 4 rfl) rfl rfl ?_
    refine r_aload_n E (dat dkX5_sumOfWater 5 rfl) rfl rfl ?_
    refine q_getn E fl_X5_102 (dat dkX5_sumOfWater 6 rfl) rfl rfl rfl (go2_1 gfP_9) ?_
    refine q_icmp_ge (tgt := 27) E (dat dkX5_sumOfWater 7 rfl) rfl rfl rfl (by omega) (by omega) (fun h9 => ?_) (fun h9 => ?_)
    ·
      omega
    ·
      refine r_iload_n E (dat dkX5_sumOfWater 8 rfl) rfl rfl ?_
      refine r_aload_n E (dat dkX5_sumOfWater 9 rfl) rfl rfl ?_
      refine q_geta E fl_X5_9 (dat dkX5_sumOfWater 10 rfl) rfl rfl rfl ?_
      refine r_iload_n E (dat dkX5_sumOfWater 11 rfl) rfl rfl ?_
      refine q_iald E (dat dkX5_sumOfWater 12 rfl) rfl rfl (by decide) (gg2_0 gaS_1) rfl (by omega) ?_
      refine r_iadd E (dat dkX5_sumOfWater 13 rfl) ?_
      refine r_istore_2 E (dat dkX5_sumOfWater 14 rfl) rfl rfl ?_
      refine q_iinc_3 E (dat dkX5_sumOfWater 15 rfl) rfl rfl ?_
      refine r_goto (tgt := 4) E (dat dkX5_sumOfWater 16 rfl) rfl ?_
      exact kk trivial
  · intro hI
    refine r_iload_n E (dat dkX5_sumOfWater 4 rfl) rfl rfl ?_
    refine r_aload_n E (dat dkX5_sumOfWater 5 rfl) rfl rfl ?_
    refine q_getn E fl_X5_102 (dat dkX5_sumOfWater 6 rfl) rfl rfl rfl (go2_1 gfP_9) ?_
    refine q_icmp_ge (tgt := 27) E (dat dkX5_sumOfWater 7 rfl) rfl rfl rfl (by omega) (by omega) (fun h9 => ?_) (fun h9 => ?_)
    ·
      refine r_iload_n E (dat dkX5_sumOfWater 17 rfl) rfl rfl ?_
      refine r_ireturn E (dat dkX5_sumOfWater 18 rfl) (by decide) (by decide) ?_
      exact ⟨rfl, rfl⟩
    ·
      omega

set_option maxRecDepth 100000 in
set_option maxHeartbeats 4000000 in
theorem sp_X5_countOpen (l : Launch) (G : GT) (B0 : Nat → Nat → Int32) (mi ra rd fh dr ev dp sw : Int32) (w lv hr ht pl sp wt : Nat → Int32) (B1 : Nat → Nat → Int32) (ro co : Int32) (n : Nat) (bc fr : Int32) (he gu be nm nl bh fp n0 n1 n2 n3 : Nat → Int32) (M : Mem) (hA0 : M 0 = (vS B0 mi ra rd fh dr ev dp sw w lv hr ht pl sp wt)) (hA1 : M 1 = (vP B1 ro co (nI n) bc fr he gu be nm nl bh fp n0 n1 n2 n3)) (hn : n ≤ 64) : MC l G yX5_countOpen cX5_countOpen 4 (some .int) ({ frames := 1, cells := 0, slots := 0, locals := 21 } : Room) [1, 2] lk0 [rv 0 0, rv 1 0] (M) (fun r M2 => r = some (iv (sm (cO ht) n)) ∧ M2 = M) := by
  obtain ⟨M0, rfl⟩ : ∃ M0, M = m2 ((vS B0 mi ra rd fh dr ev dp sw w lv hr ht pl sp wt)) ((vP B1 ro co (nI n) bc fr he gu be nm nl bh fp n0 n1 n2 n3)) M0 := ⟨M, (m2_of hA0 hA1).symm⟩
  clear hA0 hA1
  refine MC.of RX5 [some (rv 0 0), some (rv 1 0), none, none] 2 (by decide +kernel) rfl rfl rfl ?_
  intro pp ee ss mm aa bb me cd ad E
  refine r_iconst (v := 0) E (dat dkX5_countOpen 0 rfl) rfl ?_
  refine r_istore_2 E (dat dkX5_countOpen 1 rfl) rfl rfl ?_
  refine r_iconst (v := 0) E (dat dkX5_countOpen 2 rfl) rfl ?_
  refine r_istore_3 E (dat dkX5_countOpen 3 rfl) rfl rfl ?_
  refine r_for (n) (fun _ => True) (fun i => m2 (vS B0 mi ra rd fh dr ev dp sw w lv hr ht pl sp wt) (vP B1 ro co (nI n) bc fr he gu be nm nl bh fp n0 n1 n2 n3) M0) (fun i => [some (rv 0 0), some (rv 1 0), some (iv (sm (cO ht) i)), some (iv (nI i))]) trivial rfl rfl ?_ ?_
  · intro i hi hI kk
    refine r_iload_n E (dat dkX5_countOpen 4 rfl) rfl rfl ?_
    refine r_aload_n E (dat dkX5_countOpen 5 rfl) rfl rfl ?_
    refine q_getn E fl_X5_102 (dat dkX5_countOpen 6 rfl) rfl rfl rfl (go2_1 gfP_9) ?_
    refine q_icmp_ge (tgt := 29) E (dat dkX5_countOpen 7 rfl) rfl rfl rfl (by omega) (by omega) (fun h9 => ?_) (fun h9 => ?_)
    ·
      omega
    ·
      refine r_aload_n E (dat dkX5_countOpen 8 rfl) rfl rfl ?_
      refine r_iload_n E (dat dkX5_countOpen 9 rfl) rfl rfl ?_
      refine r_callV (κ := 1) (μ := [0]) E (sp_X5_isOpen l G B0 mi ra rd fh dr ev dp sw w lv hr ht pl sp wt i _ rfl (by omega)) my_X5_isOpen iv_X5_isOpen ml_X5_105 (cm_of rfl) ⟨by decide, rfl, rfl⟩ rfl rfl rfl rfl (by decide) (Nat.le_of_ble_eq_true rfl) (dat dkX5_countOpen 10 rfl) ?_
      rintro _ _ ⟨rfl, rfl⟩
      refine ⟨_, Mrg_z rfl, ?_⟩
      refine r_if_eq (tgt := 23) E (dat dkX5_countOpen 11 rfl) rfl (fun h17 => ?_) (fun h17 => ?_)
      ·
        refine q_iinc_3 E (dat dkX5_countOpen 13 rfl) rfl rfl ?_
        refine r_goto (tgt := 4) E (dat dkX5_countOpen 14 rfl) rfl ?_
        first
          | (rw [show sm (cO ht) (i + 1) = sm (cO ht) i from by show sm (cO ht) i + cO ht i = _; unfold cO; rw [if_pos (opI_0.mp h17), Int32.add_zero]] at kk; exact kk trivial)
          | (rw [show sm (cO ht) (i + 1) = sm (cO ht) i + Int32.ofInt 1 from by show sm (cO ht) i + cO ht i = _; rw [show cO ht i = 1 from if_neg (fun q => h17 (opI_0.mpr q))]; rfl] at kk; exact kk trivial)
      ·
        refine r_iinc_2 E (dat dkX5_countOpen 12 rfl) rfl rfl ?_
        refine q_iinc_3 E (dat dkX5_countOpen 13 rfl) rfl rfl ?_
        refine r_goto (tgt := 4) E (dat dkX5_countOpen 14 rfl) rfl ?_
        first
          | (rw [show sm (cO ht) (i + 1) = sm (cO ht) i from by show sm (cO ht) i + cO ht i = _; unfold cO; rw [if_pos (opI_0.mp h17), Int32.add_zero]] at kk; exact kk trivial)
          | (rw [show sm (cO ht) (i + 1) = sm (cO ht) i + Int32.ofInt 1 from by show sm (cO ht) i + cO ht i = _; rw [show cO ht i = 1 from if_neg (fun q => h17 (opI_0.mpr q))]; rfl] at kk; exact kk trivial)
  · intro hI
    refine r_iload_n E (dat dkX5_countOpen 4 rfl) rfl rfl ?_
    refine r_aload_n E (dat dkX5_countOpen 5 rfl) rfl rfl ?_
    refine q_getn E fl_X5_102 (dat dkX5_countOpen 6 rfl) rfl rfl rfl (go2_1 gfP_9) ?_
    refine q_icmp_ge (tgt := 29) E (dat dkX5_countOpen 7 rfl) rfl rfl rfl (by omega) (by omega) (fun h9 => ?_) (fun h9 => ?_)
    ·
      refine r_iload_n E (dat dkX5_countOpen 15 rfl) rfl rfl ?_
      refine r_ireturn E (dat dkX5_countOpen 16 rfl) (by decide) (by decide) ?_
      exact ⟨rfl, rfl⟩
    ·
      omega

set_option maxRecDepth 100000 in
set_option maxHeartbeats 4000000 in
theorem sp_X5_openHydrant (l : Launch) (G : GT) (B0 : Nat → Nat → Int32) (mi ra rd fh dr ev dp sw : Int32) (w lv hr ht pl sp wt : Nat → Int32) (c : Nat) (x y : Int32) (M : Mem) (hA0 : M 0 = (vS B0 mi ra rd fh dr ev dp sw w lv hr ht pl sp wt)) (hc : c < 64) : MC l G yX5_openHydrant cX5_openHydrant 4 none ({ frames := 0, cells := 0, slots := 0, locals := 0 } : Room) [1] lk0 [rv 0 0, iv (nI c), iv x, iv y] (M) (fun r M2 => r = none ∧ M2 = setm M 0 (vS B0 mi ra rd fh dr ev dp sw w lv (upd hr c x) (upd ht c y) pl sp wt)) := by
  obtain ⟨M0, rfl⟩ : ∃ M0, M = m1 ((vS B0 mi ra rd fh dr ev dp sw w lv hr ht pl sp wt)) M0 := ⟨M, (m1_of hA0).symm⟩
  clear hA0
  refine MC.of RX5 [some (rv 0 0), some (iv (nI c)), some (iv x), some (iv y)] 0 (by decide +kernel) rfl rfl rfl ?_
  intro pp ee ss mm aa bb me cd ad E
  refine r_aload_n E (dat dkX5_openHydrant 0 rfl) rfl rfl ?_
  refine q_geta E fl_X5_18 (dat dkX5_openHydrant 1 rfl) rfl rfl rfl ?_
  refine r_iload_n E (dat dkX5_openHydrant 2 rfl) rfl rfl ?_
  refine r_iload_n E (dat dkX5_openHydrant 3 rfl) rfl rfl ?_
  refine q_iast E (dat dkX5_openHydrant 4 rfl) rfl rfl (by decide) (gg1_0 gaS_3) (fun _ => sa1_0 paS_3) rfl (by omega) ?_
  refine r_aload_n E (dat dkX5_openHydrant 5 rfl) rfl rfl ?_
  refine q_geta E fl_X5_21 (dat dkX5_openHydrant 6 rfl) rfl rfl rfl ?_
  refine r_iload_n E (dat dkX5_openHydrant 7 rfl) rfl rfl ?_
  refine r_iload_n E (dat dkX5_openHydrant 8 rfl) rfl rfl ?_
  refine q_iast E (dat dkX5_openHydrant 9 rfl) rfl rfl (by decide) (gg1_0 gaS_4) (fun _ => sa1_0 paS_4) rfl (by omega) ?_
  refine r_vreturn E (dat dkX5_openHydrant 10 rfl) (by decide) (by decide) ?_
  exact ⟨rfl, by rw [pm1_0]⟩

set_option maxRecDepth 100000 in
set_option maxHeartbeats 4000000 in
theorem sp_X5_shutHydrant (l : Launch) (G : GT) (B0 : Nat → Nat → Int32) (mi ra rd fh dr ev dp sw : Int32) (w lv hr ht pl sp wt : Nat → Int32) (c : Nat) (M : Mem) (hA0 : M 0 = (vS B0 mi ra rd fh dr ev dp sw w lv hr ht pl sp wt)) (hc : c < 64) : MC l G yX5_shutHydrant cX5_shutHydrant 3 (some .int) ({ frames := 0, cells := 0, slots := 0, locals := 0 } : Room) [1] lk0 [rv 0 0, iv (nI c)] (M) (fun r M2 => r = some (iv (ht c)) ∧ M2 = setm M 0 (vS B0 mi ra rd fh dr ev dp sw w lv (upd hr c 0) (upd ht c 0) pl sp wt)) := by
  obtain ⟨M0, rfl⟩ : ∃ M0, M = m1 ((vS B0 mi ra rd fh dr ev dp sw w lv hr ht pl sp wt)) M0 := ⟨M, (m1_of hA0).symm⟩
  clear hA0
  refine MC.of RX5 [some (rv 0 0), some (iv (nI c)), none] 1 (by decide +kernel) rfl rfl rfl ?_
  intro pp ee ss mm aa bb me cd ad E
  refine r_aload_n E (dat dkX5_shutHydrant 0 rfl) rfl rfl ?_
  refine q_geta E fl_X5_21 (dat dkX5_shutHydrant 1 rfl) rfl rfl rfl ?_
  refine r_iload_n E (dat dkX5_shutHydrant 2 rfl) rfl rfl ?_
  refine q_iald E (dat dkX5_shutHydrant 3 rfl) rfl rfl (by decide) (gg1_0 gaS_4) rfl (by omega) ?_
  refine r_istore_2 E (dat dkX5_shutHydrant 4 rfl) rfl rfl ?_
  refine r_aload_n E (dat dkX5_shutHydrant 5 rfl) rfl rfl ?_
  refine q_geta E fl_X5_18 (dat dkX5_shutHydrant 6 rfl) rfl rfl rfl ?_
  refine r_iload_n E (dat dkX5_shutHydrant 7 rfl) rfl rfl ?_
  refine r_iconst (v := 0) E (dat dkX5_shutHydrant 8 rfl) rfl ?_
  refine q_iast E (dat dkX5_shutHydrant 9 rfl) rfl rfl (by decide) (gg1_0 gaS_3) (fun _ => sa1_0 paS_3) rfl (by omega) ?_
  refine r_aload_n E (dat dkX5_shutHydrant 10 rfl) rfl rfl ?_
  refine q_geta E fl_X5_21 (dat dkX5_shutHydrant 11 rfl) rfl rfl rfl ?_
  refine r_iload_n E (dat dkX5_shutHydrant 12 rfl) rfl rfl ?_
  refine r_iconst (v := 0) E (dat dkX5_shutHydrant 13 rfl) rfl ?_
  refine q_iast E (dat dkX5_shutHydrant 14 rfl) rfl rfl (by decide) (gg1_0 gaS_4) (fun _ => sa1_0 paS_4) rfl (by omega) ?_
  refine r_iload_n E (dat dkX5_shutHydrant 15 rfl) rfl rfl ?_
  refine r_ireturn E (dat dkX5_shutHydrant 16 rfl) (by decide) (by decide) ?_
  exact ⟨rfl, by rw [pm1_0]⟩

set_option maxRecDepth 100000 in
set_option maxHeartbeats 4000000 in
theorem sp_X5_addLeaves (l : Launch) (G : GT) (B0 : Nat → Nat → Int32) (mi ra rd fh dr ev dp sw : Int32) (w lv hr ht pl sp wt : Nat → Int32) (c : Nat) (x : Int32) (M : Mem) (hA0 : M 0 = (vS B0 mi ra rd fh dr ev dp sw w lv hr ht pl sp wt)) (hc : c < 64) : MC l G yX5_addLeaves cX5_addLeaves 3 none ({ frames := 0, cells := 0, slots := 0, locals := 0 } : Room) [1] lk0 [rv 0 0, iv (nI c), iv x] (M) (fun r M2 => r = none ∧ M2 = setm M 0 (vS B0 mi ra rd fh dr ev (dp + x) sw w (upd lv c (lv c + x)) hr ht pl sp wt)) := by
  obtain ⟨M0, rfl⟩ : ∃ M0, M = m1 ((vS B0 mi ra rd fh dr ev dp sw w lv hr ht pl sp wt)) M0 := ⟨M, (m1_of hA0).symm⟩
  clear hA0
  refine MC.of RX5 [some (rv 0 0), some (iv (nI c)), some (iv x)] 0 (by decide +kernel) rfl rfl rfl ?_
  intro pp ee ss mm aa bb me cd ad E
  refine r_aload_n E (dat dkX5_addLeaves 0 rfl) rfl rfl ?_
  refine q_geta E fl_X5_15 (dat dkX5_addLeaves 1 rfl) rfl rfl rfl ?_
  refine r_iload_n E (dat dkX5_addLeaves 2 rfl) rfl rfl ?_
  refine r_dup2 E (dat dkX5_addLeaves 3 rfl) rfl rfl ?_
  refine q_iald E (dat dkX5_addLeaves 4 rfl) rfl rfl (by decide) (gg1_0 gaS_2) rfl (by omega) ?_
  refine r_iload_n E (dat dkX5_addLeaves 5 rfl) rfl rfl ?_
  refine r_iadd E (dat dkX5_addLeaves 6 rfl) ?_
  refine q_iast E (dat dkX5_addLeaves 7 rfl) rfl rfl (by decide) (gg1_0 gaS_2) (fun _ => sa1_0 paS_2) rfl (by omega) ?_
  refine r_aload_n E (dat dkX5_addLeaves 8 rfl) rfl rfl ?_
  refine r_dup E (dat dkX5_addLeaves 9 rfl) rfl ?_
  refine q_getn E fl_X5_53 (dat dkX5_addLeaves 10 rfl) rfl rfl rfl (go1_0 gfS_13) ?_
  refine r_iload_n E (dat dkX5_addLeaves 11 rfl) rfl rfl ?_
  refine r_iadd E (dat dkX5_addLeaves 12 rfl) ?_
  refine q_putn E ft_X5_53 (dat dkX5_addLeaves 13 rfl) rfl rfl rfl (sf1_0 pfS_13) ?_
  refine r_vreturn E (dat dkX5_addLeaves 14 rfl) (by decide) (by decide) ?_
  exact ⟨rfl, by rw [pm1_0]⟩

set_option maxRecDepth 100000 in
set_option maxHeartbeats 4000000 in
theorem sp_X5_takeLeaves (l : Launch) (G : GT) (B0 : Nat → Nat → Int32) (mi ra rd fh dr ev dp sw : Int32) (w lv hr ht pl sp wt : Nat → Int32) (c : Nat) (M : Mem) (hA0 : M 0 = (vS B0 mi ra rd fh dr ev dp sw w lv hr ht pl sp wt)) (hc : c < 64) : MC l G yX5_takeLeaves cX5_takeLeaves 3 (some .int) ({ frames := 0, cells := 0, slots := 0, locals := 0 } : Room) [1] lk0 [rv 0 0, iv (nI c)] (M) (fun r M2 => r = some (iv (lv c)) ∧ M2 = setm M 0 (vS B0 mi ra rd fh dr ev dp (sw + lv c) w (upd lv c 0) hr ht pl sp wt)) := by
  obtain ⟨M0, rfl⟩ : ∃ M0, M = m1 ((vS B0 mi ra rd fh dr ev dp sw w lv hr ht pl sp wt)) M0 := ⟨M, (m1_of hA0).symm⟩
  clear hA0
  refine MC.of RX5 [some (rv 0 0), some (iv (nI c)), none] 1 (by decide +kernel) rfl rfl rfl ?_
  intro pp ee ss mm aa bb me cd ad E
  refine r_aload_n E (dat dkX5_takeLeaves 0 rfl) rfl rfl ?_
  refine q_geta E fl_X5_15 (dat dkX5_takeLeaves 1 rfl) rfl rfl rfl ?_
  refine r_iload_n E (dat dkX5_takeLeaves 2 rfl) rfl rfl ?_
  refine q_iald E (dat dkX5_takeLeaves 3 rfl) rfl rfl (by decide) (gg1_0 gaS_2) rfl (by omega) ?_
  refine r_istore_2 E (dat dkX5_takeLeaves 4 rfl) rfl rfl ?_
  refine r_aload_n E (dat dkX5_takeLeaves 5 rfl) rfl rfl ?_
  refine q_geta E fl_X5_15 (dat dkX5_takeLeaves 6 rfl) rfl rfl rfl ?_
  refine r_iload_n E (dat dkX5_takeLeaves 7 rfl) rfl rfl ?_
  refine r_iconst (v := 0) E (dat dkX5_takeLeaves 8 rfl) rfl ?_
  refine q_iast E (dat dkX5_takeLeaves 9 rfl) rfl rfl (by decide) (gg1_0 gaS_2) (fun _ => sa1_0 paS_2) rfl (by omega) ?_
  refine r_aload_n E (dat dkX5_takeLeaves 10 rfl) rfl rfl ?_
  refine r_dup E (dat dkX5_takeLeaves 11 rfl) rfl ?_
  refine q_getn E fl_X5_56 (dat dkX5_takeLeaves 12 rfl) rfl rfl rfl (go1_0 gfS_14) ?_
  refine r_iload_n E (dat dkX5_takeLeaves 13 rfl) rfl rfl ?_
  refine r_iadd E (dat dkX5_takeLeaves 14 rfl) ?_
  refine q_putn E ft_X5_56 (dat dkX5_takeLeaves 15 rfl) rfl rfl rfl (sf1_0 pfS_14) ?_
  refine r_iload_n E (dat dkX5_takeLeaves 16 rfl) rfl rfl ?_
  refine r_ireturn E (dat dkX5_takeLeaves 17 rfl) (by decide) (by decide) ?_
  exact ⟨rfl, by rw [pm1_0]⟩

set_option maxRecDepth 100000 in
set_option maxHeartbeats 4000000 in
theorem sp_X5_canStep (l : Launch) (G : GT) (B0 : Nat → Nat → Int32) (mi ra rd fh dr ev dp sw : Int32) (w lv hr ht pl sp wt : Nat → Int32) (B1 : Nat → Nat → Int32) (ro co : Int32) (n : Nat) (bc fr : Int32) (he gu be nm nl bh fp n0 n1 n2 n3 : Nat → Int32) (b q d : Nat) (M : Mem) (hA0 : M 0 = (vS B0 mi ra rd fh dr ev dp sw w lv hr ht pl sp wt)) (hA1 : M 1 = (vP B1 ro co (nI n) bc fr he gu be nm nl bh fp n0 n1 n2 n3)) (hb : b < 4) (hq : pl b = nI q) (hqn : q < n) (hn : n ≤ 64) (hd : d < 4) : MC l G yX5_canStep cX5_canStep 4 (some .boolean) ({ frames := 2, cells := 0, slots := 0, locals := 43 } : Room) [1, 2] lk0 [rv 0 0, rv 1 0, iv (nI b), iv (nI d)] (M) (fun r M2 => r = some (iv (if be (q * 4 + d) = -1 then 0 else 1)) ∧ M2 = M) := by
  obtain ⟨M0, rfl⟩ : ∃ M0, M = m2 ((vS B0 mi ra rd fh dr ev dp sw w lv hr ht pl sp wt)) ((vP B1 ro co (nI n) bc fr he gu be nm nl bh fp n0 n1 n2 n3)) M0 := ⟨M, (m2_of hA0 hA1).symm⟩
  clear hA0 hA1
  refine MC.of RX5 [some (rv 0 0), some (rv 1 0), some (iv (nI b)), some (iv (nI d))] 0 (by decide +kernel) rfl rfl rfl ?_
  intro pp ee ss mm aa bb me cd ad E
  refine r_aload_n E (dat dkX5_canStep 0 rfl) rfl rfl ?_
  refine r_aload_n E (dat dkX5_canStep 1 rfl) rfl rfl ?_
  refine q_geta E fl_X5_24 (dat dkX5_canStep 2 rfl) rfl rfl rfl ?_
  refine r_iload_n E (dat dkX5_canStep 3 rfl) rfl rfl ?_
  refine q_iald E (dat dkX5_canStep 4 rfl) rfl rfl (by decide) (gg2_0 gaS_5) rfl (by omega) ?_
  rw [hq]
  refine r_iload_n E (dat dkX5_canStep 5 rfl) rfl rfl ?_
  refine r_callV (κ := 2) (μ := [1]) E (sp_X2_cellBeside l G B1 ro co n bc fr he gu be nm nl bh fp n0 n1 n2 n3 q d _ rfl hqn hn hd) my_X2_cellBeside iv_X2_cellBeside ml_X5_139 (cm_of rfl) ⟨by decide, rfl, rfl⟩ rfl rfl rfl rfl (by decide) (Nat.le_of_ble_eq_true rfl) (dat dkX5_canStep 6 rfl) ?_
  rintro _ _ ⟨rfl, rfl⟩
  refine ⟨_, Mrg_z rfl, ?_⟩
  refine r_iconst (v := -1) E (dat dkX5_canStep 7 rfl) rfl ?_
  refine r_icmp_eq (tgt := 19) E (dat dkX5_canStep 8 rfl) rfl (fun h12 => ?_) (fun h12 => ?_)
  ·
    refine r_iconst (v := 0) E (dat dkX5_canStep 11 rfl) rfl ?_
    refine r_zreturn E (dat dkX5_canStep 12 rfl) rfl (by decide) (by decide) ?_
    refine ⟨?_, rfl⟩
    simp only [h12, if_true, if_false]
  ·
    refine r_iconst (v := 1) E (dat dkX5_canStep 9 rfl) rfl ?_
    refine r_goto (tgt := 20) E (dat dkX5_canStep 10 rfl) rfl ?_
    refine r_zreturn E (dat dkX5_canStep 12 rfl) rfl (by decide) (by decide) ?_
    refine ⟨?_, rfl⟩
    simp only [h12, if_true, if_false]

set_option maxRecDepth 100000 in
set_option maxHeartbeats 4000000 in
theorem sp_X5_step (l : Launch) (G : GT) (B0 : Nat → Nat → Int32) (mi ra rd fh dr ev dp sw : Int32) (w lv hr ht pl sp wt : Nat → Int32) (B1 : Nat → Nat → Int32) (ro co : Int32) (n : Nat) (bc fr : Int32) (he gu be nm nl bh fp n0 n1 n2 n3 : Nat → Int32) (b q d o : Nat) (M : Mem) (hA0 : M 0 = (vS B0 mi ra rd fh dr ev dp sw w lv hr ht pl sp wt)) (hA1 : M 1 = (vP B1 ro co (nI n) bc fr he gu be nm nl bh fp n0 n1 n2 n3)) (hb : b < 4) (hq : pl b = nI q) (hqn : q < n) (hn : n ≤ 64) (hd : d < 4) (hbo : be (q * 4 + d) = nI o) (ho : o < 64) : MC l G yX5_step cX5_step 4 none ({ frames := 2, cells := 0, slots := 0, locals := 44 } : Room) [1, 2] lk0 [rv 0 0, rv 1 0, iv (nI b), iv (nI d)] (M) (fun r M2 => r = none ∧ M2 = setm M 0 (vS B0 mi ra rd fh dr ev dp sw w lv hr ht (upd pl b (nI o)) sp (if bh b < w o then upd wt b 1 else wt))) := by
  obtain ⟨M0, rfl⟩ : ∃ M0, M = m2 ((vS B0 mi ra rd fh dr ev dp sw w lv hr ht pl sp wt)) ((vP B1 ro co (nI n) bc fr he gu be nm nl bh fp n0 n1 n2 n3)) M0 := ⟨M, (m2_of hA0 hA1).symm⟩
  clear hA0 hA1
  refine MC.of RX5 [some (rv 0 0), some (rv 1 0), some (iv (nI b)), some (iv (nI d))] 0 (by decide +kernel) rfl rfl rfl ?_
  intro pp ee ss mm aa bb me cd ad E
  refine r_aload_n E (dat dkX5_step 0 rfl) rfl rfl ?_
  refine q_geta E fl_X5_24 (dat dkX5_step 1 rfl) rfl rfl rfl ?_
  refine r_iload_n E (dat dkX5_step 2 rfl) rfl rfl ?_
  refine r_aload_n E (dat dkX5_step 3 rfl) rfl rfl ?_
  refine r_aload_n E (dat dkX5_step 4 rfl) rfl rfl ?_
  refine q_geta E fl_X5_24 (dat dkX5_step 5 rfl) rfl rfl rfl ?_
  refine r_iload_n E (dat dkX5_step 6 rfl) rfl rfl ?_
  refine q_iald E (dat dkX5_step 7 rfl) rfl rfl (by decide) (gg2_0 gaS_5) rfl (by omega) ?_
  rw [hq]
  refine r_iload_n E (dat dkX5_step 8 rfl) rfl rfl ?_
  refine r_callV (κ := 2) (μ := [1]) E (sp_X2_cellBeside l G B1 ro co n bc fr he gu be nm nl bh fp n0 n1 n2 n3 q d _ rfl hqn hn hd) my_X2_cellBeside iv_X2_cellBeside ml_X5_139 (cm_of rfl) ⟨by decide, rfl, rfl⟩ rfl rfl rfl rfl (by decide) (Nat.le_of_ble_eq_true rfl) (dat dkX5_step 9 rfl) ?_
  rintro _ _ ⟨rfl, rfl⟩
  refine ⟨_, Mrg_z rfl, ?_⟩
  rw [hbo]
  refine q_iast E (dat dkX5_step 10 rfl) rfl rfl (by decide) (gg2_0 gaS_5) (fun _ => sa2_0 paS_5) rfl (by omega) ?_
  refine r_aload_n E (dat dkX5_step 11 rfl) rfl rfl ?_
  refine r_aload_n E (dat dkX5_step 12 rfl) rfl rfl ?_
  refine r_iload_n E (dat dkX5_step 13 rfl) rfl rfl ?_
  refine r_callV (κ := 1) (μ := [0, 1]) E (sp_X5_wetIfTooDeep l G B0 mi ra rd fh dr ev dp sw w lv hr ht (upd pl b (nI o)) sp wt B1 ro co n bc fr he gu be nm nl bh fp n0 n1 n2 n3 b o _ rfl rfl hb pk_us ho) my_X5_wetIfTooDeep iv_X5_wetIfTooDeep ml_X5_98 (cm_of rfl) ⟨by decide, rfl, rfl⟩ rfl rfl rfl rfl (by decide) (Nat.le_of_ble_eq_true rfl) (dat dkX5_step 14 rfl) ?_
  rintro _ _ ⟨rfl, rfl⟩
  refine ⟨_, Mrg_e (by decide) (by decide) pm2_0 rfl, ?_⟩
  refine r_vreturn E (dat dkX5_step 15 rfl) (by decide) (by decide) ?_
  exact ⟨rfl, by rw [pm2_0]⟩

set_option maxRecDepth 100000 in
set_option maxHeartbeats 4000000 in
theorem sp_X5_canThrow (l : Launch) (G : GT) (B0 : Nat → Nat → Int32) (mi ra rd fh dr ev dp sw : Int32) (w lv hr ht pl sp wt : Nat → Int32) (b q : Nat) (M : Mem) (hA0 : M 0 = (vS B0 mi ra rd fh dr ev dp sw w lv hr ht pl sp wt)) (hb : b < 4) (hq : pl b = nI q) (hq6 : q < 64) : MC l G yX5_canThrow cX5_canThrow 2 (some .boolean) ({ frames := 1, cells := 0, slots := 0, locals := 22 } : Room) [1] lk0 [rv 0 0, iv (nI b)] (M) (fun r M2 => r = some (iv (opI (w q))) ∧ M2 = M) := by
  obtain ⟨M0, rfl⟩ : ∃ M0, M = m1 ((vS B0 mi ra rd fh dr ev dp sw w lv hr ht pl sp wt)) M0 := ⟨M, (m1_of hA0).symm⟩
  clear hA0
  refine MC.of RX5 [some (rv 0 0), some (iv (nI b))] 0 (by decide +kernel) rfl rfl rfl ?_
  intro pp ee ss mm aa bb me cd ad E
  refine r_aload_n E (dat dkX5_canThrow 0 rfl) rfl rfl ?_
  refine r_iload_n E (dat dkX5_canThrow 1 rfl) rfl rfl ?_
  refine r_callV (κ := 1) (μ := [0]) E (sp_X5_waterUnder l G B0 mi ra rd fh dr ev dp sw w lv hr ht pl sp wt b q _ rfl hb hq hq6) my_X5_waterUnder iv_X5_waterUnder ml_X5_129 (cm_of rfl) ⟨by decide, rfl, rfl⟩ rfl rfl rfl rfl (by decide) (Nat.le_of_ble_eq_true rfl) (dat dkX5_canThrow 2 rfl) ?_
  rintro _ _ ⟨rfl, rfl⟩
  refine ⟨_, Mrg_z rfl, ?_⟩
  refine r_if_le (tgt := 12) E (dat dkX5_canThrow 3 rfl) rfl (fun h5 => ?_) (fun h5 => ?_)
  ·
    refine r_iconst (v := 0) E (dat dkX5_canThrow 6 rfl) rfl ?_
    refine r_zreturn E (dat dkX5_canThrow 7 rfl) rfl (by decide) (by decide) ?_
    refine ⟨?_, rfl⟩
    simp only [opI, h5, if_true, if_false]
  ·
    refine r_iconst (v := 1) E (dat dkX5_canThrow 4 rfl) rfl ?_
    refine r_goto (tgt := 13) E (dat dkX5_canThrow 5 rfl) rfl ?_
    refine r_zreturn E (dat dkX5_canThrow 7 rfl) rfl (by decide) (by decide) ?_
    refine ⟨?_, rfl⟩
    simp only [opI, h5, if_true, if_false]

set_option maxRecDepth 100000 in
set_option maxHeartbeats 4000000 in
theorem sp_X5_canPass (l : Launch) (G : GT) (B0 : Nat → Nat → Int32) (mi ra rd fh dr ev dp sw : Int32) (w lv hr ht pl sp wt : Nat → Int32) (x : Int32) (M : Mem) (hA0 : M 0 = (vS B0 mi ra rd fh dr ev dp sw w lv hr ht pl sp wt))  : MC l G yX5_canPass cX5_canPass 2 (some .boolean) ({ frames := 0, cells := 0, slots := 0, locals := 0 } : Room) [1] lk0 [rv 0 0, iv x] (M) (fun r M2 => r = some (iv (if 999 < mi + x then 0 else 1)) ∧ M2 = M) := by
  obtain ⟨M0, rfl⟩ : ∃ M0, M = m1 ((vS B0 mi ra rd fh dr ev dp sw w lv hr ht pl sp wt)) M0 := ⟨M, (m1_of hA0).symm⟩
  clear hA0
  refine MC.of RX5 [some (rv 0 0), some (iv x)] 0 (by decide +kernel) rfl rfl rfl ?_
  intro pp ee ss mm aa bb me cd ad E
  refine r_aload_n E (dat dkX5_canPass 0 rfl) rfl rfl ?_
  refine q_getn E fl_X5_34 (dat dkX5_canPass 1 rfl) rfl rfl rfl (go1_0 gfS_7) ?_
  refine r_iload_n E (dat dkX5_canPass 2 rfl) rfl rfl ?_
  refine r_iadd E (dat dkX5_canPass 3 rfl) ?_
  refine r_sipush (v := 999) E (dat dkX5_canPass 4 rfl) rfl ?_
  refine r_icmp_gt (tgt := 16) E (dat dkX5_canPass 5 rfl) rfl (fun h9 => ?_) (fun h9 => ?_)
  ·
    refine r_iconst (v := 0) E (dat dkX5_canPass 8 rfl) rfl ?_
    refine r_zreturn E (dat dkX5_canPass 9 rfl) rfl (by decide) (by decide) ?_
    refine ⟨?_, rfl⟩
    simp only [h9, if_true, if_false]
  ·
    refine r_iconst (v := 1) E (dat dkX5_canPass 6 rfl) rfl ?_
    refine r_goto (tgt := 17) E (dat dkX5_canPass 7 rfl) rfl ?_
    refine r_zreturn E (dat dkX5_canPass 9 rfl) rfl (by decide) (by decide) ?_
    refine ⟨?_, rfl⟩
    simp only [h9, if_true, if_false]
