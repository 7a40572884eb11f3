theorem in_L : Cond.initialized "PuddleCityLaw" ∈ BIG := bg_1 0 (by decide +kernel)
theorem nI_nz {a : Nat} (h : 0 < a) (h2 : a < 2 ^ 31) : ¬ nI a = 0 := fun q => by
  have := (nI_eq (b := 0) h2 (by decide)).mp q
  omega
theorem LS_L {x : PP} {B T : Nat → Nat → Int32} {L L2 : Int} (h : LSt x B T L) (hL : L ≤ L2) : LSt x B T L2 := ⟨⟨h.1.1, h.1.2.1, h.1.2.2.1, Int.le_trans h.1.2.2.2 hL⟩, h.2⟩
theorem ht_ne {a : Int32} (h : 0 ≤ a.toInt ∧ a.toInt ≤ 9) : ¬ a = 100000 := fun q => by
  rw [q] at h
  have : (100000 : Int32).toInt = 100000 := rfl
  omega
theorem cl_K {x : PP} {r c : Nat} (h : inC x r c) : (nI r - 1) * nI x.1.2.1 + nI c - 1 = nI (clC x r c) := by
  obtain ⟨⟨h1, _⟩, h2, _⟩ := h
  obtain ⟨a, rfl⟩ : ∃ a, r = a + 1 := ⟨r - 1, by omega⟩
  obtain ⟨b, rfl⟩ : ∃ b, c = b + 1 := ⟨c - 1, by omega⟩
  exact cl_I
theorem gK19 {M : Mem} {A Z : Nat → Nat → Int32} {o h t k : Nat} {v : Int32} (h9 : A t k = v) : setm (kpM (setm M 19 A) o h) 3 Z 19 t k = v := by rw [kp_o (by decide) (by decide) (by decide), setm_s]; exact h9
theorem PL_s5 {x : PP} {T : Nat → Nat → Int32} {b k : Nat} (h : PLi x T) (hk : k < x.1.2.2) : PLi x (sc T 5 b (nI k)) := fun b2 hb2 => by
  by_cases hb : b2 = b
  · subst hb; exact ⟨k, hk, upd_at⟩
  · obtain ⟨q, hq, e⟩ := h b2 hb2
    exact ⟨q, hq, (upd_ne hb).trans e⟩
set_option maxRecDepth 100000 in
set_option maxHeartbeats 16000000 in
theorem sp_L_acts (l : Launch) (hst : l.stackTraces = false) (G : GT) (be nm : Nat → Int32) (BP : Nat → Nat → Int32) (x : PP) (q : Nat) (B T : Nat → Nat → Int32) (L9 : Int) (o h : Nat) (v9 : Int32) (M : Mem) (hV : LIV x be nm BP q M B T L9 o h) (hw : LWi x) (hh : HTi x) (hg : GUi x) (hL9 : L9 < 2000000000) (hm : (T 0 7).toInt + 4 ≤ 200) : MC l G yL_acts cL_acts 12 (some .boolean) ({ frames := 9, cells := 16, slots := 96, locals := 160 } : Room) KL lkC [rv 19 0, rv 0 0, iv v9] M (fun r M2 => r = some (iv 1) ∧ ∃ B2 T2 o2 h2, LIV x be nm BP q M2 B2 T2 (L9 + 9) o2 h2 ∧ (T2 0 7).toInt ≤ (T 0 7).toInt + 4) := by
  refine MC.of RL [some (rv 19 0), some (rv 0 0), some (iv v9), none, none, none, none, none, none, none, none, none] 9 (by decide +kernel) rfl rfl rfl ?_
  intro pp ee ss mm aa bb me cd ad E
  have hV9 : LIV x be nm BP q M B T (L9 + 9) o h := ⟨hV.1, hV.2.1, hV.2.2.1, hV.2.2.2.1, hV.2.2.2.2.1, LS_L hV.2.2.2.2.2.1 (by omega), hV.2.2.2.2.2.2⟩
  obtain ⟨hC, h10, h3, h19, hB, hS, ⟨ho1, hh1⟩, ho8, hh8⟩ := id hV
  have hpl := hS.2.2.1
  have hwt := hS.2.2.2.1
  have hx := hC.2.2.2.1
  have h64 := ce_64 hx
  have h25 := LW_25 hx hw
  have hro := hw.1
  have hco := hw.2.1
  have hbo := hw.2.2
  have hm0 := hS.1.2.1.1
  have h3X : ∀ {A : Nat → Nat → Int32}, vw [] (setm M 19 A) 3 = T := fun {A} => h3
  have hCX : ∀ {A : Nat → Nat → Int32}, CI x be nm BP q (vw [] (setm M 19 A)) := fun {A} => CI_19 hC
  have ho1X : ∀ {A : Nat → Nat → Int32}, vw [] (setm M 19 A) 6 0 1 = nI o := fun {A} => ho1
  have hh1X : ∀ {A : Nat → Nat → Int32}, vw [] (setm M 19 A) 6 0 2 = nI h := fun {A} => hh1
  refine r_mem (M' := setm M 19 (LE B x T)) (by rw [← h19, setm_self]) ?_
  refine r_iconst (v := 1) E (dat dkL_acts_k0 0 rfl) rfl ?_
  refine r_iload_n E (dat dkL_acts_k0 1 rfl) rfl rfl ?_
  refine r_iconst (v := 4) E (dat dkL_acts_k0 2 rfl) rfl ?_
  refine r_iconst (v := 4) E (dat dkL_acts_k0 3 rfl) rfl ?_
  refine r_callS (μ := []) E (sp_L_bits l G v9 4 4 _ (by decide)) my_L_bits is_L_bits ml_L_143 cm_nil rfl rfl (by decide) (Nat.le_of_ble_eq_true rfl) (dat dkL_acts_k0 4 rfl) ?_
  rintro _ _ ⟨⟨q4, hq4, rfl⟩, rfl⟩
  refine ⟨_, Mrg_z rfl, ?_⟩
  replace hq4 : q4 < 16 := hq4
  
  refine r_aload_n E (dat dkL_acts_k0 5 rfl) rfl rfl ?_
  refine q_getn E fl_L_95 (dat dkL_acts_k0 6 rfl) rfl rfl rfl (gS19 LE_v12) ?_
  refine r_irem E (dat dkL_acts_k0 7 rfl) (nI_nz (by omega) (by omega)) ?_
  refine r_iadd E (dat dkL_acts_k0 8 rfl) ?_
  rw [nI_md (a := q4) (b := x.1.1) (by omega) (by omega) (by omega), one_nI]
  have hr0 : q4 % x.1.1 < x.1.1 := Nat.mod_lt _ (by omega)
  generalize q4 % x.1.1 = r0 at hr0 ⊢
  refine r_istore_3 E (dat dkL_acts_k0 9 rfl) rfl rfl ?_
  refine r_iconst (v := 1) E (dat dkL_acts_k0 10 rfl) rfl ?_
  refine r_iload_n E (dat dkL_acts_k0 11 rfl) rfl rfl ?_
  refine r_bipush (v := 8) E (dat dkL_acts_k0 12 rfl) rfl ?_
  refine r_iconst (v := 4) E (dat dkL_acts_k0 13 rfl) rfl ?_
  refine r_callS (μ := []) E (sp_L_bits l G v9 8 4 _ (by decide)) my_L_bits is_L_bits ml_L_143 cm_nil rfl rfl (by decide) (Nat.le_of_ble_eq_true rfl) (dat dkL_acts_k0 14 rfl) ?_
  rintro _ _ ⟨⟨q19, hq19, rfl⟩, rfl⟩
  refine ⟨_, Mrg_z rfl, ?_⟩
  replace hq19 : q19 < 16 := hq19
  
  refine r_aload_n E (dat dkL_acts_k0 15 rfl) rfl rfl ?_
  refine q_getn E fl_L_98 (dat dkL_acts_k0 16 rfl) rfl rfl rfl (gS19 LE_v13) ?_
  refine r_irem E (dat dkL_acts_k0 17 rfl) (nI_nz (by omega) (by omega)) ?_
  refine r_iadd E (dat dkL_acts_k0 18 rfl) ?_
  rw [nI_md (a := q19) (b := x.1.2.1) (by omega) (by omega) (by omega), one_nI]
  have hc0 : q19 % x.1.2.1 < x.1.2.1 := Nat.mod_lt _ (by omega)
  generalize q19 % x.1.2.1 = c0 at hc0 ⊢
  refine r_istore_4 E (dat dkL_acts_k0 19 rfl) rfl rfl ?_
  refine r_iload_n E (dat dkL_acts_k0 20 rfl) rfl rfl ?_
  refine r_iconst (v := 1) E (dat dkL_acts_k0 21 rfl) rfl ?_
  refine r_isub E (dat dkL_acts_k0 22 rfl) ?_
  refine r_aload_n E (dat dkL_acts_k0 23 rfl) rfl rfl ?_
  refine q_getn E fl_L_98 (dat dkL_acts_k0 24 rfl) rfl rfl rfl (gS19 LE_v13) ?_
  refine r_imul E (dat dkL_acts_k0 25 rfl) ?_
  refine r_iload E (dat dkL_acts_k0 26 rfl) rfl ?_
  refine r_iadd E (dat dkL_acts_k0 27 rfl) ?_
  refine r_iconst (v := 1) E (dat dkL_acts_k0 28 rfl) rfl ?_
  refine r_isub E (dat dkL_acts_k0 29 rfl) ?_
  rw [cl_I]
  have hin : inC x (r0 + 1) (c0 + 1) := ⟨⟨by omega, by omega⟩, by omega, by omega⟩
  have hcl : clC x (r0 + 1) (c0 + 1) = r0 * x.1.2.1 + c0 := rfl
  have hkn : r0 * x.1.2.1 + c0 < x.1.2.2 := clC_lt hx.2.2.1 hin
  have hr7 : r0 + 1 < 7 := by omega
  have hc7 : c0 + 1 < 7 := by omega
  refine r_istore_5 E (dat dkL_acts_k0 30 rfl) rfl rfl ?_
  refine r_cutX (β := Int32) (fun b9 => (x.2.2.2.2.1 = 0 ∧ b9 = -1) ∨ ∃ b0 : Nat, b0 < x.2.2.2.2.1 ∧ b9 = nI b0) (M2 := setm M 19 (LE B x T)) (k2 := 0) (n2 := 0) (pc2 := 70) (S2 := []) (L2 := fun b9 => [some (rv 19 0), some (rv 0 0), some (iv v9), some (iv (nI (r0 + 1))), some (iv (nI (c0 + 1))), some (iv (nI (r0 * x.1.2.1 + c0))), some (iv b9), none, none, none, none, none]) (fun hJ => ?_) ?_
  ·
    refine r_aload_n E (dat dkL_acts_k0 31 rfl) rfl rfl ?_
    refine q_getn E fl_L_116 (dat dkL_acts_k0 32 rfl) rfl rfl rfl (gS19 LE_v14) ?_
    refine r_if_ne (tgt := 56) E (dat dkL_acts_k0 33 rfl) rfl (fun h49 => ?_) (fun h49 => ?_)
    ·
      refine r_iload_n E (dat dkL_acts_k0 36 rfl) rfl rfl ?_
      refine r_bipush (v := 12) E (dat dkL_acts_k0 37 rfl) rfl ?_
      refine r_iconst (v := 4) E (dat dkL_acts_k0 38 rfl) rfl ?_
      refine r_callS (μ := []) E (sp_L_bits l G v9 12 4 _ (by decide)) my_L_bits is_L_bits ml_L_143 cm_nil rfl rfl (by decide) (Nat.le_of_ble_eq_true rfl) (dat dkL_acts_k0 39 rfl) ?_
      rintro _ _ ⟨⟨q60, hq60, rfl⟩, rfl⟩
      refine ⟨_, Mrg_z rfl, ?_⟩
      replace hq60 : q60 < 16 := hq60
      
      refine r_aload_n E (dat dkL_acts_k0 40 rfl) rfl rfl ?_
      refine q_getn E fl_L_116 (dat dkL_acts_k0 41 rfl) rfl rfl rfl (gS19 LE_v14) ?_
      refine r_irem E (dat dkL_acts_k0 42 rfl) h49 ?_
      have hbp : 0 < x.2.2.2.2.1 := Nat.pos_of_ne_zero fun q9 => h49 (by rw [q9]; decide)
      rw [nI_md (a := q60) (b := x.2.2.2.2.1) (by omega) hbp (by omega)]
      have hfin : (x.2.2.2.2.1 = 0 ∧ nI (q60 % x.2.2.2.2.1) = -1) ∨ ∃ b0 : Nat, b0 < x.2.2.2.2.1 ∧ nI (q60 % x.2.2.2.2.1) = nI b0 := Or.inr ⟨_, Nat.mod_lt _ hbp, rfl⟩
      refine r_istore_6 E (dat dkL_acts_k0 43 rfl) rfl rfl ?_
      exact hJ _ hfin
    ·
      have hfin : (x.2.2.2.2.1 = 0 ∧ (-1 : Int32) = -1) ∨ ∃ b0 : Nat, b0 < x.2.2.2.2.1 ∧ (-1 : Int32) = nI b0 := Or.inl ⟨(nI_eq (b := 0) (by omega) (by decide)).mp h49, rfl⟩
      refine r_iconst (v := -1) E (dat dkL_acts_k0 34 rfl) rfl ?_
      refine r_goto (tgt := 68) E (dat dkL_acts_k0 35 rfl) rfl ?_
      
      refine r_istore_6 E (dat dkL_acts_k0 43 rfl) rfl rfl ?_
      exact hJ _ hfin
  intro b9 hb9
  refine r_iload_n E (dat dkL_acts_k0 44 rfl) rfl rfl ?_
  refine r_iconst (v := 0) E (dat dkL_acts_k0 45 rfl) rfl ?_
  refine r_iconst (v := 4) E (dat dkL_acts_k0 46 rfl) rfl ?_
  refine r_callS (μ := []) E (sp_L_bits l G v9 0 4 _ (by decide)) my_L_bits is_L_bits ml_L_143 cm_nil rfl rfl (by decide) (Nat.le_of_ble_eq_true rfl) (dat dkL_acts_k0 47 rfl) ?_
  rintro _ _ ⟨⟨q73, hq73, rfl⟩, rfl⟩
  refine ⟨_, Mrg_z rfl, ?_⟩
  replace hq73 : q73 < 16 := hq73
  
  refine r_cut (M2 := setm M 19 (LE B x T)) (pc2 := 152) (S2 := []) (L2 := [some (rv 19 0), some (rv 0 0), some (iv v9), some (iv (nI (r0 + 1))), some (iv (nI (c0 + 1))), some (iv (nI (r0 * x.1.2.1 + c0))), some (iv b9), none, none, none, none, none]) (fun j152 => ?_) ?_
  rotate_left
  ·
    refine r_iconst (v := 1) E (dat dkL_acts_k0 49 rfl) rfl ?_
    refine r_iload_n E (dat dkL_acts_k1 0 rfl) rfl rfl ?_
    refine r_iconst (v := 4) E (dat dkL_acts_k1 1 rfl) rfl ?_
    refine r_iconst (v := 2) E (dat dkL_acts_k1 2 rfl) rfl ?_
    refine r_callS (μ := []) E (sp_L_bits l G v9 4 2 _ (by decide)) my_L_bits is_L_bits ml_L_143 cm_nil rfl rfl (by decide) (Nat.le_of_ble_eq_true rfl) (dat dkL_acts_k1 3 rfl) ?_
    rintro _ _ ⟨⟨q156, hq156, rfl⟩, rfl⟩
    refine ⟨_, Mrg_z rfl, ?_⟩
    replace hq156 : q156 < 4 := hq156
    
    refine r_iadd E (dat dkL_acts_k1 4 rfl) ?_
    rw [one_nI]
    refine r_istore_7 E (dat dkL_acts_k1 5 rfl) rfl rfl ?_
    refine r_aload_n E (dat dkL_acts_k1 6 rfl) rfl rfl ?_
    refine r_iload E (dat dkL_acts_k1 7 rfl) rfl ?_
    refine r_callV (κ := 9) (μ := [19]) E (sp_L_passes l G B x T (q156 + 1) _ rfl hx hw hB hh hg L9 (by omega) (fun i hi => by
        have h1 := LS_n hx hw (by omega) hS i (by omega)
        have h2 := mn_7 (x := x) (T := T) i (by omega) (by omega)
        exact ⟨h1.1, h1.2.1, by omega, h1.2.2.1, h1.2.2.2.1, h1.2.2.2.2.1⟩) (by omega)) my_L_passes iv_L_passes ml_L_146 (cm_of rfl) ⟨by decide, rfl, rfl⟩ rfl rfl rfl rfl (by decide) (Nat.le_of_ble_eq_true rfl) (dat dkL_acts_k1 8 rfl) ?_
    rintro _ _ ⟨rfl, rfl⟩
    refine ⟨_, Mrg_e (i := 0) (by decide) (by decide) setm_ss rfl, ?_⟩
    refine r_istore_8 E (dat dkL_acts_k1 9 rfl) rfl rfl ?_
    refine r_aload_n E (dat dkL_acts_k1 10 rfl) rfl rfl ?_
    refine r_iload E (dat dkL_acts_k1 11 rfl) rfl ?_
    refine r_callV (κ := 8) (μ := []) E (kd_passMinutes l hst G h3X hCX ho1X hh1X ho8 hh8 hwt (q156 + 1) (by omega) (by omega) (by omega) (by omega) hpl) my_X9_passMinutes iv_X9_passMinutes ml_L_149 cm_KL ⟨by decide, rfl, rfl⟩ rfl rfl rfl rfl (by decide) (Nat.le_of_ble_eq_true rfl) (dat dkL_acts_k1 12 rfl) ?_
    rintro _ _ ⟨rfl, rfl⟩
    refine ⟨_, MrgKp, ?_⟩
    refine r_iload E (dat dkL_acts_k1 13 rfl) rfl ?_
    refine r_icmp_ne (tgt := 185) E (dat dkL_acts_k1 14 rfl) rfl (fun h178 => ?_) (fun h178 => ?_)
    ·
      exact absurd rfl h178
    ·
      refine r_iconst (v := 1) E (dat dkL_acts_k1 15 rfl) rfl ?_
      refine r_goto (tgt := 186) E (dat dkL_acts_k1 16 rfl) rfl ?_
      refine r_zreturn E (dat dkL_acts_k1 18 rfl) rfl (by decide) (by decide) ?_
      have h7 := mn_7 (x := x) (T := T) (q156 + 1) (by omega) (by omega)
      obtain ⟨o2, h2, hV2⟩ := LIV_kp hV rfl hB (LS_L (L2 := L9 + 9) (LS_n (L := L9) hx hw (by omega) hS (q156 + 1) (by omega)) (by omega))
      exact ⟨rfl, _, _, o2, h2, hV2, by omega⟩
  refine r_cut (M2 := setm M 19 (LE B x T)) (pc2 := 187) (S2 := []) (L2 := [some (rv 19 0), some (rv 0 0), some (iv v9), some (iv (nI (r0 + 1))), some (iv (nI (c0 + 1))), some (iv (nI (r0 * x.1.2.1 + c0))), some (iv b9), none, none, none, none, none]) (fun j187 => ?_) ?_
  rotate_left
  ·
    refine r_aload_n E (dat dkL_acts_k1 19 rfl) rfl rfl ?_
    refine q_getn E fl_L_101 (dat dkL_acts_k1 20 rfl) rfl rfl rfl (gS19 LE_v15) ?_
    refine r_istore_7 E (dat dkL_acts_k1 21 rfl) rfl rfl ?_
    refine r_aload_n E (dat dkL_acts_k1 22 rfl) rfl rfl ?_
    refine r_iload_n E (dat dkL_acts_k1 23 rfl) rfl rfl ?_
    refine r_iconst (v := 4) E (dat dkL_acts_k1 24 rfl) rfl ?_
    refine r_iconst (v := 2) E (dat dkL_acts_k1 25 rfl) rfl ?_
    refine r_callS (μ := []) E (sp_L_bits l G v9 4 2 _ (by decide)) my_L_bits is_L_bits ml_L_143 cm_nil rfl rfl (by decide) (Nat.le_of_ble_eq_true rfl) (dat dkL_acts_k1 26 rfl) ?_
    rintro _ _ ⟨⟨q197, hq197, rfl⟩, rfl⟩
    refine ⟨_, Mrg_z rfl, ?_⟩
    replace hq197 : q197 < 4 := hq197
    
    refine r_iconst (v := 3) E (dat dkL_acts_k1 27 rfl) rfl ?_
    refine r_irem E (dat dkL_acts_k1 28 rfl) (by decide) ?_
    rw [md3 (by omega)]
    have hq3 : q197 % 3 < 3 := Nat.mod_lt _ (by decide)
    generalize q197 % 3 = a9 at hq3 ⊢
    refine q_putn E ft_L_101 (dat dkL_acts_k1 29 rfl) rfl rfl rfl (sS19 LE_f15) ?_
    refine r_aload_n E (dat dkL_acts_k1 30 rfl) rfl rfl ?_
    refine r_aload_n E (dat dkL_acts_k1 31 rfl) rfl rfl ?_
    refine q_getn E fl_L_101 (dat dkL_acts_k1 32 rfl) rfl rfl rfl (gS19 (LE_v15.trans rfl)) ?_
    refine r_callV (κ := 8) (μ := []) E (kd_setRain l hst G h3X hCX ho1X hh1X ho8 hh8 hwt (nI a9) (nI_pos0 a9 (by omega)) ((nI_leI (b := 9) (by omega) (by decide)).mpr (by omega))) my_X9_setRain iv_X9_setRain ml_L_152 cm_KL ⟨by decide, rfl, rfl⟩ rfl rfl rfl rfl (by decide) (Nat.le_of_ble_eq_true rfl) (dat dkL_acts_k1 33 rfl) ?_
    rintro _ _ ⟨rfl, rfl⟩
    refine ⟨_, MrgKp, ?_⟩
    refine r_iload E (dat dkL_acts_k1 34 rfl) rfl ?_
    refine r_icmp_ne (tgt := 222) E (dat dkL_acts_k1 35 rfl) rfl (fun h215 => ?_) (fun h215 => ?_)
    ·
      exact absurd rfl h215
    ·
      refine r_iconst (v := 1) E (dat dkL_acts_k1 36 rfl) rfl ?_
      refine r_goto (tgt := 223) E (dat dkL_acts_k1 37 rfl) rfl ?_
      refine r_zreturn E (dat dkL_acts_k1 39 rfl) rfl (by decide) (by decide) ?_
      obtain ⟨o2, h2, hV2⟩ := LIV_kp hV (LE_ra) (hB) (LS_L (L2 := L9 + 9) (LS_ra hS (by omega)) (by omega))
      exact ⟨rfl, _, _, o2, h2, hV2, by show (T 0 7).toInt ≤ (T 0 7).toInt + 4; omega⟩
  refine r_cut (M2 := setm M 19 (LE B x T)) (pc2 := 224) (S2 := []) (L2 := [some (rv 19 0), some (rv 0 0), some (iv v9), some (iv (nI (r0 + 1))), some (iv (nI (c0 + 1))), some (iv (nI (r0 * x.1.2.1 + c0))), some (iv b9), none, none, none, none, none]) (fun j224 => ?_) ?_
  rotate_left
  ·
    refine r_aload_n E (dat dkL_acts_k1 40 rfl) rfl rfl ?_
    refine q_geta E fl_L_26 (dat dkL_acts_k1 41 rfl) rfl rfl rfl ?_
    refine r_iload_n E (dat dkL_acts_k1 42 rfl) rfl rfl ?_
    refine q_laa (a := 5) E (dat dkL_acts_k1 43 rfl) rfl rfl rfl (by decide) rfl (by omega) ?_
    refine r_iload E (dat dkL_acts_k1 44 rfl) rfl ?_
    refine q_ialv E (dat dkL_acts_k1 45 rfl) (lae (by decide) (by omega)) (lok (Nat.le_of_ble_eq_true rfl) rfl (by decide) (by omega)) (by decide) rfl hc7 (gS19 (LE_mk (by omega) hin hcl)) ?_
    refine r_if_le (tgt := 245) E (dat dkL_acts_k1 46 rfl) rfl (fun h233 => ?_) (fun h233 => ?_)
    ·
      have h40 : T 4 (r0 * x.1.2.1 + c0) = 0 := Int32.toInt_inj.mp (by have h5 := i_le.mp h233; have h6 := (hS.1.1.2.2.1 _ hkn).1; rw [i_0] at h5 ⊢; omega)
      refine r_aload_n E (dat dkL_acts_k2 3 rfl) rfl rfl ?_
      refine q_geta E fl_L_23 (dat dkL_acts_k2 4 rfl) rfl rfl rfl ?_
      refine r_iload_n E (dat dkL_acts_k2 5 rfl) rfl rfl ?_
      refine q_laa (a := 4) E (dat dkL_acts_k2 6 rfl) rfl rfl rfl (by decide) rfl (by omega) ?_
      refine r_iload E (dat dkL_acts_k2 7 rfl) rfl ?_
      refine r_iconst (v := 1) E (dat dkL_acts_k2 8 rfl) rfl ?_
      refine r_iload_n E (dat dkL_acts_k2 9 rfl) rfl rfl ?_
      refine r_bipush (v := 12) E (dat dkL_acts_k2 10 rfl) rfl ?_
      refine r_iconst (v := 4) E (dat dkL_acts_k2 11 rfl) rfl ?_
      refine r_callS (μ := []) E (sp_L_bits l G v9 12 4 _ (by decide)) my_L_bits is_L_bits ml_L_143 cm_nil rfl rfl (by decide) (Nat.le_of_ble_eq_true rfl) (dat dkL_acts_k2 12 rfl) ?_
      rintro _ _ ⟨⟨q258, hq258, rfl⟩, rfl⟩
      refine ⟨_, Mrg_z rfl, ?_⟩
      replace hq258 : q258 < 16 := hq258
      
      refine r_iadd E (dat dkL_acts_k2 13 rfl) ?_
      rw [one_nI]
      refine q_iasv E (dat dkL_acts_k2 14 rfl) (lae (by decide) (by omega)) (lok (Nat.le_of_ble_eq_true rfl) rfl (by decide) (by omega)) (by decide) rfl hc7 (sS19 (LE_B4 hr7)) ?_
      refine r_aload_n E (dat dkL_acts_k2 15 rfl) rfl rfl ?_
      refine q_geta E fl_L_26 (dat dkL_acts_k2 16 rfl) rfl rfl rfl ?_
      refine r_iload_n E (dat dkL_acts_k2 17 rfl) rfl rfl ?_
      refine q_laa (a := 5) E (dat dkL_acts_k2 18 rfl) rfl rfl rfl (by decide) rfl (by omega) ?_
      refine r_iload E (dat dkL_acts_k2 19 rfl) rfl ?_
      refine r_iconst (v := 1) E (dat dkL_acts_k2 20 rfl) rfl ?_
      refine r_iload_n E (dat dkL_acts_k2 21 rfl) rfl rfl ?_
      refine r_bipush (v := 16) E (dat dkL_acts_k2 22 rfl) rfl ?_
      refine r_iconst (v := 2) E (dat dkL_acts_k2 23 rfl) rfl ?_
      refine r_callS (μ := []) E (sp_L_bits l G v9 16 2 _ (by decide)) my_L_bits is_L_bits ml_L_143 cm_nil rfl rfl (by decide) (Nat.le_of_ble_eq_true rfl) (dat dkL_acts_k2 24 rfl) ?_
      rintro _ _ ⟨⟨q276, hq276, rfl⟩, rfl⟩
      refine ⟨_, Mrg_z rfl, ?_⟩
      replace hq276 : q276 < 4 := hq276
      
      refine r_iadd E (dat dkL_acts_k2 25 rfl) ?_
      rw [one_nI]
      refine q_iasv E (dat dkL_acts_k2 26 rfl) (lae (by decide) (by omega)) (lok (Nat.le_of_ble_eq_true rfl) rfl (by decide) (by omega)) (by decide) rfl hc7 (sS19 (LE_smk (by omega) hin hcl)) ?_
      have hU4 : sc T 4 (r0 * x.1.2.1 + c0) (nI (q276 + 1)) 4 (r0 * x.1.2.1 + c0) = nI (q276 + 1) := upd_at
      have hUc : sc T 4 (r0 * x.1.2.1 + c0) (nI (q276 + 1)) 4 = opT T (r0 * x.1.2.1 + c0) (nI (q258 + 1)) (nI (q276 + 1)) 4 := rfl
      have hUo : LE (B4 B (r0 + 1) (c0 + 1) (nI (q258 + 1))) x (sc T 4 (r0 * x.1.2.1 + c0) (nI (q276 + 1))) = LE (B4 B (r0 + 1) (c0 + 1) (nI (q258 + 1))) x (opT T (r0 * x.1.2.1 + c0) (nI (q258 + 1)) (nI (q276 + 1))) := LE_op
      have hBr : B4 B (r0 + 1) (c0 + 1) (nI (q258 + 1)) (20 + 7 * 4 + (r0 + 1)) (c0 + 1) = nI (q258 + 1) := B4_at
      have hB2 : WLi (B4 B (r0 + 1) (c0 + 1) (nI (q258 + 1))) x := B4_W hB
      have hS2 := LS_op (B := B) (a := q258 + 1) (b := q276 + 1) hS hin hcl (by omega) (by omega) (by omega) (by omega)
      generalize sc T 4 (r0 * x.1.2.1 + c0) (nI (q276 + 1)) = U at hU4 hUc hUo ⊢
      generalize B4 B (r0 + 1) (c0 + 1) (nI (q258 + 1)) = B2 at hBr hB2 hS2 hUo ⊢
      refine r_iconst (v := 0) E (dat dkL_acts_k2 27 rfl) rfl ?_
      refine r_istore_7 E (dat dkL_acts_k2 28 rfl) rfl rfl ?_
      refine r_iconst (v := 1) E (dat dkL_acts_k2 29 rfl) rfl ?_
      refine r_istore_8 E (dat dkL_acts_k2 30 rfl) rfl rfl ?_
      refine r_for (x.1.1) (fun _ => True) (fun r => setm M 19 (LE B2 x U)) (fun r => [some (rv 19 0), some (rv 0 0), some (iv v9), some (iv (nI (r0 + 1))), some (iv (nI (c0 + 1))), some (iv (nI (r0 * x.1.2.1 + c0))), some (iv b9), some (iv (sm (cO (U 4)) (r * x.1.2.1))), some (iv (nI (r + 1))), none, none, none]) trivial rfl (by rw [Nat.zero_mul]; rfl) ?_ ?_
      · intro r hr hIr kr
        refine r_iload E (dat dkL_acts_k2 31 rfl) rfl ?_
        refine r_aload_n E (dat dkL_acts_k2 32 rfl) rfl rfl ?_
        refine q_getn E fl_L_95 (dat dkL_acts_k2 33 rfl) rfl rfl rfl (gS19 LE_v12) ?_
        refine q_icmp_gt (tgt := 336) E (dat dkL_acts_k2 34 rfl) rfl rfl rfl (by omega) (by omega) (fun h293 => ?_) (fun h293 => ?_)
        ·
          omega
        ·
          refine r_iconst (v := 1) E (dat dkL_acts_k2 35 rfl) rfl ?_
          refine r_istore_9 E (dat dkL_acts_k2 36 rfl) rfl rfl ?_
          refine r_for (x.1.2.1) (fun _ => True) (fun c => setm M 19 (LE B2 x U)) (fun c => [some (rv 19 0), some (rv 0 0), some (iv v9), some (iv (nI (r0 + 1))), some (iv (nI (c0 + 1))), some (iv (nI (r0 * x.1.2.1 + c0))), some (iv b9), some (iv (sm (cO (U 4)) (r * x.1.2.1 + c))), some (iv (nI (r + 1))), some (iv (nI (c + 1))), none, none]) trivial rfl rfl ?_ ?_
          · intro c hc hIc kc
            have hin3 : inC x (r + 1) (c + 1) := ⟨⟨by omega, by omega⟩, by omega, by omega⟩
            have hcl3 : clC x (r + 1) (c + 1) = r * x.1.2.1 + c := rfl
            have hr73 : r + 1 < 7 := by omega
            have hc73 : c + 1 < 7 := by omega
            refine r_iload E (dat dkL_acts_k2 37 rfl) rfl ?_
            refine r_aload_n E (dat dkL_acts_k2 38 rfl) rfl rfl ?_
            refine q_getn E fl_L_98 (dat dkL_acts_k2 39 rfl) rfl rfl rfl (gS19 LE_v13) ?_
            refine q_icmp_gt (tgt := 330) E (dat dkL_acts_k2 40 rfl) rfl rfl rfl (by omega) (by omega) (fun h305 => ?_) (fun h305 => ?_)
            ·
              omega
            ·
              refine r_aload_n E (dat dkL_acts_k2 41 rfl) rfl rfl ?_
              refine q_geta E fl_L_26 (dat dkL_acts_k2 42 rfl) rfl rfl rfl ?_
              refine r_iload E (dat dkL_acts_k2 43 rfl) rfl ?_
              refine q_laa (a := 5) E (dat dkL_acts_k2 44 rfl) rfl rfl rfl (by decide) rfl hr73 ?_
              refine r_iload E (dat dkL_acts_k2 45 rfl) rfl ?_
              refine q_ialv E (dat dkL_acts_k2 46 rfl) (lae (by decide) hr73) (lok (Nat.le_of_ble_eq_true rfl) rfl (by decide) hr73) (by decide) rfl hc73 (gS19 (LE_mk hr73 hin3 hcl3)) ?_
              refine r_if_le (tgt := 324) E (dat dkL_acts_k2 47 rfl) rfl (fun h318 => ?_) (fun h318 => ?_)
              ·
                have hfin : sm (cO (U 4)) (r * x.1.2.1 + (c + 1)) = sm (cO (U 4)) (r * x.1.2.1 + c) := by
                  show sm (cO (U 4)) (r * x.1.2.1 + c) + cO (U 4) (r * x.1.2.1 + c) = _
                  rw [show cO (U 4) (r * x.1.2.1 + c) = 0 from if_pos h318, Int32.add_zero]
                refine q_iinc_9 E (dat dkL_acts_k2 49 rfl) rfl rfl ?_
                refine r_goto (tgt := 299) E (dat dkL_acts_k3 0 rfl) rfl ?_
                refine r_back ?_ ?_ (kc trivial)
                rotate_left
                · exact ⟨rfl, rfl, rfl, rfl, rfl, rfl, rfl, (by rw [hfin]), rfl, rfl, trivial⟩
                · rfl
              ·
                have hfin : sm (cO (U 4)) (r * x.1.2.1 + (c + 1)) = sm (cO (U 4)) (r * x.1.2.1 + c) + Int32.ofInt 1 := by
                  show sm (cO (U 4)) (r * x.1.2.1 + c) + cO (U 4) (r * x.1.2.1 + c) = _
                  rw [show cO (U 4) (r * x.1.2.1 + c) = 1 from if_neg h318]
                  rfl
                refine r_iinc_7 E (dat dkL_acts_k2 48 rfl) rfl rfl ?_
                refine q_iinc_9 E (dat dkL_acts_k2 49 rfl) rfl rfl ?_
                refine r_goto (tgt := 299) E (dat dkL_acts_k3 0 rfl) rfl ?_
                refine r_back ?_ ?_ (kc trivial)
                rotate_left
                · exact ⟨rfl, rfl, rfl, rfl, rfl, rfl, rfl, (by rw [hfin]), rfl, rfl, trivial⟩
                · rfl
          · intro hIc
            refine r_iload E (dat dkL_acts_k2 37 rfl) rfl ?_
            refine r_aload_n E (dat dkL_acts_k2 38 rfl) rfl rfl ?_
            refine q_getn E fl_L_98 (dat dkL_acts_k2 39 rfl) rfl rfl rfl (gS19 LE_v13) ?_
            refine q_icmp_gt (tgt := 330) E (dat dkL_acts_k2 40 rfl) rfl rfl rfl (by omega) (by omega) (fun h305 => ?_) (fun h305 => ?_)
            ·
              refine q_iinc_8 E (dat dkL_acts_k3 1 rfl) rfl rfl ?_
              refine r_goto (tgt := 287) E (dat dkL_acts_k3 2 rfl) rfl ?_
              refine r_back ?_ ?_ (kr trivial)
              rotate_left
              · exact ⟨rfl, rfl, rfl, rfl, rfl, rfl, rfl, (by rw [Nat.succ_mul]), rfl, trivial⟩
              · rfl
            ·
              omega
      · intro hIr
        refine r_iload E (dat dkL_acts_k2 31 rfl) rfl ?_
        refine r_aload_n E (dat dkL_acts_k2 32 rfl) rfl rfl ?_
        refine q_getn E fl_L_95 (dat dkL_acts_k2 33 rfl) rfl rfl rfl (gS19 LE_v12) ?_
        refine q_icmp_gt (tgt := 336) E (dat dkL_acts_k2 34 rfl) rfl rfl rfl (by omega) (by omega) (fun h293 => ?_) (fun h293 => ?_)
        ·
          rw [← hx.2.2.1, hUc]
          refine r_aload_n E (dat dkL_acts_k3 3 rfl) rfl rfl ?_
          refine r_iload E (dat dkL_acts_k3 4 rfl) rfl ?_
          refine r_aload_n E (dat dkL_acts_k3 5 rfl) rfl rfl ?_
          refine q_geta E fl_L_23 (dat dkL_acts_k3 6 rfl) rfl rfl rfl ?_
          refine r_iload_n E (dat dkL_acts_k3 7 rfl) rfl rfl ?_
          refine q_laa (a := 4) E (dat dkL_acts_k3 8 rfl) rfl rfl rfl (by decide) rfl (by omega) ?_
          refine r_iload E (dat dkL_acts_k3 9 rfl) rfl ?_
          refine q_ialv E (dat dkL_acts_k3 10 rfl) (lae (by decide) (by omega)) (lok (Nat.le_of_ble_eq_true rfl) rfl (by decide) (by omega)) (by decide) rfl hc7 (gS19 ((LE_raw (Or.inl rfl) hr7).trans hBr)) ?_
          refine r_aload_n E (dat dkL_acts_k3 11 rfl) rfl rfl ?_
          refine q_geta E fl_L_26 (dat dkL_acts_k3 12 rfl) rfl rfl rfl ?_
          refine r_iload_n E (dat dkL_acts_k3 13 rfl) rfl rfl ?_
          refine q_laa (a := 5) E (dat dkL_acts_k3 14 rfl) rfl rfl rfl (by decide) rfl (by omega) ?_
          refine r_iload E (dat dkL_acts_k3 15 rfl) rfl ?_
          refine q_ialv E (dat dkL_acts_k3 16 rfl) (lae (by decide) (by omega)) (lok (Nat.le_of_ble_eq_true rfl) rfl (by decide) (by omega)) (by decide) rfl hc7 (gS19 ((LE_mk hr7 hin hcl).trans hU4)) ?_
          refine r_callV (κ := 8) (μ := []) E (kd_burst l hst G h3X hCX ho1X hh1X ho8 hh8 hwt (r0 * x.1.2.1 + c0) (q258 + 1) (q276 + 1) hkn (by omega) (by omega) (by omega) (by omega) h40) my_X9_burst iv_X9_burst ml_L_128 cm_KL ⟨by decide, rfl, rfl⟩ rfl rfl rfl rfl (by decide) (Nat.le_of_ble_eq_true rfl) (dat dkL_acts_k3 17 rfl) ?_
          rintro _ _ ⟨rfl, rfl⟩
          refine ⟨_, MrgKp, ?_⟩
          refine r_iload E (dat dkL_acts_k3 18 rfl) rfl ?_
          refine r_icmp_ne (tgt := 369) E (dat dkL_acts_k3 19 rfl) rfl (fun h362 => ?_) (fun h362 => ?_)
          ·
            exact absurd rfl h362
          ·
            refine r_iconst (v := 1) E (dat dkL_acts_k3 20 rfl) rfl ?_
            refine r_goto (tgt := 370) E (dat dkL_acts_k3 21 rfl) rfl ?_
            refine r_zreturn E (dat dkL_acts_k3 23 rfl) rfl (by decide) (by decide) ?_
            obtain ⟨o2, h2, hV2⟩ := LIV_kp hV (hUo) (hB2) (LS_L (L2 := L9 + 9) (hS2) (by omega))
            exact ⟨rfl, _, _, o2, h2, hV2, by show (T 0 7).toInt ≤ (T 0 7).toInt + 4; omega⟩
        ·
          omega
    ·
      have h41 : 0 < T 4 (r0 * x.1.2.1 + c0) := Int32.not_le.mp h233
      refine r_aload_n E (dat dkL_acts_k1 47 rfl) rfl rfl ?_
      refine r_iconst (v := 0) E (dat dkL_acts_k1 48 rfl) rfl ?_
      refine r_iload E (dat dkL_acts_k1 49 rfl) rfl ?_
      refine r_iconst (v := 0) E (dat dkL_acts_k2 0 rfl) rfl ?_
      refine r_callSW (N := 4) (μ := []) E (sp_L_ref0 l G (nI (r0 * x.1.2.1 + c0)) (0) _ (kw_burst l hst G h3X hCX ho1X hh1X ho8 hh8 hwt (r0 * x.1.2.1 + c0) hkn h41)) in_L cw_ref ⟨by decide, by decide, by decide +kernel⟩ st_ref ml_L_155 cm_KL rfl rfl (by decide) (Nat.le_of_ble_eq_true rfl) (dat dkL_acts_k2 1 rfl) ?_
      rintro _ _ ⟨rfl, rfl⟩
      refine ⟨_, Mrg_z rfl, ?_⟩
      refine r_zreturn E (dat dkL_acts_k2 2 rfl) rfl (by decide) (by decide) ?_
      rw [← h19, setm_self]
      exact ⟨rfl, B, T, o, h, hV9, by omega⟩
  refine r_cut (M2 := setm M 19 (LE B x T)) (pc2 := 371) (S2 := []) (L2 := [some (rv 19 0), some (rv 0 0), some (iv v9), some (iv (nI (r0 + 1))), some (iv (nI (c0 + 1))), some (iv (nI (r0 * x.1.2.1 + c0))), some (iv b9), none, none, none, none, none]) (fun j371 => ?_) ?_
  rotate_left
  ·
    refine r_aload_n E (dat dkL_acts_k3 24 rfl) rfl rfl ?_
    refine q_geta E fl_L_26 (dat dkL_acts_k3 25 rfl) rfl rfl rfl ?_
    refine r_iload_n E (dat dkL_acts_k3 26 rfl) rfl rfl ?_
    refine q_laa (a := 5) E (dat dkL_acts_k3 27 rfl) rfl rfl rfl (by decide) rfl (by omega) ?_
    refine r_iload E (dat dkL_acts_k3 28 rfl) rfl ?_
    refine q_ialv E (dat dkL_acts_k3 29 rfl) (lae (by decide) (by omega)) (lok (Nat.le_of_ble_eq_true rfl) rfl (by decide) (by omega)) (by decide) rfl hc7 (gS19 (LE_mk (by omega) hin hcl)) ?_
    refine r_if_ne (tgt := 392) E (dat dkL_acts_k3 30 rfl) rfl (fun h380 => ?_) (fun h380 => ?_)
    ·
      have h41 : 0 < T 4 (r0 * x.1.2.1 + c0) := i_lt.mpr (by have h6 := (hS.1.1.2.2.1 _ hkn).1; have h5 : ¬ (T 4 (r0 * x.1.2.1 + c0)).toInt = 0 := fun q9 => h380 (Int32.toInt_inj.mp (q9.trans i_0.symm)); rw [i_0]; omega)
      refine r_aload_n E (dat dkL_acts_k3 37 rfl) rfl rfl ?_
      refine q_geta E fl_L_26 (dat dkL_acts_k3 38 rfl) rfl rfl rfl ?_
      refine r_iload_n E (dat dkL_acts_k3 39 rfl) rfl rfl ?_
      refine q_laa (a := 5) E (dat dkL_acts_k3 40 rfl) rfl rfl rfl (by decide) rfl (by omega) ?_
      refine r_iload E (dat dkL_acts_k3 41 rfl) rfl ?_
      refine q_ialv E (dat dkL_acts_k3 42 rfl) (lae (by decide) (by omega)) (lok (Nat.le_of_ble_eq_true rfl) rfl (by decide) (by omega)) (by decide) rfl hc7 (gS19 (LE_mk (by omega) hin hcl)) ?_
      refine r_istore_7 E (dat dkL_acts_k3 43 rfl) rfl rfl ?_
      refine r_aload_n E (dat dkL_acts_k3 44 rfl) rfl rfl ?_
      refine q_geta E fl_L_26 (dat dkL_acts_k3 45 rfl) rfl rfl rfl ?_
      refine r_iload_n E (dat dkL_acts_k3 46 rfl) rfl rfl ?_
      refine q_laa (a := 5) E (dat dkL_acts_k3 47 rfl) rfl rfl rfl (by decide) rfl (by omega) ?_
      refine r_iload E (dat dkL_acts_k3 48 rfl) rfl ?_
      refine r_iconst (v := 0) E (dat dkL_acts_k3 49 rfl) rfl ?_
      refine q_iasv E (dat dkL_acts_k4 0 rfl) (lae (by decide) (by omega)) (lok (Nat.le_of_ble_eq_true rfl) rfl (by decide) (by omega)) (by decide) rfl hc7 (sS19 (LE_smk (by omega) hin hcl)) ?_
      refine r_aload_n E (dat dkL_acts_k4 1 rfl) rfl rfl ?_
      refine r_iload E (dat dkL_acts_k4 2 rfl) rfl ?_
      refine r_callV (κ := 8) (μ := []) E (kd_shut l hst G h3X hCX ho1X hh1X ho8 hh8 hwt (r0 * x.1.2.1 + c0) hkn h41) my_X9_shut iv_X9_shut ml_L_132 cm_KL ⟨by decide, rfl, rfl⟩ rfl rfl rfl rfl (by decide) (Nat.le_of_ble_eq_true rfl) (dat dkL_acts_k4 3 rfl) ?_
      rintro _ _ ⟨rfl, rfl⟩
      refine ⟨_, MrgKp, ?_⟩
      refine r_iload E (dat dkL_acts_k4 4 rfl) rfl ?_
      refine r_icmp_ne (tgt := 428) E (dat dkL_acts_k4 5 rfl) rfl (fun h421 => ?_) (fun h421 => ?_)
      ·
        exact absurd rfl h421
      ·
        refine r_iconst (v := 1) E (dat dkL_acts_k4 6 rfl) rfl ?_
        refine r_goto (tgt := 429) E (dat dkL_acts_k4 7 rfl) rfl ?_
        refine r_zreturn E (dat dkL_acts_k4 9 rfl) rfl (by decide) (by decide) ?_
        obtain ⟨o2, h2, hV2⟩ := LIV_kp hV (LE_sh) (hB) (LS_L (L2 := L9 + 9) (LS_sh hS) (by omega))
        exact ⟨rfl, _, _, o2, h2, hV2, by show (T 0 7).toInt ≤ (T 0 7).toInt + 4; omega⟩
    ·
      refine r_aload_n E (dat dkL_acts_k3 31 rfl) rfl rfl ?_
      refine r_iconst (v := 1) E (dat dkL_acts_k3 32 rfl) rfl ?_
      refine r_iload E (dat dkL_acts_k3 33 rfl) rfl ?_
      refine r_iconst (v := 0) E (dat dkL_acts_k3 34 rfl) rfl ?_
      refine r_callSW (N := 4) (μ := []) E (sp_L_ref1 l G (nI (r0 * x.1.2.1 + c0)) (0) _ (kw_shut l hst G h3X hCX ho1X hh1X ho8 hh8 hwt (r0 * x.1.2.1 + c0) hkn h380)) in_L cw_ref ⟨by decide, by decide, by decide +kernel⟩ st_ref ml_L_155 cm_KL rfl rfl (by decide) (Nat.le_of_ble_eq_true rfl) (dat dkL_acts_k3 35 rfl) ?_
      rintro _ _ ⟨rfl, rfl⟩
      refine ⟨_, Mrg_z rfl, ?_⟩
      refine r_zreturn E (dat dkL_acts_k3 36 rfl) rfl (by decide) (by decide) ?_
      rw [← h19, setm_self]
      exact ⟨rfl, B, T, o, h, hV9, by omega⟩
  refine r_cut (M2 := setm M 19 (LE B x T)) (pc2 := 430) (S2 := []) (L2 := [some (rv 19 0), some (rv 0 0), some (iv v9), some (iv (nI (r0 + 1))), some (iv (nI (c0 + 1))), some (iv (nI (r0 * x.1.2.1 + c0))), some (iv b9), none, none, none, none, none]) (fun j430 => ?_) ?_
  rotate_left
  ·
    refine r_iconst (v := 1) E (dat dkL_acts_k4 10 rfl) rfl ?_
    refine r_iload_n E (dat dkL_acts_k4 11 rfl) rfl rfl ?_
    refine r_bipush (v := 12) E (dat dkL_acts_k4 12 rfl) rfl ?_
    refine r_iconst (v := 2) E (dat dkL_acts_k4 13 rfl) rfl ?_
    refine r_callS (μ := []) E (sp_L_bits l G v9 12 2 _ (by decide)) my_L_bits is_L_bits ml_L_143 cm_nil rfl rfl (by decide) (Nat.le_of_ble_eq_true rfl) (dat dkL_acts_k4 14 rfl) ?_
    rintro _ _ ⟨⟨q435, hq435, rfl⟩, rfl⟩
    refine ⟨_, Mrg_z rfl, ?_⟩
    replace hq435 : q435 < 4 := hq435
    
    refine r_iadd E (dat dkL_acts_k4 15 rfl) ?_
    rw [one_nI]
    refine r_istore_7 E (dat dkL_acts_k4 16 rfl) rfl rfl ?_
    refine r_aload_n E (dat dkL_acts_k4 17 rfl) rfl rfl ?_
    refine q_geta E fl_L_17 (dat dkL_acts_k4 18 rfl) rfl rfl rfl ?_
    refine r_iload_n E (dat dkL_acts_k4 19 rfl) rfl rfl ?_
    refine q_laa (a := 2) E (dat dkL_acts_k4 20 rfl) rfl rfl rfl (by decide) rfl (by omega) ?_
    refine r_iload E (dat dkL_acts_k4 21 rfl) rfl ?_
    refine r_dup2 E (dat dkL_acts_k4 22 rfl) rfl rfl ?_
    refine q_ialv E (dat dkL_acts_k4 23 rfl) (lae (by decide) (by omega)) (lok (Nat.le_of_ble_eq_true rfl) rfl (by decide) (by omega)) (by decide) rfl hc7 (gS19 (LE_lk (by omega) hin hcl)) ?_
    refine r_iload E (dat dkL_acts_k4 24 rfl) rfl ?_
    refine r_iadd E (dat dkL_acts_k4 25 rfl) ?_
    refine q_iasv E (dat dkL_acts_k4 26 rfl) (lae (by decide) (by omega)) (lok (Nat.le_of_ble_eq_true rfl) rfl (by decide) (by omega)) (by decide) rfl hc7 (sS19 (LE_slk (by omega) hin hcl)) ?_
    refine r_aload_n E (dat dkL_acts_k4 27 rfl) rfl rfl ?_
    refine r_iload E (dat dkL_acts_k4 28 rfl) rfl ?_
    refine r_iload E (dat dkL_acts_k4 29 rfl) rfl ?_
    refine r_callV (κ := 8) (μ := []) E (kd_dropLeaves l hst G h3X hCX ho1X hh1X ho8 hh8 hwt (r0 * x.1.2.1 + c0) (q435 + 1) hkn (by omega) (by omega)) my_X9_dropLeaves iv_X9_dropLeaves ml_L_159 cm_KL ⟨by decide, rfl, rfl⟩ rfl rfl rfl rfl (by decide) (Nat.le_of_ble_eq_true rfl) (dat dkL_acts_k4 30 rfl) ?_
    rintro _ _ ⟨rfl, rfl⟩
    refine ⟨_, MrgKp, ?_⟩
    refine r_aload_n E (dat dkL_acts_k4 31 rfl) rfl rfl ?_
    refine q_geta E fl_L_17 (dat dkL_acts_k4 32 rfl) rfl rfl rfl ?_
    refine r_iload_n E (dat dkL_acts_k4 33 rfl) rfl rfl ?_
    refine q_laa (a := 2) E (dat dkL_acts_k4 34 rfl) rfl rfl rfl (by decide) rfl (by omega) ?_
    refine r_iload E (dat dkL_acts_k4 35 rfl) rfl ?_
    refine q_ialv E (dat dkL_acts_k4 36 rfl) (lae (by decide) (by omega)) (lok (Nat.le_of_ble_eq_true rfl) rfl (by decide) (by omega)) (by decide) rfl hc7 (gK19 (LE_lk (by omega) hin hcl)) ?_
    refine r_icmp_ne (tgt := 479) E (dat dkL_acts_k4 37 rfl) rfl (fun h472 => ?_) (fun h472 => ?_)
    ·
      exact absurd rfl h472
    ·
      refine r_iconst (v := 1) E (dat dkL_acts_k4 38 rfl) rfl ?_
      refine r_goto (tgt := 480) E (dat dkL_acts_k4 39 rfl) rfl ?_
      refine r_zreturn E (dat dkL_acts_k4 41 rfl) rfl (by decide) (by decide) ?_
      obtain ⟨o2, h2, hV2⟩ := LIV_kp hV LE_lv hB (LS_lv (a := q435 + 1) hS (by omega) hkn (by omega) (by omega))
      exact ⟨rfl, _, _, o2, h2, hV2, by show (T 0 7).toInt ≤ (T 0 7).toInt + 4; omega⟩
  refine r_cut (M2 := setm M 19 (LE B x T)) (pc2 := 481) (S2 := []) (L2 := [some (rv 19 0), some (rv 0 0), some (iv v9), some (iv (nI (r0 + 1))), some (iv (nI (c0 + 1))), some (iv (nI (r0 * x.1.2.1 + c0))), some (iv b9), none, none, none, none, none]) (fun j481 => ?_) ?_
  rotate_left
  ·
    refine r_aload_n E (dat dkL_acts_k4 42 rfl) rfl rfl ?_
    refine q_geta E fl_L_17 (dat dkL_acts_k4 43 rfl) rfl rfl rfl ?_
    refine r_iload_n E (dat dkL_acts_k4 44 rfl) rfl rfl ?_
    refine q_laa (a := 2) E (dat dkL_acts_k4 45 rfl) rfl rfl rfl (by decide) rfl (by omega) ?_
    refine r_iload E (dat dkL_acts_k4 46 rfl) rfl ?_
    refine q_ialv E (dat dkL_acts_k4 47 rfl) (lae (by decide) (by omega)) (lok (Nat.le_of_ble_eq_true rfl) rfl (by decide) (by omega)) (by decide) rfl hc7 (gS19 (LE_lk (by omega) hin hcl)) ?_
    refine r_istore_7 E (dat dkL_acts_k4 48 rfl) rfl rfl ?_
    refine r_aload_n E (dat dkL_acts_k4 49 rfl) rfl rfl ?_
    refine q_geta E fl_L_17 (dat dkL_acts_k5 0 rfl) rfl rfl rfl ?_
    refine r_iload_n E (dat dkL_acts_k5 1 rfl) rfl rfl ?_
    refine q_laa (a := 2) E (dat dkL_acts_k5 2 rfl) rfl rfl rfl (by decide) rfl (by omega) ?_
    refine r_iload E (dat dkL_acts_k5 3 rfl) rfl ?_
    refine r_iconst (v := 0) E (dat dkL_acts_k5 4 rfl) rfl ?_
    refine q_iasv E (dat dkL_acts_k5 5 rfl) (lae (by decide) (by omega)) (lok (Nat.le_of_ble_eq_true rfl) rfl (by decide) (by omega)) (by decide) rfl hc7 (sS19 (LE_slk (by omega) hin hcl)) ?_
    refine r_aload_n E (dat dkL_acts_k5 6 rfl) rfl rfl ?_
    refine r_iload E (dat dkL_acts_k5 7 rfl) rfl ?_
    refine r_callV (κ := 8) (μ := []) E (kd_sweep l hst G h3X hCX ho1X hh1X ho8 hh8 hwt (r0 * x.1.2.1 + c0) hkn) my_X9_sweep iv_X9_sweep ml_L_162 cm_KL ⟨by decide, rfl, rfl⟩ rfl rfl rfl rfl (by decide) (Nat.le_of_ble_eq_true rfl) (dat dkL_acts_k5 8 rfl) ?_
    rintro _ _ ⟨rfl, rfl⟩
    refine ⟨_, MrgKp, ?_⟩
    refine r_iload E (dat dkL_acts_k5 9 rfl) rfl ?_
    refine r_icmp_ne (tgt := 517) E (dat dkL_acts_k5 10 rfl) rfl (fun h510 => ?_) (fun h510 => ?_)
    ·
      exact absurd rfl h510
    ·
      refine r_iconst (v := 1) E (dat dkL_acts_k5 11 rfl) rfl ?_
      refine r_goto (tgt := 518) E (dat dkL_acts_k5 12 rfl) rfl ?_
      refine r_zreturn E (dat dkL_acts_k5 14 rfl) rfl (by decide) (by decide) ?_
      obtain ⟨o2, h2, hV2⟩ := LIV_kp hV (LE_sw2) (hB) (LS_L (L2 := L9 + 9) (LS_sw hS hkn) (by omega))
      exact ⟨rfl, _, _, o2, h2, hV2, by show (T 0 7).toInt ≤ (T 0 7).toInt + 4; omega⟩
  refine r_cut (M2 := setm M 19 (LE B x T)) (pc2 := 519) (S2 := []) (L2 := [some (rv 19 0), some (rv 0 0), some (iv v9), some (iv (nI (r0 + 1))), some (iv (nI (c0 + 1))), some (iv (nI (r0 * x.1.2.1 + c0))), some (iv b9), none, none, none, none, none]) (fun j519 => ?_) ?_
  rotate_left
  ·
    rcases hb9 with ⟨hb0, rfl⟩ | ⟨b, hb, rfl⟩
    ·
      refine r_iload E (dat dkL_acts_k5 15 rfl) rfl ?_
      refine r_if_ge (tgt := 537) E (dat dkL_acts_k5 16 rfl) rfl (fun h521 => ?_) (fun h521 => ?_)
      ·
        exact absurd h521 (by decide)
      ·
        refine r_aload_n E (dat dkL_acts_k5 17 rfl) rfl rfl ?_
        refine r_callV (κ := 8) (μ := []) E (sp_X9_bootsCount l G BP be nm x q (vw [] (setm M 19 (LE B x T))) hC.1 hC.2.1 (hCX (A := LE B x T)).2.2.1 hx) my_X9_bootsCount iv_X9_bootsCount ml_L_165 cm_KL ⟨by decide, rfl, rfl⟩ rfl rfl rfl rfl (by decide) (Nat.le_of_ble_eq_true rfl) (dat dkL_acts_k5 18 rfl) ?_
        rintro _ _ ⟨rfl, rfl⟩
        refine ⟨_, Mrg_z rfl, ?_⟩
        rw [hb0]
        refine r_if_ne (tgt := 535) E (dat dkL_acts_k5 19 rfl) rfl (fun h528 => ?_) (fun h528 => ?_)
        ·
          exact absurd (by decide) h528
        ·
          refine r_iconst (v := 1) E (dat dkL_acts_k5 20 rfl) rfl ?_
          refine r_goto (tgt := 536) E (dat dkL_acts_k5 21 rfl) rfl ?_
          refine r_zreturn E (dat dkL_acts_k5 23 rfl) rfl (by decide) (by decide) ?_
          rw [← h19, setm_self]
          exact ⟨rfl, B, T, o, h, hV9, by omega⟩
    ·
      obtain ⟨o9, ho9, hpq⟩ := hpl b hb
      have hbo2 := hw.2.2
      obtain ⟨hin, hcl⟩ := clC_of hx.2.2.1 ho9
      have hod := hin
      generalize hRv : o9 / x.1.2.1 + 1 = R9 at hin hcl
      generalize hCv : o9 % x.1.2.1 + 1 = C9 at hin hcl
      obtain ⟨⟨hr1, hr5⟩, hc1, hc5⟩ := hin
      have hin : inC x R9 C9 := ⟨⟨hr1, hr5⟩, hc1, hc5⟩
      have hb8 : LE B x T 8 b = nI R9 := by rw [← hRv]; exact LE_b8 hb hpq (by omega)
      have hb9c : LE B x T 9 b = nI C9 := by rw [← hCv]; exact LE_b9 hb hpq (by omega)
      refine r_iload E (dat dkL_acts_k5 15 rfl) rfl ?_
      refine r_if_ge (tgt := 537) E (dat dkL_acts_k5 16 rfl) rfl (fun h521 => ?_) (fun h521 => ?_)
      ·
        refine r_iload_n E (dat dkL_acts_k5 24 rfl) rfl rfl ?_
        refine r_bipush (v := 16) E (dat dkL_acts_k5 25 rfl) rfl ?_
        refine r_iconst (v := 2) E (dat dkL_acts_k5 26 rfl) rfl ?_
        refine r_callS (μ := []) E (sp_L_bits l G v9 16 2 _ (by decide)) my_L_bits is_L_bits ml_L_143 cm_nil rfl rfl (by decide) (Nat.le_of_ble_eq_true rfl) (dat dkL_acts_k5 27 rfl) ?_
        rintro _ _ ⟨⟨q541, hq541, rfl⟩, rfl⟩
        refine ⟨_, Mrg_z rfl, ?_⟩
        replace hq541 : q541 < 4 := hq541
        
        refine r_istore_7 E (dat dkL_acts_k5 28 rfl) rfl rfl ?_
        refine r_aload_n E (dat dkL_acts_k5 29 rfl) rfl rfl ?_
        refine q_geta E fl_L_32 (dat dkL_acts_k5 30 rfl) rfl rfl rfl ?_
        refine r_iload E (dat dkL_acts_k5 31 rfl) rfl ?_
        refine q_ialv E (dat dkL_acts_k5 32 rfl) rfl rfl (by decide) rfl (show b < 2 by omega) (gS19 hb8) ?_
        refine r_iload E (dat dkL_acts_k5 33 rfl) rfl ?_
        refine r_callS (μ := []) E (sp_L_down l G q541 _ (by omega)) my_L_down is_L_down ml_L_69 cm_nil rfl rfl (by decide) (Nat.le_of_ble_eq_true rfl) (dat dkL_acts_k5 34 rfl) ?_
        rintro _ _ ⟨rfl, rfl⟩
        refine ⟨_, Mrg_z rfl, ?_⟩
        refine r_iadd E (dat dkL_acts_k5 35 rfl) ?_
        rw [dn_r hr1]
        refine r_istore_8 E (dat dkL_acts_k5 36 rfl) rfl rfl ?_
        refine r_aload_n E (dat dkL_acts_k5 37 rfl) rfl rfl ?_
        refine q_geta E fl_L_36 (dat dkL_acts_k5 38 rfl) rfl rfl rfl ?_
        refine r_iload E (dat dkL_acts_k5 39 rfl) rfl ?_
        refine q_ialv E (dat dkL_acts_k5 40 rfl) rfl rfl (by decide) rfl (show b < 2 by omega) (gS19 hb9c) ?_
        refine r_iload E (dat dkL_acts_k5 41 rfl) rfl ?_
        refine r_callS (μ := []) E (sp_L_right l G q541 _ (by omega)) my_L_right is_L_right ml_L_73 cm_nil rfl rfl (by decide) (Nat.le_of_ble_eq_true rfl) (dat dkL_acts_k5 42 rfl) ?_
        rintro _ _ ⟨rfl, rfl⟩
        refine ⟨_, Mrg_z rfl, ?_⟩
        refine r_iadd E (dat dkL_acts_k5 43 rfl) ?_
        rw [rt_c hc1]
        refine r_istore_9 E (dat dkL_acts_k5 44 rfl) rfl rfl ?_
        have hdr := @dR_b R9 q541
        have hdc := @dC_b C9 q541
        have hnb := nbx_d hx hin (w := q541) (by omega)
        rw [hcl] at hnb
        generalize hR2 : dR R9 q541 = R2 at hdr hnb ⊢
        generalize hC2 : dC C9 q541 = C2 at hdc hnb ⊢
        have hR27 : R2 < 7 := by omega
        have hC27 : C2 < 7 := by omega
        by_cases hin2 : inC x R2 C2
        ·
          rw [if_pos hin2] at hnb
          have hk2 := clC_lt hx.2.2.1 hin2
          have hh2 := hh _ hk2
          have hj2 := cl_K hin2
          refine r_aload_n E (dat dkL_acts_k5 45 rfl) rfl rfl ?_
          refine q_geta E fl_L_9 (dat dkL_acts_k5 46 rfl) rfl rfl rfl ?_
          refine r_iload E (dat dkL_acts_k5 47 rfl) rfl ?_
          refine q_laa (a := 0) E (dat dkL_acts_k5 48 rfl) rfl rfl rfl (by decide) rfl hR27 ?_
          refine r_iload E (dat dkL_acts_k5 49 rfl) rfl ?_
          refine q_ialv E (dat dkL_acts_k6 0 rfl) (lae (by decide) hR27) (lok (Nat.le_of_ble_eq_true rfl) rfl (by decide) hR27) (by decide) rfl hC27 (gS19 (LE_h hR27 hin2)) ?_
          refine r_ldcI E cn_L_123 (dat dkL_acts_k6 1 rfl) ?_
          refine r_icmp_ne (tgt := 601) E (dat dkL_acts_k6 2 rfl) rfl (fun h588 => ?_) (fun h588 => ?_)
          ·
            refine r_aload_n E (dat dkL_acts_k6 9 rfl) rfl rfl ?_
            refine q_geta E fl_L_32 (dat dkL_acts_k6 10 rfl) rfl rfl rfl ?_
            refine r_iload E (dat dkL_acts_k6 11 rfl) rfl ?_
            refine r_iload E (dat dkL_acts_k6 12 rfl) rfl ?_
            refine q_iasv E (dat dkL_acts_k6 13 rfl) rfl rfl (by decide) rfl (show b < 2 by omega) (sS19 rfl) ?_
            refine r_aload_n E (dat dkL_acts_k6 14 rfl) rfl rfl ?_
            refine q_geta E fl_L_36 (dat dkL_acts_k6 15 rfl) rfl rfl rfl ?_
            refine r_iload E (dat dkL_acts_k6 16 rfl) rfl ?_
            refine r_iload E (dat dkL_acts_k6 17 rfl) rfl ?_
            refine q_iasv E (dat dkL_acts_k6 18 rfl) rfl rfl (by decide) rfl (show b < 2 by omega) (sS19 ((congrArg (fun Z => sett (sett (LE B x T) 8 (upd (LE B x T 8) b (nI R2))) 9 (upd Z b (nI C2))) (show sett (LE B x T) 8 (upd (LE B x T 8) b (nI R2)) 9 = LE B x T 9 from sett_n (by decide))).trans (LE_s89 hb hx.2.2.1 h64 hin2 rfl))) ?_
            refine r_aload_n E (dat dkL_acts_k6 19 rfl) rfl rfl ?_
            refine r_iload E (dat dkL_acts_k6 20 rfl) rfl ?_
            refine r_callV (κ := 9) (μ := [19]) E (sp_L_soak l G B x (sc T 5 b (nI (clC x R2 C2))) b _ rfl hx hw (PL_s5 hpl hk2) hwt hb) my_L_soak iv_L_soak ml_L_119 (cm_of rfl) ⟨by decide, rfl, rfl⟩ rfl rfl rfl rfl (by decide) (Nat.le_of_ble_eq_true rfl) (dat dkL_acts_k6 21 rfl) ?_
            rintro _ _ ⟨rfl, rfl⟩
            refine ⟨_, Mrg_e (i := 0) (by decide) (by decide) setm_ss rfl, ?_⟩
            refine r_aload_n E (dat dkL_acts_k6 22 rfl) rfl rfl ?_
            refine r_iload E (dat dkL_acts_k6 23 rfl) rfl ?_
            refine r_iload E (dat dkL_acts_k6 24 rfl) rfl ?_
            refine r_callV (κ := 8) (μ := []) E (kd_walk l hst G h3X hCX ho1X hh1X ho8 hh8 hwt b q541 o9 (clC x R2 C2) hpl hb (by omega) hpq ho9 hnb) my_X9_walk iv_X9_walk ml_L_135 cm_KL ⟨by decide, rfl, rfl⟩ rfl rfl rfl rfl (by decide) (Nat.le_of_ble_eq_true rfl) (dat dkL_acts_k6 25 rfl) ?_
            rintro _ _ ⟨rfl, rfl⟩
            refine ⟨_, MrgKp, ?_⟩
            refine r_iload E (dat dkL_acts_k6 26 rfl) rfl ?_
            refine r_iconst (v := 1) E (dat dkL_acts_k6 27 rfl) rfl ?_
            refine r_isub E (dat dkL_acts_k6 28 rfl) ?_
            refine r_aload_n E (dat dkL_acts_k6 29 rfl) rfl rfl ?_
            refine q_getn E fl_L_98 (dat dkL_acts_k6 30 rfl) rfl rfl rfl (gK19 LE_v13) ?_
            refine r_imul E (dat dkL_acts_k6 31 rfl) ?_
            refine r_iload E (dat dkL_acts_k6 32 rfl) rfl ?_
            refine r_iadd E (dat dkL_acts_k6 33 rfl) ?_
            refine r_iconst (v := 1) E (dat dkL_acts_k6 34 rfl) rfl ?_
            refine r_isub E (dat dkL_acts_k6 35 rfl) ?_
            refine r_icmp_ne (tgt := 654) E (dat dkL_acts_k6 36 rfl) rfl (fun h647 => ?_) (fun h647 => ?_)
            ·
              exact absurd hj2.symm h647
            ·
              refine r_iconst (v := 1) E (dat dkL_acts_k6 37 rfl) rfl ?_
              refine r_goto (tgt := 655) E (dat dkL_acts_k6 38 rfl) rfl ?_
              refine r_zreturn E (dat dkL_acts_k6 40 rfl) rfl (by decide) (by decide) ?_
              obtain ⟨o2, h2, hV2⟩ := LIV_kp hV (LE_wk2 (by omega)) (hB) (LS_L (L2 := L9 + 9) (LS_wk hS hk2) (by omega))
              exact ⟨rfl, _, _, o2, h2, hV2, by show (T 0 7).toInt ≤ (T 0 7).toInt + 4; omega⟩
          ·
            exact absurd h588 (ht_ne hh2)
        ·
          rw [if_neg hin2] at hnb
          refine r_aload_n E (dat dkL_acts_k5 45 rfl) rfl rfl ?_
          refine q_geta E fl_L_9 (dat dkL_acts_k5 46 rfl) rfl rfl rfl ?_
          refine r_iload E (dat dkL_acts_k5 47 rfl) rfl ?_
          refine q_laa (a := 0) E (dat dkL_acts_k5 48 rfl) rfl rfl rfl (by decide) rfl hR27 ?_
          refine r_iload E (dat dkL_acts_k5 49 rfl) rfl ?_
          refine q_ialv E (dat dkL_acts_k6 0 rfl) (lae (by decide) hR27) (lok (Nat.le_of_ble_eq_true rfl) rfl (by decide) hR27) (by decide) rfl hC27 (gS19 ((LE_out (by decide) hR27 hin2).trans (hB R2 C2 hR27 hC27 hin2).1)) ?_
          refine r_ldcI E cn_L_123 (dat dkL_acts_k6 1 rfl) ?_
          refine r_icmp_ne (tgt := 601) E (dat dkL_acts_k6 2 rfl) rfl (fun h588 => ?_) (fun h588 => ?_)
          ·
            exact absurd rfl h588
          ·
            refine r_aload_n E (dat dkL_acts_k6 3 rfl) rfl rfl ?_
            refine r_iconst (v := 2) E (dat dkL_acts_k6 4 rfl) rfl ?_
            refine r_iload E (dat dkL_acts_k6 5 rfl) rfl ?_
            refine r_iload E (dat dkL_acts_k6 6 rfl) rfl ?_
            refine r_callSW (N := 4) (μ := []) E (sp_L_ref2 l G (nI b) (nI q541) _ (kw_walk l hst G h3X hCX ho1X hh1X ho8 hh8 hwt b q541 o9 hpl hb (by omega) hpq ho9 hnb)) in_L cw_ref ⟨by decide, by decide, by decide +kernel⟩ st_ref ml_L_155 cm_KL rfl rfl (by decide) (Nat.le_of_ble_eq_true rfl) (dat dkL_acts_k6 7 rfl) ?_
            rintro _ _ ⟨rfl, rfl⟩
            refine ⟨_, Mrg_z rfl, ?_⟩
            refine r_zreturn E (dat dkL_acts_k6 8 rfl) rfl (by decide) (by decide) ?_
            rw [← h19, setm_self]
            exact ⟨rfl, B, T, o, h, hV9, by omega⟩
      ·
        exact absurd (nI_pos0 b (by omega)) h521
  refine r_cut (M2 := setm M 19 (LE B x T)) (pc2 := 656) (S2 := []) (L2 := [some (rv 19 0), some (rv 0 0), some (iv v9), some (iv (nI (r0 + 1))), some (iv (nI (c0 + 1))), some (iv (nI (r0 * x.1.2.1 + c0))), some (iv b9), none, none, none, none, none]) (fun j656 => ?_) ?_
  rotate_left
  ·
    rcases hb9 with ⟨hb0, rfl⟩ | ⟨b, hb, rfl⟩
    ·
      refine r_iload E (dat dkL_acts_k6 41 rfl) rfl ?_
      refine r_if_ge (tgt := 674) E (dat dkL_acts_k6 42 rfl) rfl (fun h658 => ?_) (fun h658 => ?_)
      ·
        exact absurd h658 (by decide)
      ·
        refine r_aload_n E (dat dkL_acts_k6 43 rfl) rfl rfl ?_
        refine r_callV (κ := 8) (μ := []) E (sp_X9_bootsCount l G BP be nm x q (vw [] (setm M 19 (LE B x T))) hC.1 hC.2.1 (hCX (A := LE B x T)).2.2.1 hx) my_X9_bootsCount iv_X9_bootsCount ml_L_165 cm_KL ⟨by decide, rfl, rfl⟩ rfl rfl rfl rfl (by decide) (Nat.le_of_ble_eq_true rfl) (dat dkL_acts_k6 44 rfl) ?_
        rintro _ _ ⟨rfl, rfl⟩
        refine ⟨_, Mrg_z rfl, ?_⟩
        rw [hb0]
        refine r_if_ne (tgt := 672) E (dat dkL_acts_k6 45 rfl) rfl (fun h665 => ?_) (fun h665 => ?_)
        ·
          exact absurd (by decide) h665
        ·
          refine r_iconst (v := 1) E (dat dkL_acts_k6 46 rfl) rfl ?_
          refine r_goto (tgt := 673) E (dat dkL_acts_k6 47 rfl) rfl ?_
          refine r_zreturn E (dat dkL_acts_k6 49 rfl) rfl (by decide) (by decide) ?_
          rw [← h19, setm_self]
          exact ⟨rfl, B, T, o, h, hV9, by omega⟩
    ·
      obtain ⟨o9, ho9, hpq⟩ := hpl b hb
      have hbo2 := hw.2.2
      obtain ⟨hin, hcl⟩ := clC_of hx.2.2.1 ho9
      have hod := hin
      generalize hRv : o9 / x.1.2.1 + 1 = R9 at hin hcl
      generalize hCv : o9 % x.1.2.1 + 1 = C9 at hin hcl
      obtain ⟨⟨hr1, hr5⟩, hc1, hc5⟩ := hin
      have hin : inC x R9 C9 := ⟨⟨hr1, hr5⟩, hc1, hc5⟩
      have hb8 : LE B x T 8 b = nI R9 := by rw [← hRv]; exact LE_b8 hb hpq (by omega)
      have hb9c : LE B x T 9 b = nI C9 := by rw [← hCv]; exact LE_b9 hb hpq (by omega)
      refine r_iload E (dat dkL_acts_k6 41 rfl) rfl ?_
      refine r_if_ge (tgt := 674) E (dat dkL_acts_k6 42 rfl) rfl (fun h658 => ?_) (fun h658 => ?_)
      ·
        refine r_aload_n E (dat dkL_acts_k7 0 rfl) rfl rfl ?_
        refine q_geta E fl_L_32 (dat dkL_acts_k7 1 rfl) rfl rfl rfl ?_
        refine r_iload E (dat dkL_acts_k7 2 rfl) rfl ?_
        refine q_ialv E (dat dkL_acts_k7 3 rfl) rfl rfl (by decide) rfl (show b < 2 by omega) (gS19 hb8) ?_
        refine r_istore_7 E (dat dkL_acts_k7 4 rfl) rfl rfl ?_
        refine r_aload_n E (dat dkL_acts_k7 5 rfl) rfl rfl ?_
        refine q_geta E fl_L_36 (dat dkL_acts_k7 6 rfl) rfl rfl rfl ?_
        refine r_iload E (dat dkL_acts_k7 7 rfl) rfl ?_
        refine q_ialv E (dat dkL_acts_k7 8 rfl) rfl rfl (by decide) rfl (show b < 2 by omega) (gS19 hb9c) ?_
        refine r_istore_8 E (dat dkL_acts_k7 9 rfl) rfl rfl ?_
        refine r_aload_n E (dat dkL_acts_k7 10 rfl) rfl rfl ?_
        refine q_geta E fl_L_14 (dat dkL_acts_k7 11 rfl) rfl rfl rfl ?_
        refine r_iload E (dat dkL_acts_k7 12 rfl) rfl ?_
        refine q_laa (a := 1) E (dat dkL_acts_k7 13 rfl) rfl rfl rfl (by decide) rfl (show R9 < 7 by omega) ?_
        refine r_iload E (dat dkL_acts_k7 14 rfl) rfl ?_
        refine q_ialv E (dat dkL_acts_k7 15 rfl) (lae (by decide) (show R9 < 7 by omega)) (lok (Nat.le_of_ble_eq_true rfl) rfl (by decide) (show R9 < 7 by omega)) (by decide) rfl (show C9 < 7 by omega) (gS19 (LE_wk (show R9 < 7 by omega) hin hcl)) ?_
        refine r_if_ne (tgt := 714) E (dat dkL_acts_k7 16 rfl) rfl (fun h702 => ?_) (fun h702 => ?_)
        ·
          have h41 : 0 < T 1 o9 := i_lt.mpr (by have h6 := hS.1.1.2.2.2.2.1 _ ho9; have h5 : ¬ (T 1 o9).toInt = 0 := fun q9 => h702 (Int32.toInt_inj.mp (q9.trans i_0.symm)); rw [i_0]; omega)
          refine r_aload_n E (dat dkL_acts_k7 23 rfl) rfl rfl ?_
          refine q_geta E fl_L_14 (dat dkL_acts_k7 24 rfl) rfl rfl rfl ?_
          refine r_iload E (dat dkL_acts_k7 25 rfl) rfl ?_
          refine q_laa (a := 1) E (dat dkL_acts_k7 26 rfl) rfl rfl rfl (by decide) rfl (show R9 < 7 by omega) ?_
          refine r_iload E (dat dkL_acts_k7 27 rfl) rfl ?_
          refine q_ialv E (dat dkL_acts_k7 28 rfl) (lae (by decide) (show R9 < 7 by omega)) (lok (Nat.le_of_ble_eq_true rfl) rfl (by decide) (show R9 < 7 by omega)) (by decide) rfl (show C9 < 7 by omega) (gS19 (LE_wk (show R9 < 7 by omega) hin hcl)) ?_
          refine r_iconst (v := 5) E (dat dkL_acts_k7 29 rfl) rfl ?_
          refine r_idiv E (dat dkL_acts_k7 30 rfl) (by decide) ?_
          refine r_istore_9 E (dat dkL_acts_k7 31 rfl) rfl rfl ?_
          refine r_iconst (v := 0) E (dat dkL_acts_k7 32 rfl) rfl ?_
          refine r_istore_10 E (dat dkL_acts_k7 33 rfl) rfl rfl ?_
          refine r_iconst (v := 0) E (dat dkL_acts_k7 34 rfl) rfl ?_
          refine r_istore_11 E (dat dkL_acts_k7 35 rfl) rfl rfl ?_
          refine r_for (4) (fun _ => True) (fun d => setm M 19 (LE B x (tWs T (thW (nbx x) o9 (T 1 o9 / 5) (T 1) d).1))) (fun d => [some (rv 19 0), some (rv 0 0), some (iv v9), some (iv (nI (r0 + 1))), some (iv (nI (c0 + 1))), some (iv (nI (r0 * x.1.2.1 + c0))), some (iv (nI b)), some (iv (nI R9)), some (iv (nI C9)), some (iv (T 1 o9 / 5)), some (iv (thW (nbx x) o9 (T 1 o9 / 5) (T 1) d).2), some (iv (nI d))]) trivial (by show setm M 19 (LE B x (tWs T (T 1))) = _; rw [tWs_0]) rfl ?_ ?_
          · intro d hd hId kd
            have hdr := @dR_b R9 d
            have hdc := @dC_b C9 d
            have hnb := nbx_d hx hin (w := d) hd
            rw [hcl] at hnb
            refine r_iload E (dat dkL_acts_k7 36 rfl) rfl ?_
            refine r_iconst (v := 4) E (dat dkL_acts_k7 37 rfl) rfl ?_
            refine q_icmp_ge (tgt := 810) E (dat dkL_acts_k7 38 rfl) rfl rfl (b := 4) rfl (by omega) (by omega) (fun h737 => ?_) (fun h737 => ?_)
            ·
              omega
            ·
              have hR27 : dR R9 d < 7 := by omega
              have hC27 : dC C9 d < 7 := by omega
              by_cases hin2 : inC x (dR R9 d) (dC C9 d)
              ·
                rw [if_pos hin2] at hnb
                have hk2 := clC_lt hx.2.2.1 hin2
                have hh2 := hh _ hk2
                have hfin := thW_s (f := T 1 o9 / 5) (w := T 1) hnb
                refine r_aload_n E (dat dkL_acts_k7 39 rfl) rfl rfl ?_
                refine q_geta E fl_L_9 (dat dkL_acts_k7 40 rfl) rfl rfl rfl ?_
                refine r_iload E (dat dkL_acts_k7 41 rfl) rfl ?_
                refine r_iload E (dat dkL_acts_k7 42 rfl) rfl ?_
                refine r_callS (μ := []) E (sp_L_down l G d _ (by omega)) my_L_down is_L_down ml_L_69 cm_nil rfl rfl (by decide) (Nat.le_of_ble_eq_true rfl) (dat dkL_acts_k7 43 rfl) ?_
                rintro _ _ ⟨rfl, rfl⟩
                refine ⟨_, Mrg_z rfl, ?_⟩
                refine r_iadd E (dat dkL_acts_k7 44 rfl) ?_
                refine q_laa (a := 0) E (dat dkL_acts_k7 45 rfl) rfl rfl rfl (by decide) (dn_r hr1) hR27 ?_
                refine r_iload E (dat dkL_acts_k7 46 rfl) rfl ?_
                refine r_iload E (dat dkL_acts_k7 47 rfl) rfl ?_
                refine r_callS (μ := []) E (sp_L_right l G d _ (by omega)) my_L_right is_L_right ml_L_73 cm_nil rfl rfl (by decide) (Nat.le_of_ble_eq_true rfl) (dat dkL_acts_k7 48 rfl) ?_
                rintro _ _ ⟨rfl, rfl⟩
                refine ⟨_, Mrg_z rfl, ?_⟩
                refine r_iadd E (dat dkL_acts_k7 49 rfl) ?_
                refine q_ialv E (dat dkL_acts_k8 0 rfl) (lae (by decide) hR27) (lok (Nat.le_of_ble_eq_true rfl) rfl (by decide) hR27) (by decide) (rt_c hc1) hC27 (gS19 (LE_h hR27 hin2)) ?_
                refine r_ldcI E cn_L_123 (dat dkL_acts_k8 1 rfl) ?_
                refine r_icmp_ne (tgt := 770) E (dat dkL_acts_k8 2 rfl) rfl (fun h764 => ?_) (fun h764 => ?_)
                ·
                  refine r_aload_n E (dat dkL_acts_k8 4 rfl) rfl rfl ?_
                  refine q_geta E fl_L_14 (dat dkL_acts_k8 5 rfl) rfl rfl rfl ?_
                  refine r_iload E (dat dkL_acts_k8 6 rfl) rfl ?_
                  refine r_iload E (dat dkL_acts_k8 7 rfl) rfl ?_
                  refine r_callS (μ := []) E (sp_L_down l G d _ (by omega)) my_L_down is_L_down ml_L_69 cm_nil rfl rfl (by decide) (Nat.le_of_ble_eq_true rfl) (dat dkL_acts_k8 8 rfl) ?_
                  rintro _ _ ⟨rfl, rfl⟩
                  refine ⟨_, Mrg_z rfl, ?_⟩
                  refine r_iadd E (dat dkL_acts_k8 9 rfl) ?_
                  refine q_laa (a := 1) E (dat dkL_acts_k8 10 rfl) rfl rfl rfl (by decide) (dn_r hr1) hR27 ?_
                  refine r_iload E (dat dkL_acts_k8 11 rfl) rfl ?_
                  refine r_iload E (dat dkL_acts_k8 12 rfl) rfl ?_
                  refine r_callS (μ := []) E (sp_L_right l G d _ (by omega)) my_L_right is_L_right ml_L_73 cm_nil rfl rfl (by decide) (Nat.le_of_ble_eq_true rfl) (dat dkL_acts_k8 13 rfl) ?_
                  rintro _ _ ⟨rfl, rfl⟩
                  refine ⟨_, Mrg_z rfl, ?_⟩
                  refine r_iadd E (dat dkL_acts_k8 14 rfl) ?_
                  refine r_dup2 E (dat dkL_acts_k8 15 rfl) rfl rfl ?_
                  refine q_ialv E (dat dkL_acts_k8 16 rfl) (lae (by decide) hR27) (lok (Nat.le_of_ble_eq_true rfl) rfl (by decide) hR27) (by decide) (rt_c hc1) hC27 (gS19 ((LE_w hR27 hin2).trans (congrFun sett_s _))) ?_
                  refine r_iload E (dat dkL_acts_k8 17 rfl) rfl ?_
                  refine r_iadd E (dat dkL_acts_k8 18 rfl) ?_
                  refine q_iasv E (dat dkL_acts_k8 19 rfl) (lae (by decide) hR27) (lok (Nat.le_of_ble_eq_true rfl) rfl (by decide) hR27) (by decide) (rt_c hc1) hC27 (sS19 ((LE_sw hR27 hin2).trans (congrArg (LE B x) tWs_s))) ?_
                  refine r_iload E (dat dkL_acts_k8 20 rfl) rfl ?_
                  refine r_iload E (dat dkL_acts_k8 21 rfl) rfl ?_
                  refine r_iadd E (dat dkL_acts_k8 22 rfl) ?_
                  refine r_istore_10 E (dat dkL_acts_k8 23 rfl) rfl rfl ?_
                  refine q_iinc_11 E (dat dkL_acts_k8 24 rfl) rfl rfl ?_
                  refine r_goto (tgt := 734) E (dat dkL_acts_k8 25 rfl) rfl ?_
                  rw [hfin] at kd
                  exact kd trivial
                ·
                  exact absurd h764 (ht_ne hh2)
              ·
                rw [if_neg hin2] at hnb
                have hfin := thW_n (f := T 1 o9 / 5) (w := T 1) hnb
                refine r_aload_n E (dat dkL_acts_k7 39 rfl) rfl rfl ?_
                refine q_geta E fl_L_9 (dat dkL_acts_k7 40 rfl) rfl rfl rfl ?_
                refine r_iload E (dat dkL_acts_k7 41 rfl) rfl ?_
                refine r_iload E (dat dkL_acts_k7 42 rfl) rfl ?_
                refine r_callS (μ := []) E (sp_L_down l G d _ (by omega)) my_L_down is_L_down ml_L_69 cm_nil rfl rfl (by decide) (Nat.le_of_ble_eq_true rfl) (dat dkL_acts_k7 43 rfl) ?_
                rintro _ _ ⟨rfl, rfl⟩
                refine ⟨_, Mrg_z rfl, ?_⟩
                refine r_iadd E (dat dkL_acts_k7 44 rfl) ?_
                refine q_laa (a := 0) E (dat dkL_acts_k7 45 rfl) rfl rfl rfl (by decide) (dn_r hr1) hR27 ?_
                refine r_iload E (dat dkL_acts_k7 46 rfl) rfl ?_
                refine r_iload E (dat dkL_acts_k7 47 rfl) rfl ?_
                refine r_callS (μ := []) E (sp_L_right l G d _ (by omega)) my_L_right is_L_right ml_L_73 cm_nil rfl rfl (by decide) (Nat.le_of_ble_eq_true rfl) (dat dkL_acts_k7 48 rfl) ?_
                rintro _ _ ⟨rfl, rfl⟩
                refine ⟨_, Mrg_z rfl, ?_⟩
                refine r_iadd E (dat dkL_acts_k7 49 rfl) ?_
                refine q_ialv E (dat dkL_acts_k8 0 rfl) (lae (by decide) hR27) (lok (Nat.le_of_ble_eq_true rfl) rfl (by decide) hR27) (by decide) (rt_c hc1) hC27 (gS19 ((LE_out (by decide) hR27 hin2).trans (hB _ _ hR27 hC27 hin2).1)) ?_
                refine r_ldcI E cn_L_123 (dat dkL_acts_k8 1 rfl) ?_
                refine r_icmp_ne (tgt := 770) E (dat dkL_acts_k8 2 rfl) rfl (fun h764 => ?_) (fun h764 => ?_)
                ·
                  exact absurd rfl h764
                ·
                  refine r_goto (tgt := 804) E (dat dkL_acts_k8 3 rfl) rfl ?_
                  refine q_iinc_11 E (dat dkL_acts_k8 24 rfl) rfl rfl ?_
                  refine r_goto (tgt := 734) E (dat dkL_acts_k8 25 rfl) rfl ?_
                  rw [hfin] at kd
                  exact kd trivial
          · intro hId
            refine r_iload E (dat dkL_acts_k7 36 rfl) rfl ?_
            refine r_iconst (v := 4) E (dat dkL_acts_k7 37 rfl) rfl ?_
            refine q_icmp_ge (tgt := 810) E (dat dkL_acts_k7 38 rfl) rfl rfl (b := 4) rfl (by omega) (by omega) (fun h737 => ?_) (fun h737 => ?_)
            ·
              refine r_aload_n E (dat dkL_acts_k8 26 rfl) rfl rfl ?_
              refine q_geta E fl_L_14 (dat dkL_acts_k8 27 rfl) rfl rfl rfl ?_
              refine r_iload E (dat dkL_acts_k8 28 rfl) rfl ?_
              refine q_laa (a := 1) E (dat dkL_acts_k8 29 rfl) rfl rfl rfl (by decide) rfl (show R9 < 7 by omega) ?_
              refine r_iload E (dat dkL_acts_k8 30 rfl) rfl ?_
              refine r_dup2 E (dat dkL_acts_k8 31 rfl) rfl rfl ?_
              refine q_ialv E (dat dkL_acts_k8 32 rfl) (lae (by decide) (show R9 < 7 by omega)) (lok (Nat.le_of_ble_eq_true rfl) rfl (by decide) (show R9 < 7 by omega)) (by decide) rfl (show C9 < 7 by omega) (gS19 ((LE_wk (show R9 < 7 by omega) hin hcl).trans (congrFun sett_s _))) ?_
              refine r_iload E (dat dkL_acts_k8 33 rfl) rfl ?_
              refine r_isub E (dat dkL_acts_k8 34 rfl) ?_
              refine q_iasv E (dat dkL_acts_k8 35 rfl) (lae (by decide) (show R9 < 7 by omega)) (lok (Nat.le_of_ble_eq_true rfl) rfl (by decide) (show R9 < 7 by omega)) (by decide) rfl (show C9 < 7 by omega) (sS19 (LE_swk (show R9 < 7 by omega) hin hcl)) ?_
              refine r_aload_n E (dat dkL_acts_k8 36 rfl) rfl rfl ?_
              refine q_geta E fl_L_42 (dat dkL_acts_k8 37 rfl) rfl rfl rfl ?_
              refine r_iload E (dat dkL_acts_k8 38 rfl) rfl ?_
              refine r_dup2 E (dat dkL_acts_k8 39 rfl) rfl rfl ?_
              refine q_ialv E (dat dkL_acts_k8 40 rfl) rfl rfl (by decide) rfl (show b < 2 by omega) (gS19 (LE_b11 hb)) ?_
              refine r_iconst (v := 1) E (dat dkL_acts_k8 41 rfl) rfl ?_
              refine r_iadd E (dat dkL_acts_k8 42 rfl) ?_
              refine q_iasv E (dat dkL_acts_k8 43 rfl) rfl rfl (by decide) rfl (show b < 2 by omega) (sS19 (LE_s11 hb)) ?_
              refine r_aload_n E (dat dkL_acts_k8 44 rfl) rfl rfl ?_
              refine r_iload E (dat dkL_acts_k8 45 rfl) rfl ?_
              refine r_callV (κ := 8) (μ := []) E (kd_splash l hst G h3X hCX ho1X hh1X ho8 hh8 hwt b o9 hpl hb hpq ho9 h41) my_X9_splash iv_X9_splash ml_L_138 cm_KL ⟨by decide, rfl, rfl⟩ rfl rfl rfl rfl (by decide) (Nat.le_of_ble_eq_true rfl) (dat dkL_acts_k8 46 rfl) ?_
              rintro _ _ ⟨rfl, rfl⟩
              refine ⟨_, MrgKp, ?_⟩
              refine r_iload E (dat dkL_acts_k8 47 rfl) rfl ?_
              refine r_icmp_ne (tgt := 851) E (dat dkL_acts_k8 48 rfl) rfl (fun h844 => ?_) (fun h844 => ?_)
              ·
                exact absurd rfl h844
              ·
                refine r_iconst (v := 1) E (dat dkL_acts_k8 49 rfl) rfl ?_
                refine r_goto (tgt := 852) E (dat dkL_acts_k9 0 rfl) rfl ?_
                refine r_zreturn E (dat dkL_acts_k9 2 rfl) rfl (by decide) (by decide) ?_
                obtain ⟨o2, h2, hV2⟩ := LIV_kp hV (LE_th) (hB) (LS_L (L2 := L9 + 9) (LS_th hx hS ho9 (by omega)) (by omega))
                exact ⟨rfl, _, _, o2, h2, hV2, by show (T 0 7).toInt ≤ (T 0 7).toInt + 4; omega⟩
            ·
              omega
        ·
          refine r_aload_n E (dat dkL_acts_k7 17 rfl) rfl rfl ?_
          refine r_iconst (v := 3) E (dat dkL_acts_k7 18 rfl) rfl ?_
          refine r_iload E (dat dkL_acts_k7 19 rfl) rfl ?_
          refine r_iconst (v := 0) E (dat dkL_acts_k7 20 rfl) rfl ?_
          refine r_callSW (N := 4) (μ := []) E (sp_L_ref3 l G (nI b) (0) _ (kw_splash l hst G h3X hCX ho1X hh1X ho8 hh8 hwt b o9 hpl hb hpq ho9 h702)) in_L cw_ref ⟨by decide, by decide, by decide +kernel⟩ st_ref ml_L_155 cm_KL rfl rfl (by decide) (Nat.le_of_ble_eq_true rfl) (dat dkL_acts_k7 21 rfl) ?_
          rintro _ _ ⟨rfl, rfl⟩
          refine ⟨_, Mrg_z rfl, ?_⟩
          refine r_zreturn E (dat dkL_acts_k7 22 rfl) rfl (by decide) (by decide) ?_
          rw [← h19, setm_self]
          exact ⟨rfl, B, T, o, h, hV9, by omega⟩
      ·
        exact absurd (nI_pos0 b (by omega)) h658
  rcases (show q73 = 0 ∨ q73 = 1 ∨ q73 = 2 ∨ q73 = 3 ∨ q73 = 4 ∨ q73 = 5 ∨ q73 = 6 ∨ q73 = 7 ∨ q73 = 8 ∨ q73 = 9 ∨ q73 = 10 ∨ q73 = 11 ∨ q73 = 12 ∨ q73 = 13 ∨ q73 = 14 ∨ q73 = 15 by omega) with rfl | rfl | rfl | rfl | rfl | rfl | rfl | rfl | rfl | rfl | rfl | rfl | rfl | rfl | rfl | rfl
  · exact r_tabIn (off := 76) (tgt := 152) E (dat dkL_acts_k0 48 rfl) (by decide +kernel) (by decide +kernel) rfl rfl j152
  · exact r_tabIn (off := 76) (tgt := 152) E (dat dkL_acts_k0 48 rfl) (by decide +kernel) (by decide +kernel) rfl rfl j152
  · exact r_tabIn (off := 76) (tgt := 152) E (dat dkL_acts_k0 48 rfl) (by decide +kernel) (by decide +kernel) rfl rfl j152
  · exact r_tabIn (off := 76) (tgt := 152) E (dat dkL_acts_k0 48 rfl) (by decide +kernel) (by decide +kernel) rfl rfl j152
  · exact r_tabIn (off := 76) (tgt := 152) E (dat dkL_acts_k0 48 rfl) (by decide +kernel) (by decide +kernel) rfl rfl j152
  · exact r_tabIn (off := 111) (tgt := 187) E (dat dkL_acts_k0 48 rfl) (by decide +kernel) (by decide +kernel) rfl rfl j187
  · exact r_tabIn (off := 148) (tgt := 224) E (dat dkL_acts_k0 48 rfl) (by decide +kernel) (by decide +kernel) rfl rfl j224
  · exact r_tabIn (off := 148) (tgt := 224) E (dat dkL_acts_k0 48 rfl) (by decide +kernel) (by decide +kernel) rfl rfl j224
  · exact r_tabIn (off := 148) (tgt := 224) E (dat dkL_acts_k0 48 rfl) (by decide +kernel) (by decide +kernel) rfl rfl j224
  · exact r_tabIn (off := 295) (tgt := 371) E (dat dkL_acts_k0 48 rfl) (by decide +kernel) (by decide +kernel) rfl rfl j371
  · exact r_tabIn (off := 354) (tgt := 430) E (dat dkL_acts_k0 48 rfl) (by decide +kernel) (by decide +kernel) rfl rfl j430
  · exact r_tabIn (off := 354) (tgt := 430) E (dat dkL_acts_k0 48 rfl) (by decide +kernel) (by decide +kernel) rfl rfl j430
  · exact r_tabIn (off := 405) (tgt := 481) E (dat dkL_acts_k0 48 rfl) (by decide +kernel) (by decide +kernel) rfl rfl j481
  · exact r_tabIn (off := 443) (tgt := 519) E (dat dkL_acts_k0 48 rfl) (by decide +kernel) (by decide +kernel) rfl rfl j519
  · exact r_tabIn (off := 443) (tgt := 519) E (dat dkL_acts_k0 48 rfl) (by decide +kernel) (by decide +kernel) rfl rfl j519
  · exact r_tabOut (tgt := 656) E (dat dkL_acts_k0 48 rfl) (Or.inr (by decide +kernel)) rfl j656
