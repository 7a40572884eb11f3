theorem cs_none {o : Option Nat} (ho : ∀ k, o = some k → k < 64) (h : (if oI o = -1 then (0 : Int32) else 1) = 0) : o = none := by
  cases o with
  | none => rfl
  | some k =>
    have := ho k rfl
    rw [if_neg (show ¬ oI (some k) = -1 from fun q : nI k = -1 => nI_pos (show k < 2 ^ 31 by omega) (by rw [q]; decide))] at h
    exact absurd h (by decide)
theorem cs_some {o : Option Nat} (h : ¬ (if oI o = -1 then (0 : Int32) else 1) = 0) : ∃ j, o = some j := by
  cases o with
  | none => exact absurd (if_pos rfl) h
  | some k => exact ⟨k, rfl⟩
set_option maxRecDepth 100000 in
set_option maxHeartbeats 4000000 in
theorem sp_X9_setRain (l : Launch) (hst : l.stackTraces = false) (G : GT) (BP : Nat → Nat → Int32) (be nm : Nat → Int32) (x : PP) (q : Nat) (o h : Nat) (a : Int32) (M : Mem) (hpn : (M 0 0 9).toNatClampNeg = q) (hq : q = 17 ∨ q = 18) (hP : M q = vPx BP be nm x) (hx : PIv x) (ho1 : M 6 0 1 = nI o) (hh1 : M 6 0 2 = nI h) (ho8 : o < 8) (hh8 : h ≤ 8) (hwt : WTi (M 3)) : MCx l G yX9_setRain cX9_setRain 3 (some .int) ({ frames := 7, cells := 4, slots := 24, locals := 104 } : Room) KC lkC [rv 0 0, iv a] (M) (fun r M2 => (0 ≤ a ∧ a ≤ 9) ∧ M2 = setm (kpM M o h) 3 (raT (M 3) a) ∧ r = some (iv (M 3 0 8))) (fun E M2 => M2 = M ∧ E = argN ∧ ¬ (0 ≤ a ∧ a ≤ 9)) := by
  refine MCx.of RX9 [some (rv 0 0), some (iv a), none] 1 (by decide +kernel) rfl rfl rfl ?_
  intro pp ee ss mm aa bb me cd ad E hnt
  rcases hq with rfl | rfl
  ·
    have h_ro : M 17 0 7 = nI x.1.1 := by rw [hP]; rfl
    have h_co : M 17 0 8 = nI x.1.2.1 := by rw [hP]; rfl
    have h_ce : M 17 0 9 = nI x.1.2.2 := by rw [hP]; rfl
    have h_bc : M 17 0 10 = nI x.2.2.2.2.1 := by rw [hP]; rfl
    have h_fr : M 17 0 11 = x.2.2.2.1 := by rw [hP]; rfl
    have h_he : M 17 1 = x.2.1 := by rw [hP]; rfl
    have h_gu : M 17 2 = x.2.2.1 := by rw [hP]; rfl
    have h_be : M 17 3 = be := by rw [hP]; rfl
    have h_nl : M 17 5 = x.2.2.2.2.2.1 := by rw [hP]; rfl
    have h_bh : M 17 6 = x.2.2.2.2.2.2.2.1 := by rw [hP]; rfl
    have h_fp : M 17 7 = x.2.2.2.2.2.2.1 := by rw [hP]; rfl
    have h_n0 : M 17 8 = x.2.2.2.2.2.2.2.2 0 := by rw [hP]; rfl
    have h_n1 : M 17 9 = x.2.2.2.2.2.2.2.2 1 := by rw [hP]; rfl
    have h_n2 : M 17 10 = x.2.2.2.2.2.2.2.2 2 := by rw [hP]; rfl
    have h_n3 : M 17 11 = x.2.2.2.2.2.2.2.2 3 := by rw [hP]; rfl
    have hn64 := (PIv_z hx).1
    
    refine r_iload_n E (dat dkX9_setRain 0 rfl) rfl rfl ?_
    refine r_iconst (v := 0) E (dat dkX9_setRain 1 rfl) rfl ?_
    refine r_bipush (v := 9) E (dat dkX9_setRain 2 rfl) rfl ?_
    refine r_callSX (μ := []) E hnt (sp_X9_requireRange l hst G (a) (0) (9) _) my_X9_requireRange is_X9_requireRange ml_X9_174 cm_nil rfl rfl (by decide) (Nat.le_of_ble_eq_true rfl) (dat dkX9_setRain 3 rfl) (by decide) (by decide) (fun E M9 h => ⟨M, Mrg_z h.2.1, rfl, h.1, h.2.2⟩) ?_
    rintro _ _ ⟨rfl, hM9, hlo, hhi⟩
    refine ⟨_, Mrg_z hM9, ?_⟩
    clear hM9
    refine r_aload_n E (dat dkX9_setRain 4 rfl) rfl rfl ?_
    refine q_getl E fl_X9_39 (dat dkX9_setRain 5 rfl) rfl rfl rfl ?_
    refine r_aload_n E (dat dkX9_setRain 6 rfl) rfl rfl ?_
    refine q_getl E fl_X9_26 (dat dkX9_setRain 7 rfl) rfl rfl rfl ?_
    refine r_callV (κ := 7) (μ := [6, 3, 7, 8, 9, 10, 11, 12, 13, 14]) E (sp_X1_keep l G (M 6) o h (M 6 1) _ (by show M 6 = _; rw [← ho1, ← hh1]; exact (evH _).symm) ho8 hh8 hwt) my_X1_keep iv_X1_keep ml_X9_112 (cm_of rfl) ⟨by decide, rfl, rfl⟩ rfl rfl rfl rfl (by decide) (Nat.le_of_ble_eq_true rfl) (dat dkX9_setRain 8 rfl) ?_
    rintro _ _ ⟨rfl, hM9⟩
    refine ⟨_, (show Mrg _ _ M _ (kpM M o h) from Mrg_kp hM9), ?_⟩
    clear hM9
    have e3 : kpM M o h 3 = M 3 := kpM_ne (by decide) (by decide)
    have e0 : kpM M o h 0 = M 0 := kpM_ne (by decide) (by decide)
    have hP9 : kpM M o h 17 = vPx BP be nm x := (kpM_ne (by decide) (by decide)).trans hP
    have hpn : (kpM M o h 0 0 9).toNatClampNeg = 17 := by rw [e0]; exact hpn
    have h_ro : (kpM M o h) 17 0 7 = nI x.1.1 := by rw [hP9]; rfl
    have h_co : (kpM M o h) 17 0 8 = nI x.1.2.1 := by rw [hP9]; rfl
    have h_ce : (kpM M o h) 17 0 9 = nI x.1.2.2 := by rw [hP9]; rfl
    have h_bc : (kpM M o h) 17 0 10 = nI x.2.2.2.2.1 := by rw [hP9]; rfl
    have h_fr : (kpM M o h) 17 0 11 = x.2.2.2.1 := by rw [hP9]; rfl
    have h_he : (kpM M o h) 17 1 = x.2.1 := by rw [hP9]; rfl
    have h_gu : (kpM M o h) 17 2 = x.2.2.1 := by rw [hP9]; rfl
    have h_be : (kpM M o h) 17 3 = be := by rw [hP9]; rfl
    have h_nl : (kpM M o h) 17 5 = x.2.2.2.2.2.1 := by rw [hP9]; rfl
    have h_bh : (kpM M o h) 17 6 = x.2.2.2.2.2.2.2.1 := by rw [hP9]; rfl
    have h_fp : (kpM M o h) 17 7 = x.2.2.2.2.2.2.1 := by rw [hP9]; rfl
    have h_n0 : (kpM M o h) 17 8 = x.2.2.2.2.2.2.2.2 0 := by rw [hP9]; rfl
    have h_n1 : (kpM M o h) 17 9 = x.2.2.2.2.2.2.2.2 1 := by rw [hP9]; rfl
    have h_n2 : (kpM M o h) 17 10 = x.2.2.2.2.2.2.2.2 2 := by rw [hP9]; rfl
    have h_n3 : (kpM M o h) 17 11 = x.2.2.2.2.2.2.2.2 3 := by rw [hP9]; rfl
    refine r_aload_n E (dat dkX9_setRain 9 rfl) rfl rfl ?_
    refine q_getl E fl_X9_26 (dat dkX9_setRain 10 rfl) rfl rfl rfl ?_
    refine q_getn E fl_X9_138 (dat dkX9_setRain 11 rfl) rfl rfl rfl rfl ?_
    refine r_istore_2 E (dat dkX9_setRain 12 rfl) rfl rfl ?_
    refine r_aload_n E (dat dkX9_setRain 13 rfl) rfl rfl ?_
    refine q_getl E fl_X9_26 (dat dkX9_setRain 14 rfl) rfl rfl rfl ?_
    refine r_iload_n E (dat dkX9_setRain 15 rfl) rfl rfl ?_
    refine q_putn E ft_X9_138 (dat dkX9_setRain 16 rfl) rfl rfl rfl rfl ?_
    refine r_iload_n E (dat dkX9_setRain 17 rfl) rfl rfl ?_
    refine r_xq ?_
    refine r_ireturn E (dat dkX9_setRain 18 rfl) (by decide) (by decide) ?_
    refine ⟨⟨hlo, hhi⟩, ?_, ?_⟩
    · rw [raT_eq]; show setm (kpM M o h) 3 (raT (kpM M o h 3) a) = _; rw [e3]
    · rw [← e3]; rfl
  ·
    have h_ro : M 18 0 7 = nI x.1.1 := by rw [hP]; rfl
    have h_co : M 18 0 8 = nI x.1.2.1 := by rw [hP]; rfl
    have h_ce : M 18 0 9 = nI x.1.2.2 := by rw [hP]; rfl
    have h_bc : M 18 0 10 = nI x.2.2.2.2.1 := by rw [hP]; rfl
    have h_fr : M 18 0 11 = x.2.2.2.1 := by rw [hP]; rfl
    have h_he : M 18 1 = x.2.1 := by rw [hP]; rfl
    have h_gu : M 18 2 = x.2.2.1 := by rw [hP]; rfl
    have h_be : M 18 3 = be := by rw [hP]; rfl
    have h_nl : M 18 5 = x.2.2.2.2.2.1 := by rw [hP]; rfl
    have h_bh : M 18 6 = x.2.2.2.2.2.2.2.1 := by rw [hP]; rfl
    have h_fp : M 18 7 = x.2.2.2.2.2.2.1 := by rw [hP]; rfl
    have h_n0 : M 18 8 = x.2.2.2.2.2.2.2.2 0 := by rw [hP]; rfl
    have h_n1 : M 18 9 = x.2.2.2.2.2.2.2.2 1 := by rw [hP]; rfl
    have h_n2 : M 18 10 = x.2.2.2.2.2.2.2.2 2 := by rw [hP]; rfl
    have h_n3 : M 18 11 = x.2.2.2.2.2.2.2.2 3 := by rw [hP]; rfl
    have hn64 := (PIv_z hx).1
    
    refine r_iload_n E (dat dkX9_setRain 0 rfl) rfl rfl ?_
    refine r_iconst (v := 0) E (dat dkX9_setRain 1 rfl) rfl ?_
    refine r_bipush (v := 9) E (dat dkX9_setRain 2 rfl) rfl ?_
    refine r_callSX (μ := []) E hnt (sp_X9_requireRange l hst G (a) (0) (9) _) my_X9_requireRange is_X9_requireRange ml_X9_174 cm_nil rfl rfl (by decide) (Nat.le_of_ble_eq_true rfl) (dat dkX9_setRain 3 rfl) (by decide) (by decide) (fun E M9 h => ⟨M, Mrg_z h.2.1, rfl, h.1, h.2.2⟩) ?_
    rintro _ _ ⟨rfl, hM9, hlo, hhi⟩
    refine ⟨_, Mrg_z hM9, ?_⟩
    clear hM9
    refine r_aload_n E (dat dkX9_setRain 4 rfl) rfl rfl ?_
    refine q_getl E fl_X9_39 (dat dkX9_setRain 5 rfl) rfl rfl rfl ?_
    refine r_aload_n E (dat dkX9_setRain 6 rfl) rfl rfl ?_
    refine q_getl E fl_X9_26 (dat dkX9_setRain 7 rfl) rfl rfl rfl ?_
    refine r_callV (κ := 7) (μ := [6, 3, 7, 8, 9, 10, 11, 12, 13, 14]) E (sp_X1_keep l G (M 6) o h (M 6 1) _ (by show M 6 = _; rw [← ho1, ← hh1]; exact (evH _).symm) ho8 hh8 hwt) my_X1_keep iv_X1_keep ml_X9_112 (cm_of rfl) ⟨by decide, rfl, rfl⟩ rfl rfl rfl rfl (by decide) (Nat.le_of_ble_eq_true rfl) (dat dkX9_setRain 8 rfl) ?_
    rintro _ _ ⟨rfl, hM9⟩
    refine ⟨_, (show Mrg _ _ M _ (kpM M o h) from Mrg_kp hM9), ?_⟩
    clear hM9
    have e3 : kpM M o h 3 = M 3 := kpM_ne (by decide) (by decide)
    have e0 : kpM M o h 0 = M 0 := kpM_ne (by decide) (by decide)
    have hP9 : kpM M o h 18 = vPx BP be nm x := (kpM_ne (by decide) (by decide)).trans hP
    have hpn : (kpM M o h 0 0 9).toNatClampNeg = 18 := by rw [e0]; exact hpn
    have h_ro : (kpM M o h) 18 0 7 = nI x.1.1 := by rw [hP9]; rfl
    have h_co : (kpM M o h) 18 0 8 = nI x.1.2.1 := by rw [hP9]; rfl
    have h_ce : (kpM M o h) 18 0 9 = nI x.1.2.2 := by rw [hP9]; rfl
    have h_bc : (kpM M o h) 18 0 10 = nI x.2.2.2.2.1 := by rw [hP9]; rfl
    have h_fr : (kpM M o h) 18 0 11 = x.2.2.2.1 := by rw [hP9]; rfl
    have h_he : (kpM M o h) 18 1 = x.2.1 := by rw [hP9]; rfl
    have h_gu : (kpM M o h) 18 2 = x.2.2.1 := by rw [hP9]; rfl
    have h_be : (kpM M o h) 18 3 = be := by rw [hP9]; rfl
    have h_nl : (kpM M o h) 18 5 = x.2.2.2.2.2.1 := by rw [hP9]; rfl
    have h_bh : (kpM M o h) 18 6 = x.2.2.2.2.2.2.2.1 := by rw [hP9]; rfl
    have h_fp : (kpM M o h) 18 7 = x.2.2.2.2.2.2.1 := by rw [hP9]; rfl
    have h_n0 : (kpM M o h) 18 8 = x.2.2.2.2.2.2.2.2 0 := by rw [hP9]; rfl
    have h_n1 : (kpM M o h) 18 9 = x.2.2.2.2.2.2.2.2 1 := by rw [hP9]; rfl
    have h_n2 : (kpM M o h) 18 10 = x.2.2.2.2.2.2.2.2 2 := by rw [hP9]; rfl
    have h_n3 : (kpM M o h) 18 11 = x.2.2.2.2.2.2.2.2 3 := by rw [hP9]; rfl
    refine r_aload_n E (dat dkX9_setRain 9 rfl) rfl rfl ?_
    refine q_getl E fl_X9_26 (dat dkX9_setRain 10 rfl) rfl rfl rfl ?_
    refine q_getn E fl_X9_138 (dat dkX9_setRain 11 rfl) rfl rfl rfl rfl ?_
    refine r_istore_2 E (dat dkX9_setRain 12 rfl) rfl rfl ?_
    refine r_aload_n E (dat dkX9_setRain 13 rfl) rfl rfl ?_
    refine q_getl E fl_X9_26 (dat dkX9_setRain 14 rfl) rfl rfl rfl ?_
    refine r_iload_n E (dat dkX9_setRain 15 rfl) rfl rfl ?_
    refine q_putn E ft_X9_138 (dat dkX9_setRain 16 rfl) rfl rfl rfl rfl ?_
    refine r_iload_n E (dat dkX9_setRain 17 rfl) rfl rfl ?_
    refine r_xq ?_
    refine r_ireturn E (dat dkX9_setRain 18 rfl) (by decide) (by decide) ?_
    refine ⟨⟨hlo, hhi⟩, ?_, ?_⟩
    · rw [raT_eq]; show setm (kpM M o h) 3 (raT (kpM M o h 3) a) = _; rw [e3]
    · rw [← e3]; rfl

set_option maxRecDepth 100000 in
set_option maxHeartbeats 4000000 in
theorem sp_X9_burst (l : Launch) (hst : l.stackTraces = false) (G : GT) (BP : Nat → Nat → Int32) (be nm : Nat → Int32) (x : PP) (q : Nat) (o h : Nat) (a d f : Int32) (M : Mem) (hpn : (M 0 0 9).toNatClampNeg = q) (hq : q = 17 ∨ q = 18) (hP : M q = vPx BP be nm x) (hx : PIv x) (ho1 : M 6 0 1 = nI o) (hh1 : M 6 0 2 = nI h) (ho8 : o < 8) (hh8 : h ≤ 8) (hwt : WTi (M 3)) : MCx l G yX9_burst cX9_burst 4 (some .int) ({ frames := 7, cells := 16, slots := 96, locals := 104 } : Room) KC lkC [rv 0 0, iv a, iv d, iv f] (M) (fun r M2 => ∃ c, c < x.1.2.2 ∧ a = nI c ∧ (1 ≤ d ∧ d ≤ 20) ∧ (1 ≤ f ∧ f ≤ 60) ∧ opI (M 3 4 c) = 0 ∧ M2 = setm (kpM M o h) 3 (opT (M 3) c d f) ∧ r = some (iv (sm (cO (opT (M 3) c d f 4)) x.1.2.2))) (fun E M2 => M2 = M ∧ ((E = oobN ∧ ¬ okc x a) ∨ (E = argN ∧ okc x a ∧ ¬ ((1 ≤ d ∧ d ≤ 20) ∧ (1 ≤ f ∧ f ≤ 60))) ∨ (E = steN ∧ ∃ c, c < x.1.2.2 ∧ a = nI c ∧ (1 ≤ d ∧ d ≤ 20) ∧ (1 ≤ f ∧ f ≤ 60) ∧ ¬ opI (M 3 4 c) = 0))) := by
  refine MCx.of RX9 [some (rv 0 0), some (iv a), some (iv d), some (iv f)] 0 (by decide +kernel) rfl rfl rfl ?_
  intro pp ee ss mm aa bb me cd ad E hnt
  rcases hq with rfl | rfl
  ·
    have h_ro : M 17 0 7 = nI x.1.1 := by rw [hP]; rfl
    have h_co : M 17 0 8 = nI x.1.2.1 := by rw [hP]; rfl
    have h_ce : M 17 0 9 = nI x.1.2.2 := by rw [hP]; rfl
    have h_bc : M 17 0 10 = nI x.2.2.2.2.1 := by rw [hP]; rfl
    have h_fr : M 17 0 11 = x.2.2.2.1 := by rw [hP]; rfl
    have h_he : M 17 1 = x.2.1 := by rw [hP]; rfl
    have h_gu : M 17 2 = x.2.2.1 := by rw [hP]; rfl
    have h_be : M 17 3 = be := by rw [hP]; rfl
    have h_nl : M 17 5 = x.2.2.2.2.2.1 := by rw [hP]; rfl
    have h_bh : M 17 6 = x.2.2.2.2.2.2.2.1 := by rw [hP]; rfl
    have h_fp : M 17 7 = x.2.2.2.2.2.2.1 := by rw [hP]; rfl
    have h_n0 : M 17 8 = x.2.2.2.2.2.2.2.2 0 := by rw [hP]; rfl
    have h_n1 : M 17 9 = x.2.2.2.2.2.2.2.2 1 := by rw [hP]; rfl
    have h_n2 : M 17 10 = x.2.2.2.2.2.2.2.2 2 := by rw [hP]; rfl
    have h_n3 : M 17 11 = x.2.2.2.2.2.2.2.2 3 := by rw [hP]; rfl
    have hn64 := (PIv_z hx).1
    
    refine r_aload_n E (dat dkX9_burst 0 rfl) rfl rfl ?_
    refine r_iload_n E (dat dkX9_burst 1 rfl) rfl rfl ?_
    refine r_callVX (κ := 8) (μ := []) E hnt (sp_X9_requireCell l hst G BP be nm x 17 a M hpn (Or.inl rfl) hP hx) my_X9_requireCell iv_X9_requireCell ml_X9_141 cm_id ⟨by decide, rfl, rfl⟩ rfl rfl rfl rfl (by decide) (Nat.le_of_ble_eq_true rfl) (dat dkX9_burst 2 rfl) (by decide) (by decide) (fun E M9 h => ⟨M, Mrg_z h.2.1, rfl, Or.inl ⟨h.1, h.2.2⟩⟩) ?_
    rintro _ _ ⟨rfl, hM9, c, hc, rfl⟩
    refine ⟨_, Mrg_z hM9, ?_⟩
    clear hM9
    have hc64 : c < 64 := by omega
    refine r_iload_n E (dat dkX9_burst 3 rfl) rfl rfl ?_
    refine r_iconst (v := 1) E (dat dkX9_burst 4 rfl) rfl ?_
    refine r_bipush (v := 20) E (dat dkX9_burst 5 rfl) rfl ?_
    refine r_callSX (μ := []) E hnt (sp_X9_requireRange l hst G (d) (1) (20) _) my_X9_requireRange is_X9_requireRange ml_X9_174 cm_nil rfl rfl (by decide) (Nat.le_of_ble_eq_true rfl) (dat dkX9_burst 6 rfl) (by decide) (by decide) (fun E M9 h => ⟨M, Mrg_z h.2.1, rfl, Or.inr (Or.inl ⟨h.1, ⟨c, hc, rfl⟩, fun w => h.2.2 w.1⟩)⟩) ?_
    rintro _ _ ⟨rfl, hM9, hlo, hhi⟩
    refine ⟨_, Mrg_z hM9, ?_⟩
    clear hM9
    refine r_iload_n E (dat dkX9_burst 7 rfl) rfl rfl ?_
    refine r_iconst (v := 1) E (dat dkX9_burst 8 rfl) rfl ?_
    refine r_bipush (v := 60) E (dat dkX9_burst 9 rfl) rfl ?_
    refine r_callSX (μ := []) E hnt (sp_X9_requireRange l hst G (f) (1) (60) _) my_X9_requireRange is_X9_requireRange ml_X9_174 cm_nil rfl rfl (by decide) (Nat.le_of_ble_eq_true rfl) (dat dkX9_burst 10 rfl) (by decide) (by decide) (fun E M9 h => ⟨M, Mrg_z h.2.1, rfl, Or.inr (Or.inl ⟨h.1, ⟨c, hc, rfl⟩, fun w => h.2.2 w.2⟩)⟩) ?_
    rintro _ _ ⟨rfl, hM9, hlo2, hhi2⟩
    refine ⟨_, Mrg_z hM9, ?_⟩
    clear hM9
    refine r_aload_n E (dat dkX9_burst 11 rfl) rfl rfl ?_
    refine q_getl E fl_X9_26 (dat dkX9_burst 12 rfl) rfl rfl rfl ?_
    refine r_iload_n E (dat dkX9_burst 13 rfl) rfl rfl ?_
    refine r_callV (κ := 1) (μ := [3]) E (tp_X5_isOpen l G (M 3) c _ rfl hc64) my_X5_isOpen iv_X5_isOpen ml_X9_258 (cm_of rfl) ⟨by decide, rfl, rfl⟩ rfl rfl rfl rfl (by decide) (Nat.le_of_ble_eq_true rfl) (dat dkX9_burst 14 rfl) ?_
    rintro _ _ ⟨rfl, rfl⟩
    refine ⟨_, Mrg_z rfl, ?_⟩
    refine r_if_ne (tgt := 34) E (dat dkX9_burst 15 rfl) rfl (fun h27 => ?_) (fun h27 => ?_)
    ·
      refine r_iconst (v := 0) E (dat dkX9_burst 18 rfl) rfl ?_
      refine r_callSX (μ := []) E hnt (sp_X9_requireState l hst G 0 _) my_X9_requireState is_X9_requireState ml_X9_262 cm_nil rfl rfl (by decide) (Nat.le_of_ble_eq_true rfl) (dat dkX9_burst 19 rfl) (by decide) (by decide) (fun E M9 h9 => ⟨M, Mrg_z h9.2.1, rfl, by first | exact Or.inr (Or.inr ⟨h9.1, c, hc, rfl, ⟨hlo, hhi⟩, ⟨hlo2, hhi2⟩, h27⟩) | exact absurd h9.2.2 (by decide)⟩) ?_
      rintro _ _ ⟨rfl, hM9, hne⟩
      exact absurd rfl hne
    ·
      refine r_iconst (v := 1) E (dat dkX9_burst 16 rfl) rfl ?_
      refine r_goto (tgt := 35) E (dat dkX9_burst 17 rfl) rfl ?_
      refine r_callSX (μ := []) E hnt (sp_X9_requireState l hst G (1) _) my_X9_requireState is_X9_requireState ml_X9_262 cm_nil rfl rfl (by decide) (Nat.le_of_ble_eq_true rfl) (dat dkX9_burst 19 rfl) (by decide) (by decide) (fun E M9 h9 => ⟨M, Mrg_z h9.2.1, rfl, by first | exact Or.inr (Or.inr ⟨h9.1, c, hc, rfl, ⟨hlo, hhi⟩, ⟨hlo2, hhi2⟩, h27⟩) | exact absurd h9.2.2 (by decide)⟩) ?_
      rintro _ _ ⟨rfl, hM9, hne⟩
      refine ⟨_, Mrg_z hM9, ?_⟩
      clear hM9
      refine r_aload_n E (dat dkX9_burst 20 rfl) rfl rfl ?_
      refine q_getl E fl_X9_39 (dat dkX9_burst 21 rfl) rfl rfl rfl ?_
      refine r_aload_n E (dat dkX9_burst 22 rfl) rfl rfl ?_
      refine q_getl E fl_X9_26 (dat dkX9_burst 23 rfl) rfl rfl rfl ?_
      refine r_callV (κ := 7) (μ := [6, 3, 7, 8, 9, 10, 11, 12, 13, 14]) E (sp_X1_keep l G (M 6) o h (M 6 1) _ (by show M 6 = _; rw [← ho1, ← hh1]; exact (evH _).symm) ho8 hh8 hwt) my_X1_keep iv_X1_keep ml_X9_112 (cm_of rfl) ⟨by decide, rfl, rfl⟩ rfl rfl rfl rfl (by decide) (Nat.le_of_ble_eq_true rfl) (dat dkX9_burst 24 rfl) ?_
      rintro _ _ ⟨rfl, hM9⟩
      refine ⟨_, (show Mrg _ _ M _ (kpM M o h) from Mrg_kp hM9), ?_⟩
      clear hM9
      have e3 : kpM M o h 3 = M 3 := kpM_ne (by decide) (by decide)
      have e0 : kpM M o h 0 = M 0 := kpM_ne (by decide) (by decide)
      have hP9 : kpM M o h 17 = vPx BP be nm x := (kpM_ne (by decide) (by decide)).trans hP
      have hpn : (kpM M o h 0 0 9).toNatClampNeg = 17 := by rw [e0]; exact hpn
      have h_ro : (kpM M o h) 17 0 7 = nI x.1.1 := by rw [hP9]; rfl
      have h_co : (kpM M o h) 17 0 8 = nI x.1.2.1 := by rw [hP9]; rfl
      have h_ce : (kpM M o h) 17 0 9 = nI x.1.2.2 := by rw [hP9]; rfl
      have h_bc : (kpM M o h) 17 0 10 = nI x.2.2.2.2.1 := by rw [hP9]; rfl
      have h_fr : (kpM M o h) 17 0 11 = x.2.2.2.1 := by rw [hP9]; rfl
      have h_he : (kpM M o h) 17 1 = x.2.1 := by rw [hP9]; rfl
      have h_gu : (kpM M o h) 17 2 = x.2.2.1 := by rw [hP9]; rfl
      have h_be : (kpM M o h) 17 3 = be := by rw [hP9]; rfl
      have h_nl : (kpM M o h) 17 5 = x.2.2.2.2.2.1 := by rw [hP9]; rfl
      have h_bh : (kpM M o h) 17 6 = x.2.2.2.2.2.2.2.1 := by rw [hP9]; rfl
      have h_fp : (kpM M o h) 17 7 = x.2.2.2.2.2.2.1 := by rw [hP9]; rfl
      have h_n0 : (kpM M o h) 17 8 = x.2.2.2.2.2.2.2.2 0 := by rw [hP9]; rfl
      have h_n1 : (kpM M o h) 17 9 = x.2.2.2.2.2.2.2.2 1 := by rw [hP9]; rfl
      have h_n2 : (kpM M o h) 17 10 = x.2.2.2.2.2.2.2.2 2 := by rw [hP9]; rfl
      have h_n3 : (kpM M o h) 17 11 = x.2.2.2.2.2.2.2.2 3 := by rw [hP9]; rfl
      refine r_aload_n E (dat dkX9_burst 25 rfl) rfl rfl ?_
      refine q_getl E fl_X9_26 (dat dkX9_burst 26 rfl) rfl rfl rfl ?_
      refine r_iload_n E (dat dkX9_burst 27 rfl) rfl rfl ?_
      refine r_iload_n E (dat dkX9_burst 28 rfl) rfl rfl ?_
      refine r_iload_n E (dat dkX9_burst 29 rfl) rfl rfl ?_
      refine r_callV (κ := 1) (μ := [3]) E (tp_X5_openHydrant l G (M 3) c d f _ e3 hc64) my_X5_openHydrant iv_X5_openHydrant ml_X9_266 (cm_of rfl) ⟨by decide, rfl, rfl⟩ rfl rfl rfl rfl (by decide) (Nat.le_of_ble_eq_true rfl) (dat dkX9_burst 30 rfl) ?_
      rintro _ _ ⟨rfl, rfl⟩
      refine ⟨_, (show Mrg _ _ (kpM M o h) _ (setm (kpM M o h) 3 (opT (M 3) c d f)) from Mrg_e (i := 0) (by decide) (by decide) rfl rfl), ?_⟩
      refine r_aload_n E (dat dkX9_burst 31 rfl) rfl rfl ?_
      refine q_getl E fl_X9_26 (dat dkX9_burst 32 rfl) rfl rfl rfl ?_
      refine r_aload_n E (dat dkX9_burst 33 rfl) rfl rfl ?_
      refine q_getd E fl_X9_64 (dat dkX9_burst 34 rfl) rfl rfl rfl hpn ?_
      refine r_callV (κ := 1) (μ := [3, 17]) E (tp_X5_countOpen l G (opT (M 3) c d f) BP be nm x _ rfl hP9 hx) my_X5_countOpen iv_X5_countOpen ml_X9_269 (cm_of rfl) ⟨by decide, rfl, rfl⟩ rfl rfl rfl rfl (by decide) (Nat.le_of_ble_eq_true rfl) (dat dkX9_burst 35 rfl) ?_
      rintro _ _ ⟨rfl, rfl⟩
      refine ⟨_, Mrg_z rfl, ?_⟩
      refine r_xq ?_
      refine r_ireturn E (dat dkX9_burst 36 rfl) (by decide) (by decide) ?_
      exact ⟨c, hc, rfl, ⟨hlo, hhi⟩, ⟨hlo2, hhi2⟩, by first | exact h27 | exact Decidable.not_not.mp h27, rfl, rfl⟩
  ·
    have h_ro : M 18 0 7 = nI x.1.1 := by rw [hP]; rfl
    have h_co : M 18 0 8 = nI x.1.2.1 := by rw [hP]; rfl
    have h_ce : M 18 0 9 = nI x.1.2.2 := by rw [hP]; rfl
    have h_bc : M 18 0 10 = nI x.2.2.2.2.1 := by rw [hP]; rfl
    have h_fr : M 18 0 11 = x.2.2.2.1 := by rw [hP]; rfl
    have h_he : M 18 1 = x.2.1 := by rw [hP]; rfl
    have h_gu : M 18 2 = x.2.2.1 := by rw [hP]; rfl
    have h_be : M 18 3 = be := by rw [hP]; rfl
    have h_nl : M 18 5 = x.2.2.2.2.2.1 := by rw [hP]; rfl
    have h_bh : M 18 6 = x.2.2.2.2.2.2.2.1 := by rw [hP]; rfl
    have h_fp : M 18 7 = x.2.2.2.2.2.2.1 := by rw [hP]; rfl
    have h_n0 : M 18 8 = x.2.2.2.2.2.2.2.2 0 := by rw [hP]; rfl
    have h_n1 : M 18 9 = x.2.2.2.2.2.2.2.2 1 := by rw [hP]; rfl
    have h_n2 : M 18 10 = x.2.2.2.2.2.2.2.2 2 := by rw [hP]; rfl
    have h_n3 : M 18 11 = x.2.2.2.2.2.2.2.2 3 := by rw [hP]; rfl
    have hn64 := (PIv_z hx).1
    
    refine r_aload_n E (dat dkX9_burst 0 rfl) rfl rfl ?_
    refine r_iload_n E (dat dkX9_burst 1 rfl) rfl rfl ?_
    refine r_callVX (κ := 8) (μ := []) E hnt (sp_X9_requireCell l hst G BP be nm x 18 a M hpn (Or.inr rfl) hP hx) my_X9_requireCell iv_X9_requireCell ml_X9_141 cm_id ⟨by decide, rfl, rfl⟩ rfl rfl rfl rfl (by decide) (Nat.le_of_ble_eq_true rfl) (dat dkX9_burst 2 rfl) (by decide) (by decide) (fun E M9 h => ⟨M, Mrg_z h.2.1, rfl, Or.inl ⟨h.1, h.2.2⟩⟩) ?_
    rintro _ _ ⟨rfl, hM9, c, hc, rfl⟩
    refine ⟨_, Mrg_z hM9, ?_⟩
    clear hM9
    have hc64 : c < 64 := by omega
    refine r_iload_n E (dat dkX9_burst 3 rfl) rfl rfl ?_
    refine r_iconst (v := 1) E (dat dkX9_burst 4 rfl) rfl ?_
    refine r_bipush (v := 20) E (dat dkX9_burst 5 rfl) rfl ?_
    refine r_callSX (μ := []) E hnt (sp_X9_requireRange l hst G (d) (1) (20) _) my_X9_requireRange is_X9_requireRange ml_X9_174 cm_nil rfl rfl (by decide) (Nat.le_of_ble_eq_true rfl) (dat dkX9_burst 6 rfl) (by decide) (by decide) (fun E M9 h => ⟨M, Mrg_z h.2.1, rfl, Or.inr (Or.inl ⟨h.1, ⟨c, hc, rfl⟩, fun w => h.2.2 w.1⟩)⟩) ?_
    rintro _ _ ⟨rfl, hM9, hlo, hhi⟩
    refine ⟨_, Mrg_z hM9, ?_⟩
    clear hM9
    refine r_iload_n E (dat dkX9_burst 7 rfl) rfl rfl ?_
    refine r_iconst (v := 1) E (dat dkX9_burst 8 rfl) rfl ?_
    refine r_bipush (v := 60) E (dat dkX9_burst 9 rfl) rfl ?_
    refine r_callSX (μ := []) E hnt (sp_X9_requireRange l hst G (f) (1) (60) _) my_X9_requireRange is_X9_requireRange ml_X9_174 cm_nil rfl rfl (by decide) (Nat.le_of_ble_eq_true rfl) (dat dkX9_burst 10 rfl) (by decide) (by decide) (fun E M9 h => ⟨M, Mrg_z h.2.1, rfl, Or.inr (Or.inl ⟨h.1, ⟨c, hc, rfl⟩, fun w => h.2.2 w.2⟩)⟩) ?_
    rintro _ _ ⟨rfl, hM9, hlo2, hhi2⟩
    refine ⟨_, Mrg_z hM9, ?_⟩
    clear hM9
    refine r_aload_n E (dat dkX9_burst 11 rfl) rfl rfl ?_
    refine q_getl E fl_X9_26 (dat dkX9_burst 12 rfl) rfl rfl rfl ?_
    refine r_iload_n E (dat dkX9_burst 13 rfl) rfl rfl ?_
    refine r_callV (κ := 1) (μ := [3]) E (tp_X5_isOpen l G (M 3) c _ rfl hc64) my_X5_isOpen iv_X5_isOpen ml_X9_258 (cm_of rfl) ⟨by decide, rfl, rfl⟩ rfl rfl rfl rfl (by decide) (Nat.le_of_ble_eq_true rfl) (dat dkX9_burst 14 rfl) ?_
    rintro _ _ ⟨rfl, rfl⟩
    refine ⟨_, Mrg_z rfl, ?_⟩
    refine r_if_ne (tgt := 34) E (dat dkX9_burst 15 rfl) rfl (fun h27 => ?_) (fun h27 => ?_)
    ·
      refine r_iconst (v := 0) E (dat dkX9_burst 18 rfl) rfl ?_
      refine r_callSX (μ := []) E hnt (sp_X9_requireState l hst G 0 _) my_X9_requireState is_X9_requireState ml_X9_262 cm_nil rfl rfl (by decide) (Nat.le_of_ble_eq_true rfl) (dat dkX9_burst 19 rfl) (by decide) (by decide) (fun E M9 h9 => ⟨M, Mrg_z h9.2.1, rfl, by first | exact Or.inr (Or.inr ⟨h9.1, c, hc, rfl, ⟨hlo, hhi⟩, ⟨hlo2, hhi2⟩, h27⟩) | exact absurd h9.2.2 (by decide)⟩) ?_
      rintro _ _ ⟨rfl, hM9, hne⟩
      exact absurd rfl hne
    ·
      refine r_iconst (v := 1) E (dat dkX9_burst 16 rfl) rfl ?_
      refine r_goto (tgt := 35) E (dat dkX9_burst 17 rfl) rfl ?_
      refine r_callSX (μ := []) E hnt (sp_X9_requireState l hst G (1) _) my_X9_requireState is_X9_requireState ml_X9_262 cm_nil rfl rfl (by decide) (Nat.le_of_ble_eq_true rfl) (dat dkX9_burst 19 rfl) (by decide) (by decide) (fun E M9 h9 => ⟨M, Mrg_z h9.2.1, rfl, by first | exact Or.inr (Or.inr ⟨h9.1, c, hc, rfl, ⟨hlo, hhi⟩, ⟨hlo2, hhi2⟩, h27⟩) | exact absurd h9.2.2 (by decide)⟩) ?_
      rintro _ _ ⟨rfl, hM9, hne⟩
      refine ⟨_, Mrg_z hM9, ?_⟩
      clear hM9
      refine r_aload_n E (dat dkX9_burst 20 rfl) rfl rfl ?_
      refine q_getl E fl_X9_39 (dat dkX9_burst 21 rfl) rfl rfl rfl ?_
      refine r_aload_n E (dat dkX9_burst 22 rfl) rfl rfl ?_
      refine q_getl E fl_X9_26 (dat dkX9_burst 23 rfl) rfl rfl rfl ?_
      refine r_callV (κ := 7) (μ := [6, 3, 7, 8, 9, 10, 11, 12, 13, 14]) E (sp_X1_keep l G (M 6) o h (M 6 1) _ (by show M 6 = _; rw [← ho1, ← hh1]; exact (evH _).symm) ho8 hh8 hwt) my_X1_keep iv_X1_keep ml_X9_112 (cm_of rfl) ⟨by decide, rfl, rfl⟩ rfl rfl rfl rfl (by decide) (Nat.le_of_ble_eq_true rfl) (dat dkX9_burst 24 rfl) ?_
      rintro _ _ ⟨rfl, hM9⟩
      refine ⟨_, (show Mrg _ _ M _ (kpM M o h) from Mrg_kp hM9), ?_⟩
      clear hM9
      have e3 : kpM M o h 3 = M 3 := kpM_ne (by decide) (by decide)
      have e0 : kpM M o h 0 = M 0 := kpM_ne (by decide) (by decide)
      have hP9 : kpM M o h 18 = vPx BP be nm x := (kpM_ne (by decide) (by decide)).trans hP
      have hpn : (kpM M o h 0 0 9).toNatClampNeg = 18 := by rw [e0]; exact hpn
      have h_ro : (kpM M o h) 18 0 7 = nI x.1.1 := by rw [hP9]; rfl
      have h_co : (kpM M o h) 18 0 8 = nI x.1.2.1 := by rw [hP9]; rfl
      have h_ce : (kpM M o h) 18 0 9 = nI x.1.2.2 := by rw [hP9]; rfl
      have h_bc : (kpM M o h) 18 0 10 = nI x.2.2.2.2.1 := by rw [hP9]; rfl
      have h_fr : (kpM M o h) 18 0 11 = x.2.2.2.1 := by rw [hP9]; rfl
      have h_he : (kpM M o h) 18 1 = x.2.1 := by rw [hP9]; rfl
      have h_gu : (kpM M o h) 18 2 = x.2.2.1 := by rw [hP9]; rfl
      have h_be : (kpM M o h) 18 3 = be := by rw [hP9]; rfl
      have h_nl : (kpM M o h) 18 5 = x.2.2.2.2.2.1 := by rw [hP9]; rfl
      have h_bh : (kpM M o h) 18 6 = x.2.2.2.2.2.2.2.1 := by rw [hP9]; rfl
      have h_fp : (kpM M o h) 18 7 = x.2.2.2.2.2.2.1 := by rw [hP9]; rfl
      have h_n0 : (kpM M o h) 18 8 = x.2.2.2.2.2.2.2.2 0 := by rw [hP9]; rfl
      have h_n1 : (kpM M o h) 18 9 = x.2.2.2.2.2.2.2.2 1 := by rw [hP9]; rfl
      have h_n2 : (kpM M o h) 18 10 = x.2.2.2.2.2.2.2.2 2 := by rw [hP9]; rfl
      have h_n3 : (kpM M o h) 18 11 = x.2.2.2.2.2.2.2.2 3 := by rw [hP9]; rfl
      refine r_aload_n E (dat dkX9_burst 25 rfl) rfl rfl ?_
      refine q_getl E fl_X9_26 (dat dkX9_burst 26 rfl) rfl rfl rfl ?_
      refine r_iload_n E (dat dkX9_burst 27 rfl) rfl rfl ?_
      refine r_iload_n E (dat dkX9_burst 28 rfl) rfl rfl ?_
      refine r_iload_n E (dat dkX9_burst 29 rfl) rfl rfl ?_
      refine r_callV (κ := 1) (μ := [3]) E (tp_X5_openHydrant l G (M 3) c d f _ e3 hc64) my_X5_openHydrant iv_X5_openHydrant ml_X9_266 (cm_of rfl) ⟨by decide, rfl, rfl⟩ rfl rfl rfl rfl (by decide) (Nat.le_of_ble_eq_true rfl) (dat dkX9_burst 30 rfl) ?_
      rintro _ _ ⟨rfl, rfl⟩
      refine ⟨_, (show Mrg _ _ (kpM M o h) _ (setm (kpM M o h) 3 (opT (M 3) c d f)) from Mrg_e (i := 0) (by decide) (by decide) rfl rfl), ?_⟩
      refine r_aload_n E (dat dkX9_burst 31 rfl) rfl rfl ?_
      refine q_getl E fl_X9_26 (dat dkX9_burst 32 rfl) rfl rfl rfl ?_
      refine r_aload_n E (dat dkX9_burst 33 rfl) rfl rfl ?_
      refine q_getd E fl_X9_64 (dat dkX9_burst 34 rfl) rfl rfl rfl hpn ?_
      refine r_callV (κ := 1) (μ := [3, 18]) E (tp_X5_countOpen l G (opT (M 3) c d f) BP be nm x _ rfl hP9 hx) my_X5_countOpen iv_X5_countOpen ml_X9_269 (cm_of rfl) ⟨by decide, rfl, rfl⟩ rfl rfl rfl rfl (by decide) (Nat.le_of_ble_eq_true rfl) (dat dkX9_burst 35 rfl) ?_
      rintro _ _ ⟨rfl, rfl⟩
      refine ⟨_, Mrg_z rfl, ?_⟩
      refine r_xq ?_
      refine r_ireturn E (dat dkX9_burst 36 rfl) (by decide) (by decide) ?_
      exact ⟨c, hc, rfl, ⟨hlo, hhi⟩, ⟨hlo2, hhi2⟩, by first | exact h27 | exact Decidable.not_not.mp h27, rfl, rfl⟩

set_option maxRecDepth 100000 in
set_option maxHeartbeats 4000000 in
theorem sp_X9_shut (l : Launch) (hst : l.stackTraces = false) (G : GT) (BP : Nat → Nat → Int32) (be nm : Nat → Int32) (x : PP) (q : Nat) (o h : Nat) (a : Int32) (M : Mem) (hpn : (M 0 0 9).toNatClampNeg = q) (hq : q = 17 ∨ q = 18) (hP : M q = vPx BP be nm x) (hx : PIv x) (ho1 : M 6 0 1 = nI o) (hh1 : M 6 0 2 = nI h) (ho8 : o < 8) (hh8 : h ≤ 8) (hwt : WTi (M 3)) : MCx l G yX9_shut cX9_shut 2 (some .int) ({ frames := 7, cells := 6, slots := 36, locals := 103 } : Room) KC lkC [rv 0 0, iv a] (M) (fun r M2 => ∃ c, c < x.1.2.2 ∧ a = nI c ∧ ¬ opI (M 3 4 c) = 0 ∧ M2 = setm (kpM M o h) 3 (shT (M 3) c) ∧ r = some (iv (M 3 4 c))) (fun E M2 => M2 = M ∧ ((E = oobN ∧ ¬ okc x a) ∨ (E = steN ∧ ∃ c, c < x.1.2.2 ∧ a = nI c ∧ opI (M 3 4 c) = 0))) := by
  refine MCx.of RX9 [some (rv 0 0), some (iv a)] 0 (by decide +kernel) rfl rfl rfl ?_
  intro pp ee ss mm aa bb me cd ad E hnt
  rcases hq with rfl | rfl
  ·
    have h_ro : M 17 0 7 = nI x.1.1 := by rw [hP]; rfl
    have h_co : M 17 0 8 = nI x.1.2.1 := by rw [hP]; rfl
    have h_ce : M 17 0 9 = nI x.1.2.2 := by rw [hP]; rfl
    have h_bc : M 17 0 10 = nI x.2.2.2.2.1 := by rw [hP]; rfl
    have h_fr : M 17 0 11 = x.2.2.2.1 := by rw [hP]; rfl
    have h_he : M 17 1 = x.2.1 := by rw [hP]; rfl
    have h_gu : M 17 2 = x.2.2.1 := by rw [hP]; rfl
    have h_be : M 17 3 = be := by rw [hP]; rfl
    have h_nl : M 17 5 = x.2.2.2.2.2.1 := by rw [hP]; rfl
    have h_bh : M 17 6 = x.2.2.2.2.2.2.2.1 := by rw [hP]; rfl
    have h_fp : M 17 7 = x.2.2.2.2.2.2.1 := by rw [hP]; rfl
    have h_n0 : M 17 8 = x.2.2.2.2.2.2.2.2 0 := by rw [hP]; rfl
    have h_n1 : M 17 9 = x.2.2.2.2.2.2.2.2 1 := by rw [hP]; rfl
    have h_n2 : M 17 10 = x.2.2.2.2.2.2.2.2 2 := by rw [hP]; rfl
    have h_n3 : M 17 11 = x.2.2.2.2.2.2.2.2 3 := by rw [hP]; rfl
    have hn64 := (PIv_z hx).1
    
    refine r_aload_n E (dat dkX9_shut 0 rfl) rfl rfl ?_
    refine r_iload_n E (dat dkX9_shut 1 rfl) rfl rfl ?_
    refine r_callVX (κ := 8) (μ := []) E hnt (sp_X9_requireCell l hst G BP be nm x 17 a M hpn (Or.inl rfl) hP hx) my_X9_requireCell iv_X9_requireCell ml_X9_141 cm_id ⟨by decide, rfl, rfl⟩ rfl rfl rfl rfl (by decide) (Nat.le_of_ble_eq_true rfl) (dat dkX9_shut 2 rfl) (by decide) (by decide) (fun E M9 h => ⟨M, Mrg_z h.2.1, rfl, Or.inl ⟨h.1, h.2.2⟩⟩) ?_
    rintro _ _ ⟨rfl, hM9, c, hc, rfl⟩
    refine ⟨_, Mrg_z hM9, ?_⟩
    clear hM9
    have hc64 : c < 64 := by omega
    refine r_aload_n E (dat dkX9_shut 3 rfl) rfl rfl ?_
    refine q_getl E fl_X9_26 (dat dkX9_shut 4 rfl) rfl rfl rfl ?_
    refine r_iload_n E (dat dkX9_shut 5 rfl) rfl rfl ?_
    refine r_callV (κ := 1) (μ := [3]) E (tp_X5_isOpen l G (M 3) c _ rfl hc64) my_X5_isOpen iv_X5_isOpen ml_X9_258 (cm_of rfl) ⟨by decide, rfl, rfl⟩ rfl rfl rfl rfl (by decide) (Nat.le_of_ble_eq_true rfl) (dat dkX9_shut 6 rfl) ?_
    rintro _ _ ⟨rfl, rfl⟩
    refine ⟨_, Mrg_z rfl, ?_⟩
    refine r_callSX (μ := []) E hnt (sp_X9_requireState l hst G (opI (M 3 4 c)) _) my_X9_requireState is_X9_requireState ml_X9_262 cm_nil rfl rfl (by decide) (Nat.le_of_ble_eq_true rfl) (dat dkX9_shut 7 rfl) (by decide) (by decide) (fun E M9 h9 => ⟨M, Mrg_z h9.2.1, rfl, Or.inr ⟨h9.1, c, hc, rfl, h9.2.2⟩⟩) ?_
    rintro _ _ ⟨rfl, hM9, hne⟩
    refine ⟨_, Mrg_z hM9, ?_⟩
    clear hM9
    refine r_aload_n E (dat dkX9_shut 8 rfl) rfl rfl ?_
    refine q_getl E fl_X9_39 (dat dkX9_shut 9 rfl) rfl rfl rfl ?_
    refine r_aload_n E (dat dkX9_shut 10 rfl) rfl rfl ?_
    refine q_getl E fl_X9_26 (dat dkX9_shut 11 rfl) rfl rfl rfl ?_
    refine r_callV (κ := 7) (μ := [6, 3, 7, 8, 9, 10, 11, 12, 13, 14]) E (sp_X1_keep l G (M 6) o h (M 6 1) _ (by show M 6 = _; rw [← ho1, ← hh1]; exact (evH _).symm) ho8 hh8 hwt) my_X1_keep iv_X1_keep ml_X9_112 (cm_of rfl) ⟨by decide, rfl, rfl⟩ rfl rfl rfl rfl (by decide) (Nat.le_of_ble_eq_true rfl) (dat dkX9_shut 12 rfl) ?_
    rintro _ _ ⟨rfl, hM9⟩
    refine ⟨_, (show Mrg _ _ M _ (kpM M o h) from Mrg_kp hM9), ?_⟩
    clear hM9
    have e3 : kpM M o h 3 = M 3 := kpM_ne (by decide) (by decide)
    have e0 : kpM M o h 0 = M 0 := kpM_ne (by decide) (by decide)
    have hP9 : kpM M o h 17 = vPx BP be nm x := (kpM_ne (by decide) (by decide)).trans hP
    have hpn : (kpM M o h 0 0 9).toNatClampNeg = 17 := by rw [e0]; exact hpn
    have h_ro : (kpM M o h) 17 0 7 = nI x.1.1 := by rw [hP9]; rfl
    have h_co : (kpM M o h) 17 0 8 = nI x.1.2.1 := by rw [hP9]; rfl
    have h_ce : (kpM M o h) 17 0 9 = nI x.1.2.2 := by rw [hP9]; rfl
    have h_bc : (kpM M o h) 17 0 10 = nI x.2.2.2.2.1 := by rw [hP9]; rfl
    have h_fr : (kpM M o h) 17 0 11 = x.2.2.2.1 := by rw [hP9]; rfl
    have h_he : (kpM M o h) 17 1 = x.2.1 := by rw [hP9]; rfl
    have h_gu : (kpM M o h) 17 2 = x.2.2.1 := by rw [hP9]; rfl
    have h_be : (kpM M o h) 17 3 = be := by rw [hP9]; rfl
    have h_nl : (kpM M o h) 17 5 = x.2.2.2.2.2.1 := by rw [hP9]; rfl
    have h_bh : (kpM M o h) 17 6 = x.2.2.2.2.2.2.2.1 := by rw [hP9]; rfl
    have h_fp : (kpM M o h) 17 7 = x.2.2.2.2.2.2.1 := by rw [hP9]; rfl
    have h_n0 : (kpM M o h) 17 8 = x.2.2.2.2.2.2.2.2 0 := by rw [hP9]; rfl
    have h_n1 : (kpM M o h) 17 9 = x.2.2.2.2.2.2.2.2 1 := by rw [hP9]; rfl
    have h_n2 : (kpM M o h) 17 10 = x.2.2.2.2.2.2.2.2 2 := by rw [hP9]; rfl
    have h_n3 : (kpM M o h) 17 11 = x.2.2.2.2.2.2.2.2 3 := by rw [hP9]; rfl
    refine r_aload_n E (dat dkX9_shut 13 rfl) rfl rfl ?_
    refine q_getl E fl_X9_26 (dat dkX9_shut 14 rfl) rfl rfl rfl ?_
    refine r_iload_n E (dat dkX9_shut 15 rfl) rfl rfl ?_
    refine r_callV (κ := 1) (μ := [3]) E (tp_X5_shutHydrant l G (M 3) c _ e3 hc64) my_X5_shutHydrant iv_X5_shutHydrant ml_X9_272 (cm_of rfl) ⟨by decide, rfl, rfl⟩ rfl rfl rfl rfl (by decide) (Nat.le_of_ble_eq_true rfl) (dat dkX9_shut 16 rfl) ?_
    rintro _ _ ⟨rfl, rfl⟩
    refine ⟨_, (show Mrg _ _ (kpM M o h) _ (setm (kpM M o h) 3 (shT (M 3) c)) from Mrg_e (i := 0) (by decide) (by decide) rfl rfl), ?_⟩
    refine r_xq ?_
    refine r_ireturn E (dat dkX9_shut 17 rfl) (by decide) (by decide) ?_
    exact ⟨c, hc, rfl, hne, rfl, rfl⟩
  ·
    have h_ro : M 18 0 7 = nI x.1.1 := by rw [hP]; rfl
    have h_co : M 18 0 8 = nI x.1.2.1 := by rw [hP]; rfl
    have h_ce : M 18 0 9 = nI x.1.2.2 := by rw [hP]; rfl
    have h_bc : M 18 0 10 = nI x.2.2.2.2.1 := by rw [hP]; rfl
    have h_fr : M 18 0 11 = x.2.2.2.1 := by rw [hP]; rfl
    have h_he : M 18 1 = x.2.1 := by rw [hP]; rfl
    have h_gu : M 18 2 = x.2.2.1 := by rw [hP]; rfl
    have h_be : M 18 3 = be := by rw [hP]; rfl
    have h_nl : M 18 5 = x.2.2.2.2.2.1 := by rw [hP]; rfl
    have h_bh : M 18 6 = x.2.2.2.2.2.2.2.1 := by rw [hP]; rfl
    have h_fp : M 18 7 = x.2.2.2.2.2.2.1 := by rw [hP]; rfl
    have h_n0 : M 18 8 = x.2.2.2.2.2.2.2.2 0 := by rw [hP]; rfl
    have h_n1 : M 18 9 = x.2.2.2.2.2.2.2.2 1 := by rw [hP]; rfl
    have h_n2 : M 18 10 = x.2.2.2.2.2.2.2.2 2 := by rw [hP]; rfl
    have h_n3 : M 18 11 = x.2.2.2.2.2.2.2.2 3 := by rw [hP]; rfl
    have hn64 := (PIv_z hx).1
    
    refine r_aload_n E (dat dkX9_shut 0 rfl) rfl rfl ?_
    refine r_iload_n E (dat dkX9_shut 1 rfl) rfl rfl ?_
    refine r_callVX (κ := 8) (μ := []) E hnt (sp_X9_requireCell l hst G BP be nm x 18 a M hpn (Or.inr rfl) hP hx) my_X9_requireCell iv_X9_requireCell ml_X9_141 cm_id ⟨by decide, rfl, rfl⟩ rfl rfl rfl rfl (by decide) (Nat.le_of_ble_eq_true rfl) (dat dkX9_shut 2 rfl) (by decide) (by decide) (fun E M9 h => ⟨M, Mrg_z h.2.1, rfl, Or.inl ⟨h.1, h.2.2⟩⟩) ?_
    rintro _ _ ⟨rfl, hM9, c, hc, rfl⟩
    refine ⟨_, Mrg_z hM9, ?_⟩
    clear hM9
    have hc64 : c < 64 := by omega
    refine r_aload_n E (dat dkX9_shut 3 rfl) rfl rfl ?_
    refine q_getl E fl_X9_26 (dat dkX9_shut 4 rfl) rfl rfl rfl ?_
    refine r_iload_n E (dat dkX9_shut 5 rfl) rfl rfl ?_
    refine r_callV (κ := 1) (μ := [3]) E (tp_X5_isOpen l G (M 3) c _ rfl hc64) my_X5_isOpen iv_X5_isOpen ml_X9_258 (cm_of rfl) ⟨by decide, rfl, rfl⟩ rfl rfl rfl rfl (by decide) (Nat.le_of_ble_eq_true rfl) (dat dkX9_shut 6 rfl) ?_
    rintro _ _ ⟨rfl, rfl⟩
    refine ⟨_, Mrg_z rfl, ?_⟩
    refine r_callSX (μ := []) E hnt (sp_X9_requireState l hst G (opI (M 3 4 c)) _) my_X9_requireState is_X9_requireState ml_X9_262 cm_nil rfl rfl (by decide) (Nat.le_of_ble_eq_true rfl) (dat dkX9_shut 7 rfl) (by decide) (by decide) (fun E M9 h9 => ⟨M, Mrg_z h9.2.1, rfl, Or.inr ⟨h9.1, c, hc, rfl, h9.2.2⟩⟩) ?_
    rintro _ _ ⟨rfl, hM9, hne⟩
    refine ⟨_, Mrg_z hM9, ?_⟩
    clear hM9
    refine r_aload_n E (dat dkX9_shut 8 rfl) rfl rfl ?_
    refine q_getl E fl_X9_39 (dat dkX9_shut 9 rfl) rfl rfl rfl ?_
    refine r_aload_n E (dat dkX9_shut 10 rfl) rfl rfl ?_
    refine q_getl E fl_X9_26 (dat dkX9_shut 11 rfl) rfl rfl rfl ?_
    refine r_callV (κ := 7) (μ := [6, 3, 7, 8, 9, 10, 11, 12, 13, 14]) E (sp_X1_keep l G (M 6) o h (M 6 1) _ (by show M 6 = _; rw [← ho1, ← hh1]; exact (evH _).symm) ho8 hh8 hwt) my_X1_keep iv_X1_keep ml_X9_112 (cm_of rfl) ⟨by decide, rfl, rfl⟩ rfl rfl rfl rfl (by decide) (Nat.le_of_ble_eq_true rfl) (dat dkX9_shut 12 rfl) ?_
    rintro _ _ ⟨rfl, hM9⟩
    refine ⟨_, (show Mrg _ _ M _ (kpM M o h) from Mrg_kp hM9), ?_⟩
    clear hM9
    have e3 : kpM M o h 3 = M 3 := kpM_ne (by decide) (by decide)
    have e0 : kpM M o h 0 = M 0 := kpM_ne (by decide) (by decide)
    have hP9 : kpM M o h 18 = vPx BP be nm x := (kpM_ne (by decide) (by decide)).trans hP
    have hpn : (kpM M o h 0 0 9).toNatClampNeg = 18 := by rw [e0]; exact hpn
    have h_ro : (kpM M o h) 18 0 7 = nI x.1.1 := by rw [hP9]; rfl
    have h_co : (kpM M o h) 18 0 8 = nI x.1.2.1 := by rw [hP9]; rfl
    have h_ce : (kpM M o h) 18 0 9 = nI x.1.2.2 := by rw [hP9]; rfl
    have h_bc : (kpM M o h) 18 0 10 = nI x.2.2.2.2.1 := by rw [hP9]; rfl
    have h_fr : (kpM M o h) 18 0 11 = x.2.2.2.1 := by rw [hP9]; rfl
    have h_he : (kpM M o h) 18 1 = x.2.1 := by rw [hP9]; rfl
    have h_gu : (kpM M o h) 18 2 = x.2.2.1 := by rw [hP9]; rfl
    have h_be : (kpM M o h) 18 3 = be := by rw [hP9]; rfl
    have h_nl : (kpM M o h) 18 5 = x.2.2.2.2.2.1 := by rw [hP9]; rfl
    have h_bh : (kpM M o h) 18 6 = x.2.2.2.2.2.2.2.1 := by rw [hP9]; rfl
    have h_fp : (kpM M o h) 18 7 = x.2.2.2.2.2.2.1 := by rw [hP9]; rfl
    have h_n0 : (kpM M o h) 18 8 = x.2.2.2.2.2.2.2.2 0 := by rw [hP9]; rfl
    have h_n1 : (kpM M o h) 18 9 = x.2.2.2.2.2.2.2.2 1 := by rw [hP9]; rfl
    have h_n2 : (kpM M o h) 18 10 = x.2.2.2.2.2.2.2.2 2 := by rw [hP9]; rfl
    have h_n3 : (kpM M o h) 18 11 = x.2.2.2.2.2.2.2.2 3 := by rw [hP9]; rfl
    refine r_aload_n E (dat dkX9_shut 13 rfl) rfl rfl ?_
    refine q_getl E fl_X9_26 (dat dkX9_shut 14 rfl) rfl rfl rfl ?_
    refine r_iload_n E (dat dkX9_shut 15 rfl) rfl rfl ?_
    refine r_callV (κ := 1) (μ := [3]) E (tp_X5_shutHydrant l G (M 3) c _ e3 hc64) my_X5_shutHydrant iv_X5_shutHydrant ml_X9_272 (cm_of rfl) ⟨by decide, rfl, rfl⟩ rfl rfl rfl rfl (by decide) (Nat.le_of_ble_eq_true rfl) (dat dkX9_shut 16 rfl) ?_
    rintro _ _ ⟨rfl, rfl⟩
    refine ⟨_, (show Mrg _ _ (kpM M o h) _ (setm (kpM M o h) 3 (shT (M 3) c)) from Mrg_e (i := 0) (by decide) (by decide) rfl rfl), ?_⟩
    refine r_xq ?_
    refine r_ireturn E (dat dkX9_shut 17 rfl) (by decide) (by decide) ?_
    exact ⟨c, hc, rfl, hne, rfl, rfl⟩

set_option maxRecDepth 100000 in
set_option maxHeartbeats 4000000 in
theorem sp_X9_dropLeaves (l : Launch) (hst : l.stackTraces = false) (G : GT) (BP : Nat → Nat → Int32) (be nm : Nat → Int32) (x : PP) (q : Nat) (o h : Nat) (a d : Int32) (M : Mem) (hpn : (M 0 0 9).toNatClampNeg = q) (hq : q = 17 ∨ q = 18) (hP : M q = vPx BP be nm x) (hx : PIv x) (ho1 : M 6 0 1 = nI o) (hh1 : M 6 0 2 = nI h) (ho8 : o < 8) (hh8 : h ≤ 8) (hwt : WTi (M 3)) : MCx l G yX9_dropLeaves cX9_dropLeaves 3 (some .int) ({ frames := 7, cells := 8, slots := 48, locals := 104 } : Room) KC lkC [rv 0 0, iv a, iv d] (M) (fun r M2 => ∃ c, c < x.1.2.2 ∧ a = nI c ∧ (1 ≤ d ∧ d ≤ 9) ∧ M2 = setm (kpM M o h) 3 (lvT (M 3) c d) ∧ r = some (iv (lvT (M 3) c d 2 c))) (fun E M2 => M2 = M ∧ ((E = oobN ∧ ¬ okc x a) ∨ (E = argN ∧ okc x a ∧ ¬ (1 ≤ d ∧ d ≤ 9)))) := by
  refine MCx.of RX9 [some (rv 0 0), some (iv a), some (iv d)] 0 (by decide +kernel) rfl rfl rfl ?_
  intro pp ee ss mm aa bb me cd ad E hnt
  rcases hq with rfl | rfl
  ·
    have h_ro : M 17 0 7 = nI x.1.1 := by rw [hP]; rfl
    have h_co : M 17 0 8 = nI x.1.2.1 := by rw [hP]; rfl
    have h_ce : M 17 0 9 = nI x.1.2.2 := by rw [hP]; rfl
    have h_bc : M 17 0 10 = nI x.2.2.2.2.1 := by rw [hP]; rfl
    have h_fr : M 17 0 11 = x.2.2.2.1 := by rw [hP]; rfl
    have h_he : M 17 1 = x.2.1 := by rw [hP]; rfl
    have h_gu : M 17 2 = x.2.2.1 := by rw [hP]; rfl
    have h_be : M 17 3 = be := by rw [hP]; rfl
    have h_nl : M 17 5 = x.2.2.2.2.2.1 := by rw [hP]; rfl
    have h_bh : M 17 6 = x.2.2.2.2.2.2.2.1 := by rw [hP]; rfl
    have h_fp : M 17 7 = x.2.2.2.2.2.2.1 := by rw [hP]; rfl
    have h_n0 : M 17 8 = x.2.2.2.2.2.2.2.2 0 := by rw [hP]; rfl
    have h_n1 : M 17 9 = x.2.2.2.2.2.2.2.2 1 := by rw [hP]; rfl
    have h_n2 : M 17 10 = x.2.2.2.2.2.2.2.2 2 := by rw [hP]; rfl
    have h_n3 : M 17 11 = x.2.2.2.2.2.2.2.2 3 := by rw [hP]; rfl
    have hn64 := (PIv_z hx).1
    
    refine r_aload_n E (dat dkX9_dropLeaves 0 rfl) rfl rfl ?_
    refine r_iload_n E (dat dkX9_dropLeaves 1 rfl) rfl rfl ?_
    refine r_callVX (κ := 8) (μ := []) E hnt (sp_X9_requireCell l hst G BP be nm x 17 a M hpn (Or.inl rfl) hP hx) my_X9_requireCell iv_X9_requireCell ml_X9_141 cm_id ⟨by decide, rfl, rfl⟩ rfl rfl rfl rfl (by decide) (Nat.le_of_ble_eq_true rfl) (dat dkX9_dropLeaves 2 rfl) (by decide) (by decide) (fun E M9 h => ⟨M, Mrg_z h.2.1, rfl, Or.inl ⟨h.1, h.2.2⟩⟩) ?_
    rintro _ _ ⟨rfl, hM9, c, hc, rfl⟩
    refine ⟨_, Mrg_z hM9, ?_⟩
    clear hM9
    have hc64 : c < 64 := by omega
    refine r_iload_n E (dat dkX9_dropLeaves 3 rfl) rfl rfl ?_
    refine r_iconst (v := 1) E (dat dkX9_dropLeaves 4 rfl) rfl ?_
    refine r_bipush (v := 9) E (dat dkX9_dropLeaves 5 rfl) rfl ?_
    refine r_callSX (μ := []) E hnt (sp_X9_requireRange l hst G (d) (1) (9) _) my_X9_requireRange is_X9_requireRange ml_X9_174 cm_nil rfl rfl (by decide) (Nat.le_of_ble_eq_true rfl) (dat dkX9_dropLeaves 6 rfl) (by decide) (by decide) (fun E M9 h => ⟨M, Mrg_z h.2.1, rfl, Or.inr ⟨h.1, ⟨c, hc, rfl⟩, h.2.2⟩⟩) ?_
    rintro _ _ ⟨rfl, hM9, hlo, hhi⟩
    refine ⟨_, Mrg_z hM9, ?_⟩
    clear hM9
    refine r_aload_n E (dat dkX9_dropLeaves 7 rfl) rfl rfl ?_
    refine q_getl E fl_X9_39 (dat dkX9_dropLeaves 8 rfl) rfl rfl rfl ?_
    refine r_aload_n E (dat dkX9_dropLeaves 9 rfl) rfl rfl ?_
    refine q_getl E fl_X9_26 (dat dkX9_dropLeaves 10 rfl) rfl rfl rfl ?_
    refine r_callV (κ := 7) (μ := [6, 3, 7, 8, 9, 10, 11, 12, 13, 14]) E (sp_X1_keep l G (M 6) o h (M 6 1) _ (by show M 6 = _; rw [← ho1, ← hh1]; exact (evH _).symm) ho8 hh8 hwt) my_X1_keep iv_X1_keep ml_X9_112 (cm_of rfl) ⟨by decide, rfl, rfl⟩ rfl rfl rfl rfl (by decide) (Nat.le_of_ble_eq_true rfl) (dat dkX9_dropLeaves 11 rfl) ?_
    rintro _ _ ⟨rfl, hM9⟩
    refine ⟨_, (show Mrg _ _ M _ (kpM M o h) from Mrg_kp hM9), ?_⟩
    clear hM9
    have e3 : kpM M o h 3 = M 3 := kpM_ne (by decide) (by decide)
    have e0 : kpM M o h 0 = M 0 := kpM_ne (by decide) (by decide)
    have hP9 : kpM M o h 17 = vPx BP be nm x := (kpM_ne (by decide) (by decide)).trans hP
    have hpn : (kpM M o h 0 0 9).toNatClampNeg = 17 := by rw [e0]; exact hpn
    have h_ro : (kpM M o h) 17 0 7 = nI x.1.1 := by rw [hP9]; rfl
    have h_co : (kpM M o h) 17 0 8 = nI x.1.2.1 := by rw [hP9]; rfl
    have h_ce : (kpM M o h) 17 0 9 = nI x.1.2.2 := by rw [hP9]; rfl
    have h_bc : (kpM M o h) 17 0 10 = nI x.2.2.2.2.1 := by rw [hP9]; rfl
    have h_fr : (kpM M o h) 17 0 11 = x.2.2.2.1 := by rw [hP9]; rfl
    have h_he : (kpM M o h) 17 1 = x.2.1 := by rw [hP9]; rfl
    have h_gu : (kpM M o h) 17 2 = x.2.2.1 := by rw [hP9]; rfl
    have h_be : (kpM M o h) 17 3 = be := by rw [hP9]; rfl
    have h_nl : (kpM M o h) 17 5 = x.2.2.2.2.2.1 := by rw [hP9]; rfl
    have h_bh : (kpM M o h) 17 6 = x.2.2.2.2.2.2.2.1 := by rw [hP9]; rfl
    have h_fp : (kpM M o h) 17 7 = x.2.2.2.2.2.2.1 := by rw [hP9]; rfl
    have h_n0 : (kpM M o h) 17 8 = x.2.2.2.2.2.2.2.2 0 := by rw [hP9]; rfl
    have h_n1 : (kpM M o h) 17 9 = x.2.2.2.2.2.2.2.2 1 := by rw [hP9]; rfl
    have h_n2 : (kpM M o h) 17 10 = x.2.2.2.2.2.2.2.2 2 := by rw [hP9]; rfl
    have h_n3 : (kpM M o h) 17 11 = x.2.2.2.2.2.2.2.2 3 := by rw [hP9]; rfl
    refine r_aload_n E (dat dkX9_dropLeaves 12 rfl) rfl rfl ?_
    refine q_getl E fl_X9_26 (dat dkX9_dropLeaves 13 rfl) rfl rfl rfl ?_
    refine r_iload_n E (dat dkX9_dropLeaves 14 rfl) rfl rfl ?_
    refine r_iload_n E (dat dkX9_dropLeaves 15 rfl) rfl rfl ?_
    refine r_callV (κ := 1) (μ := [3]) E (tp_X5_addLeaves l G (M 3) c d _ e3 hc64) my_X5_addLeaves iv_X5_addLeaves ml_X9_276 (cm_of rfl) ⟨by decide, rfl, rfl⟩ rfl rfl rfl rfl (by decide) (Nat.le_of_ble_eq_true rfl) (dat dkX9_dropLeaves 16 rfl) ?_
    rintro _ _ ⟨rfl, rfl⟩
    refine ⟨_, (show Mrg _ _ (kpM M o h) _ (setm (kpM M o h) 3 (lvT (M 3) c d)) from Mrg_e (i := 0) (by decide) (by decide) rfl rfl), ?_⟩
    refine r_aload_n E (dat dkX9_dropLeaves 17 rfl) rfl rfl ?_
    refine q_getl E fl_X9_26 (dat dkX9_dropLeaves 18 rfl) rfl rfl rfl ?_
    refine q_geta E fl_X9_151 (dat dkX9_dropLeaves 19 rfl) rfl rfl rfl ?_
    refine r_iload_n E (dat dkX9_dropLeaves 20 rfl) rfl rfl ?_
    refine q_iald E (dat dkX9_dropLeaves 21 rfl) rfl rfl (by decide) rfl rfl (by omega) ?_
    refine r_xq ?_
    refine r_ireturn E (dat dkX9_dropLeaves 22 rfl) (by decide) (by decide) ?_
    exact ⟨c, hc, rfl, ⟨hlo, hhi⟩, rfl, rfl⟩
  ·
    have h_ro : M 18 0 7 = nI x.1.1 := by rw [hP]; rfl
    have h_co : M 18 0 8 = nI x.1.2.1 := by rw [hP]; rfl
    have h_ce : M 18 0 9 = nI x.1.2.2 := by rw [hP]; rfl
    have h_bc : M 18 0 10 = nI x.2.2.2.2.1 := by rw [hP]; rfl
    have h_fr : M 18 0 11 = x.2.2.2.1 := by rw [hP]; rfl
    have h_he : M 18 1 = x.2.1 := by rw [hP]; rfl
    have h_gu : M 18 2 = x.2.2.1 := by rw [hP]; rfl
    have h_be : M 18 3 = be := by rw [hP]; rfl
    have h_nl : M 18 5 = x.2.2.2.2.2.1 := by rw [hP]; rfl
    have h_bh : M 18 6 = x.2.2.2.2.2.2.2.1 := by rw [hP]; rfl
    have h_fp : M 18 7 = x.2.2.2.2.2.2.1 := by rw [hP]; rfl
    have h_n0 : M 18 8 = x.2.2.2.2.2.2.2.2 0 := by rw [hP]; rfl
    have h_n1 : M 18 9 = x.2.2.2.2.2.2.2.2 1 := by rw [hP]; rfl
    have h_n2 : M 18 10 = x.2.2.2.2.2.2.2.2 2 := by rw [hP]; rfl
    have h_n3 : M 18 11 = x.2.2.2.2.2.2.2.2 3 := by rw [hP]; rfl
    have hn64 := (PIv_z hx).1
    
    refine r_aload_n E (dat dkX9_dropLeaves 0 rfl) rfl rfl ?_
    refine r_iload_n E (dat dkX9_dropLeaves 1 rfl) rfl rfl ?_
    refine r_callVX (κ := 8) (μ := []) E hnt (sp_X9_requireCell l hst G BP be nm x 18 a M hpn (Or.inr rfl) hP hx) my_X9_requireCell iv_X9_requireCell ml_X9_141 cm_id ⟨by decide, rfl, rfl⟩ rfl rfl rfl rfl (by decide) (Nat.le_of_ble_eq_true rfl) (dat dkX9_dropLeaves 2 rfl) (by decide) (by decide) (fun E M9 h => ⟨M, Mrg_z h.2.1, rfl, Or.inl ⟨h.1, h.2.2⟩⟩) ?_
    rintro _ _ ⟨rfl, hM9, c, hc, rfl⟩
    refine ⟨_, Mrg_z hM9, ?_⟩
    clear hM9
    have hc64 : c < 64 := by omega
    refine r_iload_n E (dat dkX9_dropLeaves 3 rfl) rfl rfl ?_
    refine r_iconst (v := 1) E (dat dkX9_dropLeaves 4 rfl) rfl ?_
    refine r_bipush (v := 9) E (dat dkX9_dropLeaves 5 rfl) rfl ?_
    refine r_callSX (μ := []) E hnt (sp_X9_requireRange l hst G (d) (1) (9) _) my_X9_requireRange is_X9_requireRange ml_X9_174 cm_nil rfl rfl (by decide) (Nat.le_of_ble_eq_true rfl) (dat dkX9_dropLeaves 6 rfl) (by decide) (by decide) (fun E M9 h => ⟨M, Mrg_z h.2.1, rfl, Or.inr ⟨h.1, ⟨c, hc, rfl⟩, h.2.2⟩⟩) ?_
    rintro _ _ ⟨rfl, hM9, hlo, hhi⟩
    refine ⟨_, Mrg_z hM9, ?_⟩
    clear hM9
    refine r_aload_n E (dat dkX9_dropLeaves 7 rfl) rfl rfl ?_
    refine q_getl E fl_X9_39 (dat dkX9_dropLeaves 8 rfl) rfl rfl rfl ?_
    refine r_aload_n E (dat dkX9_dropLeaves 9 rfl) rfl rfl ?_
    refine q_getl E fl_X9_26 (dat dkX9_dropLeaves 10 rfl) rfl rfl rfl ?_
    refine r_callV (κ := 7) (μ := [6, 3, 7, 8, 9, 10, 11, 12, 13, 14]) E (sp_X1_keep l G (M 6) o h (M 6 1) _ (by show M 6 = _; rw [← ho1, ← hh1]; exact (evH _).symm) ho8 hh8 hwt) my_X1_keep iv_X1_keep ml_X9_112 (cm_of rfl) ⟨by decide, rfl, rfl⟩ rfl rfl rfl rfl (by decide) (Nat.le_of_ble_eq_true rfl) (dat dkX9_dropLeaves 11 rfl) ?_
    rintro _ _ ⟨rfl, hM9⟩
    refine ⟨_, (show Mrg _ _ M _ (kpM M o h) from Mrg_kp hM9), ?_⟩
    clear hM9
    have e3 : kpM M o h 3 = M 3 := kpM_ne (by decide) (by decide)
    have e0 : kpM M o h 0 = M 0 := kpM_ne (by decide) (by decide)
    have hP9 : kpM M o h 18 = vPx BP be nm x := (kpM_ne (by decide) (by decide)).trans hP
    have hpn : (kpM M o h 0 0 9).toNatClampNeg = 18 := by rw [e0]; exact hpn
    have h_ro : (kpM M o h) 18 0 7 = nI x.1.1 := by rw [hP9]; rfl
    have h_co : (kpM M o h) 18 0 8 = nI x.1.2.1 := by rw [hP9]; rfl
    have h_ce : (kpM M o h) 18 0 9 = nI x.1.2.2 := by rw [hP9]; rfl
    have h_bc : (kpM M o h) 18 0 10 = nI x.2.2.2.2.1 := by rw [hP9]; rfl
    have h_fr : (kpM M o h) 18 0 11 = x.2.2.2.1 := by rw [hP9]; rfl
    have h_he : (kpM M o h) 18 1 = x.2.1 := by rw [hP9]; rfl
    have h_gu : (kpM M o h) 18 2 = x.2.2.1 := by rw [hP9]; rfl
    have h_be : (kpM M o h) 18 3 = be := by rw [hP9]; rfl
    have h_nl : (kpM M o h) 18 5 = x.2.2.2.2.2.1 := by rw [hP9]; rfl
    have h_bh : (kpM M o h) 18 6 = x.2.2.2.2.2.2.2.1 := by rw [hP9]; rfl
    have h_fp : (kpM M o h) 18 7 = x.2.2.2.2.2.2.1 := by rw [hP9]; rfl
    have h_n0 : (kpM M o h) 18 8 = x.2.2.2.2.2.2.2.2 0 := by rw [hP9]; rfl
    have h_n1 : (kpM M o h) 18 9 = x.2.2.2.2.2.2.2.2 1 := by rw [hP9]; rfl
    have h_n2 : (kpM M o h) 18 10 = x.2.2.2.2.2.2.2.2 2 := by rw [hP9]; rfl
    have h_n3 : (kpM M o h) 18 11 = x.2.2.2.2.2.2.2.2 3 := by rw [hP9]; rfl
    refine r_aload_n E (dat dkX9_dropLeaves 12 rfl) rfl rfl ?_
    refine q_getl E fl_X9_26 (dat dkX9_dropLeaves 13 rfl) rfl rfl rfl ?_
    refine r_iload_n E (dat dkX9_dropLeaves 14 rfl) rfl rfl ?_
    refine r_iload_n E (dat dkX9_dropLeaves 15 rfl) rfl rfl ?_
    refine r_callV (κ := 1) (μ := [3]) E (tp_X5_addLeaves l G (M 3) c d _ e3 hc64) my_X5_addLeaves iv_X5_addLeaves ml_X9_276 (cm_of rfl) ⟨by decide, rfl, rfl⟩ rfl rfl rfl rfl (by decide) (Nat.le_of_ble_eq_true rfl) (dat dkX9_dropLeaves 16 rfl) ?_
    rintro _ _ ⟨rfl, rfl⟩
    refine ⟨_, (show Mrg _ _ (kpM M o h) _ (setm (kpM M o h) 3 (lvT (M 3) c d)) from Mrg_e (i := 0) (by decide) (by decide) rfl rfl), ?_⟩
    refine r_aload_n E (dat dkX9_dropLeaves 17 rfl) rfl rfl ?_
    refine q_getl E fl_X9_26 (dat dkX9_dropLeaves 18 rfl) rfl rfl rfl ?_
    refine q_geta E fl_X9_151 (dat dkX9_dropLeaves 19 rfl) rfl rfl rfl ?_
    refine r_iload_n E (dat dkX9_dropLeaves 20 rfl) rfl rfl ?_
    refine q_iald E (dat dkX9_dropLeaves 21 rfl) rfl rfl (by decide) rfl rfl (by omega) ?_
    refine r_xq ?_
    refine r_ireturn E (dat dkX9_dropLeaves 22 rfl) (by decide) (by decide) ?_
    exact ⟨c, hc, rfl, ⟨hlo, hhi⟩, rfl, rfl⟩

set_option maxRecDepth 100000 in
set_option maxHeartbeats 4000000 in
theorem sp_X9_sweep (l : Launch) (hst : l.stackTraces = false) (G : GT) (BP : Nat → Nat → Int32) (be nm : Nat → Int32) (x : PP) (q : Nat) (o h : Nat) (a : Int32) (M : Mem) (hpn : (M 0 0 9).toNatClampNeg = q) (hq : q = 17 ∨ q = 18) (hP : M q = vPx BP be nm x) (hx : PIv x) (ho1 : M 6 0 1 = nI o) (hh1 : M 6 0 2 = nI h) (ho8 : o < 8) (hh8 : h ≤ 8) (hwt : WTi (M 3)) : MCx l G yX9_sweep cX9_sweep 2 (some .int) ({ frames := 7, cells := 4, slots := 24, locals := 103 } : Room) KC lkC [rv 0 0, iv a] (M) (fun r M2 => ∃ c, c < x.1.2.2 ∧ a = nI c ∧ M2 = setm (kpM M o h) 3 (swT (M 3) c) ∧ r = some (iv (M 3 2 c))) (fun E M2 => M2 = M ∧ E = oobN ∧ ¬ okc x a) := by
  refine MCx.of RX9 [some (rv 0 0), some (iv a)] 0 (by decide +kernel) rfl rfl rfl ?_
  intro pp ee ss mm aa bb me cd ad E hnt
  rcases hq with rfl | rfl
  ·
    have h_ro : M 17 0 7 = nI x.1.1 := by rw [hP]; rfl
    have h_co : M 17 0 8 = nI x.1.2.1 := by rw [hP]; rfl
    have h_ce : M 17 0 9 = nI x.1.2.2 := by rw [hP]; rfl
    have h_bc : M 17 0 10 = nI x.2.2.2.2.1 := by rw [hP]; rfl
    have h_fr : M 17 0 11 = x.2.2.2.1 := by rw [hP]; rfl
    have h_he : M 17 1 = x.2.1 := by rw [hP]; rfl
    have h_gu : M 17 2 = x.2.2.1 := by rw [hP]; rfl
    have h_be : M 17 3 = be := by rw [hP]; rfl
    have h_nl : M 17 5 = x.2.2.2.2.2.1 := by rw [hP]; rfl
    have h_bh : M 17 6 = x.2.2.2.2.2.2.2.1 := by rw [hP]; rfl
    have h_fp : M 17 7 = x.2.2.2.2.2.2.1 := by rw [hP]; rfl
    have h_n0 : M 17 8 = x.2.2.2.2.2.2.2.2 0 := by rw [hP]; rfl
    have h_n1 : M 17 9 = x.2.2.2.2.2.2.2.2 1 := by rw [hP]; rfl
    have h_n2 : M 17 10 = x.2.2.2.2.2.2.2.2 2 := by rw [hP]; rfl
    have h_n3 : M 17 11 = x.2.2.2.2.2.2.2.2 3 := by rw [hP]; rfl
    have hn64 := (PIv_z hx).1
    
    refine r_aload_n E (dat dkX9_sweep 0 rfl) rfl rfl ?_
    refine r_iload_n E (dat dkX9_sweep 1 rfl) rfl rfl ?_
    refine r_callVX (κ := 8) (μ := []) E hnt (sp_X9_requireCell l hst G BP be nm x 17 a M hpn (Or.inl rfl) hP hx) my_X9_requireCell iv_X9_requireCell ml_X9_141 cm_id ⟨by decide, rfl, rfl⟩ rfl rfl rfl rfl (by decide) (Nat.le_of_ble_eq_true rfl) (dat dkX9_sweep 2 rfl) (by decide) (by decide) (fun E M9 h => ⟨M, Mrg_z h.2.1, rfl, h.1, h.2.2⟩) ?_
    rintro _ _ ⟨rfl, hM9, c, hc, rfl⟩
    refine ⟨_, Mrg_z hM9, ?_⟩
    clear hM9
    have hc64 : c < 64 := by omega
    refine r_aload_n E (dat dkX9_sweep 3 rfl) rfl rfl ?_
    refine q_getl E fl_X9_39 (dat dkX9_sweep 4 rfl) rfl rfl rfl ?_
    refine r_aload_n E (dat dkX9_sweep 5 rfl) rfl rfl ?_
    refine q_getl E fl_X9_26 (dat dkX9_sweep 6 rfl) rfl rfl rfl ?_
    refine r_callV (κ := 7) (μ := [6, 3, 7, 8, 9, 10, 11, 12, 13, 14]) E (sp_X1_keep l G (M 6) o h (M 6 1) _ (by show M 6 = _; rw [← ho1, ← hh1]; exact (evH _).symm) ho8 hh8 hwt) my_X1_keep iv_X1_keep ml_X9_112 (cm_of rfl) ⟨by decide, rfl, rfl⟩ rfl rfl rfl rfl (by decide) (Nat.le_of_ble_eq_true rfl) (dat dkX9_sweep 7 rfl) ?_
    rintro _ _ ⟨rfl, hM9⟩
    refine ⟨_, (show Mrg _ _ M _ (kpM M o h) from Mrg_kp hM9), ?_⟩
    clear hM9
    have e3 : kpM M o h 3 = M 3 := kpM_ne (by decide) (by decide)
    have e0 : kpM M o h 0 = M 0 := kpM_ne (by decide) (by decide)
    have hP9 : kpM M o h 17 = vPx BP be nm x := (kpM_ne (by decide) (by decide)).trans hP
    have hpn : (kpM M o h 0 0 9).toNatClampNeg = 17 := by rw [e0]; exact hpn
    have h_ro : (kpM M o h) 17 0 7 = nI x.1.1 := by rw [hP9]; rfl
    have h_co : (kpM M o h) 17 0 8 = nI x.1.2.1 := by rw [hP9]; rfl
    have h_ce : (kpM M o h) 17 0 9 = nI x.1.2.2 := by rw [hP9]; rfl
    have h_bc : (kpM M o h) 17 0 10 = nI x.2.2.2.2.1 := by rw [hP9]; rfl
    have h_fr : (kpM M o h) 17 0 11 = x.2.2.2.1 := by rw [hP9]; rfl
    have h_he : (kpM M o h) 17 1 = x.2.1 := by rw [hP9]; rfl
    have h_gu : (kpM M o h) 17 2 = x.2.2.1 := by rw [hP9]; rfl
    have h_be : (kpM M o h) 17 3 = be := by rw [hP9]; rfl
    have h_nl : (kpM M o h) 17 5 = x.2.2.2.2.2.1 := by rw [hP9]; rfl
    have h_bh : (kpM M o h) 17 6 = x.2.2.2.2.2.2.2.1 := by rw [hP9]; rfl
    have h_fp : (kpM M o h) 17 7 = x.2.2.2.2.2.2.1 := by rw [hP9]; rfl
    have h_n0 : (kpM M o h) 17 8 = x.2.2.2.2.2.2.2.2 0 := by rw [hP9]; rfl
    have h_n1 : (kpM M o h) 17 9 = x.2.2.2.2.2.2.2.2 1 := by rw [hP9]; rfl
    have h_n2 : (kpM M o h) 17 10 = x.2.2.2.2.2.2.2.2 2 := by rw [hP9]; rfl
    have h_n3 : (kpM M o h) 17 11 = x.2.2.2.2.2.2.2.2 3 := by rw [hP9]; rfl
    refine r_aload_n E (dat dkX9_sweep 8 rfl) rfl rfl ?_
    refine q_getl E fl_X9_26 (dat dkX9_sweep 9 rfl) rfl rfl rfl ?_
    refine r_iload_n E (dat dkX9_sweep 10 rfl) rfl rfl ?_
    refine r_callV (κ := 1) (μ := [3]) E (tp_X5_takeLeaves l G (M 3) c _ e3 hc64) my_X5_takeLeaves iv_X5_takeLeaves ml_X9_280 (cm_of rfl) ⟨by decide, rfl, rfl⟩ rfl rfl rfl rfl (by decide) (Nat.le_of_ble_eq_true rfl) (dat dkX9_sweep 11 rfl) ?_
    rintro _ _ ⟨rfl, rfl⟩
    refine ⟨_, (show Mrg _ _ (kpM M o h) _ (setm (kpM M o h) 3 (swT (M 3) c)) from Mrg_e (i := 0) (by decide) (by decide) rfl rfl), ?_⟩
    refine r_xq ?_
    refine r_ireturn E (dat dkX9_sweep 12 rfl) (by decide) (by decide) ?_
    exact ⟨c, hc, rfl, rfl, rfl⟩
  ·
    have h_ro : M 18 0 7 = nI x.1.1 := by rw [hP]; rfl
    have h_co : M 18 0 8 = nI x.1.2.1 := by rw [hP]; rfl
    have h_ce : M 18 0 9 = nI x.1.2.2 := by rw [hP]; rfl
    have h_bc : M 18 0 10 = nI x.2.2.2.2.1 := by rw [hP]; rfl
    have h_fr : M 18 0 11 = x.2.2.2.1 := by rw [hP]; rfl
    have h_he : M 18 1 = x.2.1 := by rw [hP]; rfl
    have h_gu : M 18 2 = x.2.2.1 := by rw [hP]; rfl
    have h_be : M 18 3 = be := by rw [hP]; rfl
    have h_nl : M 18 5 = x.2.2.2.2.2.1 := by rw [hP]; rfl
    have h_bh : M 18 6 = x.2.2.2.2.2.2.2.1 := by rw [hP]; rfl
    have h_fp : M 18 7 = x.2.2.2.2.2.2.1 := by rw [hP]; rfl
    have h_n0 : M 18 8 = x.2.2.2.2.2.2.2.2 0 := by rw [hP]; rfl
    have h_n1 : M 18 9 = x.2.2.2.2.2.2.2.2 1 := by rw [hP]; rfl
    have h_n2 : M 18 10 = x.2.2.2.2.2.2.2.2 2 := by rw [hP]; rfl
    have h_n3 : M 18 11 = x.2.2.2.2.2.2.2.2 3 := by rw [hP]; rfl
    have hn64 := (PIv_z hx).1
    
    refine r_aload_n E (dat dkX9_sweep 0 rfl) rfl rfl ?_
    refine r_iload_n E (dat dkX9_sweep 1 rfl) rfl rfl ?_
    refine r_callVX (κ := 8) (μ := []) E hnt (sp_X9_requireCell l hst G BP be nm x 18 a M hpn (Or.inr rfl) hP hx) my_X9_requireCell iv_X9_requireCell ml_X9_141 cm_id ⟨by decide, rfl, rfl⟩ rfl rfl rfl rfl (by decide) (Nat.le_of_ble_eq_true rfl) (dat dkX9_sweep 2 rfl) (by decide) (by decide) (fun E M9 h => ⟨M, Mrg_z h.2.1, rfl, h.1, h.2.2⟩) ?_
    rintro _ _ ⟨rfl, hM9, c, hc, rfl⟩
    refine ⟨_, Mrg_z hM9, ?_⟩
    clear hM9
    have hc64 : c < 64 := by omega
    refine r_aload_n E (dat dkX9_sweep 3 rfl) rfl rfl ?_
    refine q_getl E fl_X9_39 (dat dkX9_sweep 4 rfl) rfl rfl rfl ?_
    refine r_aload_n E (dat dkX9_sweep 5 rfl) rfl rfl ?_
    refine q_getl E fl_X9_26 (dat dkX9_sweep 6 rfl) rfl rfl rfl ?_
    refine r_callV (κ := 7) (μ := [6, 3, 7, 8, 9, 10, 11, 12, 13, 14]) E (sp_X1_keep l G (M 6) o h (M 6 1) _ (by show M 6 = _; rw [← ho1, ← hh1]; exact (evH _).symm) ho8 hh8 hwt) my_X1_keep iv_X1_keep ml_X9_112 (cm_of rfl) ⟨by decide, rfl, rfl⟩ rfl rfl rfl rfl (by decide) (Nat.le_of_ble_eq_true rfl) (dat dkX9_sweep 7 rfl) ?_
    rintro _ _ ⟨rfl, hM9⟩
    refine ⟨_, (show Mrg _ _ M _ (kpM M o h) from Mrg_kp hM9), ?_⟩
    clear hM9
    have e3 : kpM M o h 3 = M 3 := kpM_ne (by decide) (by decide)
    have e0 : kpM M o h 0 = M 0 := kpM_ne (by decide) (by decide)
    have hP9 : kpM M o h 18 = vPx BP be nm x := (kpM_ne (by decide) (by decide)).trans hP
    have hpn : (kpM M o h 0 0 9).toNatClampNeg = 18 := by rw [e0]; exact hpn
    have h_ro : (kpM M o h) 18 0 7 = nI x.1.1 := by rw [hP9]; rfl
    have h_co : (kpM M o h) 18 0 8 = nI x.1.2.1 := by rw [hP9]; rfl
    have h_ce : (kpM M o h) 18 0 9 = nI x.1.2.2 := by rw [hP9]; rfl
    have h_bc : (kpM M o h) 18 0 10 = nI x.2.2.2.2.1 := by rw [hP9]; rfl
    have h_fr : (kpM M o h) 18 0 11 = x.2.2.2.1 := by rw [hP9]; rfl
    have h_he : (kpM M o h) 18 1 = x.2.1 := by rw [hP9]; rfl
    have h_gu : (kpM M o h) 18 2 = x.2.2.1 := by rw [hP9]; rfl
    have h_be : (kpM M o h) 18 3 = be := by rw [hP9]; rfl
    have h_nl : (kpM M o h) 18 5 = x.2.2.2.2.2.1 := by rw [hP9]; rfl
    have h_bh : (kpM M o h) 18 6 = x.2.2.2.2.2.2.2.1 := by rw [hP9]; rfl
    have h_fp : (kpM M o h) 18 7 = x.2.2.2.2.2.2.1 := by rw [hP9]; rfl
    have h_n0 : (kpM M o h) 18 8 = x.2.2.2.2.2.2.2.2 0 := by rw [hP9]; rfl
    have h_n1 : (kpM M o h) 18 9 = x.2.2.2.2.2.2.2.2 1 := by rw [hP9]; rfl
    have h_n2 : (kpM M o h) 18 10 = x.2.2.2.2.2.2.2.2 2 := by rw [hP9]; rfl
    have h_n3 : (kpM M o h) 18 11 = x.2.2.2.2.2.2.2.2 3 := by rw [hP9]; rfl
    refine r_aload_n E (dat dkX9_sweep 8 rfl) rfl rfl ?_
    refine q_getl E fl_X9_26 (dat dkX9_sweep 9 rfl) rfl rfl rfl ?_
    refine r_iload_n E (dat dkX9_sweep 10 rfl) rfl rfl ?_
    refine r_callV (κ := 1) (μ := [3]) E (tp_X5_takeLeaves l G (M 3) c _ e3 hc64) my_X5_takeLeaves iv_X5_takeLeaves ml_X9_280 (cm_of rfl) ⟨by decide, rfl, rfl⟩ rfl rfl rfl rfl (by decide) (Nat.le_of_ble_eq_true rfl) (dat dkX9_sweep 11 rfl) ?_
    rintro _ _ ⟨rfl, rfl⟩
    refine ⟨_, (show Mrg _ _ (kpM M o h) _ (setm (kpM M o h) 3 (swT (M 3) c)) from Mrg_e (i := 0) (by decide) (by decide) rfl rfl), ?_⟩
    refine r_xq ?_
    refine r_ireturn E (dat dkX9_sweep 12 rfl) (by decide) (by decide) ?_
    exact ⟨c, hc, rfl, rfl, rfl⟩

set_option maxRecDepth 100000 in
set_option maxHeartbeats 4000000 in
theorem sp_X9_walk (l : Launch) (hst : l.stackTraces = false) (G : GT) (BP : Nat → Nat → Int32) (be nm : Nat → Int32) (x : PP) (q : Nat) (o h : Nat) (a d : Int32) (M : Mem) (hpn : (M 0 0 9).toNatClampNeg = q) (hq : q = 17 ∨ q = 18) (hP : M q = vPx BP be nm x) (hx : PIv x) (ho1 : M 6 0 1 = nI o) (hh1 : M 6 0 2 = nI h) (ho8 : o < 8) (hh8 : h ≤ 8) (hwt : WTi (M 3)) (hbe : BEx be x) (hpl : PLi x (M 3)) : MCx l G yX9_walk cX9_walk 3 (some .int) ({ frames := 7, cells := 14, slots := 84, locals := 104 } : Room) KC lkC [rv 0 0, iv a, iv d] (M) (fun r M2 => ∃ b, b < x.2.2.2.2.1 ∧ a = nI b ∧ ∃ e, e < 4 ∧ d = nI e ∧ ∃ f, f < x.1.2.2 ∧ M 3 5 b = nI f ∧ ∃ j, nbx x f e = some j ∧ M2 = setm (kpM M o h) 3 (wkT x.2.2.2.2.2.2.2.1 (M 3) b j) ∧ r = some (iv (wkT x.2.2.2.2.2.2.2.1 (M 3) b j 5 b))) (fun E M2 => M2 = M ∧ ((E = oobN ∧ ¬ okb4 x a) ∨ (E = argN ∧ okb4 x a ∧ ¬ (0 ≤ d ∧ d ≤ 3)) ∨ (E = steN ∧ ∃ b, b < x.2.2.2.2.1 ∧ a = nI b ∧ ∃ e, e < 4 ∧ d = nI e ∧ ∃ f, f < x.1.2.2 ∧ M 3 5 b = nI f ∧ nbx x f e = none))) := by
  refine MCx.of RX9 [some (rv 0 0), some (iv a), some (iv d)] 0 (by decide +kernel) rfl rfl rfl ?_
  intro pp ee ss mm aa bb me cd ad E hnt
  rcases hq with rfl | rfl
  ·
    have h_ro : M 17 0 7 = nI x.1.1 := by rw [hP]; rfl
    have h_co : M 17 0 8 = nI x.1.2.1 := by rw [hP]; rfl
    have h_ce : M 17 0 9 = nI x.1.2.2 := by rw [hP]; rfl
    have h_bc : M 17 0 10 = nI x.2.2.2.2.1 := by rw [hP]; rfl
    have h_fr : M 17 0 11 = x.2.2.2.1 := by rw [hP]; rfl
    have h_he : M 17 1 = x.2.1 := by rw [hP]; rfl
    have h_gu : M 17 2 = x.2.2.1 := by rw [hP]; rfl
    have h_be : M 17 3 = be := by rw [hP]; rfl
    have h_nl : M 17 5 = x.2.2.2.2.2.1 := by rw [hP]; rfl
    have h_bh : M 17 6 = x.2.2.2.2.2.2.2.1 := by rw [hP]; rfl
    have h_fp : M 17 7 = x.2.2.2.2.2.2.1 := by rw [hP]; rfl
    have h_n0 : M 17 8 = x.2.2.2.2.2.2.2.2 0 := by rw [hP]; rfl
    have h_n1 : M 17 9 = x.2.2.2.2.2.2.2.2 1 := by rw [hP]; rfl
    have h_n2 : M 17 10 = x.2.2.2.2.2.2.2.2 2 := by rw [hP]; rfl
    have h_n3 : M 17 11 = x.2.2.2.2.2.2.2.2 3 := by rw [hP]; rfl
    have hn64 := (PIv_z hx).1
    
    refine r_aload_n E (dat dkX9_walk 0 rfl) rfl rfl ?_
    refine r_iload_n E (dat dkX9_walk 1 rfl) rfl rfl ?_
    refine r_callVX (κ := 8) (μ := []) E hnt (sp_X9_requireBoots l hst G BP be nm x 17 a M hpn (Or.inl rfl) hP hx) my_X9_requireBoots iv_X9_requireBoots ml_X9_218 cm_id ⟨by decide, rfl, rfl⟩ rfl rfl rfl rfl (by decide) (Nat.le_of_ble_eq_true rfl) (dat dkX9_walk 2 rfl) (by decide) (by decide) (fun E M9 h => ⟨M, Mrg_z h.2.1, rfl, Or.inl ⟨h.1, h.2.2⟩⟩) ?_
    rintro _ _ ⟨rfl, hM9, b, hb, rfl⟩
    refine ⟨_, Mrg_z hM9, ?_⟩
    clear hM9
    have hb4 := hx.2.2.2.2.1
    obtain ⟨f, hf, hfe⟩ := hpl b hb
    refine r_iload_n E (dat dkX9_walk 3 rfl) rfl rfl ?_
    refine r_iconst (v := 0) E (dat dkX9_walk 4 rfl) rfl ?_
    refine r_iconst (v := 3) E (dat dkX9_walk 5 rfl) rfl ?_
    refine r_callSX (μ := []) E hnt (sp_X9_requireRange l hst G (d) (0) (3) _) my_X9_requireRange is_X9_requireRange ml_X9_174 cm_nil rfl rfl (by decide) (Nat.le_of_ble_eq_true rfl) (dat dkX9_walk 6 rfl) (by decide) (by decide) (fun E M9 h => ⟨M, Mrg_z h.2.1, rfl, Or.inr (Or.inl ⟨h.1, ⟨b, hb, rfl⟩, h.2.2⟩)⟩) ?_
    rintro _ _ ⟨rfl, hM9, hlo, hhi⟩
    refine ⟨_, Mrg_z hM9, ?_⟩
    clear hM9
    obtain ⟨e, he3, rfl⟩ := rg_ex (k := 3) (by decide) hlo hhi
    refine r_aload_n E (dat dkX9_walk 7 rfl) rfl rfl ?_
    refine q_getl E fl_X9_26 (dat dkX9_walk 8 rfl) rfl rfl rfl ?_
    refine r_aload_n E (dat dkX9_walk 9 rfl) rfl rfl ?_
    refine q_getd E fl_X9_64 (dat dkX9_walk 10 rfl) rfl rfl rfl hpn ?_
    refine r_iload_n E (dat dkX9_walk 11 rfl) rfl rfl ?_
    refine r_iload_n E (dat dkX9_walk 12 rfl) rfl rfl ?_
    refine r_callV (κ := 1) (μ := [3, 17]) E (tp_X5_canStep l G (M 3) BP be nm x b f e _ rfl hP hx (by omega) hfe hf (by omega)) my_X5_canStep iv_X5_canStep ml_X9_283 (cm_of rfl) ⟨by decide, rfl, rfl⟩ rfl rfl rfl rfl (by decide) (Nat.le_of_ble_eq_true rfl) (dat dkX9_walk 13 rfl) ?_
    rintro _ _ ⟨rfl, rfl⟩
    refine ⟨_, Mrg_z rfl, ?_⟩
    rw [hbe f e hf (by omega)]
    refine r_callSX (μ := []) E hnt (sp_X9_requireState l hst G (if oI (nbx x f e) = -1 then 0 else 1) _) my_X9_requireState is_X9_requireState ml_X9_262 cm_nil rfl rfl (by decide) (Nat.le_of_ble_eq_true rfl) (dat dkX9_walk 14 rfl) (by decide) (by decide) (fun E M9 h9 => ⟨M, Mrg_z h9.2.1, rfl, Or.inr (Or.inr ⟨h9.1, b, hb, rfl, e, by omega, rfl, f, hf, hfe, cs_none (fun k hk => by have := nbx_lt hx f e k hk; omega) h9.2.2⟩)⟩) ?_
    rintro _ _ ⟨rfl, hM9, hne⟩
    refine ⟨_, Mrg_z hM9, ?_⟩
    clear hM9
    obtain ⟨j, hj⟩ := cs_some hne
    have hjn := nbx_lt hx f e j hj
    have hbo : be (f * 4 + e) = nI j := by rw [hbe f e hf (by omega), hj]; rfl
    refine r_aload_n E (dat dkX9_walk 15 rfl) rfl rfl ?_
    refine q_getl E fl_X9_39 (dat dkX9_walk 16 rfl) rfl rfl rfl ?_
    refine r_aload_n E (dat dkX9_walk 17 rfl) rfl rfl ?_
    refine q_getl E fl_X9_26 (dat dkX9_walk 18 rfl) rfl rfl rfl ?_
    refine r_callV (κ := 7) (μ := [6, 3, 7, 8, 9, 10, 11, 12, 13, 14]) E (sp_X1_keep l G (M 6) o h (M 6 1) _ (by show M 6 = _; rw [← ho1, ← hh1]; exact (evH _).symm) ho8 hh8 hwt) my_X1_keep iv_X1_keep ml_X9_112 (cm_of rfl) ⟨by decide, rfl, rfl⟩ rfl rfl rfl rfl (by decide) (Nat.le_of_ble_eq_true rfl) (dat dkX9_walk 19 rfl) ?_
    rintro _ _ ⟨rfl, hM9⟩
    refine ⟨_, (show Mrg _ _ M _ (kpM M o h) from Mrg_kp hM9), ?_⟩
    clear hM9
    have e3 : kpM M o h 3 = M 3 := kpM_ne (by decide) (by decide)
    have e0 : kpM M o h 0 = M 0 := kpM_ne (by decide) (by decide)
    have hP9 : kpM M o h 17 = vPx BP be nm x := (kpM_ne (by decide) (by decide)).trans hP
    have hpn : (kpM M o h 0 0 9).toNatClampNeg = 17 := by rw [e0]; exact hpn
    have h_ro : (kpM M o h) 17 0 7 = nI x.1.1 := by rw [hP9]; rfl
    have h_co : (kpM M o h) 17 0 8 = nI x.1.2.1 := by rw [hP9]; rfl
    have h_ce : (kpM M o h) 17 0 9 = nI x.1.2.2 := by rw [hP9]; rfl
    have h_bc : (kpM M o h) 17 0 10 = nI x.2.2.2.2.1 := by rw [hP9]; rfl
    have h_fr : (kpM M o h) 17 0 11 = x.2.2.2.1 := by rw [hP9]; rfl
    have h_he : (kpM M o h) 17 1 = x.2.1 := by rw [hP9]; rfl
    have h_gu : (kpM M o h) 17 2 = x.2.2.1 := by rw [hP9]; rfl
    have h_be : (kpM M o h) 17 3 = be := by rw [hP9]; rfl
    have h_nl : (kpM M o h) 17 5 = x.2.2.2.2.2.1 := by rw [hP9]; rfl
    have h_bh : (kpM M o h) 17 6 = x.2.2.2.2.2.2.2.1 := by rw [hP9]; rfl
    have h_fp : (kpM M o h) 17 7 = x.2.2.2.2.2.2.1 := by rw [hP9]; rfl
    have h_n0 : (kpM M o h) 17 8 = x.2.2.2.2.2.2.2.2 0 := by rw [hP9]; rfl
    have h_n1 : (kpM M o h) 17 9 = x.2.2.2.2.2.2.2.2 1 := by rw [hP9]; rfl
    have h_n2 : (kpM M o h) 17 10 = x.2.2.2.2.2.2.2.2 2 := by rw [hP9]; rfl
    have h_n3 : (kpM M o h) 17 11 = x.2.2.2.2.2.2.2.2 3 := by rw [hP9]; rfl
    refine r_aload_n E (dat dkX9_walk 20 rfl) rfl rfl ?_
    refine q_getl E fl_X9_26 (dat dkX9_walk 21 rfl) rfl rfl rfl ?_
    refine r_aload_n E (dat dkX9_walk 22 rfl) rfl rfl ?_
    refine q_getd E fl_X9_64 (dat dkX9_walk 23 rfl) rfl rfl rfl hpn ?_
    refine r_iload_n E (dat dkX9_walk 24 rfl) rfl rfl ?_
    refine r_iload_n E (dat dkX9_walk 25 rfl) rfl rfl ?_
    refine r_callV (κ := 1) (μ := [3, 17]) E (tp_X5_step l G (M 3) BP be nm x b f e j _ e3 hP9 hx (by omega) hfe hf (by omega) hbo (by omega)) my_X5_step iv_X5_step ml_X9_287 (cm_of rfl) ⟨by decide, rfl, rfl⟩ rfl rfl rfl rfl (by decide) (Nat.le_of_ble_eq_true rfl) (dat dkX9_walk 26 rfl) ?_
    rintro _ _ ⟨rfl, rfl⟩
    refine ⟨_, (show Mrg _ _ (kpM M o h) _ (setm (kpM M o h) 3 (wkT x.2.2.2.2.2.2.2.1 (M 3) b j)) from Mrg_e (i := 0) (by decide) (by decide) rfl rfl), ?_⟩
    refine r_aload_n E (dat dkX9_walk 27 rfl) rfl rfl ?_
    refine q_getl E fl_X9_26 (dat dkX9_walk 28 rfl) rfl rfl rfl ?_
    refine q_geta E fl_X9_228 (dat dkX9_walk 29 rfl) rfl rfl rfl ?_
    refine r_iload_n E (dat dkX9_walk 30 rfl) rfl rfl ?_
    refine q_iald E (dat dkX9_walk 31 rfl) rfl rfl (by decide) rfl rfl (by omega) ?_
    refine r_xq ?_
    refine r_ireturn E (dat dkX9_walk 32 rfl) (by decide) (by decide) ?_
    exact ⟨b, hb, rfl, e, by omega, rfl, f, hf, hfe, j, hj, rfl, rfl⟩
  ·
    have h_ro : M 18 0 7 = nI x.1.1 := by rw [hP]; rfl
    have h_co : M 18 0 8 = nI x.1.2.1 := by rw [hP]; rfl
    have h_ce : M 18 0 9 = nI x.1.2.2 := by rw [hP]; rfl
    have h_bc : M 18 0 10 = nI x.2.2.2.2.1 := by rw [hP]; rfl
    have h_fr : M 18 0 11 = x.2.2.2.1 := by rw [hP]; rfl
    have h_he : M 18 1 = x.2.1 := by rw [hP]; rfl
    have h_gu : M 18 2 = x.2.2.1 := by rw [hP]; rfl
    have h_be : M 18 3 = be := by rw [hP]; rfl
    have h_nl : M 18 5 = x.2.2.2.2.2.1 := by rw [hP]; rfl
    have h_bh : M 18 6 = x.2.2.2.2.2.2.2.1 := by rw [hP]; rfl
    have h_fp : M 18 7 = x.2.2.2.2.2.2.1 := by rw [hP]; rfl
    have h_n0 : M 18 8 = x.2.2.2.2.2.2.2.2 0 := by rw [hP]; rfl
    have h_n1 : M 18 9 = x.2.2.2.2.2.2.2.2 1 := by rw [hP]; rfl
    have h_n2 : M 18 10 = x.2.2.2.2.2.2.2.2 2 := by rw [hP]; rfl
    have h_n3 : M 18 11 = x.2.2.2.2.2.2.2.2 3 := by rw [hP]; rfl
    have hn64 := (PIv_z hx).1
    
    refine r_aload_n E (dat dkX9_walk 0 rfl) rfl rfl ?_
    refine r_iload_n E (dat dkX9_walk 1 rfl) rfl rfl ?_
    refine r_callVX (κ := 8) (μ := []) E hnt (sp_X9_requireBoots l hst G BP be nm x 18 a M hpn (Or.inr rfl) hP hx) my_X9_requireBoots iv_X9_requireBoots ml_X9_218 cm_id ⟨by decide, rfl, rfl⟩ rfl rfl rfl rfl (by decide) (Nat.le_of_ble_eq_true rfl) (dat dkX9_walk 2 rfl) (by decide) (by decide) (fun E M9 h => ⟨M, Mrg_z h.2.1, rfl, Or.inl ⟨h.1, h.2.2⟩⟩) ?_
    rintro _ _ ⟨rfl, hM9, b, hb, rfl⟩
    refine ⟨_, Mrg_z hM9, ?_⟩
    clear hM9
    have hb4 := hx.2.2.2.2.1
    obtain ⟨f, hf, hfe⟩ := hpl b hb
    refine r_iload_n E (dat dkX9_walk 3 rfl) rfl rfl ?_
    refine r_iconst (v := 0) E (dat dkX9_walk 4 rfl) rfl ?_
    refine r_iconst (v := 3) E (dat dkX9_walk 5 rfl) rfl ?_
    refine r_callSX (μ := []) E hnt (sp_X9_requireRange l hst G (d) (0) (3) _) my_X9_requireRange is_X9_requireRange ml_X9_174 cm_nil rfl rfl (by decide) (Nat.le_of_ble_eq_true rfl) (dat dkX9_walk 6 rfl) (by decide) (by decide) (fun E M9 h => ⟨M, Mrg_z h.2.1, rfl, Or.inr (Or.inl ⟨h.1, ⟨b, hb, rfl⟩, h.2.2⟩)⟩) ?_
    rintro _ _ ⟨rfl, hM9, hlo, hhi⟩
    refine ⟨_, Mrg_z hM9, ?_⟩
    clear hM9
    obtain ⟨e, he3, rfl⟩ := rg_ex (k := 3) (by decide) hlo hhi
    refine r_aload_n E (dat dkX9_walk 7 rfl) rfl rfl ?_
    refine q_getl E fl_X9_26 (dat dkX9_walk 8 rfl) rfl rfl rfl ?_
    refine r_aload_n E (dat dkX9_walk 9 rfl) rfl rfl ?_
    refine q_getd E fl_X9_64 (dat dkX9_walk 10 rfl) rfl rfl rfl hpn ?_
    refine r_iload_n E (dat dkX9_walk 11 rfl) rfl rfl ?_
    refine r_iload_n E (dat dkX9_walk 12 rfl) rfl rfl ?_
    refine r_callV (κ := 1) (μ := [3, 18]) E (tp_X5_canStep l G (M 3) BP be nm x b f e _ rfl hP hx (by omega) hfe hf (by omega)) my_X5_canStep iv_X5_canStep ml_X9_283 (cm_of rfl) ⟨by decide, rfl, rfl⟩ rfl rfl rfl rfl (by decide) (Nat.le_of_ble_eq_true rfl) (dat dkX9_walk 13 rfl) ?_
    rintro _ _ ⟨rfl, rfl⟩
    refine ⟨_, Mrg_z rfl, ?_⟩
    rw [hbe f e hf (by omega)]
    refine r_callSX (μ := []) E hnt (sp_X9_requireState l hst G (if oI (nbx x f e) = -1 then 0 else 1) _) my_X9_requireState is_X9_requireState ml_X9_262 cm_nil rfl rfl (by decide) (Nat.le_of_ble_eq_true rfl) (dat dkX9_walk 14 rfl) (by decide) (by decide) (fun E M9 h9 => ⟨M, Mrg_z h9.2.1, rfl, Or.inr (Or.inr ⟨h9.1, b, hb, rfl, e, by omega, rfl, f, hf, hfe, cs_none (fun k hk => by have := nbx_lt hx f e k hk; omega) h9.2.2⟩)⟩) ?_
    rintro _ _ ⟨rfl, hM9, hne⟩
    refine ⟨_, Mrg_z hM9, ?_⟩
    clear hM9
    obtain ⟨j, hj⟩ := cs_some hne
    have hjn := nbx_lt hx f e j hj
    have hbo : be (f * 4 + e) = nI j := by rw [hbe f e hf (by omega), hj]; rfl
    refine r_aload_n E (dat dkX9_walk 15 rfl) rfl rfl ?_
    refine q_getl E fl_X9_39 (dat dkX9_walk 16 rfl) rfl rfl rfl ?_
    refine r_aload_n E (dat dkX9_walk 17 rfl) rfl rfl ?_
    refine q_getl E fl_X9_26 (dat dkX9_walk 18 rfl) rfl rfl rfl ?_
    refine r_callV (κ := 7) (μ := [6, 3, 7, 8, 9, 10, 11, 12, 13, 14]) E (sp_X1_keep l G (M 6) o h (M 6 1) _ (by show M 6 = _; rw [← ho1, ← hh1]; exact (evH _).symm) ho8 hh8 hwt) my_X1_keep iv_X1_keep ml_X9_112 (cm_of rfl) ⟨by decide, rfl, rfl⟩ rfl rfl rfl rfl (by decide) (Nat.le_of_ble_eq_true rfl) (dat dkX9_walk 19 rfl) ?_
    rintro _ _ ⟨rfl, hM9⟩
    refine ⟨_, (show Mrg _ _ M _ (kpM M o h) from Mrg_kp hM9), ?_⟩
    clear hM9
    have e3 : kpM M o h 3 = M 3 := kpM_ne (by decide) (by decide)
    have e0 : kpM M o h 0 = M 0 := kpM_ne (by decide) (by decide)
    have hP9 : kpM M o h 18 = vPx BP be nm x := (kpM_ne (by decide) (by decide)).trans hP
    have hpn : (kpM M o h 0 0 9).toNatClampNeg = 18 := by rw [e0]; exact hpn
    have h_ro : (kpM M o h) 18 0 7 = nI x.1.1 := by rw [hP9]; rfl
    have h_co : (kpM M o h) 18 0 8 = nI x.1.2.1 := by rw [hP9]; rfl
    have h_ce : (kpM M o h) 18 0 9 = nI x.1.2.2 := by rw [hP9]; rfl
    have h_bc : (kpM M o h) 18 0 10 = nI x.2.2.2.2.1 := by rw [hP9]; rfl
    have h_fr : (kpM M o h) 18 0 11 = x.2.2.2.1 := by rw [hP9]; rfl
    have h_he : (kpM M o h) 18 1 = x.2.1 := by rw [hP9]; rfl
    have h_gu : (kpM M o h) 18 2 = x.2.2.1 := by rw [hP9]; rfl
    have h_be : (kpM M o h) 18 3 = be := by rw [hP9]; rfl
    have h_nl : (kpM M o h) 18 5 = x.2.2.2.2.2.1 := by rw [hP9]; rfl
    have h_bh : (kpM M o h) 18 6 = x.2.2.2.2.2.2.2.1 := by rw [hP9]; rfl
    have h_fp : (kpM M o h) 18 7 = x.2.2.2.2.2.2.1 := by rw [hP9]; rfl
    have h_n0 : (kpM M o h) 18 8 = x.2.2.2.2.2.2.2.2 0 := by rw [hP9]; rfl
    have h_n1 : (kpM M o h) 18 9 = x.2.2.2.2.2.2.2.2 1 := by rw [hP9]; rfl
    have h_n2 : (kpM M o h) 18 10 = x.2.2.2.2.2.2.2.2 2 := by rw [hP9]; rfl
    have h_n3 : (kpM M o h) 18 11 = x.2.2.2.2.2.2.2.2 3 := by rw [hP9]; rfl
    refine r_aload_n E (dat dkX9_walk 20 rfl) rfl rfl ?_
    refine q_getl E fl_X9_26 (dat dkX9_walk 21 rfl) rfl rfl rfl ?_
    refine r_aload_n E (dat dkX9_walk 22 rfl) rfl rfl ?_
    refine q_getd E fl_X9_64 (dat dkX9_walk 23 rfl) rfl rfl rfl hpn ?_
    refine r_iload_n E (dat dkX9_walk 24 rfl) rfl rfl ?_
    refine r_iload_n E (dat dkX9_walk 25 rfl) rfl rfl ?_
    refine r_callV (κ := 1) (μ := [3, 18]) E (tp_X5_step l G (M 3) BP be nm x b f e j _ e3 hP9 hx (by omega) hfe hf (by omega) hbo (by omega)) my_X5_step iv_X5_step ml_X9_287 (cm_of rfl) ⟨by decide, rfl, rfl⟩ rfl rfl rfl rfl (by decide) (Nat.le_of_ble_eq_true rfl) (dat dkX9_walk 26 rfl) ?_
    rintro _ _ ⟨rfl, rfl⟩
    refine ⟨_, (show Mrg _ _ (kpM M o h) _ (setm (kpM M o h) 3 (wkT x.2.2.2.2.2.2.2.1 (M 3) b j)) from Mrg_e (i := 0) (by decide) (by decide) rfl rfl), ?_⟩
    refine r_aload_n E (dat dkX9_walk 27 rfl) rfl rfl ?_
    refine q_getl E fl_X9_26 (dat dkX9_walk 28 rfl) rfl rfl rfl ?_
    refine q_geta E fl_X9_228 (dat dkX9_walk 29 rfl) rfl rfl rfl ?_
    refine r_iload_n E (dat dkX9_walk 30 rfl) rfl rfl ?_
    refine q_iald E (dat dkX9_walk 31 rfl) rfl rfl (by decide) rfl rfl (by omega) ?_
    refine r_xq ?_
    refine r_ireturn E (dat dkX9_walk 32 rfl) (by decide) (by decide) ?_
    exact ⟨b, hb, rfl, e, by omega, rfl, f, hf, hfe, j, hj, rfl, rfl⟩

set_option maxRecDepth 100000 in
set_option maxHeartbeats 4000000 in
theorem sp_X9_splash (l : Launch) (hst : l.stackTraces = false) (G : GT) (BP : Nat → Nat → Int32) (be nm : Nat → Int32) (x : PP) (q : Nat) (o h : Nat) (a : Int32) (M : Mem) (hpn : (M 0 0 9).toNatClampNeg = q) (hq : q = 17 ∨ q = 18) (hP : M q = vPx BP be nm x) (hx : PIv x) (ho1 : M 6 0 1 = nI o) (hh1 : M 6 0 2 = nI h) (ho8 : o < 8) (hh8 : h ≤ 8) (hwt : WTi (M 3)) (hbe : BEx be x) (hpl : PLi x (M 3)) : MCx l G yX9_splash cX9_splash 2 (some .int) ({ frames := 7, cells := 10, slots := 60, locals := 103 } : Room) KC lkC [rv 0 0, iv a] (M) (fun r M2 => ∃ b, b < x.2.2.2.2.1 ∧ a = nI b ∧ ∃ f, f < x.1.2.2 ∧ M 3 5 b = nI f ∧ ¬ opI (M 3 1 f) = 0 ∧ M2 = setm (kpM M o h) 3 (thT x (M 3) b f) ∧ r = some (iv (thR x (M 3) f))) (fun E M2 => M2 = M ∧ ((E = oobN ∧ ¬ okb4 x a) ∨ (E = steN ∧ ∃ b, b < x.2.2.2.2.1 ∧ a = nI b ∧ ∃ f, f < x.1.2.2 ∧ M 3 5 b = nI f ∧ opI (M 3 1 f) = 0))) := by
  refine MCx.of RX9 [some (rv 0 0), some (iv a)] 0 (by decide +kernel) rfl rfl rfl ?_
  intro pp ee ss mm aa bb me cd ad E hnt
  rcases hq with rfl | rfl
  ·
    have h_ro : M 17 0 7 = nI x.1.1 := by rw [hP]; rfl
    have h_co : M 17 0 8 = nI x.1.2.1 := by rw [hP]; rfl
    have h_ce : M 17 0 9 = nI x.1.2.2 := by rw [hP]; rfl
    have h_bc : M 17 0 10 = nI x.2.2.2.2.1 := by rw [hP]; rfl
    have h_fr : M 17 0 11 = x.2.2.2.1 := by rw [hP]; rfl
    have h_he : M 17 1 = x.2.1 := by rw [hP]; rfl
    have h_gu : M 17 2 = x.2.2.1 := by rw [hP]; rfl
    have h_be : M 17 3 = be := by rw [hP]; rfl
    have h_nl : M 17 5 = x.2.2.2.2.2.1 := by rw [hP]; rfl
    have h_bh : M 17 6 = x.2.2.2.2.2.2.2.1 := by rw [hP]; rfl
    have h_fp : M 17 7 = x.2.2.2.2.2.2.1 := by rw [hP]; rfl
    have h_n0 : M 17 8 = x.2.2.2.2.2.2.2.2 0 := by rw [hP]; rfl
    have h_n1 : M 17 9 = x.2.2.2.2.2.2.2.2 1 := by rw [hP]; rfl
    have h_n2 : M 17 10 = x.2.2.2.2.2.2.2.2 2 := by rw [hP]; rfl
    have h_n3 : M 17 11 = x.2.2.2.2.2.2.2.2 3 := by rw [hP]; rfl
    have hn64 := (PIv_z hx).1
    
    refine r_aload_n E (dat dkX9_splash 0 rfl) rfl rfl ?_
    refine r_iload_n E (dat dkX9_splash 1 rfl) rfl rfl ?_
    refine r_callVX (κ := 8) (μ := []) E hnt (sp_X9_requireBoots l hst G BP be nm x 17 a M hpn (Or.inl rfl) hP hx) my_X9_requireBoots iv_X9_requireBoots ml_X9_218 cm_id ⟨by decide, rfl, rfl⟩ rfl rfl rfl rfl (by decide) (Nat.le_of_ble_eq_true rfl) (dat dkX9_splash 2 rfl) (by decide) (by decide) (fun E M9 h => ⟨M, Mrg_z h.2.1, rfl, Or.inl ⟨h.1, h.2.2⟩⟩) ?_
    rintro _ _ ⟨rfl, hM9, b, hb, rfl⟩
    refine ⟨_, Mrg_z hM9, ?_⟩
    clear hM9
    have hb4 := hx.2.2.2.2.1
    obtain ⟨f, hf, hfe⟩ := hpl b hb
    refine r_aload_n E (dat dkX9_splash 3 rfl) rfl rfl ?_
    refine q_getl E fl_X9_26 (dat dkX9_splash 4 rfl) rfl rfl rfl ?_
    refine r_iload_n E (dat dkX9_splash 5 rfl) rfl rfl ?_
    refine r_callV (κ := 1) (μ := [3]) E (tp_X5_canThrow l G (M 3) b f _ rfl (by omega) hfe (by omega)) my_X5_canThrow iv_X5_canThrow ml_X9_291 (cm_of rfl) ⟨by decide, rfl, rfl⟩ rfl rfl rfl rfl (by decide) (Nat.le_of_ble_eq_true rfl) (dat dkX9_splash 6 rfl) ?_
    rintro _ _ ⟨rfl, rfl⟩
    refine ⟨_, Mrg_z rfl, ?_⟩
    refine r_callSX (μ := []) E hnt (sp_X9_requireState l hst G (opI (M 3 1 f)) _) my_X9_requireState is_X9_requireState ml_X9_262 cm_nil rfl rfl (by decide) (Nat.le_of_ble_eq_true rfl) (dat dkX9_splash 7 rfl) (by decide) (by decide) (fun E M9 h9 => ⟨M, Mrg_z h9.2.1, rfl, Or.inr ⟨h9.1, b, hb, rfl, f, hf, hfe, h9.2.2⟩⟩) ?_
    rintro _ _ ⟨rfl, hM9, hne⟩
    refine ⟨_, Mrg_z hM9, ?_⟩
    clear hM9
    refine r_aload_n E (dat dkX9_splash 8 rfl) rfl rfl ?_
    refine q_getl E fl_X9_39 (dat dkX9_splash 9 rfl) rfl rfl rfl ?_
    refine r_aload_n E (dat dkX9_splash 10 rfl) rfl rfl ?_
    refine q_getl E fl_X9_26 (dat dkX9_splash 11 rfl) rfl rfl rfl ?_
    refine r_callV (κ := 7) (μ := [6, 3, 7, 8, 9, 10, 11, 12, 13, 14]) E (sp_X1_keep l G (M 6) o h (M 6 1) _ (by show M 6 = _; rw [← ho1, ← hh1]; exact (evH _).symm) ho8 hh8 hwt) my_X1_keep iv_X1_keep ml_X9_112 (cm_of rfl) ⟨by decide, rfl, rfl⟩ rfl rfl rfl rfl (by decide) (Nat.le_of_ble_eq_true rfl) (dat dkX9_splash 12 rfl) ?_
    rintro _ _ ⟨rfl, hM9⟩
    refine ⟨_, (show Mrg _ _ M _ (kpM M o h) from Mrg_kp hM9), ?_⟩
    clear hM9
    have e3 : kpM M o h 3 = M 3 := kpM_ne (by decide) (by decide)
    have e0 : kpM M o h 0 = M 0 := kpM_ne (by decide) (by decide)
    have hP9 : kpM M o h 17 = vPx BP be nm x := (kpM_ne (by decide) (by decide)).trans hP
    have hpn : (kpM M o h 0 0 9).toNatClampNeg = 17 := by rw [e0]; exact hpn
    have h_ro : (kpM M o h) 17 0 7 = nI x.1.1 := by rw [hP9]; rfl
    have h_co : (kpM M o h) 17 0 8 = nI x.1.2.1 := by rw [hP9]; rfl
    have h_ce : (kpM M o h) 17 0 9 = nI x.1.2.2 := by rw [hP9]; rfl
    have h_bc : (kpM M o h) 17 0 10 = nI x.2.2.2.2.1 := by rw [hP9]; rfl
    have h_fr : (kpM M o h) 17 0 11 = x.2.2.2.1 := by rw [hP9]; rfl
    have h_he : (kpM M o h) 17 1 = x.2.1 := by rw [hP9]; rfl
    have h_gu : (kpM M o h) 17 2 = x.2.2.1 := by rw [hP9]; rfl
    have h_be : (kpM M o h) 17 3 = be := by rw [hP9]; rfl
    have h_nl : (kpM M o h) 17 5 = x.2.2.2.2.2.1 := by rw [hP9]; rfl
    have h_bh : (kpM M o h) 17 6 = x.2.2.2.2.2.2.2.1 := by rw [hP9]; rfl
    have h_fp : (kpM M o h) 17 7 = x.2.2.2.2.2.2.1 := by rw [hP9]; rfl
    have h_n0 : (kpM M o h) 17 8 = x.2.2.2.2.2.2.2.2 0 := by rw [hP9]; rfl
    have h_n1 : (kpM M o h) 17 9 = x.2.2.2.2.2.2.2.2 1 := by rw [hP9]; rfl
    have h_n2 : (kpM M o h) 17 10 = x.2.2.2.2.2.2.2.2 2 := by rw [hP9]; rfl
    have h_n3 : (kpM M o h) 17 11 = x.2.2.2.2.2.2.2.2 3 := by rw [hP9]; rfl
    refine r_aload_n E (dat dkX9_splash 13 rfl) rfl rfl ?_
    refine q_getl E fl_X9_26 (dat dkX9_splash 14 rfl) rfl rfl rfl ?_
    refine r_aload_n E (dat dkX9_splash 15 rfl) rfl rfl ?_
    refine q_getd E fl_X9_64 (dat dkX9_splash 16 rfl) rfl rfl rfl hpn ?_
    refine r_iload_n E (dat dkX9_splash 17 rfl) rfl rfl ?_
    refine r_callV (κ := 1) (μ := [3, 17]) E (tp_X5_throwWater l G (M 3) BP be nm x b f _ e3 hP9 hx hbe (by omega) hfe hf) my_X5_throwWater iv_X5_throwWater ml_X9_294 (cm_of rfl) ⟨by decide, rfl, rfl⟩ rfl rfl rfl rfl (by decide) (Nat.le_of_ble_eq_true rfl) (dat dkX9_splash 18 rfl) ?_
    rintro _ _ ⟨rfl, rfl⟩
    refine ⟨_, (show Mrg _ _ (kpM M o h) _ (setm (kpM M o h) 3 (thT x (M 3) b f)) from Mrg_e (i := 0) (by decide) (by decide) rfl rfl), ?_⟩
    refine r_xq ?_
    refine r_ireturn E (dat dkX9_splash 19 rfl) (by decide) (by decide) ?_
    exact ⟨b, hb, rfl, f, hf, hfe, hne, rfl, rfl⟩
  ·
    have h_ro : M 18 0 7 = nI x.1.1 := by rw [hP]; rfl
    have h_co : M 18 0 8 = nI x.1.2.1 := by rw [hP]; rfl
    have h_ce : M 18 0 9 = nI x.1.2.2 := by rw [hP]; rfl
    have h_bc : M 18 0 10 = nI x.2.2.2.2.1 := by rw [hP]; rfl
    have h_fr : M 18 0 11 = x.2.2.2.1 := by rw [hP]; rfl
    have h_he : M 18 1 = x.2.1 := by rw [hP]; rfl
    have h_gu : M 18 2 = x.2.2.1 := by rw [hP]; rfl
    have h_be : M 18 3 = be := by rw [hP]; rfl
    have h_nl : M 18 5 = x.2.2.2.2.2.1 := by rw [hP]; rfl
    have h_bh : M 18 6 = x.2.2.2.2.2.2.2.1 := by rw [hP]; rfl
    have h_fp : M 18 7 = x.2.2.2.2.2.2.1 := by rw [hP]; rfl
    have h_n0 : M 18 8 = x.2.2.2.2.2.2.2.2 0 := by rw [hP]; rfl
    have h_n1 : M 18 9 = x.2.2.2.2.2.2.2.2 1 := by rw [hP]; rfl
    have h_n2 : M 18 10 = x.2.2.2.2.2.2.2.2 2 := by rw [hP]; rfl
    have h_n3 : M 18 11 = x.2.2.2.2.2.2.2.2 3 := by rw [hP]; rfl
    have hn64 := (PIv_z hx).1
    
    refine r_aload_n E (dat dkX9_splash 0 rfl) rfl rfl ?_
    refine r_iload_n E (dat dkX9_splash 1 rfl) rfl rfl ?_
    refine r_callVX (κ := 8) (μ := []) E hnt (sp_X9_requireBoots l hst G BP be nm x 18 a M hpn (Or.inr rfl) hP hx) my_X9_requireBoots iv_X9_requireBoots ml_X9_218 cm_id ⟨by decide, rfl, rfl⟩ rfl rfl rfl rfl (by decide) (Nat.le_of_ble_eq_true rfl) (dat dkX9_splash 2 rfl) (by decide) (by decide) (fun E M9 h => ⟨M, Mrg_z h.2.1, rfl, Or.inl ⟨h.1, h.2.2⟩⟩) ?_
    rintro _ _ ⟨rfl, hM9, b, hb, rfl⟩
    refine ⟨_, Mrg_z hM9, ?_⟩
    clear hM9
    have hb4 := hx.2.2.2.2.1
    obtain ⟨f, hf, hfe⟩ := hpl b hb
    refine r_aload_n E (dat dkX9_splash 3 rfl) rfl rfl ?_
    refine q_getl E fl_X9_26 (dat dkX9_splash 4 rfl) rfl rfl rfl ?_
    refine r_iload_n E (dat dkX9_splash 5 rfl) rfl rfl ?_
    refine r_callV (κ := 1) (μ := [3]) E (tp_X5_canThrow l G (M 3) b f _ rfl (by omega) hfe (by omega)) my_X5_canThrow iv_X5_canThrow ml_X9_291 (cm_of rfl) ⟨by decide, rfl, rfl⟩ rfl rfl rfl rfl (by decide) (Nat.le_of_ble_eq_true rfl) (dat dkX9_splash 6 rfl) ?_
    rintro _ _ ⟨rfl, rfl⟩
    refine ⟨_, Mrg_z rfl, ?_⟩
    refine r_callSX (μ := []) E hnt (sp_X9_requireState l hst G (opI (M 3 1 f)) _) my_X9_requireState is_X9_requireState ml_X9_262 cm_nil rfl rfl (by decide) (Nat.le_of_ble_eq_true rfl) (dat dkX9_splash 7 rfl) (by decide) (by decide) (fun E M9 h9 => ⟨M, Mrg_z h9.2.1, rfl, Or.inr ⟨h9.1, b, hb, rfl, f, hf, hfe, h9.2.2⟩⟩) ?_
    rintro _ _ ⟨rfl, hM9, hne⟩
    refine ⟨_, Mrg_z hM9, ?_⟩
    clear hM9
    refine r_aload_n E (dat dkX9_splash 8 rfl) rfl rfl ?_
    refine q_getl E fl_X9_39 (dat dkX9_splash 9 rfl) rfl rfl rfl ?_
    refine r_aload_n E (dat dkX9_splash 10 rfl) rfl rfl ?_
    refine q_getl E fl_X9_26 (dat dkX9_splash 11 rfl) rfl rfl rfl ?_
    refine r_callV (κ := 7) (μ := [6, 3, 7, 8, 9, 10, 11, 12, 13, 14]) E (sp_X1_keep l G (M 6) o h (M 6 1) _ (by show M 6 = _; rw [← ho1, ← hh1]; exact (evH _).symm) ho8 hh8 hwt) my_X1_keep iv_X1_keep ml_X9_112 (cm_of rfl) ⟨by decide, rfl, rfl⟩ rfl rfl rfl rfl (by decide) (Nat.le_of_ble_eq_true rfl) (dat dkX9_splash 12 rfl) ?_
    rintro _ _ ⟨rfl, hM9⟩
    refine ⟨_, (show Mrg _ _ M _ (kpM M o h) from Mrg_kp hM9), ?_⟩
    clear hM9
    have e3 : kpM M o h 3 = M 3 := kpM_ne (by decide) (by decide)
    have e0 : kpM M o h 0 = M 0 := kpM_ne (by decide) (by decide)
    have hP9 : kpM M o h 18 = vPx BP be nm x := (kpM_ne (by decide) (by decide)).trans hP
    have hpn : (kpM M o h 0 0 9).toNatClampNeg = 18 := by rw [e0]; exact hpn
    have h_ro : (kpM M o h) 18 0 7 = nI x.1.1 := by rw [hP9]; rfl
    have h_co : (kpM M o h) 18 0 8 = nI x.1.2.1 := by rw [hP9]; rfl
    have h_ce : (kpM M o h) 18 0 9 = nI x.1.2.2 := by rw [hP9]; rfl
    have h_bc : (kpM M o h) 18 0 10 = nI x.2.2.2.2.1 := by rw [hP9]; rfl
    have h_fr : (kpM M o h) 18 0 11 = x.2.2.2.1 := by rw [hP9]; rfl
    have h_he : (kpM M o h) 18 1 = x.2.1 := by rw [hP9]; rfl
    have h_gu : (kpM M o h) 18 2 = x.2.2.1 := by rw [hP9]; rfl
    have h_be : (kpM M o h) 18 3 = be := by rw [hP9]; rfl
    have h_nl : (kpM M o h) 18 5 = x.2.2.2.2.2.1 := by rw [hP9]; rfl
    have h_bh : (kpM M o h) 18 6 = x.2.2.2.2.2.2.2.1 := by rw [hP9]; rfl
    have h_fp : (kpM M o h) 18 7 = x.2.2.2.2.2.2.1 := by rw [hP9]; rfl
    have h_n0 : (kpM M o h) 18 8 = x.2.2.2.2.2.2.2.2 0 := by rw [hP9]; rfl
    have h_n1 : (kpM M o h) 18 9 = x.2.2.2.2.2.2.2.2 1 := by rw [hP9]; rfl
    have h_n2 : (kpM M o h) 18 10 = x.2.2.2.2.2.2.2.2 2 := by rw [hP9]; rfl
    have h_n3 : (kpM M o h) 18 11 = x.2.2.2.2.2.2.2.2 3 := by rw [hP9]; rfl
    refine r_aload_n E (dat dkX9_splash 13 rfl) rfl rfl ?_
    refine q_getl E fl_X9_26 (dat dkX9_splash 14 rfl) rfl rfl rfl ?_
    refine r_aload_n E (dat dkX9_splash 15 rfl) rfl rfl ?_
    refine q_getd E fl_X9_64 (dat dkX9_splash 16 rfl) rfl rfl rfl hpn ?_
    refine r_iload_n E (dat dkX9_splash 17 rfl) rfl rfl ?_
    refine r_callV (κ := 1) (μ := [3, 18]) E (tp_X5_throwWater l G (M 3) BP be nm x b f _ e3 hP9 hx hbe (by omega) hfe hf) my_X5_throwWater iv_X5_throwWater ml_X9_294 (cm_of rfl) ⟨by decide, rfl, rfl⟩ rfl rfl rfl rfl (by decide) (Nat.le_of_ble_eq_true rfl) (dat dkX9_splash 18 rfl) ?_
    rintro _ _ ⟨rfl, rfl⟩
    refine ⟨_, (show Mrg _ _ (kpM M o h) _ (setm (kpM M o h) 3 (thT x (M 3) b f)) from Mrg_e (i := 0) (by decide) (by decide) rfl rfl), ?_⟩
    refine r_xq ?_
    refine r_ireturn E (dat dkX9_splash 19 rfl) (by decide) (by decide) ?_
    exact ⟨b, hb, rfl, f, hf, hfe, hne, rfl, rfl⟩

set_option maxRecDepth 100000 in
set_option maxHeartbeats 4000000 in
theorem sp_X9_passMinutes (l : Launch) (hst : l.stackTraces = false) (G : GT) (BP : Nat → Nat → Int32) (be nm : Nat → Int32) (x : PP) (q : Nat) (o h : Nat) (a : Int32) (M : Mem) (hpn : (M 0 0 9).toNatClampNeg = q) (hq : q = 17 ∨ q = 18) (hP : M q = vPx BP be nm x) (hx : PIv x) (ho1 : M 6 0 1 = nI o) (hh1 : M 6 0 2 = nI h) (ho8 : o < 8) (hh8 : h ≤ 8) (hwt : WTi (M 3)) (hbe : BEx be x) (hpl : PLi x (M 3)) : MCx l G yX9_passMinutes cX9_passMinutes 3 (some .int) ({ frames := 7, cells := 6, slots := 36, locals := 118 } : Room) KC lkC [rv 0 0, iv a] (M) (fun r M2 => ∃ t, t ≤ 60 ∧ a = nI t ∧ (1 ≤ a) ∧ ¬ 999 < M 3 0 7 + a ∧ M2 = setm (kpM M o h) 3 (mnX x (M 3) t) ∧ r = some (iv (mnX x (M 3) t 0 11 - M 3 0 11))) (fun E M2 => M2 = M ∧ ((E = argN ∧ ¬ (1 ≤ a ∧ a ≤ 60)) ∨ (E = steN ∧ (1 ≤ a ∧ a ≤ 60) ∧ 999 < M 3 0 7 + a))) := by
  refine MCx.of RX9 [some (rv 0 0), some (iv a), none] 1 (by decide +kernel) rfl rfl rfl ?_
  intro pp ee ss mm aa bb me cd ad E hnt
  rcases hq with rfl | rfl
  ·
    have h_ro : M 17 0 7 = nI x.1.1 := by rw [hP]; rfl
    have h_co : M 17 0 8 = nI x.1.2.1 := by rw [hP]; rfl
    have h_ce : M 17 0 9 = nI x.1.2.2 := by rw [hP]; rfl
    have h_bc : M 17 0 10 = nI x.2.2.2.2.1 := by rw [hP]; rfl
    have h_fr : M 17 0 11 = x.2.2.2.1 := by rw [hP]; rfl
    have h_he : M 17 1 = x.2.1 := by rw [hP]; rfl
    have h_gu : M 17 2 = x.2.2.1 := by rw [hP]; rfl
    have h_be : M 17 3 = be := by rw [hP]; rfl
    have h_nl : M 17 5 = x.2.2.2.2.2.1 := by rw [hP]; rfl
    have h_bh : M 17 6 = x.2.2.2.2.2.2.2.1 := by rw [hP]; rfl
    have h_fp : M 17 7 = x.2.2.2.2.2.2.1 := by rw [hP]; rfl
    have h_n0 : M 17 8 = x.2.2.2.2.2.2.2.2 0 := by rw [hP]; rfl
    have h_n1 : M 17 9 = x.2.2.2.2.2.2.2.2 1 := by rw [hP]; rfl
    have h_n2 : M 17 10 = x.2.2.2.2.2.2.2.2 2 := by rw [hP]; rfl
    have h_n3 : M 17 11 = x.2.2.2.2.2.2.2.2 3 := by rw [hP]; rfl
    have hn64 := (PIv_z hx).1
    
    refine r_iload_n E (dat dkX9_passMinutes 0 rfl) rfl rfl ?_
    refine r_iconst (v := 1) E (dat dkX9_passMinutes 1 rfl) rfl ?_
    refine r_bipush (v := 60) E (dat dkX9_passMinutes 2 rfl) rfl ?_
    refine r_callSX (μ := []) E hnt (sp_X9_requireRange l hst G (a) (1) (60) _) my_X9_requireRange is_X9_requireRange ml_X9_174 cm_nil rfl rfl (by decide) (Nat.le_of_ble_eq_true rfl) (dat dkX9_passMinutes 3 rfl) (by decide) (by decide) (fun E M9 h => ⟨M, Mrg_z h.2.1, rfl, Or.inl ⟨h.1, h.2.2⟩⟩) ?_
    rintro _ _ ⟨rfl, hM9, hlo, hhi⟩
    refine ⟨_, Mrg_z hM9, ?_⟩
    clear hM9
    obtain ⟨t, ht1, rfl⟩ := rg_ex (k := 60) (by decide) (Int32.le_trans (by decide) hlo) hhi
    refine r_aload_n E (dat dkX9_passMinutes 4 rfl) rfl rfl ?_
    refine q_getl E fl_X9_26 (dat dkX9_passMinutes 5 rfl) rfl rfl rfl ?_
    refine r_iload_n E (dat dkX9_passMinutes 6 rfl) rfl rfl ?_
    refine r_callV (κ := 1) (μ := [3]) E (tp_X5_canPass l G (M 3) (nI t) _ rfl) my_X5_canPass iv_X5_canPass ml_X9_297 (cm_of rfl) ⟨by decide, rfl, rfl⟩ rfl rfl rfl rfl (by decide) (Nat.le_of_ble_eq_true rfl) (dat dkX9_passMinutes 7 rfl) ?_
    rintro _ _ ⟨rfl, rfl⟩
    refine ⟨_, Mrg_z rfl, ?_⟩
    refine r_callSX (μ := []) E hnt (sp_X9_requireState l hst G (if 999 < M 3 0 7 + nI t then 0 else 1) _) my_X9_requireState is_X9_requireState ml_X9_262 cm_nil rfl rfl (by decide) (Nat.le_of_ble_eq_true rfl) (dat dkX9_passMinutes 8 rfl) (by decide) (by decide) (fun E M9 h9 => ⟨M, Mrg_z h9.2.1, rfl, Or.inr ⟨h9.1, ⟨hlo, hhi⟩, Decidable.byContradiction fun w => by have h8 := h9.2.2; rw [if_neg w] at h8; exact absurd h8 (by decide)⟩⟩) ?_
    rintro _ _ ⟨rfl, hM9, hne⟩
    refine ⟨_, Mrg_z hM9, ?_⟩
    clear hM9
    have hm9 : ¬ 999 < M 3 0 7 + nI t := fun w => hne (if_pos w)
    refine r_aload_n E (dat dkX9_passMinutes 9 rfl) rfl rfl ?_
    refine q_getl E fl_X9_39 (dat dkX9_passMinutes 10 rfl) rfl rfl rfl ?_
    refine r_aload_n E (dat dkX9_passMinutes 11 rfl) rfl rfl ?_
    refine q_getl E fl_X9_26 (dat dkX9_passMinutes 12 rfl) rfl rfl rfl ?_
    refine r_callV (κ := 7) (μ := [6, 3, 7, 8, 9, 10, 11, 12, 13, 14]) E (sp_X1_keep l G (M 6) o h (M 6 1) _ (by show M 6 = _; rw [← ho1, ← hh1]; exact (evH _).symm) ho8 hh8 hwt) my_X1_keep iv_X1_keep ml_X9_112 (cm_of rfl) ⟨by decide, rfl, rfl⟩ rfl rfl rfl rfl (by decide) (Nat.le_of_ble_eq_true rfl) (dat dkX9_passMinutes 13 rfl) ?_
    rintro _ _ ⟨rfl, hM9⟩
    refine ⟨_, (show Mrg _ _ M _ (kpM M o h) from Mrg_kp hM9), ?_⟩
    clear hM9
    have e3 : kpM M o h 3 = M 3 := kpM_ne (by decide) (by decide)
    have e0 : kpM M o h 0 = M 0 := kpM_ne (by decide) (by decide)
    have hP9 : kpM M o h 17 = vPx BP be nm x := (kpM_ne (by decide) (by decide)).trans hP
    have hpn : (kpM M o h 0 0 9).toNatClampNeg = 17 := by rw [e0]; exact hpn
    have h_ro : (kpM M o h) 17 0 7 = nI x.1.1 := by rw [hP9]; rfl
    have h_co : (kpM M o h) 17 0 8 = nI x.1.2.1 := by rw [hP9]; rfl
    have h_ce : (kpM M o h) 17 0 9 = nI x.1.2.2 := by rw [hP9]; rfl
    have h_bc : (kpM M o h) 17 0 10 = nI x.2.2.2.2.1 := by rw [hP9]; rfl
    have h_fr : (kpM M o h) 17 0 11 = x.2.2.2.1 := by rw [hP9]; rfl
    have h_he : (kpM M o h) 17 1 = x.2.1 := by rw [hP9]; rfl
    have h_gu : (kpM M o h) 17 2 = x.2.2.1 := by rw [hP9]; rfl
    have h_be : (kpM M o h) 17 3 = be := by rw [hP9]; rfl
    have h_nl : (kpM M o h) 17 5 = x.2.2.2.2.2.1 := by rw [hP9]; rfl
    have h_bh : (kpM M o h) 17 6 = x.2.2.2.2.2.2.2.1 := by rw [hP9]; rfl
    have h_fp : (kpM M o h) 17 7 = x.2.2.2.2.2.2.1 := by rw [hP9]; rfl
    have h_n0 : (kpM M o h) 17 8 = x.2.2.2.2.2.2.2.2 0 := by rw [hP9]; rfl
    have h_n1 : (kpM M o h) 17 9 = x.2.2.2.2.2.2.2.2 1 := by rw [hP9]; rfl
    have h_n2 : (kpM M o h) 17 10 = x.2.2.2.2.2.2.2.2 2 := by rw [hP9]; rfl
    have h_n3 : (kpM M o h) 17 11 = x.2.2.2.2.2.2.2.2 3 := by rw [hP9]; rfl
    refine r_aload_n E (dat dkX9_passMinutes 14 rfl) rfl rfl ?_
    refine q_getl E fl_X9_26 (dat dkX9_passMinutes 15 rfl) rfl rfl rfl ?_
    refine q_getn E fl_X9_209 (dat dkX9_passMinutes 16 rfl) rfl rfl rfl rfl ?_
    refine r_istore_2 E (dat dkX9_passMinutes 17 rfl) rfl rfl ?_
    refine r_aload_n E (dat dkX9_passMinutes 18 rfl) rfl rfl ?_
    refine q_getl E fl_X9_26 (dat dkX9_passMinutes 19 rfl) rfl rfl rfl ?_
    refine r_aload_n E (dat dkX9_passMinutes 20 rfl) rfl rfl ?_
    refine q_getd E fl_X9_64 (dat dkX9_passMinutes 21 rfl) rfl rfl rfl hpn ?_
    refine r_iload_n E (dat dkX9_passMinutes 22 rfl) rfl rfl ?_
    refine r_callV (κ := 1) (μ := [3, 17]) E (tp_X5_letPass l G (M 3) BP be nm x t _ e3 hP9 hx hbe hpl (by omega)) my_X5_letPass iv_X5_letPass ml_X9_250 (cm_of rfl) ⟨by decide, rfl, rfl⟩ rfl rfl rfl rfl (by decide) (Nat.le_of_ble_eq_true rfl) (dat dkX9_passMinutes 23 rfl) ?_
    rintro _ _ ⟨rfl, rfl⟩
    refine ⟨_, (show Mrg _ _ (kpM M o h) _ (setm (kpM M o h) 3 (mnX x (M 3) t)) from Mrg_e (i := 0) (by decide) (by decide) rfl rfl), ?_⟩
    refine r_aload_n E (dat dkX9_passMinutes 24 rfl) rfl rfl ?_
    refine q_getl E fl_X9_26 (dat dkX9_passMinutes 25 rfl) rfl rfl rfl ?_
    refine q_getn E fl_X9_209 (dat dkX9_passMinutes 26 rfl) rfl rfl rfl rfl ?_
    refine r_iload_n E (dat dkX9_passMinutes 27 rfl) rfl rfl ?_
    refine r_isub E (dat dkX9_passMinutes 28 rfl) ?_
    refine r_xq ?_
    refine r_ireturn E (dat dkX9_passMinutes 29 rfl) (by decide) (by decide) ?_
    refine ⟨t, ht1, rfl, hlo, hm9, rfl, ?_⟩
    rw [← e3]; rfl
  ·
    have h_ro : M 18 0 7 = nI x.1.1 := by rw [hP]; rfl
    have h_co : M 18 0 8 = nI x.1.2.1 := by rw [hP]; rfl
    have h_ce : M 18 0 9 = nI x.1.2.2 := by rw [hP]; rfl
    have h_bc : M 18 0 10 = nI x.2.2.2.2.1 := by rw [hP]; rfl
    have h_fr : M 18 0 11 = x.2.2.2.1 := by rw [hP]; rfl
    have h_he : M 18 1 = x.2.1 := by rw [hP]; rfl
    have h_gu : M 18 2 = x.2.2.1 := by rw [hP]; rfl
    have h_be : M 18 3 = be := by rw [hP]; rfl
    have h_nl : M 18 5 = x.2.2.2.2.2.1 := by rw [hP]; rfl
    have h_bh : M 18 6 = x.2.2.2.2.2.2.2.1 := by rw [hP]; rfl
    have h_fp : M 18 7 = x.2.2.2.2.2.2.1 := by rw [hP]; rfl
    have h_n0 : M 18 8 = x.2.2.2.2.2.2.2.2 0 := by rw [hP]; rfl
    have h_n1 : M 18 9 = x.2.2.2.2.2.2.2.2 1 := by rw [hP]; rfl
    have h_n2 : M 18 10 = x.2.2.2.2.2.2.2.2 2 := by rw [hP]; rfl
    have h_n3 : M 18 11 = x.2.2.2.2.2.2.2.2 3 := by rw [hP]; rfl
    have hn64 := (PIv_z hx).1
    
    refine r_iload_n E (dat dkX9_passMinutes 0 rfl) rfl rfl ?_
    refine r_iconst (v := 1) E (dat dkX9_passMinutes 1 rfl) rfl ?_
    refine r_bipush (v := 60) E (dat dkX9_passMinutes 2 rfl) rfl ?_
    refine r_callSX (μ := []) E hnt (sp_X9_requireRange l hst G (a) (1) (60) _) my_X9_requireRange is_X9_requireRange ml_X9_174 cm_nil rfl rfl (by decide) (Nat.le_of_ble_eq_true rfl) (dat dkX9_passMinutes 3 rfl) (by decide) (by decide) (fun E M9 h => ⟨M, Mrg_z h.2.1, rfl, Or.inl ⟨h.1, h.2.2⟩⟩) ?_
    rintro _ _ ⟨rfl, hM9, hlo, hhi⟩
    refine ⟨_, Mrg_z hM9, ?_⟩
    clear hM9
    obtain ⟨t, ht1, rfl⟩ := rg_ex (k := 60) (by decide) (Int32.le_trans (by decide) hlo) hhi
    refine r_aload_n E (dat dkX9_passMinutes 4 rfl) rfl rfl ?_
    refine q_getl E fl_X9_26 (dat dkX9_passMinutes 5 rfl) rfl rfl rfl ?_
    refine r_iload_n E (dat dkX9_passMinutes 6 rfl) rfl rfl ?_
    refine r_callV (κ := 1) (μ := [3]) E (tp_X5_canPass l G (M 3) (nI t) _ rfl) my_X5_canPass iv_X5_canPass ml_X9_297 (cm_of rfl) ⟨by decide, rfl, rfl⟩ rfl rfl rfl rfl (by decide) (Nat.le_of_ble_eq_true rfl) (dat dkX9_passMinutes 7 rfl) ?_
    rintro _ _ ⟨rfl, rfl⟩
    refine ⟨_, Mrg_z rfl, ?_⟩
    refine r_callSX (μ := []) E hnt (sp_X9_requireState l hst G (if 999 < M 3 0 7 + nI t then 0 else 1) _) my_X9_requireState is_X9_requireState ml_X9_262 cm_nil rfl rfl (by decide) (Nat.le_of_ble_eq_true rfl) (dat dkX9_passMinutes 8 rfl) (by decide) (by decide) (fun E M9 h9 => ⟨M, Mrg_z h9.2.1, rfl, Or.inr ⟨h9.1, ⟨hlo, hhi⟩, Decidable.byContradiction fun w => by have h8 := h9.2.2; rw [if_neg w] at h8; exact absurd h8 (by decide)⟩⟩) ?_
    rintro _ _ ⟨rfl, hM9, hne⟩
    refine ⟨_, Mrg_z hM9, ?_⟩
    clear hM9
    have hm9 : ¬ 999 < M 3 0 7 + nI t := fun w => hne (if_pos w)
    refine r_aload_n E (dat dkX9_passMinutes 9 rfl) rfl rfl ?_
    refine q_getl E fl_X9_39 (dat dkX9_passMinutes 10 rfl) rfl rfl rfl ?_
    refine r_aload_n E (dat dkX9_passMinutes 11 rfl) rfl rfl ?_
    refine q_getl E fl_X9_26 (dat dkX9_passMinutes 12 rfl) rfl rfl rfl ?_
    refine r_callV (κ := 7) (μ := [6, 3, 7, 8, 9, 10, 11, 12, 13, 14]) E (sp_X1_keep l G (M 6) o h (M 6 1) _ (by show M 6 = _; rw [← ho1, ← hh1]; exact (evH _).symm) ho8 hh8 hwt) my_X1_keep iv_X1_keep ml_X9_112 (cm_of rfl) ⟨by decide, rfl, rfl⟩ rfl rfl rfl rfl (by decide) (Nat.le_of_ble_eq_true rfl) (dat dkX9_passMinutes 13 rfl) ?_
    rintro _ _ ⟨rfl, hM9⟩
    refine ⟨_, (show Mrg _ _ M _ (kpM M o h) from Mrg_kp hM9), ?_⟩
    clear hM9
    have e3 : kpM M o h 3 = M 3 := kpM_ne (by decide) (by decide)
    have e0 : kpM M o h 0 = M 0 := kpM_ne (by decide) (by decide)
    have hP9 : kpM M o h 18 = vPx BP be nm x := (kpM_ne (by decide) (by decide)).trans hP
    have hpn : (kpM M o h 0 0 9).toNatClampNeg = 18 := by rw [e0]; exact hpn
    have h_ro : (kpM M o h) 18 0 7 = nI x.1.1 := by rw [hP9]; rfl
    have h_co : (kpM M o h) 18 0 8 = nI x.1.2.1 := by rw [hP9]; rfl
    have h_ce : (kpM M o h) 18 0 9 = nI x.1.2.2 := by rw [hP9]; rfl
    have h_bc : (kpM M o h) 18 0 10 = nI x.2.2.2.2.1 := by rw [hP9]; rfl
    have h_fr : (kpM M o h) 18 0 11 = x.2.2.2.1 := by rw [hP9]; rfl
    have h_he : (kpM M o h) 18 1 = x.2.1 := by rw [hP9]; rfl
    have h_gu : (kpM M o h) 18 2 = x.2.2.1 := by rw [hP9]; rfl
    have h_be : (kpM M o h) 18 3 = be := by rw [hP9]; rfl
    have h_nl : (kpM M o h) 18 5 = x.2.2.2.2.2.1 := by rw [hP9]; rfl
    have h_bh : (kpM M o h) 18 6 = x.2.2.2.2.2.2.2.1 := by rw [hP9]; rfl
    have h_fp : (kpM M o h) 18 7 = x.2.2.2.2.2.2.1 := by rw [hP9]; rfl
    have h_n0 : (kpM M o h) 18 8 = x.2.2.2.2.2.2.2.2 0 := by rw [hP9]; rfl
    have h_n1 : (kpM M o h) 18 9 = x.2.2.2.2.2.2.2.2 1 := by rw [hP9]; rfl
    have h_n2 : (kpM M o h) 18 10 = x.2.2.2.2.2.2.2.2 2 := by rw [hP9]; rfl
    have h_n3 : (kpM M o h) 18 11 = x.2.2.2.2.2.2.2.2 3 := by rw [hP9]; rfl
    refine r_aload_n E (dat dkX9_passMinutes 14 rfl) rfl rfl ?_
    refine q_getl E fl_X9_26 (dat dkX9_passMinutes 15 rfl) rfl rfl rfl ?_
    refine q_getn E fl_X9_209 (dat dkX9_passMinutes 16 rfl) rfl rfl rfl rfl ?_
    refine r_istore_2 E (dat dkX9_passMinutes 17 rfl) rfl rfl ?_
    refine r_aload_n E (dat dkX9_passMinutes 18 rfl) rfl rfl ?_
    refine q_getl E fl_X9_26 (dat dkX9_passMinutes 19 rfl) rfl rfl rfl ?_
    refine r_aload_n E (dat dkX9_passMinutes 20 rfl) rfl rfl ?_
    refine q_getd E fl_X9_64 (dat dkX9_passMinutes 21 rfl) rfl rfl rfl hpn ?_
    refine r_iload_n E (dat dkX9_passMinutes 22 rfl) rfl rfl ?_
    refine r_callV (κ := 1) (μ := [3, 18]) E (tp_X5_letPass l G (M 3) BP be nm x t _ e3 hP9 hx hbe hpl (by omega)) my_X5_letPass iv_X5_letPass ml_X9_250 (cm_of rfl) ⟨by decide, rfl, rfl⟩ rfl rfl rfl rfl (by decide) (Nat.le_of_ble_eq_true rfl) (dat dkX9_passMinutes 23 rfl) ?_
    rintro _ _ ⟨rfl, rfl⟩
    refine ⟨_, (show Mrg _ _ (kpM M o h) _ (setm (kpM M o h) 3 (mnX x (M 3) t)) from Mrg_e (i := 0) (by decide) (by decide) rfl rfl), ?_⟩
    refine r_aload_n E (dat dkX9_passMinutes 24 rfl) rfl rfl ?_
    refine q_getl E fl_X9_26 (dat dkX9_passMinutes 25 rfl) rfl rfl rfl ?_
    refine q_getn E fl_X9_209 (dat dkX9_passMinutes 26 rfl) rfl rfl rfl rfl ?_
    refine r_iload_n E (dat dkX9_passMinutes 27 rfl) rfl rfl ?_
    refine r_isub E (dat dkX9_passMinutes 28 rfl) ?_
    refine r_xq ?_
    refine r_ireturn E (dat dkX9_passMinutes 29 rfl) (by decide) (by decide) ?_
    refine ⟨t, ht1, rfl, hlo, hm9, rfl, ?_⟩
    rw [← e3]; rfl
