/-- the puddles, found from what stood in their rows -/
def puT (M : Mem) (x : PP) : PT := pN (nbx x) (M 3 1) ((0, (fun _ => -1), M 15 2, M 15 3, M 15 4) : PT) x.1.2.2
def puM (M : Mem) (x : PP) : Mem := setm M 15 (vU (M 15) (nI (puT M x).1) (puT M x).2.1 (puT M x).2.2.1 (puT M x).2.2.2.1 (puT M x).2.2.2.2)
theorem puT_le {M : Mem} {x : PP} : (puT M x).1 ≤ x.1.2.2 := pN_le rfl _
/-- the ways from a cell f for boots of height h -/
def wyT (M : Mem) (x : PP) (f : Nat) (h : Int32) : BT := wF (nbx x) (M 3 1) h 64 0 ((upd (fun _ => -1) f 0, upd (M 16 2) 0 (nI f), 1) : BT)
/-- the history with the state of now -/
def kpM (M : Mem) (o h : Nat) : Mem := setm (setm M (7 + (o + h) % 8) (M 3)) 6 (if h < 8 then vH (M 6) (nI o) (nI (h + 1)) (M 6 1) else vH (M 6) (nI ((o + 1) % 8)) (nI h) (M 6 1))
theorem kpM_ne {M : Mem} {o h j : Nat} (h6 : j ≠ 6) (hj : j < 7 ∨ 15 ≤ j) : kpM M o h j = M j := by
  have := Nat.mod_lt (o + h) (show 0 < 8 by decide)
  unfold kpM
  rw [setm_n h6, setm_n (by omega)]
theorem mu_h {z : Nat} (hz : z < 8) : mu [6, 3, 7, 8, 9, 10, 11, 12, 13, 14] (2 + z) = 7 + z := by
  rcases (show z = 0 ∨ z = 1 ∨ z = 2 ∨ z = 3 ∨ z = 4 ∨ z = 5 ∨ z = 6 ∨ z = 7 by omega) with rfl | rfl | rfl | rfl | rfl | rfl | rfl | rfl <;> rfl
theorem Mrg_kp {M M1 : Mem} {o h : Nat} (h1 : M1 = setm (setm (vw [6, 3, 7, 8, 9, 10, 11, 12, 13, 14] M) (2 + (o + h) % 8) (M 3)) 0 (if h < 8 then vH (M 6) (nI o) (nI (h + 1)) (M 6 1) else vH (M 6) (nI ((o + 1) % 8)) (nI h) (M 6 1))) : Mrg 10 [6, 3, 7, 8, 9, 10, 11, 12, 13, 14] M M1 (kpM M o h) := by
  have hz := Nat.mod_lt (o + h) (show 0 < 8 by decide)
  refine Mrg_ee (i := 2 + (o + h) % 8) (j := 0) (by decide) (by omega) (by decide) ?_ h1
  rw [mu_h hz]
  rfl
/-- the first i, from i on and at most f of them, whose g is 0; else -1 -/
def mdF (g : Nat → Int32) : Nat → Nat → Int32
  | 0, _ => -1
  | f + 1, i => if g i = 0 then nI i else mdF g f (i + 1)
theorem mdF_go {g : Nat → Int32} {N i : Nat} (h : i < N) (h0 : ¬ g i = 0) : mdF g (N - (i + 1)) (i + 1) = mdF g (N - i) i := by
  obtain ⟨f, hf⟩ : ∃ f, N - i = f + 1 := ⟨N - i - 1, by omega⟩
  rw [hf, show N - (i + 1) = f by omega]; exact (if_neg h0).symm
theorem mdF_hit {g : Nat → Int32} {N i : Nat} (h : i < N) (h0 : g i = 0) : mdF g (N - i) i = nI i := by
  obtain ⟨f, hf⟩ : ∃ f, N - i = f + 1 := ⟨N - i - 1, by omega⟩
  rw [hf]; exact if_pos h0
theorem mdF_no {g : Nat → Int32} {N i : Nat} (h : N ≤ i) : mdF g (N - i) i = -1 := by rw [show N - i = 0 by omega]; rfl
/-- k minutes of a state under a plan -/
def mnX (x : PP) (T : Nat → Nat → Int32) (k : Nat) : Nat → Nat → Int32 := mnN x.1.2.2 x.2.2.2.2.1 x.2.1 x.2.2.1 x.2.2.2.2.2.2.2.1 (nbx x) T k
set_option maxRecDepth 100000 in
set_option maxHeartbeats 4000000 in
theorem sp_X9_puddleCount (l : Launch) (G : GT) (BP : Nat → Nat → Int32) (be nm : Nat → Int32) (x : PP) (q : Nat)  (M : Mem) (hpn : (M 0 0 9).toNatClampNeg = q) (hq : q = 17 ∨ q = 18) (hP : M q = vPx BP be nm x) (hx : PIv x) (hbe : BEx be x) : MC l G yX9_puddleCount cX9_puddleCount 1 (some .int) ({ frames := 4, cells := 0, slots := 0, locals := 94 } : Room) KC lkC [rv 0 0] (M) (fun r M2 => r = some (iv (nI (puT M x).1)) ∧ M2 = puM M x) := by
  refine MC.of RX9 [some (rv 0 0)] 0 (by decide +kernel) rfl rfl rfl ?_
  intro pp ee ss mm aa bb me cd ad E
  rcases hq with rfl | rfl
  ·
    have h_ro : M 17 0 7 = nI x.1.1 := by rw [hP]; rfl
    have h_co : M 17 0 8 = nI x.1.2.1 := by rw [hP]; rfl
    have h_ce : M 17 0 9 = nI x.1.2.2 := by rw [hP]; rfl
    have h_bc : M 17 0 10 = nI x.2.2.2.2.1 := by rw [hP]; rfl
    have h_fr : M 17 0 11 = x.2.2.2.1 := by rw [hP]; rfl
    have h_he : M 17 1 = x.2.1 := by rw [hP]; rfl
    have h_gu : M 17 2 = x.2.2.1 := by rw [hP]; rfl
    have h_be : M 17 3 = be := by rw [hP]; rfl
    have h_nl : M 17 5 = x.2.2.2.2.2.1 := by rw [hP]; rfl
    have h_bh : M 17 6 = x.2.2.2.2.2.2.2.1 := by rw [hP]; rfl
    have h_fp : M 17 7 = x.2.2.2.2.2.2.1 := by rw [hP]; rfl
    have h_n0 : M 17 8 = x.2.2.2.2.2.2.2.2 0 := by rw [hP]; rfl
    have h_n1 : M 17 9 = x.2.2.2.2.2.2.2.2 1 := by rw [hP]; rfl
    have h_n2 : M 17 10 = x.2.2.2.2.2.2.2.2 2 := by rw [hP]; rfl
    have h_n3 : M 17 11 = x.2.2.2.2.2.2.2.2 3 := by rw [hP]; rfl
    have hn64 := (PIv_z hx).1
    
    refine r_aload_n E (dat dkX9_puddleCount 0 rfl) rfl rfl ?_
    refine q_getl E fl_X9_46 (dat dkX9_puddleCount 1 rfl) rfl rfl rfl ?_
    refine r_aload_n E (dat dkX9_puddleCount 2 rfl) rfl rfl ?_
    refine q_getd E fl_X9_64 (dat dkX9_puddleCount 3 rfl) rfl rfl rfl hpn ?_
    refine r_aload_n E (dat dkX9_puddleCount 4 rfl) rfl rfl ?_
    refine q_getl E fl_X9_26 (dat dkX9_puddleCount 5 rfl) rfl rfl rfl ?_
    refine r_callV (κ := 5) (μ := [15, 17, 3]) E (sp_X3_findAll l G (M 15) (M 15 0 4) (M 15 1) (M 15 2) (M 15 3) (M 15 4) (M 3) (M 3 0 7) (M 3 0 8) (M 3 0 9) (M 3 0 10) (M 3 0 11) (M 3 0 12) (M 3 0 13) (M 3 0 14) (M 3 1) (M 3 2) (M 3 3) (M 3 4) (M 3 5) (M 3 6) (M 3 7) BP (nI x.1.1) (nI x.1.2.1) x.1.2.2 (nI x.2.2.2.2.1) x.2.2.2.1 x.2.1 x.2.2.1 be nm x.2.2.2.2.2.1 x.2.2.2.2.2.2.2.1 x.2.2.2.2.2.2.1 (x.2.2.2.2.2.2.2.2 0) (x.2.2.2.2.2.2.2.2 1) (x.2.2.2.2.2.2.2.2 2) (x.2.2.2.2.2.2.2.2 3) (nbx x) hbe (nbx_lt hx) _ (evU (M 15)).symm hP (evS (M 3)).symm hn64) my_X3_findAll iv_X3_findAll ml_X9_182 (cm_of rfl) ⟨by decide, rfl, rfl⟩ rfl rfl rfl rfl (by decide) (Nat.le_of_ble_eq_true rfl) (dat dkX9_puddleCount 6 rfl) ?_
    rintro _ _ ⟨rfl, rfl⟩
    refine ⟨_, (show Mrg _ _ M _ (puM M x) from Mrg_e (i := 0) (by decide) (by decide) rfl rfl), ?_⟩
    refine r_aload_n E (dat dkX9_puddleCount 7 rfl) rfl rfl ?_
    refine q_getl E fl_X9_46 (dat dkX9_puddleCount 8 rfl) rfl rfl rfl ?_
    refine q_getn E fl_X9_186 (dat dkX9_puddleCount 9 rfl) rfl rfl rfl rfl ?_
    refine r_ireturn E (dat dkX9_puddleCount 10 rfl) (by decide) (by decide) ?_
    exact ⟨rfl, rfl⟩
  ·
    have h_ro : M 18 0 7 = nI x.1.1 := by rw [hP]; rfl
    have h_co : M 18 0 8 = nI x.1.2.1 := by rw [hP]; rfl
    have h_ce : M 18 0 9 = nI x.1.2.2 := by rw [hP]; rfl
    have h_bc : M 18 0 10 = nI x.2.2.2.2.1 := by rw [hP]; rfl
    have h_fr : M 18 0 11 = x.2.2.2.1 := by rw [hP]; rfl
    have h_he : M 18 1 = x.2.1 := by rw [hP]; rfl
    have h_gu : M 18 2 = x.2.2.1 := by rw [hP]; rfl
    have h_be : M 18 3 = be := by rw [hP]; rfl
    have h_nl : M 18 5 = x.2.2.2.2.2.1 := by rw [hP]; rfl
    have h_bh : M 18 6 = x.2.2.2.2.2.2.2.1 := by rw [hP]; rfl
    have h_fp : M 18 7 = x.2.2.2.2.2.2.1 := by rw [hP]; rfl
    have h_n0 : M 18 8 = x.2.2.2.2.2.2.2.2 0 := by rw [hP]; rfl
    have h_n1 : M 18 9 = x.2.2.2.2.2.2.2.2 1 := by rw [hP]; rfl
    have h_n2 : M 18 10 = x.2.2.2.2.2.2.2.2 2 := by rw [hP]; rfl
    have h_n3 : M 18 11 = x.2.2.2.2.2.2.2.2 3 := by rw [hP]; rfl
    have hn64 := (PIv_z hx).1
    
    refine r_aload_n E (dat dkX9_puddleCount 0 rfl) rfl rfl ?_
    refine q_getl E fl_X9_46 (dat dkX9_puddleCount 1 rfl) rfl rfl rfl ?_
    refine r_aload_n E (dat dkX9_puddleCount 2 rfl) rfl rfl ?_
    refine q_getd E fl_X9_64 (dat dkX9_puddleCount 3 rfl) rfl rfl rfl hpn ?_
    refine r_aload_n E (dat dkX9_puddleCount 4 rfl) rfl rfl ?_
    refine q_getl E fl_X9_26 (dat dkX9_puddleCount 5 rfl) rfl rfl rfl ?_
    refine r_callV (κ := 5) (μ := [15, 18, 3]) E (sp_X3_findAll l G (M 15) (M 15 0 4) (M 15 1) (M 15 2) (M 15 3) (M 15 4) (M 3) (M 3 0 7) (M 3 0 8) (M 3 0 9) (M 3 0 10) (M 3 0 11) (M 3 0 12) (M 3 0 13) (M 3 0 14) (M 3 1) (M 3 2) (M 3 3) (M 3 4) (M 3 5) (M 3 6) (M 3 7) BP (nI x.1.1) (nI x.1.2.1) x.1.2.2 (nI x.2.2.2.2.1) x.2.2.2.1 x.2.1 x.2.2.1 be nm x.2.2.2.2.2.1 x.2.2.2.2.2.2.2.1 x.2.2.2.2.2.2.1 (x.2.2.2.2.2.2.2.2 0) (x.2.2.2.2.2.2.2.2 1) (x.2.2.2.2.2.2.2.2 2) (x.2.2.2.2.2.2.2.2 3) (nbx x) hbe (nbx_lt hx) _ (evU (M 15)).symm hP (evS (M 3)).symm hn64) my_X3_findAll iv_X3_findAll ml_X9_182 (cm_of rfl) ⟨by decide, rfl, rfl⟩ rfl rfl rfl rfl (by decide) (Nat.le_of_ble_eq_true rfl) (dat dkX9_puddleCount 6 rfl) ?_
    rintro _ _ ⟨rfl, rfl⟩
    refine ⟨_, (show Mrg _ _ M _ (puM M x) from Mrg_e (i := 0) (by decide) (by decide) rfl rfl), ?_⟩
    refine r_aload_n E (dat dkX9_puddleCount 7 rfl) rfl rfl ?_
    refine q_getl E fl_X9_46 (dat dkX9_puddleCount 8 rfl) rfl rfl rfl ?_
    refine q_getn E fl_X9_186 (dat dkX9_puddleCount 9 rfl) rfl rfl rfl rfl ?_
    refine r_ireturn E (dat dkX9_puddleCount 10 rfl) (by decide) (by decide) ?_
    exact ⟨rfl, rfl⟩

set_option maxRecDepth 100000 in
set_option maxHeartbeats 4000000 in
theorem sp_X9_puddleOf (l : Launch) (hst : l.stackTraces = false) (G : GT) (BP : Nat → Nat → Int32) (be nm : Nat → Int32) (x : PP) (q : Nat) (a : Int32) (M : Mem) (hpn : (M 0 0 9).toNatClampNeg = q) (hq : q = 17 ∨ q = 18) (hP : M q = vPx BP be nm x) (hx : PIv x) (hbe : BEx be x) : MCx l G yX9_puddleOf cX9_puddleOf 2 (some .int) ({ frames := 7, cells := 4, slots := 24, locals := 103 } : Room) KC lkC [rv 0 0, iv a] (M) (fun r M2 => M2 = puM M x ∧ ∃ c, c < x.1.2.2 ∧ a = nI c ∧ r = some (iv ((puT M x).2.1 c))) (fun E M2 => E = oobN ∧ M2 = M ∧ ¬ ∃ c, c < x.1.2.2 ∧ a = nI c) := by
  refine MCx.of RX9 [some (rv 0 0), some (iv a)] 0 (by decide +kernel) rfl rfl rfl ?_
  intro pp ee ss mm aa bb me cd ad E hnt
  rcases hq with rfl | rfl
  ·
    have h_ro : M 17 0 7 = nI x.1.1 := by rw [hP]; rfl
    have h_co : M 17 0 8 = nI x.1.2.1 := by rw [hP]; rfl
    have h_ce : M 17 0 9 = nI x.1.2.2 := by rw [hP]; rfl
    have h_bc : M 17 0 10 = nI x.2.2.2.2.1 := by rw [hP]; rfl
    have h_fr : M 17 0 11 = x.2.2.2.1 := by rw [hP]; rfl
    have h_he : M 17 1 = x.2.1 := by rw [hP]; rfl
    have h_gu : M 17 2 = x.2.2.1 := by rw [hP]; rfl
    have h_be : M 17 3 = be := by rw [hP]; rfl
    have h_nl : M 17 5 = x.2.2.2.2.2.1 := by rw [hP]; rfl
    have h_bh : M 17 6 = x.2.2.2.2.2.2.2.1 := by rw [hP]; rfl
    have h_fp : M 17 7 = x.2.2.2.2.2.2.1 := by rw [hP]; rfl
    have h_n0 : M 17 8 = x.2.2.2.2.2.2.2.2 0 := by rw [hP]; rfl
    have h_n1 : M 17 9 = x.2.2.2.2.2.2.2.2 1 := by rw [hP]; rfl
    have h_n2 : M 17 10 = x.2.2.2.2.2.2.2.2 2 := by rw [hP]; rfl
    have h_n3 : M 17 11 = x.2.2.2.2.2.2.2.2 3 := by rw [hP]; rfl
    have hn64 := (PIv_z hx).1
    
    refine r_aload_n E (dat dkX9_puddleOf 0 rfl) rfl rfl ?_
    refine r_iload_n E (dat dkX9_puddleOf 1 rfl) rfl rfl ?_
    refine r_callVX (κ := 8) (μ := []) E hnt (sp_X9_requireCell l hst G BP be nm x 17 a M hpn (Or.inl rfl) hP hx) my_X9_requireCell iv_X9_requireCell ml_X9_141 cm_id ⟨by decide, rfl, rfl⟩ rfl rfl rfl rfl (by decide) (Nat.le_of_ble_eq_true rfl) (dat dkX9_puddleOf 2 rfl) (by decide) (by decide) (fun E M9 h => ⟨M, Mrg_z h.2.1, ⟨h.1, rfl, h.2.2⟩⟩) ?_
    rintro _ _ ⟨rfl, hM9, c, hc, rfl⟩
    refine ⟨_, Mrg_z hM9, ?_⟩
    clear hM9
    have hc64 : c < 64 := by omega
    refine r_aload_n E (dat dkX9_puddleOf 3 rfl) rfl rfl ?_
    refine q_getl E fl_X9_46 (dat dkX9_puddleOf 4 rfl) rfl rfl rfl ?_
    refine r_aload_n E (dat dkX9_puddleOf 5 rfl) rfl rfl ?_
    refine q_getd E fl_X9_64 (dat dkX9_puddleOf 6 rfl) rfl rfl rfl hpn ?_
    refine r_aload_n E (dat dkX9_puddleOf 7 rfl) rfl rfl ?_
    refine q_getl E fl_X9_26 (dat dkX9_puddleOf 8 rfl) rfl rfl rfl ?_
    refine r_callV (κ := 5) (μ := [15, 17, 3]) E (sp_X3_findAll l G (M 15) (M 15 0 4) (M 15 1) (M 15 2) (M 15 3) (M 15 4) (M 3) (M 3 0 7) (M 3 0 8) (M 3 0 9) (M 3 0 10) (M 3 0 11) (M 3 0 12) (M 3 0 13) (M 3 0 14) (M 3 1) (M 3 2) (M 3 3) (M 3 4) (M 3 5) (M 3 6) (M 3 7) BP (nI x.1.1) (nI x.1.2.1) x.1.2.2 (nI x.2.2.2.2.1) x.2.2.2.1 x.2.1 x.2.2.1 be nm x.2.2.2.2.2.1 x.2.2.2.2.2.2.2.1 x.2.2.2.2.2.2.1 (x.2.2.2.2.2.2.2.2 0) (x.2.2.2.2.2.2.2.2 1) (x.2.2.2.2.2.2.2.2 2) (x.2.2.2.2.2.2.2.2 3) (nbx x) hbe (nbx_lt hx) _ (evU (M 15)).symm hP (evS (M 3)).symm hn64) my_X3_findAll iv_X3_findAll ml_X9_182 (cm_of rfl) ⟨by decide, rfl, rfl⟩ rfl rfl rfl rfl (by decide) (Nat.le_of_ble_eq_true rfl) (dat dkX9_puddleOf 9 rfl) ?_
    rintro _ _ ⟨rfl, rfl⟩
    refine ⟨_, (show Mrg _ _ M _ (puM M x) from Mrg_e (i := 0) (by decide) (by decide) rfl rfl), ?_⟩
    refine r_aload_n E (dat dkX9_puddleOf 10 rfl) rfl rfl ?_
    refine q_getl E fl_X9_46 (dat dkX9_puddleOf 11 rfl) rfl rfl rfl ?_
    refine q_geta E fl_X9_187 (dat dkX9_puddleOf 12 rfl) rfl rfl rfl ?_
    refine r_iload_n E (dat dkX9_puddleOf 13 rfl) rfl rfl ?_
    refine q_iald E (dat dkX9_puddleOf 14 rfl) rfl rfl (by decide) rfl rfl (by omega) ?_
    refine r_xq ?_
    refine r_ireturn E (dat dkX9_puddleOf 15 rfl) (by decide) (by decide) ?_
    exact ⟨rfl, c, hc, rfl, rfl⟩
  ·
    have h_ro : M 18 0 7 = nI x.1.1 := by rw [hP]; rfl
    have h_co : M 18 0 8 = nI x.1.2.1 := by rw [hP]; rfl
    have h_ce : M 18 0 9 = nI x.1.2.2 := by rw [hP]; rfl
    have h_bc : M 18 0 10 = nI x.2.2.2.2.1 := by rw [hP]; rfl
    have h_fr : M 18 0 11 = x.2.2.2.1 := by rw [hP]; rfl
    have h_he : M 18 1 = x.2.1 := by rw [hP]; rfl
    have h_gu : M 18 2 = x.2.2.1 := by rw [hP]; rfl
    have h_be : M 18 3 = be := by rw [hP]; rfl
    have h_nl : M 18 5 = x.2.2.2.2.2.1 := by rw [hP]; rfl
    have h_bh : M 18 6 = x.2.2.2.2.2.2.2.1 := by rw [hP]; rfl
    have h_fp : M 18 7 = x.2.2.2.2.2.2.1 := by rw [hP]; rfl
    have h_n0 : M 18 8 = x.2.2.2.2.2.2.2.2 0 := by rw [hP]; rfl
    have h_n1 : M 18 9 = x.2.2.2.2.2.2.2.2 1 := by rw [hP]; rfl
    have h_n2 : M 18 10 = x.2.2.2.2.2.2.2.2 2 := by rw [hP]; rfl
    have h_n3 : M 18 11 = x.2.2.2.2.2.2.2.2 3 := by rw [hP]; rfl
    have hn64 := (PIv_z hx).1
    
    refine r_aload_n E (dat dkX9_puddleOf 0 rfl) rfl rfl ?_
    refine r_iload_n E (dat dkX9_puddleOf 1 rfl) rfl rfl ?_
    refine r_callVX (κ := 8) (μ := []) E hnt (sp_X9_requireCell l hst G BP be nm x 18 a M hpn (Or.inr rfl) hP hx) my_X9_requireCell iv_X9_requireCell ml_X9_141 cm_id ⟨by decide, rfl, rfl⟩ rfl rfl rfl rfl (by decide) (Nat.le_of_ble_eq_true rfl) (dat dkX9_puddleOf 2 rfl) (by decide) (by decide) (fun E M9 h => ⟨M, Mrg_z h.2.1, ⟨h.1, rfl, h.2.2⟩⟩) ?_
    rintro _ _ ⟨rfl, hM9, c, hc, rfl⟩
    refine ⟨_, Mrg_z hM9, ?_⟩
    clear hM9
    have hc64 : c < 64 := by omega
    refine r_aload_n E (dat dkX9_puddleOf 3 rfl) rfl rfl ?_
    refine q_getl E fl_X9_46 (dat dkX9_puddleOf 4 rfl) rfl rfl rfl ?_
    refine r_aload_n E (dat dkX9_puddleOf 5 rfl) rfl rfl ?_
    refine q_getd E fl_X9_64 (dat dkX9_puddleOf 6 rfl) rfl rfl rfl hpn ?_
    refine r_aload_n E (dat dkX9_puddleOf 7 rfl) rfl rfl ?_
    refine q_getl E fl_X9_26 (dat dkX9_puddleOf 8 rfl) rfl rfl rfl ?_
    refine r_callV (κ := 5) (μ := [15, 18, 3]) E (sp_X3_findAll l G (M 15) (M 15 0 4) (M 15 1) (M 15 2) (M 15 3) (M 15 4) (M 3) (M 3 0 7) (M 3 0 8) (M 3 0 9) (M 3 0 10) (M 3 0 11) (M 3 0 12) (M 3 0 13) (M 3 0 14) (M 3 1) (M 3 2) (M 3 3) (M 3 4) (M 3 5) (M 3 6) (M 3 7) BP (nI x.1.1) (nI x.1.2.1) x.1.2.2 (nI x.2.2.2.2.1) x.2.2.2.1 x.2.1 x.2.2.1 be nm x.2.2.2.2.2.1 x.2.2.2.2.2.2.2.1 x.2.2.2.2.2.2.1 (x.2.2.2.2.2.2.2.2 0) (x.2.2.2.2.2.2.2.2 1) (x.2.2.2.2.2.2.2.2 2) (x.2.2.2.2.2.2.2.2 3) (nbx x) hbe (nbx_lt hx) _ (evU (M 15)).symm hP (evS (M 3)).symm hn64) my_X3_findAll iv_X3_findAll ml_X9_182 (cm_of rfl) ⟨by decide, rfl, rfl⟩ rfl rfl rfl rfl (by decide) (Nat.le_of_ble_eq_true rfl) (dat dkX9_puddleOf 9 rfl) ?_
    rintro _ _ ⟨rfl, rfl⟩
    refine ⟨_, (show Mrg _ _ M _ (puM M x) from Mrg_e (i := 0) (by decide) (by decide) rfl rfl), ?_⟩
    refine r_aload_n E (dat dkX9_puddleOf 10 rfl) rfl rfl ?_
    refine q_getl E fl_X9_46 (dat dkX9_puddleOf 11 rfl) rfl rfl rfl ?_
    refine q_geta E fl_X9_187 (dat dkX9_puddleOf 12 rfl) rfl rfl rfl ?_
    refine r_iload_n E (dat dkX9_puddleOf 13 rfl) rfl rfl ?_
    refine q_iald E (dat dkX9_puddleOf 14 rfl) rfl rfl (by decide) rfl rfl (by omega) ?_
    refine r_xq ?_
    refine r_ireturn E (dat dkX9_puddleOf 15 rfl) (by decide) (by decide) ?_
    exact ⟨rfl, c, hc, rfl, rfl⟩

set_option maxRecDepth 100000 in
set_option maxHeartbeats 4000000 in
theorem sp_X9_requirePuddle (l : Launch) (hst : l.stackTraces = false) (G : GT) (BP : Nat → Nat → Int32) (be nm : Nat → Int32) (x : PP) (q : Nat) (a : Int32) (M : Mem) (hpn : (M 0 0 9).toNatClampNeg = q) (hq : q = 17 ∨ q = 18) (hP : M q = vPx BP be nm x) (hx : PIv x) (hbe : BEx be x) : MCx l G yX9_requirePuddle cX9_requirePuddle 2 none ({ frames := 6, cells := 4, slots := 24, locals := 94 } : Room) KC lkC [rv 0 0, iv a] (M) (fun r M2 => r = none ∧ M2 = puM M x ∧ ∃ k, k < (puT M x).1 ∧ a = nI k) (fun E M2 => E = oobN ∧ M2 = puM M x ∧ ¬ ∃ k, k < (puT M x).1 ∧ a = nI k) := by
  refine MCx.of RX9 [some (rv 0 0), some (iv a)] 0 (by decide +kernel) rfl rfl rfl ?_
  intro pp ee ss mm aa bb me cd ad E hnt
  rcases hq with rfl | rfl
  ·
    have h_ro : M 17 0 7 = nI x.1.1 := by rw [hP]; rfl
    have h_co : M 17 0 8 = nI x.1.2.1 := by rw [hP]; rfl
    have h_ce : M 17 0 9 = nI x.1.2.2 := by rw [hP]; rfl
    have h_bc : M 17 0 10 = nI x.2.2.2.2.1 := by rw [hP]; rfl
    have h_fr : M 17 0 11 = x.2.2.2.1 := by rw [hP]; rfl
    have h_he : M 17 1 = x.2.1 := by rw [hP]; rfl
    have h_gu : M 17 2 = x.2.2.1 := by rw [hP]; rfl
    have h_be : M 17 3 = be := by rw [hP]; rfl
    have h_nl : M 17 5 = x.2.2.2.2.2.1 := by rw [hP]; rfl
    have h_bh : M 17 6 = x.2.2.2.2.2.2.2.1 := by rw [hP]; rfl
    have h_fp : M 17 7 = x.2.2.2.2.2.2.1 := by rw [hP]; rfl
    have h_n0 : M 17 8 = x.2.2.2.2.2.2.2.2 0 := by rw [hP]; rfl
    have h_n1 : M 17 9 = x.2.2.2.2.2.2.2.2 1 := by rw [hP]; rfl
    have h_n2 : M 17 10 = x.2.2.2.2.2.2.2.2 2 := by rw [hP]; rfl
    have h_n3 : M 17 11 = x.2.2.2.2.2.2.2.2 3 := by rw [hP]; rfl
    have hn64 := (PIv_z hx).1
    have hpu := puT_le (M := M) (x := x)
    refine r_aload_n E (dat dkX9_requirePuddle 0 rfl) rfl rfl ?_
    refine q_getl E fl_X9_46 (dat dkX9_requirePuddle 1 rfl) rfl rfl rfl ?_
    refine r_aload_n E (dat dkX9_requirePuddle 2 rfl) rfl rfl ?_
    refine q_getd E fl_X9_64 (dat dkX9_requirePuddle 3 rfl) rfl rfl rfl hpn ?_
    refine r_aload_n E (dat dkX9_requirePuddle 4 rfl) rfl rfl ?_
    refine q_getl E fl_X9_26 (dat dkX9_requirePuddle 5 rfl) rfl rfl rfl ?_
    refine r_callV (κ := 5) (μ := [15, 17, 3]) E (sp_X3_findAll l G (M 15) (M 15 0 4) (M 15 1) (M 15 2) (M 15 3) (M 15 4) (M 3) (M 3 0 7) (M 3 0 8) (M 3 0 9) (M 3 0 10) (M 3 0 11) (M 3 0 12) (M 3 0 13) (M 3 0 14) (M 3 1) (M 3 2) (M 3 3) (M 3 4) (M 3 5) (M 3 6) (M 3 7) BP (nI x.1.1) (nI x.1.2.1) x.1.2.2 (nI x.2.2.2.2.1) x.2.2.2.1 x.2.1 x.2.2.1 be nm x.2.2.2.2.2.1 x.2.2.2.2.2.2.2.1 x.2.2.2.2.2.2.1 (x.2.2.2.2.2.2.2.2 0) (x.2.2.2.2.2.2.2.2 1) (x.2.2.2.2.2.2.2.2 2) (x.2.2.2.2.2.2.2.2 3) (nbx x) hbe (nbx_lt hx) _ (evU (M 15)).symm hP (evS (M 3)).symm hn64) my_X3_findAll iv_X3_findAll ml_X9_182 (cm_of rfl) ⟨by decide, rfl, rfl⟩ rfl rfl rfl rfl (by decide) (Nat.le_of_ble_eq_true rfl) (dat dkX9_requirePuddle 6 rfl) ?_
    rintro _ _ ⟨rfl, rfl⟩
    refine ⟨_, (show Mrg _ _ M _ (puM M x) from Mrg_e (i := 0) (by decide) (by decide) rfl rfl), ?_⟩
    refine r_iload_n E (dat dkX9_requirePuddle 7 rfl) rfl rfl ?_
    refine r_if_lt (tgt := 30) E (dat dkX9_requirePuddle 8 rfl) rfl (fun h16 => ?_) (fun h16 => ?_)
    ·
      refine r_throw (i := 7) E hnt hst xw_oob (by decide) rfl rfl (dat dkX9_requirePuddle 14 rfl) (dat dkX9_requirePuddle 15 rfl) (dat dkX9_requirePuddle 16 rfl) (dat dkX9_requirePuddle 17 rfl) (dat dkX9_requirePuddle 18 rfl) ⟨by decide, (Nat.le_of_ble_eq_true rfl), by decide, by decide⟩ (by decide) (by decide) ?_
      refine ⟨rfl, rfl, ?_⟩
      rintro ⟨c, hc, rfl⟩
      first
        | exact nI_pos (by omega) h16
        | exact h27 ((nI_ltI (by omega) (by omega)).mpr hc)
        | exact absurd ((nI_ltI (a := c) (by omega) (by omega)).mpr hc) (Int32.not_lt.mpr h27)
    ·
      refine r_iload_n E (dat dkX9_requirePuddle 9 rfl) rfl rfl ?_
      refine r_aload_n E (dat dkX9_requirePuddle 10 rfl) rfl rfl ?_
      refine q_getl E fl_X9_46 (dat dkX9_requirePuddle 11 rfl) rfl rfl rfl ?_
      refine q_getn E fl_X9_186 (dat dkX9_requirePuddle 12 rfl) rfl rfl rfl rfl ?_
      refine r_icmp_lt (tgt := 41) E (dat dkX9_requirePuddle 13 rfl) rfl (fun h27 => ?_) (fun h27 => ?_)
      ·
        refine r_xq ?_
        refine r_vreturn E (dat dkX9_requirePuddle 19 rfl) (by decide) (by decide) ?_
        refine ⟨rfl, rfl, ?_⟩
        obtain ⟨j, hj, rfl⟩ := nI_of (show ¬ a < 0 by first | exact h16 | exact Int32.not_lt.mpr h16)
        exact ⟨j, (nI_ltI hj (by omega)).mp h27, rfl⟩
      ·
        refine r_throw (i := 7) E hnt hst xw_oob (by decide) rfl rfl (dat dkX9_requirePuddle 14 rfl) (dat dkX9_requirePuddle 15 rfl) (dat dkX9_requirePuddle 16 rfl) (dat dkX9_requirePuddle 17 rfl) (dat dkX9_requirePuddle 18 rfl) ⟨by decide, (Nat.le_of_ble_eq_true rfl), by decide, by decide⟩ (by decide) (by decide) ?_
        refine ⟨rfl, rfl, ?_⟩
        rintro ⟨c, hc, rfl⟩
        first
          | exact nI_pos (by omega) h16
          | exact h27 ((nI_ltI (by omega) (by omega)).mpr hc)
          | exact absurd ((nI_ltI (a := c) (by omega) (by omega)).mpr hc) (Int32.not_lt.mpr h27)
  ·
    have h_ro : M 18 0 7 = nI x.1.1 := by rw [hP]; rfl
    have h_co : M 18 0 8 = nI x.1.2.1 := by rw [hP]; rfl
    have h_ce : M 18 0 9 = nI x.1.2.2 := by rw [hP]; rfl
    have h_bc : M 18 0 10 = nI x.2.2.2.2.1 := by rw [hP]; rfl
    have h_fr : M 18 0 11 = x.2.2.2.1 := by rw [hP]; rfl
    have h_he : M 18 1 = x.2.1 := by rw [hP]; rfl
    have h_gu : M 18 2 = x.2.2.1 := by rw [hP]; rfl
    have h_be : M 18 3 = be := by rw [hP]; rfl
    have h_nl : M 18 5 = x.2.2.2.2.2.1 := by rw [hP]; rfl
    have h_bh : M 18 6 = x.2.2.2.2.2.2.2.1 := by rw [hP]; rfl
    have h_fp : M 18 7 = x.2.2.2.2.2.2.1 := by rw [hP]; rfl
    have h_n0 : M 18 8 = x.2.2.2.2.2.2.2.2 0 := by rw [hP]; rfl
    have h_n1 : M 18 9 = x.2.2.2.2.2.2.2.2 1 := by rw [hP]; rfl
    have h_n2 : M 18 10 = x.2.2.2.2.2.2.2.2 2 := by rw [hP]; rfl
    have h_n3 : M 18 11 = x.2.2.2.2.2.2.2.2 3 := by rw [hP]; rfl
    have hn64 := (PIv_z hx).1
    have hpu := puT_le (M := M) (x := x)
    refine r_aload_n E (dat dkX9_requirePuddle 0 rfl) rfl rfl ?_
    refine q_getl E fl_X9_46 (dat dkX9_requirePuddle 1 rfl) rfl rfl rfl ?_
    refine r_aload_n E (dat dkX9_requirePuddle 2 rfl) rfl rfl ?_
    refine q_getd E fl_X9_64 (dat dkX9_requirePuddle 3 rfl) rfl rfl rfl hpn ?_
    refine r_aload_n E (dat dkX9_requirePuddle 4 rfl) rfl rfl ?_
    refine q_getl E fl_X9_26 (dat dkX9_requirePuddle 5 rfl) rfl rfl rfl ?_
    refine r_callV (κ := 5) (μ := [15, 18, 3]) E (sp_X3_findAll l G (M 15) (M 15 0 4) (M 15 1) (M 15 2) (M 15 3) (M 15 4) (M 3) (M 3 0 7) (M 3 0 8) (M 3 0 9) (M 3 0 10) (M 3 0 11) (M 3 0 12) (M 3 0 13) (M 3 0 14) (M 3 1) (M 3 2) (M 3 3) (M 3 4) (M 3 5) (M 3 6) (M 3 7) BP (nI x.1.1) (nI x.1.2.1) x.1.2.2 (nI x.2.2.2.2.1) x.2.2.2.1 x.2.1 x.2.2.1 be nm x.2.2.2.2.2.1 x.2.2.2.2.2.2.2.1 x.2.2.2.2.2.2.1 (x.2.2.2.2.2.2.2.2 0) (x.2.2.2.2.2.2.2.2 1) (x.2.2.2.2.2.2.2.2 2) (x.2.2.2.2.2.2.2.2 3) (nbx x) hbe (nbx_lt hx) _ (evU (M 15)).symm hP (evS (M 3)).symm hn64) my_X3_findAll iv_X3_findAll ml_X9_182 (cm_of rfl) ⟨by decide, rfl, rfl⟩ rfl rfl rfl rfl (by decide) (Nat.le_of_ble_eq_true rfl) (dat dkX9_requirePuddle 6 rfl) ?_
    rintro _ _ ⟨rfl, rfl⟩
    refine ⟨_, (show Mrg _ _ M _ (puM M x) from Mrg_e (i := 0) (by decide) (by decide) rfl rfl), ?_⟩
    refine r_iload_n E (dat dkX9_requirePuddle 7 rfl) rfl rfl ?_
    refine r_if_lt (tgt := 30) E (dat dkX9_requirePuddle 8 rfl) rfl (fun h16 => ?_) (fun h16 => ?_)
    ·
      refine r_throw (i := 7) E hnt hst xw_oob (by decide) rfl rfl (dat dkX9_requirePuddle 14 rfl) (dat dkX9_requirePuddle 15 rfl) (dat dkX9_requirePuddle 16 rfl) (dat dkX9_requirePuddle 17 rfl) (dat dkX9_requirePuddle 18 rfl) ⟨by decide, (Nat.le_of_ble_eq_true rfl), by decide, by decide⟩ (by decide) (by decide) ?_
      refine ⟨rfl, rfl, ?_⟩
      rintro ⟨c, hc, rfl⟩
      first
        | exact nI_pos (by omega) h16
        | exact h27 ((nI_ltI (by omega) (by omega)).mpr hc)
        | exact absurd ((nI_ltI (a := c) (by omega) (by omega)).mpr hc) (Int32.not_lt.mpr h27)
    ·
      refine r_iload_n E (dat dkX9_requirePuddle 9 rfl) rfl rfl ?_
      refine r_aload_n E (dat dkX9_requirePuddle 10 rfl) rfl rfl ?_
      refine q_getl E fl_X9_46 (dat dkX9_requirePuddle 11 rfl) rfl rfl rfl ?_
      refine q_getn E fl_X9_186 (dat dkX9_requirePuddle 12 rfl) rfl rfl rfl rfl ?_
      refine r_icmp_lt (tgt := 41) E (dat dkX9_requirePuddle 13 rfl) rfl (fun h27 => ?_) (fun h27 => ?_)
      ·
        refine r_xq ?_
        refine r_vreturn E (dat dkX9_requirePuddle 19 rfl) (by decide) (by decide) ?_
        refine ⟨rfl, rfl, ?_⟩
        obtain ⟨j, hj, rfl⟩ := nI_of (show ¬ a < 0 by first | exact h16 | exact Int32.not_lt.mpr h16)
        exact ⟨j, (nI_ltI hj (by omega)).mp h27, rfl⟩
      ·
        refine r_throw (i := 7) E hnt hst xw_oob (by decide) rfl rfl (dat dkX9_requirePuddle 14 rfl) (dat dkX9_requirePuddle 15 rfl) (dat dkX9_requirePuddle 16 rfl) (dat dkX9_requirePuddle 17 rfl) (dat dkX9_requirePuddle 18 rfl) ⟨by decide, (Nat.le_of_ble_eq_true rfl), by decide, by decide⟩ (by decide) (by decide) ?_
        refine ⟨rfl, rfl, ?_⟩
        rintro ⟨c, hc, rfl⟩
        first
          | exact nI_pos (by omega) h16
          | exact h27 ((nI_ltI (by omega) (by omega)).mpr hc)
          | exact absurd ((nI_ltI (a := c) (by omega) (by omega)).mpr hc) (Int32.not_lt.mpr h27)

set_option maxRecDepth 100000 in
set_option maxHeartbeats 4000000 in
theorem sp_X9_puddleSize (l : Launch) (hst : l.stackTraces = false) (G : GT) (BP : Nat → Nat → Int32) (be nm : Nat → Int32) (x : PP) (q : Nat) (a : Int32) (M : Mem) (hpn : (M 0 0 9).toNatClampNeg = q) (hq : q = 17 ∨ q = 18) (hP : M q = vPx BP be nm x) (hx : PIv x) (hbe : BEx be x) : MCx l G yX9_puddleSize cX9_puddleSize 2 (some .int) ({ frames := 7, cells := 8, slots := 48, locals := 115 } : Room) KC lkC [rv 0 0, iv a] (M) (fun r M2 => M2 = puM M x ∧ ∃ k, k < (puT M x).1 ∧ a = nI k ∧ r = some (iv ((puT M x).2.2.1 k))) (fun E M2 => E = oobN ∧ M2 = puM M x ∧ ¬ ∃ k, k < (puT M x).1 ∧ a = nI k) := by
  refine MCx.of RX9 [some (rv 0 0), some (iv a)] 0 (by decide +kernel) rfl rfl rfl ?_
  intro pp ee ss mm aa bb me cd ad E hnt
  rcases hq with rfl | rfl
  ·
    have h_ro : M 17 0 7 = nI x.1.1 := by rw [hP]; rfl
    have h_co : M 17 0 8 = nI x.1.2.1 := by rw [hP]; rfl
    have h_ce : M 17 0 9 = nI x.1.2.2 := by rw [hP]; rfl
    have h_bc : M 17 0 10 = nI x.2.2.2.2.1 := by rw [hP]; rfl
    have h_fr : M 17 0 11 = x.2.2.2.1 := by rw [hP]; rfl
    have h_he : M 17 1 = x.2.1 := by rw [hP]; rfl
    have h_gu : M 17 2 = x.2.2.1 := by rw [hP]; rfl
    have h_be : M 17 3 = be := by rw [hP]; rfl
    have h_nl : M 17 5 = x.2.2.2.2.2.1 := by rw [hP]; rfl
    have h_bh : M 17 6 = x.2.2.2.2.2.2.2.1 := by rw [hP]; rfl
    have h_fp : M 17 7 = x.2.2.2.2.2.2.1 := by rw [hP]; rfl
    have h_n0 : M 17 8 = x.2.2.2.2.2.2.2.2 0 := by rw [hP]; rfl
    have h_n1 : M 17 9 = x.2.2.2.2.2.2.2.2 1 := by rw [hP]; rfl
    have h_n2 : M 17 10 = x.2.2.2.2.2.2.2.2 2 := by rw [hP]; rfl
    have h_n3 : M 17 11 = x.2.2.2.2.2.2.2.2 3 := by rw [hP]; rfl
    have hn64 := (PIv_z hx).1
    have hpu := puT_le (M := M) (x := x)
    refine r_aload_n E (dat dkX9_puddleSize 0 rfl) rfl rfl ?_
    refine r_iload_n E (dat dkX9_puddleSize 1 rfl) rfl rfl ?_
    refine r_callVX (κ := 8) (μ := []) E hnt (sp_X9_requirePuddle l hst G BP be nm x 17 a M hpn (Or.inl rfl) hP hx hbe) my_X9_requirePuddle iv_X9_requirePuddle ml_X9_190 cm_id ⟨by decide, rfl, rfl⟩ rfl rfl rfl rfl (by decide) (Nat.le_of_ble_eq_true rfl) (dat dkX9_puddleSize 2 rfl) (by decide) (by decide) (fun E M9 h => ⟨puM M x, Mrg_e (i := 15) (fun j _ h => h) (by decide) rfl h.2.1, h.1, rfl, h.2.2⟩) ?_
    rintro _ _ ⟨rfl, hM9, k, hk, rfl⟩
    refine ⟨_, (show Mrg _ _ M _ (puM M x) from Mrg_e (i := 15) (fun j _ h => h) (by decide) rfl hM9), ?_⟩
    clear hM9
    refine r_aload_n E (dat dkX9_puddleSize 3 rfl) rfl rfl ?_
    refine q_getl E fl_X9_46 (dat dkX9_puddleSize 4 rfl) rfl rfl rfl ?_
    refine q_geta E fl_X9_193 (dat dkX9_puddleSize 5 rfl) rfl rfl rfl ?_
    refine r_iload_n E (dat dkX9_puddleSize 6 rfl) rfl rfl ?_
    refine q_iald E (dat dkX9_puddleSize 7 rfl) rfl rfl (by decide) rfl rfl (by omega) ?_
    refine r_xq ?_
    refine r_ireturn E (dat dkX9_puddleSize 8 rfl) (by decide) (by decide) ?_
    exact ⟨rfl, k, hk, rfl, rfl⟩
  ·
    have h_ro : M 18 0 7 = nI x.1.1 := by rw [hP]; rfl
    have h_co : M 18 0 8 = nI x.1.2.1 := by rw [hP]; rfl
    have h_ce : M 18 0 9 = nI x.1.2.2 := by rw [hP]; rfl
    have h_bc : M 18 0 10 = nI x.2.2.2.2.1 := by rw [hP]; rfl
    have h_fr : M 18 0 11 = x.2.2.2.1 := by rw [hP]; rfl
    have h_he : M 18 1 = x.2.1 := by rw [hP]; rfl
    have h_gu : M 18 2 = x.2.2.1 := by rw [hP]; rfl
    have h_be : M 18 3 = be := by rw [hP]; rfl
    have h_nl : M 18 5 = x.2.2.2.2.2.1 := by rw [hP]; rfl
    have h_bh : M 18 6 = x.2.2.2.2.2.2.2.1 := by rw [hP]; rfl
    have h_fp : M 18 7 = x.2.2.2.2.2.2.1 := by rw [hP]; rfl
    have h_n0 : M 18 8 = x.2.2.2.2.2.2.2.2 0 := by rw [hP]; rfl
    have h_n1 : M 18 9 = x.2.2.2.2.2.2.2.2 1 := by rw [hP]; rfl
    have h_n2 : M 18 10 = x.2.2.2.2.2.2.2.2 2 := by rw [hP]; rfl
    have h_n3 : M 18 11 = x.2.2.2.2.2.2.2.2 3 := by rw [hP]; rfl
    have hn64 := (PIv_z hx).1
    have hpu := puT_le (M := M) (x := x)
    refine r_aload_n E (dat dkX9_puddleSize 0 rfl) rfl rfl ?_
    refine r_iload_n E (dat dkX9_puddleSize 1 rfl) rfl rfl ?_
    refine r_callVX (κ := 8) (μ := []) E hnt (sp_X9_requirePuddle l hst G BP be nm x 18 a M hpn (Or.inr rfl) hP hx hbe) my_X9_requirePuddle iv_X9_requirePuddle ml_X9_190 cm_id ⟨by decide, rfl, rfl⟩ rfl rfl rfl rfl (by decide) (Nat.le_of_ble_eq_true rfl) (dat dkX9_puddleSize 2 rfl) (by decide) (by decide) (fun E M9 h => ⟨puM M x, Mrg_e (i := 15) (fun j _ h => h) (by decide) rfl h.2.1, h.1, rfl, h.2.2⟩) ?_
    rintro _ _ ⟨rfl, hM9, k, hk, rfl⟩
    refine ⟨_, (show Mrg _ _ M _ (puM M x) from Mrg_e (i := 15) (fun j _ h => h) (by decide) rfl hM9), ?_⟩
    clear hM9
    refine r_aload_n E (dat dkX9_puddleSize 3 rfl) rfl rfl ?_
    refine q_getl E fl_X9_46 (dat dkX9_puddleSize 4 rfl) rfl rfl rfl ?_
    refine q_geta E fl_X9_193 (dat dkX9_puddleSize 5 rfl) rfl rfl rfl ?_
    refine r_iload_n E (dat dkX9_puddleSize 6 rfl) rfl rfl ?_
    refine q_iald E (dat dkX9_puddleSize 7 rfl) rfl rfl (by decide) rfl rfl (by omega) ?_
    refine r_xq ?_
    refine r_ireturn E (dat dkX9_puddleSize 8 rfl) (by decide) (by decide) ?_
    exact ⟨rfl, k, hk, rfl, rfl⟩

set_option maxRecDepth 100000 in
set_option maxHeartbeats 4000000 in
theorem sp_X9_puddleWater (l : Launch) (hst : l.stackTraces = false) (G : GT) (BP : Nat → Nat → Int32) (be nm : Nat → Int32) (x : PP) (q : Nat) (a : Int32) (M : Mem) (hpn : (M 0 0 9).toNatClampNeg = q) (hq : q = 17 ∨ q = 18) (hP : M q = vPx BP be nm x) (hx : PIv x) (hbe : BEx be x) : MCx l G yX9_puddleWater cX9_puddleWater 2 (some .int) ({ frames := 7, cells := 8, slots := 48, locals := 115 } : Room) KC lkC [rv 0 0, iv a] (M) (fun r M2 => M2 = puM M x ∧ ∃ k, k < (puT M x).1 ∧ a = nI k ∧ r = some (iv ((puT M x).2.2.2.1 k))) (fun E M2 => E = oobN ∧ M2 = puM M x ∧ ¬ ∃ k, k < (puT M x).1 ∧ a = nI k) := by
  refine MCx.of RX9 [some (rv 0 0), some (iv a)] 0 (by decide +kernel) rfl rfl rfl ?_
  intro pp ee ss mm aa bb me cd ad E hnt
  rcases hq with rfl | rfl
  ·
    have h_ro : M 17 0 7 = nI x.1.1 := by rw [hP]; rfl
    have h_co : M 17 0 8 = nI x.1.2.1 := by rw [hP]; rfl
    have h_ce : M 17 0 9 = nI x.1.2.2 := by rw [hP]; rfl
    have h_bc : M 17 0 10 = nI x.2.2.2.2.1 := by rw [hP]; rfl
    have h_fr : M 17 0 11 = x.2.2.2.1 := by rw [hP]; rfl
    have h_he : M 17 1 = x.2.1 := by rw [hP]; rfl
    have h_gu : M 17 2 = x.2.2.1 := by rw [hP]; rfl
    have h_be : M 17 3 = be := by rw [hP]; rfl
    have h_nl : M 17 5 = x.2.2.2.2.2.1 := by rw [hP]; rfl
    have h_bh : M 17 6 = x.2.2.2.2.2.2.2.1 := by rw [hP]; rfl
    have h_fp : M 17 7 = x.2.2.2.2.2.2.1 := by rw [hP]; rfl
    have h_n0 : M 17 8 = x.2.2.2.2.2.2.2.2 0 := by rw [hP]; rfl
    have h_n1 : M 17 9 = x.2.2.2.2.2.2.2.2 1 := by rw [hP]; rfl
    have h_n2 : M 17 10 = x.2.2.2.2.2.2.2.2 2 := by rw [hP]; rfl
    have h_n3 : M 17 11 = x.2.2.2.2.2.2.2.2 3 := by rw [hP]; rfl
    have hn64 := (PIv_z hx).1
    have hpu := puT_le (M := M) (x := x)
    refine r_aload_n E (dat dkX9_puddleWater 0 rfl) rfl rfl ?_
    refine r_iload_n E (dat dkX9_puddleWater 1 rfl) rfl rfl ?_
    refine r_callVX (κ := 8) (μ := []) E hnt (sp_X9_requirePuddle l hst G BP be nm x 17 a M hpn (Or.inl rfl) hP hx hbe) my_X9_requirePuddle iv_X9_requirePuddle ml_X9_190 cm_id ⟨by decide, rfl, rfl⟩ rfl rfl rfl rfl (by decide) (Nat.le_of_ble_eq_true rfl) (dat dkX9_puddleWater 2 rfl) (by decide) (by decide) (fun E M9 h => ⟨puM M x, Mrg_e (i := 15) (fun j _ h => h) (by decide) rfl h.2.1, h.1, rfl, h.2.2⟩) ?_
    rintro _ _ ⟨rfl, hM9, k, hk, rfl⟩
    refine ⟨_, (show Mrg _ _ M _ (puM M x) from Mrg_e (i := 15) (fun j _ h => h) (by decide) rfl hM9), ?_⟩
    clear hM9
    refine r_aload_n E (dat dkX9_puddleWater 3 rfl) rfl rfl ?_
    refine q_getl E fl_X9_46 (dat dkX9_puddleWater 4 rfl) rfl rfl rfl ?_
    refine q_geta E fl_X9_196 (dat dkX9_puddleWater 5 rfl) rfl rfl rfl ?_
    refine r_iload_n E (dat dkX9_puddleWater 6 rfl) rfl rfl ?_
    refine q_iald E (dat dkX9_puddleWater 7 rfl) rfl rfl (by decide) rfl rfl (by omega) ?_
    refine r_xq ?_
    refine r_ireturn E (dat dkX9_puddleWater 8 rfl) (by decide) (by decide) ?_
    exact ⟨rfl, k, hk, rfl, rfl⟩
  ·
    have h_ro : M 18 0 7 = nI x.1.1 := by rw [hP]; rfl
    have h_co : M 18 0 8 = nI x.1.2.1 := by rw [hP]; rfl
    have h_ce : M 18 0 9 = nI x.1.2.2 := by rw [hP]; rfl
    have h_bc : M 18 0 10 = nI x.2.2.2.2.1 := by rw [hP]; rfl
    have h_fr : M 18 0 11 = x.2.2.2.1 := by rw [hP]; rfl
    have h_he : M 18 1 = x.2.1 := by rw [hP]; rfl
    have h_gu : M 18 2 = x.2.2.1 := by rw [hP]; rfl
    have h_be : M 18 3 = be := by rw [hP]; rfl
    have h_nl : M 18 5 = x.2.2.2.2.2.1 := by rw [hP]; rfl
    have h_bh : M 18 6 = x.2.2.2.2.2.2.2.1 := by rw [hP]; rfl
    have h_fp : M 18 7 = x.2.2.2.2.2.2.1 := by rw [hP]; rfl
    have h_n0 : M 18 8 = x.2.2.2.2.2.2.2.2 0 := by rw [hP]; rfl
    have h_n1 : M 18 9 = x.2.2.2.2.2.2.2.2 1 := by rw [hP]; rfl
    have h_n2 : M 18 10 = x.2.2.2.2.2.2.2.2 2 := by rw [hP]; rfl
    have h_n3 : M 18 11 = x.2.2.2.2.2.2.2.2 3 := by rw [hP]; rfl
    have hn64 := (PIv_z hx).1
    have hpu := puT_le (M := M) (x := x)
    refine r_aload_n E (dat dkX9_puddleWater 0 rfl) rfl rfl ?_
    refine r_iload_n E (dat dkX9_puddleWater 1 rfl) rfl rfl ?_
    refine r_callVX (κ := 8) (μ := []) E hnt (sp_X9_requirePuddle l hst G BP be nm x 18 a M hpn (Or.inr rfl) hP hx hbe) my_X9_requirePuddle iv_X9_requirePuddle ml_X9_190 cm_id ⟨by decide, rfl, rfl⟩ rfl rfl rfl rfl (by decide) (Nat.le_of_ble_eq_true rfl) (dat dkX9_puddleWater 2 rfl) (by decide) (by decide) (fun E M9 h => ⟨puM M x, Mrg_e (i := 15) (fun j _ h => h) (by decide) rfl h.2.1, h.1, rfl, h.2.2⟩) ?_
    rintro _ _ ⟨rfl, hM9, k, hk, rfl⟩
    refine ⟨_, (show Mrg _ _ M _ (puM M x) from Mrg_e (i := 15) (fun j _ h => h) (by decide) rfl hM9), ?_⟩
    clear hM9
    refine r_aload_n E (dat dkX9_puddleWater 3 rfl) rfl rfl ?_
    refine q_getl E fl_X9_46 (dat dkX9_puddleWater 4 rfl) rfl rfl rfl ?_
    refine q_geta E fl_X9_196 (dat dkX9_puddleWater 5 rfl) rfl rfl rfl ?_
    refine r_iload_n E (dat dkX9_puddleWater 6 rfl) rfl rfl ?_
    refine q_iald E (dat dkX9_puddleWater 7 rfl) rfl rfl (by decide) rfl rfl (by omega) ?_
    refine r_xq ?_
    refine r_ireturn E (dat dkX9_puddleWater 8 rfl) (by decide) (by decide) ?_
    exact ⟨rfl, k, hk, rfl, rfl⟩
