/-! the city's world: 0 the city, 1 text, 2 script, 3 state, 4 forecast, 5 saved, 6 history, 7 to 14 its states, 15 puddles, 16 ways, 17 and 18 the plans -/
abbrev KC : List Nat := [8, 3, 4, 1, 1, 1, 7, 1, 1, 1, 1, 1, 1, 1, 1, 5, 6, 2, 2]
def lkC : Nat → Nat → Nat := fun j i => if j = 0 then [1, 2, 3, 4, 5, 6, 15, 16].getD i 0 else 7 + i
def oobN : String := "java/lang/IndexOutOfBoundsException"
def argN : String := "java/lang/IllegalArgumentException"
def steN : String := "java/lang/IllegalStateException"
def nseN : String := "java/util/NoSuchElementException"
theorem hcI_01 {x : Int32} {n : Nat} (hn : n ≤ 64) : (hcI x n = 0 ∧ ¬ ∃ c, c < n ∧ x = nI c) ∨ (hcI x n = 1 ∧ ∃ c, c < n ∧ x = nI c) := by
  by_cases h : x < 0
  · left
    refine ⟨if_pos h, ?_⟩
    rintro ⟨c, hc, rfl⟩
    exact nI_pos (by omega) h
  · obtain ⟨j, hj, rfl⟩ := nI_of h
    by_cases h2 : j < n
    · exact Or.inr ⟨hcI_in h2 hn, j, h2, rfl⟩
    · left
      refine ⟨?_, ?_⟩
      · unfold hcI
        rw [if_neg h, if_pos ((nI_leI (by omega) hj).mpr (by omega))]
      · rintro ⟨c, hc, he⟩
        have := (nI_eq hj (by omega)).mp he
        omega
theorem fmC (M : Mem) : True := trivial
set_option maxRecDepth 100000 in
set_option maxHeartbeats 4000000 in
theorem sp_X9_requireCell (l : Launch) (hst : l.stackTraces = false) (G : GT) (BP : Nat → Nat → Int32) (be nm : Nat → Int32) (x : PP) (q : Nat) (a : Int32) (M : Mem) (hpn : (M 0 0 9).toNatClampNeg = q) (hq : q = 17 ∨ q = 18) (hP : M q = vPx BP be nm x) (hx : PIv x)  : MCx l G yX9_requireCell cX9_requireCell 2 none ({ frames := 6, cells := 2, slots := 12, locals := 82 } : Room) KC lkC [rv 0 0, iv a] (M) (fun r M2 => r = none ∧ M2 = M ∧ ∃ c, c < x.1.2.2 ∧ a = nI c) (fun E M2 => E = oobN ∧ M2 = M ∧ ¬ ∃ c, c < x.1.2.2 ∧ a = nI c) := by
  refine MCx.of RX9 [some (rv 0 0), some (iv a)] 0 (by decide +kernel) rfl rfl rfl ?_
  intro pp ee ss mm aa bb me cd ad E hnt
  rcases hq with rfl | rfl
  ·
    have h_ro : M 17 0 7 = nI x.1.1 := by rw [hP]; rfl
    have h_co : M 17 0 8 = nI x.1.2.1 := by rw [hP]; rfl
    have h_ce : M 17 0 9 = nI x.1.2.2 := by rw [hP]; rfl
    have h_bc : M 17 0 10 = nI x.2.2.2.2.1 := by rw [hP]; rfl
    have h_fr : M 17 0 11 = x.2.2.2.1 := by rw [hP]; rfl
    have h_he : M 17 1 = x.2.1 := by rw [hP]; rfl
    have h_gu : M 17 2 = x.2.2.1 := by rw [hP]; rfl
    have h_be : M 17 3 = be := by rw [hP]; rfl
    have h_nl : M 17 5 = x.2.2.2.2.2.1 := by rw [hP]; rfl
    have h_bh : M 17 6 = x.2.2.2.2.2.2.2.1 := by rw [hP]; rfl
    have h_fp : M 17 7 = x.2.2.2.2.2.2.1 := by rw [hP]; rfl
    have h_n0 : M 17 8 = x.2.2.2.2.2.2.2.2 0 := by rw [hP]; rfl
    have h_n1 : M 17 9 = x.2.2.2.2.2.2.2.2 1 := by rw [hP]; rfl
    have h_n2 : M 17 10 = x.2.2.2.2.2.2.2.2 2 := by rw [hP]; rfl
    have h_n3 : M 17 11 = x.2.2.2.2.2.2.2.2 3 := by rw [hP]; rfl
    have hn64 := (PIv_z hx).1
    
    refine r_aload_n E (dat dkX9_requireCell 0 rfl) rfl rfl ?_
    refine q_getd E fl_X9_64 (dat dkX9_requireCell 1 rfl) rfl rfl rfl hpn ?_
    refine r_iload_n E (dat dkX9_requireCell 2 rfl) rfl rfl ?_
    refine r_callV (κ := 2) (μ := [17]) E (sp_X2_hasCell l G BP (nI x.1.1) (nI x.1.2.1) x.1.2.2 (nI x.2.2.2.2.1) x.2.2.2.1 x.2.1 x.2.2.1 be nm x.2.2.2.2.2.1 x.2.2.2.2.2.2.2.1 x.2.2.2.2.2.2.1 (x.2.2.2.2.2.2.2.2 0) (x.2.2.2.2.2.2.2.2 1) (x.2.2.2.2.2.2.2.2 2) (x.2.2.2.2.2.2.2.2 3) a _ hP) my_X2_hasCell iv_X2_hasCell ml_X9_325 (cm_of rfl) ⟨by decide, rfl, rfl⟩ rfl rfl rfl rfl (by decide) (Nat.le_of_ble_eq_true rfl) (dat dkX9_requireCell 3 rfl) ?_
    rintro _ _ ⟨rfl, rfl⟩
    refine ⟨_, Mrg_z rfl, ?_⟩
    refine r_if_ne (tgt := 22) E (dat dkX9_requireCell 4 rfl) rfl (fun h8 => ?_) (fun h8 => ?_)
    ·
      refine r_xq ?_
      refine r_vreturn E (dat dkX9_requireCell 10 rfl) (by decide) (by decide) ?_
      rcases hcI_01 (x := a) hn64 with ⟨h1, h2⟩ | ⟨h1, h2⟩
      · exact absurd h1 h8
      · exact ⟨rfl, rfl, h2⟩
    ·
      refine r_throw (i := 5) E hnt hst xw_oob (by decide) rfl rfl (dat dkX9_requireCell 5 rfl) (dat dkX9_requireCell 6 rfl) (dat dkX9_requireCell 7 rfl) (dat dkX9_requireCell 8 rfl) (dat dkX9_requireCell 9 rfl) ⟨by decide, (Nat.le_of_ble_eq_true rfl), by decide, by decide⟩ (by decide) (by decide) ?_
      rcases hcI_01 (x := a) hn64 with ⟨h1, h2⟩ | ⟨h1, h2⟩
      · exact ⟨rfl, rfl, h2⟩
      · exact absurd (h1.symm.trans h8) (by decide)
  ·
    have h_ro : M 18 0 7 = nI x.1.1 := by rw [hP]; rfl
    have h_co : M 18 0 8 = nI x.1.2.1 := by rw [hP]; rfl
    have h_ce : M 18 0 9 = nI x.1.2.2 := by rw [hP]; rfl
    have h_bc : M 18 0 10 = nI x.2.2.2.2.1 := by rw [hP]; rfl
    have h_fr : M 18 0 11 = x.2.2.2.1 := by rw [hP]; rfl
    have h_he : M 18 1 = x.2.1 := by rw [hP]; rfl
    have h_gu : M 18 2 = x.2.2.1 := by rw [hP]; rfl
    have h_be : M 18 3 = be := by rw [hP]; rfl
    have h_nl : M 18 5 = x.2.2.2.2.2.1 := by rw [hP]; rfl
    have h_bh : M 18 6 = x.2.2.2.2.2.2.2.1 := by rw [hP]; rfl
    have h_fp : M 18 7 = x.2.2.2.2.2.2.1 := by rw [hP]; rfl
    have h_n0 : M 18 8 = x.2.2.2.2.2.2.2.2 0 := by rw [hP]; rfl
    have h_n1 : M 18 9 = x.2.2.2.2.2.2.2.2 1 := by rw [hP]; rfl
    have h_n2 : M 18 10 = x.2.2.2.2.2.2.2.2 2 := by rw [hP]; rfl
    have h_n3 : M 18 11 = x.2.2.2.2.2.2.2.2 3 := by rw [hP]; rfl
    have hn64 := (PIv_z hx).1
    
    refine r_aload_n E (dat dkX9_requireCell 0 rfl) rfl rfl ?_
    refine q_getd E fl_X9_64 (dat dkX9_requireCell 1 rfl) rfl rfl rfl hpn ?_
    refine r_iload_n E (dat dkX9_requireCell 2 rfl) rfl rfl ?_
    refine r_callV (κ := 2) (μ := [18]) E (sp_X2_hasCell l G BP (nI x.1.1) (nI x.1.2.1) x.1.2.2 (nI x.2.2.2.2.1) x.2.2.2.1 x.2.1 x.2.2.1 be nm x.2.2.2.2.2.1 x.2.2.2.2.2.2.2.1 x.2.2.2.2.2.2.1 (x.2.2.2.2.2.2.2.2 0) (x.2.2.2.2.2.2.2.2 1) (x.2.2.2.2.2.2.2.2 2) (x.2.2.2.2.2.2.2.2 3) a _ hP) my_X2_hasCell iv_X2_hasCell ml_X9_325 (cm_of rfl) ⟨by decide, rfl, rfl⟩ rfl rfl rfl rfl (by decide) (Nat.le_of_ble_eq_true rfl) (dat dkX9_requireCell 3 rfl) ?_
    rintro _ _ ⟨rfl, rfl⟩
    refine ⟨_, Mrg_z rfl, ?_⟩
    refine r_if_ne (tgt := 22) E (dat dkX9_requireCell 4 rfl) rfl (fun h8 => ?_) (fun h8 => ?_)
    ·
      refine r_xq ?_
      refine r_vreturn E (dat dkX9_requireCell 10 rfl) (by decide) (by decide) ?_
      rcases hcI_01 (x := a) hn64 with ⟨h1, h2⟩ | ⟨h1, h2⟩
      · exact absurd h1 h8
      · exact ⟨rfl, rfl, h2⟩
    ·
      refine r_throw (i := 5) E hnt hst xw_oob (by decide) rfl rfl (dat dkX9_requireCell 5 rfl) (dat dkX9_requireCell 6 rfl) (dat dkX9_requireCell 7 rfl) (dat dkX9_requireCell 8 rfl) (dat dkX9_requireCell 9 rfl) ⟨by decide, (Nat.le_of_ble_eq_true rfl), by decide, by decide⟩ (by decide) (by decide) ?_
      rcases hcI_01 (x := a) hn64 with ⟨h1, h2⟩ | ⟨h1, h2⟩
      · exact ⟨rfl, rfl, h2⟩
      · exact absurd (h1.symm.trans h8) (by decide)
