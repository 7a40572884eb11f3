theorem rg_ex {x : Int32} {k : Nat} (hk : k < 2 ^ 30) (h0 : 0 ≤ x) (h1 : x ≤ nI k) : ∃ j, j ≤ k ∧ x = nI j := by
  obtain ⟨j, hj, rfl⟩ := nI_of (Int32.not_lt.mpr h0)
  exact ⟨j, (nI_leI hj (by omega)).mp h1, rfl⟩
theorem nlt_le {a b : Int32} (h : ¬ a < b) : b ≤ a := Int32.not_lt.mp h
theorem nle_lt {a b : Int32} (h : ¬ a ≤ b) : b < a := Int32.not_le.mp h
def nbx (x : PP) : Nat → Nat → Option Nat := gnb x.1.1 x.1.2.1
/-- the neighbours stand in the plan -/
def BEx (be : Nat → Int32) (x : PP) : Prop := ∀ c d, c < x.1.2.2 → d < 4 → be (c * 4 + d) = oI (nbx x c d)
theorem nbx_lt {x : PP} (hx : PIv x) : ∀ c d k, nbx x c d = some k → k < x.1.2.2 := fun c d k h => by
  have h1 := gnb_lt c d k h
  have h2 := hx.2.2.1
  omega
/-- a cell of the city, a pair of boots -/
def okc (x : PP) (a : Int32) : Prop := ∃ c, c < x.1.2.2 ∧ a = nI c
def okb4 (x : PP) (a : Int32) : Prop := ∃ c, c < x.2.2.2.2.1 ∧ a = nI c
set_option maxRecDepth 100000 in
set_option maxHeartbeats 4000000 in
theorem sp_X9_minute (l : Launch) (G : GT)  (M : Mem)  : MC l G yX9_minute cX9_minute 1 (some .int) ({ frames := 0, cells := 0, slots := 0, locals := 0 } : Room) KC lkC [rv 0 0] (M) (fun r M2 => r = some (iv (M 3 0 7)) ∧ M2 = M) := by
  refine MC.of RX9 [some (rv 0 0)] 0 (by decide +kernel) rfl rfl rfl ?_
  intro pp ee ss mm aa bb me cd ad E
  refine r_aload_n E (dat dkX9_minute 0 rfl) rfl rfl ?_
  refine q_getl E fl_X9_26 (dat dkX9_minute 1 rfl) rfl rfl rfl ?_
  refine q_getn E fl_X9_129 (dat dkX9_minute 2 rfl) rfl rfl rfl rfl ?_
  refine r_ireturn E (dat dkX9_minute 3 rfl) (by decide) (by decide) ?_
  exact ⟨rfl, rfl⟩

set_option maxRecDepth 100000 in
set_option maxHeartbeats 4000000 in
theorem sp_X9_rain (l : Launch) (G : GT)  (M : Mem)  : MC l G yX9_rain cX9_rain 1 (some .int) ({ frames := 0, cells := 0, slots := 0, locals := 0 } : Room) KC lkC [rv 0 0] (M) (fun r M2 => r = some (iv (M 3 0 8)) ∧ M2 = M) := by
  refine MC.of RX9 [some (rv 0 0)] 0 (by decide +kernel) rfl rfl rfl ?_
  intro pp ee ss mm aa bb me cd ad E
  refine r_aload_n E (dat dkX9_rain 0 rfl) rfl rfl ?_
  refine q_getl E fl_X9_26 (dat dkX9_rain 1 rfl) rfl rfl rfl ?_
  refine q_getn E fl_X9_138 (dat dkX9_rain 2 rfl) rfl rfl rfl rfl ?_
  refine r_ireturn E (dat dkX9_rain 3 rfl) (by decide) (by decide) ?_
  exact ⟨rfl, rfl⟩

set_option maxRecDepth 100000 in
set_option maxHeartbeats 4000000 in
theorem sp_X9_rained (l : Launch) (G : GT)  (M : Mem)  : MC l G yX9_rained cX9_rained 1 (some .int) ({ frames := 0, cells := 0, slots := 0, locals := 0 } : Room) KC lkC [rv 0 0] (M) (fun r M2 => r = some (iv (M 3 0 9)) ∧ M2 = M) := by
  refine MC.of RX9 [some (rv 0 0)] 0 (by decide +kernel) rfl rfl rfl ?_
  intro pp ee ss mm aa bb me cd ad E
  refine r_aload_n E (dat dkX9_rained 0 rfl) rfl rfl ?_
  refine q_getl E fl_X9_26 (dat dkX9_rained 1 rfl) rfl rfl rfl ?_
  refine q_getn E fl_X9_203 (dat dkX9_rained 2 rfl) rfl rfl rfl rfl ?_
  refine r_ireturn E (dat dkX9_rained 3 rfl) (by decide) (by decide) ?_
  exact ⟨rfl, rfl⟩

set_option maxRecDepth 100000 in
set_option maxHeartbeats 4000000 in
theorem sp_X9_fromHydrants (l : Launch) (G : GT)  (M : Mem)  : MC l G yX9_fromHydrants cX9_fromHydrants 1 (some .int) ({ frames := 0, cells := 0, slots := 0, locals := 0 } : Room) KC lkC [rv 0 0] (M) (fun r M2 => r = some (iv (M 3 0 10)) ∧ M2 = M) := by
  refine MC.of RX9 [some (rv 0 0)] 0 (by decide +kernel) rfl rfl rfl ?_
  intro pp ee ss mm aa bb me cd ad E
  refine r_aload_n E (dat dkX9_fromHydrants 0 rfl) rfl rfl ?_
  refine q_getl E fl_X9_26 (dat dkX9_fromHydrants 1 rfl) rfl rfl rfl ?_
  refine q_getn E fl_X9_206 (dat dkX9_fromHydrants 2 rfl) rfl rfl rfl rfl ?_
  refine r_ireturn E (dat dkX9_fromHydrants 3 rfl) (by decide) (by decide) ?_
  exact ⟨rfl, rfl⟩

set_option maxRecDepth 100000 in
set_option maxHeartbeats 4000000 in
theorem sp_X9_drained (l : Launch) (G : GT)  (M : Mem)  : MC l G yX9_drained cX9_drained 1 (some .int) ({ frames := 0, cells := 0, slots := 0, locals := 0 } : Room) KC lkC [rv 0 0] (M) (fun r M2 => r = some (iv (M 3 0 11)) ∧ M2 = M) := by
  refine MC.of RX9 [some (rv 0 0)] 0 (by decide +kernel) rfl rfl rfl ?_
  intro pp ee ss mm aa bb me cd ad E
  refine r_aload_n E (dat dkX9_drained 0 rfl) rfl rfl ?_
  refine q_getl E fl_X9_26 (dat dkX9_drained 1 rfl) rfl rfl rfl ?_
  refine q_getn E fl_X9_209 (dat dkX9_drained 2 rfl) rfl rfl rfl rfl ?_
  refine r_ireturn E (dat dkX9_drained 3 rfl) (by decide) (by decide) ?_
  exact ⟨rfl, rfl⟩

set_option maxRecDepth 100000 in
set_option maxHeartbeats 4000000 in
theorem sp_X9_evaporated (l : Launch) (G : GT)  (M : Mem)  : MC l G yX9_evaporated cX9_evaporated 1 (some .int) ({ frames := 0, cells := 0, slots := 0, locals := 0 } : Room) KC lkC [rv 0 0] (M) (fun r M2 => r = some (iv (M 3 0 12)) ∧ M2 = M) := by
  refine MC.of RX9 [some (rv 0 0)] 0 (by decide +kernel) rfl rfl rfl ?_
  intro pp ee ss mm aa bb me cd ad E
  refine r_aload_n E (dat dkX9_evaporated 0 rfl) rfl rfl ?_
  refine q_getl E fl_X9_26 (dat dkX9_evaporated 1 rfl) rfl rfl rfl ?_
  refine q_getn E fl_X9_212 (dat dkX9_evaporated 2 rfl) rfl rfl rfl rfl ?_
  refine r_ireturn E (dat dkX9_evaporated 3 rfl) (by decide) (by decide) ?_
  exact ⟨rfl, rfl⟩

set_option maxRecDepth 100000 in
set_option maxHeartbeats 4000000 in
theorem sp_X9_bootsCount (l : Launch) (G : GT) (BP : Nat → Nat → Int32) (be nm : Nat → Int32) (x : PP) (q : Nat)  (M : Mem) (hpn : (M 0 0 9).toNatClampNeg = q) (hq : q = 17 ∨ q = 18) (hP : M q = vPx BP be nm x) (hx : PIv x)  : MC l G yX9_bootsCount cX9_bootsCount 1 (some .int) ({ frames := 0, cells := 0, slots := 0, locals := 0 } : Room) KC lkC [rv 0 0] (M) (fun r M2 => r = some (iv (nI x.2.2.2.2.1)) ∧ M2 = M) := by
  refine MC.of RX9 [some (rv 0 0)] 0 (by decide +kernel) rfl rfl rfl ?_
  intro pp ee ss mm aa bb me cd ad E
  rcases hq with rfl | rfl
  ·
    have h_ro : M 17 0 7 = nI x.1.1 := by rw [hP]; rfl
    have h_co : M 17 0 8 = nI x.1.2.1 := by rw [hP]; rfl
    have h_ce : M 17 0 9 = nI x.1.2.2 := by rw [hP]; rfl
    have h_bc : M 17 0 10 = nI x.2.2.2.2.1 := by rw [hP]; rfl
    have h_fr : M 17 0 11 = x.2.2.2.1 := by rw [hP]; rfl
    have h_he : M 17 1 = x.2.1 := by rw [hP]; rfl
    have h_gu : M 17 2 = x.2.2.1 := by rw [hP]; rfl
    have h_be : M 17 3 = be := by rw [hP]; rfl
    have h_nl : M 17 5 = x.2.2.2.2.2.1 := by rw [hP]; rfl
    have h_bh : M 17 6 = x.2.2.2.2.2.2.2.1 := by rw [hP]; rfl
    have h_fp : M 17 7 = x.2.2.2.2.2.2.1 := by rw [hP]; rfl
    have h_n0 : M 17 8 = x.2.2.2.2.2.2.2.2 0 := by rw [hP]; rfl
    have h_n1 : M 17 9 = x.2.2.2.2.2.2.2.2 1 := by rw [hP]; rfl
    have h_n2 : M 17 10 = x.2.2.2.2.2.2.2.2 2 := by rw [hP]; rfl
    have h_n3 : M 17 11 = x.2.2.2.2.2.2.2.2 3 := by rw [hP]; rfl
    have hn64 := (PIv_z hx).1
    
    refine r_aload_n E (dat dkX9_bootsCount 0 rfl) rfl rfl ?_
    refine q_getd E fl_X9_64 (dat dkX9_bootsCount 1 rfl) rfl rfl rfl hpn ?_
    refine q_getn E fl_X9_215 (dat dkX9_bootsCount 2 rfl) rfl rfl rfl h_bc ?_
    refine r_ireturn E (dat dkX9_bootsCount 3 rfl) (by decide) (by decide) ?_
    exact ⟨rfl, rfl⟩
  ·
    have h_ro : M 18 0 7 = nI x.1.1 := by rw [hP]; rfl
    have h_co : M 18 0 8 = nI x.1.2.1 := by rw [hP]; rfl
    have h_ce : M 18 0 9 = nI x.1.2.2 := by rw [hP]; rfl
    have h_bc : M 18 0 10 = nI x.2.2.2.2.1 := by rw [hP]; rfl
    have h_fr : M 18 0 11 = x.2.2.2.1 := by rw [hP]; rfl
    have h_he : M 18 1 = x.2.1 := by rw [hP]; rfl
    have h_gu : M 18 2 = x.2.2.1 := by rw [hP]; rfl
    have h_be : M 18 3 = be := by rw [hP]; rfl
    have h_nl : M 18 5 = x.2.2.2.2.2.1 := by rw [hP]; rfl
    have h_bh : M 18 6 = x.2.2.2.2.2.2.2.1 := by rw [hP]; rfl
    have h_fp : M 18 7 = x.2.2.2.2.2.2.1 := by rw [hP]; rfl
    have h_n0 : M 18 8 = x.2.2.2.2.2.2.2.2 0 := by rw [hP]; rfl
    have h_n1 : M 18 9 = x.2.2.2.2.2.2.2.2 1 := by rw [hP]; rfl
    have h_n2 : M 18 10 = x.2.2.2.2.2.2.2.2 2 := by rw [hP]; rfl
    have h_n3 : M 18 11 = x.2.2.2.2.2.2.2.2 3 := by rw [hP]; rfl
    have hn64 := (PIv_z hx).1
    
    refine r_aload_n E (dat dkX9_bootsCount 0 rfl) rfl rfl ?_
    refine q_getd E fl_X9_64 (dat dkX9_bootsCount 1 rfl) rfl rfl rfl hpn ?_
    refine q_getn E fl_X9_215 (dat dkX9_bootsCount 2 rfl) rfl rfl rfl h_bc ?_
    refine r_ireturn E (dat dkX9_bootsCount 3 rfl) (by decide) (by decide) ?_
    exact ⟨rfl, rfl⟩

set_option maxRecDepth 100000 in
set_option maxHeartbeats 4000000 in
theorem sp_X9_requireRange (l : Launch) (hst : l.stackTraces = false) (G : GT) (a b d : Int32) (M : Mem)  : MCx l G yX9_requireRange cX9_requireRange 3 none ({ frames := 6, cells := 2, slots := 12, locals := 82 } : Room) [] lk0 [iv a, iv b, iv d] (M) (fun r M2 => r = none ∧ M2 = M ∧ b ≤ a ∧ a ≤ d) (fun E M2 => E = argN ∧ M2 = M ∧ ¬ (b ≤ a ∧ a ≤ d)) := by
  refine MCx.of RX9 [some (iv a), some (iv b), some (iv d)] 0 (by decide +kernel) rfl rfl rfl ?_
  intro pp ee ss mm aa bb me cd ad E hnt
  refine r_iload_n E (dat dkX9_requireRange 0 rfl) rfl rfl ?_
  refine r_iload_n E (dat dkX9_requireRange 1 rfl) rfl rfl ?_
  refine r_icmp_lt (tgt := 10) E (dat dkX9_requireRange 2 rfl) rfl (fun h2 => ?_) (fun h2 => ?_)
  ·
    refine r_throw (i := 6) E hnt hst xw_arg (by decide) rfl rfl (dat dkX9_requireRange 6 rfl) (dat dkX9_requireRange 7 rfl) (dat dkX9_requireRange 8 rfl) (dat dkX9_requireRange 9 rfl) (dat dkX9_requireRange 10 rfl) ⟨by decide, (Nat.le_of_ble_eq_true rfl), by decide, by decide⟩ (by decide) (by decide) ?_
    refine ⟨rfl, rfl, fun q => ?_⟩
    first
      | exact absurd h2 (Int32.not_lt.mpr q.1)
      | exact h7 q.2
      | exact absurd h7 (Int32.not_lt.mpr q.2)
  ·
    refine r_iload_n E (dat dkX9_requireRange 3 rfl) rfl rfl ?_
    refine r_iload_n E (dat dkX9_requireRange 4 rfl) rfl rfl ?_
    refine r_icmp_le (tgt := 21) E (dat dkX9_requireRange 5 rfl) rfl (fun h7 => ?_) (fun h7 => ?_)
    ·
      refine r_xq ?_
      refine r_vreturn E (dat dkX9_requireRange 11 rfl) (by decide) (by decide) ?_
      exact ⟨rfl, rfl, by first | exact h2 | exact nlt_le h2, by first | exact h7 | exact nlt_le h7⟩
    ·
      refine r_throw (i := 6) E hnt hst xw_arg (by decide) rfl rfl (dat dkX9_requireRange 6 rfl) (dat dkX9_requireRange 7 rfl) (dat dkX9_requireRange 8 rfl) (dat dkX9_requireRange 9 rfl) (dat dkX9_requireRange 10 rfl) ⟨by decide, (Nat.le_of_ble_eq_true rfl), by decide, by decide⟩ (by decide) (by decide) ?_
      refine ⟨rfl, rfl, fun q => ?_⟩
      first
        | exact absurd h2 (Int32.not_lt.mpr q.1)
        | exact h7 q.2
        | exact absurd h7 (Int32.not_lt.mpr q.2)

set_option maxRecDepth 100000 in
set_option maxHeartbeats 4000000 in
theorem sp_X9_requireState (l : Launch) (hst : l.stackTraces = false) (G : GT) (a : Int32) (M : Mem)  : MCx l G yX9_requireState cX9_requireState 1 none ({ frames := 6, cells := 1, slots := 6, locals := 82 } : Room) [] lk0 [iv a] (M) (fun r M2 => r = none ∧ M2 = M ∧ ¬ a = 0) (fun E M2 => E = steN ∧ M2 = M ∧ a = 0) := by
  refine MCx.of RX9 [some (iv a)] 0 (by decide +kernel) rfl rfl rfl ?_
  intro pp ee ss mm aa bb me cd ad E hnt
  refine r_iload_n E (dat dkX9_requireState 0 rfl) rfl rfl ?_
  refine r_if_ne (tgt := 15) E (dat dkX9_requireState 1 rfl) rfl (fun h1 => ?_) (fun h1 => ?_)
  ·
    refine r_xq ?_
    refine r_vreturn E (dat dkX9_requireState 7 rfl) (by decide) (by decide) ?_
    exact ⟨rfl, rfl, h1⟩
  ·
    refine r_throw (i := 9) E hnt hst xw_ste (by decide) rfl rfl (dat dkX9_requireState 2 rfl) (dat dkX9_requireState 3 rfl) (dat dkX9_requireState 4 rfl) (dat dkX9_requireState 5 rfl) (dat dkX9_requireState 6 rfl) ⟨by decide, (Nat.le_of_ble_eq_true rfl), by decide, by decide⟩ (by decide) (by decide) ?_
    exact ⟨rfl, rfl, by first | exact h1 | exact Decidable.not_not.mp h1⟩

set_option maxRecDepth 100000 in
set_option maxHeartbeats 4000000 in
theorem sp_X9_requireBoots (l : Launch) (hst : l.stackTraces = false) (G : GT) (BP : Nat → Nat → Int32) (be nm : Nat → Int32) (x : PP) (q : Nat) (a : Int32) (M : Mem) (hpn : (M 0 0 9).toNatClampNeg = q) (hq : q = 17 ∨ q = 18) (hP : M q = vPx BP be nm x) (hx : PIv x)  : MCx l G yX9_requireBoots cX9_requireBoots 2 none ({ frames := 6, cells := 4, slots := 24, locals := 82 } : Room) KC lkC [rv 0 0, iv a] (M) (fun r M2 => r = none ∧ M2 = M ∧ ∃ c, c < x.2.2.2.2.1 ∧ a = nI c) (fun E M2 => E = oobN ∧ M2 = M ∧ ¬ ∃ c, c < x.2.2.2.2.1 ∧ a = nI c) := by
  refine MCx.of RX9 [some (rv 0 0), some (iv a)] 0 (by decide +kernel) rfl rfl rfl ?_
  intro pp ee ss mm aa bb me cd ad E hnt
  rcases hq with rfl | rfl
  ·
    have h_ro : M 17 0 7 = nI x.1.1 := by rw [hP]; rfl
    have h_co : M 17 0 8 = nI x.1.2.1 := by rw [hP]; rfl
    have h_ce : M 17 0 9 = nI x.1.2.2 := by rw [hP]; rfl
    have h_bc : M 17 0 10 = nI x.2.2.2.2.1 := by rw [hP]; rfl
    have h_fr : M 17 0 11 = x.2.2.2.1 := by rw [hP]; rfl
    have h_he : M 17 1 = x.2.1 := by rw [hP]; rfl
    have h_gu : M 17 2 = x.2.2.1 := by rw [hP]; rfl
    have h_be : M 17 3 = be := by rw [hP]; rfl
    have h_nl : M 17 5 = x.2.2.2.2.2.1 := by rw [hP]; rfl
    have h_bh : M 17 6 = x.2.2.2.2.2.2.2.1 := by rw [hP]; rfl
    have h_fp : M 17 7 = x.2.2.2.2.2.2.1 := by rw [hP]; rfl
    have h_n0 : M 17 8 = x.2.2.2.2.2.2.2.2 0 := by rw [hP]; rfl
    have h_n1 : M 17 9 = x.2.2.2.2.2.2.2.2 1 := by rw [hP]; rfl
    have h_n2 : M 17 10 = x.2.2.2.2.2.2.2.2 2 := by rw [hP]; rfl
    have h_n3 : M 17 11 = x.2.2.2.2.2.2.2.2 3 := by rw [hP]; rfl
    have hn64 := (PIv_z hx).1
    
    refine r_iload_n E (dat dkX9_requireBoots 0 rfl) rfl rfl ?_
    refine r_if_lt (tgt := 15) E (dat dkX9_requireBoots 1 rfl) rfl (fun h1 => ?_) (fun h1 => ?_)
    ·
      refine r_throw (i := 8) E hnt hst xw_oob (by decide) rfl rfl (dat dkX9_requireBoots 7 rfl) (dat dkX9_requireBoots 8 rfl) (dat dkX9_requireBoots 9 rfl) (dat dkX9_requireBoots 10 rfl) (dat dkX9_requireBoots 11 rfl) ⟨by decide, (Nat.le_of_ble_eq_true rfl), by decide, by decide⟩ (by decide) (by decide) ?_
      refine ⟨rfl, rfl, ?_⟩
      have hb4 := hx.2.2.2.2.1
      rintro ⟨c, hc, rfl⟩
      first
        | exact nI_pos (by omega) h1
        | exact h12 ((nI_ltI (by omega) (by omega)).mpr hc)
        | exact absurd ((nI_ltI (a := c) (by omega) (by omega)).mpr hc) (Int32.not_lt.mpr h12)
    ·
      refine r_iload_n E (dat dkX9_requireBoots 2 rfl) rfl rfl ?_
      refine r_aload_n E (dat dkX9_requireBoots 3 rfl) rfl rfl ?_
      refine q_getd E fl_X9_64 (dat dkX9_requireBoots 4 rfl) rfl rfl rfl hpn ?_
      refine q_getn E fl_X9_215 (dat dkX9_requireBoots 5 rfl) rfl rfl rfl h_bc ?_
      refine r_icmp_lt (tgt := 26) E (dat dkX9_requireBoots 6 rfl) rfl (fun h12 => ?_) (fun h12 => ?_)
      ·
        refine r_xq ?_
        refine r_vreturn E (dat dkX9_requireBoots 12 rfl) (by decide) (by decide) ?_
        refine ⟨rfl, rfl, ?_⟩
        obtain ⟨j, hj, rfl⟩ := nI_of (show ¬ a < 0 by first | exact h1 | exact Int32.not_lt.mpr h1)
        have hb4 := hx.2.2.2.2.1
        exact ⟨j, (nI_ltI hj (by omega)).mp h12, rfl⟩
      ·
        refine r_throw (i := 8) E hnt hst xw_oob (by decide) rfl rfl (dat dkX9_requireBoots 7 rfl) (dat dkX9_requireBoots 8 rfl) (dat dkX9_requireBoots 9 rfl) (dat dkX9_requireBoots 10 rfl) (dat dkX9_requireBoots 11 rfl) ⟨by decide, (Nat.le_of_ble_eq_true rfl), by decide, by decide⟩ (by decide) (by decide) ?_
        refine ⟨rfl, rfl, ?_⟩
        have hb4 := hx.2.2.2.2.1
        rintro ⟨c, hc, rfl⟩
        first
          | exact nI_pos (by omega) h1
          | exact h12 ((nI_ltI (by omega) (by omega)).mpr hc)
          | exact absurd ((nI_ltI (a := c) (by omega) (by omega)).mpr hc) (Int32.not_lt.mpr h12)
  ·
    have h_ro : M 18 0 7 = nI x.1.1 := by rw [hP]; rfl
    have h_co : M 18 0 8 = nI x.1.2.1 := by rw [hP]; rfl
    have h_ce : M 18 0 9 = nI x.1.2.2 := by rw [hP]; rfl
    have h_bc : M 18 0 10 = nI x.2.2.2.2.1 := by rw [hP]; rfl
    have h_fr : M 18 0 11 = x.2.2.2.1 := by rw [hP]; rfl
    have h_he : M 18 1 = x.2.1 := by rw [hP]; rfl
    have h_gu : M 18 2 = x.2.2.1 := by rw [hP]; rfl
    have h_be : M 18 3 = be := by rw [hP]; rfl
    have h_nl : M 18 5 = x.2.2.2.2.2.1 := by rw [hP]; rfl
    have h_bh : M 18 6 = x.2.2.2.2.2.2.2.1 := by rw [hP]; rfl
    have h_fp : M 18 7 = x.2.2.2.2.2.2.1 := by rw [hP]; rfl
    have h_n0 : M 18 8 = x.2.2.2.2.2.2.2.2 0 := by rw [hP]; rfl
    have h_n1 : M 18 9 = x.2.2.2.2.2.2.2.2 1 := by rw [hP]; rfl
    have h_n2 : M 18 10 = x.2.2.2.2.2.2.2.2 2 := by rw [hP]; rfl
    have h_n3 : M 18 11 = x.2.2.2.2.2.2.2.2 3 := by rw [hP]; rfl
    have hn64 := (PIv_z hx).1
    
    refine r_iload_n E (dat dkX9_requireBoots 0 rfl) rfl rfl ?_
    refine r_if_lt (tgt := 15) E (dat dkX9_requireBoots 1 rfl) rfl (fun h1 => ?_) (fun h1 => ?_)
    ·
      refine r_throw (i := 8) E hnt hst xw_oob (by decide) rfl rfl (dat dkX9_requireBoots 7 rfl) (dat dkX9_requireBoots 8 rfl) (dat dkX9_requireBoots 9 rfl) (dat dkX9_requireBoots 10 rfl) (dat dkX9_requireBoots 11 rfl) ⟨by decide, (Nat.le_of_ble_eq_true rfl), by decide, by decide⟩ (by decide) (by decide) ?_
      refine ⟨rfl, rfl, ?_⟩
      have hb4 := hx.2.2.2.2.1
      rintro ⟨c, hc, rfl⟩
      first
        | exact nI_pos (by omega) h1
        | exact h12 ((nI_ltI (by omega) (by omega)).mpr hc)
        | exact absurd ((nI_ltI (a := c) (by omega) (by omega)).mpr hc) (Int32.not_lt.mpr h12)
    ·
      refine r_iload_n E (dat dkX9_requireBoots 2 rfl) rfl rfl ?_
      refine r_aload_n E (dat dkX9_requireBoots 3 rfl) rfl rfl ?_
      refine q_getd E fl_X9_64 (dat dkX9_requireBoots 4 rfl) rfl rfl rfl hpn ?_
      refine q_getn E fl_X9_215 (dat dkX9_requireBoots 5 rfl) rfl rfl rfl h_bc ?_
      refine r_icmp_lt (tgt := 26) E (dat dkX9_requireBoots 6 rfl) rfl (fun h12 => ?_) (fun h12 => ?_)
      ·
        refine r_xq ?_
        refine r_vreturn E (dat dkX9_requireBoots 12 rfl) (by decide) (by decide) ?_
        refine ⟨rfl, rfl, ?_⟩
        obtain ⟨j, hj, rfl⟩ := nI_of (show ¬ a < 0 by first | exact h1 | exact Int32.not_lt.mpr h1)
        have hb4 := hx.2.2.2.2.1
        exact ⟨j, (nI_ltI hj (by omega)).mp h12, rfl⟩
      ·
        refine r_throw (i := 8) E hnt hst xw_oob (by decide) rfl rfl (dat dkX9_requireBoots 7 rfl) (dat dkX9_requireBoots 8 rfl) (dat dkX9_requireBoots 9 rfl) (dat dkX9_requireBoots 10 rfl) (dat dkX9_requireBoots 11 rfl) ⟨by decide, (Nat.le_of_ble_eq_true rfl), by decide, by decide⟩ (by decide) (by decide) ?_
        refine ⟨rfl, rfl, ?_⟩
        have hb4 := hx.2.2.2.2.1
        rintro ⟨c, hc, rfl⟩
        first
          | exact nI_pos (by omega) h1
          | exact h12 ((nI_ltI (by omega) (by omega)).mpr hc)
          | exact absurd ((nI_ltI (a := c) (by omega) (by omega)).mpr hc) (Int32.not_lt.mpr h12)

set_option maxRecDepth 100000 in
set_option maxHeartbeats 4000000 in
theorem sp_X9_waterOn (l : Launch) (hst : l.stackTraces = false) (G : GT) (BP : Nat → Nat → Int32) (be nm : Nat → Int32) (x : PP) (q : Nat) (a : Int32) (M : Mem) (hpn : (M 0 0 9).toNatClampNeg = q) (hq : q = 17 ∨ q = 18) (hP : M q = vPx BP be nm x) (hx : PIv x)  : MCx l G yX9_waterOn cX9_waterOn 2 (some .int) ({ frames := 7, cells := 4, slots := 24, locals := 103 } : Room) KC lkC [rv 0 0, iv a] (M) (fun r M2 => M2 = M ∧ ∃ c, c < x.1.2.2 ∧ a = nI c ∧ r = some (iv (M 3 1 c))) (fun E M2 => E = oobN ∧ M2 = M ∧ ¬ ∃ c, c < x.1.2.2 ∧ a = nI c) := by
  refine MCx.of RX9 [some (rv 0 0), some (iv a)] 0 (by decide +kernel) rfl rfl rfl ?_
  intro pp ee ss mm aa bb me cd ad E hnt
  rcases hq with rfl | rfl
  ·
    have h_ro : M 17 0 7 = nI x.1.1 := by rw [hP]; rfl
    have h_co : M 17 0 8 = nI x.1.2.1 := by rw [hP]; rfl
    have h_ce : M 17 0 9 = nI x.1.2.2 := by rw [hP]; rfl
    have h_bc : M 17 0 10 = nI x.2.2.2.2.1 := by rw [hP]; rfl
    have h_fr : M 17 0 11 = x.2.2.2.1 := by rw [hP]; rfl
    have h_he : M 17 1 = x.2.1 := by rw [hP]; rfl
    have h_gu : M 17 2 = x.2.2.1 := by rw [hP]; rfl
    have h_be : M 17 3 = be := by rw [hP]; rfl
    have h_nl : M 17 5 = x.2.2.2.2.2.1 := by rw [hP]; rfl
    have h_bh : M 17 6 = x.2.2.2.2.2.2.2.1 := by rw [hP]; rfl
    have h_fp : M 17 7 = x.2.2.2.2.2.2.1 := by rw [hP]; rfl
    have h_n0 : M 17 8 = x.2.2.2.2.2.2.2.2 0 := by rw [hP]; rfl
    have h_n1 : M 17 9 = x.2.2.2.2.2.2.2.2 1 := by rw [hP]; rfl
    have h_n2 : M 17 10 = x.2.2.2.2.2.2.2.2 2 := by rw [hP]; rfl
    have h_n3 : M 17 11 = x.2.2.2.2.2.2.2.2 3 := by rw [hP]; rfl
    have hn64 := (PIv_z hx).1
    
    refine r_aload_n E (dat dkX9_waterOn 0 rfl) rfl rfl ?_
    refine r_iload_n E (dat dkX9_waterOn 1 rfl) rfl rfl ?_
    refine r_callVX (κ := 8) (μ := []) E hnt (sp_X9_requireCell l hst G BP be nm x 17 a M hpn (Or.inl rfl) hP hx) my_X9_requireCell iv_X9_requireCell ml_X9_141 cm_id ⟨by decide, rfl, rfl⟩ rfl rfl rfl rfl (by decide) (Nat.le_of_ble_eq_true rfl) (dat dkX9_waterOn 2 rfl) (by decide) (by decide) (fun E M9 h => ⟨M, Mrg_z h.2.1, ⟨h.1, rfl, h.2.2⟩⟩) ?_
    rintro _ _ ⟨rfl, hM9, c, hc, rfl⟩
    refine ⟨_, Mrg_z hM9, ?_⟩
    clear hM9
    have hc64 : c < 64 := by omega
    refine r_aload_n E (dat dkX9_waterOn 3 rfl) rfl rfl ?_
    refine q_getl E fl_X9_26 (dat dkX9_waterOn 4 rfl) rfl rfl rfl ?_
    refine q_geta E fl_X9_148 (dat dkX9_waterOn 5 rfl) rfl rfl rfl ?_
    refine r_iload_n E (dat dkX9_waterOn 6 rfl) rfl rfl ?_
    refine q_iald E (dat dkX9_waterOn 7 rfl) rfl rfl (by decide) rfl rfl (by omega) ?_
    refine r_xq ?_
    refine r_ireturn E (dat dkX9_waterOn 8 rfl) (by decide) (by decide) ?_
    exact ⟨rfl, c, hc, rfl, rfl⟩
  ·
    have h_ro : M 18 0 7 = nI x.1.1 := by rw [hP]; rfl
    have h_co : M 18 0 8 = nI x.1.2.1 := by rw [hP]; rfl
    have h_ce : M 18 0 9 = nI x.1.2.2 := by rw [hP]; rfl
    have h_bc : M 18 0 10 = nI x.2.2.2.2.1 := by rw [hP]; rfl
    have h_fr : M 18 0 11 = x.2.2.2.1 := by rw [hP]; rfl
    have h_he : M 18 1 = x.2.1 := by rw [hP]; rfl
    have h_gu : M 18 2 = x.2.2.1 := by rw [hP]; rfl
    have h_be : M 18 3 = be := by rw [hP]; rfl
    have h_nl : M 18 5 = x.2.2.2.2.2.1 := by rw [hP]; rfl
    have h_bh : M 18 6 = x.2.2.2.2.2.2.2.1 := by rw [hP]; rfl
    have h_fp : M 18 7 = x.2.2.2.2.2.2.1 := by rw [hP]; rfl
    have h_n0 : M 18 8 = x.2.2.2.2.2.2.2.2 0 := by rw [hP]; rfl
    have h_n1 : M 18 9 = x.2.2.2.2.2.2.2.2 1 := by rw [hP]; rfl
    have h_n2 : M 18 10 = x.2.2.2.2.2.2.2.2 2 := by rw [hP]; rfl
    have h_n3 : M 18 11 = x.2.2.2.2.2.2.2.2 3 := by rw [hP]; rfl
    have hn64 := (PIv_z hx).1
    
    refine r_aload_n E (dat dkX9_waterOn 0 rfl) rfl rfl ?_
    refine r_iload_n E (dat dkX9_waterOn 1 rfl) rfl rfl ?_
    refine r_callVX (κ := 8) (μ := []) E hnt (sp_X9_requireCell l hst G BP be nm x 18 a M hpn (Or.inr rfl) hP hx) my_X9_requireCell iv_X9_requireCell ml_X9_141 cm_id ⟨by decide, rfl, rfl⟩ rfl rfl rfl rfl (by decide) (Nat.le_of_ble_eq_true rfl) (dat dkX9_waterOn 2 rfl) (by decide) (by decide) (fun E M9 h => ⟨M, Mrg_z h.2.1, ⟨h.1, rfl, h.2.2⟩⟩) ?_
    rintro _ _ ⟨rfl, hM9, c, hc, rfl⟩
    refine ⟨_, Mrg_z hM9, ?_⟩
    clear hM9
    have hc64 : c < 64 := by omega
    refine r_aload_n E (dat dkX9_waterOn 3 rfl) rfl rfl ?_
    refine q_getl E fl_X9_26 (dat dkX9_waterOn 4 rfl) rfl rfl rfl ?_
    refine q_geta E fl_X9_148 (dat dkX9_waterOn 5 rfl) rfl rfl rfl ?_
    refine r_iload_n E (dat dkX9_waterOn 6 rfl) rfl rfl ?_
    refine q_iald E (dat dkX9_waterOn 7 rfl) rfl rfl (by decide) rfl rfl (by omega) ?_
    refine r_xq ?_
    refine r_ireturn E (dat dkX9_waterOn 8 rfl) (by decide) (by decide) ?_
    exact ⟨rfl, c, hc, rfl, rfl⟩

set_option maxRecDepth 100000 in
set_option maxHeartbeats 4000000 in
theorem sp_X9_levelOf (l : Launch) (hst : l.stackTraces = false) (G : GT) (BP : Nat → Nat → Int32) (be nm : Nat → Int32) (x : PP) (q : Nat) (a : Int32) (M : Mem) (hpn : (M 0 0 9).toNatClampNeg = q) (hq : q = 17 ∨ q = 18) (hP : M q = vPx BP be nm x) (hx : PIv x)  : MCx l G yX9_levelOf cX9_levelOf 2 (some .int) ({ frames := 7, cells := 4, slots := 24, locals := 103 } : Room) KC lkC [rv 0 0, iv a] (M) (fun r M2 => M2 = M ∧ ∃ c, c < x.1.2.2 ∧ a = nI c ∧ r = some (iv (x.2.1 c + M 3 1 c))) (fun E M2 => E = oobN ∧ M2 = M ∧ ¬ ∃ c, c < x.1.2.2 ∧ a = nI c) := by
  refine MCx.of RX9 [some (rv 0 0), some (iv a)] 0 (by decide +kernel) rfl rfl rfl ?_
  intro pp ee ss mm aa bb me cd ad E hnt
  rcases hq with rfl | rfl
  ·
    have h_ro : M 17 0 7 = nI x.1.1 := by rw [hP]; rfl
    have h_co : M 17 0 8 = nI x.1.2.1 := by rw [hP]; rfl
    have h_ce : M 17 0 9 = nI x.1.2.2 := by rw [hP]; rfl
    have h_bc : M 17 0 10 = nI x.2.2.2.2.1 := by rw [hP]; rfl
    have h_fr : M 17 0 11 = x.2.2.2.1 := by rw [hP]; rfl
    have h_he : M 17 1 = x.2.1 := by rw [hP]; rfl
    have h_gu : M 17 2 = x.2.2.1 := by rw [hP]; rfl
    have h_be : M 17 3 = be := by rw [hP]; rfl
    have h_nl : M 17 5 = x.2.2.2.2.2.1 := by rw [hP]; rfl
    have h_bh : M 17 6 = x.2.2.2.2.2.2.2.1 := by rw [hP]; rfl
    have h_fp : M 17 7 = x.2.2.2.2.2.2.1 := by rw [hP]; rfl
    have h_n0 : M 17 8 = x.2.2.2.2.2.2.2.2 0 := by rw [hP]; rfl
    have h_n1 : M 17 9 = x.2.2.2.2.2.2.2.2 1 := by rw [hP]; rfl
    have h_n2 : M 17 10 = x.2.2.2.2.2.2.2.2 2 := by rw [hP]; rfl
    have h_n3 : M 17 11 = x.2.2.2.2.2.2.2.2 3 := by rw [hP]; rfl
    have hn64 := (PIv_z hx).1
    
    refine r_aload_n E (dat dkX9_levelOf 0 rfl) rfl rfl ?_
    refine r_iload_n E (dat dkX9_levelOf 1 rfl) rfl rfl ?_
    refine r_callVX (κ := 8) (μ := []) E hnt (sp_X9_requireCell l hst G BP be nm x 17 a M hpn (Or.inl rfl) hP hx) my_X9_requireCell iv_X9_requireCell ml_X9_141 cm_id ⟨by decide, rfl, rfl⟩ rfl rfl rfl rfl (by decide) (Nat.le_of_ble_eq_true rfl) (dat dkX9_levelOf 2 rfl) (by decide) (by decide) (fun E M9 h => ⟨M, Mrg_z h.2.1, ⟨h.1, rfl, h.2.2⟩⟩) ?_
    rintro _ _ ⟨rfl, hM9, c, hc, rfl⟩
    refine ⟨_, Mrg_z hM9, ?_⟩
    clear hM9
    have hc64 : c < 64 := by omega
    refine r_aload_n E (dat dkX9_levelOf 3 rfl) rfl rfl ?_
    refine q_getd E fl_X9_64 (dat dkX9_levelOf 4 rfl) rfl rfl rfl hpn ?_
    refine q_geta E fl_X9_144 (dat dkX9_levelOf 5 rfl) rfl rfl rfl ?_
    refine r_iload_n E (dat dkX9_levelOf 6 rfl) rfl rfl ?_
    refine q_iald E (dat dkX9_levelOf 7 rfl) rfl rfl (by decide) h_he rfl (by omega) ?_
    refine r_aload_n E (dat dkX9_levelOf 8 rfl) rfl rfl ?_
    refine q_getl E fl_X9_26 (dat dkX9_levelOf 9 rfl) rfl rfl rfl ?_
    refine q_geta E fl_X9_148 (dat dkX9_levelOf 10 rfl) rfl rfl rfl ?_
    refine r_iload_n E (dat dkX9_levelOf 11 rfl) rfl rfl ?_
    refine q_iald E (dat dkX9_levelOf 12 rfl) rfl rfl (by decide) rfl rfl (by omega) ?_
    refine r_iadd E (dat dkX9_levelOf 13 rfl) ?_
    refine r_xq ?_
    refine r_ireturn E (dat dkX9_levelOf 14 rfl) (by decide) (by decide) ?_
    exact ⟨rfl, c, hc, rfl, rfl⟩
  ·
    have h_ro : M 18 0 7 = nI x.1.1 := by rw [hP]; rfl
    have h_co : M 18 0 8 = nI x.1.2.1 := by rw [hP]; rfl
    have h_ce : M 18 0 9 = nI x.1.2.2 := by rw [hP]; rfl
    have h_bc : M 18 0 10 = nI x.2.2.2.2.1 := by rw [hP]; rfl
    have h_fr : M 18 0 11 = x.2.2.2.1 := by rw [hP]; rfl
    have h_he : M 18 1 = x.2.1 := by rw [hP]; rfl
    have h_gu : M 18 2 = x.2.2.1 := by rw [hP]; rfl
    have h_be : M 18 3 = be := by rw [hP]; rfl
    have h_nl : M 18 5 = x.2.2.2.2.2.1 := by rw [hP]; rfl
    have h_bh : M 18 6 = x.2.2.2.2.2.2.2.1 := by rw [hP]; rfl
    have h_fp : M 18 7 = x.2.2.2.2.2.2.1 := by rw [hP]; rfl
    have h_n0 : M 18 8 = x.2.2.2.2.2.2.2.2 0 := by rw [hP]; rfl
    have h_n1 : M 18 9 = x.2.2.2.2.2.2.2.2 1 := by rw [hP]; rfl
    have h_n2 : M 18 10 = x.2.2.2.2.2.2.2.2 2 := by rw [hP]; rfl
    have h_n3 : M 18 11 = x.2.2.2.2.2.2.2.2 3 := by rw [hP]; rfl
    have hn64 := (PIv_z hx).1
    
    refine r_aload_n E (dat dkX9_levelOf 0 rfl) rfl rfl ?_
    refine r_iload_n E (dat dkX9_levelOf 1 rfl) rfl rfl ?_
    refine r_callVX (κ := 8) (μ := []) E hnt (sp_X9_requireCell l hst G BP be nm x 18 a M hpn (Or.inr rfl) hP hx) my_X9_requireCell iv_X9_requireCell ml_X9_141 cm_id ⟨by decide, rfl, rfl⟩ rfl rfl rfl rfl (by decide) (Nat.le_of_ble_eq_true rfl) (dat dkX9_levelOf 2 rfl) (by decide) (by decide) (fun E M9 h => ⟨M, Mrg_z h.2.1, ⟨h.1, rfl, h.2.2⟩⟩) ?_
    rintro _ _ ⟨rfl, hM9, c, hc, rfl⟩
    refine ⟨_, Mrg_z hM9, ?_⟩
    clear hM9
    have hc64 : c < 64 := by omega
    refine r_aload_n E (dat dkX9_levelOf 3 rfl) rfl rfl ?_
    refine q_getd E fl_X9_64 (dat dkX9_levelOf 4 rfl) rfl rfl rfl hpn ?_
    refine q_geta E fl_X9_144 (dat dkX9_levelOf 5 rfl) rfl rfl rfl ?_
    refine r_iload_n E (dat dkX9_levelOf 6 rfl) rfl rfl ?_
    refine q_iald E (dat dkX9_levelOf 7 rfl) rfl rfl (by decide) h_he rfl (by omega) ?_
    refine r_aload_n E (dat dkX9_levelOf 8 rfl) rfl rfl ?_
    refine q_getl E fl_X9_26 (dat dkX9_levelOf 9 rfl) rfl rfl rfl ?_
    refine q_geta E fl_X9_148 (dat dkX9_levelOf 10 rfl) rfl rfl rfl ?_
    refine r_iload_n E (dat dkX9_levelOf 11 rfl) rfl rfl ?_
    refine q_iald E (dat dkX9_levelOf 12 rfl) rfl rfl (by decide) rfl rfl (by omega) ?_
    refine r_iadd E (dat dkX9_levelOf 13 rfl) ?_
    refine r_xq ?_
    refine r_ireturn E (dat dkX9_levelOf 14 rfl) (by decide) (by decide) ?_
    exact ⟨rfl, c, hc, rfl, rfl⟩

set_option maxRecDepth 100000 in
set_option maxHeartbeats 4000000 in
theorem sp_X9_leavesOn (l : Launch) (hst : l.stackTraces = false) (G : GT) (BP : Nat → Nat → Int32) (be nm : Nat → Int32) (x : PP) (q : Nat) (a : Int32) (M : Mem) (hpn : (M 0 0 9).toNatClampNeg = q) (hq : q = 17 ∨ q = 18) (hP : M q = vPx BP be nm x) (hx : PIv x)  : MCx l G yX9_leavesOn cX9_leavesOn 2 (some .int) ({ frames := 7, cells := 4, slots := 24, locals := 103 } : Room) KC lkC [rv 0 0, iv a] (M) (fun r M2 => M2 = M ∧ ∃ c, c < x.1.2.2 ∧ a = nI c ∧ r = some (iv (M 3 2 c))) (fun E M2 => E = oobN ∧ M2 = M ∧ ¬ ∃ c, c < x.1.2.2 ∧ a = nI c) := by
  refine MCx.of RX9 [some (rv 0 0), some (iv a)] 0 (by decide +kernel) rfl rfl rfl ?_
  intro pp ee ss mm aa bb me cd ad E hnt
  rcases hq with rfl | rfl
  ·
    have h_ro : M 17 0 7 = nI x.1.1 := by rw [hP]; rfl
    have h_co : M 17 0 8 = nI x.1.2.1 := by rw [hP]; rfl
    have h_ce : M 17 0 9 = nI x.1.2.2 := by rw [hP]; rfl
    have h_bc : M 17 0 10 = nI x.2.2.2.2.1 := by rw [hP]; rfl
    have h_fr : M 17 0 11 = x.2.2.2.1 := by rw [hP]; rfl
    have h_he : M 17 1 = x.2.1 := by rw [hP]; rfl
    have h_gu : M 17 2 = x.2.2.1 := by rw [hP]; rfl
    have h_be : M 17 3 = be := by rw [hP]; rfl
    have h_nl : M 17 5 = x.2.2.2.2.2.1 := by rw [hP]; rfl
    have h_bh : M 17 6 = x.2.2.2.2.2.2.2.1 := by rw [hP]; rfl
    have h_fp : M 17 7 = x.2.2.2.2.2.2.1 := by rw [hP]; rfl
    have h_n0 : M 17 8 = x.2.2.2.2.2.2.2.2 0 := by rw [hP]; rfl
    have h_n1 : M 17 9 = x.2.2.2.2.2.2.2.2 1 := by rw [hP]; rfl
    have h_n2 : M 17 10 = x.2.2.2.2.2.2.2.2 2 := by rw [hP]; rfl
    have h_n3 : M 17 11 = x.2.2.2.2.2.2.2.2 3 := by rw [hP]; rfl
    have hn64 := (PIv_z hx).1
    
    refine r_aload_n E (dat dkX9_leavesOn 0 rfl) rfl rfl ?_
    refine r_iload_n E (dat dkX9_leavesOn 1 rfl) rfl rfl ?_
    refine r_callVX (κ := 8) (μ := []) E hnt (sp_X9_requireCell l hst G BP be nm x 17 a M hpn (Or.inl rfl) hP hx) my_X9_requireCell iv_X9_requireCell ml_X9_141 cm_id ⟨by decide, rfl, rfl⟩ rfl rfl rfl rfl (by decide) (Nat.le_of_ble_eq_true rfl) (dat dkX9_leavesOn 2 rfl) (by decide) (by decide) (fun E M9 h => ⟨M, Mrg_z h.2.1, ⟨h.1, rfl, h.2.2⟩⟩) ?_
    rintro _ _ ⟨rfl, hM9, c, hc, rfl⟩
    refine ⟨_, Mrg_z hM9, ?_⟩
    clear hM9
    have hc64 : c < 64 := by omega
    refine r_aload_n E (dat dkX9_leavesOn 3 rfl) rfl rfl ?_
    refine q_getl E fl_X9_26 (dat dkX9_leavesOn 4 rfl) rfl rfl rfl ?_
    refine q_geta E fl_X9_151 (dat dkX9_leavesOn 5 rfl) rfl rfl rfl ?_
    refine r_iload_n E (dat dkX9_leavesOn 6 rfl) rfl rfl ?_
    refine q_iald E (dat dkX9_leavesOn 7 rfl) rfl rfl (by decide) rfl rfl (by omega) ?_
    refine r_xq ?_
    refine r_ireturn E (dat dkX9_leavesOn 8 rfl) (by decide) (by decide) ?_
    exact ⟨rfl, c, hc, rfl, rfl⟩
  ·
    have h_ro : M 18 0 7 = nI x.1.1 := by rw [hP]; rfl
    have h_co : M 18 0 8 = nI x.1.2.1 := by rw [hP]; rfl
    have h_ce : M 18 0 9 = nI x.1.2.2 := by rw [hP]; rfl
    have h_bc : M 18 0 10 = nI x.2.2.2.2.1 := by rw [hP]; rfl
    have h_fr : M 18 0 11 = x.2.2.2.1 := by rw [hP]; rfl
    have h_he : M 18 1 = x.2.1 := by rw [hP]; rfl
    have h_gu : M 18 2 = x.2.2.1 := by rw [hP]; rfl
    have h_be : M 18 3 = be := by rw [hP]; rfl
    have h_nl : M 18 5 = x.2.2.2.2.2.1 := by rw [hP]; rfl
    have h_bh : M 18 6 = x.2.2.2.2.2.2.2.1 := by rw [hP]; rfl
    have h_fp : M 18 7 = x.2.2.2.2.2.2.1 := by rw [hP]; rfl
    have h_n0 : M 18 8 = x.2.2.2.2.2.2.2.2 0 := by rw [hP]; rfl
    have h_n1 : M 18 9 = x.2.2.2.2.2.2.2.2 1 := by rw [hP]; rfl
    have h_n2 : M 18 10 = x.2.2.2.2.2.2.2.2 2 := by rw [hP]; rfl
    have h_n3 : M 18 11 = x.2.2.2.2.2.2.2.2 3 := by rw [hP]; rfl
    have hn64 := (PIv_z hx).1
    
    refine r_aload_n E (dat dkX9_leavesOn 0 rfl) rfl rfl ?_
    refine r_iload_n E (dat dkX9_leavesOn 1 rfl) rfl rfl ?_
    refine r_callVX (κ := 8) (μ := []) E hnt (sp_X9_requireCell l hst G BP be nm x 18 a M hpn (Or.inr rfl) hP hx) my_X9_requireCell iv_X9_requireCell ml_X9_141 cm_id ⟨by decide, rfl, rfl⟩ rfl rfl rfl rfl (by decide) (Nat.le_of_ble_eq_true rfl) (dat dkX9_leavesOn 2 rfl) (by decide) (by decide) (fun E M9 h => ⟨M, Mrg_z h.2.1, ⟨h.1, rfl, h.2.2⟩⟩) ?_
    rintro _ _ ⟨rfl, hM9, c, hc, rfl⟩
    refine ⟨_, Mrg_z hM9, ?_⟩
    clear hM9
    have hc64 : c < 64 := by omega
    refine r_aload_n E (dat dkX9_leavesOn 3 rfl) rfl rfl ?_
    refine q_getl E fl_X9_26 (dat dkX9_leavesOn 4 rfl) rfl rfl rfl ?_
    refine q_geta E fl_X9_151 (dat dkX9_leavesOn 5 rfl) rfl rfl rfl ?_
    refine r_iload_n E (dat dkX9_leavesOn 6 rfl) rfl rfl ?_
    refine q_iald E (dat dkX9_leavesOn 7 rfl) rfl rfl (by decide) rfl rfl (by omega) ?_
    refine r_xq ?_
    refine r_ireturn E (dat dkX9_leavesOn 8 rfl) (by decide) (by decide) ?_
    exact ⟨rfl, c, hc, rfl, rfl⟩

set_option maxRecDepth 100000 in
set_option maxHeartbeats 4000000 in
theorem sp_X9_hydrantRate (l : Launch) (hst : l.stackTraces = false) (G : GT) (BP : Nat → Nat → Int32) (be nm : Nat → Int32) (x : PP) (q : Nat) (a : Int32) (M : Mem) (hpn : (M 0 0 9).toNatClampNeg = q) (hq : q = 17 ∨ q = 18) (hP : M q = vPx BP be nm x) (hx : PIv x)  : MCx l G yX9_hydrantRate cX9_hydrantRate 2 (some .int) ({ frames := 7, cells := 4, slots := 24, locals := 103 } : Room) KC lkC [rv 0 0, iv a] (M) (fun r M2 => M2 = M ∧ ∃ c, c < x.1.2.2 ∧ a = nI c ∧ r = some (iv (M 3 3 c))) (fun E M2 => E = oobN ∧ M2 = M ∧ ¬ ∃ c, c < x.1.2.2 ∧ a = nI c) := by
  refine MCx.of RX9 [some (rv 0 0), some (iv a)] 0 (by decide +kernel) rfl rfl rfl ?_
  intro pp ee ss mm aa bb me cd ad E hnt
  rcases hq with rfl | rfl
  ·
    have h_ro : M 17 0 7 = nI x.1.1 := by rw [hP]; rfl
    have h_co : M 17 0 8 = nI x.1.2.1 := by rw [hP]; rfl
    have h_ce : M 17 0 9 = nI x.1.2.2 := by rw [hP]; rfl
    have h_bc : M 17 0 10 = nI x.2.2.2.2.1 := by rw [hP]; rfl
    have h_fr : M 17 0 11 = x.2.2.2.1 := by rw [hP]; rfl
    have h_he : M 17 1 = x.2.1 := by rw [hP]; rfl
    have h_gu : M 17 2 = x.2.2.1 := by rw [hP]; rfl
    have h_be : M 17 3 = be := by rw [hP]; rfl
    have h_nl : M 17 5 = x.2.2.2.2.2.1 := by rw [hP]; rfl
    have h_bh : M 17 6 = x.2.2.2.2.2.2.2.1 := by rw [hP]; rfl
    have h_fp : M 17 7 = x.2.2.2.2.2.2.1 := by rw [hP]; rfl
    have h_n0 : M 17 8 = x.2.2.2.2.2.2.2.2 0 := by rw [hP]; rfl
    have h_n1 : M 17 9 = x.2.2.2.2.2.2.2.2 1 := by rw [hP]; rfl
    have h_n2 : M 17 10 = x.2.2.2.2.2.2.2.2 2 := by rw [hP]; rfl
    have h_n3 : M 17 11 = x.2.2.2.2.2.2.2.2 3 := by rw [hP]; rfl
    have hn64 := (PIv_z hx).1
    
    refine r_aload_n E (dat dkX9_hydrantRate 0 rfl) rfl rfl ?_
    refine r_iload_n E (dat dkX9_hydrantRate 1 rfl) rfl rfl ?_
    refine r_callVX (κ := 8) (μ := []) E hnt (sp_X9_requireCell l hst G BP be nm x 17 a M hpn (Or.inl rfl) hP hx) my_X9_requireCell iv_X9_requireCell ml_X9_141 cm_id ⟨by decide, rfl, rfl⟩ rfl rfl rfl rfl (by decide) (Nat.le_of_ble_eq_true rfl) (dat dkX9_hydrantRate 2 rfl) (by decide) (by decide) (fun E M9 h => ⟨M, Mrg_z h.2.1, ⟨h.1, rfl, h.2.2⟩⟩) ?_
    rintro _ _ ⟨rfl, hM9, c, hc, rfl⟩
    refine ⟨_, Mrg_z hM9, ?_⟩
    clear hM9
    have hc64 : c < 64 := by omega
    refine r_aload_n E (dat dkX9_hydrantRate 3 rfl) rfl rfl ?_
    refine q_getl E fl_X9_26 (dat dkX9_hydrantRate 4 rfl) rfl rfl rfl ?_
    refine q_geta E fl_X9_161 (dat dkX9_hydrantRate 5 rfl) rfl rfl rfl ?_
    refine r_iload_n E (dat dkX9_hydrantRate 6 rfl) rfl rfl ?_
    refine q_iald E (dat dkX9_hydrantRate 7 rfl) rfl rfl (by decide) rfl rfl (by omega) ?_
    refine r_xq ?_
    refine r_ireturn E (dat dkX9_hydrantRate 8 rfl) (by decide) (by decide) ?_
    exact ⟨rfl, c, hc, rfl, rfl⟩
  ·
    have h_ro : M 18 0 7 = nI x.1.1 := by rw [hP]; rfl
    have h_co : M 18 0 8 = nI x.1.2.1 := by rw [hP]; rfl
    have h_ce : M 18 0 9 = nI x.1.2.2 := by rw [hP]; rfl
    have h_bc : M 18 0 10 = nI x.2.2.2.2.1 := by rw [hP]; rfl
    have h_fr : M 18 0 11 = x.2.2.2.1 := by rw [hP]; rfl
    have h_he : M 18 1 = x.2.1 := by rw [hP]; rfl
    have h_gu : M 18 2 = x.2.2.1 := by rw [hP]; rfl
    have h_be : M 18 3 = be := by rw [hP]; rfl
    have h_nl : M 18 5 = x.2.2.2.2.2.1 := by rw [hP]; rfl
    have h_bh : M 18 6 = x.2.2.2.2.2.2.2.1 := by rw [hP]; rfl
    have h_fp : M 18 7 = x.2.2.2.2.2.2.1 := by rw [hP]; rfl
    have h_n0 : M 18 8 = x.2.2.2.2.2.2.2.2 0 := by rw [hP]; rfl
    have h_n1 : M 18 9 = x.2.2.2.2.2.2.2.2 1 := by rw [hP]; rfl
    have h_n2 : M 18 10 = x.2.2.2.2.2.2.2.2 2 := by rw [hP]; rfl
    have h_n3 : M 18 11 = x.2.2.2.2.2.2.2.2 3 := by rw [hP]; rfl
    have hn64 := (PIv_z hx).1
    
    refine r_aload_n E (dat dkX9_hydrantRate 0 rfl) rfl rfl ?_
    refine r_iload_n E (dat dkX9_hydrantRate 1 rfl) rfl rfl ?_
    refine r_callVX (κ := 8) (μ := []) E hnt (sp_X9_requireCell l hst G BP be nm x 18 a M hpn (Or.inr rfl) hP hx) my_X9_requireCell iv_X9_requireCell ml_X9_141 cm_id ⟨by decide, rfl, rfl⟩ rfl rfl rfl rfl (by decide) (Nat.le_of_ble_eq_true rfl) (dat dkX9_hydrantRate 2 rfl) (by decide) (by decide) (fun E M9 h => ⟨M, Mrg_z h.2.1, ⟨h.1, rfl, h.2.2⟩⟩) ?_
    rintro _ _ ⟨rfl, hM9, c, hc, rfl⟩
    refine ⟨_, Mrg_z hM9, ?_⟩
    clear hM9
    have hc64 : c < 64 := by omega
    refine r_aload_n E (dat dkX9_hydrantRate 3 rfl) rfl rfl ?_
    refine q_getl E fl_X9_26 (dat dkX9_hydrantRate 4 rfl) rfl rfl rfl ?_
    refine q_geta E fl_X9_161 (dat dkX9_hydrantRate 5 rfl) rfl rfl rfl ?_
    refine r_iload_n E (dat dkX9_hydrantRate 6 rfl) rfl rfl ?_
    refine q_iald E (dat dkX9_hydrantRate 7 rfl) rfl rfl (by decide) rfl rfl (by omega) ?_
    refine r_xq ?_
    refine r_ireturn E (dat dkX9_hydrantRate 8 rfl) (by decide) (by decide) ?_
    exact ⟨rfl, c, hc, rfl, rfl⟩

set_option maxRecDepth 100000 in
set_option maxHeartbeats 4000000 in
theorem sp_X9_hydrantMinutes (l : Launch) (hst : l.stackTraces = false) (G : GT) (BP : Nat → Nat → Int32) (be nm : Nat → Int32) (x : PP) (q : Nat) (a : Int32) (M : Mem) (hpn : (M 0 0 9).toNatClampNeg = q) (hq : q = 17 ∨ q = 18) (hP : M q = vPx BP be nm x) (hx : PIv x)  : MCx l G yX9_hydrantMinutes cX9_hydrantMinutes 2 (some .int) ({ frames := 7, cells := 4, slots := 24, locals := 103 } : Room) KC lkC [rv 0 0, iv a] (M) (fun r M2 => M2 = M ∧ ∃ c, c < x.1.2.2 ∧ a = nI c ∧ r = some (iv (M 3 4 c))) (fun E M2 => E = oobN ∧ M2 = M ∧ ¬ ∃ c, c < x.1.2.2 ∧ a = nI c) := by
  refine MCx.of RX9 [some (rv 0 0), some (iv a)] 0 (by decide +kernel) rfl rfl rfl ?_
  intro pp ee ss mm aa bb me cd ad E hnt
  rcases hq with rfl | rfl
  ·
    have h_ro : M 17 0 7 = nI x.1.1 := by rw [hP]; rfl
    have h_co : M 17 0 8 = nI x.1.2.1 := by rw [hP]; rfl
    have h_ce : M 17 0 9 = nI x.1.2.2 := by rw [hP]; rfl
    have h_bc : M 17 0 10 = nI x.2.2.2.2.1 := by rw [hP]; rfl
    have h_fr : M 17 0 11 = x.2.2.2.1 := by rw [hP]; rfl
    have h_he : M 17 1 = x.2.1 := by rw [hP]; rfl
    have h_gu : M 17 2 = x.2.2.1 := by rw [hP]; rfl
    have h_be : M 17 3 = be := by rw [hP]; rfl
    have h_nl : M 17 5 = x.2.2.2.2.2.1 := by rw [hP]; rfl
    have h_bh : M 17 6 = x.2.2.2.2.2.2.2.1 := by rw [hP]; rfl
    have h_fp : M 17 7 = x.2.2.2.2.2.2.1 := by rw [hP]; rfl
    have h_n0 : M 17 8 = x.2.2.2.2.2.2.2.2 0 := by rw [hP]; rfl
    have h_n1 : M 17 9 = x.2.2.2.2.2.2.2.2 1 := by rw [hP]; rfl
    have h_n2 : M 17 10 = x.2.2.2.2.2.2.2.2 2 := by rw [hP]; rfl
    have h_n3 : M 17 11 = x.2.2.2.2.2.2.2.2 3 := by rw [hP]; rfl
    have hn64 := (PIv_z hx).1
    
    refine r_aload_n E (dat dkX9_hydrantMinutes 0 rfl) rfl rfl ?_
    refine r_iload_n E (dat dkX9_hydrantMinutes 1 rfl) rfl rfl ?_
    refine r_callVX (κ := 8) (μ := []) E hnt (sp_X9_requireCell l hst G BP be nm x 17 a M hpn (Or.inl rfl) hP hx) my_X9_requireCell iv_X9_requireCell ml_X9_141 cm_id ⟨by decide, rfl, rfl⟩ rfl rfl rfl rfl (by decide) (Nat.le_of_ble_eq_true rfl) (dat dkX9_hydrantMinutes 2 rfl) (by decide) (by decide) (fun E M9 h => ⟨M, Mrg_z h.2.1, ⟨h.1, rfl, h.2.2⟩⟩) ?_
    rintro _ _ ⟨rfl, hM9, c, hc, rfl⟩
    refine ⟨_, Mrg_z hM9, ?_⟩
    clear hM9
    have hc64 : c < 64 := by omega
    refine r_aload_n E (dat dkX9_hydrantMinutes 3 rfl) rfl rfl ?_
    refine q_getl E fl_X9_26 (dat dkX9_hydrantMinutes 4 rfl) rfl rfl rfl ?_
    refine q_geta E fl_X9_164 (dat dkX9_hydrantMinutes 5 rfl) rfl rfl rfl ?_
    refine r_iload_n E (dat dkX9_hydrantMinutes 6 rfl) rfl rfl ?_
    refine q_iald E (dat dkX9_hydrantMinutes 7 rfl) rfl rfl (by decide) rfl rfl (by omega) ?_
    refine r_xq ?_
    refine r_ireturn E (dat dkX9_hydrantMinutes 8 rfl) (by decide) (by decide) ?_
    exact ⟨rfl, c, hc, rfl, rfl⟩
  ·
    have h_ro : M 18 0 7 = nI x.1.1 := by rw [hP]; rfl
    have h_co : M 18 0 8 = nI x.1.2.1 := by rw [hP]; rfl
    have h_ce : M 18 0 9 = nI x.1.2.2 := by rw [hP]; rfl
    have h_bc : M 18 0 10 = nI x.2.2.2.2.1 := by rw [hP]; rfl
    have h_fr : M 18 0 11 = x.2.2.2.1 := by rw [hP]; rfl
    have h_he : M 18 1 = x.2.1 := by rw [hP]; rfl
    have h_gu : M 18 2 = x.2.2.1 := by rw [hP]; rfl
    have h_be : M 18 3 = be := by rw [hP]; rfl
    have h_nl : M 18 5 = x.2.2.2.2.2.1 := by rw [hP]; rfl
    have h_bh : M 18 6 = x.2.2.2.2.2.2.2.1 := by rw [hP]; rfl
    have h_fp : M 18 7 = x.2.2.2.2.2.2.1 := by rw [hP]; rfl
    have h_n0 : M 18 8 = x.2.2.2.2.2.2.2.2 0 := by rw [hP]; rfl
    have h_n1 : M 18 9 = x.2.2.2.2.2.2.2.2 1 := by rw [hP]; rfl
    have h_n2 : M 18 10 = x.2.2.2.2.2.2.2.2 2 := by rw [hP]; rfl
    have h_n3 : M 18 11 = x.2.2.2.2.2.2.2.2 3 := by rw [hP]; rfl
    have hn64 := (PIv_z hx).1
    
    refine r_aload_n E (dat dkX9_hydrantMinutes 0 rfl) rfl rfl ?_
    refine r_iload_n E (dat dkX9_hydrantMinutes 1 rfl) rfl rfl ?_
    refine r_callVX (κ := 8) (μ := []) E hnt (sp_X9_requireCell l hst G BP be nm x 18 a M hpn (Or.inr rfl) hP hx) my_X9_requireCell iv_X9_requireCell ml_X9_141 cm_id ⟨by decide, rfl, rfl⟩ rfl rfl rfl rfl (by decide) (Nat.le_of_ble_eq_true rfl) (dat dkX9_hydrantMinutes 2 rfl) (by decide) (by decide) (fun E M9 h => ⟨M, Mrg_z h.2.1, ⟨h.1, rfl, h.2.2⟩⟩) ?_
    rintro _ _ ⟨rfl, hM9, c, hc, rfl⟩
    refine ⟨_, Mrg_z hM9, ?_⟩
    clear hM9
    have hc64 : c < 64 := by omega
    refine r_aload_n E (dat dkX9_hydrantMinutes 3 rfl) rfl rfl ?_
    refine q_getl E fl_X9_26 (dat dkX9_hydrantMinutes 4 rfl) rfl rfl rfl ?_
    refine q_geta E fl_X9_164 (dat dkX9_hydrantMinutes 5 rfl) rfl rfl rfl ?_
    refine r_iload_n E (dat dkX9_hydrantMinutes 6 rfl) rfl rfl ?_
    refine q_iald E (dat dkX9_hydrantMinutes 7 rfl) rfl rfl (by decide) rfl rfl (by omega) ?_
    refine r_xq ?_
    refine r_ireturn E (dat dkX9_hydrantMinutes 8 rfl) (by decide) (by decide) ?_
    exact ⟨rfl, c, hc, rfl, rfl⟩

set_option maxRecDepth 100000 in
set_option maxHeartbeats 4000000 in
theorem sp_X9_gutterFlow (l : Launch) (hst : l.stackTraces = false) (G : GT) (BP : Nat → Nat → Int32) (be nm : Nat → Int32) (x : PP) (q : Nat) (a : Int32) (M : Mem) (hpn : (M 0 0 9).toNatClampNeg = q) (hq : q = 17 ∨ q = 18) (hP : M q = vPx BP be nm x) (hx : PIv x)  : MCx l G yX9_gutterFlow cX9_gutterFlow 2 (some .int) ({ frames := 7, cells := 4, slots := 24, locals := 103 } : Room) KC lkC [rv 0 0, iv a] (M) (fun r M2 => M2 = M ∧ ∃ c, c < x.1.2.2 ∧ a = nI c ∧ r = some (iv (imax (x.2.2.1 c - M 3 2 c) 0))) (fun E M2 => E = oobN ∧ M2 = M ∧ ¬ ∃ c, c < x.1.2.2 ∧ a = nI c) := by
  refine MCx.of RX9 [some (rv 0 0), some (iv a)] 0 (by decide +kernel) rfl rfl rfl ?_
  intro pp ee ss mm aa bb me cd ad E hnt
  rcases hq with rfl | rfl
  ·
    have h_ro : M 17 0 7 = nI x.1.1 := by rw [hP]; rfl
    have h_co : M 17 0 8 = nI x.1.2.1 := by rw [hP]; rfl
    have h_ce : M 17 0 9 = nI x.1.2.2 := by rw [hP]; rfl
    have h_bc : M 17 0 10 = nI x.2.2.2.2.1 := by rw [hP]; rfl
    have h_fr : M 17 0 11 = x.2.2.2.1 := by rw [hP]; rfl
    have h_he : M 17 1 = x.2.1 := by rw [hP]; rfl
    have h_gu : M 17 2 = x.2.2.1 := by rw [hP]; rfl
    have h_be : M 17 3 = be := by rw [hP]; rfl
    have h_nl : M 17 5 = x.2.2.2.2.2.1 := by rw [hP]; rfl
    have h_bh : M 17 6 = x.2.2.2.2.2.2.2.1 := by rw [hP]; rfl
    have h_fp : M 17 7 = x.2.2.2.2.2.2.1 := by rw [hP]; rfl
    have h_n0 : M 17 8 = x.2.2.2.2.2.2.2.2 0 := by rw [hP]; rfl
    have h_n1 : M 17 9 = x.2.2.2.2.2.2.2.2 1 := by rw [hP]; rfl
    have h_n2 : M 17 10 = x.2.2.2.2.2.2.2.2 2 := by rw [hP]; rfl
    have h_n3 : M 17 11 = x.2.2.2.2.2.2.2.2 3 := by rw [hP]; rfl
    have hn64 := (PIv_z hx).1
    
    refine r_aload_n E (dat dkX9_gutterFlow 0 rfl) rfl rfl ?_
    refine r_iload_n E (dat dkX9_gutterFlow 1 rfl) rfl rfl ?_
    refine r_callVX (κ := 8) (μ := []) E hnt (sp_X9_requireCell l hst G BP be nm x 17 a M hpn (Or.inl rfl) hP hx) my_X9_requireCell iv_X9_requireCell ml_X9_141 cm_id ⟨by decide, rfl, rfl⟩ rfl rfl rfl rfl (by decide) (Nat.le_of_ble_eq_true rfl) (dat dkX9_gutterFlow 2 rfl) (by decide) (by decide) (fun E M9 h => ⟨M, Mrg_z h.2.1, ⟨h.1, rfl, h.2.2⟩⟩) ?_
    rintro _ _ ⟨rfl, hM9, c, hc, rfl⟩
    refine ⟨_, Mrg_z hM9, ?_⟩
    clear hM9
    have hc64 : c < 64 := by omega
    refine r_aload_n E (dat dkX9_gutterFlow 3 rfl) rfl rfl ?_
    refine q_getl E fl_X9_26 (dat dkX9_gutterFlow 4 rfl) rfl rfl rfl ?_
    refine r_aload_n E (dat dkX9_gutterFlow 5 rfl) rfl rfl ?_
    refine q_getd E fl_X9_64 (dat dkX9_gutterFlow 6 rfl) rfl rfl rfl hpn ?_
    refine r_iload_n E (dat dkX9_gutterFlow 7 rfl) rfl rfl ?_
    refine r_callV (κ := 1) (μ := [3, 17]) E (sp_X5_flowIntoGutter l G (M 3) (M 3 0 7) (M 3 0 8) (M 3 0 9) (M 3 0 10) (M 3 0 11) (M 3 0 12) (M 3 0 13) (M 3 0 14) (M 3 1) (M 3 2) (M 3 3) (M 3 4) (M 3 5) (M 3 6) (M 3 7) BP (nI x.1.1) (nI x.1.2.1) x.1.2.2 (nI x.2.2.2.2.1) x.2.2.2.1 x.2.1 x.2.2.1 be nm x.2.2.2.2.2.1 x.2.2.2.2.2.2.2.1 x.2.2.2.2.2.2.1 (x.2.2.2.2.2.2.2.2 0) (x.2.2.2.2.2.2.2.2 1) (x.2.2.2.2.2.2.2.2 2) (x.2.2.2.2.2.2.2.2 3) c _ (evS (M 3)).symm hP hc64) my_X5_flowIntoGutter iv_X5_flowIntoGutter ml_X9_157 (cm_of rfl) ⟨by decide, rfl, rfl⟩ rfl rfl rfl rfl (by decide) (Nat.le_of_ble_eq_true rfl) (dat dkX9_gutterFlow 8 rfl) ?_
    rintro _ _ ⟨rfl, rfl⟩
    refine ⟨_, Mrg_z rfl, ?_⟩
    refine r_xq ?_
    refine r_ireturn E (dat dkX9_gutterFlow 9 rfl) (by decide) (by decide) ?_
    exact ⟨rfl, c, hc, rfl, rfl⟩
  ·
    have h_ro : M 18 0 7 = nI x.1.1 := by rw [hP]; rfl
    have h_co : M 18 0 8 = nI x.1.2.1 := by rw [hP]; rfl
    have h_ce : M 18 0 9 = nI x.1.2.2 := by rw [hP]; rfl
    have h_bc : M 18 0 10 = nI x.2.2.2.2.1 := by rw [hP]; rfl
    have h_fr : M 18 0 11 = x.2.2.2.1 := by rw [hP]; rfl
    have h_he : M 18 1 = x.2.1 := by rw [hP]; rfl
    have h_gu : M 18 2 = x.2.2.1 := by rw [hP]; rfl
    have h_be : M 18 3 = be := by rw [hP]; rfl
    have h_nl : M 18 5 = x.2.2.2.2.2.1 := by rw [hP]; rfl
    have h_bh : M 18 6 = x.2.2.2.2.2.2.2.1 := by rw [hP]; rfl
    have h_fp : M 18 7 = x.2.2.2.2.2.2.1 := by rw [hP]; rfl
    have h_n0 : M 18 8 = x.2.2.2.2.2.2.2.2 0 := by rw [hP]; rfl
    have h_n1 : M 18 9 = x.2.2.2.2.2.2.2.2 1 := by rw [hP]; rfl
    have h_n2 : M 18 10 = x.2.2.2.2.2.2.2.2 2 := by rw [hP]; rfl
    have h_n3 : M 18 11 = x.2.2.2.2.2.2.2.2 3 := by rw [hP]; rfl
    have hn64 := (PIv_z hx).1
    
    refine r_aload_n E (dat dkX9_gutterFlow 0 rfl) rfl rfl ?_
    refine r_iload_n E (dat dkX9_gutterFlow 1 rfl) rfl rfl ?_
    refine r_callVX (κ := 8) (μ := []) E hnt (sp_X9_requireCell l hst G BP be nm x 18 a M hpn (Or.inr rfl) hP hx) my_X9_requireCell iv_X9_requireCell ml_X9_141 cm_id ⟨by decide, rfl, rfl⟩ rfl rfl rfl rfl (by decide) (Nat.le_of_ble_eq_true rfl) (dat dkX9_gutterFlow 2 rfl) (by decide) (by decide) (fun E M9 h => ⟨M, Mrg_z h.2.1, ⟨h.1, rfl, h.2.2⟩⟩) ?_
    rintro _ _ ⟨rfl, hM9, c, hc, rfl⟩
    refine ⟨_, Mrg_z hM9, ?_⟩
    clear hM9
    have hc64 : c < 64 := by omega
    refine r_aload_n E (dat dkX9_gutterFlow 3 rfl) rfl rfl ?_
    refine q_getl E fl_X9_26 (dat dkX9_gutterFlow 4 rfl) rfl rfl rfl ?_
    refine r_aload_n E (dat dkX9_gutterFlow 5 rfl) rfl rfl ?_
    refine q_getd E fl_X9_64 (dat dkX9_gutterFlow 6 rfl) rfl rfl rfl hpn ?_
    refine r_iload_n E (dat dkX9_gutterFlow 7 rfl) rfl rfl ?_
    refine r_callV (κ := 1) (μ := [3, 18]) E (sp_X5_flowIntoGutter l G (M 3) (M 3 0 7) (M 3 0 8) (M 3 0 9) (M 3 0 10) (M 3 0 11) (M 3 0 12) (M 3 0 13) (M 3 0 14) (M 3 1) (M 3 2) (M 3 3) (M 3 4) (M 3 5) (M 3 6) (M 3 7) BP (nI x.1.1) (nI x.1.2.1) x.1.2.2 (nI x.2.2.2.2.1) x.2.2.2.1 x.2.1 x.2.2.1 be nm x.2.2.2.2.2.1 x.2.2.2.2.2.2.2.1 x.2.2.2.2.2.2.1 (x.2.2.2.2.2.2.2.2 0) (x.2.2.2.2.2.2.2.2 1) (x.2.2.2.2.2.2.2.2 2) (x.2.2.2.2.2.2.2.2 3) c _ (evS (M 3)).symm hP hc64) my_X5_flowIntoGutter iv_X5_flowIntoGutter ml_X9_157 (cm_of rfl) ⟨by decide, rfl, rfl⟩ rfl rfl rfl rfl (by decide) (Nat.le_of_ble_eq_true rfl) (dat dkX9_gutterFlow 8 rfl) ?_
    rintro _ _ ⟨rfl, rfl⟩
    refine ⟨_, Mrg_z rfl, ?_⟩
    refine r_xq ?_
    refine r_ireturn E (dat dkX9_gutterFlow 9 rfl) (by decide) (by decide) ?_
    exact ⟨rfl, c, hc, rfl, rfl⟩

set_option maxRecDepth 100000 in
set_option maxHeartbeats 4000000 in
theorem sp_X9_flowsTo (l : Launch) (hst : l.stackTraces = false) (G : GT) (BP : Nat → Nat → Int32) (be nm : Nat → Int32) (x : PP) (q : Nat) (a : Int32) (M : Mem) (hpn : (M 0 0 9).toNatClampNeg = q) (hq : q = 17 ∨ q = 18) (hP : M q = vPx BP be nm x) (hx : PIv x) (hbe : BEx be x) : MCx l G yX9_flowsTo cX9_flowsTo 3 (some .int) ({ frames := 7, cells := 4, slots := 24, locals := 103 } : Room) KC lkC [rv 0 0, iv a] (M) (fun r M2 => M2 = M ∧ ∃ c, c < x.1.2.2 ∧ a = nI c ∧ r = some (iv (if flO x.2.1 (M 3 1) c (loF (nbx x) (fun k => x.2.1 k + M 3 1 k) c 4) ≤ 0 then -1 else oI (loF (nbx x) (fun k => x.2.1 k + M 3 1 k) c 4)))) (fun E M2 => E = oobN ∧ M2 = M ∧ ¬ ∃ c, c < x.1.2.2 ∧ a = nI c) := by
  refine MCx.of RX9 [some (rv 0 0), some (iv a), none] 1 (by decide +kernel) rfl rfl rfl ?_
  intro pp ee ss mm aa bb me cd ad E hnt
  rcases hq with rfl | rfl
  ·
    have h_ro : M 17 0 7 = nI x.1.1 := by rw [hP]; rfl
    have h_co : M 17 0 8 = nI x.1.2.1 := by rw [hP]; rfl
    have h_ce : M 17 0 9 = nI x.1.2.2 := by rw [hP]; rfl
    have h_bc : M 17 0 10 = nI x.2.2.2.2.1 := by rw [hP]; rfl
    have h_fr : M 17 0 11 = x.2.2.2.1 := by rw [hP]; rfl
    have h_he : M 17 1 = x.2.1 := by rw [hP]; rfl
    have h_gu : M 17 2 = x.2.2.1 := by rw [hP]; rfl
    have h_be : M 17 3 = be := by rw [hP]; rfl
    have h_nl : M 17 5 = x.2.2.2.2.2.1 := by rw [hP]; rfl
    have h_bh : M 17 6 = x.2.2.2.2.2.2.2.1 := by rw [hP]; rfl
    have h_fp : M 17 7 = x.2.2.2.2.2.2.1 := by rw [hP]; rfl
    have h_n0 : M 17 8 = x.2.2.2.2.2.2.2.2 0 := by rw [hP]; rfl
    have h_n1 : M 17 9 = x.2.2.2.2.2.2.2.2 1 := by rw [hP]; rfl
    have h_n2 : M 17 10 = x.2.2.2.2.2.2.2.2 2 := by rw [hP]; rfl
    have h_n3 : M 17 11 = x.2.2.2.2.2.2.2.2 3 := by rw [hP]; rfl
    have hn64 := (PIv_z hx).1
    
    refine r_aload_n E (dat dkX9_flowsTo 0 rfl) rfl rfl ?_
    refine r_iload_n E (dat dkX9_flowsTo 1 rfl) rfl rfl ?_
    refine r_callVX (κ := 8) (μ := []) E hnt (sp_X9_requireCell l hst G BP be nm x 17 a M hpn (Or.inl rfl) hP hx) my_X9_requireCell iv_X9_requireCell ml_X9_141 cm_id ⟨by decide, rfl, rfl⟩ rfl rfl rfl rfl (by decide) (Nat.le_of_ble_eq_true rfl) (dat dkX9_flowsTo 2 rfl) (by decide) (by decide) (fun E M9 h => ⟨M, Mrg_z h.2.1, ⟨h.1, rfl, h.2.2⟩⟩) ?_
    rintro _ _ ⟨rfl, hM9, c, hc, rfl⟩
    refine ⟨_, Mrg_z hM9, ?_⟩
    clear hM9
    have hc64 : c < 64 := by omega
    refine r_aload_n E (dat dkX9_flowsTo 3 rfl) rfl rfl ?_
    refine q_getl E fl_X9_26 (dat dkX9_flowsTo 4 rfl) rfl rfl rfl ?_
    refine r_aload_n E (dat dkX9_flowsTo 5 rfl) rfl rfl ?_
    refine q_getd E fl_X9_64 (dat dkX9_flowsTo 6 rfl) rfl rfl rfl hpn ?_
    refine r_iload_n E (dat dkX9_flowsTo 7 rfl) rfl rfl ?_
    refine r_callV (κ := 1) (μ := [3, 17]) E (sp_X5_lowestBeside l G (M 3) (M 3 0 7) (M 3 0 8) (M 3 0 9) (M 3 0 10) (M 3 0 11) (M 3 0 12) (M 3 0 13) (M 3 0 14) (M 3 1) (M 3 2) (M 3 3) (M 3 4) (M 3 5) (M 3 6) (M 3 7) BP (nI x.1.1) (nI x.1.2.1) x.1.2.2 (nI x.2.2.2.2.1) x.2.2.2.1 x.2.1 x.2.2.1 be nm x.2.2.2.2.2.1 x.2.2.2.2.2.2.2.1 x.2.2.2.2.2.2.1 (x.2.2.2.2.2.2.2.2 0) (x.2.2.2.2.2.2.2.2 1) (x.2.2.2.2.2.2.2.2 2) (x.2.2.2.2.2.2.2.2 3) c (nbx x) hbe (nbx_lt hx) _ (evS (M 3)).symm hP hc hn64) my_X5_lowestBeside iv_X5_lowestBeside ml_X9_167 (cm_of rfl) ⟨by decide, rfl, rfl⟩ rfl rfl rfl rfl (by decide) (Nat.le_of_ble_eq_true rfl) (dat dkX9_flowsTo 8 rfl) ?_
    rintro _ _ ⟨rfl, rfl⟩
    refine ⟨_, Mrg_z rfl, ?_⟩
    refine r_istore_2 E (dat dkX9_flowsTo 9 rfl) rfl rfl ?_
    refine r_aload_n E (dat dkX9_flowsTo 10 rfl) rfl rfl ?_
    refine q_getl E fl_X9_26 (dat dkX9_flowsTo 11 rfl) rfl rfl rfl ?_
    refine r_aload_n E (dat dkX9_flowsTo 12 rfl) rfl rfl ?_
    refine q_getd E fl_X9_64 (dat dkX9_flowsTo 13 rfl) rfl rfl rfl hpn ?_
    refine r_iload_n E (dat dkX9_flowsTo 14 rfl) rfl rfl ?_
    refine r_iload_n E (dat dkX9_flowsTo 15 rfl) rfl rfl ?_
    refine r_callV (κ := 1) (μ := [3, 17]) E (sp_X5_flowBetween l G (M 3) (M 3 0 7) (M 3 0 8) (M 3 0 9) (M 3 0 10) (M 3 0 11) (M 3 0 12) (M 3 0 13) (M 3 0 14) (M 3 1) (M 3 2) (M 3 3) (M 3 4) (M 3 5) (M 3 6) (M 3 7) BP (nI x.1.1) (nI x.1.2.1) x.1.2.2 (nI x.2.2.2.2.1) x.2.2.2.1 x.2.1 x.2.2.1 be nm x.2.2.2.2.2.1 x.2.2.2.2.2.2.2.1 x.2.2.2.2.2.2.1 (x.2.2.2.2.2.2.2.2 0) (x.2.2.2.2.2.2.2.2 1) (x.2.2.2.2.2.2.2.2 2) (x.2.2.2.2.2.2.2.2 3) c (loF (nbx x) (fun k => x.2.1 k + M 3 1 k) c 4) _ (evS (M 3)).symm hP hc hn64 (loF_lt (nbx_lt hx c) 4)) my_X5_flowBetween iv_X5_flowBetween ml_X9_170 (cm_of rfl) ⟨by decide, rfl, rfl⟩ rfl rfl rfl rfl (by decide) (Nat.le_of_ble_eq_true rfl) (dat dkX9_flowsTo 16 rfl) ?_
    rintro _ _ ⟨rfl, rfl⟩
    refine ⟨_, Mrg_z rfl, ?_⟩
    refine r_if_le (tgt := 38) E (dat dkX9_flowsTo 17 rfl) rfl (fun h31 => ?_) (fun h31 => ?_)
    ·
      refine r_iconst (v := -1) E (dat dkX9_flowsTo 20 rfl) rfl ?_
      refine r_xq ?_
      refine r_ireturn E (dat dkX9_flowsTo 21 rfl) (by decide) (by decide) ?_
      refine ⟨rfl, c, hc, rfl, ?_⟩
      first
        | (rw [if_pos h31]; done)
        | (rw [if_neg h31]; done)
    ·
      refine r_iload_n E (dat dkX9_flowsTo 18 rfl) rfl rfl ?_
      refine r_goto (tgt := 39) E (dat dkX9_flowsTo 19 rfl) rfl ?_
      refine r_xq ?_
      refine r_ireturn E (dat dkX9_flowsTo 21 rfl) (by decide) (by decide) ?_
      refine ⟨rfl, c, hc, rfl, ?_⟩
      first
        | (rw [if_pos h31]; done)
        | (rw [if_neg h31]; done)
  ·
    have h_ro : M 18 0 7 = nI x.1.1 := by rw [hP]; rfl
    have h_co : M 18 0 8 = nI x.1.2.1 := by rw [hP]; rfl
    have h_ce : M 18 0 9 = nI x.1.2.2 := by rw [hP]; rfl
    have h_bc : M 18 0 10 = nI x.2.2.2.2.1 := by rw [hP]; rfl
    have h_fr : M 18 0 11 = x.2.2.2.1 := by rw [hP]; rfl
    have h_he : M 18 1 = x.2.1 := by rw [hP]; rfl
    have h_gu : M 18 2 = x.2.2.1 := by rw [hP]; rfl
    have h_be : M 18 3 = be := by rw [hP]; rfl
    have h_nl : M 18 5 = x.2.2.2.2.2.1 := by rw [hP]; rfl
    have h_bh : M 18 6 = x.2.2.2.2.2.2.2.1 := by rw [hP]; rfl
    have h_fp : M 18 7 = x.2.2.2.2.2.2.1 := by rw [hP]; rfl
    have h_n0 : M 18 8 = x.2.2.2.2.2.2.2.2 0 := by rw [hP]; rfl
    have h_n1 : M 18 9 = x.2.2.2.2.2.2.2.2 1 := by rw [hP]; rfl
    have h_n2 : M 18 10 = x.2.2.2.2.2.2.2.2 2 := by rw [hP]; rfl
    have h_n3 : M 18 11 = x.2.2.2.2.2.2.2.2 3 := by rw [hP]; rfl
    have hn64 := (PIv_z hx).1
    
    refine r_aload_n E (dat dkX9_flowsTo 0 rfl) rfl rfl ?_
    refine r_iload_n E (dat dkX9_flowsTo 1 rfl) rfl rfl ?_
    refine r_callVX (κ := 8) (μ := []) E hnt (sp_X9_requireCell l hst G BP be nm x 18 a M hpn (Or.inr rfl) hP hx) my_X9_requireCell iv_X9_requireCell ml_X9_141 cm_id ⟨by decide, rfl, rfl⟩ rfl rfl rfl rfl (by decide) (Nat.le_of_ble_eq_true rfl) (dat dkX9_flowsTo 2 rfl) (by decide) (by decide) (fun E M9 h => ⟨M, Mrg_z h.2.1, ⟨h.1, rfl, h.2.2⟩⟩) ?_
    rintro _ _ ⟨rfl, hM9, c, hc, rfl⟩
    refine ⟨_, Mrg_z hM9, ?_⟩
    clear hM9
    have hc64 : c < 64 := by omega
    refine r_aload_n E (dat dkX9_flowsTo 3 rfl) rfl rfl ?_
    refine q_getl E fl_X9_26 (dat dkX9_flowsTo 4 rfl) rfl rfl rfl ?_
    refine r_aload_n E (dat dkX9_flowsTo 5 rfl) rfl rfl ?_
    refine q_getd E fl_X9_64 (dat dkX9_flowsTo 6 rfl) rfl rfl rfl hpn ?_
    refine r_iload_n E (dat dkX9_flowsTo 7 rfl) rfl rfl ?_
    refine r_callV (κ := 1) (μ := [3, 18]) E (sp_X5_lowestBeside l G (M 3) (M 3 0 7) (M 3 0 8) (M 3 0 9) (M 3 0 10) (M 3 0 11) (M 3 0 12) (M 3 0 13) (M 3 0 14) (M 3 1) (M 3 2) (M 3 3) (M 3 4) (M 3 5) (M 3 6) (M 3 7) BP (nI x.1.1) (nI x.1.2.1) x.1.2.2 (nI x.2.2.2.2.1) x.2.2.2.1 x.2.1 x.2.2.1 be nm x.2.2.2.2.2.1 x.2.2.2.2.2.2.2.1 x.2.2.2.2.2.2.1 (x.2.2.2.2.2.2.2.2 0) (x.2.2.2.2.2.2.2.2 1) (x.2.2.2.2.2.2.2.2 2) (x.2.2.2.2.2.2.2.2 3) c (nbx x) hbe (nbx_lt hx) _ (evS (M 3)).symm hP hc hn64) my_X5_lowestBeside iv_X5_lowestBeside ml_X9_167 (cm_of rfl) ⟨by decide, rfl, rfl⟩ rfl rfl rfl rfl (by decide) (Nat.le_of_ble_eq_true rfl) (dat dkX9_flowsTo 8 rfl) ?_
    rintro _ _ ⟨rfl, rfl⟩
    refine ⟨_, Mrg_z rfl, ?_⟩
    refine r_istore_2 E (dat dkX9_flowsTo 9 rfl) rfl rfl ?_
    refine r_aload_n E (dat dkX9_flowsTo 10 rfl) rfl rfl ?_
    refine q_getl E fl_X9_26 (dat dkX9_flowsTo 11 rfl) rfl rfl rfl ?_
    refine r_aload_n E (dat dkX9_flowsTo 12 rfl) rfl rfl ?_
    refine q_getd E fl_X9_64 (dat dkX9_flowsTo 13 rfl) rfl rfl rfl hpn ?_
    refine r_iload_n E (dat dkX9_flowsTo 14 rfl) rfl rfl ?_
    refine r_iload_n E (dat dkX9_flowsTo 15 rfl) rfl rfl ?_
    refine r_callV (κ := 1) (μ := [3, 18]) E (sp_X5_flowBetween l G (M 3) (M 3 0 7) (M 3 0 8) (M 3 0 9) (M 3 0 10) (M 3 0 11) (M 3 0 12) (M 3 0 13) (M 3 0 14) (M 3 1) (M 3 2) (M 3 3) (M 3 4) (M 3 5) (M 3 6) (M 3 7) BP (nI x.1.1) (nI x.1.2.1) x.1.2.2 (nI x.2.2.2.2.1) x.2.2.2.1 x.2.1 x.2.2.1 be nm x.2.2.2.2.2.1 x.2.2.2.2.2.2.2.1 x.2.2.2.2.2.2.1 (x.2.2.2.2.2.2.2.2 0) (x.2.2.2.2.2.2.2.2 1) (x.2.2.2.2.2.2.2.2 2) (x.2.2.2.2.2.2.2.2 3) c (loF (nbx x) (fun k => x.2.1 k + M 3 1 k) c 4) _ (evS (M 3)).symm hP hc hn64 (loF_lt (nbx_lt hx c) 4)) my_X5_flowBetween iv_X5_flowBetween ml_X9_170 (cm_of rfl) ⟨by decide, rfl, rfl⟩ rfl rfl rfl rfl (by decide) (Nat.le_of_ble_eq_true rfl) (dat dkX9_flowsTo 16 rfl) ?_
    rintro _ _ ⟨rfl, rfl⟩
    refine ⟨_, Mrg_z rfl, ?_⟩
    refine r_if_le (tgt := 38) E (dat dkX9_flowsTo 17 rfl) rfl (fun h31 => ?_) (fun h31 => ?_)
    ·
      refine r_iconst (v := -1) E (dat dkX9_flowsTo 20 rfl) rfl ?_
      refine r_xq ?_
      refine r_ireturn E (dat dkX9_flowsTo 21 rfl) (by decide) (by decide) ?_
      refine ⟨rfl, c, hc, rfl, ?_⟩
      first
        | (rw [if_pos h31]; done)
        | (rw [if_neg h31]; done)
    ·
      refine r_iload_n E (dat dkX9_flowsTo 18 rfl) rfl rfl ?_
      refine r_goto (tgt := 39) E (dat dkX9_flowsTo 19 rfl) rfl ?_
      refine r_xq ?_
      refine r_ireturn E (dat dkX9_flowsTo 21 rfl) (by decide) (by decide) ?_
      refine ⟨rfl, c, hc, rfl, ?_⟩
      first
        | (rw [if_pos h31]; done)
        | (rw [if_neg h31]; done)

set_option maxRecDepth 100000 in
set_option maxHeartbeats 4000000 in
theorem sp_X9_flowFrom (l : Launch) (hst : l.stackTraces = false) (G : GT) (BP : Nat → Nat → Int32) (be nm : Nat → Int32) (x : PP) (q : Nat) (a : Int32) (M : Mem) (hpn : (M 0 0 9).toNatClampNeg = q) (hq : q = 17 ∨ q = 18) (hP : M q = vPx BP be nm x) (hx : PIv x) (hbe : BEx be x) : MCx l G yX9_flowFrom cX9_flowFrom 2 (some .int) ({ frames := 7, cells := 4, slots := 24, locals := 103 } : Room) KC lkC [rv 0 0, iv a] (M) (fun r M2 => M2 = M ∧ ∃ c, c < x.1.2.2 ∧ a = nI c ∧ r = some (iv (flO x.2.1 (M 3 1) c (loF (nbx x) (fun k => x.2.1 k + M 3 1 k) c 4)))) (fun E M2 => E = oobN ∧ M2 = M ∧ ¬ ∃ c, c < x.1.2.2 ∧ a = nI c) := by
  refine MCx.of RX9 [some (rv 0 0), some (iv a)] 0 (by decide +kernel) rfl rfl rfl ?_
  intro pp ee ss mm aa bb me cd ad E hnt
  rcases hq with rfl | rfl
  ·
    have h_ro : M 17 0 7 = nI x.1.1 := by rw [hP]; rfl
    have h_co : M 17 0 8 = nI x.1.2.1 := by rw [hP]; rfl
    have h_ce : M 17 0 9 = nI x.1.2.2 := by rw [hP]; rfl
    have h_bc : M 17 0 10 = nI x.2.2.2.2.1 := by rw [hP]; rfl
    have h_fr : M 17 0 11 = x.2.2.2.1 := by rw [hP]; rfl
    have h_he : M 17 1 = x.2.1 := by rw [hP]; rfl
    have h_gu : M 17 2 = x.2.2.1 := by rw [hP]; rfl
    have h_be : M 17 3 = be := by rw [hP]; rfl
    have h_nl : M 17 5 = x.2.2.2.2.2.1 := by rw [hP]; rfl
    have h_bh : M 17 6 = x.2.2.2.2.2.2.2.1 := by rw [hP]; rfl
    have h_fp : M 17 7 = x.2.2.2.2.2.2.1 := by rw [hP]; rfl
    have h_n0 : M 17 8 = x.2.2.2.2.2.2.2.2 0 := by rw [hP]; rfl
    have h_n1 : M 17 9 = x.2.2.2.2.2.2.2.2 1 := by rw [hP]; rfl
    have h_n2 : M 17 10 = x.2.2.2.2.2.2.2.2 2 := by rw [hP]; rfl
    have h_n3 : M 17 11 = x.2.2.2.2.2.2.2.2 3 := by rw [hP]; rfl
    have hn64 := (PIv_z hx).1
    
    refine r_aload_n E (dat dkX9_flowFrom 0 rfl) rfl rfl ?_
    refine r_iload_n E (dat dkX9_flowFrom 1 rfl) rfl rfl ?_
    refine r_callVX (κ := 8) (μ := []) E hnt (sp_X9_requireCell l hst G BP be nm x 17 a M hpn (Or.inl rfl) hP hx) my_X9_requireCell iv_X9_requireCell ml_X9_141 cm_id ⟨by decide, rfl, rfl⟩ rfl rfl rfl rfl (by decide) (Nat.le_of_ble_eq_true rfl) (dat dkX9_flowFrom 2 rfl) (by decide) (by decide) (fun E M9 h => ⟨M, Mrg_z h.2.1, ⟨h.1, rfl, h.2.2⟩⟩) ?_
    rintro _ _ ⟨rfl, hM9, c, hc, rfl⟩
    refine ⟨_, Mrg_z hM9, ?_⟩
    clear hM9
    have hc64 : c < 64 := by omega
    refine r_aload_n E (dat dkX9_flowFrom 3 rfl) rfl rfl ?_
    refine q_getl E fl_X9_26 (dat dkX9_flowFrom 4 rfl) rfl rfl rfl ?_
    refine r_aload_n E (dat dkX9_flowFrom 5 rfl) rfl rfl ?_
    refine q_getd E fl_X9_64 (dat dkX9_flowFrom 6 rfl) rfl rfl rfl hpn ?_
    refine r_iload_n E (dat dkX9_flowFrom 7 rfl) rfl rfl ?_
    refine r_aload_n E (dat dkX9_flowFrom 8 rfl) rfl rfl ?_
    refine q_getl E fl_X9_26 (dat dkX9_flowFrom 9 rfl) rfl rfl rfl ?_
    refine r_aload_n E (dat dkX9_flowFrom 10 rfl) rfl rfl ?_
    refine q_getd E fl_X9_64 (dat dkX9_flowFrom 11 rfl) rfl rfl rfl hpn ?_
    refine r_iload_n E (dat dkX9_flowFrom 12 rfl) rfl rfl ?_
    refine r_callV (κ := 1) (μ := [3, 17]) E (sp_X5_lowestBeside l G (M 3) (M 3 0 7) (M 3 0 8) (M 3 0 9) (M 3 0 10) (M 3 0 11) (M 3 0 12) (M 3 0 13) (M 3 0 14) (M 3 1) (M 3 2) (M 3 3) (M 3 4) (M 3 5) (M 3 6) (M 3 7) BP (nI x.1.1) (nI x.1.2.1) x.1.2.2 (nI x.2.2.2.2.1) x.2.2.2.1 x.2.1 x.2.2.1 be nm x.2.2.2.2.2.1 x.2.2.2.2.2.2.2.1 x.2.2.2.2.2.2.1 (x.2.2.2.2.2.2.2.2 0) (x.2.2.2.2.2.2.2.2 1) (x.2.2.2.2.2.2.2.2 2) (x.2.2.2.2.2.2.2.2 3) c (nbx x) hbe (nbx_lt hx) _ (evS (M 3)).symm hP hc hn64) my_X5_lowestBeside iv_X5_lowestBeside ml_X9_167 (cm_of rfl) ⟨by decide, rfl, rfl⟩ rfl rfl rfl rfl (by decide) (Nat.le_of_ble_eq_true rfl) (dat dkX9_flowFrom 13 rfl) ?_
    rintro _ _ ⟨rfl, rfl⟩
    refine ⟨_, Mrg_z rfl, ?_⟩
    refine r_callV (κ := 1) (μ := [3, 17]) E (sp_X5_flowBetween l G (M 3) (M 3 0 7) (M 3 0 8) (M 3 0 9) (M 3 0 10) (M 3 0 11) (M 3 0 12) (M 3 0 13) (M 3 0 14) (M 3 1) (M 3 2) (M 3 3) (M 3 4) (M 3 5) (M 3 6) (M 3 7) BP (nI x.1.1) (nI x.1.2.1) x.1.2.2 (nI x.2.2.2.2.1) x.2.2.2.1 x.2.1 x.2.2.1 be nm x.2.2.2.2.2.1 x.2.2.2.2.2.2.2.1 x.2.2.2.2.2.2.1 (x.2.2.2.2.2.2.2.2 0) (x.2.2.2.2.2.2.2.2 1) (x.2.2.2.2.2.2.2.2 2) (x.2.2.2.2.2.2.2.2 3) c (loF (nbx x) (fun k => x.2.1 k + M 3 1 k) c 4) _ (evS (M 3)).symm hP hc hn64 (loF_lt (nbx_lt hx c) 4)) my_X5_flowBetween iv_X5_flowBetween ml_X9_170 (cm_of rfl) ⟨by decide, rfl, rfl⟩ rfl rfl rfl rfl (by decide) (Nat.le_of_ble_eq_true rfl) (dat dkX9_flowFrom 14 rfl) ?_
    rintro _ _ ⟨rfl, rfl⟩
    refine ⟨_, Mrg_z rfl, ?_⟩
    refine r_xq ?_
    refine r_ireturn E (dat dkX9_flowFrom 15 rfl) (by decide) (by decide) ?_
    exact ⟨rfl, c, hc, rfl, rfl⟩
  ·
    have h_ro : M 18 0 7 = nI x.1.1 := by rw [hP]; rfl
    have h_co : M 18 0 8 = nI x.1.2.1 := by rw [hP]; rfl
    have h_ce : M 18 0 9 = nI x.1.2.2 := by rw [hP]; rfl
    have h_bc : M 18 0 10 = nI x.2.2.2.2.1 := by rw [hP]; rfl
    have h_fr : M 18 0 11 = x.2.2.2.1 := by rw [hP]; rfl
    have h_he : M 18 1 = x.2.1 := by rw [hP]; rfl
    have h_gu : M 18 2 = x.2.2.1 := by rw [hP]; rfl
    have h_be : M 18 3 = be := by rw [hP]; rfl
    have h_nl : M 18 5 = x.2.2.2.2.2.1 := by rw [hP]; rfl
    have h_bh : M 18 6 = x.2.2.2.2.2.2.2.1 := by rw [hP]; rfl
    have h_fp : M 18 7 = x.2.2.2.2.2.2.1 := by rw [hP]; rfl
    have h_n0 : M 18 8 = x.2.2.2.2.2.2.2.2 0 := by rw [hP]; rfl
    have h_n1 : M 18 9 = x.2.2.2.2.2.2.2.2 1 := by rw [hP]; rfl
    have h_n2 : M 18 10 = x.2.2.2.2.2.2.2.2 2 := by rw [hP]; rfl
    have h_n3 : M 18 11 = x.2.2.2.2.2.2.2.2 3 := by rw [hP]; rfl
    have hn64 := (PIv_z hx).1
    
    refine r_aload_n E (dat dkX9_flowFrom 0 rfl) rfl rfl ?_
    refine r_iload_n E (dat dkX9_flowFrom 1 rfl) rfl rfl ?_
    refine r_callVX (κ := 8) (μ := []) E hnt (sp_X9_requireCell l hst G BP be nm x 18 a M hpn (Or.inr rfl) hP hx) my_X9_requireCell iv_X9_requireCell ml_X9_141 cm_id ⟨by decide, rfl, rfl⟩ rfl rfl rfl rfl (by decide) (Nat.le_of_ble_eq_true rfl) (dat dkX9_flowFrom 2 rfl) (by decide) (by decide) (fun E M9 h => ⟨M, Mrg_z h.2.1, ⟨h.1, rfl, h.2.2⟩⟩) ?_
    rintro _ _ ⟨rfl, hM9, c, hc, rfl⟩
    refine ⟨_, Mrg_z hM9, ?_⟩
    clear hM9
    have hc64 : c < 64 := by omega
    refine r_aload_n E (dat dkX9_flowFrom 3 rfl) rfl rfl ?_
    refine q_getl E fl_X9_26 (dat dkX9_flowFrom 4 rfl) rfl rfl rfl ?_
    refine r_aload_n E (dat dkX9_flowFrom 5 rfl) rfl rfl ?_
    refine q_getd E fl_X9_64 (dat dkX9_flowFrom 6 rfl) rfl rfl rfl hpn ?_
    refine r_iload_n E (dat dkX9_flowFrom 7 rfl) rfl rfl ?_
    refine r_aload_n E (dat dkX9_flowFrom 8 rfl) rfl rfl ?_
    refine q_getl E fl_X9_26 (dat dkX9_flowFrom 9 rfl) rfl rfl rfl ?_
    refine r_aload_n E (dat dkX9_flowFrom 10 rfl) rfl rfl ?_
    refine q_getd E fl_X9_64 (dat dkX9_flowFrom 11 rfl) rfl rfl rfl hpn ?_
    refine r_iload_n E (dat dkX9_flowFrom 12 rfl) rfl rfl ?_
    refine r_callV (κ := 1) (μ := [3, 18]) E (sp_X5_lowestBeside l G (M 3) (M 3 0 7) (M 3 0 8) (M 3 0 9) (M 3 0 10) (M 3 0 11) (M 3 0 12) (M 3 0 13) (M 3 0 14) (M 3 1) (M 3 2) (M 3 3) (M 3 4) (M 3 5) (M 3 6) (M 3 7) BP (nI x.1.1) (nI x.1.2.1) x.1.2.2 (nI x.2.2.2.2.1) x.2.2.2.1 x.2.1 x.2.2.1 be nm x.2.2.2.2.2.1 x.2.2.2.2.2.2.2.1 x.2.2.2.2.2.2.1 (x.2.2.2.2.2.2.2.2 0) (x.2.2.2.2.2.2.2.2 1) (x.2.2.2.2.2.2.2.2 2) (x.2.2.2.2.2.2.2.2 3) c (nbx x) hbe (nbx_lt hx) _ (evS (M 3)).symm hP hc hn64) my_X5_lowestBeside iv_X5_lowestBeside ml_X9_167 (cm_of rfl) ⟨by decide, rfl, rfl⟩ rfl rfl rfl rfl (by decide) (Nat.le_of_ble_eq_true rfl) (dat dkX9_flowFrom 13 rfl) ?_
    rintro _ _ ⟨rfl, rfl⟩
    refine ⟨_, Mrg_z rfl, ?_⟩
    refine r_callV (κ := 1) (μ := [3, 18]) E (sp_X5_flowBetween l G (M 3) (M 3 0 7) (M 3 0 8) (M 3 0 9) (M 3 0 10) (M 3 0 11) (M 3 0 12) (M 3 0 13) (M 3 0 14) (M 3 1) (M 3 2) (M 3 3) (M 3 4) (M 3 5) (M 3 6) (M 3 7) BP (nI x.1.1) (nI x.1.2.1) x.1.2.2 (nI x.2.2.2.2.1) x.2.2.2.1 x.2.1 x.2.2.1 be nm x.2.2.2.2.2.1 x.2.2.2.2.2.2.2.1 x.2.2.2.2.2.2.1 (x.2.2.2.2.2.2.2.2 0) (x.2.2.2.2.2.2.2.2 1) (x.2.2.2.2.2.2.2.2 2) (x.2.2.2.2.2.2.2.2 3) c (loF (nbx x) (fun k => x.2.1 k + M 3 1 k) c 4) _ (evS (M 3)).symm hP hc hn64 (loF_lt (nbx_lt hx c) 4)) my_X5_flowBetween iv_X5_flowBetween ml_X9_170 (cm_of rfl) ⟨by decide, rfl, rfl⟩ rfl rfl rfl rfl (by decide) (Nat.le_of_ble_eq_true rfl) (dat dkX9_flowFrom 14 rfl) ?_
    rintro _ _ ⟨rfl, rfl⟩
    refine ⟨_, Mrg_z rfl, ?_⟩
    refine r_xq ?_
    refine r_ireturn E (dat dkX9_flowFrom 15 rfl) (by decide) (by decide) ?_
    exact ⟨rfl, c, hc, rfl, rfl⟩

set_option maxRecDepth 100000 in
set_option maxHeartbeats 4000000 in
theorem sp_X9_placeOf (l : Launch) (hst : l.stackTraces = false) (G : GT) (BP : Nat → Nat → Int32) (be nm : Nat → Int32) (x : PP) (q : Nat) (a : Int32) (M : Mem) (hpn : (M 0 0 9).toNatClampNeg = q) (hq : q = 17 ∨ q = 18) (hP : M q = vPx BP be nm x) (hx : PIv x)  : MCx l G yX9_placeOf cX9_placeOf 2 (some .int) ({ frames := 7, cells := 8, slots := 48, locals := 103 } : Room) KC lkC [rv 0 0, iv a] (M) (fun r M2 => M2 = M ∧ ∃ b, b < x.2.2.2.2.1 ∧ a = nI b ∧ r = some (iv (M 3 5 b))) (fun E M2 => E = oobN ∧ M2 = M ∧ ¬ ∃ c, c < x.2.2.2.2.1 ∧ a = nI c) := by
  refine MCx.of RX9 [some (rv 0 0), some (iv a)] 0 (by decide +kernel) rfl rfl rfl ?_
  intro pp ee ss mm aa bb me cd ad E hnt
  rcases hq with rfl | rfl
  ·
    have h_ro : M 17 0 7 = nI x.1.1 := by rw [hP]; rfl
    have h_co : M 17 0 8 = nI x.1.2.1 := by rw [hP]; rfl
    have h_ce : M 17 0 9 = nI x.1.2.2 := by rw [hP]; rfl
    have h_bc : M 17 0 10 = nI x.2.2.2.2.1 := by rw [hP]; rfl
    have h_fr : M 17 0 11 = x.2.2.2.1 := by rw [hP]; rfl
    have h_he : M 17 1 = x.2.1 := by rw [hP]; rfl
    have h_gu : M 17 2 = x.2.2.1 := by rw [hP]; rfl
    have h_be : M 17 3 = be := by rw [hP]; rfl
    have h_nl : M 17 5 = x.2.2.2.2.2.1 := by rw [hP]; rfl
    have h_bh : M 17 6 = x.2.2.2.2.2.2.2.1 := by rw [hP]; rfl
    have h_fp : M 17 7 = x.2.2.2.2.2.2.1 := by rw [hP]; rfl
    have h_n0 : M 17 8 = x.2.2.2.2.2.2.2.2 0 := by rw [hP]; rfl
    have h_n1 : M 17 9 = x.2.2.2.2.2.2.2.2 1 := by rw [hP]; rfl
    have h_n2 : M 17 10 = x.2.2.2.2.2.2.2.2 2 := by rw [hP]; rfl
    have h_n3 : M 17 11 = x.2.2.2.2.2.2.2.2 3 := by rw [hP]; rfl
    have hn64 := (PIv_z hx).1
    
    refine r_aload_n E (dat dkX9_placeOf 0 rfl) rfl rfl ?_
    refine r_iload_n E (dat dkX9_placeOf 1 rfl) rfl rfl ?_
    refine r_callVX (κ := 8) (μ := []) E hnt (sp_X9_requireBoots l hst G BP be nm x 17 a M hpn (Or.inl rfl) hP hx) my_X9_requireBoots iv_X9_requireBoots ml_X9_218 cm_id ⟨by decide, rfl, rfl⟩ rfl rfl rfl rfl (by decide) (Nat.le_of_ble_eq_true rfl) (dat dkX9_placeOf 2 rfl) (by decide) (by decide) (fun E M9 h => ⟨M, Mrg_z h.2.1, ⟨h.1, rfl, h.2.2⟩⟩) ?_
    rintro _ _ ⟨rfl, hM9, b, hb, rfl⟩
    refine ⟨_, Mrg_z hM9, ?_⟩
    clear hM9
    have hb4 := hx.2.2.2.2.1
    refine r_aload_n E (dat dkX9_placeOf 3 rfl) rfl rfl ?_
    refine q_getl E fl_X9_26 (dat dkX9_placeOf 4 rfl) rfl rfl rfl ?_
    refine q_geta E fl_X9_228 (dat dkX9_placeOf 5 rfl) rfl rfl rfl ?_
    refine r_iload_n E (dat dkX9_placeOf 6 rfl) rfl rfl ?_
    refine q_iald E (dat dkX9_placeOf 7 rfl) rfl rfl (by decide) rfl rfl (by omega) ?_
    refine r_xq ?_
    refine r_ireturn E (dat dkX9_placeOf 8 rfl) (by decide) (by decide) ?_
    exact ⟨rfl, b, hb, rfl, rfl⟩
  ·
    have h_ro : M 18 0 7 = nI x.1.1 := by rw [hP]; rfl
    have h_co : M 18 0 8 = nI x.1.2.1 := by rw [hP]; rfl
    have h_ce : M 18 0 9 = nI x.1.2.2 := by rw [hP]; rfl
    have h_bc : M 18 0 10 = nI x.2.2.2.2.1 := by rw [hP]; rfl
    have h_fr : M 18 0 11 = x.2.2.2.1 := by rw [hP]; rfl
    have h_he : M 18 1 = x.2.1 := by rw [hP]; rfl
    have h_gu : M 18 2 = x.2.2.1 := by rw [hP]; rfl
    have h_be : M 18 3 = be := by rw [hP]; rfl
    have h_nl : M 18 5 = x.2.2.2.2.2.1 := by rw [hP]; rfl
    have h_bh : M 18 6 = x.2.2.2.2.2.2.2.1 := by rw [hP]; rfl
    have h_fp : M 18 7 = x.2.2.2.2.2.2.1 := by rw [hP]; rfl
    have h_n0 : M 18 8 = x.2.2.2.2.2.2.2.2 0 := by rw [hP]; rfl
    have h_n1 : M 18 9 = x.2.2.2.2.2.2.2.2 1 := by rw [hP]; rfl
    have h_n2 : M 18 10 = x.2.2.2.2.2.2.2.2 2 := by rw [hP]; rfl
    have h_n3 : M 18 11 = x.2.2.2.2.2.2.2.2 3 := by rw [hP]; rfl
    have hn64 := (PIv_z hx).1
    
    refine r_aload_n E (dat dkX9_placeOf 0 rfl) rfl rfl ?_
    refine r_iload_n E (dat dkX9_placeOf 1 rfl) rfl rfl ?_
    refine r_callVX (κ := 8) (μ := []) E hnt (sp_X9_requireBoots l hst G BP be nm x 18 a M hpn (Or.inr rfl) hP hx) my_X9_requireBoots iv_X9_requireBoots ml_X9_218 cm_id ⟨by decide, rfl, rfl⟩ rfl rfl rfl rfl (by decide) (Nat.le_of_ble_eq_true rfl) (dat dkX9_placeOf 2 rfl) (by decide) (by decide) (fun E M9 h => ⟨M, Mrg_z h.2.1, ⟨h.1, rfl, h.2.2⟩⟩) ?_
    rintro _ _ ⟨rfl, hM9, b, hb, rfl⟩
    refine ⟨_, Mrg_z hM9, ?_⟩
    clear hM9
    have hb4 := hx.2.2.2.2.1
    refine r_aload_n E (dat dkX9_placeOf 3 rfl) rfl rfl ?_
    refine q_getl E fl_X9_26 (dat dkX9_placeOf 4 rfl) rfl rfl rfl ?_
    refine q_geta E fl_X9_228 (dat dkX9_placeOf 5 rfl) rfl rfl rfl ?_
    refine r_iload_n E (dat dkX9_placeOf 6 rfl) rfl rfl ?_
    refine q_iald E (dat dkX9_placeOf 7 rfl) rfl rfl (by decide) rfl rfl (by omega) ?_
    refine r_xq ?_
    refine r_ireturn E (dat dkX9_placeOf 8 rfl) (by decide) (by decide) ?_
    exact ⟨rfl, b, hb, rfl, rfl⟩

set_option maxRecDepth 100000 in
set_option maxHeartbeats 4000000 in
theorem sp_X9_splashesOf (l : Launch) (hst : l.stackTraces = false) (G : GT) (BP : Nat → Nat → Int32) (be nm : Nat → Int32) (x : PP) (q : Nat) (a : Int32) (M : Mem) (hpn : (M 0 0 9).toNatClampNeg = q) (hq : q = 17 ∨ q = 18) (hP : M q = vPx BP be nm x) (hx : PIv x)  : MCx l G yX9_splashesOf cX9_splashesOf 2 (some .int) ({ frames := 7, cells := 8, slots := 48, locals := 103 } : Room) KC lkC [rv 0 0, iv a] (M) (fun r M2 => M2 = M ∧ ∃ b, b < x.2.2.2.2.1 ∧ a = nI b ∧ r = some (iv (M 3 6 b))) (fun E M2 => E = oobN ∧ M2 = M ∧ ¬ ∃ c, c < x.2.2.2.2.1 ∧ a = nI c) := by
  refine MCx.of RX9 [some (rv 0 0), some (iv a)] 0 (by decide +kernel) rfl rfl rfl ?_
  intro pp ee ss mm aa bb me cd ad E hnt
  rcases hq with rfl | rfl
  ·
    have h_ro : M 17 0 7 = nI x.1.1 := by rw [hP]; rfl
    have h_co : M 17 0 8 = nI x.1.2.1 := by rw [hP]; rfl
    have h_ce : M 17 0 9 = nI x.1.2.2 := by rw [hP]; rfl
    have h_bc : M 17 0 10 = nI x.2.2.2.2.1 := by rw [hP]; rfl
    have h_fr : M 17 0 11 = x.2.2.2.1 := by rw [hP]; rfl
    have h_he : M 17 1 = x.2.1 := by rw [hP]; rfl
    have h_gu : M 17 2 = x.2.2.1 := by rw [hP]; rfl
    have h_be : M 17 3 = be := by rw [hP]; rfl
    have h_nl : M 17 5 = x.2.2.2.2.2.1 := by rw [hP]; rfl
    have h_bh : M 17 6 = x.2.2.2.2.2.2.2.1 := by rw [hP]; rfl
    have h_fp : M 17 7 = x.2.2.2.2.2.2.1 := by rw [hP]; rfl
    have h_n0 : M 17 8 = x.2.2.2.2.2.2.2.2 0 := by rw [hP]; rfl
    have h_n1 : M 17 9 = x.2.2.2.2.2.2.2.2 1 := by rw [hP]; rfl
    have h_n2 : M 17 10 = x.2.2.2.2.2.2.2.2 2 := by rw [hP]; rfl
    have h_n3 : M 17 11 = x.2.2.2.2.2.2.2.2 3 := by rw [hP]; rfl
    have hn64 := (PIv_z hx).1
    
    refine r_aload_n E (dat dkX9_splashesOf 0 rfl) rfl rfl ?_
    refine r_iload_n E (dat dkX9_splashesOf 1 rfl) rfl rfl ?_
    refine r_callVX (κ := 8) (μ := []) E hnt (sp_X9_requireBoots l hst G BP be nm x 17 a M hpn (Or.inl rfl) hP hx) my_X9_requireBoots iv_X9_requireBoots ml_X9_218 cm_id ⟨by decide, rfl, rfl⟩ rfl rfl rfl rfl (by decide) (Nat.le_of_ble_eq_true rfl) (dat dkX9_splashesOf 2 rfl) (by decide) (by decide) (fun E M9 h => ⟨M, Mrg_z h.2.1, ⟨h.1, rfl, h.2.2⟩⟩) ?_
    rintro _ _ ⟨rfl, hM9, b, hb, rfl⟩
    refine ⟨_, Mrg_z hM9, ?_⟩
    clear hM9
    have hb4 := hx.2.2.2.2.1
    refine r_aload_n E (dat dkX9_splashesOf 3 rfl) rfl rfl ?_
    refine q_getl E fl_X9_26 (dat dkX9_splashesOf 4 rfl) rfl rfl rfl ?_
    refine q_geta E fl_X9_238 (dat dkX9_splashesOf 5 rfl) rfl rfl rfl ?_
    refine r_iload_n E (dat dkX9_splashesOf 6 rfl) rfl rfl ?_
    refine q_iald E (dat dkX9_splashesOf 7 rfl) rfl rfl (by decide) rfl rfl (by omega) ?_
    refine r_xq ?_
    refine r_ireturn E (dat dkX9_splashesOf 8 rfl) (by decide) (by decide) ?_
    exact ⟨rfl, b, hb, rfl, rfl⟩
  ·
    have h_ro : M 18 0 7 = nI x.1.1 := by rw [hP]; rfl
    have h_co : M 18 0 8 = nI x.1.2.1 := by rw [hP]; rfl
    have h_ce : M 18 0 9 = nI x.1.2.2 := by rw [hP]; rfl
    have h_bc : M 18 0 10 = nI x.2.2.2.2.1 := by rw [hP]; rfl
    have h_fr : M 18 0 11 = x.2.2.2.1 := by rw [hP]; rfl
    have h_he : M 18 1 = x.2.1 := by rw [hP]; rfl
    have h_gu : M 18 2 = x.2.2.1 := by rw [hP]; rfl
    have h_be : M 18 3 = be := by rw [hP]; rfl
    have h_nl : M 18 5 = x.2.2.2.2.2.1 := by rw [hP]; rfl
    have h_bh : M 18 6 = x.2.2.2.2.2.2.2.1 := by rw [hP]; rfl
    have h_fp : M 18 7 = x.2.2.2.2.2.2.1 := by rw [hP]; rfl
    have h_n0 : M 18 8 = x.2.2.2.2.2.2.2.2 0 := by rw [hP]; rfl
    have h_n1 : M 18 9 = x.2.2.2.2.2.2.2.2 1 := by rw [hP]; rfl
    have h_n2 : M 18 10 = x.2.2.2.2.2.2.2.2 2 := by rw [hP]; rfl
    have h_n3 : M 18 11 = x.2.2.2.2.2.2.2.2 3 := by rw [hP]; rfl
    have hn64 := (PIv_z hx).1
    
    refine r_aload_n E (dat dkX9_splashesOf 0 rfl) rfl rfl ?_
    refine r_iload_n E (dat dkX9_splashesOf 1 rfl) rfl rfl ?_
    refine r_callVX (κ := 8) (μ := []) E hnt (sp_X9_requireBoots l hst G BP be nm x 18 a M hpn (Or.inr rfl) hP hx) my_X9_requireBoots iv_X9_requireBoots ml_X9_218 cm_id ⟨by decide, rfl, rfl⟩ rfl rfl rfl rfl (by decide) (Nat.le_of_ble_eq_true rfl) (dat dkX9_splashesOf 2 rfl) (by decide) (by decide) (fun E M9 h => ⟨M, Mrg_z h.2.1, ⟨h.1, rfl, h.2.2⟩⟩) ?_
    rintro _ _ ⟨rfl, hM9, b, hb, rfl⟩
    refine ⟨_, Mrg_z hM9, ?_⟩
    clear hM9
    have hb4 := hx.2.2.2.2.1
    refine r_aload_n E (dat dkX9_splashesOf 3 rfl) rfl rfl ?_
    refine q_getl E fl_X9_26 (dat dkX9_splashesOf 4 rfl) rfl rfl rfl ?_
    refine q_geta E fl_X9_238 (dat dkX9_splashesOf 5 rfl) rfl rfl rfl ?_
    refine r_iload_n E (dat dkX9_splashesOf 6 rfl) rfl rfl ?_
    refine q_iald E (dat dkX9_splashesOf 7 rfl) rfl rfl (by decide) rfl rfl (by omega) ?_
    refine r_xq ?_
    refine r_ireturn E (dat dkX9_splashesOf 8 rfl) (by decide) (by decide) ?_
    exact ⟨rfl, b, hb, rfl, rfl⟩

set_option maxRecDepth 100000 in
set_option maxHeartbeats 4000000 in
theorem sp_X9_isWet (l : Launch) (hst : l.stackTraces = false) (G : GT) (BP : Nat → Nat → Int32) (be nm : Nat → Int32) (x : PP) (q : Nat) (a : Int32) (M : Mem) (hpn : (M 0 0 9).toNatClampNeg = q) (hq : q = 17 ∨ q = 18) (hP : M q = vPx BP be nm x) (hx : PIv x) (hwt : ∀ i, i < 4 → narrow .boolean (.int (M 3 7 i)) = .int (M 3 7 i)) : MCx l G yX9_isWet cX9_isWet 2 (some .boolean) ({ frames := 7, cells := 8, slots := 48, locals := 103 } : Room) KC lkC [rv 0 0, iv a] (M) (fun r M2 => M2 = M ∧ ∃ b, b < x.2.2.2.2.1 ∧ a = nI b ∧ r = some (iv (M 3 7 b))) (fun E M2 => E = oobN ∧ M2 = M ∧ ¬ ∃ c, c < x.2.2.2.2.1 ∧ a = nI c) := by
  refine MCx.of RX9 [some (rv 0 0), some (iv a)] 0 (by decide +kernel) rfl rfl rfl ?_
  intro pp ee ss mm aa bb me cd ad E hnt
  rcases hq with rfl | rfl
  ·
    have h_ro : M 17 0 7 = nI x.1.1 := by rw [hP]; rfl
    have h_co : M 17 0 8 = nI x.1.2.1 := by rw [hP]; rfl
    have h_ce : M 17 0 9 = nI x.1.2.2 := by rw [hP]; rfl
    have h_bc : M 17 0 10 = nI x.2.2.2.2.1 := by rw [hP]; rfl
    have h_fr : M 17 0 11 = x.2.2.2.1 := by rw [hP]; rfl
    have h_he : M 17 1 = x.2.1 := by rw [hP]; rfl
    have h_gu : M 17 2 = x.2.2.1 := by rw [hP]; rfl
    have h_be : M 17 3 = be := by rw [hP]; rfl
    have h_nl : M 17 5 = x.2.2.2.2.2.1 := by rw [hP]; rfl
    have h_bh : M 17 6 = x.2.2.2.2.2.2.2.1 := by rw [hP]; rfl
    have h_fp : M 17 7 = x.2.2.2.2.2.2.1 := by rw [hP]; rfl
    have h_n0 : M 17 8 = x.2.2.2.2.2.2.2.2 0 := by rw [hP]; rfl
    have h_n1 : M 17 9 = x.2.2.2.2.2.2.2.2 1 := by rw [hP]; rfl
    have h_n2 : M 17 10 = x.2.2.2.2.2.2.2.2 2 := by rw [hP]; rfl
    have h_n3 : M 17 11 = x.2.2.2.2.2.2.2.2 3 := by rw [hP]; rfl
    have hn64 := (PIv_z hx).1
    
    refine r_aload_n E (dat dkX9_isWet 0 rfl) rfl rfl ?_
    refine r_iload_n E (dat dkX9_isWet 1 rfl) rfl rfl ?_
    refine r_callVX (κ := 8) (μ := []) E hnt (sp_X9_requireBoots l hst G BP be nm x 17 a M hpn (Or.inl rfl) hP hx) my_X9_requireBoots iv_X9_requireBoots ml_X9_218 cm_id ⟨by decide, rfl, rfl⟩ rfl rfl rfl rfl (by decide) (Nat.le_of_ble_eq_true rfl) (dat dkX9_isWet 2 rfl) (by decide) (by decide) (fun E M9 h => ⟨M, Mrg_z h.2.1, ⟨h.1, rfl, h.2.2⟩⟩) ?_
    rintro _ _ ⟨rfl, hM9, b, hb, rfl⟩
    refine ⟨_, Mrg_z hM9, ?_⟩
    clear hM9
    have hb4 := hx.2.2.2.2.1
    refine r_aload_n E (dat dkX9_isWet 3 rfl) rfl rfl ?_
    refine q_getl E fl_X9_26 (dat dkX9_isWet 4 rfl) rfl rfl rfl ?_
    refine q_geta E fl_X9_234 (dat dkX9_isWet 5 rfl) rfl rfl rfl ?_
    refine r_iload_n E (dat dkX9_isWet 6 rfl) rfl rfl ?_
    refine q_zald E (dat dkX9_isWet 7 rfl) rfl rfl (by decide) rfl rfl (by omega) ?_
    refine r_xq ?_
    refine r_zreturn E (dat dkX9_isWet 8 rfl) (hwt b (by omega)) (by decide) (by decide) ?_
    exact ⟨rfl, b, hb, rfl, rfl⟩
  ·
    have h_ro : M 18 0 7 = nI x.1.1 := by rw [hP]; rfl
    have h_co : M 18 0 8 = nI x.1.2.1 := by rw [hP]; rfl
    have h_ce : M 18 0 9 = nI x.1.2.2 := by rw [hP]; rfl
    have h_bc : M 18 0 10 = nI x.2.2.2.2.1 := by rw [hP]; rfl
    have h_fr : M 18 0 11 = x.2.2.2.1 := by rw [hP]; rfl
    have h_he : M 18 1 = x.2.1 := by rw [hP]; rfl
    have h_gu : M 18 2 = x.2.2.1 := by rw [hP]; rfl
    have h_be : M 18 3 = be := by rw [hP]; rfl
    have h_nl : M 18 5 = x.2.2.2.2.2.1 := by rw [hP]; rfl
    have h_bh : M 18 6 = x.2.2.2.2.2.2.2.1 := by rw [hP]; rfl
    have h_fp : M 18 7 = x.2.2.2.2.2.2.1 := by rw [hP]; rfl
    have h_n0 : M 18 8 = x.2.2.2.2.2.2.2.2 0 := by rw [hP]; rfl
    have h_n1 : M 18 9 = x.2.2.2.2.2.2.2.2 1 := by rw [hP]; rfl
    have h_n2 : M 18 10 = x.2.2.2.2.2.2.2.2 2 := by rw [hP]; rfl
    have h_n3 : M 18 11 = x.2.2.2.2.2.2.2.2 3 := by rw [hP]; rfl
    have hn64 := (PIv_z hx).1
    
    refine r_aload_n E (dat dkX9_isWet 0 rfl) rfl rfl ?_
    refine r_iload_n E (dat dkX9_isWet 1 rfl) rfl rfl ?_
    refine r_callVX (κ := 8) (μ := []) E hnt (sp_X9_requireBoots l hst G BP be nm x 18 a M hpn (Or.inr rfl) hP hx) my_X9_requireBoots iv_X9_requireBoots ml_X9_218 cm_id ⟨by decide, rfl, rfl⟩ rfl rfl rfl rfl (by decide) (Nat.le_of_ble_eq_true rfl) (dat dkX9_isWet 2 rfl) (by decide) (by decide) (fun E M9 h => ⟨M, Mrg_z h.2.1, ⟨h.1, rfl, h.2.2⟩⟩) ?_
    rintro _ _ ⟨rfl, hM9, b, hb, rfl⟩
    refine ⟨_, Mrg_z hM9, ?_⟩
    clear hM9
    have hb4 := hx.2.2.2.2.1
    refine r_aload_n E (dat dkX9_isWet 3 rfl) rfl rfl ?_
    refine q_getl E fl_X9_26 (dat dkX9_isWet 4 rfl) rfl rfl rfl ?_
    refine q_geta E fl_X9_234 (dat dkX9_isWet 5 rfl) rfl rfl rfl ?_
    refine r_iload_n E (dat dkX9_isWet 6 rfl) rfl rfl ?_
    refine q_zald E (dat dkX9_isWet 7 rfl) rfl rfl (by decide) rfl rfl (by omega) ?_
    refine r_xq ?_
    refine r_zreturn E (dat dkX9_isWet 8 rfl) (hwt b (by omega)) (by decide) (by decide) ?_
    exact ⟨rfl, b, hb, rfl, rfl⟩
