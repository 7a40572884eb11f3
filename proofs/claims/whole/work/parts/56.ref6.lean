/-! the reference's face: what it would throw, and its answers -/
def mt (M : Mem) (k : Int32) : Mem := setm M 0 (sett (M 0) 0 (upd (M 0 0) 6 k))
theorem Mrg_mt {N : Nat} {M M1 : Mem} {k : Int32} (hN : 0 < N) (h1 : M1 = mt (vw [] M) k) : Mrg N [] M M1 (mt M k) := Mrg_e (i := 0) (fun j _ h => h) hN rfl h1
def ckI (a b d : Int32) : Int32 := if a = 0 then 1 else if b = 0 then 2 else if d = 0 then 3 else 0
def icI (x : PP) (a : Int32) : Int32 := iwI a.toInt64 0 (nI x.1.2.2 - 1).toInt64
def ibI (x : PP) (a : Int32) : Int32 := iwI a.toInt64 0 (nI x.2.2.2.2.1 - 1).toInt64
theorem wI_any {a : Int32} {u : Nat} (hu2 : u < 2 ^ 20) : (iwI a.toInt64 0 (nI u - 1).toInt64 = 1 ∧ ∃ c, c < u ∧ a = nI c) ∨ (iwI a.toInt64 0 (nI u - 1).toInt64 = 0 ∧ ¬ ∃ c, c < u ∧ a = nI c) := by
  rw [show (0 : Int64) = (0 : Int32).toInt64 from rfl]
  by_cases h : ∃ c, c < u ∧ a = nI c
  · refine Or.inl ⟨?_, h⟩
    obtain ⟨c, hc, rfl⟩ := h
    rw [show nI u - 1 = nI (u - 1) from nI_sb (b := 1) (by omega)]
    exact iw_1 (Int32.not_lt.mp (nI_pos (by omega))) ((nI_leI (by omega) (by omega)).mpr (by omega))
  · refine Or.inr ⟨iw_0 (fun q => h ?_), h⟩
    rcases Nat.eq_zero_or_pos u with h0 | h0
    · subst h0
      exact absurd (Int32.le_trans q.1 q.2) (by decide)
    · rw [show nI u - 1 = nI (u - 1) from nI_sb (b := 1) h0] at q
      obtain ⟨j, hj, rfl⟩ := rg_ex (k := u - 1) (by omega) q.1 q.2
      exact ⟨j, by omega, rfl⟩
theorem ic_1 {x : PP} (hx : PIv x) {a : Int32} (h : okc x a) : icI x a = 1 := by
  rcases wI_any (a := a) (u := x.1.2.2) (by have := (PIv_z hx).1; omega) with q | q
  · exact q.1
  · exact absurd h q.2
theorem ic_0 {x : PP} (hx : PIv x) {a : Int32} (h : ¬ okc x a) : icI x a = 0 := by
  rcases wI_any (a := a) (u := x.1.2.2) (by have := (PIv_z hx).1; omega) with q | q
  · exact absurd q.2 h
  · exact q.1
theorem ib_1 {x : PP} (hx : PIv x) {a : Int32} (h : okb4 x a) : ibI x a = 1 := by
  rcases wI_any (a := a) (u := x.2.2.2.2.1) (by have := hx.2.2.2.2.1; omega) with q | q
  · exact q.1
  · exact absurd h q.2
theorem ib_0 {x : PP} (hx : PIv x) {a : Int32} (h : ¬ okb4 x a) : ibI x a = 0 := by
  rcases wI_any (a := a) (u := x.2.2.2.2.1) (by have := hx.2.2.2.2.1; omega) with q | q
  · exact absurd q.2 h
  · exact q.1
set_option maxRecDepth 100000 in
set_option maxHeartbeats 4000000 in
theorem sp_X10_check (l : Launch) (G : GT) (a b d : Int32) (M : Mem)  : MC l G yX10_check cX10_check 4 (some .boolean) ({ frames := 0, cells := 0, slots := 0, locals := 0 } : Room) [9] lk0 [rv 0 0, iv a, iv b, iv d] (M) (fun r M2 => r = some (iv (if ckI a b d = 0 then 1 else 0)) ∧ M2 = mt M (ckI a b d)) := by
  refine MC.of RX10 [some (rv 0 0), some (iv a), some (iv b), some (iv d)] 0 (by decide +kernel) rfl rfl rfl ?_
  intro pp ee ss mm aa bb me cd ad E
  refine r_aload_n E (dat dkX10_check 0 rfl) rfl rfl ?_
  refine r_iload_n E (dat dkX10_check 1 rfl) rfl rfl ?_
  refine r_if_ne (tgt := 9) E (dat dkX10_check 2 rfl) rfl (fun h2 => ?_) (fun h2 => ?_)
  ·
    refine r_iload_n E (dat dkX10_check 5 rfl) rfl rfl ?_
    refine r_if_ne (tgt := 17) E (dat dkX10_check 6 rfl) rfl (fun h10 => ?_) (fun h10 => ?_)
    ·
      refine r_iload_n E (dat dkX10_check 9 rfl) rfl rfl ?_
      refine r_if_ne (tgt := 25) E (dat dkX10_check 10 rfl) rfl (fun h18 => ?_) (fun h18 => ?_)
      ·
        refine r_iconst (v := 0) E (dat dkX10_check 13 rfl) rfl ?_
        refine q_putn E ft_X10_67 (dat dkX10_check 14 rfl) rfl rfl rfl rfl ?_
        refine r_aload_n E (dat dkX10_check 15 rfl) rfl rfl ?_
        refine q_getn E fl_X10_67 (dat dkX10_check 16 rfl) rfl rfl rfl rfl ?_
        refine r_if_ne (tgt := 40) E (dat dkX10_check 17 rfl) rfl (fun h33 => ?_) (fun h33 => ?_)
        ·
          refine r_iconst (v := 0) E (dat dkX10_check 20 rfl) rfl ?_
          refine r_zreturn E (dat dkX10_check 21 rfl) rfl (by decide) (by decide) ?_
          first
            | exact absurd (show (1 : Int32) = 0 from h33) (by decide)
            | exact absurd (show (2 : Int32) = 0 from h33) (by decide)
            | exact absurd (show (3 : Int32) = 0 from h33) (by decide)
            | exact absurd (show (0 : Int32) = 0 from rfl) h33
            | (rw [show ckI a b d = 1 from if_pos h2]; exact ⟨rfl, rfl⟩)
            | (rw [show ckI a b d = 2 from (if_neg h2).trans (if_pos h10)]; exact ⟨rfl, rfl⟩)
            | (rw [show ckI a b d = 3 from (if_neg h2).trans ((if_neg h10).trans (if_pos h18))]; exact ⟨rfl, rfl⟩)
            | (rw [show ckI a b d = 0 from (if_neg h2).trans ((if_neg h10).trans (if_neg h18))]; exact ⟨rfl, rfl⟩)
        ·
          refine r_iconst (v := 1) E (dat dkX10_check 18 rfl) rfl ?_
          refine r_goto (tgt := 41) E (dat dkX10_check 19 rfl) rfl ?_
          refine r_zreturn E (dat dkX10_check 21 rfl) rfl (by decide) (by decide) ?_
          first
            | exact absurd (show (1 : Int32) = 0 from h33) (by decide)
            | exact absurd (show (2 : Int32) = 0 from h33) (by decide)
            | exact absurd (show (3 : Int32) = 0 from h33) (by decide)
            | exact absurd (show (0 : Int32) = 0 from rfl) h33
            | (rw [show ckI a b d = 1 from if_pos h2]; exact ⟨rfl, rfl⟩)
            | (rw [show ckI a b d = 2 from (if_neg h2).trans (if_pos h10)]; exact ⟨rfl, rfl⟩)
            | (rw [show ckI a b d = 3 from (if_neg h2).trans ((if_neg h10).trans (if_pos h18))]; exact ⟨rfl, rfl⟩)
            | (rw [show ckI a b d = 0 from (if_neg h2).trans ((if_neg h10).trans (if_neg h18))]; exact ⟨rfl, rfl⟩)
      ·
        refine r_iconst (v := 3) E (dat dkX10_check 11 rfl) rfl ?_
        refine r_goto (tgt := 26) E (dat dkX10_check 12 rfl) rfl ?_
        refine q_putn E ft_X10_67 (dat dkX10_check 14 rfl) rfl rfl rfl rfl ?_
        refine r_aload_n E (dat dkX10_check 15 rfl) rfl rfl ?_
        refine q_getn E fl_X10_67 (dat dkX10_check 16 rfl) rfl rfl rfl rfl ?_
        refine r_if_ne (tgt := 40) E (dat dkX10_check 17 rfl) rfl (fun h33 => ?_) (fun h33 => ?_)
        ·
          refine r_iconst (v := 0) E (dat dkX10_check 20 rfl) rfl ?_
          refine r_zreturn E (dat dkX10_check 21 rfl) rfl (by decide) (by decide) ?_
          first
            | exact absurd (show (1 : Int32) = 0 from h33) (by decide)
            | exact absurd (show (2 : Int32) = 0 from h33) (by decide)
            | exact absurd (show (3 : Int32) = 0 from h33) (by decide)
            | exact absurd (show (0 : Int32) = 0 from rfl) h33
            | (rw [show ckI a b d = 1 from if_pos h2]; exact ⟨rfl, rfl⟩)
            | (rw [show ckI a b d = 2 from (if_neg h2).trans (if_pos h10)]; exact ⟨rfl, rfl⟩)
            | (rw [show ckI a b d = 3 from (if_neg h2).trans ((if_neg h10).trans (if_pos h18))]; exact ⟨rfl, rfl⟩)
            | (rw [show ckI a b d = 0 from (if_neg h2).trans ((if_neg h10).trans (if_neg h18))]; exact ⟨rfl, rfl⟩)
        ·
          refine r_iconst (v := 1) E (dat dkX10_check 18 rfl) rfl ?_
          refine r_goto (tgt := 41) E (dat dkX10_check 19 rfl) rfl ?_
          refine r_zreturn E (dat dkX10_check 21 rfl) rfl (by decide) (by decide) ?_
          first
            | exact absurd (show (1 : Int32) = 0 from h33) (by decide)
            | exact absurd (show (2 : Int32) = 0 from h33) (by decide)
            | exact absurd (show (3 : Int32) = 0 from h33) (by decide)
            | exact absurd (show (0 : Int32) = 0 from rfl) h33
            | (rw [show ckI a b d = 1 from if_pos h2]; exact ⟨rfl, rfl⟩)
            | (rw [show ckI a b d = 2 from (if_neg h2).trans (if_pos h10)]; exact ⟨rfl, rfl⟩)
            | (rw [show ckI a b d = 3 from (if_neg h2).trans ((if_neg h10).trans (if_pos h18))]; exact ⟨rfl, rfl⟩)
            | (rw [show ckI a b d = 0 from (if_neg h2).trans ((if_neg h10).trans (if_neg h18))]; exact ⟨rfl, rfl⟩)
    ·
      refine r_iconst (v := 2) E (dat dkX10_check 7 rfl) rfl ?_
      refine r_goto (tgt := 26) E (dat dkX10_check 8 rfl) rfl ?_
      refine q_putn E ft_X10_67 (dat dkX10_check 14 rfl) rfl rfl rfl rfl ?_
      refine r_aload_n E (dat dkX10_check 15 rfl) rfl rfl ?_
      refine q_getn E fl_X10_67 (dat dkX10_check 16 rfl) rfl rfl rfl rfl ?_
      refine r_if_ne (tgt := 40) E (dat dkX10_check 17 rfl) rfl (fun h33 => ?_) (fun h33 => ?_)
      ·
        refine r_iconst (v := 0) E (dat dkX10_check 20 rfl) rfl ?_
        refine r_zreturn E (dat dkX10_check 21 rfl) rfl (by decide) (by decide) ?_
        first
          | exact absurd (show (1 : Int32) = 0 from h33) (by decide)
          | exact absurd (show (2 : Int32) = 0 from h33) (by decide)
          | exact absurd (show (3 : Int32) = 0 from h33) (by decide)
          | exact absurd (show (0 : Int32) = 0 from rfl) h33
          | (rw [show ckI a b d = 1 from if_pos h2]; exact ⟨rfl, rfl⟩)
          | (rw [show ckI a b d = 2 from (if_neg h2).trans (if_pos h10)]; exact ⟨rfl, rfl⟩)
          | (rw [show ckI a b d = 3 from (if_neg h2).trans ((if_neg h10).trans (if_pos h18))]; exact ⟨rfl, rfl⟩)
          | (rw [show ckI a b d = 0 from (if_neg h2).trans ((if_neg h10).trans (if_neg h18))]; exact ⟨rfl, rfl⟩)
      ·
        refine r_iconst (v := 1) E (dat dkX10_check 18 rfl) rfl ?_
        refine r_goto (tgt := 41) E (dat dkX10_check 19 rfl) rfl ?_
        refine r_zreturn E (dat dkX10_check 21 rfl) rfl (by decide) (by decide) ?_
        first
          | exact absurd (show (1 : Int32) = 0 from h33) (by decide)
          | exact absurd (show (2 : Int32) = 0 from h33) (by decide)
          | exact absurd (show (3 : Int32) = 0 from h33) (by decide)
          | exact absurd (show (0 : Int32) = 0 from rfl) h33
          | (rw [show ckI a b d = 1 from if_pos h2]; exact ⟨rfl, rfl⟩)
          | (rw [show ckI a b d = 2 from (if_neg h2).trans (if_pos h10)]; exact ⟨rfl, rfl⟩)
          | (rw [show ckI a b d = 3 from (if_neg h2).trans ((if_neg h10).trans (if_pos h18))]; exact ⟨rfl, rfl⟩)
          | (rw [show ckI a b d = 0 from (if_neg h2).trans ((if_neg h10).trans (if_neg h18))]; exact ⟨rfl, rfl⟩)
  ·
    refine r_iconst (v := 1) E (dat dkX10_check 3 rfl) rfl ?_
    refine r_goto (tgt := 26) E (dat dkX10_check 4 rfl) rfl ?_
    refine q_putn E ft_X10_67 (dat dkX10_check 14 rfl) rfl rfl rfl rfl ?_
    refine r_aload_n E (dat dkX10_check 15 rfl) rfl rfl ?_
    refine q_getn E fl_X10_67 (dat dkX10_check 16 rfl) rfl rfl rfl rfl ?_
    refine r_if_ne (tgt := 40) E (dat dkX10_check 17 rfl) rfl (fun h33 => ?_) (fun h33 => ?_)
    ·
      refine r_iconst (v := 0) E (dat dkX10_check 20 rfl) rfl ?_
      refine r_zreturn E (dat dkX10_check 21 rfl) rfl (by decide) (by decide) ?_
      first
        | exact absurd (show (1 : Int32) = 0 from h33) (by decide)
        | exact absurd (show (2 : Int32) = 0 from h33) (by decide)
        | exact absurd (show (3 : Int32) = 0 from h33) (by decide)
        | exact absurd (show (0 : Int32) = 0 from rfl) h33
        | (rw [show ckI a b d = 1 from if_pos h2]; exact ⟨rfl, rfl⟩)
        | (rw [show ckI a b d = 2 from (if_neg h2).trans (if_pos h10)]; exact ⟨rfl, rfl⟩)
        | (rw [show ckI a b d = 3 from (if_neg h2).trans ((if_neg h10).trans (if_pos h18))]; exact ⟨rfl, rfl⟩)
        | (rw [show ckI a b d = 0 from (if_neg h2).trans ((if_neg h10).trans (if_neg h18))]; exact ⟨rfl, rfl⟩)
    ·
      refine r_iconst (v := 1) E (dat dkX10_check 18 rfl) rfl ?_
      refine r_goto (tgt := 41) E (dat dkX10_check 19 rfl) rfl ?_
      refine r_zreturn E (dat dkX10_check 21 rfl) rfl (by decide) (by decide) ?_
      first
        | exact absurd (show (1 : Int32) = 0 from h33) (by decide)
        | exact absurd (show (2 : Int32) = 0 from h33) (by decide)
        | exact absurd (show (3 : Int32) = 0 from h33) (by decide)
        | exact absurd (show (0 : Int32) = 0 from rfl) h33
        | (rw [show ckI a b d = 1 from if_pos h2]; exact ⟨rfl, rfl⟩)
        | (rw [show ckI a b d = 2 from (if_neg h2).trans (if_pos h10)]; exact ⟨rfl, rfl⟩)
        | (rw [show ckI a b d = 3 from (if_neg h2).trans ((if_neg h10).trans (if_pos h18))]; exact ⟨rfl, rfl⟩)
        | (rw [show ckI a b d = 0 from (if_neg h2).trans ((if_neg h10).trans (if_neg h18))]; exact ⟨rfl, rfl⟩)

set_option maxRecDepth 100000 in
set_option maxHeartbeats 4000000 in
theorem sp_X10_isCell (l : Launch) (G : GT) (A0 : Nat → Int32) (x : PP) (T : Nat → Nat → Int32) (a : Int32) (M : Mem) (hA : M 0 1 = enc A0 x T) (hx : PIv x)  : MC l G yX10_isCell cX10_isCell 2 (some .boolean) ({ frames := 1, cells := 0, slots := 0, locals := 25 } : Room) [9] lk0 [rv 0 0, iv a] (M) (fun r M2 => r = some (iv (icI x a)) ∧ M2 = M) := by
  refine MC.of RX10 [some (rv 0 0), some (iv a)] 0 (by decide +kernel) rfl rfl rfl ?_
  intro pp ee ss mm aa bb me cd ad E
  obtain ⟨M0, rfl⟩ : ∃ M0, M = md M0 (enc A0 x T) := ⟨M, (md_of hA).symm⟩
  clear hA
  have hn64 := (PIv_z hx).1
  
  refine r_iload_n E (dat dkX10_isCell 0 rfl) rfl rfl ?_
  refine r_i2l E (dat dkX10_isCell 1 rfl) ?_
  refine r_lconst E (dat dkX10_isCell 2 rfl) rfl ?_
  refine r_aload_n E (dat dkX10_isCell 3 rfl) rfl rfl ?_
  refine r_callV (κ := 9) (μ := []) E (sp_X10_cells l G _ _ md_a) my_X10_cells iv_X10_cells ml_X10_115 cm_id ⟨by decide, rfl, rfl⟩ rfl rfl rfl rfl (by decide) (Nat.le_of_ble_eq_true rfl) (dat dkX10_isCell 4 rfl) ?_
  rintro _ _ ⟨rfl, rfl⟩
  refine ⟨_, Mrg_z rfl, ?_⟩
  rw [ce_x hx]
  refine r_iconst (v := 1) E (dat dkX10_isCell 5 rfl) rfl ?_
  refine r_isub E (dat dkX10_isCell 6 rfl) ?_
  refine r_i2l E (dat dkX10_isCell 7 rfl) ?_
  refine r_callS (μ := []) E (sp_X10_isWithin l G a.toInt64 0 (nI x.1.2.2 - 1).toInt64 _) my_X10_isWithin is_X10_isWithin ml_X10_80 cm_nil rfl rfl (by decide) (Nat.le_of_ble_eq_true rfl) (dat dkX10_isCell 8 rfl) ?_
  rintro _ _ ⟨rfl, hM⟩
  refine ⟨_, Mrg_z hM, ?_⟩
  clear hM
  refine r_zreturn E (dat dkX10_isCell 9 rfl) iw_b (by decide) (by decide) ?_
  exact ⟨rfl, rfl⟩

set_option maxRecDepth 100000 in
set_option maxHeartbeats 4000000 in
theorem sp_X10_isBoots (l : Launch) (G : GT) (A0 : Nat → Int32) (x : PP) (T : Nat → Nat → Int32) (a : Int32) (M : Mem) (hA : M 0 1 = enc A0 x T) (hx : PIv x)  : MC l G yX10_isBoots cX10_isBoots 2 (some .boolean) ({ frames := 1, cells := 0, slots := 0, locals := 25 } : Room) [9] lk0 [rv 0 0, iv a] (M) (fun r M2 => r = some (iv (ibI x a)) ∧ M2 = M) := by
  refine MC.of RX10 [some (rv 0 0), some (iv a)] 0 (by decide +kernel) rfl rfl rfl ?_
  intro pp ee ss mm aa bb me cd ad E
  obtain ⟨M0, rfl⟩ : ∃ M0, M = md M0 (enc A0 x T) := ⟨M, (md_of hA).symm⟩
  clear hA
  have hn64 := (PIv_z hx).1
  
  refine r_iload_n E (dat dkX10_isBoots 0 rfl) rfl rfl ?_
  refine r_i2l E (dat dkX10_isBoots 1 rfl) ?_
  refine r_lconst E (dat dkX10_isBoots 2 rfl) rfl ?_
  refine r_aload_n E (dat dkX10_isBoots 3 rfl) rfl rfl ?_
  refine q_geta E fl_X10_9 (dat dkX10_isBoots 4 rfl) rfl rfl rfl ?_
  refine r_iconst (v := 4) E (dat dkX10_isBoots 5 rfl) rfl ?_
  refine q_iald E (dat dkX10_isBoots 6 rfl) rfl rfl (by decide) md_a (show _ = nI 4 from rfl) (by omega) ?_
  refine r_iconst (v := 1) E (dat dkX10_isBoots 7 rfl) rfl ?_
  refine r_isub E (dat dkX10_isBoots 8 rfl) ?_
  refine r_i2l E (dat dkX10_isBoots 9 rfl) ?_
  refine r_callS (μ := []) E (sp_X10_isWithin l G a.toInt64 0 (nI x.2.2.2.2.1 - 1).toInt64 _) my_X10_isWithin is_X10_isWithin ml_X10_80 cm_nil rfl rfl (by decide) (Nat.le_of_ble_eq_true rfl) (dat dkX10_isBoots 10 rfl) ?_
  rintro _ _ ⟨rfl, hM⟩
  refine ⟨_, Mrg_z hM, ?_⟩
  clear hM
  refine r_zreturn E (dat dkX10_isBoots 11 rfl) iw_b (by decide) (by decide) ?_
  exact ⟨rfl, rfl⟩

set_option maxRecDepth 100000 in
set_option maxHeartbeats 4000000 in
theorem sp_X10_checkCell (l : Launch) (G : GT) (A0 : Nat → Int32) (x : PP) (T : Nat → Nat → Int32) (a : Int32) (M : Mem) (hA : M 0 1 = enc A0 x T) (hx : PIv x)  : MC l G yX10_checkCell cX10_checkCell 2 (some .boolean) ({ frames := 2, cells := 0, slots := 0, locals := 46 } : Room) [9] lk0 [rv 0 0, iv a] (M) (fun r M2 => r = some (iv (if ckI (icI x a) 1 1 = 0 then 1 else 0)) ∧ M2 = mt M (ckI (icI x a) 1 1)) := by
  refine MC.of RX10 [some (rv 0 0), some (iv a)] 0 (by decide +kernel) rfl rfl rfl ?_
  intro pp ee ss mm aa bb me cd ad E
  obtain ⟨M0, rfl⟩ : ∃ M0, M = md M0 (enc A0 x T) := ⟨M, (md_of hA).symm⟩
  clear hA
  have hn64 := (PIv_z hx).1
  
  refine r_aload_n E (dat dkX10_checkCell 0 rfl) rfl rfl ?_
  refine r_aload_n E (dat dkX10_checkCell 1 rfl) rfl rfl ?_
  refine r_iload_n E (dat dkX10_checkCell 2 rfl) rfl rfl ?_
  refine r_callV (κ := 9) (μ := []) E (sp_X10_isCell l G A0 x T a _ md_a hx) my_X10_isCell iv_X10_isCell ml_X10_326 cm_id ⟨by decide, rfl, rfl⟩ rfl rfl rfl rfl (by decide) (Nat.le_of_ble_eq_true rfl) (dat dkX10_checkCell 3 rfl) ?_
  rintro _ _ ⟨rfl, rfl⟩
  refine ⟨_, Mrg_z rfl, ?_⟩
  refine r_iconst (v := 1) E (dat dkX10_checkCell 4 rfl) rfl ?_
  refine r_iconst (v := 1) E (dat dkX10_checkCell 5 rfl) rfl ?_
  refine r_callV (κ := 9) (μ := []) E (sp_X10_check l G (icI x a) (1) (1) _) my_X10_check iv_X10_check ml_X10_329 cm_id ⟨by decide, rfl, rfl⟩ rfl rfl rfl rfl (by decide) (Nat.le_of_ble_eq_true rfl) (dat dkX10_checkCell 6 rfl) ?_
  rintro _ _ ⟨rfl, rfl⟩
  refine ⟨_, Mrg_mt (by decide) rfl, ?_⟩
  refine r_zreturn E (dat dkX10_checkCell 7 rfl) (by split <;> rfl) (by decide) (by decide) ?_
  exact ⟨rfl, rfl⟩

set_option maxRecDepth 100000 in
set_option maxHeartbeats 4000000 in
theorem sp_X10_checkBoots (l : Launch) (G : GT) (A0 : Nat → Int32) (x : PP) (T : Nat → Nat → Int32) (a : Int32) (M : Mem) (hA : M 0 1 = enc A0 x T) (hx : PIv x)  : MC l G yX10_checkBoots cX10_checkBoots 2 (some .boolean) ({ frames := 2, cells := 0, slots := 0, locals := 46 } : Room) [9] lk0 [rv 0 0, iv a] (M) (fun r M2 => r = some (iv (if ckI (ibI x a) 1 1 = 0 then 1 else 0)) ∧ M2 = mt M (ckI (ibI x a) 1 1)) := by
  refine MC.of RX10 [some (rv 0 0), some (iv a)] 0 (by decide +kernel) rfl rfl rfl ?_
  intro pp ee ss mm aa bb me cd ad E
  obtain ⟨M0, rfl⟩ : ∃ M0, M = md M0 (enc A0 x T) := ⟨M, (md_of hA).symm⟩
  clear hA
  have hn64 := (PIv_z hx).1
  
  refine r_aload_n E (dat dkX10_checkBoots 0 rfl) rfl rfl ?_
  refine r_aload_n E (dat dkX10_checkBoots 1 rfl) rfl rfl ?_
  refine r_iload_n E (dat dkX10_checkBoots 2 rfl) rfl rfl ?_
  refine r_callV (κ := 9) (μ := []) E (sp_X10_isBoots l G A0 x T a _ md_a hx) my_X10_isBoots iv_X10_isBoots ml_X10_369 cm_id ⟨by decide, rfl, rfl⟩ rfl rfl rfl rfl (by decide) (Nat.le_of_ble_eq_true rfl) (dat dkX10_checkBoots 3 rfl) ?_
  rintro _ _ ⟨rfl, rfl⟩
  refine ⟨_, Mrg_z rfl, ?_⟩
  refine r_iconst (v := 1) E (dat dkX10_checkBoots 4 rfl) rfl ?_
  refine r_iconst (v := 1) E (dat dkX10_checkBoots 5 rfl) rfl ?_
  refine r_callV (κ := 9) (μ := []) E (sp_X10_check l G (ibI x a) (1) (1) _) my_X10_check iv_X10_check ml_X10_329 cm_id ⟨by decide, rfl, rfl⟩ rfl rfl rfl rfl (by decide) (Nat.le_of_ble_eq_true rfl) (dat dkX10_checkBoots 6 rfl) ?_
  rintro _ _ ⟨rfl, rfl⟩
  refine ⟨_, Mrg_mt (by decide) rfl, ?_⟩
  refine r_zreturn E (dat dkX10_checkBoots 7 rfl) (by split <;> rfl) (by decide) (by decide) ?_
  exact ⟨rfl, rfl⟩

set_option maxRecDepth 100000 in
set_option maxHeartbeats 4000000 in
theorem sp_X10_levelOf (l : Launch) (G : GT) (A0 : Nat → Int32) (x : PP) (T : Nat → Nat → Int32) (a : Int32) (M : Mem) (hA : M 0 1 = enc A0 x T) (hx : PIv x)  : MC l G yX10_levelOf cX10_levelOf 2 (some .int) ({ frames := 3, cells := 0, slots := 0, locals := 67 } : Room) [9] lk0 [rv 0 0, iv a] (M) (fun r M2 => (∃ c, c < x.1.2.2 ∧ a = nI c ∧ M2 = mt M 0 ∧ r = some (iv (x.2.1 c + T 1 c))) ∨ (¬ okc x a ∧ M2 = mt M 1 ∧ r = some (iv (0)))) := by
  refine MC.of RX10 [some (rv 0 0), some (iv a)] 0 (by decide +kernel) rfl rfl rfl ?_
  intro pp ee ss mm aa bb me cd ad E
  obtain ⟨M0, rfl⟩ : ∃ M0, M = md M0 (enc A0 x T) := ⟨M, (md_of hA).symm⟩
  clear hA
  have hn64 := (PIv_z hx).1
  
  by_cases hk : okc x a
  ·
    obtain ⟨c, hc, rfl⟩ := hk
    refine r_aload_n E (dat dkX10_levelOf 0 rfl) rfl rfl ?_
    refine r_iload_n E (dat dkX10_levelOf 1 rfl) rfl rfl ?_
    refine r_callV (κ := 9) (μ := []) E (sp_X10_checkCell l G A0 x T (nI c) _ md_a hx) my_X10_checkCell iv_X10_checkCell ml_X10_333 cm_id ⟨by decide, rfl, rfl⟩ rfl rfl rfl rfl (by decide) (Nat.le_of_ble_eq_true rfl) (dat dkX10_levelOf 2 rfl) ?_
    rintro _ _ ⟨rfl, rfl⟩
    refine ⟨_, Mrg_mt (by decide) rfl, ?_⟩
    rw [ic_1 hx ⟨c, hc, rfl⟩, show ckI 1 1 1 = 0 from rfl, if_pos rfl]
    refine r_if_eq (tgt := 16) E (dat dkX10_levelOf 3 rfl) rfl (fun h5 => ?_) (fun h5 => ?_)
    ·
      exact absurd h5 (by decide)
    ·
      refine r_aload_n E (dat dkX10_levelOf 4 rfl) rfl rfl ?_
      refine r_iload_n E (dat dkX10_levelOf 5 rfl) rfl rfl ?_
      refine r_callV (κ := 9) (μ := []) E (sp_X10_level l G A0 x T c _ rfl hx hc) my_X10_level iv_X10_level ml_X10_87 cm_id ⟨by decide, rfl, rfl⟩ rfl rfl rfl rfl (by decide) (Nat.le_of_ble_eq_true rfl) (dat dkX10_levelOf 6 rfl) ?_
      rintro _ _ ⟨rfl, rfl⟩
      refine ⟨_, Mrg_z rfl, ?_⟩
      refine r_goto (tgt := 17) E (dat dkX10_levelOf 7 rfl) rfl ?_
      refine r_ireturn E (dat dkX10_levelOf 9 rfl) (by decide) (by decide) ?_
      exact Or.inl ⟨c, hc, rfl, rfl, rfl⟩
  ·
    refine r_aload_n E (dat dkX10_levelOf 0 rfl) rfl rfl ?_
    refine r_iload_n E (dat dkX10_levelOf 1 rfl) rfl rfl ?_
    refine r_callV (κ := 9) (μ := []) E (sp_X10_checkCell l G A0 x T a _ md_a hx) my_X10_checkCell iv_X10_checkCell ml_X10_333 cm_id ⟨by decide, rfl, rfl⟩ rfl rfl rfl rfl (by decide) (Nat.le_of_ble_eq_true rfl) (dat dkX10_levelOf 2 rfl) ?_
    rintro _ _ ⟨rfl, rfl⟩
    refine ⟨_, Mrg_mt (by decide) rfl, ?_⟩
    rw [ic_0 hx hk, show ckI 0 1 1 = 1 from rfl, if_neg (by decide)]
    refine r_if_eq (tgt := 16) E (dat dkX10_levelOf 3 rfl) rfl (fun h5 => ?_) (fun h5 => ?_)
    ·
      refine r_iconst (v := 0) E (dat dkX10_levelOf 8 rfl) rfl ?_
      refine r_ireturn E (dat dkX10_levelOf 9 rfl) (by decide) (by decide) ?_
      exact Or.inr ⟨hk, rfl, rfl⟩
    ·
      exact absurd rfl h5

set_option maxRecDepth 100000 in
set_option maxHeartbeats 4000000 in
theorem sp_X10_gutterFlow (l : Launch) (G : GT) (A0 : Nat → Int32) (x : PP) (T : Nat → Nat → Int32) (a : Int32) (M : Mem) (hA : M 0 1 = enc A0 x T) (hx : PIv x)  : MC l G yX10_gutterFlow cX10_gutterFlow 2 (some .int) ({ frames := 3, cells := 0, slots := 0, locals := 67 } : Room) [9] lk0 [rv 0 0, iv a] (M) (fun r M2 => (∃ c, c < x.1.2.2 ∧ a = nI c ∧ M2 = mt M 0 ∧ r = some (iv (imax (x.2.2.1 c - T 2 c) 0))) ∨ (¬ okc x a ∧ M2 = mt M 1 ∧ r = some (iv (0)))) := by
  refine MC.of RX10 [some (rv 0 0), some (iv a)] 0 (by decide +kernel) rfl rfl rfl ?_
  intro pp ee ss mm aa bb me cd ad E
  obtain ⟨M0, rfl⟩ : ∃ M0, M = md M0 (enc A0 x T) := ⟨M, (md_of hA).symm⟩
  clear hA
  have hn64 := (PIv_z hx).1
  
  by_cases hk : okc x a
  ·
    obtain ⟨c, hc, rfl⟩ := hk
    refine r_aload_n E (dat dkX10_gutterFlow 0 rfl) rfl rfl ?_
    refine r_iload_n E (dat dkX10_gutterFlow 1 rfl) rfl rfl ?_
    refine r_callV (κ := 9) (μ := []) E (sp_X10_checkCell l G A0 x T (nI c) _ md_a hx) my_X10_checkCell iv_X10_checkCell ml_X10_333 cm_id ⟨by decide, rfl, rfl⟩ rfl rfl rfl rfl (by decide) (Nat.le_of_ble_eq_true rfl) (dat dkX10_gutterFlow 2 rfl) ?_
    rintro _ _ ⟨rfl, rfl⟩
    refine ⟨_, Mrg_mt (by decide) rfl, ?_⟩
    rw [ic_1 hx ⟨c, hc, rfl⟩, show ckI 1 1 1 = 0 from rfl, if_pos rfl]
    refine r_if_eq (tgt := 16) E (dat dkX10_gutterFlow 3 rfl) rfl (fun h5 => ?_) (fun h5 => ?_)
    ·
      exact absurd h5 (by decide)
    ·
      refine r_aload_n E (dat dkX10_gutterFlow 4 rfl) rfl rfl ?_
      refine r_iload_n E (dat dkX10_gutterFlow 5 rfl) rfl rfl ?_
      refine r_callV (κ := 9) (μ := []) E (sp_X10_gutter l G A0 x T c _ rfl hx hc) my_X10_gutter iv_X10_gutter ml_X10_108 cm_id ⟨by decide, rfl, rfl⟩ rfl rfl rfl rfl (by decide) (Nat.le_of_ble_eq_true rfl) (dat dkX10_gutterFlow 6 rfl) ?_
      rintro _ _ ⟨rfl, rfl⟩
      refine ⟨_, Mrg_z rfl, ?_⟩
      refine r_goto (tgt := 17) E (dat dkX10_gutterFlow 7 rfl) rfl ?_
      refine r_ireturn E (dat dkX10_gutterFlow 9 rfl) (by decide) (by decide) ?_
      exact Or.inl ⟨c, hc, rfl, rfl, rfl⟩
  ·
    refine r_aload_n E (dat dkX10_gutterFlow 0 rfl) rfl rfl ?_
    refine r_iload_n E (dat dkX10_gutterFlow 1 rfl) rfl rfl ?_
    refine r_callV (κ := 9) (μ := []) E (sp_X10_checkCell l G A0 x T a _ md_a hx) my_X10_checkCell iv_X10_checkCell ml_X10_333 cm_id ⟨by decide, rfl, rfl⟩ rfl rfl rfl rfl (by decide) (Nat.le_of_ble_eq_true rfl) (dat dkX10_gutterFlow 2 rfl) ?_
    rintro _ _ ⟨rfl, rfl⟩
    refine ⟨_, Mrg_mt (by decide) rfl, ?_⟩
    rw [ic_0 hx hk, show ckI 0 1 1 = 1 from rfl, if_neg (by decide)]
    refine r_if_eq (tgt := 16) E (dat dkX10_gutterFlow 3 rfl) rfl (fun h5 => ?_) (fun h5 => ?_)
    ·
      refine r_iconst (v := 0) E (dat dkX10_gutterFlow 8 rfl) rfl ?_
      refine r_ireturn E (dat dkX10_gutterFlow 9 rfl) (by decide) (by decide) ?_
      exact Or.inr ⟨hk, rfl, rfl⟩
    ·
      exact absurd rfl h5

set_option maxRecDepth 100000 in
set_option maxHeartbeats 4000000 in
theorem sp_X10_flowFrom (l : Launch) (G : GT) (A0 : Nat → Int32) (x : PP) (T : Nat → Nat → Int32) (a : Int32) (M : Mem) (hA : M 0 1 = enc A0 x T) (hx : PIv x) (hv : PVi x) : MC l G yX10_flowFrom cX10_flowFrom 2 (some .int) ({ frames := 5, cells := 0, slots := 0, locals := 109 } : Room) [9] lk0 [rv 0 0, iv a] (M) (fun r M2 => (∃ c, c < x.1.2.2 ∧ a = nI c ∧ M2 = mt M 0 ∧ r = some (iv (flO x.2.1 (T 1) c (loF (nbx x) (fun k => x.2.1 k + T 1 k) c 4)))) ∨ (¬ okc x a ∧ M2 = mt M 1 ∧ r = some (iv (0)))) := by
  refine MC.of RX10 [some (rv 0 0), some (iv a)] 0 (by decide +kernel) rfl rfl rfl ?_
  intro pp ee ss mm aa bb me cd ad E
  obtain ⟨M0, rfl⟩ : ∃ M0, M = md M0 (enc A0 x T) := ⟨M, (md_of hA).symm⟩
  clear hA
  have hn64 := (PIv_z hx).1
  
  by_cases hk : okc x a
  ·
    obtain ⟨c, hc, rfl⟩ := hk
    refine r_aload_n E (dat dkX10_flowFrom 0 rfl) rfl rfl ?_
    refine r_iload_n E (dat dkX10_flowFrom 1 rfl) rfl rfl ?_
    refine r_callV (κ := 9) (μ := []) E (sp_X10_checkCell l G A0 x T (nI c) _ md_a hx) my_X10_checkCell iv_X10_checkCell ml_X10_333 cm_id ⟨by decide, rfl, rfl⟩ rfl rfl rfl rfl (by decide) (Nat.le_of_ble_eq_true rfl) (dat dkX10_flowFrom 2 rfl) ?_
    rintro _ _ ⟨rfl, rfl⟩
    refine ⟨_, Mrg_mt (by decide) rfl, ?_⟩
    rw [ic_1 hx ⟨c, hc, rfl⟩, show ckI 1 1 1 = 0 from rfl, if_pos rfl]
    refine r_if_eq (tgt := 16) E (dat dkX10_flowFrom 3 rfl) rfl (fun h5 => ?_) (fun h5 => ?_)
    ·
      exact absurd h5 (by decide)
    ·
      refine r_aload_n E (dat dkX10_flowFrom 4 rfl) rfl rfl ?_
      refine r_iload_n E (dat dkX10_flowFrom 5 rfl) rfl rfl ?_
      refine r_callV (κ := 9) (μ := []) E (sp_X10_flow l G A0 x T c _ rfl hx hc hv) my_X10_flow iv_X10_flow ml_X10_105 cm_id ⟨by decide, rfl, rfl⟩ rfl rfl rfl rfl (by decide) (Nat.le_of_ble_eq_true rfl) (dat dkX10_flowFrom 6 rfl) ?_
      rintro _ _ ⟨rfl, rfl⟩
      refine ⟨_, Mrg_z rfl, ?_⟩
      refine r_goto (tgt := 17) E (dat dkX10_flowFrom 7 rfl) rfl ?_
      refine r_ireturn E (dat dkX10_flowFrom 9 rfl) (by decide) (by decide) ?_
      exact Or.inl ⟨c, hc, rfl, rfl, rfl⟩
  ·
    refine r_aload_n E (dat dkX10_flowFrom 0 rfl) rfl rfl ?_
    refine r_iload_n E (dat dkX10_flowFrom 1 rfl) rfl rfl ?_
    refine r_callV (κ := 9) (μ := []) E (sp_X10_checkCell l G A0 x T a _ md_a hx) my_X10_checkCell iv_X10_checkCell ml_X10_333 cm_id ⟨by decide, rfl, rfl⟩ rfl rfl rfl rfl (by decide) (Nat.le_of_ble_eq_true rfl) (dat dkX10_flowFrom 2 rfl) ?_
    rintro _ _ ⟨rfl, rfl⟩
    refine ⟨_, Mrg_mt (by decide) rfl, ?_⟩
    rw [ic_0 hx hk, show ckI 0 1 1 = 1 from rfl, if_neg (by decide)]
    refine r_if_eq (tgt := 16) E (dat dkX10_flowFrom 3 rfl) rfl (fun h5 => ?_) (fun h5 => ?_)
    ·
      refine r_iconst (v := 0) E (dat dkX10_flowFrom 8 rfl) rfl ?_
      refine r_ireturn E (dat dkX10_flowFrom 9 rfl) (by decide) (by decide) ?_
      exact Or.inr ⟨hk, rfl, rfl⟩
    ·
      exact absurd rfl h5

set_option maxRecDepth 100000 in
set_option maxHeartbeats 4000000 in
theorem sp_X10_flowsTo (l : Launch) (G : GT) (A0 : Nat → Int32) (x : PP) (T : Nat → Nat → Int32) (a : Int32) (M : Mem) (hA : M 0 1 = enc A0 x T) (hx : PIv x) (hv : PVi x) : MC l G yX10_flowsTo cX10_flowsTo 2 (some .int) ({ frames := 5, cells := 0, slots := 0, locals := 109 } : Room) [9] lk0 [rv 0 0, iv a] (M) (fun r M2 => (∃ c, c < x.1.2.2 ∧ a = nI c ∧ M2 = mt M 0 ∧ r = some (iv (if flO x.2.1 (T 1) c (loF (nbx x) (fun k => x.2.1 k + T 1 k) c 4) ≤ 0 then -1 else oI (loF (nbx x) (fun k => x.2.1 k + T 1 k) c 4)))) ∨ (¬ okc x a ∧ M2 = mt M 1 ∧ r = some (iv (0)))) := by
  refine MC.of RX10 [some (rv 0 0), some (iv a)] 0 (by decide +kernel) rfl rfl rfl ?_
  intro pp ee ss mm aa bb me cd ad E
  obtain ⟨M0, rfl⟩ : ∃ M0, M = md M0 (enc A0 x T) := ⟨M, (md_of hA).symm⟩
  clear hA
  have hn64 := (PIv_z hx).1
  
  by_cases hk : okc x a
  ·
    obtain ⟨c, hc, rfl⟩ := hk
    refine r_aload_n E (dat dkX10_flowsTo 0 rfl) rfl rfl ?_
    refine r_iload_n E (dat dkX10_flowsTo 1 rfl) rfl rfl ?_
    refine r_callV (κ := 9) (μ := []) E (sp_X10_checkCell l G A0 x T (nI c) _ md_a hx) my_X10_checkCell iv_X10_checkCell ml_X10_333 cm_id ⟨by decide, rfl, rfl⟩ rfl rfl rfl rfl (by decide) (Nat.le_of_ble_eq_true rfl) (dat dkX10_flowsTo 2 rfl) ?_
    rintro _ _ ⟨rfl, rfl⟩
    refine ⟨_, Mrg_mt (by decide) rfl, ?_⟩
    rw [ic_1 hx ⟨c, hc, rfl⟩, show ckI 1 1 1 = 0 from rfl, if_pos rfl]
    refine r_if_ne (tgt := 10) E (dat dkX10_flowsTo 3 rfl) rfl (fun h5 => ?_) (fun h5 => ?_)
    ·
      refine r_aload_n E (dat dkX10_flowsTo 6 rfl) rfl rfl ?_
      refine r_iload_n E (dat dkX10_flowsTo 7 rfl) rfl rfl ?_
      refine r_callV (κ := 9) (μ := []) E (sp_X10_flow l G A0 x T c _ rfl hx hc hv) my_X10_flow iv_X10_flow ml_X10_105 cm_id ⟨by decide, rfl, rfl⟩ rfl rfl rfl rfl (by decide) (Nat.le_of_ble_eq_true rfl) (dat dkX10_flowsTo 8 rfl) ?_
      rintro _ _ ⟨rfl, rfl⟩
      refine ⟨_, Mrg_z rfl, ?_⟩
      refine r_if_le (tgt := 26) E (dat dkX10_flowsTo 9 rfl) rfl (fun h15 => ?_) (fun h15 => ?_)
      ·
        refine r_iconst (v := -1) E (dat dkX10_flowsTo 14 rfl) rfl ?_
        refine r_ireturn E (dat dkX10_flowsTo 15 rfl) (by decide) (by decide) ?_
        refine Or.inl ⟨c, hc, rfl, rfl, ?_⟩
        first
          | (rw [if_pos h15]; done)
          | (rw [if_neg (by first | exact h15 | exact Int32.not_le.mpr h15)]; done)
      ·
        refine r_aload_n E (dat dkX10_flowsTo 10 rfl) rfl rfl ?_
        refine r_iload_n E (dat dkX10_flowsTo 11 rfl) rfl rfl ?_
        refine r_callV (κ := 9) (μ := []) E (sp_X10_lowest l G A0 x T c _ rfl hx hc) my_X10_lowest iv_X10_lowest ml_X10_90 cm_id ⟨by decide, rfl, rfl⟩ rfl rfl rfl rfl (by decide) (Nat.le_of_ble_eq_true rfl) (dat dkX10_flowsTo 12 rfl) ?_
        rintro _ _ ⟨rfl, rfl⟩
        refine ⟨_, Mrg_z rfl, ?_⟩
        refine r_goto (tgt := 27) E (dat dkX10_flowsTo 13 rfl) rfl ?_
        refine r_ireturn E (dat dkX10_flowsTo 15 rfl) (by decide) (by decide) ?_
        refine Or.inl ⟨c, hc, rfl, rfl, ?_⟩
        first
          | (rw [if_pos h15]; done)
          | (rw [if_neg (by first | exact h15 | exact Int32.not_le.mpr h15)]; done)
    ·
      exact absurd h5 (by decide)
  ·
    refine r_aload_n E (dat dkX10_flowsTo 0 rfl) rfl rfl ?_
    refine r_iload_n E (dat dkX10_flowsTo 1 rfl) rfl rfl ?_
    refine r_callV (κ := 9) (μ := []) E (sp_X10_checkCell l G A0 x T a _ md_a hx) my_X10_checkCell iv_X10_checkCell ml_X10_333 cm_id ⟨by decide, rfl, rfl⟩ rfl rfl rfl rfl (by decide) (Nat.le_of_ble_eq_true rfl) (dat dkX10_flowsTo 2 rfl) ?_
    rintro _ _ ⟨rfl, rfl⟩
    refine ⟨_, Mrg_mt (by decide) rfl, ?_⟩
    rw [ic_0 hx hk, show ckI 0 1 1 = 1 from rfl, if_neg (by decide)]
    refine r_if_ne (tgt := 10) E (dat dkX10_flowsTo 3 rfl) rfl (fun h5 => ?_) (fun h5 => ?_)
    ·
      exact absurd rfl h5
    ·
      refine r_iconst (v := 0) E (dat dkX10_flowsTo 4 rfl) rfl ?_
      refine r_ireturn E (dat dkX10_flowsTo 5 rfl) (by decide) (by decide) ?_
      exact Or.inr ⟨hk, rfl, rfl⟩

set_option maxRecDepth 100000 in
set_option maxHeartbeats 4000000 in
theorem sp_X10_ofCell (l : Launch) (G : GT) (A0 : Nat → Int32) (x : PP) (T : Nat → Nat → Int32) (a : Int32) (f : Nat) (M : Mem) (hA : M 0 1 = enc A0 x T) (hx : PIv x) (hf : f < 6) : MC l G yX10_ofCell cX10_ofCell 3 (some .int) ({ frames := 3, cells := 0, slots := 0, locals := 67 } : Room) [9] lk0 [rv 0 0, iv a, iv (nI f)] (M) (fun r M2 => (∃ c, c < x.1.2.2 ∧ a = nI c ∧ M2 = mt M 0 ∧ r = some (iv (cfT x T f c))) ∨ (¬ okc x a ∧ M2 = mt M 1 ∧ r = some (iv (0)))) := by
  refine MC.of RX10 [some (rv 0 0), some (iv a), some (iv (nI f))] 0 (by decide +kernel) rfl rfl rfl ?_
  intro pp ee ss mm aa bb me cd ad E
  obtain ⟨M0, rfl⟩ : ∃ M0, M = md M0 (enc A0 x T) := ⟨M, (md_of hA).symm⟩
  clear hA
  have hn64 := (PIv_z hx).1
  
  by_cases hk : okc x a
  ·
    obtain ⟨c, hc, rfl⟩ := hk
    refine r_aload_n E (dat dkX10_ofCell 0 rfl) rfl rfl ?_
    refine r_iload_n E (dat dkX10_ofCell 1 rfl) rfl rfl ?_
    refine r_callV (κ := 9) (μ := []) E (sp_X10_checkCell l G A0 x T (nI c) _ md_a hx) my_X10_checkCell iv_X10_checkCell ml_X10_333 cm_id ⟨by decide, rfl, rfl⟩ rfl rfl rfl rfl (by decide) (Nat.le_of_ble_eq_true rfl) (dat dkX10_ofCell 2 rfl) ?_
    rintro _ _ ⟨rfl, rfl⟩
    refine ⟨_, Mrg_mt (by decide) rfl, ?_⟩
    rw [ic_1 hx ⟨c, hc, rfl⟩, show ckI 1 1 1 = 0 from rfl, if_pos rfl]
    refine r_if_eq (tgt := 17) E (dat dkX10_ofCell 3 rfl) rfl (fun h5 => ?_) (fun h5 => ?_)
    ·
      exact absurd h5 (by decide)
    ·
      refine r_aload_n E (dat dkX10_ofCell 4 rfl) rfl rfl ?_
      refine r_iload_n E (dat dkX10_ofCell 5 rfl) rfl rfl ?_
      refine r_iload_n E (dat dkX10_ofCell 6 rfl) rfl rfl ?_
      refine r_callV (κ := 9) (μ := []) E (sp_X10_get l G c f _ (enc A0 x T) rfl (by omega) hf) my_X10_get iv_X10_get ml_X10_76 cm_id ⟨by decide, rfl, rfl⟩ rfl rfl rfl rfl (by decide) (Nat.le_of_ble_eq_true rfl) (dat dkX10_ofCell 7 rfl) ?_
      rintro _ _ ⟨rfl, rfl⟩
      refine ⟨_, Mrg_z rfl, ?_⟩
      rw [show enc A0 x T (c6 c f) = cfT x T f c from encF_ac hc hn64 hf]
      refine r_goto (tgt := 18) E (dat dkX10_ofCell 8 rfl) rfl ?_
      refine r_ireturn E (dat dkX10_ofCell 10 rfl) (by decide) (by decide) ?_
      exact Or.inl ⟨c, hc, rfl, rfl, rfl⟩
  ·
    refine r_aload_n E (dat dkX10_ofCell 0 rfl) rfl rfl ?_
    refine r_iload_n E (dat dkX10_ofCell 1 rfl) rfl rfl ?_
    refine r_callV (κ := 9) (μ := []) E (sp_X10_checkCell l G A0 x T a _ md_a hx) my_X10_checkCell iv_X10_checkCell ml_X10_333 cm_id ⟨by decide, rfl, rfl⟩ rfl rfl rfl rfl (by decide) (Nat.le_of_ble_eq_true rfl) (dat dkX10_ofCell 2 rfl) ?_
    rintro _ _ ⟨rfl, rfl⟩
    refine ⟨_, Mrg_mt (by decide) rfl, ?_⟩
    rw [ic_0 hx hk, show ckI 0 1 1 = 1 from rfl, if_neg (by decide)]
    refine r_if_eq (tgt := 17) E (dat dkX10_ofCell 3 rfl) rfl (fun h5 => ?_) (fun h5 => ?_)
    ·
      refine r_iconst (v := 0) E (dat dkX10_ofCell 9 rfl) rfl ?_
      refine r_ireturn E (dat dkX10_ofCell 10 rfl) (by decide) (by decide) ?_
      exact Or.inr ⟨hk, rfl, rfl⟩
    ·
      exact absurd rfl h5

set_option maxRecDepth 100000 in
set_option maxHeartbeats 4000000 in
theorem sp_X10_heightOf (l : Launch) (G : GT) (A0 : Nat → Int32) (x : PP) (T : Nat → Nat → Int32) (a : Int32) (M : Mem) (hA : M 0 1 = enc A0 x T) (hx : PIv x)  : MC l G yX10_heightOf cX10_heightOf 2 (some .int) ({ frames := 4, cells := 0, slots := 0, locals := 89 } : Room) [9] lk0 [rv 0 0, iv a] (M) (fun r M2 => (∃ c, c < x.1.2.2 ∧ a = nI c ∧ M2 = mt M 0 ∧ r = some (iv (x.2.1 c))) ∨ (¬ okc x a ∧ M2 = mt M 1 ∧ r = some (iv (0)))) := by
  refine MC.of RX10 [some (rv 0 0), some (iv a)] 0 (by decide +kernel) rfl rfl rfl ?_
  intro pp ee ss mm aa bb me cd ad E
  obtain ⟨M0, rfl⟩ : ∃ M0, M = md M0 (enc A0 x T) := ⟨M, (md_of hA).symm⟩
  clear hA
  have hn64 := (PIv_z hx).1
  
  refine r_aload_n E (dat dkX10_heightOf 0 rfl) rfl rfl ?_
  refine r_iload_n E (dat dkX10_heightOf 1 rfl) rfl rfl ?_
  refine r_iconst (v := 0) E (dat dkX10_heightOf 2 rfl) rfl ?_
  refine r_callV (κ := 9) (μ := []) E (sp_X10_ofCell l G A0 x T a 0 _ md_a hx (by decide)) my_X10_ofCell iv_X10_ofCell ml_X10_339 cm_id ⟨by decide, rfl, rfl⟩ rfl rfl rfl rfl (by decide) (Nat.le_of_ble_eq_true rfl) (dat dkX10_heightOf 3 rfl) ?_
  intro r9 M9 hM
  obtain ⟨k9, hM9, v9, rfl, hfin⟩ : ∃ k9, M9 = mt (vw [] (md M0 (enc A0 x T))) k9 ∧ ∃ v9, r9 = some (iv v9) ∧ ((∃ c, c < x.1.2.2 ∧ a = nI c ∧ k9 = 0 ∧ v9 = x.2.1 c) ∨ (¬ okc x a ∧ k9 = 1 ∧ v9 = 0)) := by
    rcases hM with ⟨c, h1, h2, h3, h4⟩ | ⟨h1, h2, h3⟩
    · exact ⟨0, h3, _, h4, Or.inl ⟨c, h1, h2, rfl, rfl⟩⟩
    · exact ⟨1, h2, _, h3, Or.inr ⟨h1, rfl, rfl⟩⟩
  clear hM
  refine ⟨_, Mrg_mt (k := k9) (by decide) hM9, ?_⟩
  refine r_ireturn E (dat dkX10_heightOf 4 rfl) (by decide) (by decide) ?_
  rcases hfin with ⟨c, h1, h2, rfl, rfl⟩ | ⟨h1, rfl, rfl⟩
  · exact Or.inl ⟨c, h1, h2, rfl, rfl⟩
  · exact Or.inr ⟨h1, rfl, rfl⟩

set_option maxRecDepth 100000 in
set_option maxHeartbeats 4000000 in
theorem sp_X10_waterOn (l : Launch) (G : GT) (A0 : Nat → Int32) (x : PP) (T : Nat → Nat → Int32) (a : Int32) (M : Mem) (hA : M 0 1 = enc A0 x T) (hx : PIv x)  : MC l G yX10_waterOn cX10_waterOn 2 (some .int) ({ frames := 4, cells := 0, slots := 0, locals := 89 } : Room) [9] lk0 [rv 0 0, iv a] (M) (fun r M2 => (∃ c, c < x.1.2.2 ∧ a = nI c ∧ M2 = mt M 0 ∧ r = some (iv (T 1 c))) ∨ (¬ okc x a ∧ M2 = mt M 1 ∧ r = some (iv (0)))) := by
  refine MC.of RX10 [some (rv 0 0), some (iv a)] 0 (by decide +kernel) rfl rfl rfl ?_
  intro pp ee ss mm aa bb me cd ad E
  obtain ⟨M0, rfl⟩ : ∃ M0, M = md M0 (enc A0 x T) := ⟨M, (md_of hA).symm⟩
  clear hA
  have hn64 := (PIv_z hx).1
  
  refine r_aload_n E (dat dkX10_waterOn 0 rfl) rfl rfl ?_
  refine r_iload_n E (dat dkX10_waterOn 1 rfl) rfl rfl ?_
  refine r_iconst (v := 1) E (dat dkX10_waterOn 2 rfl) rfl ?_
  refine r_callV (κ := 9) (μ := []) E (sp_X10_ofCell l G A0 x T a 1 _ md_a hx (by decide)) my_X10_ofCell iv_X10_ofCell ml_X10_339 cm_id ⟨by decide, rfl, rfl⟩ rfl rfl rfl rfl (by decide) (Nat.le_of_ble_eq_true rfl) (dat dkX10_waterOn 3 rfl) ?_
  intro r9 M9 hM
  obtain ⟨k9, hM9, v9, rfl, hfin⟩ : ∃ k9, M9 = mt (vw [] (md M0 (enc A0 x T))) k9 ∧ ∃ v9, r9 = some (iv v9) ∧ ((∃ c, c < x.1.2.2 ∧ a = nI c ∧ k9 = 0 ∧ v9 = T 1 c) ∨ (¬ okc x a ∧ k9 = 1 ∧ v9 = 0)) := by
    rcases hM with ⟨c, h1, h2, h3, h4⟩ | ⟨h1, h2, h3⟩
    · exact ⟨0, h3, _, h4, Or.inl ⟨c, h1, h2, rfl, rfl⟩⟩
    · exact ⟨1, h2, _, h3, Or.inr ⟨h1, rfl, rfl⟩⟩
  clear hM
  refine ⟨_, Mrg_mt (k := k9) (by decide) hM9, ?_⟩
  refine r_ireturn E (dat dkX10_waterOn 4 rfl) (by decide) (by decide) ?_
  rcases hfin with ⟨c, h1, h2, rfl, rfl⟩ | ⟨h1, rfl, rfl⟩
  · exact Or.inl ⟨c, h1, h2, rfl, rfl⟩
  · exact Or.inr ⟨h1, rfl, rfl⟩

set_option maxRecDepth 100000 in
set_option maxHeartbeats 4000000 in
theorem sp_X10_leavesOn (l : Launch) (G : GT) (A0 : Nat → Int32) (x : PP) (T : Nat → Nat → Int32) (a : Int32) (M : Mem) (hA : M 0 1 = enc A0 x T) (hx : PIv x)  : MC l G yX10_leavesOn cX10_leavesOn 2 (some .int) ({ frames := 4, cells := 0, slots := 0, locals := 89 } : Room) [9] lk0 [rv 0 0, iv a] (M) (fun r M2 => (∃ c, c < x.1.2.2 ∧ a = nI c ∧ M2 = mt M 0 ∧ r = some (iv (T 2 c))) ∨ (¬ okc x a ∧ M2 = mt M 1 ∧ r = some (iv (0)))) := by
  refine MC.of RX10 [some (rv 0 0), some (iv a)] 0 (by decide +kernel) rfl rfl rfl ?_
  intro pp ee ss mm aa bb me cd ad E
  obtain ⟨M0, rfl⟩ : ∃ M0, M = md M0 (enc A0 x T) := ⟨M, (md_of hA).symm⟩
  clear hA
  have hn64 := (PIv_z hx).1
  
  refine r_aload_n E (dat dkX10_leavesOn 0 rfl) rfl rfl ?_
  refine r_iload_n E (dat dkX10_leavesOn 1 rfl) rfl rfl ?_
  refine r_iconst (v := 2) E (dat dkX10_leavesOn 2 rfl) rfl ?_
  refine r_callV (κ := 9) (μ := []) E (sp_X10_ofCell l G A0 x T a 2 _ md_a hx (by decide)) my_X10_ofCell iv_X10_ofCell ml_X10_339 cm_id ⟨by decide, rfl, rfl⟩ rfl rfl rfl rfl (by decide) (Nat.le_of_ble_eq_true rfl) (dat dkX10_leavesOn 3 rfl) ?_
  intro r9 M9 hM
  obtain ⟨k9, hM9, v9, rfl, hfin⟩ : ∃ k9, M9 = mt (vw [] (md M0 (enc A0 x T))) k9 ∧ ∃ v9, r9 = some (iv v9) ∧ ((∃ c, c < x.1.2.2 ∧ a = nI c ∧ k9 = 0 ∧ v9 = T 2 c) ∨ (¬ okc x a ∧ k9 = 1 ∧ v9 = 0)) := by
    rcases hM with ⟨c, h1, h2, h3, h4⟩ | ⟨h1, h2, h3⟩
    · exact ⟨0, h3, _, h4, Or.inl ⟨c, h1, h2, rfl, rfl⟩⟩
    · exact ⟨1, h2, _, h3, Or.inr ⟨h1, rfl, rfl⟩⟩
  clear hM
  refine ⟨_, Mrg_mt (k := k9) (by decide) hM9, ?_⟩
  refine r_ireturn E (dat dkX10_leavesOn 4 rfl) (by decide) (by decide) ?_
  rcases hfin with ⟨c, h1, h2, rfl, rfl⟩ | ⟨h1, rfl, rfl⟩
  · exact Or.inl ⟨c, h1, h2, rfl, rfl⟩
  · exact Or.inr ⟨h1, rfl, rfl⟩

set_option maxRecDepth 100000 in
set_option maxHeartbeats 4000000 in
theorem sp_X10_gutterCapacity (l : Launch) (G : GT) (A0 : Nat → Int32) (x : PP) (T : Nat → Nat → Int32) (a : Int32) (M : Mem) (hA : M 0 1 = enc A0 x T) (hx : PIv x)  : MC l G yX10_gutterCapacity cX10_gutterCapacity 2 (some .int) ({ frames := 4, cells := 0, slots := 0, locals := 89 } : Room) [9] lk0 [rv 0 0, iv a] (M) (fun r M2 => (∃ c, c < x.1.2.2 ∧ a = nI c ∧ M2 = mt M 0 ∧ r = some (iv (x.2.2.1 c))) ∨ (¬ okc x a ∧ M2 = mt M 1 ∧ r = some (iv (0)))) := by
  refine MC.of RX10 [some (rv 0 0), some (iv a)] 0 (by decide +kernel) rfl rfl rfl ?_
  intro pp ee ss mm aa bb me cd ad E
  obtain ⟨M0, rfl⟩ : ∃ M0, M = md M0 (enc A0 x T) := ⟨M, (md_of hA).symm⟩
  clear hA
  have hn64 := (PIv_z hx).1
  
  refine r_aload_n E (dat dkX10_gutterCapacity 0 rfl) rfl rfl ?_
  refine r_iload_n E (dat dkX10_gutterCapacity 1 rfl) rfl rfl ?_
  refine r_iconst (v := 3) E (dat dkX10_gutterCapacity 2 rfl) rfl ?_
  refine r_callV (κ := 9) (μ := []) E (sp_X10_ofCell l G A0 x T a 3 _ md_a hx (by decide)) my_X10_ofCell iv_X10_ofCell ml_X10_339 cm_id ⟨by decide, rfl, rfl⟩ rfl rfl rfl rfl (by decide) (Nat.le_of_ble_eq_true rfl) (dat dkX10_gutterCapacity 3 rfl) ?_
  intro r9 M9 hM
  obtain ⟨k9, hM9, v9, rfl, hfin⟩ : ∃ k9, M9 = mt (vw [] (md M0 (enc A0 x T))) k9 ∧ ∃ v9, r9 = some (iv v9) ∧ ((∃ c, c < x.1.2.2 ∧ a = nI c ∧ k9 = 0 ∧ v9 = x.2.2.1 c) ∨ (¬ okc x a ∧ k9 = 1 ∧ v9 = 0)) := by
    rcases hM with ⟨c, h1, h2, h3, h4⟩ | ⟨h1, h2, h3⟩
    · exact ⟨0, h3, _, h4, Or.inl ⟨c, h1, h2, rfl, rfl⟩⟩
    · exact ⟨1, h2, _, h3, Or.inr ⟨h1, rfl, rfl⟩⟩
  clear hM
  refine ⟨_, Mrg_mt (k := k9) (by decide) hM9, ?_⟩
  refine r_ireturn E (dat dkX10_gutterCapacity 4 rfl) (by decide) (by decide) ?_
  rcases hfin with ⟨c, h1, h2, rfl, rfl⟩ | ⟨h1, rfl, rfl⟩
  · exact Or.inl ⟨c, h1, h2, rfl, rfl⟩
  · exact Or.inr ⟨h1, rfl, rfl⟩

set_option maxRecDepth 100000 in
set_option maxHeartbeats 4000000 in
theorem sp_X10_hydrantRate (l : Launch) (G : GT) (A0 : Nat → Int32) (x : PP) (T : Nat → Nat → Int32) (a : Int32) (M : Mem) (hA : M 0 1 = enc A0 x T) (hx : PIv x)  : MC l G yX10_hydrantRate cX10_hydrantRate 2 (some .int) ({ frames := 4, cells := 0, slots := 0, locals := 89 } : Room) [9] lk0 [rv 0 0, iv a] (M) (fun r M2 => (∃ c, c < x.1.2.2 ∧ a = nI c ∧ M2 = mt M 0 ∧ r = some (iv (T 3 c))) ∨ (¬ okc x a ∧ M2 = mt M 1 ∧ r = some (iv (0)))) := by
  refine MC.of RX10 [some (rv 0 0), some (iv a)] 0 (by decide +kernel) rfl rfl rfl ?_
  intro pp ee ss mm aa bb me cd ad E
  obtain ⟨M0, rfl⟩ : ∃ M0, M = md M0 (enc A0 x T) := ⟨M, (md_of hA).symm⟩
  clear hA
  have hn64 := (PIv_z hx).1
  
  refine r_aload_n E (dat dkX10_hydrantRate 0 rfl) rfl rfl ?_
  refine r_iload_n E (dat dkX10_hydrantRate 1 rfl) rfl rfl ?_
  refine r_iconst (v := 4) E (dat dkX10_hydrantRate 2 rfl) rfl ?_
  refine r_callV (κ := 9) (μ := []) E (sp_X10_ofCell l G A0 x T a 4 _ md_a hx (by decide)) my_X10_ofCell iv_X10_ofCell ml_X10_339 cm_id ⟨by decide, rfl, rfl⟩ rfl rfl rfl rfl (by decide) (Nat.le_of_ble_eq_true rfl) (dat dkX10_hydrantRate 3 rfl) ?_
  intro r9 M9 hM
  obtain ⟨k9, hM9, v9, rfl, hfin⟩ : ∃ k9, M9 = mt (vw [] (md M0 (enc A0 x T))) k9 ∧ ∃ v9, r9 = some (iv v9) ∧ ((∃ c, c < x.1.2.2 ∧ a = nI c ∧ k9 = 0 ∧ v9 = T 3 c) ∨ (¬ okc x a ∧ k9 = 1 ∧ v9 = 0)) := by
    rcases hM with ⟨c, h1, h2, h3, h4⟩ | ⟨h1, h2, h3⟩
    · exact ⟨0, h3, _, h4, Or.inl ⟨c, h1, h2, rfl, rfl⟩⟩
    · exact ⟨1, h2, _, h3, Or.inr ⟨h1, rfl, rfl⟩⟩
  clear hM
  refine ⟨_, Mrg_mt (k := k9) (by decide) hM9, ?_⟩
  refine r_ireturn E (dat dkX10_hydrantRate 4 rfl) (by decide) (by decide) ?_
  rcases hfin with ⟨c, h1, h2, rfl, rfl⟩ | ⟨h1, rfl, rfl⟩
  · exact Or.inl ⟨c, h1, h2, rfl, rfl⟩
  · exact Or.inr ⟨h1, rfl, rfl⟩

set_option maxRecDepth 100000 in
set_option maxHeartbeats 4000000 in
theorem sp_X10_hydrantMinutes (l : Launch) (G : GT) (A0 : Nat → Int32) (x : PP) (T : Nat → Nat → Int32) (a : Int32) (M : Mem) (hA : M 0 1 = enc A0 x T) (hx : PIv x)  : MC l G yX10_hydrantMinutes cX10_hydrantMinutes 2 (some .int) ({ frames := 4, cells := 0, slots := 0, locals := 89 } : Room) [9] lk0 [rv 0 0, iv a] (M) (fun r M2 => (∃ c, c < x.1.2.2 ∧ a = nI c ∧ M2 = mt M 0 ∧ r = some (iv (T 4 c))) ∨ (¬ okc x a ∧ M2 = mt M 1 ∧ r = some (iv (0)))) := by
  refine MC.of RX10 [some (rv 0 0), some (iv a)] 0 (by decide +kernel) rfl rfl rfl ?_
  intro pp ee ss mm aa bb me cd ad E
  obtain ⟨M0, rfl⟩ : ∃ M0, M = md M0 (enc A0 x T) := ⟨M, (md_of hA).symm⟩
  clear hA
  have hn64 := (PIv_z hx).1
  
  refine r_aload_n E (dat dkX10_hydrantMinutes 0 rfl) rfl rfl ?_
  refine r_iload_n E (dat dkX10_hydrantMinutes 1 rfl) rfl rfl ?_
  refine r_iconst (v := 5) E (dat dkX10_hydrantMinutes 2 rfl) rfl ?_
  refine r_callV (κ := 9) (μ := []) E (sp_X10_ofCell l G A0 x T a 5 _ md_a hx (by decide)) my_X10_ofCell iv_X10_ofCell ml_X10_339 cm_id ⟨by decide, rfl, rfl⟩ rfl rfl rfl rfl (by decide) (Nat.le_of_ble_eq_true rfl) (dat dkX10_hydrantMinutes 3 rfl) ?_
  intro r9 M9 hM
  obtain ⟨k9, hM9, v9, rfl, hfin⟩ : ∃ k9, M9 = mt (vw [] (md M0 (enc A0 x T))) k9 ∧ ∃ v9, r9 = some (iv v9) ∧ ((∃ c, c < x.1.2.2 ∧ a = nI c ∧ k9 = 0 ∧ v9 = T 4 c) ∨ (¬ okc x a ∧ k9 = 1 ∧ v9 = 0)) := by
    rcases hM with ⟨c, h1, h2, h3, h4⟩ | ⟨h1, h2, h3⟩
    · exact ⟨0, h3, _, h4, Or.inl ⟨c, h1, h2, rfl, rfl⟩⟩
    · exact ⟨1, h2, _, h3, Or.inr ⟨h1, rfl, rfl⟩⟩
  clear hM
  refine ⟨_, Mrg_mt (k := k9) (by decide) hM9, ?_⟩
  refine r_ireturn E (dat dkX10_hydrantMinutes 4 rfl) (by decide) (by decide) ?_
  rcases hfin with ⟨c, h1, h2, rfl, rfl⟩ | ⟨h1, rfl, rfl⟩
  · exact Or.inl ⟨c, h1, h2, rfl, rfl⟩
  · exact Or.inr ⟨h1, rfl, rfl⟩

set_option maxRecDepth 100000 in
set_option maxHeartbeats 4000000 in
theorem sp_X10_numberOf (l : Launch) (G : GT) (A0 : Nat → Int32) (x : PP) (T : Nat → Nat → Int32) (i : Nat) (M : Mem) (hA : M 0 1 = enc A0 x T) (hx : PIv x) (hi : i < 15) : MC l G yX10_numberOf cX10_numberOf 2 (some .int) ({ frames := 0, cells := 0, slots := 0, locals := 0 } : Room) [9] lk0 [rv 0 0, iv (nI i)] (M) (fun r M2 => r = some (iv (enc A0 x T i)) ∧ M2 = mt M 0) := by
  refine MC.of RX10 [some (rv 0 0), some (iv (nI i))] 0 (by decide +kernel) rfl rfl rfl ?_
  intro pp ee ss mm aa bb me cd ad E
  obtain ⟨M0, rfl⟩ : ∃ M0, M = md M0 (enc A0 x T) := ⟨M, (md_of hA).symm⟩
  clear hA
  have hn64 := (PIv_z hx).1
  
  refine r_aload_n E (dat dkX10_numberOf 0 rfl) rfl rfl ?_
  refine r_iconst (v := 0) E (dat dkX10_numberOf 1 rfl) rfl ?_
  refine q_putn E ft_X10_67 (dat dkX10_numberOf 2 rfl) rfl rfl rfl rfl ?_
  refine r_aload_n E (dat dkX10_numberOf 3 rfl) rfl rfl ?_
  refine q_geta E fl_X10_9 (dat dkX10_numberOf 4 rfl) rfl rfl rfl ?_
  refine r_iload_n E (dat dkX10_numberOf 5 rfl) rfl rfl ?_
  refine q_iald E (dat dkX10_numberOf 6 rfl) rfl rfl (by decide) (show _ = enc A0 x T from rfl) rfl (by omega) ?_
  refine r_ireturn E (dat dkX10_numberOf 7 rfl) (by decide) (by decide) ?_
  exact ⟨rfl, rfl⟩

set_option maxRecDepth 100000 in
set_option maxHeartbeats 4000000 in
theorem sp_X10_minute (l : Launch) (G : GT) (A0 : Nat → Int32) (x : PP) (T : Nat → Nat → Int32)  (M : Mem) (hA : M 0 1 = enc A0 x T) (hx : PIv x)  : MC l G yX10_minute cX10_minute 1 (some .int) ({ frames := 1, cells := 0, slots := 0, locals := 21 } : Room) [9] lk0 [rv 0 0] (M) (fun r M2 => r = some (iv (T 0 7)) ∧ M2 = mt M 0) := by
  refine MC.of RX10 [some (rv 0 0)] 0 (by decide +kernel) rfl rfl rfl ?_
  intro pp ee ss mm aa bb me cd ad E
  obtain ⟨M0, rfl⟩ : ∃ M0, M = md M0 (enc A0 x T) := ⟨M, (md_of hA).symm⟩
  clear hA
  have hn64 := (PIv_z hx).1
  
  refine r_aload_n E (dat dkX10_minute 0 rfl) rfl rfl ?_
  refine r_iconst (v := 0) E (dat dkX10_minute 1 rfl) rfl ?_
  refine r_callV (κ := 9) (μ := []) E (sp_X10_numberOf l G A0 x T 0 _ md_a hx (by decide)) my_X10_numberOf iv_X10_numberOf ml_X10_336 cm_id ⟨by decide, rfl, rfl⟩ rfl rfl rfl rfl (by decide) (Nat.le_of_ble_eq_true rfl) (dat dkX10_minute 2 rfl) ?_
  rintro _ _ ⟨rfl, rfl⟩
  refine ⟨_, Mrg_mt (by decide) rfl, ?_⟩
  refine r_ireturn E (dat dkX10_minute 3 rfl) (by decide) (by decide) ?_
  exact ⟨rfl, rfl⟩

set_option maxRecDepth 100000 in
set_option maxHeartbeats 4000000 in
theorem sp_X10_columnCount (l : Launch) (G : GT) (A0 : Nat → Int32) (x : PP) (T : Nat → Nat → Int32)  (M : Mem) (hA : M 0 1 = enc A0 x T) (hx : PIv x)  : MC l G yX10_columnCount cX10_columnCount 1 (some .int) ({ frames := 1, cells := 0, slots := 0, locals := 21 } : Room) [9] lk0 [rv 0 0] (M) (fun r M2 => r = some (iv (nI x.1.2.1)) ∧ M2 = mt M 0) := by
  refine MC.of RX10 [some (rv 0 0)] 0 (by decide +kernel) rfl rfl rfl ?_
  intro pp ee ss mm aa bb me cd ad E
  obtain ⟨M0, rfl⟩ : ∃ M0, M = md M0 (enc A0 x T) := ⟨M, (md_of hA).symm⟩
  clear hA
  have hn64 := (PIv_z hx).1
  
  refine r_aload_n E (dat dkX10_columnCount 0 rfl) rfl rfl ?_
  refine r_iconst (v := 1) E (dat dkX10_columnCount 1 rfl) rfl ?_
  refine r_callV (κ := 9) (μ := []) E (sp_X10_numberOf l G A0 x T 1 _ md_a hx (by decide)) my_X10_numberOf iv_X10_numberOf ml_X10_336 cm_id ⟨by decide, rfl, rfl⟩ rfl rfl rfl rfl (by decide) (Nat.le_of_ble_eq_true rfl) (dat dkX10_columnCount 2 rfl) ?_
  rintro _ _ ⟨rfl, rfl⟩
  refine ⟨_, Mrg_mt (by decide) rfl, ?_⟩
  refine r_ireturn E (dat dkX10_columnCount 3 rfl) (by decide) (by decide) ?_
  exact ⟨rfl, rfl⟩

set_option maxRecDepth 100000 in
set_option maxHeartbeats 4000000 in
theorem sp_X10_rowCount (l : Launch) (G : GT) (A0 : Nat → Int32) (x : PP) (T : Nat → Nat → Int32)  (M : Mem) (hA : M 0 1 = enc A0 x T) (hx : PIv x)  : MC l G yX10_rowCount cX10_rowCount 1 (some .int) ({ frames := 1, cells := 0, slots := 0, locals := 21 } : Room) [9] lk0 [rv 0 0] (M) (fun r M2 => r = some (iv (nI x.1.1)) ∧ M2 = mt M 0) := by
  refine MC.of RX10 [some (rv 0 0)] 0 (by decide +kernel) rfl rfl rfl ?_
  intro pp ee ss mm aa bb me cd ad E
  obtain ⟨M0, rfl⟩ : ∃ M0, M = md M0 (enc A0 x T) := ⟨M, (md_of hA).symm⟩
  clear hA
  have hn64 := (PIv_z hx).1
  
  refine r_aload_n E (dat dkX10_rowCount 0 rfl) rfl rfl ?_
  refine r_iconst (v := 2) E (dat dkX10_rowCount 1 rfl) rfl ?_
  refine r_callV (κ := 9) (μ := []) E (sp_X10_numberOf l G A0 x T 2 _ md_a hx (by decide)) my_X10_numberOf iv_X10_numberOf ml_X10_336 cm_id ⟨by decide, rfl, rfl⟩ rfl rfl rfl rfl (by decide) (Nat.le_of_ble_eq_true rfl) (dat dkX10_rowCount 2 rfl) ?_
  rintro _ _ ⟨rfl, rfl⟩
  refine ⟨_, Mrg_mt (by decide) rfl, ?_⟩
  refine r_ireturn E (dat dkX10_rowCount 3 rfl) (by decide) (by decide) ?_
  exact ⟨rfl, rfl⟩

set_option maxRecDepth 100000 in
set_option maxHeartbeats 4000000 in
theorem sp_X10_rain (l : Launch) (G : GT) (A0 : Nat → Int32) (x : PP) (T : Nat → Nat → Int32)  (M : Mem) (hA : M 0 1 = enc A0 x T) (hx : PIv x)  : MC l G yX10_rain cX10_rain 1 (some .int) ({ frames := 1, cells := 0, slots := 0, locals := 21 } : Room) [9] lk0 [rv 0 0] (M) (fun r M2 => r = some (iv (T 0 8)) ∧ M2 = mt M 0) := by
  refine MC.of RX10 [some (rv 0 0)] 0 (by decide +kernel) rfl rfl rfl ?_
  intro pp ee ss mm aa bb me cd ad E
  obtain ⟨M0, rfl⟩ : ∃ M0, M = md M0 (enc A0 x T) := ⟨M, (md_of hA).symm⟩
  clear hA
  have hn64 := (PIv_z hx).1
  
  refine r_aload_n E (dat dkX10_rain 0 rfl) rfl rfl ?_
  refine r_iconst (v := 3) E (dat dkX10_rain 1 rfl) rfl ?_
  refine r_callV (κ := 9) (μ := []) E (sp_X10_numberOf l G A0 x T 3 _ md_a hx (by decide)) my_X10_numberOf iv_X10_numberOf ml_X10_336 cm_id ⟨by decide, rfl, rfl⟩ rfl rfl rfl rfl (by decide) (Nat.le_of_ble_eq_true rfl) (dat dkX10_rain 2 rfl) ?_
  rintro _ _ ⟨rfl, rfl⟩
  refine ⟨_, Mrg_mt (by decide) rfl, ?_⟩
  refine r_ireturn E (dat dkX10_rain 3 rfl) (by decide) (by decide) ?_
  exact ⟨rfl, rfl⟩

set_option maxRecDepth 100000 in
set_option maxHeartbeats 4000000 in
theorem sp_X10_bootsCount (l : Launch) (G : GT) (A0 : Nat → Int32) (x : PP) (T : Nat → Nat → Int32)  (M : Mem) (hA : M 0 1 = enc A0 x T) (hx : PIv x)  : MC l G yX10_bootsCount cX10_bootsCount 1 (some .int) ({ frames := 1, cells := 0, slots := 0, locals := 21 } : Room) [9] lk0 [rv 0 0] (M) (fun r M2 => r = some (iv (nI x.2.2.2.2.1)) ∧ M2 = mt M 0) := by
  refine MC.of RX10 [some (rv 0 0)] 0 (by decide +kernel) rfl rfl rfl ?_
  intro pp ee ss mm aa bb me cd ad E
  obtain ⟨M0, rfl⟩ : ∃ M0, M = md M0 (enc A0 x T) := ⟨M, (md_of hA).symm⟩
  clear hA
  have hn64 := (PIv_z hx).1
  
  refine r_aload_n E (dat dkX10_bootsCount 0 rfl) rfl rfl ?_
  refine r_iconst (v := 4) E (dat dkX10_bootsCount 1 rfl) rfl ?_
  refine r_callV (κ := 9) (μ := []) E (sp_X10_numberOf l G A0 x T 4 _ md_a hx (by decide)) my_X10_numberOf iv_X10_numberOf ml_X10_336 cm_id ⟨by decide, rfl, rfl⟩ rfl rfl rfl rfl (by decide) (Nat.le_of_ble_eq_true rfl) (dat dkX10_bootsCount 2 rfl) ?_
  rintro _ _ ⟨rfl, rfl⟩
  refine ⟨_, Mrg_mt (by decide) rfl, ?_⟩
  refine r_ireturn E (dat dkX10_bootsCount 3 rfl) (by decide) (by decide) ?_
  exact ⟨rfl, rfl⟩

set_option maxRecDepth 100000 in
set_option maxHeartbeats 4000000 in
theorem sp_X10_rained (l : Launch) (G : GT) (A0 : Nat → Int32) (x : PP) (T : Nat → Nat → Int32)  (M : Mem) (hA : M 0 1 = enc A0 x T) (hx : PIv x)  : MC l G yX10_rained cX10_rained 1 (some .int) ({ frames := 1, cells := 0, slots := 0, locals := 21 } : Room) [9] lk0 [rv 0 0] (M) (fun r M2 => r = some (iv (T 0 9)) ∧ M2 = mt M 0) := by
  refine MC.of RX10 [some (rv 0 0)] 0 (by decide +kernel) rfl rfl rfl ?_
  intro pp ee ss mm aa bb me cd ad E
  obtain ⟨M0, rfl⟩ : ∃ M0, M = md M0 (enc A0 x T) := ⟨M, (md_of hA).symm⟩
  clear hA
  have hn64 := (PIv_z hx).1
  
  refine r_aload_n E (dat dkX10_rained 0 rfl) rfl rfl ?_
  refine r_iconst (v := 5) E (dat dkX10_rained 1 rfl) rfl ?_
  refine r_callV (κ := 9) (μ := []) E (sp_X10_numberOf l G A0 x T 5 _ md_a hx (by decide)) my_X10_numberOf iv_X10_numberOf ml_X10_336 cm_id ⟨by decide, rfl, rfl⟩ rfl rfl rfl rfl (by decide) (Nat.le_of_ble_eq_true rfl) (dat dkX10_rained 2 rfl) ?_
  rintro _ _ ⟨rfl, rfl⟩
  refine ⟨_, Mrg_mt (by decide) rfl, ?_⟩
  refine r_ireturn E (dat dkX10_rained 3 rfl) (by decide) (by decide) ?_
  exact ⟨rfl, rfl⟩

set_option maxRecDepth 100000 in
set_option maxHeartbeats 4000000 in
theorem sp_X10_fromHydrants (l : Launch) (G : GT) (A0 : Nat → Int32) (x : PP) (T : Nat → Nat → Int32)  (M : Mem) (hA : M 0 1 = enc A0 x T) (hx : PIv x)  : MC l G yX10_fromHydrants cX10_fromHydrants 1 (some .int) ({ frames := 1, cells := 0, slots := 0, locals := 21 } : Room) [9] lk0 [rv 0 0] (M) (fun r M2 => r = some (iv (T 0 10)) ∧ M2 = mt M 0) := by
  refine MC.of RX10 [some (rv 0 0)] 0 (by decide +kernel) rfl rfl rfl ?_
  intro pp ee ss mm aa bb me cd ad E
  obtain ⟨M0, rfl⟩ : ∃ M0, M = md M0 (enc A0 x T) := ⟨M, (md_of hA).symm⟩
  clear hA
  have hn64 := (PIv_z hx).1
  
  refine r_aload_n E (dat dkX10_fromHydrants 0 rfl) rfl rfl ?_
  refine r_bipush (v := 6) E (dat dkX10_fromHydrants 1 rfl) rfl ?_
  refine r_callV (κ := 9) (μ := []) E (sp_X10_numberOf l G A0 x T 6 _ md_a hx (by decide)) my_X10_numberOf iv_X10_numberOf ml_X10_336 cm_id ⟨by decide, rfl, rfl⟩ rfl rfl rfl rfl (by decide) (Nat.le_of_ble_eq_true rfl) (dat dkX10_fromHydrants 2 rfl) ?_
  rintro _ _ ⟨rfl, rfl⟩
  refine ⟨_, Mrg_mt (by decide) rfl, ?_⟩
  refine r_ireturn E (dat dkX10_fromHydrants 3 rfl) (by decide) (by decide) ?_
  exact ⟨rfl, rfl⟩

set_option maxRecDepth 100000 in
set_option maxHeartbeats 4000000 in
theorem sp_X10_drained (l : Launch) (G : GT) (A0 : Nat → Int32) (x : PP) (T : Nat → Nat → Int32)  (M : Mem) (hA : M 0 1 = enc A0 x T) (hx : PIv x)  : MC l G yX10_drained cX10_drained 1 (some .int) ({ frames := 1, cells := 0, slots := 0, locals := 21 } : Room) [9] lk0 [rv 0 0] (M) (fun r M2 => r = some (iv (T 0 11)) ∧ M2 = mt M 0) := by
  refine MC.of RX10 [some (rv 0 0)] 0 (by decide +kernel) rfl rfl rfl ?_
  intro pp ee ss mm aa bb me cd ad E
  obtain ⟨M0, rfl⟩ : ∃ M0, M = md M0 (enc A0 x T) := ⟨M, (md_of hA).symm⟩
  clear hA
  have hn64 := (PIv_z hx).1
  
  refine r_aload_n E (dat dkX10_drained 0 rfl) rfl rfl ?_
  refine r_bipush (v := 7) E (dat dkX10_drained 1 rfl) rfl ?_
  refine r_callV (κ := 9) (μ := []) E (sp_X10_numberOf l G A0 x T 7 _ md_a hx (by decide)) my_X10_numberOf iv_X10_numberOf ml_X10_336 cm_id ⟨by decide, rfl, rfl⟩ rfl rfl rfl rfl (by decide) (Nat.le_of_ble_eq_true rfl) (dat dkX10_drained 2 rfl) ?_
  rintro _ _ ⟨rfl, rfl⟩
  refine ⟨_, Mrg_mt (by decide) rfl, ?_⟩
  refine r_ireturn E (dat dkX10_drained 3 rfl) (by decide) (by decide) ?_
  exact ⟨rfl, rfl⟩

set_option maxRecDepth 100000 in
set_option maxHeartbeats 4000000 in
theorem sp_X10_evaporated (l : Launch) (G : GT) (A0 : Nat → Int32) (x : PP) (T : Nat → Nat → Int32)  (M : Mem) (hA : M 0 1 = enc A0 x T) (hx : PIv x)  : MC l G yX10_evaporated cX10_evaporated 1 (some .int) ({ frames := 1, cells := 0, slots := 0, locals := 21 } : Room) [9] lk0 [rv 0 0] (M) (fun r M2 => r = some (iv (T 0 12)) ∧ M2 = mt M 0) := by
  refine MC.of RX10 [some (rv 0 0)] 0 (by decide +kernel) rfl rfl rfl ?_
  intro pp ee ss mm aa bb me cd ad E
  obtain ⟨M0, rfl⟩ : ∃ M0, M = md M0 (enc A0 x T) := ⟨M, (md_of hA).symm⟩
  clear hA
  have hn64 := (PIv_z hx).1
  
  refine r_aload_n E (dat dkX10_evaporated 0 rfl) rfl rfl ?_
  refine r_bipush (v := 8) E (dat dkX10_evaporated 1 rfl) rfl ?_
  refine r_callV (κ := 9) (μ := []) E (sp_X10_numberOf l G A0 x T 8 _ md_a hx (by decide)) my_X10_numberOf iv_X10_numberOf ml_X10_336 cm_id ⟨by decide, rfl, rfl⟩ rfl rfl rfl rfl (by decide) (Nat.le_of_ble_eq_true rfl) (dat dkX10_evaporated 2 rfl) ?_
  rintro _ _ ⟨rfl, rfl⟩
  refine ⟨_, Mrg_mt (by decide) rfl, ?_⟩
  refine r_ireturn E (dat dkX10_evaporated 3 rfl) (by decide) (by decide) ?_
  exact ⟨rfl, rfl⟩
