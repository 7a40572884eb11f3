theorem e_nm {A0 : Nat → Int32} {x : PP} {T : Nat → Nat → Int32} {b j : Nat} (hb : b < x.2.2.2.2.1) (hj : j < (x.2.2.2.2.2.1 b).toNatClampNeg) (h6 : j < 6) : enc A0 x T (399 + 11 * b + (j + 1)) = x.2.2.2.2.2.2.2.2 b j := by
  rw [show enc A0 x T (399 + 11 * b + (j + 1)) = bfT A0 x T (j + 1) b from encF_ab hb (by omega)]
  rcases (show j = 0 ∨ j = 1 ∨ j = 2 ∨ j = 3 ∨ j = 4 ∨ j = 5 by omega) with rfl | rfl | rfl | rfl | rfl | rfl <;> exact if_pos hj
theorem nb_1 {x : PP} {b j L : Nat} (hl : x.2.2.2.2.2.1 b = nI L) (hL : L ≤ 6) (hj : j < L) : nbI x b (nI j) = x.2.2.2.2.2.2.2.2 b j := by
  unfold nbI
  rw [if_neg (nI_pos (by omega)), hl, if_neg (nI_ge hj (by omega)), nI_clamp (by omega)]
theorem nb_0 {x : PP} {b L : Nat} {d : Int32} (hl : x.2.2.2.2.2.1 b = nI L) (hL : L ≤ 6) (hd : ¬ ∃ c, c < L ∧ d = nI c) : nbI x b d = -1 := by
  unfold nbI
  by_cases h0 : d < 0
  · rw [if_pos h0]
  · obtain ⟨j, hj, rfl⟩ := nI_of h0
    rw [if_neg h0, hl, if_pos]
    refine (nI_leI (by omega) hj).mpr ?_
    rcases Nat.lt_or_ge j L with q | q
    · exact absurd ⟨j, q, rfl⟩ hd
    · exact q
set_option maxRecDepth 100000 in
set_option maxHeartbeats 8000000 in
theorem sp_X10_nameByte (l : Launch) (G : GT) (A0 : Nat → Int32) (x : PP) (T : Nat → Nat → Int32) (a d : Int32) (M : Mem) (hA : M 0 1 = enc A0 x T) (hx : PIv x)  : MC l G yX10_nameByte cX10_nameByte 3 (some .int) ({ frames := 3, cells := 0, slots := 0, locals := 67 } : Room) [9] lk0 [rv 0 0, iv a, iv d] (M) (fun r M2 => (∃ b, b < x.2.2.2.2.1 ∧ a = nI b ∧ M2 = mt M 0 ∧ r = some (iv (nbI x b d))) ∨ (¬ okb4 x a ∧ M2 = mt M 1 ∧ r = some (iv (0)))) := by
  refine MC.of RX10 [some (rv 0 0), some (iv a), some (iv d)] 0 (by decide +kernel) rfl rfl rfl ?_
  intro pp ee ss mm aa bb me cd ad E
  obtain ⟨M0, rfl⟩ : ∃ M0, M = md M0 (enc A0 x T) := ⟨M, (md_of hA).symm⟩
  clear hA
  have hn64 := (PIv_z hx).1
  have hb4 := hx.2.2.2.2.1
  
  rcases (show (∃ b, b < x.2.2.2.2.1 ∧ a = nI b ∧ ∃ j, j < (x.2.2.2.2.2.1 b).toNatClampNeg ∧ d = nI j) ∨ (∃ b, b < x.2.2.2.2.1 ∧ a = nI b ∧ ¬ ∃ j, j < (x.2.2.2.2.2.1 b).toNatClampNeg ∧ d = nI j) ∨ ¬ okb4 x a by
        by_cases g : okb4 x a
        · obtain ⟨b, hb, he⟩ := g
          by_cases g2 : ∃ j, j < (x.2.2.2.2.2.1 b).toNatClampNeg ∧ d = nI j
          · exact Or.inl ⟨b, hb, he, g2⟩
          · exact Or.inr (Or.inl ⟨b, hb, he, g2⟩)
        · exact Or.inr (Or.inr g)) with ⟨b, hb, rfl, j, hj, rfl⟩ | ⟨b, hb, rfl, hd⟩ | hk
  ·
    obtain ⟨hl1, hl2⟩ := hx.2.2.2.2.2.1 b hb
    refine r_aload_n E (dat dkX10_nameByte 0 rfl) rfl rfl ?_
    refine r_iload_n E (dat dkX10_nameByte 1 rfl) rfl rfl ?_
    refine r_callV (κ := 9) (μ := []) E (sp_X10_checkBoots l G A0 x T (nI b) _ md_a hx) my_X10_checkBoots iv_X10_checkBoots ml_X10_372 cm_id ⟨by decide, rfl, rfl⟩ rfl rfl rfl rfl (by decide) (Nat.le_of_ble_eq_true rfl) (dat dkX10_nameByte 2 rfl) ?_
    rintro _ _ ⟨rfl, rfl⟩
    refine ⟨_, Mrg_mt (by decide) rfl, ?_⟩
    rw [ib_1 hx ⟨b, hb, rfl⟩, show ckI 1 1 1 = 0 from rfl, if_pos rfl]
    refine r_if_ne (tgt := 10) E (dat dkX10_nameByte 3 rfl) rfl (fun h5 => ?_) (fun h5 => ?_)
    ·
      refine r_iload_n E (dat dkX10_nameByte 6 rfl) rfl rfl ?_
      refine r_i2l E (dat dkX10_nameByte 7 rfl) ?_
      refine r_lconst E (dat dkX10_nameByte 8 rfl) rfl ?_
      refine r_aload_n E (dat dkX10_nameByte 9 rfl) rfl rfl ?_
      refine q_geta E fl_X10_9 (dat dkX10_nameByte 10 rfl) rfl rfl rfl ?_
      refine r_iload_n E (dat dkX10_nameByte 11 rfl) rfl rfl ?_
      refine r_callS (μ := []) E (sp_X10_p l G b _) my_X10_p is_X10_p ml_X10_73 cm_nil rfl rfl (by decide) (Nat.le_of_ble_eq_true rfl) (dat dkX10_nameByte 12 rfl) ?_
      rintro _ _ ⟨rfl, hM⟩
      refine ⟨_, Mrg_z hM, ?_⟩
      clear hM
      refine q_iald E (dat dkX10_nameByte 13 rfl) rfl rfl (by decide) (show _ = enc A0 x T from rfl) (show _ = nI (399 + 11 * b + 0) from rfl) (by omega) ?_
      rw [e_nl hb, hl1]
      refine r_iconst (v := 1) E (dat dkX10_nameByte 14 rfl) rfl ?_
      refine r_isub E (dat dkX10_nameByte 15 rfl) ?_
      refine r_i2l E (dat dkX10_nameByte 16 rfl) ?_
      refine r_callS (μ := []) E (sp_X10_isWithin l G (nI j).toInt64 0 (nI (x.2.2.2.2.2.1 b).toNatClampNeg - 1).toInt64 _) my_X10_isWithin is_X10_isWithin ml_X10_80 cm_nil rfl rfl (by decide) (Nat.le_of_ble_eq_true rfl) (dat dkX10_nameByte 17 rfl) ?_
      rintro _ _ ⟨rfl, hM⟩
      refine ⟨_, Mrg_z hM, ?_⟩
      clear hM
      rw [wI (by omega) (by omega) (by omega), if_pos hj]
      refine r_if_eq (tgt := 47) E (dat dkX10_nameByte 18 rfl) rfl (fun h28 => ?_) (fun h28 => ?_)
      ·
        exact absurd h28 (by decide)
      ·
        refine r_aload_n E (dat dkX10_nameByte 19 rfl) rfl rfl ?_
        refine q_geta E fl_X10_9 (dat dkX10_nameByte 20 rfl) rfl rfl rfl ?_
        refine r_iload_n E (dat dkX10_nameByte 21 rfl) rfl rfl ?_
        refine r_callS (μ := []) E (sp_X10_p l G b _) my_X10_p is_X10_p ml_X10_73 cm_nil rfl rfl (by decide) (Nat.le_of_ble_eq_true rfl) (dat dkX10_nameByte 22 rfl) ?_
        rintro _ _ ⟨rfl, hM⟩
        refine ⟨_, Mrg_z hM, ?_⟩
        clear hM
        refine r_iconst (v := 1) E (dat dkX10_nameByte 23 rfl) rfl ?_
        refine r_iadd E (dat dkX10_nameByte 24 rfl) ?_
        refine r_iload_n E (dat dkX10_nameByte 25 rfl) rfl rfl ?_
        refine r_iadd E (dat dkX10_nameByte 26 rfl) ?_
        refine q_iald E (dat dkX10_nameByte 27 rfl) rfl rfl (by decide) (show _ = enc A0 x T from rfl) (show _ = nI (399 + 11 * b + (j + 1)) by rw [show (nI (399 + 11 * b) + 1 : Int32) = nI (399 + 11 * b + 1) from nI_1 _, nI_add, Nat.add_assoc, Nat.add_comm 1 j]) (by omega) ?_
        refine r_goto (tgt := 48) E (dat dkX10_nameByte 28 rfl) rfl ?_
        refine r_ireturn E (dat dkX10_nameByte 30 rfl) (by decide) (by decide) ?_
        exact Or.inl ⟨b, hb, rfl, rfl, by rw [nb_1 hl1 hl2 hj, e_nm hb hj (by omega)]⟩
    ·
      exact absurd h5 (by decide)
  ·
    obtain ⟨hl1, hl2⟩ := hx.2.2.2.2.2.1 b hb
    have hw : iwI d.toInt64 0 (nI (x.2.2.2.2.2.1 b).toNatClampNeg - 1).toInt64 = 0 := by
      rcases wI_any (a := d) (u := (x.2.2.2.2.2.1 b).toNatClampNeg) (by omega) with q | q
      · exact absurd q.2 hd
      · exact q.1
    refine r_aload_n E (dat dkX10_nameByte 0 rfl) rfl rfl ?_
    refine r_iload_n E (dat dkX10_nameByte 1 rfl) rfl rfl ?_
    refine r_callV (κ := 9) (μ := []) E (sp_X10_checkBoots l G A0 x T (nI b) _ md_a hx) my_X10_checkBoots iv_X10_checkBoots ml_X10_372 cm_id ⟨by decide, rfl, rfl⟩ rfl rfl rfl rfl (by decide) (Nat.le_of_ble_eq_true rfl) (dat dkX10_nameByte 2 rfl) ?_
    rintro _ _ ⟨rfl, rfl⟩
    refine ⟨_, Mrg_mt (by decide) rfl, ?_⟩
    rw [ib_1 hx ⟨b, hb, rfl⟩, show ckI 1 1 1 = 0 from rfl, if_pos rfl]
    refine r_if_ne (tgt := 10) E (dat dkX10_nameByte 3 rfl) rfl (fun h5 => ?_) (fun h5 => ?_)
    ·
      refine r_iload_n E (dat dkX10_nameByte 6 rfl) rfl rfl ?_
      refine r_i2l E (dat dkX10_nameByte 7 rfl) ?_
      refine r_lconst E (dat dkX10_nameByte 8 rfl) rfl ?_
      refine r_aload_n E (dat dkX10_nameByte 9 rfl) rfl rfl ?_
      refine q_geta E fl_X10_9 (dat dkX10_nameByte 10 rfl) rfl rfl rfl ?_
      refine r_iload_n E (dat dkX10_nameByte 11 rfl) rfl rfl ?_
      refine r_callS (μ := []) E (sp_X10_p l G b _) my_X10_p is_X10_p ml_X10_73 cm_nil rfl rfl (by decide) (Nat.le_of_ble_eq_true rfl) (dat dkX10_nameByte 12 rfl) ?_
      rintro _ _ ⟨rfl, hM⟩
      refine ⟨_, Mrg_z hM, ?_⟩
      clear hM
      refine q_iald E (dat dkX10_nameByte 13 rfl) rfl rfl (by decide) (show _ = enc A0 x T from rfl) (show _ = nI (399 + 11 * b + 0) from rfl) (by omega) ?_
      rw [e_nl hb, hl1]
      refine r_iconst (v := 1) E (dat dkX10_nameByte 14 rfl) rfl ?_
      refine r_isub E (dat dkX10_nameByte 15 rfl) ?_
      refine r_i2l E (dat dkX10_nameByte 16 rfl) ?_
      refine r_callS (μ := []) E (sp_X10_isWithin l G d.toInt64 0 (nI (x.2.2.2.2.2.1 b).toNatClampNeg - 1).toInt64 _) my_X10_isWithin is_X10_isWithin ml_X10_80 cm_nil rfl rfl (by decide) (Nat.le_of_ble_eq_true rfl) (dat dkX10_nameByte 17 rfl) ?_
      rintro _ _ ⟨rfl, hM⟩
      refine ⟨_, Mrg_z hM, ?_⟩
      clear hM
      rw [hw]
      refine r_if_eq (tgt := 47) E (dat dkX10_nameByte 18 rfl) rfl (fun h28 => ?_) (fun h28 => ?_)
      ·
        refine r_iconst (v := -1) E (dat dkX10_nameByte 29 rfl) rfl ?_
        refine r_ireturn E (dat dkX10_nameByte 30 rfl) (by decide) (by decide) ?_
        exact Or.inl ⟨b, hb, rfl, rfl, by rw [nb_0 hl1 hl2 hd]⟩
      ·
        exact absurd rfl h28
    ·
      exact absurd h5 (by decide)
  ·
    refine r_aload_n E (dat dkX10_nameByte 0 rfl) rfl rfl ?_
    refine r_iload_n E (dat dkX10_nameByte 1 rfl) rfl rfl ?_
    refine r_callV (κ := 9) (μ := []) E (sp_X10_checkBoots l G A0 x T a _ md_a hx) my_X10_checkBoots iv_X10_checkBoots ml_X10_372 cm_id ⟨by decide, rfl, rfl⟩ rfl rfl rfl rfl (by decide) (Nat.le_of_ble_eq_true rfl) (dat dkX10_nameByte 2 rfl) ?_
    rintro _ _ ⟨rfl, rfl⟩
    refine ⟨_, Mrg_mt (by decide) rfl, ?_⟩
    rw [ib_0 hx hk, show ckI 0 1 1 = 1 from rfl, if_neg (by decide)]
    refine r_if_ne (tgt := 10) E (dat dkX10_nameByte 3 rfl) rfl (fun h5 => ?_) (fun h5 => ?_)
    ·
      exact absurd rfl h5
    ·
      refine r_iconst (v := 0) E (dat dkX10_nameByte 4 rfl) rfl ?_
      refine r_ireturn E (dat dkX10_nameByte 5 rfl) (by decide) (by decide) ?_
      exact Or.inr ⟨hk, rfl, rfl⟩
