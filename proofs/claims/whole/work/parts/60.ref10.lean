/-! copies, passing minutes, saving -/
set_option maxRecDepth 100000 in
set_option maxHeartbeats 4000000 in
theorem sp_X10_passMinutes (l : Launch) (G : GT) (A0 : Nat → Int32) (x : PP) (T : Nat → Nat → Int32) (P : Nat → Int32) (k : Nat) (a : Int32) (B : Int) (M : Mem) (hA : M 0 1 = enc A0 x T) (hx : PIv x) (hP : M 0 4 = P) (hk : M 0 0 4 = nI k) (hk8 : k ≤ 8) (hpl : PLi x T) (hv : PVi x) (hs : SI x T B) (hB : B + 111360 < 2147483648) : MC l G yX10_passMinutes cX10_passMinutes 3 (some .int) ({ frames := 8, cells := 0, slots := 0, locals := 177 } : Room) [9] lk0 [rv 0 0, iv a] (M) (fun r M2 => (∃ t, t ≤ 60 ∧ a = nI t ∧ (1 ≤ a ∧ a ≤ 60) ∧ ¬ 999 < T 0 7 + a ∧ M2 = md (rmM (mt M 0) P (enc A0 x T) k) (enc A0 x (mnX x T t)) ∧ r = some (iv (mnX x T t 0 11 - T 0 11))) ∨ (¬ (1 ≤ a ∧ a ≤ 60) ∧ M2 = mt M 1 ∧ r = some (iv 0)) ∨ (((1 ≤ a ∧ a ≤ 60) ∧ 999 < T 0 7 + a) ∧ M2 = mt M 2 ∧ r = some (iv 0))) := by
  refine MC.of RX10 [some (rv 0 0), some (iv a), none] 1 (by decide +kernel) rfl rfl rfl ?_
  intro pp ee ss mm aa bb me cd ad E
  obtain ⟨M0, rfl⟩ : ∃ M0, M = md M0 (enc A0 x T) := ⟨M, (md_of hA).symm⟩
  clear hA
  have hn64 := (PIv_z hx).1
  
  rcases (show ((1 ≤ a ∧ a ≤ 60) ∧ ¬ 999 < T 0 7 + a) ∨ ¬ (1 ≤ a ∧ a ≤ 60) ∨ ((1 ≤ a ∧ a ≤ 60) ∧ 999 < T 0 7 + a) by
        rcases tri (1 ≤ a ∧ a ≤ 60) (¬ 999 < T 0 7 + a) with h | h | h
        · exact Or.inl h
        · exact Or.inr (Or.inl h)
        · exact Or.inr (Or.inr ⟨h.1, Decidable.not_not.mp h.2⟩)) with ⟨hr, h9⟩ | hr | ⟨hr, h9⟩
  ·
    obtain ⟨t, ht6, rfl⟩ := rg_ex (k := 60) (by decide) (Int32.le_trans (by decide) hr.1) hr.2
    refine r_iload_n E (dat dkX10_passMinutes 0 rfl) rfl rfl ?_
    refine r_i2l E (dat dkX10_passMinutes 1 rfl) ?_
    refine r_lconst E (dat dkX10_passMinutes 2 rfl) rfl ?_
    refine r_ldc2 E cl_400 (dat dkX10_passMinutes 3 rfl) ?_
    refine r_callS (μ := []) E (sp_X10_isWithin l G ((nI t)).toInt64 1 (60 : Int32).toInt64 _) my_X10_isWithin is_X10_isWithin ml_X10_80 cm_nil rfl rfl (by decide) (Nat.le_of_ble_eq_true rfl) (dat dkX10_passMinutes 4 rfl) ?_
    rintro _ _ ⟨rfl, hM⟩
    refine ⟨_, Mrg_z hM, ?_⟩
    clear hM
    rw [show iwI ((nI t)).toInt64 1 (60 : Int32).toInt64 = 1 from iw_1 (lo := 1) hr.1 hr.2]
    refine r_istore_2 E (dat dkX10_passMinutes 5 rfl) rfl rfl ?_
    refine r_aload_n E (dat dkX10_passMinutes 6 rfl) rfl rfl ?_
    refine r_iload_n E (dat dkX10_passMinutes 7 rfl) rfl rfl ?_
    refine r_iload_n E (dat dkX10_passMinutes 8 rfl) rfl rfl ?_
    refine r_if_eq (tgt := 28) E (dat dkX10_passMinutes 9 rfl) rfl (fun h13 => ?_) (fun h13 => ?_)
    ·
      exact absurd h13 (by decide)
    ·
      refine r_aload_n E (dat dkX10_passMinutes 10 rfl) rfl rfl ?_
      refine r_iload_n E (dat dkX10_passMinutes 11 rfl) rfl rfl ?_
      refine r_callV (κ := 9) (μ := []) E (sp_X10_canPass l G A0 x T (nI t) _ md_a hx) my_X10_canPass iv_X10_canPass ml_X10_311 cm_id ⟨by decide, rfl, rfl⟩ rfl rfl rfl rfl (by decide) (Nat.le_of_ble_eq_true rfl) (dat dkX10_passMinutes 12 rfl) ?_
      rintro _ _ ⟨rfl, rfl⟩
      refine ⟨_, Mrg_z rfl, ?_⟩
      rw [if_neg h9]
      refine r_if_eq (tgt := 28) E (dat dkX10_passMinutes 13 rfl) rfl (fun h21 => ?_) (fun h21 => ?_)
      ·
        exact absurd h21 (by decide)
      ·
        refine r_iconst (v := 1) E (dat dkX10_passMinutes 14 rfl) rfl ?_
        refine r_goto (tgt := 29) E (dat dkX10_passMinutes 15 rfl) rfl ?_
        refine r_iconst (v := 1) E (dat dkX10_passMinutes 17 rfl) rfl ?_
        refine r_callV (κ := 9) (μ := []) E (sp_X10_check l G (1) (1) (1) _) my_X10_check iv_X10_check ml_X10_329 cm_id ⟨by decide, rfl, rfl⟩ rfl rfl rfl rfl (by decide) (Nat.le_of_ble_eq_true rfl) (dat dkX10_passMinutes 18 rfl) ?_
        rintro _ _ ⟨rfl, rfl⟩
        refine ⟨_, Mrg_mt (by decide) rfl, ?_⟩
        rw [show ckI (1) (1) (1) = 0 from rfl, if_pos rfl]
        refine r_if_ne (tgt := 38) E (dat dkX10_passMinutes 19 rfl) rfl (fun h33 => ?_) (fun h33 => ?_)
        ·
          refine r_aload_n E (dat dkX10_passMinutes 22 rfl) rfl rfl ?_
          refine r_callV (κ := 9) (μ := []) E (sp_X10_remember l G P (enc A0 x T) k _ hP hk rfl hk8) my_X10_remember iv_X10_remember ml_X10_320 cm_id ⟨by decide, rfl, rfl⟩ rfl rfl rfl rfl (by decide) (Nat.le_of_ble_eq_true rfl) (dat dkX10_passMinutes 23 rfl) ?_
          rintro _ _ ⟨rfl, rfl⟩
          refine ⟨_, Mrg_rm (by decide) rfl, ?_⟩
          refine r_aload_n E (dat dkX10_passMinutes 24 rfl) rfl rfl ?_
          refine r_iload_n E (dat dkX10_passMinutes 25 rfl) rfl rfl ?_
          refine r_callV (κ := 9) (μ := []) E (sp_X10_letPass l G A0 x T t B _ rfl hx hv hpl hs (by omega) (by omega)) my_X10_letPass iv_X10_letPass ml_X10_314 cm_id ⟨by decide, rfl, rfl⟩ rfl rfl rfl rfl (by decide) (Nat.le_of_ble_eq_true rfl) (dat dkX10_passMinutes 26 rfl) ?_
          rintro _ _ ⟨rfl, rfl⟩
          refine ⟨_, Mrg_md2 (by decide) rfl, ?_⟩
          refine r_ireturn E (dat dkX10_passMinutes 27 rfl) (by decide) (by decide) ?_
          exact Or.inl ⟨t, ht6, rfl, hr, h9, rfl, rfl⟩
        ·
          exact absurd h33 (by decide)
  ·
    refine r_iload_n E (dat dkX10_passMinutes 0 rfl) rfl rfl ?_
    refine r_i2l E (dat dkX10_passMinutes 1 rfl) ?_
    refine r_lconst E (dat dkX10_passMinutes 2 rfl) rfl ?_
    refine r_ldc2 E cl_400 (dat dkX10_passMinutes 3 rfl) ?_
    refine r_callS (μ := []) E (sp_X10_isWithin l G (a).toInt64 1 (60 : Int32).toInt64 _) my_X10_isWithin is_X10_isWithin ml_X10_80 cm_nil rfl rfl (by decide) (Nat.le_of_ble_eq_true rfl) (dat dkX10_passMinutes 4 rfl) ?_
    rintro _ _ ⟨rfl, hM⟩
    refine ⟨_, Mrg_z hM, ?_⟩
    clear hM
    rw [show iwI (a).toInt64 1 (60 : Int32).toInt64 = 0 from iw_0 (lo := 1) hr]
    refine r_istore_2 E (dat dkX10_passMinutes 5 rfl) rfl rfl ?_
    refine r_aload_n E (dat dkX10_passMinutes 6 rfl) rfl rfl ?_
    refine r_iload_n E (dat dkX10_passMinutes 7 rfl) rfl rfl ?_
    refine r_iload_n E (dat dkX10_passMinutes 8 rfl) rfl rfl ?_
    refine r_if_eq (tgt := 28) E (dat dkX10_passMinutes 9 rfl) rfl (fun h13 => ?_) (fun h13 => ?_)
    ·
      refine r_iconst (v := 0) E (dat dkX10_passMinutes 16 rfl) rfl ?_
      refine r_iconst (v := 1) E (dat dkX10_passMinutes 17 rfl) rfl ?_
      refine r_callV (κ := 9) (μ := []) E (sp_X10_check l G (0) (0) (1) _) my_X10_check iv_X10_check ml_X10_329 cm_id ⟨by decide, rfl, rfl⟩ rfl rfl rfl rfl (by decide) (Nat.le_of_ble_eq_true rfl) (dat dkX10_passMinutes 18 rfl) ?_
      rintro _ _ ⟨rfl, rfl⟩
      refine ⟨_, Mrg_mt (by decide) rfl, ?_⟩
      rw [show ckI (0) (0) (1) = 1 from if_pos rfl, if_neg (by decide)]
      refine r_if_ne (tgt := 38) E (dat dkX10_passMinutes 19 rfl) rfl (fun h33 => ?_) (fun h33 => ?_)
      ·
        exact absurd rfl h33
      ·
        refine r_iconst (v := 0) E (dat dkX10_passMinutes 20 rfl) rfl ?_
        refine r_ireturn E (dat dkX10_passMinutes 21 rfl) (by decide) (by decide) ?_
        exact Or.inr (Or.inl ⟨hr, rfl, rfl⟩)
    ·
      exact absurd rfl h13
  ·
    refine r_iload_n E (dat dkX10_passMinutes 0 rfl) rfl rfl ?_
    refine r_i2l E (dat dkX10_passMinutes 1 rfl) ?_
    refine r_lconst E (dat dkX10_passMinutes 2 rfl) rfl ?_
    refine r_ldc2 E cl_400 (dat dkX10_passMinutes 3 rfl) ?_
    refine r_callS (μ := []) E (sp_X10_isWithin l G (a).toInt64 1 (60 : Int32).toInt64 _) my_X10_isWithin is_X10_isWithin ml_X10_80 cm_nil rfl rfl (by decide) (Nat.le_of_ble_eq_true rfl) (dat dkX10_passMinutes 4 rfl) ?_
    rintro _ _ ⟨rfl, hM⟩
    refine ⟨_, Mrg_z hM, ?_⟩
    clear hM
    rw [show iwI (a).toInt64 1 (60 : Int32).toInt64 = 1 from iw_1 (lo := 1) hr.1 hr.2]
    refine r_istore_2 E (dat dkX10_passMinutes 5 rfl) rfl rfl ?_
    refine r_aload_n E (dat dkX10_passMinutes 6 rfl) rfl rfl ?_
    refine r_iload_n E (dat dkX10_passMinutes 7 rfl) rfl rfl ?_
    refine r_iload_n E (dat dkX10_passMinutes 8 rfl) rfl rfl ?_
    refine r_if_eq (tgt := 28) E (dat dkX10_passMinutes 9 rfl) rfl (fun h13 => ?_) (fun h13 => ?_)
    ·
      exact absurd h13 (by decide)
    ·
      refine r_aload_n E (dat dkX10_passMinutes 10 rfl) rfl rfl ?_
      refine r_iload_n E (dat dkX10_passMinutes 11 rfl) rfl rfl ?_
      refine r_callV (κ := 9) (μ := []) E (sp_X10_canPass l G A0 x T a _ md_a hx) my_X10_canPass iv_X10_canPass ml_X10_311 cm_id ⟨by decide, rfl, rfl⟩ rfl rfl rfl rfl (by decide) (Nat.le_of_ble_eq_true rfl) (dat dkX10_passMinutes 12 rfl) ?_
      rintro _ _ ⟨rfl, rfl⟩
      refine ⟨_, Mrg_z rfl, ?_⟩
      rw [if_pos h9]
      refine r_if_eq (tgt := 28) E (dat dkX10_passMinutes 13 rfl) rfl (fun h21 => ?_) (fun h21 => ?_)
      ·
        refine r_iconst (v := 0) E (dat dkX10_passMinutes 16 rfl) rfl ?_
        refine r_iconst (v := 1) E (dat dkX10_passMinutes 17 rfl) rfl ?_
        refine r_callV (κ := 9) (μ := []) E (sp_X10_check l G (1) (0) (1) _) my_X10_check iv_X10_check ml_X10_329 cm_id ⟨by decide, rfl, rfl⟩ rfl rfl rfl rfl (by decide) (Nat.le_of_ble_eq_true rfl) (dat dkX10_passMinutes 18 rfl) ?_
        rintro _ _ ⟨rfl, rfl⟩
        refine ⟨_, Mrg_mt (by decide) rfl, ?_⟩
        rw [show ckI (1) (0) (1) = 2 from rfl, if_neg (by decide)]
        refine r_if_ne (tgt := 38) E (dat dkX10_passMinutes 19 rfl) rfl (fun h33 => ?_) (fun h33 => ?_)
        ·
          exact absurd rfl h33
        ·
          refine r_iconst (v := 0) E (dat dkX10_passMinutes 20 rfl) rfl ?_
          refine r_ireturn E (dat dkX10_passMinutes 21 rfl) (by decide) (by decide) ?_
          exact Or.inr (Or.inr ⟨⟨hr, h9⟩, rfl, rfl⟩)
      ·
        exact absurd rfl h21

set_option maxRecDepth 100000 in
set_option maxHeartbeats 4000000 in
theorem sp_X10_copyTo2 (l : Launch) (G : GT) (A S : Nat → Int32) (M : Mem) (hA : M 0 1 = A) (hS : M 0 2 = S) : MC l G yX10_copyTo cX10_copyTo 3 none ({ frames := 0, cells := 0, slots := 0, locals := 0 } : Room) [9] lk0 [rv 0 0, rv 0 2] (M) (fun r M2 => r = none ∧ M2 = ar 2 M (fil A S 443)) := by
  refine MC.of RX10 [some (rv 0 0), some (rv 0 2), none] 1 (by decide +kernel) rfl rfl rfl ?_
  intro pp ee ss mm aa bb me cd ad E
  obtain ⟨M0, rfl, hA0⟩ : ∃ M0, M = ar 2 M0 S ∧ M0 0 1 = A := ⟨M, (ar_of hS).symm, hA⟩
  clear hA hS
  
  refine r_iconst (v := 0) E (dat dkX10_copyTo 0 rfl) rfl ?_
  refine r_istore_2 E (dat dkX10_copyTo 1 rfl) rfl rfl ?_
  refine r_for (443) (fun _ => True) (fun i => ar 2 M0 (fil A S i)) (fun i => [some (rv 0 0), some (rv 0 2), some (iv (nI i))]) trivial (by rw [fil_0]) rfl ?_ ?_
  · intro i hi hI kk
    refine r_iload_n E (dat dkX10_copyTo 2 rfl) rfl rfl ?_
    refine r_sipush (v := 443) E (dat dkX10_copyTo 3 rfl) rfl ?_
    refine q_icmp_ge (tgt := 24) E (dat dkX10_copyTo 4 rfl) rfl rfl (b := 443) rfl (by omega) (by omega) (fun h6 => ?_) (fun h6 => ?_)
    ·
      omega
    ·
      refine r_aload_n E (dat dkX10_copyTo 5 rfl) rfl rfl ?_
      refine r_iload_n E (dat dkX10_copyTo 6 rfl) rfl rfl ?_
      refine r_aload_n E (dat dkX10_copyTo 7 rfl) rfl rfl ?_
      refine q_geta E fl_X10_9 (dat dkX10_copyTo 8 rfl) rfl rfl rfl ?_
      refine r_iload_n E (dat dkX10_copyTo 9 rfl) rfl rfl ?_
      refine q_iald E (dat dkX10_copyTo 10 rfl) rfl rfl (by decide) (show ar 2 M0 _ 0 1 = A from hA0) rfl (by omega) ?_
      refine q_iast E (dat dkX10_copyTo 11 rfl) rfl rfl (by decide) (show ar 2 M0 _ 0 2 = _ from rfl) (fun _ => ar_s) rfl (by omega) ?_
      refine q_iinc_2 E (dat dkX10_copyTo 12 rfl) rfl rfl ?_
      refine r_goto (tgt := 2) E (dat dkX10_copyTo 13 rfl) rfl ?_
      rw [← fil_upd (f := S) (g := A) (i := i) (v := A i) rfl] at kk
      exact kk trivial
  · intro hI
    refine r_iload_n E (dat dkX10_copyTo 2 rfl) rfl rfl ?_
    refine r_sipush (v := 443) E (dat dkX10_copyTo 3 rfl) rfl ?_
    refine q_icmp_ge (tgt := 24) E (dat dkX10_copyTo 4 rfl) rfl rfl (b := 443) rfl (by omega) (by omega) (fun h6 => ?_) (fun h6 => ?_)
    ·
      refine r_vreturn E (dat dkX10_copyTo 14 rfl) (by decide) (by decide) ?_
      exact ⟨rfl, by rw [ar_ar]⟩
    ·
      omega

set_option maxRecDepth 100000 in
set_option maxHeartbeats 4000000 in
theorem sp_X10_copyFrom2 (l : Launch) (G : GT) (A S : Nat → Int32) (M : Mem) (hA : M 0 1 = A) (hS : M 0 2 = S) : MC l G yX10_copyFrom cX10_copyFrom 3 none ({ frames := 0, cells := 0, slots := 0, locals := 0 } : Room) [9] lk0 [rv 0 0, rv 0 2] (M) (fun r M2 => r = none ∧ M2 = md M (fil S A 443)) := by
  refine MC.of RX10 [some (rv 0 0), some (rv 0 2), none] 1 (by decide +kernel) rfl rfl rfl ?_
  intro pp ee ss mm aa bb me cd ad E
  obtain ⟨M0, rfl, hS0⟩ : ∃ M0, M = md M0 A ∧ M0 0 2 = S := ⟨M, (md_of hA).symm, hS⟩
  clear hA hS
  
  refine r_iconst (v := 0) E (dat dkX10_copyFrom 0 rfl) rfl ?_
  refine r_istore_2 E (dat dkX10_copyFrom 1 rfl) rfl rfl ?_
  refine r_for (443) (fun _ => True) (fun i => md M0 (fil S A i)) (fun i => [some (rv 0 0), some (rv 0 2), some (iv (nI i))]) trivial (by rw [fil_0]) rfl ?_ ?_
  · intro i hi hI kk
    refine r_iload_n E (dat dkX10_copyFrom 2 rfl) rfl rfl ?_
    refine r_sipush (v := 443) E (dat dkX10_copyFrom 3 rfl) rfl ?_
    refine q_icmp_ge (tgt := 24) E (dat dkX10_copyFrom 4 rfl) rfl rfl (b := 443) rfl (by omega) (by omega) (fun h6 => ?_) (fun h6 => ?_)
    ·
      omega
    ·
      refine r_aload_n E (dat dkX10_copyFrom 5 rfl) rfl rfl ?_
      refine q_geta E fl_X10_9 (dat dkX10_copyFrom 6 rfl) rfl rfl rfl ?_
      refine r_iload_n E (dat dkX10_copyFrom 7 rfl) rfl rfl ?_
      refine r_aload_n E (dat dkX10_copyFrom 8 rfl) rfl rfl ?_
      refine r_iload_n E (dat dkX10_copyFrom 9 rfl) rfl rfl ?_
      refine q_iald E (dat dkX10_copyFrom 10 rfl) rfl rfl (by decide) (show md M0 _ 0 2 = S from hS0) rfl (by omega) ?_
      refine q_iast E (dat dkX10_copyFrom 11 rfl) rfl rfl (by decide) md_a (fun _ => md_s) rfl (by omega) ?_
      refine q_iinc_2 E (dat dkX10_copyFrom 12 rfl) rfl rfl ?_
      refine r_goto (tgt := 2) E (dat dkX10_copyFrom 13 rfl) rfl ?_
      rw [← fil_upd (f := A) (g := S) (i := i) (v := S i) rfl] at kk
      exact kk trivial
  · intro hI
    refine r_iload_n E (dat dkX10_copyFrom 2 rfl) rfl rfl ?_
    refine r_sipush (v := 443) E (dat dkX10_copyFrom 3 rfl) rfl ?_
    refine q_icmp_ge (tgt := 24) E (dat dkX10_copyFrom 4 rfl) rfl rfl (b := 443) rfl (by omega) (by omega) (fun h6 => ?_) (fun h6 => ?_)
    ·
      refine r_vreturn E (dat dkX10_copyFrom 14 rfl) (by decide) (by decide) ?_
      exact ⟨rfl, by rw [md_md]⟩
    ·
      omega

set_option maxRecDepth 100000 in
set_option maxHeartbeats 4000000 in
theorem sp_X10_copyTo3 (l : Launch) (G : GT) (A S : Nat → Int32) (M : Mem) (hA : M 0 1 = A) (hS : M 0 3 = S) : MC l G yX10_copyTo cX10_copyTo 3 none ({ frames := 0, cells := 0, slots := 0, locals := 0 } : Room) [9] lk0 [rv 0 0, rv 0 3] (M) (fun r M2 => r = none ∧ M2 = ar 3 M (fil A S 443)) := by
  refine MC.of RX10 [some (rv 0 0), some (rv 0 3), none] 1 (by decide +kernel) rfl rfl rfl ?_
  intro pp ee ss mm aa bb me cd ad E
  obtain ⟨M0, rfl, hA0⟩ : ∃ M0, M = ar 3 M0 S ∧ M0 0 1 = A := ⟨M, (ar_of hS).symm, hA⟩
  clear hA hS
  
  refine r_iconst (v := 0) E (dat dkX10_copyTo 0 rfl) rfl ?_
  refine r_istore_2 E (dat dkX10_copyTo 1 rfl) rfl rfl ?_
  refine r_for (443) (fun _ => True) (fun i => ar 3 M0 (fil A S i)) (fun i => [some (rv 0 0), some (rv 0 3), some (iv (nI i))]) trivial (by rw [fil_0]) rfl ?_ ?_
  · intro i hi hI kk
    refine r_iload_n E (dat dkX10_copyTo 2 rfl) rfl rfl ?_
    refine r_sipush (v := 443) E (dat dkX10_copyTo 3 rfl) rfl ?_
    refine q_icmp_ge (tgt := 24) E (dat dkX10_copyTo 4 rfl) rfl rfl (b := 443) rfl (by omega) (by omega) (fun h6 => ?_) (fun h6 => ?_)
    ·
      omega
    ·
      refine r_aload_n E (dat dkX10_copyTo 5 rfl) rfl rfl ?_
      refine r_iload_n E (dat dkX10_copyTo 6 rfl) rfl rfl ?_
      refine r_aload_n E (dat dkX10_copyTo 7 rfl) rfl rfl ?_
      refine q_geta E fl_X10_9 (dat dkX10_copyTo 8 rfl) rfl rfl rfl ?_
      refine r_iload_n E (dat dkX10_copyTo 9 rfl) rfl rfl ?_
      refine q_iald E (dat dkX10_copyTo 10 rfl) rfl rfl (by decide) (show ar 3 M0 _ 0 1 = A from hA0) rfl (by omega) ?_
      refine q_iast E (dat dkX10_copyTo 11 rfl) rfl rfl (by decide) (show ar 3 M0 _ 0 3 = _ from rfl) (fun _ => ar_s) rfl (by omega) ?_
      refine q_iinc_2 E (dat dkX10_copyTo 12 rfl) rfl rfl ?_
      refine r_goto (tgt := 2) E (dat dkX10_copyTo 13 rfl) rfl ?_
      rw [← fil_upd (f := S) (g := A) (i := i) (v := A i) rfl] at kk
      exact kk trivial
  · intro hI
    refine r_iload_n E (dat dkX10_copyTo 2 rfl) rfl rfl ?_
    refine r_sipush (v := 443) E (dat dkX10_copyTo 3 rfl) rfl ?_
    refine q_icmp_ge (tgt := 24) E (dat dkX10_copyTo 4 rfl) rfl rfl (b := 443) rfl (by omega) (by omega) (fun h6 => ?_) (fun h6 => ?_)
    ·
      refine r_vreturn E (dat dkX10_copyTo 14 rfl) (by decide) (by decide) ?_
      exact ⟨rfl, by rw [ar_ar]⟩
    ·
      omega

set_option maxRecDepth 100000 in
set_option maxHeartbeats 4000000 in
theorem sp_X10_copyFrom3 (l : Launch) (G : GT) (A S : Nat → Int32) (M : Mem) (hA : M 0 1 = A) (hS : M 0 3 = S) : MC l G yX10_copyFrom cX10_copyFrom 3 none ({ frames := 0, cells := 0, slots := 0, locals := 0 } : Room) [9] lk0 [rv 0 0, rv 0 3] (M) (fun r M2 => r = none ∧ M2 = md M (fil S A 443)) := by
  refine MC.of RX10 [some (rv 0 0), some (rv 0 3), none] 1 (by decide +kernel) rfl rfl rfl ?_
  intro pp ee ss mm aa bb me cd ad E
  obtain ⟨M0, rfl, hS0⟩ : ∃ M0, M = md M0 A ∧ M0 0 3 = S := ⟨M, (md_of hA).symm, hS⟩
  clear hA hS
  
  refine r_iconst (v := 0) E (dat dkX10_copyFrom 0 rfl) rfl ?_
  refine r_istore_2 E (dat dkX10_copyFrom 1 rfl) rfl rfl ?_
  refine r_for (443) (fun _ => True) (fun i => md M0 (fil S A i)) (fun i => [some (rv 0 0), some (rv 0 3), some (iv (nI i))]) trivial (by rw [fil_0]) rfl ?_ ?_
  · intro i hi hI kk
    refine r_iload_n E (dat dkX10_copyFrom 2 rfl) rfl rfl ?_
    refine r_sipush (v := 443) E (dat dkX10_copyFrom 3 rfl) rfl ?_
    refine q_icmp_ge (tgt := 24) E (dat dkX10_copyFrom 4 rfl) rfl rfl (b := 443) rfl (by omega) (by omega) (fun h6 => ?_) (fun h6 => ?_)
    ·
      omega
    ·
      refine r_aload_n E (dat dkX10_copyFrom 5 rfl) rfl rfl ?_
      refine q_geta E fl_X10_9 (dat dkX10_copyFrom 6 rfl) rfl rfl rfl ?_
      refine r_iload_n E (dat dkX10_copyFrom 7 rfl) rfl rfl ?_
      refine r_aload_n E (dat dkX10_copyFrom 8 rfl) rfl rfl ?_
      refine r_iload_n E (dat dkX10_copyFrom 9 rfl) rfl rfl ?_
      refine q_iald E (dat dkX10_copyFrom 10 rfl) rfl rfl (by decide) (show md M0 _ 0 3 = S from hS0) rfl (by omega) ?_
      refine q_iast E (dat dkX10_copyFrom 11 rfl) rfl rfl (by decide) md_a (fun _ => md_s) rfl (by omega) ?_
      refine q_iinc_2 E (dat dkX10_copyFrom 12 rfl) rfl rfl ?_
      refine r_goto (tgt := 2) E (dat dkX10_copyFrom 13 rfl) rfl ?_
      rw [← fil_upd (f := A) (g := S) (i := i) (v := S i) rfl] at kk
      exact kk trivial
  · intro hI
    refine r_iload_n E (dat dkX10_copyFrom 2 rfl) rfl rfl ?_
    refine r_sipush (v := 443) E (dat dkX10_copyFrom 3 rfl) rfl ?_
    refine q_icmp_ge (tgt := 24) E (dat dkX10_copyFrom 4 rfl) rfl rfl (b := 443) rfl (by omega) (by omega) (fun h6 => ?_) (fun h6 => ?_)
    ·
      refine r_vreturn E (dat dkX10_copyFrom 14 rfl) (by decide) (by decide) ?_
      exact ⟨rfl, by rw [md_md]⟩
    ·
      omega

def isR (M : Mem) (v : Int32) : Mem := setm M 0 (sett (M 0) 0 (upd (M 0 0) 5 v))
def pcR (M : Mem) (v : Int32) : Mem := setm M 0 (sett (M 0) 0 (upd (M 0 0) 4 v))
set_option maxRecDepth 100000 in
set_option maxHeartbeats 4000000 in
theorem sp_X10_saveState (l : Launch) (G : GT) (A S : Nat → Int32) (M : Mem) (hA : M 0 1 = A) (hS : M 0 3 = S) : MC l G yX10_saveState cX10_saveState 1 (some .int) ({ frames := 1, cells := 0, slots := 0, locals := 22 } : Room) [9] lk0 [rv 0 0] (M) (fun r M2 => r = some (iv (A 0)) ∧ M2 = isR (ar 3 (mt M 0) (fil A S 443)) 1) := by
  refine MC.of RX10 [some (rv 0 0)] 0 (by decide +kernel) rfl rfl rfl ?_
  intro pp ee ss mm aa bb me cd ad E
  refine r_aload_n E (dat dkX10_saveState 0 rfl) rfl rfl ?_
  refine r_iconst (v := 0) E (dat dkX10_saveState 1 rfl) rfl ?_
  refine q_putn E ft_X10_67 (dat dkX10_saveState 2 rfl) rfl rfl rfl rfl ?_
  refine r_aload_n E (dat dkX10_saveState 3 rfl) rfl rfl ?_
  refine r_aload_n E (dat dkX10_saveState 4 rfl) rfl rfl ?_
  refine q_geta E fl_X10_16 (dat dkX10_saveState 5 rfl) rfl rfl rfl ?_
  refine r_callV (κ := 9) (μ := []) E (sp_X10_copyTo3 l G A S _ hA hS) my_X10_copyTo iv_X10_copyTo ml_X10_236 cm_id ⟨by decide, rfl, rfl⟩ rfl rfl rfl rfl (by decide) (Nat.le_of_ble_eq_true rfl) (dat dkX10_saveState 6 rfl) ?_
  rintro _ _ ⟨rfl, rfl⟩
  refine ⟨_, Mrg_ar (by decide) rfl, ?_⟩
  refine r_aload_n E (dat dkX10_saveState 7 rfl) rfl rfl ?_
  refine r_iconst (v := 1) E (dat dkX10_saveState 8 rfl) rfl ?_
  refine q_putz E ft_X10_255 (dat dkX10_saveState 9 rfl) rfl rfl rfl rfl rfl rfl ?_
  refine r_aload_n E (dat dkX10_saveState 10 rfl) rfl rfl ?_
  refine q_geta E fl_X10_9 (dat dkX10_saveState 11 rfl) rfl rfl rfl ?_
  refine r_iconst (v := 0) E (dat dkX10_saveState 12 rfl) rfl ?_
  refine q_iald E (dat dkX10_saveState 13 rfl) rfl rfl (by decide) (show _ = A from hA) (show _ = nI 0 from rfl) (by omega) ?_
  refine r_ireturn E (dat dkX10_saveState 14 rfl) (by decide) (by decide) ?_
  exact ⟨rfl, rfl⟩

set_option maxRecDepth 100000 in
set_option maxHeartbeats 4000000 in
theorem sp_X10_restoreState (l : Launch) (G : GT) (A S : Nat → Int32) (M : Mem) (hA : M 0 1 = A) (hS : M 0 3 = S) : MC l G yX10_restoreState cX10_restoreState 1 (some .int) ({ frames := 1, cells := 0, slots := 0, locals := 23 } : Room) [9] lk0 [rv 0 0] (M) (fun r M2 => (¬ M 0 0 5 = 0 ∧ M2 = pcR (md (mt M 0) (fil S A 443)) 0 ∧ r = some (iv (fil S A 443 0))) ∨ (M 0 0 5 = 0 ∧ M2 = mt M 1 ∧ r = some (iv 0))) := by
  refine MC.of RX10 [some (rv 0 0)] 0 (by decide +kernel) rfl rfl rfl ?_
  intro pp ee ss mm aa bb me cd ad E
  by_cases h0 : M 0 0 5 = 0
  ·
    refine r_aload_n E (dat dkX10_restoreState 0 rfl) rfl rfl ?_
    refine r_aload_n E (dat dkX10_restoreState 1 rfl) rfl rfl ?_
    refine q_getn E fl_X10_255 (dat dkX10_restoreState 2 rfl) rfl rfl rfl rfl ?_
    refine r_iconst (v := 1) E (dat dkX10_restoreState 3 rfl) rfl ?_
    refine r_iconst (v := 1) E (dat dkX10_restoreState 4 rfl) rfl ?_
    refine r_callV (κ := 9) (μ := []) E (sp_X10_check l G (M 0 0 5) 1 1 _) my_X10_check iv_X10_check ml_X10_329 cm_id ⟨by decide, rfl, rfl⟩ rfl rfl rfl rfl (by decide) (Nat.le_of_ble_eq_true rfl) (dat dkX10_restoreState 5 rfl) ?_
    rintro _ _ ⟨rfl, rfl⟩
    refine ⟨_, Mrg_mt (by decide) rfl, ?_⟩
    rw [show ckI (M 0 0 5) 1 1 = 1 from if_pos h0, if_neg (by decide)]
    refine r_if_ne (tgt := 15) E (dat dkX10_restoreState 6 rfl) rfl (fun h10 => ?_) (fun h10 => ?_)
    ·
      exact absurd rfl h10
    ·
      refine r_iconst (v := 0) E (dat dkX10_restoreState 7 rfl) rfl ?_
      refine r_ireturn E (dat dkX10_restoreState 8 rfl) (by decide) (by decide) ?_
      exact Or.inr ⟨h0, rfl, rfl⟩
  ·
    refine r_aload_n E (dat dkX10_restoreState 0 rfl) rfl rfl ?_
    refine r_aload_n E (dat dkX10_restoreState 1 rfl) rfl rfl ?_
    refine q_getn E fl_X10_255 (dat dkX10_restoreState 2 rfl) rfl rfl rfl rfl ?_
    refine r_iconst (v := 1) E (dat dkX10_restoreState 3 rfl) rfl ?_
    refine r_iconst (v := 1) E (dat dkX10_restoreState 4 rfl) rfl ?_
    refine r_callV (κ := 9) (μ := []) E (sp_X10_check l G (M 0 0 5) 1 1 _) my_X10_check iv_X10_check ml_X10_329 cm_id ⟨by decide, rfl, rfl⟩ rfl rfl rfl rfl (by decide) (Nat.le_of_ble_eq_true rfl) (dat dkX10_restoreState 5 rfl) ?_
    rintro _ _ ⟨rfl, rfl⟩
    refine ⟨_, Mrg_mt (by decide) rfl, ?_⟩
    rw [show ckI (M 0 0 5) 1 1 = 0 from if_neg h0, if_pos rfl]
    refine r_if_ne (tgt := 15) E (dat dkX10_restoreState 6 rfl) rfl (fun h10 => ?_) (fun h10 => ?_)
    ·
      refine r_aload_n E (dat dkX10_restoreState 9 rfl) rfl rfl ?_
      refine r_aload_n E (dat dkX10_restoreState 10 rfl) rfl rfl ?_
      refine q_geta E fl_X10_16 (dat dkX10_restoreState 11 rfl) rfl rfl rfl ?_
      refine r_callV (κ := 9) (μ := []) E (sp_X10_copyFrom3 l G A S _ hA hS) my_X10_copyFrom iv_X10_copyFrom ml_X10_252 cm_id ⟨by decide, rfl, rfl⟩ rfl rfl rfl rfl (by decide) (Nat.le_of_ble_eq_true rfl) (dat dkX10_restoreState 12 rfl) ?_
      rintro _ _ ⟨rfl, rfl⟩
      refine ⟨_, Mrg_md2 (by decide) rfl, ?_⟩
      refine r_aload_n E (dat dkX10_restoreState 13 rfl) rfl rfl ?_
      refine r_iconst (v := 0) E (dat dkX10_restoreState 14 rfl) rfl ?_
      refine q_putn E ft_X10_70 (dat dkX10_restoreState 15 rfl) rfl rfl rfl rfl ?_
      refine r_aload_n E (dat dkX10_restoreState 16 rfl) rfl rfl ?_
      refine q_geta E fl_X10_9 (dat dkX10_restoreState 17 rfl) rfl rfl rfl ?_
      refine r_iconst (v := 0) E (dat dkX10_restoreState 18 rfl) rfl ?_
      refine q_iald E (dat dkX10_restoreState 19 rfl) rfl rfl (by decide) (show _ = fil S A 443 from rfl) (show _ = nI 0 from rfl) (by omega) ?_
      refine r_ireturn E (dat dkX10_restoreState 20 rfl) (by decide) (by decide) ?_
      exact Or.inl ⟨h0, rfl, rfl⟩
    ·
      exact absurd h10 (by decide)
