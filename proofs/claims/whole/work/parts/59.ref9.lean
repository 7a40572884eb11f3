theorem ck_0 {b d : Int32} : ckI 0 b d = 1 := if_pos rfl
theorem ck_1 {d : Int32} : ckI 1 0 d = 2 := (if_neg (by decide)).trans (if_pos rfl)
/-- an array of the reference -/
def ar (t : Nat) (M : Mem) (S : Nat → Int32) : Mem := setm M 0 (sett (M 0) t S)
theorem ar_s {t : Nat} {M : Mem} {S f : Nat → Int32} : setm (ar t M S) 0 (sett (ar t M S 0) t f) = ar t M f := by
  unfold ar
  rw [setm_setm, setm_s, sett_sett]
theorem ar_of {t : Nat} {M : Mem} {S : Nat → Int32} (h : M 0 t = S) : ar t M S = M := by
  funext g
  unfold ar setm
  split
  · rename_i h0
    subst h0
    funext u
    unfold sett
    split
    · rename_i h1; rw [h1, h]
    · rfl
  · rfl
theorem ar_ar {t : Nat} {M : Mem} {S S2 : Nat → Int32} : ar t (ar t M S) S2 = ar t M S2 := by
  unfold ar
  rw [setm_setm, setm_s, sett_sett]
theorem Mrg_ar {N t : Nat} {M M1 : Mem} {S : Nat → Int32} (hN : 0 < N) (h1 : M1 = ar t (vw [] M) S) : Mrg N [] M M1 (ar t M S) := Mrg_e (i := 0) (fun j _ h => h) hN rfl h1
set_option maxRecDepth 100000 in
set_option maxHeartbeats 8000000 in
theorem sp_X10_burst (l : Launch) (G : GT) (A0 : Nat → Int32) (x : PP) (T : Nat → Nat → Int32) (P : Nat → Int32) (k : Nat) (a d f : Int32) (M : Mem) (hA : M 0 1 = enc A0 x T) (hx : PIv x) (hP : M 0 4 = P) (hk : M 0 0 4 = nI k) (hk8 : k ≤ 8) : MC l G yX10_burst cX10_burst 6 (some .int) ({ frames := 4, cells := 0, slots := 0, locals := 87 } : Room) [9] lk0 [rv 0 0, iv a, iv d, iv f] (M) (fun r M2 => (∃ c, c < x.1.2.2 ∧ a = nI c ∧ (1 ≤ d ∧ d ≤ 20) ∧ (1 ≤ f ∧ f ≤ 60) ∧ T 4 c = 0 ∧ M2 = md (rmM (mt M 0) P (enc A0 x T) k) (enc A0 x (opT T c d f)) ∧ r = some (iv (sm (cO (opT T c d f 4)) x.1.2.2))) ∨ (¬ okc x a ∧ M2 = mt M 1 ∧ r = some (iv 0)) ∨ ((okc x a ∧ ¬ ((1 ≤ d ∧ d ≤ 20) ∧ (1 ≤ f ∧ f ≤ 60))) ∧ M2 = mt M 2 ∧ r = some (iv 0)) ∨ ((∃ c, c < x.1.2.2 ∧ a = nI c ∧ (1 ≤ d ∧ d ≤ 20) ∧ (1 ≤ f ∧ f ≤ 60) ∧ ¬ T 4 c = 0) ∧ M2 = mt M 3 ∧ r = some (iv 0))) := by
  refine MC.of RX10 [some (rv 0 0), some (iv a), some (iv d), some (iv f), none, none] 2 (by decide +kernel) rfl rfl rfl ?_
  intro pp ee ss mm aa bb me cd ad E
  obtain ⟨M0, rfl⟩ : ∃ M0, M = md M0 (enc A0 x T) := ⟨M, (md_of hA).symm⟩
  clear hA
  have hn64 := (PIv_z hx).1
  
  rcases (show (∃ c, c < x.1.2.2 ∧ a = nI c ∧ (1 ≤ d ∧ d ≤ 20) ∧ (1 ≤ f ∧ f ≤ 60) ∧ T 4 c = 0) ∨ (¬ okc x a) ∨ (okc x a ∧ ¬ (1 ≤ d ∧ d ≤ 20)) ∨ ((okc x a ∧ ¬ (1 ≤ f ∧ f ≤ 60)) ∧ (1 ≤ d ∧ d ≤ 20)) ∨ (∃ c, c < x.1.2.2 ∧ a = nI c ∧ (1 ≤ d ∧ d ≤ 20) ∧ (1 ≤ f ∧ f ≤ 60) ∧ ¬ T 4 c = 0) by
        by_cases g1 : okc x a
        · by_cases g2 : (1 ≤ d ∧ d ≤ 20)
          · by_cases g3 : (1 ≤ f ∧ f ≤ 60)
            · obtain ⟨c, hc, he⟩ := g1
              by_cases g4 : T 4 c = 0
              · exact Or.inl ⟨c, hc, he, g2, g3, g4⟩
              · exact Or.inr (Or.inr (Or.inr (Or.inr ⟨c, hc, he, g2, g3, g4⟩)))
            · exact Or.inr (Or.inr (Or.inr (Or.inl ⟨⟨g1, g3⟩, g2⟩)))
          · exact Or.inr (Or.inr (Or.inl ⟨g1, g2⟩))
        · exact Or.inr (Or.inl g1)) with ⟨c, hc, rfl, hr, hr2, h4⟩ | hko | ⟨hko, hr⟩ | ⟨⟨hko, hr2⟩, hr⟩ | ⟨c, hc, rfl, hr, hr2, h4⟩
  ·
    refine r_aload_n E (dat dkX10_burst 0 rfl) rfl rfl ?_
    refine r_iload_n E (dat dkX10_burst 1 rfl) rfl rfl ?_
    refine r_callV (κ := 9) (μ := []) E (sp_X10_isCell l G A0 x T (nI c) _ md_a hx) my_X10_isCell iv_X10_isCell ml_X10_326 cm_id ⟨by decide, rfl, rfl⟩ rfl rfl rfl rfl (by decide) (Nat.le_of_ble_eq_true rfl) (dat dkX10_burst 2 rfl) ?_
    rintro _ _ ⟨rfl, rfl⟩
    refine ⟨_, Mrg_z rfl, ?_⟩
    rw [ic_1 hx ⟨c, hc, rfl⟩]
    refine r_istore_4 E (dat dkX10_burst 3 rfl) rfl rfl ?_
    refine r_iload_n E (dat dkX10_burst 4 rfl) rfl rfl ?_
    refine r_i2l E (dat dkX10_burst 5 rfl) ?_
    refine r_lconst E (dat dkX10_burst 6 rfl) rfl ?_
    refine r_ldc2 E cl_398 (dat dkX10_burst 7 rfl) ?_
    refine r_callS (μ := []) E (sp_X10_isWithin l G (d).toInt64 1 (20 : Int32).toInt64 _) my_X10_isWithin is_X10_isWithin ml_X10_80 cm_nil rfl rfl (by decide) (Nat.le_of_ble_eq_true rfl) (dat dkX10_burst 8 rfl) ?_
    rintro _ _ ⟨rfl, hM⟩
    refine ⟨_, Mrg_z hM, ?_⟩
    clear hM
    rw [show iwI (d).toInt64 1 (20 : Int32).toInt64 = 1 from iw_1 (lo := 1) hr.1 hr.2]
    refine r_if_eq (tgt := 35) E (dat dkX10_burst 9 rfl) rfl (fun h16 => ?_) (fun h16 => ?_)
    ·
      exact absurd h16 (by decide)
    ·
      refine r_iload_n E (dat dkX10_burst 10 rfl) rfl rfl ?_
      refine r_i2l E (dat dkX10_burst 11 rfl) ?_
      refine r_lconst E (dat dkX10_burst 12 rfl) rfl ?_
      refine r_ldc2 E cl_400 (dat dkX10_burst 13 rfl) ?_
      refine r_callS (μ := []) E (sp_X10_isWithin l G (f).toInt64 1 (60 : Int32).toInt64 _) my_X10_isWithin is_X10_isWithin ml_X10_80 cm_nil rfl rfl (by decide) (Nat.le_of_ble_eq_true rfl) (dat dkX10_burst 14 rfl) ?_
      rintro _ _ ⟨rfl, hM⟩
      refine ⟨_, Mrg_z hM, ?_⟩
      clear hM
      rw [show iwI (f).toInt64 1 (60 : Int32).toInt64 = 1 from iw_1 (lo := 1) hr2.1 hr2.2]
      refine r_if_eq (tgt := 35) E (dat dkX10_burst 15 rfl) rfl (fun h28 => ?_) (fun h28 => ?_)
      ·
        exact absurd h28 (by decide)
      ·
        refine r_iconst (v := 1) E (dat dkX10_burst 16 rfl) rfl ?_
        refine r_goto (tgt := 36) E (dat dkX10_burst 17 rfl) rfl ?_
        refine r_istore_5 E (dat dkX10_burst 19 rfl) rfl rfl ?_
        refine r_aload_n E (dat dkX10_burst 20 rfl) rfl rfl ?_
        refine r_iload E (dat dkX10_burst 21 rfl) rfl ?_
        refine r_iload E (dat dkX10_burst 22 rfl) rfl ?_
        refine r_iload E (dat dkX10_burst 23 rfl) rfl ?_
        refine r_if_eq (tgt := 61) E (dat dkX10_burst 24 rfl) rfl (fun h45 => ?_) (fun h45 => ?_)
        ·
          exact absurd h45 (by decide)
        ·
          refine r_aload_n E (dat dkX10_burst 25 rfl) rfl rfl ?_
          refine r_iload_n E (dat dkX10_burst 26 rfl) rfl rfl ?_
          refine r_iconst (v := 5) E (dat dkX10_burst 27 rfl) rfl ?_
          refine r_callV (κ := 9) (μ := []) E (sp_X10_get l G c 5 _ _ md_a (by omega) (by decide)) my_X10_get iv_X10_get ml_X10_76 cm_id ⟨by decide, rfl, rfl⟩ rfl rfl rfl rfl (by decide) (Nat.le_of_ble_eq_true rfl) (dat dkX10_burst 28 rfl) ?_
          rintro _ _ ⟨rfl, rfl⟩
          refine ⟨_, Mrg_z rfl, ?_⟩
          rw [e_t hc hn64]
          refine r_if_ne (tgt := 61) E (dat dkX10_burst 29 rfl) rfl (fun h54 => ?_) (fun h54 => ?_)
          ·
            exact absurd h4 h54
          ·
            refine r_iconst (v := 1) E (dat dkX10_burst 30 rfl) rfl ?_
            refine r_goto (tgt := 62) E (dat dkX10_burst 31 rfl) rfl ?_
            refine r_callV (κ := 9) (μ := []) E (sp_X10_check l G (1) (1) (1) _) my_X10_check iv_X10_check ml_X10_329 cm_id ⟨by decide, rfl, rfl⟩ rfl rfl rfl rfl (by decide) (Nat.le_of_ble_eq_true rfl) (dat dkX10_burst 33 rfl) ?_
            rintro _ _ ⟨rfl, rfl⟩
            refine ⟨_, Mrg_mt (by decide) rfl, ?_⟩
            rw [show ckI (1) (1) (1) = 0 from rfl, if_pos rfl]
            refine r_if_ne (tgt := 70) E (dat dkX10_burst 34 rfl) rfl (fun h65 => ?_) (fun h65 => ?_)
            ·
              refine r_aload_n E (dat dkX10_burst 37 rfl) rfl rfl ?_
              refine r_callV (κ := 9) (μ := []) E (sp_X10_remember l G P (enc A0 x T) k _ hP hk rfl hk8) my_X10_remember iv_X10_remember ml_X10_320 cm_id ⟨by decide, rfl, rfl⟩ rfl rfl rfl rfl (by decide) (Nat.le_of_ble_eq_true rfl) (dat dkX10_burst 38 rfl) ?_
              rintro _ _ ⟨rfl, rfl⟩
              refine ⟨_, Mrg_rm (by decide) rfl, ?_⟩
              refine r_aload_n E (dat dkX10_burst 39 rfl) rfl rfl ?_
              refine r_iload_n E (dat dkX10_burst 40 rfl) rfl rfl ?_
              refine r_iload_n E (dat dkX10_burst 41 rfl) rfl rfl ?_
              refine r_iload_n E (dat dkX10_burst 42 rfl) rfl rfl ?_
              refine r_callV (κ := 9) (μ := []) E (sp_X10_openHydrant l G A0 x T c d f _ rfl hx hc) my_X10_openHydrant iv_X10_openHydrant ml_X10_285 cm_id ⟨by decide, rfl, rfl⟩ rfl rfl rfl rfl (by decide) (Nat.le_of_ble_eq_true rfl) (dat dkX10_burst 43 rfl) ?_
              rintro _ _ ⟨rfl, rfl⟩
              refine ⟨_, Mrg_md2 (by decide) rfl, ?_⟩
              refine r_ireturn E (dat dkX10_burst 44 rfl) (by decide) (by decide) ?_
              exact Or.inl ⟨c, hc, rfl, hr, hr2, h4, rfl, rfl⟩
            ·
              exact absurd h65 (by decide)
  ·
    refine r_aload_n E (dat dkX10_burst 0 rfl) rfl rfl ?_
    refine r_iload_n E (dat dkX10_burst 1 rfl) rfl rfl ?_
    refine r_callV (κ := 9) (μ := []) E (sp_X10_isCell l G A0 x T a _ md_a hx) my_X10_isCell iv_X10_isCell ml_X10_326 cm_id ⟨by decide, rfl, rfl⟩ rfl rfl rfl rfl (by decide) (Nat.le_of_ble_eq_true rfl) (dat dkX10_burst 2 rfl) ?_
    rintro _ _ ⟨rfl, rfl⟩
    refine ⟨_, Mrg_z rfl, ?_⟩
    rw [ic_0 hx hko]
    refine r_istore_4 E (dat dkX10_burst 3 rfl) rfl rfl ?_
    refine r_iload_n E (dat dkX10_burst 4 rfl) rfl rfl ?_
    refine r_i2l E (dat dkX10_burst 5 rfl) ?_
    refine r_lconst E (dat dkX10_burst 6 rfl) rfl ?_
    refine r_ldc2 E cl_398 (dat dkX10_burst 7 rfl) ?_
    refine r_callS (μ := []) E (sp_X10_isWithin l G (d).toInt64 1 (20 : Int32).toInt64 _) my_X10_isWithin is_X10_isWithin ml_X10_80 cm_nil rfl rfl (by decide) (Nat.le_of_ble_eq_true rfl) (dat dkX10_burst 8 rfl) ?_
    rintro _ _ ⟨rfl, hM⟩
    refine ⟨_, Mrg_z hM, ?_⟩
    clear hM
    refine r_if_eq (tgt := 35) E (dat dkX10_burst 9 rfl) rfl (fun h16 => ?_) (fun h16 => ?_)
    ·
      refine r_iconst (v := 0) E (dat dkX10_burst 18 rfl) rfl ?_
      refine r_istore_5 E (dat dkX10_burst 19 rfl) rfl rfl ?_
      refine r_aload_n E (dat dkX10_burst 20 rfl) rfl rfl ?_
      refine r_iload E (dat dkX10_burst 21 rfl) rfl ?_
      refine r_iload E (dat dkX10_burst 22 rfl) rfl ?_
      refine r_iload E (dat dkX10_burst 23 rfl) rfl ?_
      refine r_if_eq (tgt := 61) E (dat dkX10_burst 24 rfl) rfl (fun h45 => ?_) (fun h45 => ?_)
      ·
        refine r_iconst (v := 0) E (dat dkX10_burst 32 rfl) rfl ?_
        refine r_callV (κ := 9) (μ := []) E (sp_X10_check l G (0) _ _ _) my_X10_check iv_X10_check ml_X10_329 cm_id ⟨by decide, rfl, rfl⟩ rfl rfl rfl rfl (by decide) (Nat.le_of_ble_eq_true rfl) (dat dkX10_burst 33 rfl) ?_
        rintro _ _ ⟨rfl, rfl⟩
        refine ⟨_, Mrg_mt (by decide) rfl, ?_⟩
        rw [ck_0, if_neg (by decide)]
        refine r_if_ne (tgt := 70) E (dat dkX10_burst 34 rfl) rfl (fun h65 => ?_) (fun h65 => ?_)
        ·
          exact absurd rfl h65
        ·
          refine r_iconst (v := 0) E (dat dkX10_burst 35 rfl) rfl ?_
          refine r_ireturn E (dat dkX10_burst 36 rfl) (by decide) (by decide) ?_
          exact Or.inr (Or.inl ⟨hko, rfl, rfl⟩)
      ·
        exact absurd rfl h45
    ·
      refine r_iload_n E (dat dkX10_burst 10 rfl) rfl rfl ?_
      refine r_i2l E (dat dkX10_burst 11 rfl) ?_
      refine r_lconst E (dat dkX10_burst 12 rfl) rfl ?_
      refine r_ldc2 E cl_400 (dat dkX10_burst 13 rfl) ?_
      refine r_callS (μ := []) E (sp_X10_isWithin l G (f).toInt64 1 (60 : Int32).toInt64 _) my_X10_isWithin is_X10_isWithin ml_X10_80 cm_nil rfl rfl (by decide) (Nat.le_of_ble_eq_true rfl) (dat dkX10_burst 14 rfl) ?_
      rintro _ _ ⟨rfl, hM⟩
      refine ⟨_, Mrg_z hM, ?_⟩
      clear hM
      refine r_if_eq (tgt := 35) E (dat dkX10_burst 15 rfl) rfl (fun h28 => ?_) (fun h28 => ?_)
      ·
        refine r_iconst (v := 0) E (dat dkX10_burst 18 rfl) rfl ?_
        refine r_istore_5 E (dat dkX10_burst 19 rfl) rfl rfl ?_
        refine r_aload_n E (dat dkX10_burst 20 rfl) rfl rfl ?_
        refine r_iload E (dat dkX10_burst 21 rfl) rfl ?_
        refine r_iload E (dat dkX10_burst 22 rfl) rfl ?_
        refine r_iload E (dat dkX10_burst 23 rfl) rfl ?_
        refine r_if_eq (tgt := 61) E (dat dkX10_burst 24 rfl) rfl (fun h45 => ?_) (fun h45 => ?_)
        ·
          refine r_iconst (v := 0) E (dat dkX10_burst 32 rfl) rfl ?_
          refine r_callV (κ := 9) (μ := []) E (sp_X10_check l G (0) _ _ _) my_X10_check iv_X10_check ml_X10_329 cm_id ⟨by decide, rfl, rfl⟩ rfl rfl rfl rfl (by decide) (Nat.le_of_ble_eq_true rfl) (dat dkX10_burst 33 rfl) ?_
          rintro _ _ ⟨rfl, rfl⟩
          refine ⟨_, Mrg_mt (by decide) rfl, ?_⟩
          rw [ck_0, if_neg (by decide)]
          refine r_if_ne (tgt := 70) E (dat dkX10_burst 34 rfl) rfl (fun h65 => ?_) (fun h65 => ?_)
          ·
            exact absurd rfl h65
          ·
            refine r_iconst (v := 0) E (dat dkX10_burst 35 rfl) rfl ?_
            refine r_ireturn E (dat dkX10_burst 36 rfl) (by decide) (by decide) ?_
            exact Or.inr (Or.inl ⟨hko, rfl, rfl⟩)
        ·
          exact absurd rfl h45
      ·
        refine r_iconst (v := 1) E (dat dkX10_burst 16 rfl) rfl ?_
        refine r_goto (tgt := 36) E (dat dkX10_burst 17 rfl) rfl ?_
        refine r_istore_5 E (dat dkX10_burst 19 rfl) rfl rfl ?_
        refine r_aload_n E (dat dkX10_burst 20 rfl) rfl rfl ?_
        refine r_iload E (dat dkX10_burst 21 rfl) rfl ?_
        refine r_iload E (dat dkX10_burst 22 rfl) rfl ?_
        refine r_iload E (dat dkX10_burst 23 rfl) rfl ?_
        refine r_if_eq (tgt := 61) E (dat dkX10_burst 24 rfl) rfl (fun h45 => ?_) (fun h45 => ?_)
        ·
          refine r_iconst (v := 0) E (dat dkX10_burst 32 rfl) rfl ?_
          refine r_callV (κ := 9) (μ := []) E (sp_X10_check l G (0) _ _ _) my_X10_check iv_X10_check ml_X10_329 cm_id ⟨by decide, rfl, rfl⟩ rfl rfl rfl rfl (by decide) (Nat.le_of_ble_eq_true rfl) (dat dkX10_burst 33 rfl) ?_
          rintro _ _ ⟨rfl, rfl⟩
          refine ⟨_, Mrg_mt (by decide) rfl, ?_⟩
          rw [ck_0, if_neg (by decide)]
          refine r_if_ne (tgt := 70) E (dat dkX10_burst 34 rfl) rfl (fun h65 => ?_) (fun h65 => ?_)
          ·
            exact absurd rfl h65
          ·
            refine r_iconst (v := 0) E (dat dkX10_burst 35 rfl) rfl ?_
            refine r_ireturn E (dat dkX10_burst 36 rfl) (by decide) (by decide) ?_
            exact Or.inr (Or.inl ⟨hko, rfl, rfl⟩)
        ·
          exact absurd rfl h45
  ·
    have hko2 := hko
    obtain ⟨c, hc, rfl⟩ := hko
    refine r_aload_n E (dat dkX10_burst 0 rfl) rfl rfl ?_
    refine r_iload_n E (dat dkX10_burst 1 rfl) rfl rfl ?_
    refine r_callV (κ := 9) (μ := []) E (sp_X10_isCell l G A0 x T (nI c) _ md_a hx) my_X10_isCell iv_X10_isCell ml_X10_326 cm_id ⟨by decide, rfl, rfl⟩ rfl rfl rfl rfl (by decide) (Nat.le_of_ble_eq_true rfl) (dat dkX10_burst 2 rfl) ?_
    rintro _ _ ⟨rfl, rfl⟩
    refine ⟨_, Mrg_z rfl, ?_⟩
    rw [ic_1 hx ⟨c, hc, rfl⟩]
    refine r_istore_4 E (dat dkX10_burst 3 rfl) rfl rfl ?_
    refine r_iload_n E (dat dkX10_burst 4 rfl) rfl rfl ?_
    refine r_i2l E (dat dkX10_burst 5 rfl) ?_
    refine r_lconst E (dat dkX10_burst 6 rfl) rfl ?_
    refine r_ldc2 E cl_398 (dat dkX10_burst 7 rfl) ?_
    refine r_callS (μ := []) E (sp_X10_isWithin l G (d).toInt64 1 (20 : Int32).toInt64 _) my_X10_isWithin is_X10_isWithin ml_X10_80 cm_nil rfl rfl (by decide) (Nat.le_of_ble_eq_true rfl) (dat dkX10_burst 8 rfl) ?_
    rintro _ _ ⟨rfl, hM⟩
    refine ⟨_, Mrg_z hM, ?_⟩
    clear hM
    rw [show iwI (d).toInt64 1 (20 : Int32).toInt64 = 0 from iw_0 (lo := 1) hr]
    refine r_if_eq (tgt := 35) E (dat dkX10_burst 9 rfl) rfl (fun h16 => ?_) (fun h16 => ?_)
    ·
      refine r_iconst (v := 0) E (dat dkX10_burst 18 rfl) rfl ?_
      refine r_istore_5 E (dat dkX10_burst 19 rfl) rfl rfl ?_
      refine r_aload_n E (dat dkX10_burst 20 rfl) rfl rfl ?_
      refine r_iload E (dat dkX10_burst 21 rfl) rfl ?_
      refine r_iload E (dat dkX10_burst 22 rfl) rfl ?_
      refine r_iload E (dat dkX10_burst 23 rfl) rfl ?_
      refine r_if_eq (tgt := 61) E (dat dkX10_burst 24 rfl) rfl (fun h45 => ?_) (fun h45 => ?_)
      ·
        exact absurd h45 (by decide)
      ·
        refine r_aload_n E (dat dkX10_burst 25 rfl) rfl rfl ?_
        refine r_iload_n E (dat dkX10_burst 26 rfl) rfl rfl ?_
        refine r_iconst (v := 5) E (dat dkX10_burst 27 rfl) rfl ?_
        refine r_callV (κ := 9) (μ := []) E (sp_X10_get l G c 5 _ _ md_a (by omega) (by decide)) my_X10_get iv_X10_get ml_X10_76 cm_id ⟨by decide, rfl, rfl⟩ rfl rfl rfl rfl (by decide) (Nat.le_of_ble_eq_true rfl) (dat dkX10_burst 28 rfl) ?_
        rintro _ _ ⟨rfl, rfl⟩
        refine ⟨_, Mrg_z rfl, ?_⟩
        rw [e_t hc hn64]
        refine r_if_ne (tgt := 61) E (dat dkX10_burst 29 rfl) rfl (fun h54 => ?_) (fun h54 => ?_)
        ·
          refine r_iconst (v := 0) E (dat dkX10_burst 32 rfl) rfl ?_
          refine r_callV (κ := 9) (μ := []) E (sp_X10_check l G 1 0 _ _) my_X10_check iv_X10_check ml_X10_329 cm_id ⟨by decide, rfl, rfl⟩ rfl rfl rfl rfl (by decide) (Nat.le_of_ble_eq_true rfl) (dat dkX10_burst 33 rfl) ?_
          rintro _ _ ⟨rfl, rfl⟩
          refine ⟨_, Mrg_mt (by decide) rfl, ?_⟩
          rw [ck_1, if_neg (by decide)]
          refine r_if_ne (tgt := 70) E (dat dkX10_burst 34 rfl) rfl (fun h65 => ?_) (fun h65 => ?_)
          ·
            exact absurd rfl h65
          ·
            refine r_iconst (v := 0) E (dat dkX10_burst 35 rfl) rfl ?_
            refine r_ireturn E (dat dkX10_burst 36 rfl) (by decide) (by decide) ?_
            exact Or.inr (Or.inr (Or.inl ⟨⟨hko2, fun q => hr q.1⟩, rfl, rfl⟩))
        ·
          refine r_iconst (v := 1) E (dat dkX10_burst 30 rfl) rfl ?_
          refine r_goto (tgt := 62) E (dat dkX10_burst 31 rfl) rfl ?_
          refine r_callV (κ := 9) (μ := []) E (sp_X10_check l G 1 0 _ _) my_X10_check iv_X10_check ml_X10_329 cm_id ⟨by decide, rfl, rfl⟩ rfl rfl rfl rfl (by decide) (Nat.le_of_ble_eq_true rfl) (dat dkX10_burst 33 rfl) ?_
          rintro _ _ ⟨rfl, rfl⟩
          refine ⟨_, Mrg_mt (by decide) rfl, ?_⟩
          rw [ck_1, if_neg (by decide)]
          refine r_if_ne (tgt := 70) E (dat dkX10_burst 34 rfl) rfl (fun h65 => ?_) (fun h65 => ?_)
          ·
            exact absurd rfl h65
          ·
            refine r_iconst (v := 0) E (dat dkX10_burst 35 rfl) rfl ?_
            refine r_ireturn E (dat dkX10_burst 36 rfl) (by decide) (by decide) ?_
            exact Or.inr (Or.inr (Or.inl ⟨⟨hko2, fun q => hr q.1⟩, rfl, rfl⟩))
    ·
      exact absurd rfl h16
  ·
    have hko2 := hko
    obtain ⟨c, hc, rfl⟩ := hko
    refine r_aload_n E (dat dkX10_burst 0 rfl) rfl rfl ?_
    refine r_iload_n E (dat dkX10_burst 1 rfl) rfl rfl ?_
    refine r_callV (κ := 9) (μ := []) E (sp_X10_isCell l G A0 x T (nI c) _ md_a hx) my_X10_isCell iv_X10_isCell ml_X10_326 cm_id ⟨by decide, rfl, rfl⟩ rfl rfl rfl rfl (by decide) (Nat.le_of_ble_eq_true rfl) (dat dkX10_burst 2 rfl) ?_
    rintro _ _ ⟨rfl, rfl⟩
    refine ⟨_, Mrg_z rfl, ?_⟩
    rw [ic_1 hx ⟨c, hc, rfl⟩]
    refine r_istore_4 E (dat dkX10_burst 3 rfl) rfl rfl ?_
    refine r_iload_n E (dat dkX10_burst 4 rfl) rfl rfl ?_
    refine r_i2l E (dat dkX10_burst 5 rfl) ?_
    refine r_lconst E (dat dkX10_burst 6 rfl) rfl ?_
    refine r_ldc2 E cl_398 (dat dkX10_burst 7 rfl) ?_
    refine r_callS (μ := []) E (sp_X10_isWithin l G (d).toInt64 1 (20 : Int32).toInt64 _) my_X10_isWithin is_X10_isWithin ml_X10_80 cm_nil rfl rfl (by decide) (Nat.le_of_ble_eq_true rfl) (dat dkX10_burst 8 rfl) ?_
    rintro _ _ ⟨rfl, hM⟩
    refine ⟨_, Mrg_z hM, ?_⟩
    clear hM
    rw [show iwI (d).toInt64 1 (20 : Int32).toInt64 = 1 from iw_1 (lo := 1) hr.1 hr.2]
    refine r_if_eq (tgt := 35) E (dat dkX10_burst 9 rfl) rfl (fun h16 => ?_) (fun h16 => ?_)
    ·
      exact absurd h16 (by decide)
    ·
      refine r_iload_n E (dat dkX10_burst 10 rfl) rfl rfl ?_
      refine r_i2l E (dat dkX10_burst 11 rfl) ?_
      refine r_lconst E (dat dkX10_burst 12 rfl) rfl ?_
      refine r_ldc2 E cl_400 (dat dkX10_burst 13 rfl) ?_
      refine r_callS (μ := []) E (sp_X10_isWithin l G (f).toInt64 1 (60 : Int32).toInt64 _) my_X10_isWithin is_X10_isWithin ml_X10_80 cm_nil rfl rfl (by decide) (Nat.le_of_ble_eq_true rfl) (dat dkX10_burst 14 rfl) ?_
      rintro _ _ ⟨rfl, hM⟩
      refine ⟨_, Mrg_z hM, ?_⟩
      clear hM
      rw [show iwI (f).toInt64 1 (60 : Int32).toInt64 = 0 from iw_0 (lo := 1) hr2]
      refine r_if_eq (tgt := 35) E (dat dkX10_burst 15 rfl) rfl (fun h28 => ?_) (fun h28 => ?_)
      ·
        refine r_iconst (v := 0) E (dat dkX10_burst 18 rfl) rfl ?_
        refine r_istore_5 E (dat dkX10_burst 19 rfl) rfl rfl ?_
        refine r_aload_n E (dat dkX10_burst 20 rfl) rfl rfl ?_
        refine r_iload E (dat dkX10_burst 21 rfl) rfl ?_
        refine r_iload E (dat dkX10_burst 22 rfl) rfl ?_
        refine r_iload E (dat dkX10_burst 23 rfl) rfl ?_
        refine r_if_eq (tgt := 61) E (dat dkX10_burst 24 rfl) rfl (fun h45 => ?_) (fun h45 => ?_)
        ·
          exact absurd h45 (by decide)
        ·
          refine r_aload_n E (dat dkX10_burst 25 rfl) rfl rfl ?_
          refine r_iload_n E (dat dkX10_burst 26 rfl) rfl rfl ?_
          refine r_iconst (v := 5) E (dat dkX10_burst 27 rfl) rfl ?_
          refine r_callV (κ := 9) (μ := []) E (sp_X10_get l G c 5 _ _ md_a (by omega) (by decide)) my_X10_get iv_X10_get ml_X10_76 cm_id ⟨by decide, rfl, rfl⟩ rfl rfl rfl rfl (by decide) (Nat.le_of_ble_eq_true rfl) (dat dkX10_burst 28 rfl) ?_
          rintro _ _ ⟨rfl, rfl⟩
          refine ⟨_, Mrg_z rfl, ?_⟩
          rw [e_t hc hn64]
          refine r_if_ne (tgt := 61) E (dat dkX10_burst 29 rfl) rfl (fun h54 => ?_) (fun h54 => ?_)
          ·
            refine r_iconst (v := 0) E (dat dkX10_burst 32 rfl) rfl ?_
            refine r_callV (κ := 9) (μ := []) E (sp_X10_check l G 1 0 _ _) my_X10_check iv_X10_check ml_X10_329 cm_id ⟨by decide, rfl, rfl⟩ rfl rfl rfl rfl (by decide) (Nat.le_of_ble_eq_true rfl) (dat dkX10_burst 33 rfl) ?_
            rintro _ _ ⟨rfl, rfl⟩
            refine ⟨_, Mrg_mt (by decide) rfl, ?_⟩
            rw [ck_1, if_neg (by decide)]
            refine r_if_ne (tgt := 70) E (dat dkX10_burst 34 rfl) rfl (fun h65 => ?_) (fun h65 => ?_)
            ·
              exact absurd rfl h65
            ·
              refine r_iconst (v := 0) E (dat dkX10_burst 35 rfl) rfl ?_
              refine r_ireturn E (dat dkX10_burst 36 rfl) (by decide) (by decide) ?_
              exact Or.inr (Or.inr (Or.inl ⟨⟨hko2, fun q => hr2 q.2⟩, rfl, rfl⟩))
          ·
            refine r_iconst (v := 1) E (dat dkX10_burst 30 rfl) rfl ?_
            refine r_goto (tgt := 62) E (dat dkX10_burst 31 rfl) rfl ?_
            refine r_callV (κ := 9) (μ := []) E (sp_X10_check l G 1 0 _ _) my_X10_check iv_X10_check ml_X10_329 cm_id ⟨by decide, rfl, rfl⟩ rfl rfl rfl rfl (by decide) (Nat.le_of_ble_eq_true rfl) (dat dkX10_burst 33 rfl) ?_
            rintro _ _ ⟨rfl, rfl⟩
            refine ⟨_, Mrg_mt (by decide) rfl, ?_⟩
            rw [ck_1, if_neg (by decide)]
            refine r_if_ne (tgt := 70) E (dat dkX10_burst 34 rfl) rfl (fun h65 => ?_) (fun h65 => ?_)
            ·
              exact absurd rfl h65
            ·
              refine r_iconst (v := 0) E (dat dkX10_burst 35 rfl) rfl ?_
              refine r_ireturn E (dat dkX10_burst 36 rfl) (by decide) (by decide) ?_
              exact Or.inr (Or.inr (Or.inl ⟨⟨hko2, fun q => hr2 q.2⟩, rfl, rfl⟩))
      ·
        exact absurd rfl h28
  ·
    refine r_aload_n E (dat dkX10_burst 0 rfl) rfl rfl ?_
    refine r_iload_n E (dat dkX10_burst 1 rfl) rfl rfl ?_
    refine r_callV (κ := 9) (μ := []) E (sp_X10_isCell l G A0 x T (nI c) _ md_a hx) my_X10_isCell iv_X10_isCell ml_X10_326 cm_id ⟨by decide, rfl, rfl⟩ rfl rfl rfl rfl (by decide) (Nat.le_of_ble_eq_true rfl) (dat dkX10_burst 2 rfl) ?_
    rintro _ _ ⟨rfl, rfl⟩
    refine ⟨_, Mrg_z rfl, ?_⟩
    rw [ic_1 hx ⟨c, hc, rfl⟩]
    refine r_istore_4 E (dat dkX10_burst 3 rfl) rfl rfl ?_
    refine r_iload_n E (dat dkX10_burst 4 rfl) rfl rfl ?_
    refine r_i2l E (dat dkX10_burst 5 rfl) ?_
    refine r_lconst E (dat dkX10_burst 6 rfl) rfl ?_
    refine r_ldc2 E cl_398 (dat dkX10_burst 7 rfl) ?_
    refine r_callS (μ := []) E (sp_X10_isWithin l G (d).toInt64 1 (20 : Int32).toInt64 _) my_X10_isWithin is_X10_isWithin ml_X10_80 cm_nil rfl rfl (by decide) (Nat.le_of_ble_eq_true rfl) (dat dkX10_burst 8 rfl) ?_
    rintro _ _ ⟨rfl, hM⟩
    refine ⟨_, Mrg_z hM, ?_⟩
    clear hM
    rw [show iwI (d).toInt64 1 (20 : Int32).toInt64 = 1 from iw_1 (lo := 1) hr.1 hr.2]
    refine r_if_eq (tgt := 35) E (dat dkX10_burst 9 rfl) rfl (fun h16 => ?_) (fun h16 => ?_)
    ·
      exact absurd h16 (by decide)
    ·
      refine r_iload_n E (dat dkX10_burst 10 rfl) rfl rfl ?_
      refine r_i2l E (dat dkX10_burst 11 rfl) ?_
      refine r_lconst E (dat dkX10_burst 12 rfl) rfl ?_
      refine r_ldc2 E cl_400 (dat dkX10_burst 13 rfl) ?_
      refine r_callS (μ := []) E (sp_X10_isWithin l G (f).toInt64 1 (60 : Int32).toInt64 _) my_X10_isWithin is_X10_isWithin ml_X10_80 cm_nil rfl rfl (by decide) (Nat.le_of_ble_eq_true rfl) (dat dkX10_burst 14 rfl) ?_
      rintro _ _ ⟨rfl, hM⟩
      refine ⟨_, Mrg_z hM, ?_⟩
      clear hM
      rw [show iwI (f).toInt64 1 (60 : Int32).toInt64 = 1 from iw_1 (lo := 1) hr2.1 hr2.2]
      refine r_if_eq (tgt := 35) E (dat dkX10_burst 15 rfl) rfl (fun h28 => ?_) (fun h28 => ?_)
      ·
        exact absurd h28 (by decide)
      ·
        refine r_iconst (v := 1) E (dat dkX10_burst 16 rfl) rfl ?_
        refine r_goto (tgt := 36) E (dat dkX10_burst 17 rfl) rfl ?_
        refine r_istore_5 E (dat dkX10_burst 19 rfl) rfl rfl ?_
        refine r_aload_n E (dat dkX10_burst 20 rfl) rfl rfl ?_
        refine r_iload E (dat dkX10_burst 21 rfl) rfl ?_
        refine r_iload E (dat dkX10_burst 22 rfl) rfl ?_
        refine r_iload E (dat dkX10_burst 23 rfl) rfl ?_
        refine r_if_eq (tgt := 61) E (dat dkX10_burst 24 rfl) rfl (fun h45 => ?_) (fun h45 => ?_)
        ·
          exact absurd h45 (by decide)
        ·
          refine r_aload_n E (dat dkX10_burst 25 rfl) rfl rfl ?_
          refine r_iload_n E (dat dkX10_burst 26 rfl) rfl rfl ?_
          refine r_iconst (v := 5) E (dat dkX10_burst 27 rfl) rfl ?_
          refine r_callV (κ := 9) (μ := []) E (sp_X10_get l G c 5 _ _ md_a (by omega) (by decide)) my_X10_get iv_X10_get ml_X10_76 cm_id ⟨by decide, rfl, rfl⟩ rfl rfl rfl rfl (by decide) (Nat.le_of_ble_eq_true rfl) (dat dkX10_burst 28 rfl) ?_
          rintro _ _ ⟨rfl, rfl⟩
          refine ⟨_, Mrg_z rfl, ?_⟩
          rw [e_t hc hn64]
          refine r_if_ne (tgt := 61) E (dat dkX10_burst 29 rfl) rfl (fun h54 => ?_) (fun h54 => ?_)
          ·
            refine r_iconst (v := 0) E (dat dkX10_burst 32 rfl) rfl ?_
            refine r_callV (κ := 9) (μ := []) E (sp_X10_check l G (1) (1) (0) _) my_X10_check iv_X10_check ml_X10_329 cm_id ⟨by decide, rfl, rfl⟩ rfl rfl rfl rfl (by decide) (Nat.le_of_ble_eq_true rfl) (dat dkX10_burst 33 rfl) ?_
            rintro _ _ ⟨rfl, rfl⟩
            refine ⟨_, Mrg_mt (by decide) rfl, ?_⟩
            rw [show ckI (1) (1) (0) = 3 from rfl, if_neg (by decide)]
            refine r_if_ne (tgt := 70) E (dat dkX10_burst 34 rfl) rfl (fun h65 => ?_) (fun h65 => ?_)
            ·
              exact absurd rfl h65
            ·
              refine r_iconst (v := 0) E (dat dkX10_burst 35 rfl) rfl ?_
              refine r_ireturn E (dat dkX10_burst 36 rfl) (by decide) (by decide) ?_
              exact Or.inr (Or.inr (Or.inr ⟨⟨c, hc, rfl, hr, hr2, h4⟩, rfl, rfl⟩))
          ·
            exact absurd h54 h4

set_option maxRecDepth 100000 in
set_option maxHeartbeats 8000000 in
theorem sp_X10_splash (l : Launch) (G : GT) (A0 : Nat → Int32) (x : PP) (T : Nat → Nat → Int32) (P : Nat → Int32) (k : Nat) (a : Int32) (M : Mem) (hA : M 0 1 = enc A0 x T) (hx : PIv x) (hP : M 0 4 = P) (hk : M 0 0 4 = nI k) (hk8 : k ≤ 8) (hpl : PLi x T) : MC l G yX10_splash cX10_splash 3 (some .int) ({ frames := 4, cells := 0, slots := 0, locals := 84 } : Room) [9] lk0 [rv 0 0, iv a] (M) (fun r M2 => (∃ b, b < x.2.2.2.2.1 ∧ a = nI b ∧ ∃ f, f < x.1.2.2 ∧ T 5 b = nI f ∧ ¬ T 1 f = 0 ∧ M2 = md (rmM (mt M 0) P (enc A0 x T) k) (enc A0 x (thT x T b f)) ∧ r = some (iv (thR x T f))) ∨ (¬ okb4 x a ∧ M2 = mt M 1 ∧ r = some (iv 0)) ∨ ((∃ b, b < x.2.2.2.2.1 ∧ a = nI b ∧ ∃ f, f < x.1.2.2 ∧ T 5 b = nI f ∧ T 1 f = 0) ∧ M2 = mt M 2 ∧ r = some (iv 0))) := by
  refine MC.of RX10 [some (rv 0 0), some (iv a), none] 1 (by decide +kernel) rfl rfl rfl ?_
  intro pp ee ss mm aa bb me cd ad E
  obtain ⟨M0, rfl⟩ : ∃ M0, M = md M0 (enc A0 x T) := ⟨M, (md_of hA).symm⟩
  clear hA
  have hn64 := (PIv_z hx).1
  
  rcases (show (∃ b, b < x.2.2.2.2.1 ∧ a = nI b ∧ ∃ f, f < x.1.2.2 ∧ T 5 b = nI f ∧ ¬ T 1 f = 0) ∨ (¬ okb4 x a) ∨ (∃ b, b < x.2.2.2.2.1 ∧ a = nI b ∧ ∃ f, f < x.1.2.2 ∧ T 5 b = nI f ∧ T 1 f = 0) by
        by_cases g1 : okb4 x a
        · obtain ⟨b, hb, he⟩ := g1
          obtain ⟨f, hf, hfe⟩ := hpl b hb
          by_cases g2 : T 1 f = 0
          · exact Or.inr (Or.inr ⟨b, hb, he, f, hf, hfe, g2⟩)
          · exact Or.inl ⟨b, hb, he, f, hf, hfe, g2⟩
        · exact Or.inr (Or.inl g1)) with ⟨b, hb, rfl, f, hf, hfe, h1⟩ | hko | ⟨b, hb, rfl, f, hf, hfe, h1⟩
  ·
    refine r_aload_n E (dat dkX10_splash 0 rfl) rfl rfl ?_
    refine r_iload_n E (dat dkX10_splash 1 rfl) rfl rfl ?_
    refine r_callV (κ := 9) (μ := []) E (sp_X10_isBoots l G A0 x T (nI b) _ md_a hx) my_X10_isBoots iv_X10_isBoots ml_X10_369 cm_id ⟨by decide, rfl, rfl⟩ rfl rfl rfl rfl (by decide) (Nat.le_of_ble_eq_true rfl) (dat dkX10_splash 2 rfl) ?_
    rintro _ _ ⟨rfl, rfl⟩
    refine ⟨_, Mrg_z rfl, ?_⟩
    rw [ib_1 hx ⟨b, hb, rfl⟩]
    refine r_istore_2 E (dat dkX10_splash 3 rfl) rfl rfl ?_
    refine r_aload_n E (dat dkX10_splash 4 rfl) rfl rfl ?_
    refine r_iload_n E (dat dkX10_splash 5 rfl) rfl rfl ?_
    refine r_iload_n E (dat dkX10_splash 6 rfl) rfl rfl ?_
    refine r_if_eq (tgt := 24) E (dat dkX10_splash 7 rfl) rfl (fun h9 => ?_) (fun h9 => ?_)
    ·
      exact absurd h9 (by decide)
    ·
      refine r_aload_n E (dat dkX10_splash 8 rfl) rfl rfl ?_
      refine r_iload_n E (dat dkX10_splash 9 rfl) rfl rfl ?_
      refine r_callV (κ := 9) (μ := []) E (sp_X10_canSplash l G A0 x T b f _ md_a hx hb hfe hf) my_X10_canSplash iv_X10_canSplash ml_X10_305 cm_id ⟨by decide, rfl, rfl⟩ rfl rfl rfl rfl (by decide) (Nat.le_of_ble_eq_true rfl) (dat dkX10_splash 10 rfl) ?_
      rintro _ _ ⟨rfl, rfl⟩
      refine ⟨_, Mrg_z rfl, ?_⟩
      rw [if_neg h1]
      refine r_if_eq (tgt := 24) E (dat dkX10_splash 11 rfl) rfl (fun h17 => ?_) (fun h17 => ?_)
      ·
        exact absurd h17 (by decide)
      ·
        refine r_iconst (v := 1) E (dat dkX10_splash 12 rfl) rfl ?_
        refine r_goto (tgt := 25) E (dat dkX10_splash 13 rfl) rfl ?_
        refine r_iconst (v := 1) E (dat dkX10_splash 15 rfl) rfl ?_
        refine r_callV (κ := 9) (μ := []) E (sp_X10_check l G (1) (1) (1) _) my_X10_check iv_X10_check ml_X10_329 cm_id ⟨by decide, rfl, rfl⟩ rfl rfl rfl rfl (by decide) (Nat.le_of_ble_eq_true rfl) (dat dkX10_splash 16 rfl) ?_
        rintro _ _ ⟨rfl, rfl⟩
        refine ⟨_, Mrg_mt (by decide) rfl, ?_⟩
        rw [show ckI (1) (1) (1) = 0 from rfl, if_pos rfl]
        refine r_if_ne (tgt := 34) E (dat dkX10_splash 17 rfl) rfl (fun h29 => ?_) (fun h29 => ?_)
        ·
          refine r_aload_n E (dat dkX10_splash 20 rfl) rfl rfl ?_
          refine r_callV (κ := 9) (μ := []) E (sp_X10_remember l G P (enc A0 x T) k _ hP hk rfl hk8) my_X10_remember iv_X10_remember ml_X10_320 cm_id ⟨by decide, rfl, rfl⟩ rfl rfl rfl rfl (by decide) (Nat.le_of_ble_eq_true rfl) (dat dkX10_splash 21 rfl) ?_
          rintro _ _ ⟨rfl, rfl⟩
          refine ⟨_, Mrg_rm (by decide) rfl, ?_⟩
          refine r_aload_n E (dat dkX10_splash 22 rfl) rfl rfl ?_
          refine r_iload_n E (dat dkX10_splash 23 rfl) rfl rfl ?_
          refine r_callV (κ := 9) (μ := []) E (sp_X10_splashBy l G A0 x T b f _ rfl hx hb hfe hf) my_X10_splashBy iv_X10_splashBy ml_X10_308 cm_id ⟨by decide, rfl, rfl⟩ rfl rfl rfl rfl (by decide) (Nat.le_of_ble_eq_true rfl) (dat dkX10_splash 24 rfl) ?_
          rintro _ _ ⟨rfl, rfl⟩
          refine ⟨_, Mrg_md2 (by decide) rfl, ?_⟩
          refine r_ireturn E (dat dkX10_splash 25 rfl) (by decide) (by decide) ?_
          exact Or.inl ⟨b, hb, rfl, f, hf, hfe, h1, rfl, rfl⟩
        ·
          exact absurd h29 (by decide)
  ·
    refine r_aload_n E (dat dkX10_splash 0 rfl) rfl rfl ?_
    refine r_iload_n E (dat dkX10_splash 1 rfl) rfl rfl ?_
    refine r_callV (κ := 9) (μ := []) E (sp_X10_isBoots l G A0 x T a _ md_a hx) my_X10_isBoots iv_X10_isBoots ml_X10_369 cm_id ⟨by decide, rfl, rfl⟩ rfl rfl rfl rfl (by decide) (Nat.le_of_ble_eq_true rfl) (dat dkX10_splash 2 rfl) ?_
    rintro _ _ ⟨rfl, rfl⟩
    refine ⟨_, Mrg_z rfl, ?_⟩
    rw [ib_0 hx hko]
    refine r_istore_2 E (dat dkX10_splash 3 rfl) rfl rfl ?_
    refine r_aload_n E (dat dkX10_splash 4 rfl) rfl rfl ?_
    refine r_iload_n E (dat dkX10_splash 5 rfl) rfl rfl ?_
    refine r_iload_n E (dat dkX10_splash 6 rfl) rfl rfl ?_
    refine r_if_eq (tgt := 24) E (dat dkX10_splash 7 rfl) rfl (fun h9 => ?_) (fun h9 => ?_)
    ·
      refine r_iconst (v := 0) E (dat dkX10_splash 14 rfl) rfl ?_
      refine r_iconst (v := 1) E (dat dkX10_splash 15 rfl) rfl ?_
      refine r_callV (κ := 9) (μ := []) E (sp_X10_check l G (0) (0) (1) _) my_X10_check iv_X10_check ml_X10_329 cm_id ⟨by decide, rfl, rfl⟩ rfl rfl rfl rfl (by decide) (Nat.le_of_ble_eq_true rfl) (dat dkX10_splash 16 rfl) ?_
      rintro _ _ ⟨rfl, rfl⟩
      refine ⟨_, Mrg_mt (by decide) rfl, ?_⟩
      rw [show ckI (0) (0) (1) = 1 from if_pos rfl, if_neg (by decide)]
      refine r_if_ne (tgt := 34) E (dat dkX10_splash 17 rfl) rfl (fun h29 => ?_) (fun h29 => ?_)
      ·
        exact absurd rfl h29
      ·
        refine r_iconst (v := 0) E (dat dkX10_splash 18 rfl) rfl ?_
        refine r_ireturn E (dat dkX10_splash 19 rfl) (by decide) (by decide) ?_
        exact Or.inr (Or.inl ⟨hko, rfl, rfl⟩)
    ·
      exact absurd rfl h9
  ·
    refine r_aload_n E (dat dkX10_splash 0 rfl) rfl rfl ?_
    refine r_iload_n E (dat dkX10_splash 1 rfl) rfl rfl ?_
    refine r_callV (κ := 9) (μ := []) E (sp_X10_isBoots l G A0 x T (nI b) _ md_a hx) my_X10_isBoots iv_X10_isBoots ml_X10_369 cm_id ⟨by decide, rfl, rfl⟩ rfl rfl rfl rfl (by decide) (Nat.le_of_ble_eq_true rfl) (dat dkX10_splash 2 rfl) ?_
    rintro _ _ ⟨rfl, rfl⟩
    refine ⟨_, Mrg_z rfl, ?_⟩
    rw [ib_1 hx ⟨b, hb, rfl⟩]
    refine r_istore_2 E (dat dkX10_splash 3 rfl) rfl rfl ?_
    refine r_aload_n E (dat dkX10_splash 4 rfl) rfl rfl ?_
    refine r_iload_n E (dat dkX10_splash 5 rfl) rfl rfl ?_
    refine r_iload_n E (dat dkX10_splash 6 rfl) rfl rfl ?_
    refine r_if_eq (tgt := 24) E (dat dkX10_splash 7 rfl) rfl (fun h9 => ?_) (fun h9 => ?_)
    ·
      exact absurd h9 (by decide)
    ·
      refine r_aload_n E (dat dkX10_splash 8 rfl) rfl rfl ?_
      refine r_iload_n E (dat dkX10_splash 9 rfl) rfl rfl ?_
      refine r_callV (κ := 9) (μ := []) E (sp_X10_canSplash l G A0 x T b f _ md_a hx hb hfe hf) my_X10_canSplash iv_X10_canSplash ml_X10_305 cm_id ⟨by decide, rfl, rfl⟩ rfl rfl rfl rfl (by decide) (Nat.le_of_ble_eq_true rfl) (dat dkX10_splash 10 rfl) ?_
      rintro _ _ ⟨rfl, rfl⟩
      refine ⟨_, Mrg_z rfl, ?_⟩
      rw [if_pos h1]
      refine r_if_eq (tgt := 24) E (dat dkX10_splash 11 rfl) rfl (fun h17 => ?_) (fun h17 => ?_)
      ·
        refine r_iconst (v := 0) E (dat dkX10_splash 14 rfl) rfl ?_
        refine r_iconst (v := 1) E (dat dkX10_splash 15 rfl) rfl ?_
        refine r_callV (κ := 9) (μ := []) E (sp_X10_check l G (1) (0) (1) _) my_X10_check iv_X10_check ml_X10_329 cm_id ⟨by decide, rfl, rfl⟩ rfl rfl rfl rfl (by decide) (Nat.le_of_ble_eq_true rfl) (dat dkX10_splash 16 rfl) ?_
        rintro _ _ ⟨rfl, rfl⟩
        refine ⟨_, Mrg_mt (by decide) rfl, ?_⟩
        rw [show ckI (1) (0) (1) = 2 from rfl, if_neg (by decide)]
        refine r_if_ne (tgt := 34) E (dat dkX10_splash 17 rfl) rfl (fun h29 => ?_) (fun h29 => ?_)
        ·
          exact absurd rfl h29
        ·
          refine r_iconst (v := 0) E (dat dkX10_splash 18 rfl) rfl ?_
          refine r_ireturn E (dat dkX10_splash 19 rfl) (by decide) (by decide) ?_
          exact Or.inr (Or.inr ⟨⟨b, hb, rfl, f, hf, hfe, h1⟩, rfl, rfl⟩)
      ·
        exact absurd rfl h17

set_option maxRecDepth 100000 in
set_option maxHeartbeats 8000000 in
theorem sp_X10_walk (l : Launch) (G : GT) (A0 : Nat → Int32) (x : PP) (T : Nat → Nat → Int32) (P : Nat → Int32) (k : Nat) (a d : Int32) (M : Mem) (hA : M 0 1 = enc A0 x T) (hx : PIv x) (hP : M 0 4 = P) (hk : M 0 0 4 = nI k) (hk8 : k ≤ 8) (hpl : PLi x T) : MC l G yX10_walk cX10_walk 5 (some .int) ({ frames := 4, cells := 0, slots := 0, locals := 87 } : Room) [9] lk0 [rv 0 0, iv a, iv d] (M) (fun r M2 => (∃ b, b < x.2.2.2.2.1 ∧ a = nI b ∧ ∃ e, e < 4 ∧ d = nI e ∧ ∃ f, f < x.1.2.2 ∧ T 5 b = nI f ∧ ∃ j, nbx x f e = some j ∧ M2 = md (rmM (mt M 0) P (enc A0 x T) k) (enc A0 x (wkT x.2.2.2.2.2.2.2.1 T b j)) ∧ r = some (iv (nI j))) ∨ (¬ okb4 x a ∧ M2 = mt M 1 ∧ r = some (iv 0)) ∨ ((okb4 x a ∧ ¬ (0 ≤ d ∧ d ≤ 3)) ∧ M2 = mt M 2 ∧ r = some (iv 0)) ∨ ((∃ b, b < x.2.2.2.2.1 ∧ a = nI b ∧ ∃ e, e < 4 ∧ d = nI e ∧ ∃ f, f < x.1.2.2 ∧ T 5 b = nI f ∧ nbx x f e = none) ∧ M2 = mt M 3 ∧ r = some (iv 0))) := by
  refine MC.of RX10 [some (rv 0 0), some (iv a), some (iv d), none, none] 2 (by decide +kernel) rfl rfl rfl ?_
  intro pp ee ss mm aa bb me cd ad E
  obtain ⟨M0, rfl⟩ : ∃ M0, M = md M0 (enc A0 x T) := ⟨M, (md_of hA).symm⟩
  clear hA
  have hn64 := (PIv_z hx).1
  
  rcases (show (∃ b, b < x.2.2.2.2.1 ∧ a = nI b ∧ ∃ e, e < 4 ∧ d = nI e ∧ ∃ f, f < x.1.2.2 ∧ T 5 b = nI f ∧ ∃ j, nbx x f e = some j) ∨ (¬ okb4 x a) ∨ (okb4 x a ∧ ¬ (0 ≤ d ∧ d ≤ 3)) ∨ (∃ b, b < x.2.2.2.2.1 ∧ a = nI b ∧ ∃ e, e < 4 ∧ d = nI e ∧ ∃ f, f < x.1.2.2 ∧ T 5 b = nI f ∧ nbx x f e = none) by
        by_cases g1 : okb4 x a
        · by_cases g2 : 0 ≤ d ∧ d ≤ 3
          · obtain ⟨b, hb, he⟩ := g1
            obtain ⟨f, hf, hfe⟩ := hpl b hb
            obtain ⟨e, he3, hde⟩ := rg_ex (k := 3) (by decide) g2.1 g2.2
            cases hj : nbx x f e with
            | none => exact Or.inr (Or.inr (Or.inr ⟨b, hb, he, e, by omega, hde, f, hf, hfe, hj⟩))
            | some j => exact Or.inl ⟨b, hb, he, e, by omega, hde, f, hf, hfe, j, hj⟩
          · exact Or.inr (Or.inr (Or.inl ⟨g1, g2⟩))
        · exact Or.inr (Or.inl g1)) with ⟨b, hb, rfl, e, he, rfl, f, hf, hfe, j, hj⟩ | hko | ⟨hko, hr⟩ | ⟨b, hb, rfl, e, he, rfl, f, hf, hfe, hj⟩
  ·
    have hr : 0 ≤ nI e ∧ nI e ≤ 3 := ⟨Int32.not_lt.mp (nI_pos (by omega)), (nI_leI (b := 3) (by omega) (by decide)).mpr (by omega)⟩
    have hjn := nbx_lt hx f e j hj
    refine r_aload_n E (dat dkX10_walk 0 rfl) rfl rfl ?_
    refine r_iload_n E (dat dkX10_walk 1 rfl) rfl rfl ?_
    refine r_callV (κ := 9) (μ := []) E (sp_X10_isBoots l G A0 x T (nI b) _ md_a hx) my_X10_isBoots iv_X10_isBoots ml_X10_369 cm_id ⟨by decide, rfl, rfl⟩ rfl rfl rfl rfl (by decide) (Nat.le_of_ble_eq_true rfl) (dat dkX10_walk 2 rfl) ?_
    rintro _ _ ⟨rfl, rfl⟩
    refine ⟨_, Mrg_z rfl, ?_⟩
    rw [ib_1 hx ⟨b, hb, rfl⟩]
    refine r_istore_3 E (dat dkX10_walk 3 rfl) rfl rfl ?_
    refine r_aload_n E (dat dkX10_walk 4 rfl) rfl rfl ?_
    refine r_iload_n E (dat dkX10_walk 5 rfl) rfl rfl ?_
    refine r_callV (κ := 9) (μ := []) E (sp_X10_isDirection l G A0 x T (nI e) _ md_a hx) my_X10_isDirection iv_X10_isDirection ml_X10_344 cm_id ⟨by decide, rfl, rfl⟩ rfl rfl rfl rfl (by decide) (Nat.le_of_ble_eq_true rfl) (dat dkX10_walk 6 rfl) ?_
    rintro _ _ ⟨rfl, rfl⟩
    refine ⟨_, Mrg_z rfl, ?_⟩
    rw [show iwI (nI e).toInt64 0 (3 : Int32).toInt64 = 1 from iw_1 (lo := 0) hr.1 hr.2]
    refine r_istore_4 E (dat dkX10_walk 7 rfl) rfl rfl ?_
    refine r_aload_n E (dat dkX10_walk 8 rfl) rfl rfl ?_
    refine r_iload_n E (dat dkX10_walk 9 rfl) rfl rfl ?_
    refine r_iload E (dat dkX10_walk 10 rfl) rfl ?_
    refine r_iload_n E (dat dkX10_walk 11 rfl) rfl rfl ?_
    refine r_if_eq (tgt := 39) E (dat dkX10_walk 12 rfl) rfl (fun h18 => ?_) (fun h18 => ?_)
    ·
      exact absurd h18 (by decide)
    ·
      refine r_iload E (dat dkX10_walk 13 rfl) rfl ?_
      refine r_if_eq (tgt := 39) E (dat dkX10_walk 14 rfl) rfl (fun h23 => ?_) (fun h23 => ?_)
      ·
        exact absurd h23 (by decide)
      ·
        refine r_aload_n E (dat dkX10_walk 15 rfl) rfl rfl ?_
        refine r_iload_n E (dat dkX10_walk 16 rfl) rfl rfl ?_
        refine r_iload_n E (dat dkX10_walk 17 rfl) rfl rfl ?_
        refine r_callV (κ := 9) (μ := []) E (sp_X10_canWalk l G A0 x T b f e _ md_a hx hb hfe hf he) my_X10_canWalk iv_X10_canWalk ml_X10_298 cm_id ⟨by decide, rfl, rfl⟩ rfl rfl rfl rfl (by decide) (Nat.le_of_ble_eq_true rfl) (dat dkX10_walk 18 rfl) ?_
        rintro _ _ ⟨rfl, rfl⟩
        refine ⟨_, Mrg_z rfl, ?_⟩
        rw [hj, if_neg (oI_nm (by omega))]
        refine r_if_eq (tgt := 39) E (dat dkX10_walk 19 rfl) rfl (fun h32 => ?_) (fun h32 => ?_)
        ·
          exact absurd h32 (by decide)
        ·
          refine r_iconst (v := 1) E (dat dkX10_walk 20 rfl) rfl ?_
          refine r_goto (tgt := 40) E (dat dkX10_walk 21 rfl) rfl ?_
          refine r_callV (κ := 9) (μ := []) E (sp_X10_check l G (1) (1) (1) _) my_X10_check iv_X10_check ml_X10_329 cm_id ⟨by decide, rfl, rfl⟩ rfl rfl rfl rfl (by decide) (Nat.le_of_ble_eq_true rfl) (dat dkX10_walk 23 rfl) ?_
          rintro _ _ ⟨rfl, rfl⟩
          refine ⟨_, Mrg_mt (by decide) rfl, ?_⟩
          rw [show ckI (1) (1) (1) = 0 from rfl, if_pos rfl]
          refine r_if_ne (tgt := 48) E (dat dkX10_walk 24 rfl) rfl (fun h43 => ?_) (fun h43 => ?_)
          ·
            refine r_aload_n E (dat dkX10_walk 27 rfl) rfl rfl ?_
            refine r_callV (κ := 9) (μ := []) E (sp_X10_remember l G P (enc A0 x T) k _ hP hk rfl hk8) my_X10_remember iv_X10_remember ml_X10_320 cm_id ⟨by decide, rfl, rfl⟩ rfl rfl rfl rfl (by decide) (Nat.le_of_ble_eq_true rfl) (dat dkX10_walk 28 rfl) ?_
            rintro _ _ ⟨rfl, rfl⟩
            refine ⟨_, Mrg_rm (by decide) rfl, ?_⟩
            refine r_aload_n E (dat dkX10_walk 29 rfl) rfl rfl ?_
            refine r_iload_n E (dat dkX10_walk 30 rfl) rfl rfl ?_
            refine r_iload_n E (dat dkX10_walk 31 rfl) rfl rfl ?_
            refine r_callV (κ := 9) (μ := []) E (sp_X10_walkOn l G A0 x T b f e j _ rfl hx hb hfe hf he hj) my_X10_walkOn iv_X10_walkOn ml_X10_302 cm_id ⟨by decide, rfl, rfl⟩ rfl rfl rfl rfl (by decide) (Nat.le_of_ble_eq_true rfl) (dat dkX10_walk 32 rfl) ?_
            rintro _ _ ⟨rfl, rfl⟩
            refine ⟨_, Mrg_md2 (by decide) rfl, ?_⟩
            refine r_ireturn E (dat dkX10_walk 33 rfl) (by decide) (by decide) ?_
            exact Or.inl ⟨b, hb, rfl, e, he, rfl, f, hf, hfe, j, hj, rfl, rfl⟩
          ·
            exact absurd h43 (by decide)
  ·
    refine r_aload_n E (dat dkX10_walk 0 rfl) rfl rfl ?_
    refine r_iload_n E (dat dkX10_walk 1 rfl) rfl rfl ?_
    refine r_callV (κ := 9) (μ := []) E (sp_X10_isBoots l G A0 x T a _ md_a hx) my_X10_isBoots iv_X10_isBoots ml_X10_369 cm_id ⟨by decide, rfl, rfl⟩ rfl rfl rfl rfl (by decide) (Nat.le_of_ble_eq_true rfl) (dat dkX10_walk 2 rfl) ?_
    rintro _ _ ⟨rfl, rfl⟩
    refine ⟨_, Mrg_z rfl, ?_⟩
    rw [ib_0 hx hko]
    refine r_istore_3 E (dat dkX10_walk 3 rfl) rfl rfl ?_
    refine r_aload_n E (dat dkX10_walk 4 rfl) rfl rfl ?_
    refine r_iload_n E (dat dkX10_walk 5 rfl) rfl rfl ?_
    refine r_callV (κ := 9) (μ := []) E (sp_X10_isDirection l G A0 x T d _ md_a hx) my_X10_isDirection iv_X10_isDirection ml_X10_344 cm_id ⟨by decide, rfl, rfl⟩ rfl rfl rfl rfl (by decide) (Nat.le_of_ble_eq_true rfl) (dat dkX10_walk 6 rfl) ?_
    rintro _ _ ⟨rfl, rfl⟩
    refine ⟨_, Mrg_z rfl, ?_⟩
    refine r_istore_4 E (dat dkX10_walk 7 rfl) rfl rfl ?_
    refine r_aload_n E (dat dkX10_walk 8 rfl) rfl rfl ?_
    refine r_iload_n E (dat dkX10_walk 9 rfl) rfl rfl ?_
    refine r_iload E (dat dkX10_walk 10 rfl) rfl ?_
    refine r_iload_n E (dat dkX10_walk 11 rfl) rfl rfl ?_
    refine r_if_eq (tgt := 39) E (dat dkX10_walk 12 rfl) rfl (fun h18 => ?_) (fun h18 => ?_)
    ·
      refine r_iconst (v := 0) E (dat dkX10_walk 22 rfl) rfl ?_
      refine r_callV (κ := 9) (μ := []) E (sp_X10_check l G (0) _ _ _) my_X10_check iv_X10_check ml_X10_329 cm_id ⟨by decide, rfl, rfl⟩ rfl rfl rfl rfl (by decide) (Nat.le_of_ble_eq_true rfl) (dat dkX10_walk 23 rfl) ?_
      rintro _ _ ⟨rfl, rfl⟩
      refine ⟨_, Mrg_mt (by decide) rfl, ?_⟩
      rw [ck_0, if_neg (by decide)]
      refine r_if_ne (tgt := 48) E (dat dkX10_walk 24 rfl) rfl (fun h43 => ?_) (fun h43 => ?_)
      ·
        exact absurd rfl h43
      ·
        refine r_iconst (v := 0) E (dat dkX10_walk 25 rfl) rfl ?_
        refine r_ireturn E (dat dkX10_walk 26 rfl) (by decide) (by decide) ?_
        exact Or.inr (Or.inl ⟨hko, rfl, rfl⟩)
    ·
      exact absurd rfl h18
  ·
    have hko2 := hko
    obtain ⟨b, hb, rfl⟩ := hko
    refine r_aload_n E (dat dkX10_walk 0 rfl) rfl rfl ?_
    refine r_iload_n E (dat dkX10_walk 1 rfl) rfl rfl ?_
    refine r_callV (κ := 9) (μ := []) E (sp_X10_isBoots l G A0 x T (nI b) _ md_a hx) my_X10_isBoots iv_X10_isBoots ml_X10_369 cm_id ⟨by decide, rfl, rfl⟩ rfl rfl rfl rfl (by decide) (Nat.le_of_ble_eq_true rfl) (dat dkX10_walk 2 rfl) ?_
    rintro _ _ ⟨rfl, rfl⟩
    refine ⟨_, Mrg_z rfl, ?_⟩
    rw [ib_1 hx ⟨b, hb, rfl⟩]
    refine r_istore_3 E (dat dkX10_walk 3 rfl) rfl rfl ?_
    refine r_aload_n E (dat dkX10_walk 4 rfl) rfl rfl ?_
    refine r_iload_n E (dat dkX10_walk 5 rfl) rfl rfl ?_
    refine r_callV (κ := 9) (μ := []) E (sp_X10_isDirection l G A0 x T d _ md_a hx) my_X10_isDirection iv_X10_isDirection ml_X10_344 cm_id ⟨by decide, rfl, rfl⟩ rfl rfl rfl rfl (by decide) (Nat.le_of_ble_eq_true rfl) (dat dkX10_walk 6 rfl) ?_
    rintro _ _ ⟨rfl, rfl⟩
    refine ⟨_, Mrg_z rfl, ?_⟩
    rw [show iwI d.toInt64 0 (3 : Int32).toInt64 = 0 from iw_0 (lo := 0) hr]
    refine r_istore_4 E (dat dkX10_walk 7 rfl) rfl rfl ?_
    refine r_aload_n E (dat dkX10_walk 8 rfl) rfl rfl ?_
    refine r_iload_n E (dat dkX10_walk 9 rfl) rfl rfl ?_
    refine r_iload E (dat dkX10_walk 10 rfl) rfl ?_
    refine r_iload_n E (dat dkX10_walk 11 rfl) rfl rfl ?_
    refine r_if_eq (tgt := 39) E (dat dkX10_walk 12 rfl) rfl (fun h18 => ?_) (fun h18 => ?_)
    ·
      exact absurd h18 (by decide)
    ·
      refine r_iload E (dat dkX10_walk 13 rfl) rfl ?_
      refine r_if_eq (tgt := 39) E (dat dkX10_walk 14 rfl) rfl (fun h23 => ?_) (fun h23 => ?_)
      ·
        refine r_iconst (v := 0) E (dat dkX10_walk 22 rfl) rfl ?_
        refine r_callV (κ := 9) (μ := []) E (sp_X10_check l G 1 0 _ _) my_X10_check iv_X10_check ml_X10_329 cm_id ⟨by decide, rfl, rfl⟩ rfl rfl rfl rfl (by decide) (Nat.le_of_ble_eq_true rfl) (dat dkX10_walk 23 rfl) ?_
        rintro _ _ ⟨rfl, rfl⟩
        refine ⟨_, Mrg_mt (by decide) rfl, ?_⟩
        rw [ck_1, if_neg (by decide)]
        refine r_if_ne (tgt := 48) E (dat dkX10_walk 24 rfl) rfl (fun h43 => ?_) (fun h43 => ?_)
        ·
          exact absurd rfl h43
        ·
          refine r_iconst (v := 0) E (dat dkX10_walk 25 rfl) rfl ?_
          refine r_ireturn E (dat dkX10_walk 26 rfl) (by decide) (by decide) ?_
          exact Or.inr (Or.inr (Or.inl ⟨⟨hko2, hr⟩, rfl, rfl⟩))
      ·
        exact absurd rfl h23
  ·
    have hr : 0 ≤ nI e ∧ nI e ≤ 3 := ⟨Int32.not_lt.mp (nI_pos (by omega)), (nI_leI (b := 3) (by omega) (by decide)).mpr (by omega)⟩
    refine r_aload_n E (dat dkX10_walk 0 rfl) rfl rfl ?_
    refine r_iload_n E (dat dkX10_walk 1 rfl) rfl rfl ?_
    refine r_callV (κ := 9) (μ := []) E (sp_X10_isBoots l G A0 x T (nI b) _ md_a hx) my_X10_isBoots iv_X10_isBoots ml_X10_369 cm_id ⟨by decide, rfl, rfl⟩ rfl rfl rfl rfl (by decide) (Nat.le_of_ble_eq_true rfl) (dat dkX10_walk 2 rfl) ?_
    rintro _ _ ⟨rfl, rfl⟩
    refine ⟨_, Mrg_z rfl, ?_⟩
    rw [ib_1 hx ⟨b, hb, rfl⟩]
    refine r_istore_3 E (dat dkX10_walk 3 rfl) rfl rfl ?_
    refine r_aload_n E (dat dkX10_walk 4 rfl) rfl rfl ?_
    refine r_iload_n E (dat dkX10_walk 5 rfl) rfl rfl ?_
    refine r_callV (κ := 9) (μ := []) E (sp_X10_isDirection l G A0 x T (nI e) _ md_a hx) my_X10_isDirection iv_X10_isDirection ml_X10_344 cm_id ⟨by decide, rfl, rfl⟩ rfl rfl rfl rfl (by decide) (Nat.le_of_ble_eq_true rfl) (dat dkX10_walk 6 rfl) ?_
    rintro _ _ ⟨rfl, rfl⟩
    refine ⟨_, Mrg_z rfl, ?_⟩
    rw [show iwI (nI e).toInt64 0 (3 : Int32).toInt64 = 1 from iw_1 (lo := 0) hr.1 hr.2]
    refine r_istore_4 E (dat dkX10_walk 7 rfl) rfl rfl ?_
    refine r_aload_n E (dat dkX10_walk 8 rfl) rfl rfl ?_
    refine r_iload_n E (dat dkX10_walk 9 rfl) rfl rfl ?_
    refine r_iload E (dat dkX10_walk 10 rfl) rfl ?_
    refine r_iload_n E (dat dkX10_walk 11 rfl) rfl rfl ?_
    refine r_if_eq (tgt := 39) E (dat dkX10_walk 12 rfl) rfl (fun h18 => ?_) (fun h18 => ?_)
    ·
      exact absurd h18 (by decide)
    ·
      refine r_iload E (dat dkX10_walk 13 rfl) rfl ?_
      refine r_if_eq (tgt := 39) E (dat dkX10_walk 14 rfl) rfl (fun h23 => ?_) (fun h23 => ?_)
      ·
        exact absurd h23 (by decide)
      ·
        refine r_aload_n E (dat dkX10_walk 15 rfl) rfl rfl ?_
        refine r_iload_n E (dat dkX10_walk 16 rfl) rfl rfl ?_
        refine r_iload_n E (dat dkX10_walk 17 rfl) rfl rfl ?_
        refine r_callV (κ := 9) (μ := []) E (sp_X10_canWalk l G A0 x T b f e _ md_a hx hb hfe hf he) my_X10_canWalk iv_X10_canWalk ml_X10_298 cm_id ⟨by decide, rfl, rfl⟩ rfl rfl rfl rfl (by decide) (Nat.le_of_ble_eq_true rfl) (dat dkX10_walk 18 rfl) ?_
        rintro _ _ ⟨rfl, rfl⟩
        refine ⟨_, Mrg_z rfl, ?_⟩
        rw [hj, if_pos (show oI none = -1 from rfl)]
        refine r_if_eq (tgt := 39) E (dat dkX10_walk 19 rfl) rfl (fun h32 => ?_) (fun h32 => ?_)
        ·
          refine r_iconst (v := 0) E (dat dkX10_walk 22 rfl) rfl ?_
          refine r_callV (κ := 9) (μ := []) E (sp_X10_check l G (1) (1) (0) _) my_X10_check iv_X10_check ml_X10_329 cm_id ⟨by decide, rfl, rfl⟩ rfl rfl rfl rfl (by decide) (Nat.le_of_ble_eq_true rfl) (dat dkX10_walk 23 rfl) ?_
          rintro _ _ ⟨rfl, rfl⟩
          refine ⟨_, Mrg_mt (by decide) rfl, ?_⟩
          rw [show ckI (1) (1) (0) = 3 from rfl, if_neg (by decide)]
          refine r_if_ne (tgt := 48) E (dat dkX10_walk 24 rfl) rfl (fun h43 => ?_) (fun h43 => ?_)
          ·
            exact absurd rfl h43
          ·
            refine r_iconst (v := 0) E (dat dkX10_walk 25 rfl) rfl ?_
            refine r_ireturn E (dat dkX10_walk 26 rfl) (by decide) (by decide) ?_
            exact Or.inr (Or.inr (Or.inr ⟨⟨b, hb, rfl, e, he, rfl, f, hf, hfe, hj⟩, rfl, rfl⟩))
        ·
          exact absurd rfl h32
