set_option maxRecDepth 100000 in
set_option maxHeartbeats 8000000 in
theorem sp_X10_parsePart (l : Launch) (G : GT) (bs : Nat → Int32) (n : Nat) (A : Nat → Int32) (t : TT) (u : TT) (A0 : Nat → Int32) (x : PP) (M : Mem) (hB : M 0 10 = bs) (hn : M 0 0 10 = nI n) (hA : M 0 1 = A) (hT : TI M t) (hG : TG n t) (hn6 : n ≤ 600) (hE : A = pE A0 x) (hx : PIv x) (hg : GUz x) (h0 : CA0 A0) (hC : rC n t u) : MC l G yX10_parsePart cX10_parsePart 1 none ({ frames := 6, cells := 0, slots := 0, locals := 131 } : Room) [9] lk0 [rv 0 0] (M) (fun r M2 => r = none ∧ ∃ t4 A2, PK M M2 A2 t4 ∧ TG n t4 ∧ ((¬ (rSt bs n u x).1.1 = 0 ∧ rK bs n t4 (rSt bs n u x).1.2 ∧ A2 = pE A0 (rSt bs n u x).2) ∨ ((rSt bs n u x).1.1 = 0 ∧ rX t4 (rSt bs n u x).1.2))) := by
  refine MC.of RX10 [some (rv 0 0)] 0 (by decide +kernel) rfl rfl rfl ?_
  intro pp ee ss mm aa bb me cd ad E
  have hk : kq M M := kq_r
  subst hE
  
  refine r_aload_n E (dat dkX10_parsePart 0 rfl) rfl rfl ?_
  refine q_ldc (i := 14) E (by decide) rfl rfl (dat dkX10_parsePart 1 rfl) ?_
  refine r_callV (κ := 9) (μ := []) E (sp_X10_isWord l G bs n t.1 (sTn t) 14 t.2.1 _ hB (hT.1.trans (TG_st hG hn6).2) hT.2.1 hT.2.2.1 (by decide) (TG_st hG hn6).1 hG.1 hn6) my_X10_isWord iv_X10_isWord ml_X10_212 cm_id ⟨by decide, rfl, rfl⟩ rfl rfl rfl rfl (by decide) (Nat.le_of_ble_eq_true rfl) (dat dkX10_parsePart 2 rfl) ?_
  rintro _ M9 ⟨rfl, hM9⟩
  refine ⟨_, Mrg_z hM9, ?_⟩
  clear hM9
  rw [show (if 0 < vw [] M 0 0 17 then (0 : Int32) else isW bs t.2.1 (sTn t) t.1 (bytJS.getD 14 [])) = tW bs u wRow from wd_eq hC hT rfl]
  refine r_if_eq (tgt := 16) E (dat dkX10_parsePart 3 rfl) rfl (fun h6 => ?_) (fun h6 => ?_)
  ·
    refine r_aload_n E (dat dkX10_parsePart 7 rfl) rfl rfl ?_
    refine q_ldc (i := 15) E (by decide) rfl rfl (dat dkX10_parsePart 8 rfl) ?_
    refine r_callV (κ := 9) (μ := []) E (sp_X10_isWord l G bs n t.1 (sTn t) 15 t.2.1 _ hB (hT.1.trans (TG_st hG hn6).2) hT.2.1 hT.2.2.1 (by decide) (TG_st hG hn6).1 hG.1 hn6) my_X10_isWord iv_X10_isWord ml_X10_212 cm_id ⟨by decide, rfl, rfl⟩ rfl rfl rfl rfl (by decide) (Nat.le_of_ble_eq_true rfl) (dat dkX10_parsePart 9 rfl) ?_
    rintro _ M9 ⟨rfl, hM9⟩
    refine ⟨_, Mrg_z hM9, ?_⟩
    clear hM9
    rw [show (if 0 < vw [] M 0 0 17 then (0 : Int32) else isW bs t.2.1 (sTn t) t.1 (bytJS.getD 15 [])) = tW bs u wGutter from wd_eq hC hT rfl]
    refine r_if_eq (tgt := 32) E (dat dkX10_parsePart 10 rfl) rfl (fun h22 => ?_) (fun h22 => ?_)
    ·
      refine r_aload_n E (dat dkX10_parsePart 14 rfl) rfl rfl ?_
      refine q_ldc (i := 16) E (by decide) rfl rfl (dat dkX10_parsePart 15 rfl) ?_
      refine r_callV (κ := 9) (μ := []) E (sp_X10_isWord l G bs n t.1 (sTn t) 16 t.2.1 _ hB (hT.1.trans (TG_st hG hn6).2) hT.2.1 hT.2.2.1 (by decide) (TG_st hG hn6).1 hG.1 hn6) my_X10_isWord iv_X10_isWord ml_X10_212 cm_id ⟨by decide, rfl, rfl⟩ rfl rfl rfl rfl (by decide) (Nat.le_of_ble_eq_true rfl) (dat dkX10_parsePart 16 rfl) ?_
      rintro _ M9 ⟨rfl, hM9⟩
      refine ⟨_, Mrg_z hM9, ?_⟩
      clear hM9
      rw [show (if 0 < vw [] M 0 0 17 then (0 : Int32) else isW bs t.2.1 (sTn t) t.1 (bytJS.getD 16 [])) = tW bs u wBoots from wd_eq hC hT rfl]
      refine r_if_eq (tgt := 48) E (dat dkX10_parsePart 17 rfl) rfl (fun h38 => ?_) (fun h38 => ?_)
      ·
        refine r_aload_n E (dat dkX10_parsePart 21 rfl) rfl rfl ?_
        refine q_ldc (i := 17) E (by decide) rfl rfl (dat dkX10_parsePart 22 rfl) ?_
        refine r_callV (κ := 9) (μ := []) E (sp_X10_isWord l G bs n t.1 (sTn t) 17 t.2.1 _ hB (hT.1.trans (TG_st hG hn6).2) hT.2.1 hT.2.2.1 (by decide) (TG_st hG hn6).1 hG.1 hn6) my_X10_isWord iv_X10_isWord ml_X10_212 cm_id ⟨by decide, rfl, rfl⟩ rfl rfl rfl rfl (by decide) (Nat.le_of_ble_eq_true rfl) (dat dkX10_parsePart 23 rfl) ?_
        rintro _ M9 ⟨rfl, hM9⟩
        refine ⟨_, Mrg_z hM9, ?_⟩
        clear hM9
        rw [show (if 0 < vw [] M 0 0 17 then (0 : Int32) else isW bs t.2.1 (sTn t) t.1 (bytJS.getD 17 [])) = tW bs u wRain from wd_eq hC hT rfl]
        refine r_if_eq (tgt := 64) E (dat dkX10_parsePart 24 rfl) rfl (fun h54 => ?_) (fun h54 => ?_)
        ·
          refine r_aload_n E (dat dkX10_parsePart 28 rfl) rfl rfl ?_
          refine r_iconst (v := 0) E (dat dkX10_parsePart 29 rfl) rfl ?_
          refine r_iconst (v := 1) E (dat dkX10_parsePart 30 rfl) rfl ?_
          refine r_callV (κ := 9) (μ := []) E (px_ex l G bs n _ _ (0) (1) _ hB hn hA hT hG hn6) my_X10_expect iv_X10_expect ml_X10_194 cm_id ⟨by decide, rfl, rfl⟩ rfl rfl rfl rfl (by decide) (Nat.le_of_ble_eq_true rfl) (dat dkX10_parsePart 31 rfl) ?_
          rintro _ M9 ⟨rfl, hp9, hs9⟩
          obtain ⟨Ma, hMr, hk9, hA, hT, hS9⟩ := Mrg_pk hp9 hs9
          replace hB := (hk9.2.2.2.1).trans hB
          replace hn := (hk9.2.2.2.2.2.2.2.2.1).trans hn
          replace hk := kq_t hk hk9
          replace hG := TG_ex (a := 0) (k := 1) (by decide) hG
          have hpr : pR bs n A0 (rSt bs n u x) (mEx 0 1 t) (pE A0 x) := st_no hC (tW_n h6) (tW_n h22) (tW_n h38) (tW_n h54)
          refine ⟨_, hMr, ?_⟩
          clear hp9 hs9 hMr hk9 hS9
          refine r_aload_n E (dat dkX10_parsePart 32 rfl) rfl rfl ?_
          refine r_callV (κ := 9) (μ := []) E (px_smc l G bs n _ _  _ hB hn hA hT hG hn6) my_X10_parseSemicolon iv_X10_parseSemicolon ml_X10_233 cm_id ⟨by decide, rfl, rfl⟩ rfl rfl rfl rfl (by decide) (Nat.le_of_ble_eq_true rfl) (dat dkX10_parsePart 33 rfl) ?_
          rintro _ M9 ⟨rfl, hp9, hs9⟩
          obtain ⟨Ma, hMr, hk9, hA, hT, hS9⟩ := Mrg_pk hp9 hs9
          replace hB := (hk9.2.2.2.1).trans hB
          replace hn := (hk9.2.2.2.2.2.2.2.2.1).trans hn
          replace hk := kq_t hk hk9
          replace hG := TG_sm (b := bs) hG
          refine ⟨_, hMr, ?_⟩
          clear hp9 hs9 hMr hk9 hS9
          refine r_vreturn E (dat dkX10_parsePart 34 rfl) (by decide) (by decide) ?_
          exact ⟨rfl, _, _, ⟨hk, hA, hT⟩, hG, pR_sm hpr⟩
        ·
          refine r_aload_n E (dat dkX10_parsePart 25 rfl) rfl rfl ?_
          refine r_callV (κ := 9) (μ := []) E (px_rain l G bs n _ t u A0 x _ hB hn hA hT hG hn6 rfl hx hg h0 hC (tW_n h6) (tW_n h22) (tW_n h38) (tW_1 h54)) my_X10_parseRain iv_X10_parseRain ml_X10_230 cm_id ⟨by decide, rfl, rfl⟩ rfl rfl rfl rfl (by decide) (Nat.le_of_ble_eq_true rfl) (dat dkX10_parsePart 26 rfl) ?_
          rintro _ M9 ⟨rfl, t4, A2, hp9, hG4, hpr⟩
          obtain ⟨Ma, hMr, hk9, hA, hT⟩ : ∃ M2, Mrg 1 [] _ M9 M2 ∧ kq _ M2 ∧ M2 0 1 = _ ∧ TI M2 _ := ⟨setm M 0 (M9 0), Mrg_m0, hp9.1, hp9.2.1, hp9.2.2⟩
          replace hB := (hk9.2.2.2.1).trans hB
          replace hn := (hk9.2.2.2.2.2.2.2.2.1).trans hn
          replace hk := kq_t hk hk9
          replace hG := hG4
          refine ⟨_, hMr, ?_⟩
          clear hp9 hMr hk9
          refine r_goto (tgt := 70) E (dat dkX10_parsePart 27 rfl) rfl ?_
          refine r_aload_n E (dat dkX10_parsePart 32 rfl) rfl rfl ?_
          refine r_callV (κ := 9) (μ := []) E (px_smc l G bs n _ _  _ hB hn hA hT hG hn6) my_X10_parseSemicolon iv_X10_parseSemicolon ml_X10_233 cm_id ⟨by decide, rfl, rfl⟩ rfl rfl rfl rfl (by decide) (Nat.le_of_ble_eq_true rfl) (dat dkX10_parsePart 33 rfl) ?_
          rintro _ M9 ⟨rfl, hp9, hs9⟩
          obtain ⟨Ma, hMr, hk9, hA, hT, hS9⟩ := Mrg_pk hp9 hs9
          replace hB := (hk9.2.2.2.1).trans hB
          replace hn := (hk9.2.2.2.2.2.2.2.2.1).trans hn
          replace hk := kq_t hk hk9
          replace hG := TG_sm (b := bs) hG
          refine ⟨_, hMr, ?_⟩
          clear hp9 hs9 hMr hk9 hS9
          refine r_vreturn E (dat dkX10_parsePart 34 rfl) (by decide) (by decide) ?_
          exact ⟨rfl, _, _, ⟨hk, hA, hT⟩, hG, pR_sm hpr⟩
      ·
        refine r_aload_n E (dat dkX10_parsePart 18 rfl) rfl rfl ?_
        refine r_callV (κ := 9) (μ := []) E (px_bts l G bs n _ t u A0 x _ hB hn hA hT hG hn6 rfl hx hg h0 hC (tW_n h6) (tW_n h22) (tW_1 h38)) my_X10_parseBoots iv_X10_parseBoots ml_X10_225 cm_id ⟨by decide, rfl, rfl⟩ rfl rfl rfl rfl (by decide) (Nat.le_of_ble_eq_true rfl) (dat dkX10_parsePart 19 rfl) ?_
        rintro _ M9 ⟨rfl, t4, A2, hp9, hG4, hpr⟩
        obtain ⟨Ma, hMr, hk9, hA, hT⟩ : ∃ M2, Mrg 1 [] _ M9 M2 ∧ kq _ M2 ∧ M2 0 1 = _ ∧ TI M2 _ := ⟨setm M 0 (M9 0), Mrg_m0, hp9.1, hp9.2.1, hp9.2.2⟩
        replace hB := (hk9.2.2.2.1).trans hB
        replace hn := (hk9.2.2.2.2.2.2.2.2.1).trans hn
        replace hk := kq_t hk hk9
        replace hG := hG4
        refine ⟨_, hMr, ?_⟩
        clear hp9 hMr hk9
        refine r_goto (tgt := 70) E (dat dkX10_parsePart 20 rfl) rfl ?_
        refine r_aload_n E (dat dkX10_parsePart 32 rfl) rfl rfl ?_
        refine r_callV (κ := 9) (μ := []) E (px_smc l G bs n _ _  _ hB hn hA hT hG hn6) my_X10_parseSemicolon iv_X10_parseSemicolon ml_X10_233 cm_id ⟨by decide, rfl, rfl⟩ rfl rfl rfl rfl (by decide) (Nat.le_of_ble_eq_true rfl) (dat dkX10_parsePart 33 rfl) ?_
        rintro _ M9 ⟨rfl, hp9, hs9⟩
        obtain ⟨Ma, hMr, hk9, hA, hT, hS9⟩ := Mrg_pk hp9 hs9
        replace hB := (hk9.2.2.2.1).trans hB
        replace hn := (hk9.2.2.2.2.2.2.2.2.1).trans hn
        replace hk := kq_t hk hk9
        replace hG := TG_sm (b := bs) hG
        refine ⟨_, hMr, ?_⟩
        clear hp9 hs9 hMr hk9 hS9
        refine r_vreturn E (dat dkX10_parsePart 34 rfl) (by decide) (by decide) ?_
        exact ⟨rfl, _, _, ⟨hk, hA, hT⟩, hG, pR_sm hpr⟩
    ·
      refine r_aload_n E (dat dkX10_parsePart 11 rfl) rfl rfl ?_
      refine r_callV (κ := 9) (μ := []) E (px_gut l G bs n _ t u A0 x _ hB hn hA hT hG hn6 rfl hx hg h0 hC (tW_n h6) (tW_1 h22)) my_X10_parseGutter iv_X10_parseGutter ml_X10_220 cm_id ⟨by decide, rfl, rfl⟩ rfl rfl rfl rfl (by decide) (Nat.le_of_ble_eq_true rfl) (dat dkX10_parsePart 12 rfl) ?_
      rintro _ M9 ⟨rfl, t4, A2, hp9, hG4, hpr⟩
      obtain ⟨Ma, hMr, hk9, hA, hT⟩ : ∃ M2, Mrg 1 [] _ M9 M2 ∧ kq _ M2 ∧ M2 0 1 = _ ∧ TI M2 _ := ⟨setm M 0 (M9 0), Mrg_m0, hp9.1, hp9.2.1, hp9.2.2⟩
      replace hB := (hk9.2.2.2.1).trans hB
      replace hn := (hk9.2.2.2.2.2.2.2.2.1).trans hn
      replace hk := kq_t hk hk9
      replace hG := hG4
      refine ⟨_, hMr, ?_⟩
      clear hp9 hMr hk9
      refine r_goto (tgt := 70) E (dat dkX10_parsePart 13 rfl) rfl ?_
      refine r_aload_n E (dat dkX10_parsePart 32 rfl) rfl rfl ?_
      refine r_callV (κ := 9) (μ := []) E (px_smc l G bs n _ _  _ hB hn hA hT hG hn6) my_X10_parseSemicolon iv_X10_parseSemicolon ml_X10_233 cm_id ⟨by decide, rfl, rfl⟩ rfl rfl rfl rfl (by decide) (Nat.le_of_ble_eq_true rfl) (dat dkX10_parsePart 33 rfl) ?_
      rintro _ M9 ⟨rfl, hp9, hs9⟩
      obtain ⟨Ma, hMr, hk9, hA, hT, hS9⟩ := Mrg_pk hp9 hs9
      replace hB := (hk9.2.2.2.1).trans hB
      replace hn := (hk9.2.2.2.2.2.2.2.2.1).trans hn
      replace hk := kq_t hk hk9
      replace hG := TG_sm (b := bs) hG
      refine ⟨_, hMr, ?_⟩
      clear hp9 hs9 hMr hk9 hS9
      refine r_vreturn E (dat dkX10_parsePart 34 rfl) (by decide) (by decide) ?_
      exact ⟨rfl, _, _, ⟨hk, hA, hT⟩, hG, pR_sm hpr⟩
  ·
    refine r_aload_n E (dat dkX10_parsePart 4 rfl) rfl rfl ?_
    refine r_callV (κ := 9) (μ := []) E (px_row l G bs n _ t u A0 x _ hB hn hA hT hG hn6 rfl hx hg h0 hC (tW_1 h6)) my_X10_parseRow iv_X10_parseRow ml_X10_216 cm_id ⟨by decide, rfl, rfl⟩ rfl rfl rfl rfl (by decide) (Nat.le_of_ble_eq_true rfl) (dat dkX10_parsePart 5 rfl) ?_
    rintro _ M9 ⟨rfl, t4, A2, hp9, hG4, hpr⟩
    obtain ⟨Ma, hMr, hk9, hA, hT⟩ : ∃ M2, Mrg 1 [] _ M9 M2 ∧ kq _ M2 ∧ M2 0 1 = _ ∧ TI M2 _ := ⟨setm M 0 (M9 0), Mrg_m0, hp9.1, hp9.2.1, hp9.2.2⟩
    replace hB := (hk9.2.2.2.1).trans hB
    replace hn := (hk9.2.2.2.2.2.2.2.2.1).trans hn
    replace hk := kq_t hk hk9
    replace hG := hG4
    refine ⟨_, hMr, ?_⟩
    clear hp9 hMr hk9
    refine r_goto (tgt := 70) E (dat dkX10_parsePart 6 rfl) rfl ?_
    refine r_aload_n E (dat dkX10_parsePart 32 rfl) rfl rfl ?_
    refine r_callV (κ := 9) (μ := []) E (px_smc l G bs n _ _  _ hB hn hA hT hG hn6) my_X10_parseSemicolon iv_X10_parseSemicolon ml_X10_233 cm_id ⟨by decide, rfl, rfl⟩ rfl rfl rfl rfl (by decide) (Nat.le_of_ble_eq_true rfl) (dat dkX10_parsePart 33 rfl) ?_
    rintro _ M9 ⟨rfl, hp9, hs9⟩
    obtain ⟨Ma, hMr, hk9, hA, hT, hS9⟩ := Mrg_pk hp9 hs9
    replace hB := (hk9.2.2.2.1).trans hB
    replace hn := (hk9.2.2.2.2.2.2.2.2.1).trans hn
    replace hk := kq_t hk hk9
    replace hG := TG_sm (b := bs) hG
    refine ⟨_, hMr, ?_⟩
    clear hp9 hs9 hMr hk9 hS9
    refine r_vreturn E (dat dkX10_parsePart 34 rfl) (by decide) (by decide) ?_
    exact ⟨rfl, _, _, ⟨hk, hA, hT⟩, hG, pR_sm hpr⟩
