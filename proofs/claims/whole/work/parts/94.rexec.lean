/-! the reference: a statement executed -/
def exV (x : PP) (v : Nat) (a b c : Int32) (T : Nat → Nat → Int32) : Int32 × (Nat → Nat → Int32) := exK x.1.2.2 x.2.2.2.2.1 x.2.1 x.2.2.1 x.2.2.2.2.2.2.2.1 (nbx x) v a b c T
theorem ZI_up {x : PP} {T : Nat → Nat → Int32} {L : Int} (h : ZI x T L) : ZI x T (L + 9) := ⟨h.1, h.2.1, NN_mono h.2.2 (by omega)⟩
set_option maxRecDepth 100000 in
set_option maxHeartbeats 4000000 in
theorem sp_ex_0 (l : Launch) (G : GT) (A0 : Nat → Int32) (x : PP) (T : Nat → Nat → Int32) (L : Int) (S : Nat → Int32) (i : Nat) (a b c : Int32) (M : Mem) (hA : M 0 1 = enc A0 x T) (hx : PIv x) (hv : PVi x) (hpl : PLi x T) (hz : ZI x T L) (hL : L + 9 < 2147483648) (hi : i < 30) (hS21 : M 0 21 = S) (h0 : S (4 * i) = nI 0) (h1 : S (4 * i + 1) = a) (h2 : (0 = 1 ∨ 0 = 3 ∨ 0 = 5) → S (4 * i + 2) = b) (h3 : 0 = 1 → S (4 * i + 3) = c) (hvo : vOK x.1.2.2 x.2.2.2.2.1 0 a b) (hvr : vRG 0 a b c) : MC l G yX10_execute cX10_execute 5 (some .boolean) ({ frames := 8, cells := 0, slots := 0, locals := 177 } : Room) [9] lk0 [rv 0 0, iv (nI i)] (M) (fun r M2 => r = some (iv (exV x 0 a b c T).1) ∧ M2 = md M (enc A0 x (exV x 0 a b c T).2) ∧ ZI x (exV x 0 a b c T).2 (L + 9)) := by
  refine MC.of RX10 [some (rv 0 0), some (iv (nI i)), none, none, none] 3 (by decide +kernel) rfl rfl rfl ?_
  intro pp ee ss mm aa bb me cd ad E
  have hn64 := (PIv_z hx).1
  
  refine r_iconst (v := 4) E (dat dkX10_execute 0 rfl) rfl ?_
  refine r_iload_n E (dat dkX10_execute 1 rfl) rfl rfl ?_
  refine r_imul E (dat dkX10_execute 2 rfl) ?_
  rw [show (4 : Int32) * nI i = nI (4 * i) from pk_mul 4 i]
  refine r_istore_2 E (dat dkX10_execute 3 rfl) rfl rfl ?_
  refine r_aload_n E (dat dkX10_execute 4 rfl) rfl rfl ?_
  refine q_geta E fl_X10_36 (dat dkX10_execute 5 rfl) rfl rfl rfl ?_
  refine r_iload_n E (dat dkX10_execute 6 rfl) rfl rfl ?_
  refine r_iconst (v := 1) E (dat dkX10_execute 7 rfl) rfl ?_
  refine r_iadd E (dat dkX10_execute 8 rfl) ?_
  refine q_iald E (dat dkX10_execute 9 rfl) rfl rfl (by decide) (show (_ : Nat → Int32) = S from hS21) (show nI (4 * i) + 1 = nI (4 * i + 1) from nI_1 _) (by omega) ?_
  rw [h1]
  refine r_istore_3 E (dat dkX10_execute 10 rfl) rfl rfl ?_
  refine r_aload_n E (dat dkX10_execute 11 rfl) rfl rfl ?_
  refine q_geta E fl_X10_36 (dat dkX10_execute 12 rfl) rfl rfl rfl ?_
  refine r_iload_n E (dat dkX10_execute 13 rfl) rfl rfl ?_
  refine r_iconst (v := 2) E (dat dkX10_execute 14 rfl) rfl ?_
  refine r_iadd E (dat dkX10_execute 15 rfl) ?_
  refine q_iald E (dat dkX10_execute 16 rfl) rfl rfl (by decide) (show (_ : Nat → Int32) = S from hS21) (show nI (4 * i) + 2 = nI (4 * i + 2) from nI_add _ 2) (by omega) ?_
  refine r_istore_4 E (dat dkX10_execute 17 rfl) rfl rfl ?_
  refine r_aload_n E (dat dkX10_execute 18 rfl) rfl rfl ?_
  refine q_geta E fl_X10_36 (dat dkX10_execute 19 rfl) rfl rfl rfl ?_
  refine r_iload_n E (dat dkX10_execute 20 rfl) rfl rfl ?_
  refine q_iald E (dat dkX10_execute 21 rfl) rfl rfl (by decide) (show (_ : Nat → Int32) = S from hS21) rfl (by omega) ?_
  rw [show S (4 * i) = (0 : Int32) from h0]
  refine r_tabIn (off := 43) (tgt := 72) E (dat dkX10_execute 22 rfl) (by decide +kernel) (by decide +kernel) (by rfl) rfl ?_
  refine r_aload_n E (dat dkX10_execute 23 rfl) rfl rfl ?_
  refine r_iload_n E (dat dkX10_execute 24 rfl) rfl rfl ?_
  refine r_callV (κ := 9) (μ := []) E (sp_X10_changeRain l G A0 x T a _ hA hx) my_X10_changeRain iv_X10_changeRain ml_X10_282 cm_id ⟨by decide, rfl, rfl⟩ rfl rfl rfl rfl (by decide) (Nat.le_of_ble_eq_true rfl) (dat dkX10_execute 25 rfl) ?_
  rintro _ _ ⟨rfl, rfl⟩
  refine ⟨_, Mrg_md2 (by decide) rfl, ?_⟩
  refine r_if_lt (tgt := 84) E (dat dkX10_execute 26 rfl) rfl (fun h77 => ?_) (fun h77 => ?_)
  ·
    exact absurd h77 (Int32.not_lt.mpr (i_le.mpr hz.1.1.1))
  ·
    refine r_iconst (v := 1) E (dat dkX10_execute 27 rfl) rfl ?_
    refine r_goto (tgt := 85) E (dat dkX10_execute 28 rfl) rfl ?_
    refine r_zreturn E (dat dkX10_execute 30 rfl) rfl (by decide) (by decide) ?_
    rw [show exV x 0 a b c T = _ from exK_0]
    exact ⟨rfl, rfl, (ZI_up (ZI_ra hz (hvr.1 rfl).1 (hvr.1 rfl).2))⟩

set_option maxRecDepth 100000 in
set_option maxHeartbeats 4000000 in
theorem sp_ex_1 (l : Launch) (G : GT) (A0 : Nat → Int32) (x : PP) (T : Nat → Nat → Int32) (L : Int) (S : Nat → Int32) (i : Nat) (a b c : Int32) (M : Mem) (hA : M 0 1 = enc A0 x T) (hx : PIv x) (hv : PVi x) (hpl : PLi x T) (hz : ZI x T L) (hL : L + 9 < 2147483648) (hi : i < 30) (hS21 : M 0 21 = S) (h0 : S (4 * i) = nI 1) (h1 : S (4 * i + 1) = a) (h2 : (1 = 1 ∨ 1 = 3 ∨ 1 = 5) → S (4 * i + 2) = b) (h3 : 1 = 1 → S (4 * i + 3) = c) (hvo : vOK x.1.2.2 x.2.2.2.2.1 1 a b) (hvr : vRG 1 a b c) : MC l G yX10_execute cX10_execute 5 (some .boolean) ({ frames := 8, cells := 0, slots := 0, locals := 177 } : Room) [9] lk0 [rv 0 0, iv (nI i)] (M) (fun r M2 => r = some (iv (exV x 1 a b c T).1) ∧ M2 = md M (enc A0 x (exV x 1 a b c T).2) ∧ ZI x (exV x 1 a b c T).2 (L + 9)) := by
  refine MC.of RX10 [some (rv 0 0), some (iv (nI i)), none, none, none] 3 (by decide +kernel) rfl rfl rfl ?_
  intro pp ee ss mm aa bb me cd ad E
  have hn64 := (PIv_z hx).1
  obtain ⟨q, hq, rfl⟩ := hvo.1 (by decide)
  have hcl : (nI q).toNatClampNeg = q := nI_clamp (by omega)
  have hp4 : 0 ≤ T 4 q := i_le.mpr (hz.1.2.2.1 q hq).1
  
  refine r_iconst (v := 4) E (dat dkX10_execute 0 rfl) rfl ?_
  refine r_iload_n E (dat dkX10_execute 1 rfl) rfl rfl ?_
  refine r_imul E (dat dkX10_execute 2 rfl) ?_
  rw [show (4 : Int32) * nI i = nI (4 * i) from pk_mul 4 i]
  refine r_istore_2 E (dat dkX10_execute 3 rfl) rfl rfl ?_
  refine r_aload_n E (dat dkX10_execute 4 rfl) rfl rfl ?_
  refine q_geta E fl_X10_36 (dat dkX10_execute 5 rfl) rfl rfl rfl ?_
  refine r_iload_n E (dat dkX10_execute 6 rfl) rfl rfl ?_
  refine r_iconst (v := 1) E (dat dkX10_execute 7 rfl) rfl ?_
  refine r_iadd E (dat dkX10_execute 8 rfl) ?_
  refine q_iald E (dat dkX10_execute 9 rfl) rfl rfl (by decide) (show (_ : Nat → Int32) = S from hS21) (show nI (4 * i) + 1 = nI (4 * i + 1) from nI_1 _) (by omega) ?_
  rw [h1]
  refine r_istore_3 E (dat dkX10_execute 10 rfl) rfl rfl ?_
  refine r_aload_n E (dat dkX10_execute 11 rfl) rfl rfl ?_
  refine q_geta E fl_X10_36 (dat dkX10_execute 12 rfl) rfl rfl rfl ?_
  refine r_iload_n E (dat dkX10_execute 13 rfl) rfl rfl ?_
  refine r_iconst (v := 2) E (dat dkX10_execute 14 rfl) rfl ?_
  refine r_iadd E (dat dkX10_execute 15 rfl) ?_
  refine q_iald E (dat dkX10_execute 16 rfl) rfl rfl (by decide) (show (_ : Nat → Int32) = S from hS21) (show nI (4 * i) + 2 = nI (4 * i + 2) from nI_add _ 2) (by omega) ?_
  rw [h2 (by decide)]
  refine r_istore_4 E (dat dkX10_execute 17 rfl) rfl rfl ?_
  refine r_aload_n E (dat dkX10_execute 18 rfl) rfl rfl ?_
  refine q_geta E fl_X10_36 (dat dkX10_execute 19 rfl) rfl rfl rfl ?_
  refine r_iload_n E (dat dkX10_execute 20 rfl) rfl rfl ?_
  refine q_iald E (dat dkX10_execute 21 rfl) rfl rfl (by decide) (show (_ : Nat → Int32) = S from hS21) rfl (by omega) ?_
  rw [show S (4 * i) = (1 : Int32) from h0]
  refine r_tabIn (off := 57) (tgt := 86) E (dat dkX10_execute 22 rfl) (by decide +kernel) (by decide +kernel) (by rfl) rfl ?_
  refine r_aload_n E (dat dkX10_execute 31 rfl) rfl rfl ?_
  refine r_iload_n E (dat dkX10_execute 32 rfl) rfl rfl ?_
  refine r_iconst (v := 5) E (dat dkX10_execute 33 rfl) rfl ?_
  refine r_callV (κ := 9) (μ := []) E (sp_X10_get l G q 5 _ (enc A0 x T) hA (by omega) (by decide)) my_X10_get iv_X10_get ml_X10_76 cm_id ⟨by decide, rfl, rfl⟩ rfl rfl rfl rfl (by decide) (Nat.le_of_ble_eq_true rfl) (dat dkX10_execute 34 rfl) ?_
  rintro _ _ ⟨rfl, rfl⟩
  refine ⟨_, Mrg_z rfl, ?_⟩
  rw [e_t hq hn64]
  refine r_if_ne (tgt := 117) E (dat dkX10_execute 35 rfl) rfl (fun h92 => ?_) (fun h92 => ?_)
  ·
    refine r_iconst (v := 0) E (dat dkX10_execute 49 rfl) rfl ?_
    refine r_zreturn E (dat dkX10_execute 50 rfl) rfl (by decide) (by decide) ?_
    first
      | (have h9 := Int32.lt_of_le_of_ne hp4 (fun q9 => h92 q9.symm)
         rw [show exV x 1 (nI q) b c T = _ from (exK_1 hcl).trans (if_neg (Int32.not_le.mpr h9))]
         exact ⟨rfl, (md_of hA).symm, (ZI_up hz)⟩)
      | (have h9 : T 4 q = 0 := (by first | exact h92 | exact Decidable.not_not.mp h92)
         rw [show exV x 1 (nI q) b c T = _ from (exK_1 hcl).trans (if_pos (by rw [h9]; decide))]
         exact ⟨rfl, rfl, (ZI_up (ZI_op (c := q) hz (hvr.2.1 rfl).1.1 (hvr.2.1 rfl).1.2 (hvr.2.1 rfl).2.1 (hvr.2.1 rfl).2.2))⟩)
  ·
    refine r_aload_n E (dat dkX10_execute 36 rfl) rfl rfl ?_
    refine r_iload_n E (dat dkX10_execute 37 rfl) rfl rfl ?_
    refine r_iload E (dat dkX10_execute 38 rfl) rfl ?_
    refine r_aload_n E (dat dkX10_execute 39 rfl) rfl rfl ?_
    refine q_geta E fl_X10_36 (dat dkX10_execute 40 rfl) rfl rfl rfl ?_
    refine r_iload_n E (dat dkX10_execute 41 rfl) rfl rfl ?_
    refine r_iconst (v := 3) E (dat dkX10_execute 42 rfl) rfl ?_
    refine r_iadd E (dat dkX10_execute 43 rfl) ?_
    refine q_iald E (dat dkX10_execute 44 rfl) rfl rfl (by decide) (show (_ : Nat → Int32) = S from hS21) (show nI (4 * i) + 3 = nI (4 * i + 3) from nI_add _ 3) (by omega) ?_
    rw [h3 rfl]
    refine r_callV (κ := 9) (μ := []) E (sp_X10_openHydrant l G A0 x T q b c _ hA hx hq) my_X10_openHydrant iv_X10_openHydrant ml_X10_285 cm_id ⟨by decide, rfl, rfl⟩ rfl rfl rfl rfl (by decide) (Nat.le_of_ble_eq_true rfl) (dat dkX10_execute 45 rfl) ?_
    rintro _ _ ⟨rfl, rfl⟩
    refine ⟨_, Mrg_md2 (by decide) rfl, ?_⟩
    refine r_if_le (tgt := 117) E (dat dkX10_execute 46 rfl) rfl (fun h110 => ?_) (fun h110 => ?_)
    ·
      exact absurd (show sm (cO (opT T q b c 4)) x.1.2.2 ≤ 0 from (by first | exact h110 | exact Int32.not_lt.mp h110)) (Int32.not_le.mpr (i_lt.mpr (by have := (cO_b (w := opT T q b c 4) x.1.2.2 (by omega)).2.2 q hq (by show 0 < upd (T 4) q c q; rw [upd_at]; exact Int32.lt_of_lt_of_le (by decide) (hvr.2.1 rfl).2.1); rw [i_0]; omega)))
    ·
      refine r_iconst (v := 1) E (dat dkX10_execute 47 rfl) rfl ?_
      refine r_goto (tgt := 118) E (dat dkX10_execute 48 rfl) rfl ?_
      refine r_zreturn E (dat dkX10_execute 50 rfl) rfl (by decide) (by decide) ?_
      first
        | (have h9 := Int32.lt_of_le_of_ne hp4 (fun q9 => h92 q9.symm)
           rw [show exV x 1 (nI q) b c T = _ from (exK_1 hcl).trans (if_neg (Int32.not_le.mpr h9))]
           exact ⟨rfl, (md_of hA).symm, (ZI_up hz)⟩)
        | (have h9 : T 4 q = 0 := (by first | exact h92 | exact Decidable.not_not.mp h92)
           rw [show exV x 1 (nI q) b c T = _ from (exK_1 hcl).trans (if_pos (by rw [h9]; decide))]
           exact ⟨rfl, rfl, (ZI_up (ZI_op (c := q) hz (hvr.2.1 rfl).1.1 (hvr.2.1 rfl).1.2 (hvr.2.1 rfl).2.1 (hvr.2.1 rfl).2.2))⟩)

set_option maxRecDepth 100000 in
set_option maxHeartbeats 4000000 in
theorem sp_ex_2 (l : Launch) (G : GT) (A0 : Nat → Int32) (x : PP) (T : Nat → Nat → Int32) (L : Int) (S : Nat → Int32) (i : Nat) (a b c : Int32) (M : Mem) (hA : M 0 1 = enc A0 x T) (hx : PIv x) (hv : PVi x) (hpl : PLi x T) (hz : ZI x T L) (hL : L + 9 < 2147483648) (hi : i < 30) (hS21 : M 0 21 = S) (h0 : S (4 * i) = nI 2) (h1 : S (4 * i + 1) = a) (h2 : (2 = 1 ∨ 2 = 3 ∨ 2 = 5) → S (4 * i + 2) = b) (h3 : 2 = 1 → S (4 * i + 3) = c) (hvo : vOK x.1.2.2 x.2.2.2.2.1 2 a b) (hvr : vRG 2 a b c) : MC l G yX10_execute cX10_execute 5 (some .boolean) ({ frames := 8, cells := 0, slots := 0, locals := 177 } : Room) [9] lk0 [rv 0 0, iv (nI i)] (M) (fun r M2 => r = some (iv (exV x 2 a b c T).1) ∧ M2 = md M (enc A0 x (exV x 2 a b c T).2) ∧ ZI x (exV x 2 a b c T).2 (L + 9)) := by
  refine MC.of RX10 [some (rv 0 0), some (iv (nI i)), none, none, none] 3 (by decide +kernel) rfl rfl rfl ?_
  intro pp ee ss mm aa bb me cd ad E
  have hn64 := (PIv_z hx).1
  obtain ⟨q, hq, rfl⟩ := hvo.1 (by decide)
  have hcl : (nI q).toNatClampNeg = q := nI_clamp (by omega)
  
  refine r_iconst (v := 4) E (dat dkX10_execute 0 rfl) rfl ?_
  refine r_iload_n E (dat dkX10_execute 1 rfl) rfl rfl ?_
  refine r_imul E (dat dkX10_execute 2 rfl) ?_
  rw [show (4 : Int32) * nI i = nI (4 * i) from pk_mul 4 i]
  refine r_istore_2 E (dat dkX10_execute 3 rfl) rfl rfl ?_
  refine r_aload_n E (dat dkX10_execute 4 rfl) rfl rfl ?_
  refine q_geta E fl_X10_36 (dat dkX10_execute 5 rfl) rfl rfl rfl ?_
  refine r_iload_n E (dat dkX10_execute 6 rfl) rfl rfl ?_
  refine r_iconst (v := 1) E (dat dkX10_execute 7 rfl) rfl ?_
  refine r_iadd E (dat dkX10_execute 8 rfl) ?_
  refine q_iald E (dat dkX10_execute 9 rfl) rfl rfl (by decide) (show (_ : Nat → Int32) = S from hS21) (show nI (4 * i) + 1 = nI (4 * i + 1) from nI_1 _) (by omega) ?_
  rw [h1]
  refine r_istore_3 E (dat dkX10_execute 10 rfl) rfl rfl ?_
  refine r_aload_n E (dat dkX10_execute 11 rfl) rfl rfl ?_
  refine q_geta E fl_X10_36 (dat dkX10_execute 12 rfl) rfl rfl rfl ?_
  refine r_iload_n E (dat dkX10_execute 13 rfl) rfl rfl ?_
  refine r_iconst (v := 2) E (dat dkX10_execute 14 rfl) rfl ?_
  refine r_iadd E (dat dkX10_execute 15 rfl) ?_
  refine q_iald E (dat dkX10_execute 16 rfl) rfl rfl (by decide) (show (_ : Nat → Int32) = S from hS21) (show nI (4 * i) + 2 = nI (4 * i + 2) from nI_add _ 2) (by omega) ?_
  refine r_istore_4 E (dat dkX10_execute 17 rfl) rfl rfl ?_
  refine r_aload_n E (dat dkX10_execute 18 rfl) rfl rfl ?_
  refine q_geta E fl_X10_36 (dat dkX10_execute 19 rfl) rfl rfl rfl ?_
  refine r_iload_n E (dat dkX10_execute 20 rfl) rfl rfl ?_
  refine q_iald E (dat dkX10_execute 21 rfl) rfl rfl (by decide) (show (_ : Nat → Int32) = S from hS21) rfl (by omega) ?_
  rw [show S (4 * i) = (2 : Int32) from h0]
  refine r_tabIn (off := 90) (tgt := 119) E (dat dkX10_execute 22 rfl) (by decide +kernel) (by decide +kernel) (by rfl) rfl ?_
  refine r_aload_n E (dat dkX10_execute 51 rfl) rfl rfl ?_
  refine r_iload_n E (dat dkX10_execute 52 rfl) rfl rfl ?_
  refine r_iconst (v := 5) E (dat dkX10_execute 53 rfl) rfl ?_
  refine r_callV (κ := 9) (μ := []) E (sp_X10_get l G q 5 _ (enc A0 x T) hA (by omega) (by decide)) my_X10_get iv_X10_get ml_X10_76 cm_id ⟨by decide, rfl, rfl⟩ rfl rfl rfl rfl (by decide) (Nat.le_of_ble_eq_true rfl) (dat dkX10_execute 54 rfl) ?_
  rintro _ _ ⟨rfl, rfl⟩
  refine ⟨_, Mrg_z rfl, ?_⟩
  rw [e_t hq hn64]
  refine r_if_le (tgt := 140) E (dat dkX10_execute 55 rfl) rfl (fun h125 => ?_) (fun h125 => ?_)
  ·
    refine r_iconst (v := 0) E (dat dkX10_execute 62 rfl) rfl ?_
    refine r_zreturn E (dat dkX10_execute 63 rfl) rfl (by decide) (by decide) ?_
    first
      | (rw [show exV x 2 (nI q) b c T = _ from (exK_2 hcl).trans (if_pos (show T 4 q ≤ 0 from h125))]
         exact ⟨rfl, (md_of hA).symm, (ZI_up hz)⟩)
      | (rw [show exV x 2 (nI q) b c T = _ from (exK_2 hcl).trans (if_neg (show ¬ T 4 q ≤ 0 from by first | exact h125 | exact Int32.not_le.mpr h125))]
         exact ⟨rfl, rfl, (ZI_up (ZI_sh (c := q) hz))⟩)
  ·
    refine r_aload_n E (dat dkX10_execute 56 rfl) rfl rfl ?_
    refine r_iload_n E (dat dkX10_execute 57 rfl) rfl rfl ?_
    refine r_callV (κ := 9) (μ := []) E (sp_X10_shutHydrant l G A0 x T q _ hA hx hq) my_X10_shutHydrant iv_X10_shutHydrant ml_X10_289 cm_id ⟨by decide, rfl, rfl⟩ rfl rfl rfl rfl (by decide) (Nat.le_of_ble_eq_true rfl) (dat dkX10_execute 58 rfl) ?_
    rintro _ _ ⟨rfl, rfl⟩
    refine ⟨_, Mrg_md2 (by decide) rfl, ?_⟩
    refine r_if_le (tgt := 140) E (dat dkX10_execute 59 rfl) rfl (fun h133 => ?_) (fun h133 => ?_)
    ·
      exact absurd (by first | exact h133 | exact Int32.not_lt.mp h133) (by first | exact h125 | exact Int32.not_le.mpr h125)
    ·
      refine r_iconst (v := 1) E (dat dkX10_execute 60 rfl) rfl ?_
      refine r_goto (tgt := 141) E (dat dkX10_execute 61 rfl) rfl ?_
      refine r_zreturn E (dat dkX10_execute 63 rfl) rfl (by decide) (by decide) ?_
      first
        | (rw [show exV x 2 (nI q) b c T = _ from (exK_2 hcl).trans (if_pos (show T 4 q ≤ 0 from h125))]
           exact ⟨rfl, (md_of hA).symm, (ZI_up hz)⟩)
        | (rw [show exV x 2 (nI q) b c T = _ from (exK_2 hcl).trans (if_neg (show ¬ T 4 q ≤ 0 from by first | exact h125 | exact Int32.not_le.mpr h125))]
           exact ⟨rfl, rfl, (ZI_up (ZI_sh (c := q) hz))⟩)

set_option maxRecDepth 100000 in
set_option maxHeartbeats 4000000 in
theorem sp_ex_3 (l : Launch) (G : GT) (A0 : Nat → Int32) (x : PP) (T : Nat → Nat → Int32) (L : Int) (S : Nat → Int32) (i : Nat) (a b c : Int32) (M : Mem) (hA : M 0 1 = enc A0 x T) (hx : PIv x) (hv : PVi x) (hpl : PLi x T) (hz : ZI x T L) (hL : L + 9 < 2147483648) (hi : i < 30) (hS21 : M 0 21 = S) (h0 : S (4 * i) = nI 3) (h1 : S (4 * i + 1) = a) (h2 : (3 = 1 ∨ 3 = 3 ∨ 3 = 5) → S (4 * i + 2) = b) (h3 : 3 = 1 → S (4 * i + 3) = c) (hvo : vOK x.1.2.2 x.2.2.2.2.1 3 a b) (hvr : vRG 3 a b c) : MC l G yX10_execute cX10_execute 5 (some .boolean) ({ frames := 8, cells := 0, slots := 0, locals := 177 } : Room) [9] lk0 [rv 0 0, iv (nI i)] (M) (fun r M2 => r = some (iv (exV x 3 a b c T).1) ∧ M2 = md M (enc A0 x (exV x 3 a b c T).2) ∧ ZI x (exV x 3 a b c T).2 (L + 9)) := by
  refine MC.of RX10 [some (rv 0 0), some (iv (nI i)), none, none, none] 3 (by decide +kernel) rfl rfl rfl ?_
  intro pp ee ss mm aa bb me cd ad E
  have hn64 := (PIv_z hx).1
  obtain ⟨q, hq, rfl⟩ := hvo.1 (by decide)
  have hcl : (nI q).toNatClampNeg = q := nI_clamp (by omega)
  
  refine r_iconst (v := 4) E (dat dkX10_execute 0 rfl) rfl ?_
  refine r_iload_n E (dat dkX10_execute 1 rfl) rfl rfl ?_
  refine r_imul E (dat dkX10_execute 2 rfl) ?_
  rw [show (4 : Int32) * nI i = nI (4 * i) from pk_mul 4 i]
  refine r_istore_2 E (dat dkX10_execute 3 rfl) rfl rfl ?_
  refine r_aload_n E (dat dkX10_execute 4 rfl) rfl rfl ?_
  refine q_geta E fl_X10_36 (dat dkX10_execute 5 rfl) rfl rfl rfl ?_
  refine r_iload_n E (dat dkX10_execute 6 rfl) rfl rfl ?_
  refine r_iconst (v := 1) E (dat dkX10_execute 7 rfl) rfl ?_
  refine r_iadd E (dat dkX10_execute 8 rfl) ?_
  refine q_iald E (dat dkX10_execute 9 rfl) rfl rfl (by decide) (show (_ : Nat → Int32) = S from hS21) (show nI (4 * i) + 1 = nI (4 * i + 1) from nI_1 _) (by omega) ?_
  rw [h1]
  refine r_istore_3 E (dat dkX10_execute 10 rfl) rfl rfl ?_
  refine r_aload_n E (dat dkX10_execute 11 rfl) rfl rfl ?_
  refine q_geta E fl_X10_36 (dat dkX10_execute 12 rfl) rfl rfl rfl ?_
  refine r_iload_n E (dat dkX10_execute 13 rfl) rfl rfl ?_
  refine r_iconst (v := 2) E (dat dkX10_execute 14 rfl) rfl ?_
  refine r_iadd E (dat dkX10_execute 15 rfl) ?_
  refine q_iald E (dat dkX10_execute 16 rfl) rfl rfl (by decide) (show (_ : Nat → Int32) = S from hS21) (show nI (4 * i) + 2 = nI (4 * i + 2) from nI_add _ 2) (by omega) ?_
  rw [h2 (by decide)]
  refine r_istore_4 E (dat dkX10_execute 17 rfl) rfl rfl ?_
  refine r_aload_n E (dat dkX10_execute 18 rfl) rfl rfl ?_
  refine q_geta E fl_X10_36 (dat dkX10_execute 19 rfl) rfl rfl rfl ?_
  refine r_iload_n E (dat dkX10_execute 20 rfl) rfl rfl ?_
  refine q_iald E (dat dkX10_execute 21 rfl) rfl rfl (by decide) (show (_ : Nat → Int32) = S from hS21) rfl (by omega) ?_
  rw [show S (4 * i) = (3 : Int32) from h0]
  refine r_tabIn (off := 113) (tgt := 142) E (dat dkX10_execute 22 rfl) (by decide +kernel) (by decide +kernel) (by rfl) rfl ?_
  refine r_aload_n E (dat dkX10_execute 64 rfl) rfl rfl ?_
  refine r_iload_n E (dat dkX10_execute 65 rfl) rfl rfl ?_
  refine r_iload E (dat dkX10_execute 66 rfl) rfl ?_
  refine r_callV (κ := 9) (μ := []) E (sp_X10_dropOn l G A0 x T q b _ hA hx hq) my_X10_dropOn iv_X10_dropOn ml_X10_292 cm_id ⟨by decide, rfl, rfl⟩ rfl rfl rfl rfl (by decide) (Nat.le_of_ble_eq_true rfl) (dat dkX10_execute 67 rfl) ?_
  rintro _ _ ⟨rfl, rfl⟩
  refine ⟨_, Mrg_md2 (by decide) rfl, ?_⟩
  refine r_if_le (tgt := 156) E (dat dkX10_execute 68 rfl) rfl (fun h149 => ?_) (fun h149 => ?_)
  ·
    exact absurd (show lvT T q b 2 q ≤ 0 from (by first | exact h149 | exact Int32.not_lt.mp h149)) (Int32.not_le.mpr (ZI_lv hz hL hq (hvr.2.2.1 rfl).1 (hvr.2.2.1 rfl).2).2)
  ·
    refine r_iconst (v := 1) E (dat dkX10_execute 69 rfl) rfl ?_
    refine r_goto (tgt := 157) E (dat dkX10_execute 70 rfl) rfl ?_
    refine r_zreturn E (dat dkX10_execute 72 rfl) rfl (by decide) (by decide) ?_
    rw [show exV x 3 (nI q) b c T = _ from exK_3 hcl]
    exact ⟨rfl, rfl, (ZI_lv hz hL hq (hvr.2.2.1 rfl).1 (hvr.2.2.1 rfl).2).1⟩

set_option maxRecDepth 100000 in
set_option maxHeartbeats 4000000 in
theorem sp_ex_4 (l : Launch) (G : GT) (A0 : Nat → Int32) (x : PP) (T : Nat → Nat → Int32) (L : Int) (S : Nat → Int32) (i : Nat) (a b c : Int32) (M : Mem) (hA : M 0 1 = enc A0 x T) (hx : PIv x) (hv : PVi x) (hpl : PLi x T) (hz : ZI x T L) (hL : L + 9 < 2147483648) (hi : i < 30) (hS21 : M 0 21 = S) (h0 : S (4 * i) = nI 4) (h1 : S (4 * i + 1) = a) (h2 : (4 = 1 ∨ 4 = 3 ∨ 4 = 5) → S (4 * i + 2) = b) (h3 : 4 = 1 → S (4 * i + 3) = c) (hvo : vOK x.1.2.2 x.2.2.2.2.1 4 a b) (hvr : vRG 4 a b c) : MC l G yX10_execute cX10_execute 5 (some .boolean) ({ frames := 8, cells := 0, slots := 0, locals := 177 } : Room) [9] lk0 [rv 0 0, iv (nI i)] (M) (fun r M2 => r = some (iv (exV x 4 a b c T).1) ∧ M2 = md M (enc A0 x (exV x 4 a b c T).2) ∧ ZI x (exV x 4 a b c T).2 (L + 9)) := by
  refine MC.of RX10 [some (rv 0 0), some (iv (nI i)), none, none, none] 3 (by decide +kernel) rfl rfl rfl ?_
  intro pp ee ss mm aa bb me cd ad E
  have hn64 := (PIv_z hx).1
  obtain ⟨q, hq, rfl⟩ := hvo.1 (by decide)
  have hcl : (nI q).toNatClampNeg = q := nI_clamp (by omega)
  
  refine r_iconst (v := 4) E (dat dkX10_execute 0 rfl) rfl ?_
  refine r_iload_n E (dat dkX10_execute 1 rfl) rfl rfl ?_
  refine r_imul E (dat dkX10_execute 2 rfl) ?_
  rw [show (4 : Int32) * nI i = nI (4 * i) from pk_mul 4 i]
  refine r_istore_2 E (dat dkX10_execute 3 rfl) rfl rfl ?_
  refine r_aload_n E (dat dkX10_execute 4 rfl) rfl rfl ?_
  refine q_geta E fl_X10_36 (dat dkX10_execute 5 rfl) rfl rfl rfl ?_
  refine r_iload_n E (dat dkX10_execute 6 rfl) rfl rfl ?_
  refine r_iconst (v := 1) E (dat dkX10_execute 7 rfl) rfl ?_
  refine r_iadd E (dat dkX10_execute 8 rfl) ?_
  refine q_iald E (dat dkX10_execute 9 rfl) rfl rfl (by decide) (show (_ : Nat → Int32) = S from hS21) (show nI (4 * i) + 1 = nI (4 * i + 1) from nI_1 _) (by omega) ?_
  rw [h1]
  refine r_istore_3 E (dat dkX10_execute 10 rfl) rfl rfl ?_
  refine r_aload_n E (dat dkX10_execute 11 rfl) rfl rfl ?_
  refine q_geta E fl_X10_36 (dat dkX10_execute 12 rfl) rfl rfl rfl ?_
  refine r_iload_n E (dat dkX10_execute 13 rfl) rfl rfl ?_
  refine r_iconst (v := 2) E (dat dkX10_execute 14 rfl) rfl ?_
  refine r_iadd E (dat dkX10_execute 15 rfl) ?_
  refine q_iald E (dat dkX10_execute 16 rfl) rfl rfl (by decide) (show (_ : Nat → Int32) = S from hS21) (show nI (4 * i) + 2 = nI (4 * i + 2) from nI_add _ 2) (by omega) ?_
  refine r_istore_4 E (dat dkX10_execute 17 rfl) rfl rfl ?_
  refine r_aload_n E (dat dkX10_execute 18 rfl) rfl rfl ?_
  refine q_geta E fl_X10_36 (dat dkX10_execute 19 rfl) rfl rfl rfl ?_
  refine r_iload_n E (dat dkX10_execute 20 rfl) rfl rfl ?_
  refine q_iald E (dat dkX10_execute 21 rfl) rfl rfl (by decide) (show (_ : Nat → Int32) = S from hS21) rfl (by omega) ?_
  rw [show S (4 * i) = (4 : Int32) from h0]
  refine r_tabIn (off := 129) (tgt := 158) E (dat dkX10_execute 22 rfl) (by decide +kernel) (by decide +kernel) (by rfl) rfl ?_
  refine r_aload_n E (dat dkX10_execute 73 rfl) rfl rfl ?_
  refine r_iload_n E (dat dkX10_execute 74 rfl) rfl rfl ?_
  refine r_callV (κ := 9) (μ := []) E (sp_X10_sweepFrom l G A0 x T q _ hA hx hq) my_X10_sweepFrom iv_X10_sweepFrom ml_X10_295 cm_id ⟨by decide, rfl, rfl⟩ rfl rfl rfl rfl (by decide) (Nat.le_of_ble_eq_true rfl) (dat dkX10_execute 75 rfl) ?_
  rintro _ _ ⟨rfl, rfl⟩
  refine ⟨_, Mrg_md2 (by decide) rfl, ?_⟩
  refine r_if_lt (tgt := 170) E (dat dkX10_execute 76 rfl) rfl (fun h163 => ?_) (fun h163 => ?_)
  ·
    exact absurd h163 (Int32.not_lt.mpr (i_le.mpr (hz.2.2.1 q hq)))
  ·
    refine r_iconst (v := 1) E (dat dkX10_execute 77 rfl) rfl ?_
    refine r_goto (tgt := 171) E (dat dkX10_execute 78 rfl) rfl ?_
    refine r_zreturn E (dat dkX10_execute 80 rfl) rfl (by decide) (by decide) ?_
    rw [show exV x 4 (nI q) b c T = _ from exK_4 hcl]
    exact ⟨rfl, rfl, (ZI_up (ZI_sw hz hq))⟩

set_option maxRecDepth 100000 in
set_option maxHeartbeats 4000000 in
theorem sp_ex_5 (l : Launch) (G : GT) (A0 : Nat → Int32) (x : PP) (T : Nat → Nat → Int32) (L : Int) (S : Nat → Int32) (i : Nat) (a b c : Int32) (M : Mem) (hA : M 0 1 = enc A0 x T) (hx : PIv x) (hv : PVi x) (hpl : PLi x T) (hz : ZI x T L) (hL : L + 9 < 2147483648) (hi : i < 30) (hS21 : M 0 21 = S) (h0 : S (4 * i) = nI 5) (h1 : S (4 * i + 1) = a) (h2 : (5 = 1 ∨ 5 = 3 ∨ 5 = 5) → S (4 * i + 2) = b) (h3 : 5 = 1 → S (4 * i + 3) = c) (hvo : vOK x.1.2.2 x.2.2.2.2.1 5 a b) (hvr : vRG 5 a b c) : MC l G yX10_execute cX10_execute 5 (some .boolean) ({ frames := 8, cells := 0, slots := 0, locals := 177 } : Room) [9] lk0 [rv 0 0, iv (nI i)] (M) (fun r M2 => r = some (iv (exV x 5 a b c T).1) ∧ M2 = md M (enc A0 x (exV x 5 a b c T).2) ∧ ZI x (exV x 5 a b c T).2 (L + 9)) := by
  refine MC.of RX10 [some (rv 0 0), some (iv (nI i)), none, none, none] 3 (by decide +kernel) rfl rfl rfl ?_
  intro pp ee ss mm aa bb me cd ad E
  have hn64 := (PIv_z hx).1
  obtain ⟨q, hq, rfl⟩ := hvo.2.1 (by decide)
  have hb4 := hx.2.2.2.2.1
  have hcl : (nI q).toNatClampNeg = q := nI_clamp (by omega)
  obtain ⟨f, hf, hfe⟩ := hpl q hq
  have hcp : (T 5 q).toNatClampNeg = f := by rw [hfe, nI_clamp (by omega)]
  obtain ⟨d, hd, rfl⟩ := hvo.2.2.1 rfl
  have hcd : (nI d).toNatClampNeg = d := nI_clamp (by omega)
  
  refine r_iconst (v := 4) E (dat dkX10_execute 0 rfl) rfl ?_
  refine r_iload_n E (dat dkX10_execute 1 rfl) rfl rfl ?_
  refine r_imul E (dat dkX10_execute 2 rfl) ?_
  rw [show (4 : Int32) * nI i = nI (4 * i) from pk_mul 4 i]
  refine r_istore_2 E (dat dkX10_execute 3 rfl) rfl rfl ?_
  refine r_aload_n E (dat dkX10_execute 4 rfl) rfl rfl ?_
  refine q_geta E fl_X10_36 (dat dkX10_execute 5 rfl) rfl rfl rfl ?_
  refine r_iload_n E (dat dkX10_execute 6 rfl) rfl rfl ?_
  refine r_iconst (v := 1) E (dat dkX10_execute 7 rfl) rfl ?_
  refine r_iadd E (dat dkX10_execute 8 rfl) ?_
  refine q_iald E (dat dkX10_execute 9 rfl) rfl rfl (by decide) (show (_ : Nat → Int32) = S from hS21) (show nI (4 * i) + 1 = nI (4 * i + 1) from nI_1 _) (by omega) ?_
  rw [h1]
  refine r_istore_3 E (dat dkX10_execute 10 rfl) rfl rfl ?_
  refine r_aload_n E (dat dkX10_execute 11 rfl) rfl rfl ?_
  refine q_geta E fl_X10_36 (dat dkX10_execute 12 rfl) rfl rfl rfl ?_
  refine r_iload_n E (dat dkX10_execute 13 rfl) rfl rfl ?_
  refine r_iconst (v := 2) E (dat dkX10_execute 14 rfl) rfl ?_
  refine r_iadd E (dat dkX10_execute 15 rfl) ?_
  refine q_iald E (dat dkX10_execute 16 rfl) rfl rfl (by decide) (show (_ : Nat → Int32) = S from hS21) (show nI (4 * i) + 2 = nI (4 * i + 2) from nI_add _ 2) (by omega) ?_
  rw [h2 (by decide)]
  refine r_istore_4 E (dat dkX10_execute 17 rfl) rfl rfl ?_
  refine r_aload_n E (dat dkX10_execute 18 rfl) rfl rfl ?_
  refine q_geta E fl_X10_36 (dat dkX10_execute 19 rfl) rfl rfl rfl ?_
  refine r_iload_n E (dat dkX10_execute 20 rfl) rfl rfl ?_
  refine q_iald E (dat dkX10_execute 21 rfl) rfl rfl (by decide) (show (_ : Nat → Int32) = S from hS21) rfl (by omega) ?_
  rw [show S (4 * i) = (5 : Int32) from h0]
  refine r_tabIn (off := 143) (tgt := 172) E (dat dkX10_execute 22 rfl) (by decide +kernel) (by decide +kernel) (by rfl) rfl ?_
  refine r_aload_n E (dat dkX10_execute 81 rfl) rfl rfl ?_
  refine r_iload_n E (dat dkX10_execute 82 rfl) rfl rfl ?_
  refine r_iload E (dat dkX10_execute 83 rfl) rfl ?_
  refine r_callV (κ := 9) (μ := []) E (sp_X10_canWalk l G A0 x T q f d _ hA hx hq hfe hf hd) my_X10_canWalk iv_X10_canWalk ml_X10_298 cm_id ⟨by decide, rfl, rfl⟩ rfl rfl rfl rfl (by decide) (Nat.le_of_ble_eq_true rfl) (dat dkX10_execute 84 rfl) ?_
  rintro _ _ ⟨rfl, rfl⟩
  refine ⟨_, Mrg_z rfl, ?_⟩
  rcases hj : nbx x f d with _ | j
  ·
    rw [if_pos (show oI none = -1 from rfl)]
    refine r_if_eq (tgt := 196) E (dat dkX10_execute 85 rfl) rfl (fun h179 => ?_) (fun h179 => ?_)
    ·
      refine r_iconst (v := 0) E (dat dkX10_execute 93 rfl) rfl ?_
      refine r_zreturn E (dat dkX10_execute 94 rfl) rfl (by decide) (by decide) ?_
      rw [show exV x 5 (nI q) (nI d) c T = _ from (exK_5 hcl hcp hcd).trans (by rw [hj])]
      exact ⟨rfl, (md_of hA).symm, (ZI_up hz)⟩
    ·
      exact absurd rfl h179
  ·
    have hjn := nbx_lt hx f d j hj
    rw [if_neg (oI_nm (show j < 64 by omega))]
    refine r_if_eq (tgt := 196) E (dat dkX10_execute 85 rfl) rfl (fun h179 => ?_) (fun h179 => ?_)
    ·
      exact absurd h179 (by decide)
    ·
      refine r_aload_n E (dat dkX10_execute 86 rfl) rfl rfl ?_
      refine r_iload_n E (dat dkX10_execute 87 rfl) rfl rfl ?_
      refine r_iload E (dat dkX10_execute 88 rfl) rfl ?_
      refine r_callV (κ := 9) (μ := []) E (sp_X10_walkOn l G A0 x T q f d j _ hA hx hq hfe hf hd hj) my_X10_walkOn iv_X10_walkOn ml_X10_302 cm_id ⟨by decide, rfl, rfl⟩ rfl rfl rfl rfl (by decide) (Nat.le_of_ble_eq_true rfl) (dat dkX10_execute 89 rfl) ?_
      rintro _ _ ⟨rfl, rfl⟩
      refine ⟨_, Mrg_md2 (by decide) rfl, ?_⟩
      refine r_if_lt (tgt := 196) E (dat dkX10_execute 90 rfl) rfl (fun h189 => ?_) (fun h189 => ?_)
      ·
        exact absurd h189 (nI_pos (by omega))
      ·
        refine r_iconst (v := 1) E (dat dkX10_execute 91 rfl) rfl ?_
        refine r_goto (tgt := 197) E (dat dkX10_execute 92 rfl) rfl ?_
        refine r_zreturn E (dat dkX10_execute 94 rfl) rfl (by decide) (by decide) ?_
        rw [show exV x 5 (nI q) (nI d) c T = _ from (exK_5 hcl hcp hcd).trans (by rw [hj])]
        exact ⟨rfl, rfl, (ZI_up (ZI_wk (bh := x.2.2.2.2.2.2.2.1) (b := q) (o := j) hz))⟩

set_option maxRecDepth 100000 in
set_option maxHeartbeats 4000000 in
theorem sp_ex_6 (l : Launch) (G : GT) (A0 : Nat → Int32) (x : PP) (T : Nat → Nat → Int32) (L : Int) (S : Nat → Int32) (i : Nat) (a b c : Int32) (M : Mem) (hA : M 0 1 = enc A0 x T) (hx : PIv x) (hv : PVi x) (hpl : PLi x T) (hz : ZI x T L) (hL : L + 9 < 2147483648) (hi : i < 30) (hS21 : M 0 21 = S) (h0 : S (4 * i) = nI 6) (h1 : S (4 * i + 1) = a) (h2 : (6 = 1 ∨ 6 = 3 ∨ 6 = 5) → S (4 * i + 2) = b) (h3 : 6 = 1 → S (4 * i + 3) = c) (hvo : vOK x.1.2.2 x.2.2.2.2.1 6 a b) (hvr : vRG 6 a b c) : MC l G yX10_execute cX10_execute 5 (some .boolean) ({ frames := 8, cells := 0, slots := 0, locals := 177 } : Room) [9] lk0 [rv 0 0, iv (nI i)] (M) (fun r M2 => r = some (iv (exV x 6 a b c T).1) ∧ M2 = md M (enc A0 x (exV x 6 a b c T).2) ∧ ZI x (exV x 6 a b c T).2 (L + 9)) := by
  refine MC.of RX10 [some (rv 0 0), some (iv (nI i)), none, none, none] 3 (by decide +kernel) rfl rfl rfl ?_
  intro pp ee ss mm aa bb me cd ad E
  have hn64 := (PIv_z hx).1
  obtain ⟨q, hq, rfl⟩ := hvo.2.1 (by decide)
  have hb4 := hx.2.2.2.2.1
  have hcl : (nI q).toNatClampNeg = q := nI_clamp (by omega)
  obtain ⟨f, hf, hfe⟩ := hpl q hq
  have hcp : (T 5 q).toNatClampNeg = f := by rw [hfe, nI_clamp (by omega)]
  
  refine r_iconst (v := 4) E (dat dkX10_execute 0 rfl) rfl ?_
  refine r_iload_n E (dat dkX10_execute 1 rfl) rfl rfl ?_
  refine r_imul E (dat dkX10_execute 2 rfl) ?_
  rw [show (4 : Int32) * nI i = nI (4 * i) from pk_mul 4 i]
  refine r_istore_2 E (dat dkX10_execute 3 rfl) rfl rfl ?_
  refine r_aload_n E (dat dkX10_execute 4 rfl) rfl rfl ?_
  refine q_geta E fl_X10_36 (dat dkX10_execute 5 rfl) rfl rfl rfl ?_
  refine r_iload_n E (dat dkX10_execute 6 rfl) rfl rfl ?_
  refine r_iconst (v := 1) E (dat dkX10_execute 7 rfl) rfl ?_
  refine r_iadd E (dat dkX10_execute 8 rfl) ?_
  refine q_iald E (dat dkX10_execute 9 rfl) rfl rfl (by decide) (show (_ : Nat → Int32) = S from hS21) (show nI (4 * i) + 1 = nI (4 * i + 1) from nI_1 _) (by omega) ?_
  rw [h1]
  refine r_istore_3 E (dat dkX10_execute 10 rfl) rfl rfl ?_
  refine r_aload_n E (dat dkX10_execute 11 rfl) rfl rfl ?_
  refine q_geta E fl_X10_36 (dat dkX10_execute 12 rfl) rfl rfl rfl ?_
  refine r_iload_n E (dat dkX10_execute 13 rfl) rfl rfl ?_
  refine r_iconst (v := 2) E (dat dkX10_execute 14 rfl) rfl ?_
  refine r_iadd E (dat dkX10_execute 15 rfl) ?_
  refine q_iald E (dat dkX10_execute 16 rfl) rfl rfl (by decide) (show (_ : Nat → Int32) = S from hS21) (show nI (4 * i) + 2 = nI (4 * i + 2) from nI_add _ 2) (by omega) ?_
  refine r_istore_4 E (dat dkX10_execute 17 rfl) rfl rfl ?_
  refine r_aload_n E (dat dkX10_execute 18 rfl) rfl rfl ?_
  refine q_geta E fl_X10_36 (dat dkX10_execute 19 rfl) rfl rfl rfl ?_
  refine r_iload_n E (dat dkX10_execute 20 rfl) rfl rfl ?_
  refine q_iald E (dat dkX10_execute 21 rfl) rfl rfl (by decide) (show (_ : Nat → Int32) = S from hS21) rfl (by omega) ?_
  rw [show S (4 * i) = (6 : Int32) from h0]
  refine r_tabIn (off := 169) (tgt := 198) E (dat dkX10_execute 22 rfl) (by decide +kernel) (by decide +kernel) (by rfl) rfl ?_
  refine r_aload_n E (dat dkX10_execute 95 rfl) rfl rfl ?_
  refine r_iload_n E (dat dkX10_execute 96 rfl) rfl rfl ?_
  refine r_callV (κ := 9) (μ := []) E (sp_X10_canSplash l G A0 x T q f _ hA hx hq hfe hf) my_X10_canSplash iv_X10_canSplash ml_X10_305 cm_id ⟨by decide, rfl, rfl⟩ rfl rfl rfl rfl (by decide) (Nat.le_of_ble_eq_true rfl) (dat dkX10_execute 97 rfl) ?_
  rintro _ _ ⟨rfl, rfl⟩
  refine ⟨_, Mrg_z rfl, ?_⟩
  by_cases hw : T 1 f = 0
  ·
    rw [if_pos hw]
    refine r_if_eq (tgt := 218) E (dat dkX10_execute 98 rfl) rfl (fun h203 => ?_) (fun h203 => ?_)
    ·
      refine r_iconst (v := 0) E (dat dkX10_execute 105 rfl) rfl ?_
      refine r_zreturn E (dat dkX10_execute 106 rfl) rfl (by decide) (by decide) ?_
      rw [show exV x 6 (nI q) b c T = _ from (exK_6 hcl hcp).trans (if_pos (by rw [hw]; decide))]
      exact ⟨rfl, (md_of hA).symm, (ZI_up hz)⟩
    ·
      exact absurd rfl h203
  ·
    rw [if_neg hw]
    have hw9 : 0 < T 1 f := Int32.lt_of_le_of_ne (i_le.mpr (hz.1.2.2.2.2.1 f hf)) (fun q9 => hw q9.symm)
    refine r_if_eq (tgt := 218) E (dat dkX10_execute 98 rfl) rfl (fun h203 => ?_) (fun h203 => ?_)
    ·
      exact absurd h203 (by decide)
    ·
      refine r_aload_n E (dat dkX10_execute 99 rfl) rfl rfl ?_
      refine r_iload_n E (dat dkX10_execute 100 rfl) rfl rfl ?_
      refine r_callV (κ := 9) (μ := []) E (sp_X10_splashBy l G A0 x T q f _ hA hx hq hfe hf) my_X10_splashBy iv_X10_splashBy ml_X10_308 cm_id ⟨by decide, rfl, rfl⟩ rfl rfl rfl rfl (by decide) (Nat.le_of_ble_eq_true rfl) (dat dkX10_execute 101 rfl) ?_
      rintro _ _ ⟨rfl, rfl⟩
      refine ⟨_, Mrg_md2 (by decide) rfl, ?_⟩
      refine r_if_lt (tgt := 218) E (dat dkX10_execute 102 rfl) rfl (fun h211 => ?_) (fun h211 => ?_)
      ·
        exact absurd h211 (Int32.not_lt.mpr (ZI_th (b := q) hx hz hf).2)
      ·
        refine r_iconst (v := 1) E (dat dkX10_execute 103 rfl) rfl ?_
        refine r_goto (tgt := 219) E (dat dkX10_execute 104 rfl) rfl ?_
        refine r_zreturn E (dat dkX10_execute 106 rfl) rfl (by decide) (by decide) ?_
        rw [show exV x 6 (nI q) b c T = _ from (exK_6 hcl hcp).trans (if_neg (Int32.not_le.mpr hw9))]
        exact ⟨rfl, rfl, (ZI_up ((ZI_th (b := q) hx hz hf).1))⟩

set_option maxRecDepth 100000 in
set_option maxHeartbeats 4000000 in
theorem sp_ex_7 (l : Launch) (G : GT) (A0 : Nat → Int32) (x : PP) (T : Nat → Nat → Int32) (L : Int) (S : Nat → Int32) (i : Nat) (a b c : Int32) (M : Mem) (hA : M 0 1 = enc A0 x T) (hx : PIv x) (hv : PVi x) (hpl : PLi x T) (hz : ZI x T L) (hL : L + 9 < 2147483648) (hi : i < 30) (hS21 : M 0 21 = S) (h0 : S (4 * i) = nI 7) (h1 : S (4 * i + 1) = a) (h2 : (7 = 1 ∨ 7 = 3 ∨ 7 = 5) → S (4 * i + 2) = b) (h3 : 7 = 1 → S (4 * i + 3) = c) (hvo : vOK x.1.2.2 x.2.2.2.2.1 7 a b) (hvr : vRG 7 a b c) : MC l G yX10_execute cX10_execute 5 (some .boolean) ({ frames := 8, cells := 0, slots := 0, locals := 177 } : Room) [9] lk0 [rv 0 0, iv (nI i)] (M) (fun r M2 => r = some (iv (exV x 7 a b c T).1) ∧ M2 = md M (enc A0 x (exV x 7 a b c T).2) ∧ ZI x (exV x 7 a b c T).2 (L + 9)) := by
  refine MC.of RX10 [some (rv 0 0), some (iv (nI i)), none, none, none] 3 (by decide +kernel) rfl rfl rfl ?_
  intro pp ee ss mm aa bb me cd ad E
  have hn64 := (PIv_z hx).1
  obtain ⟨t, ht, rfl⟩ := hvo.2.2.2 rfl
  have hct : (nI t).toNatClampNeg = t := nI_clamp (by omega)
  have h7a := hz.2.1
  
  refine r_iconst (v := 4) E (dat dkX10_execute 0 rfl) rfl ?_
  refine r_iload_n E (dat dkX10_execute 1 rfl) rfl rfl ?_
  refine r_imul E (dat dkX10_execute 2 rfl) ?_
  rw [show (4 : Int32) * nI i = nI (4 * i) from pk_mul 4 i]
  refine r_istore_2 E (dat dkX10_execute 3 rfl) rfl rfl ?_
  refine r_aload_n E (dat dkX10_execute 4 rfl) rfl rfl ?_
  refine q_geta E fl_X10_36 (dat dkX10_execute 5 rfl) rfl rfl rfl ?_
  refine r_iload_n E (dat dkX10_execute 6 rfl) rfl rfl ?_
  refine r_iconst (v := 1) E (dat dkX10_execute 7 rfl) rfl ?_
  refine r_iadd E (dat dkX10_execute 8 rfl) ?_
  refine q_iald E (dat dkX10_execute 9 rfl) rfl rfl (by decide) (show (_ : Nat → Int32) = S from hS21) (show nI (4 * i) + 1 = nI (4 * i + 1) from nI_1 _) (by omega) ?_
  rw [h1]
  refine r_istore_3 E (dat dkX10_execute 10 rfl) rfl rfl ?_
  refine r_aload_n E (dat dkX10_execute 11 rfl) rfl rfl ?_
  refine q_geta E fl_X10_36 (dat dkX10_execute 12 rfl) rfl rfl rfl ?_
  refine r_iload_n E (dat dkX10_execute 13 rfl) rfl rfl ?_
  refine r_iconst (v := 2) E (dat dkX10_execute 14 rfl) rfl ?_
  refine r_iadd E (dat dkX10_execute 15 rfl) ?_
  refine q_iald E (dat dkX10_execute 16 rfl) rfl rfl (by decide) (show (_ : Nat → Int32) = S from hS21) (show nI (4 * i) + 2 = nI (4 * i + 2) from nI_add _ 2) (by omega) ?_
  refine r_istore_4 E (dat dkX10_execute 17 rfl) rfl rfl ?_
  refine r_aload_n E (dat dkX10_execute 18 rfl) rfl rfl ?_
  refine q_geta E fl_X10_36 (dat dkX10_execute 19 rfl) rfl rfl rfl ?_
  refine r_iload_n E (dat dkX10_execute 20 rfl) rfl rfl ?_
  refine q_iald E (dat dkX10_execute 21 rfl) rfl rfl (by decide) (show (_ : Nat → Int32) = S from hS21) rfl (by omega) ?_
  rw [show S (4 * i) = (7 : Int32) from h0]
  refine r_tabOut (tgt := 220) E (dat dkX10_execute 22 rfl) (Or.inr (by decide +kernel)) rfl ?_
  refine r_aload_n E (dat dkX10_execute 107 rfl) rfl rfl ?_
  refine r_iload_n E (dat dkX10_execute 108 rfl) rfl rfl ?_
  refine r_callV (κ := 9) (μ := []) E (sp_X10_canPass l G A0 x T (nI t) _ hA hx) my_X10_canPass iv_X10_canPass ml_X10_311 cm_id ⟨by decide, rfl, rfl⟩ rfl rfl rfl rfl (by decide) (Nat.le_of_ble_eq_true rfl) (dat dkX10_execute 109 rfl) ?_
  rintro _ _ ⟨rfl, rfl⟩
  refine ⟨_, Mrg_z rfl, ?_⟩
  by_cases hw : 999 < T 0 7 + nI t
  ·
    rw [if_pos hw]
    refine r_if_eq (tgt := 240) E (dat dkX10_execute 110 rfl) rfl (fun h225 => ?_) (fun h225 => ?_)
    ·
      refine r_iconst (v := 0) E (dat dkX10_execute 117 rfl) rfl ?_
      refine r_zreturn E (dat dkX10_execute 118 rfl) rfl (by decide) (by decide) ?_
      rw [show exV x 7 (nI t) b c T = _ from (exK_7 hct).trans (if_pos hw)]
      exact ⟨rfl, (md_of hA).symm, (ZI_up hz)⟩
    ·
      exact absurd rfl h225
  ·
    rw [if_neg hw]
    have h99 : (T 0 7).toInt + t ≤ 999 := by
      have e := Int32.not_lt.mp hw
      have e2 := i_le.mp e
      rw [i_add (by rw [ni_t (by omega)]; omega) (by rw [ni_t (by omega)]; omega), ni_t (by omega)] at e2
      exact e2
    have hzm := ZI_mn hx (by omega) hz ht h99
    refine r_if_eq (tgt := 240) E (dat dkX10_execute 110 rfl) rfl (fun h225 => ?_) (fun h225 => ?_)
    ·
      exact absurd h225 (by decide)
    ·
      refine r_aload_n E (dat dkX10_execute 111 rfl) rfl rfl ?_
      refine r_iload_n E (dat dkX10_execute 112 rfl) rfl rfl ?_
      refine r_callV (κ := 9) (μ := []) E (sp_X10_letPass l G A0 x T t (1856 * (T 0 7).toInt) _ hA hx hv hpl hz.1 (by omega) (by omega)) my_X10_letPass iv_X10_letPass ml_X10_314 cm_id ⟨by decide, rfl, rfl⟩ rfl rfl rfl rfl (by decide) (Nat.le_of_ble_eq_true rfl) (dat dkX10_execute 113 rfl) ?_
      rintro _ _ ⟨rfl, rfl⟩
      refine ⟨_, Mrg_md2 (by decide) rfl, ?_⟩
      refine r_if_lt (tgt := 240) E (dat dkX10_execute 114 rfl) rfl (fun h233 => ?_) (fun h233 => ?_)
      ·
        exact absurd h233 (Int32.not_lt.mpr hzm.2)
      ·
        refine r_iconst (v := 1) E (dat dkX10_execute 115 rfl) rfl ?_
        refine r_goto (tgt := 241) E (dat dkX10_execute 116 rfl) rfl ?_
        refine r_zreturn E (dat dkX10_execute 118 rfl) rfl (by decide) (by decide) ?_
        rw [show exV x 7 (nI t) b c T = _ from (exK_7 hct).trans (if_neg hw)]
        exact ⟨rfl, rfl, (ZI_up (hzm.1))⟩
