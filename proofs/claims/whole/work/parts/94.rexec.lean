/-! the reference: a statement executed -/
def exV (x : PP) (v : Nat) (a b c : Int32) (T : Nat → Nat → Int32) : Int32 × (Nat → Nat → Int32) := exK x.1.2.2 x.2.2.2.2.1 x.2.1 x.2.2.1 x.2.2.2.2.2.2.2.1 (nbx x) v a b c T
theorem ZI_up {x : PP} {T : Nat → Nat → Int32} {L : Int} (h : ZI x T L) : ZI x T (L + 9) := ⟨h.1, h.2.1, NN_mono h.2.2 (by omega)⟩
set_option maxRecDepth 100000 in
set_option maxHeartbeats 4000000 in
theorem sp_ex_5 (l : Launch) (G : GT) (A0 : Nat → Int32) (x : PP) (T : Nat → Nat → Int32) (L : Int) (S : Nat → Int32) (i : Nat) (a b c : Int32) (M : Mem) (hA : M 0 1 = enc A0 x T) (hx : PIv x) (hv : PVi x) (hpl : PLi x T) (hz : ZI x T L) (hL : L + 9 < 2147483648) (hi : i < 30) (hS21 : M 0 21 = S) (h0 : S (4 * i) = nI 5) (h1 : S (4 * i + 1) = a) (h2 : (5 = 1 ∨ 5 = 3 ∨ 5 = 5) → S (4 * i + 2) = b) (h3 : 5 = 1 → S (4 * i + 3) = c) (hvo : vOK x.1.2.2 x.2.2.2.2.1 5 a b) (hvr : vRG 5 a b c) : MC l G yX10_execute cX10_execute 5 (some .boolean) ({ frames := 8, cells := 0, slots := 0, locals := 177 } : Room) [9] lk0 [rv 0 0, iv (nI i)] (M) (fun r M2 => r = some (iv (exV x 5 a b c T).1) ∧ M2 = md M (enc A0 x (exV x 5 a b c T).2) ∧ ZI x (exV x 5 a b c T).2 (L + 9)) := by
  refine MC.of RX10 [some (rv 0 0), some (iv (nI i)), none, none, none] 3 (by decide +kernel) rfl rfl rfl ?_
  intro pp ee ss mm aa bb me cd ad E
  have hn64 := (PIv_z hx).1
  obtain ⟨q, hq, rfl⟩ := hvo.2.1 (by decide)
  have hb4 := hx.2.2.2.2.1
  have hcl : (nI q).toNatClampNeg = q := nI_clamp (by omega)
  obtain ⟨f, hf, hfe⟩ := hpl q hq
  have hcp : (T 5 q).toNatClampNeg = f := by rw [hfe, nI_clamp (by omega)]
  obtain ⟨d, hd, rfl⟩ := hvo.2.2.1 rfl
  have hcd : (nI d).toNatClampNeg = d := nI_clamp (by omega)
  
  refine r_iconst (v := 4) E (dat dkX10_execute 0 rfl) rfl ?_
  refine r_iload_n E (dat dkX10_execute 1 rfl) rfl rfl ?_
  refine r_imul E (dat dkX10_execute 2 rfl) ?_
  rw [show (4 : Int32) * nI i = nI (4 * i) from pk_mul 4 i]
  refine r_istore_2 E (dat dkX10_execute 3 rfl) rfl rfl ?_
  refine r_aload_n E (dat dkX10_execute 4 rfl) rfl rfl ?_
  refine q_geta E fl_X10_36 (dat dkX10_execute 5 rfl) rfl rfl rfl ?_
  refine r_iload_n E (dat dkX10_execute 6 rfl) rfl rfl ?_
  refine r_iconst (v := 1) E (dat dkX10_execute 7 rfl) rfl ?_
  refine r_iadd E (dat dkX10_execute 8 rfl) ?_
  refine q_iald E (dat dkX10_execute 9 rfl) rfl rfl (by decide) (show (_ : Nat → Int32) = S from hS21) (show nI (4 * i) + 1 = nI (4 * i + 1) from nI_1 _) (by omega) ?_
  rw [h1]
  refine r_istore_3 E (dat dkX10_execute 10 rfl) rfl rfl ?_
  refine r_aload_n E (dat dkX10_execute 11 rfl) rfl rfl ?_
  refine q_geta E fl_X10_36 (dat dkX10_execute 12 rfl) rfl rfl rfl ?_
  refine r_iload_n E (dat dkX10_execute 13 rfl) rfl rfl ?_
  refine r_iconst (v := 2) E (dat dkX10_execute 14 rfl) rfl ?_
  refine r_iadd E (dat dkX10_execute 15 rfl) ?_
  refine q_iald E (dat dkX10_execute 16 rfl) rfl rfl (by decide) (show (_ : Nat → Int32) = S from hS21) (show nI (4 * i) + 2 = nI (4 * i + 2) from nI_add _ 2) (by omega) ?_
  rw [h2 (by decide)]
  refine r_istore_4 E (dat dkX10_execute 17 rfl) rfl rfl ?_
  refine r_aload_n E (dat dkX10_execute 18 rfl) rfl rfl ?_
  refine q_geta E fl_X10_36 (dat dkX10_execute 19 rfl) rfl rfl rfl ?_
  refine r_iload_n E (dat dkX10_execute 20 rfl) rfl rfl ?_
  refine q_iald E (dat dkX10_execute 21 rfl) rfl rfl (by decide) (show (_ : Nat → Int32) = S from hS21) rfl (by omega) ?_
  rw [show S (4 * i) = (5 : Int32) from h0]
  refine r_tabIn (off := 143) (tgt := 172) E (dat dkX10_execute 22 rfl) (by decide +kernel) (by decide +kernel) (by rfl) rfl ?_
  refine r_aload_n E (dat dkX10_execute 81 rfl) rfl rfl ?_
  refine r_iload_n E (dat dkX10_execute 82 rfl) rfl rfl ?_
  refine r_iload E (dat dkX10_execute 83 rfl) rfl ?_
  refine r_callV (κ := 9) (μ := []) E (sp_X10_canWalk l G A0 x T q f d _ hA hx hq hfe hf hd) my_X10_canWalk iv_X10_canWalk ml_X10_298 cm_id ⟨by decide, rfl, rfl⟩ rfl rfl rfl rfl (by decide) (Nat.le_of_ble_eq_true rfl) (dat dkX10_execute 84 rfl) ?_
  rintro _ _ ⟨rfl, rfl⟩
  refine ⟨_, Mrg_z rfl, ?_⟩
  rcases hj : nbx x f d with _ | j
  ·
    rw [if_pos (show oI none = -1 from rfl)]
    refine r_if_eq (tgt := 196) E (dat dkX10_execute 85 rfl) rfl (fun h179 => ?_) (fun h179 => ?_)
    ·
      refine r_iconst (v := 0) E (dat dkX10_execute 93 rfl) rfl ?_
      refine r_zreturn E (dat dkX10_execute 94 rfl) rfl (by decide) (by decide) ?_
      rw [show exV x 5 (nI q) (nI d) c T = _ from (exK_5 hcl hcp hcd).trans (by rw [hj])]
      exact ⟨rfl, (md_of hA).symm, (ZI_up hz)⟩
    ·
      exact absurd rfl h179
  ·
    have hjn := nbx_lt hx f d j hj
    rw [if_neg (oI_nm (show j < 64 by omega))]
    refine r_if_eq (tgt := 196) E (dat dkX10_execute 85 rfl) rfl (fun h179 => ?_) (fun h179 => ?_)
    ·
      exact absurd h179 (by decide)
    ·
      refine r_aload_n E (dat dkX10_execute 86 rfl) rfl rfl ?_
      refine r_iload_n E (dat dkX10_execute 87 rfl) rfl rfl ?_
      refine r_iload E (dat dkX10_execute 88 rfl) rfl ?_
      refine r_callV (κ := 9) (μ := []) E (sp_X10_walkOn l G A0 x T q f d j _ hA hx hq hfe hf hd hj) my_X10_walkOn iv_X10_walkOn ml_X10_302 cm_id ⟨by decide, rfl, rfl⟩ rfl rfl rfl rfl (by decide) (Nat.le_of_ble_eq_true rfl) (dat dkX10_execute 89 rfl) ?_
      rintro _ _ ⟨rfl, rfl⟩
      refine ⟨_, Mrg_md2 (by decide) rfl, ?_⟩
      refine r_if_lt (tgt := 196) E (dat dkX10_execute 90 rfl) rfl (fun h189 => ?_) (fun h189 => ?_)
      ·
        exact absurd h189 (nI_pos (by omega))
      ·
        refine r_iconst (v := 1) E (dat dkX10_execute 91 rfl) rfl ?_
        refine r_goto (tgt := 197) E (dat dkX10_execute 92 rfl) rfl ?_
        refine r_zreturn E (dat dkX10_execute 94 rfl) rfl (by decide) (by decide) ?_
        rw [show exV x 5 (nI q) (nI d) c T = _ from (exK_5 hcl hcp hcd).trans (by rw [hj])]
        exact ⟨rfl, rfl, (ZI_up (ZI_wk (bh := x.2.2.2.2.2.2.2.1) (b := q) (o := j) hz))⟩
