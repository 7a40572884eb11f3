theorem sc_o {T : Nat → Nat → Int32} {t u c : Nat} {v : Int32} (h : u ≠ t) : sc T t c v u = T u := if_neg h
theorem sc_s {T : Nat → Nat → Int32} {t c : Nat} {v : Int32} : sc T t c v t = upd (T t) c v := if_pos rfl
theorem imin_c (a b : Int32) : imin a b = imin b a := by
  unfold imin
  by_cases h1 : b < a
  · rw [if_pos h1, if_neg (Int32.not_lt.mpr (Int32.le_of_lt h1))]
  · rw [if_neg h1]
    by_cases h2 : a < b
    · rw [if_pos h2]
    · rw [if_neg h2]
      exact Int32.le_antisymm (Int32.not_lt.mp h1) (Int32.not_lt.mp h2)
theorem imax_c (a b : Int32) : imax a b = imax b a := by
  unfold imax
  by_cases h1 : a < b
  · rw [if_pos h1, if_neg (Int32.not_lt.mpr (Int32.le_of_lt h1))]
  · rw [if_neg h1]
    by_cases h2 : b < a
    · rw [if_pos h2]
    · rw [if_neg h2]
      exact (Int32.le_antisymm (Int32.not_lt.mp h1) (Int32.not_lt.mp h2)).symm
/-- a city with at least two rows and columns -/
def PVi (x : PP) : Prop := 2 ≤ x.1.1 ∧ 2 ≤ x.1.2.1
theorem loF_sm {nb : Nat → Nat → Option Nat} {lev : Nat → Int32} {c d o : Nat} (h : nb c d = some o) : ∀ e, ∃ k, loF nb lev c (d + 1 + e) = some k
  | 0 => by
    show ∃ k, loF nb lev c (d + 1) = some k
    simp only [loF, h]
    cases hb : loF nb lev c d with
    | none => exact ⟨o, rfl⟩
    | some b =>
      dsimp only
      split
      · exact ⟨o, rfl⟩
      · exact ⟨b, rfl⟩
  | e + 1 => by
    obtain ⟨k, hk⟩ := loF_sm (lev := lev) h e
    show ∃ k, loF nb lev c (d + 1 + e + 1) = some k
    simp only [loF]
    cases h2 : nb c (d + 1 + e) with
    | none => exact ⟨k, hk⟩
    | some o2 =>
      rw [hk]
      dsimp only
      split
      · exact ⟨o2, rfl⟩
      · exact ⟨k, rfl⟩
theorem lo_ex {x : PP} (hx : PIv x) (hv : PVi x) {lev : Nat → Int32} {c : Nat} (hc : c < x.1.2.2) : ∃ o, o < x.1.2.2 ∧ loF (nbx x) lev c 4 = some o := by
  have h1 : ∃ o, loF (nbx x) lev c 4 = some o := by
    have h2 : c < x.1.1 * x.1.2.1 := by have := hx.2.2.1; omega
    obtain ⟨r, k, hr, hk, rfl⟩ := rc_of h2
    by_cases h0 : 0 < r
    · exact loF_sm (d := 0) (show nbx x (r * x.1.2.1 + k) 0 = some (r * x.1.2.1 + k - x.1.2.1) by unfold nbx; rw [gnb_rc hr hk]; exact if_pos h0) 3
    · exact loF_sm (d := 2) (show nbx x (r * x.1.2.1 + k) 2 = some (r * x.1.2.1 + k + x.1.2.1) by unfold nbx; rw [gnb_rc hr hk]; exact if_pos (by have := hv.1; omega)) 1
  obtain ⟨o, ho⟩ := h1
  exact ⟨o, loF_lt (fun d k h => nbx_lt hx c d k h) 4 o ho, ho⟩
theorem oI_nm {o : Nat} (h : o < 64) : ¬ oI (some o) = -1 := fun q : nI o = -1 => nI_pos (show o < 2 ^ 31 by omega) (by rw [q]; decide)
theorem oI_ex {o : Option Nat} (h : ¬ oI o = -1) : ∃ k, o = some k := by
  cases o with
  | none => exact absurd rfl h
  | some k => exact ⟨k, rfl⟩
theorem i32_sub2 (a b c : Int32) : a - b - c = a - (b + c) := by
  apply Int32.toBitVec_inj.mp
  simp only [Int32.toBitVec_sub, Int32.toBitVec_add]
  rw [BitVec.sub_sub]
set_option maxRecDepth 100000 in
set_option maxHeartbeats 4000000 in
theorem sp_X10_level (l : Launch) (G : GT) (A0 : Nat → Int32) (x : PP) (T : Nat → Nat → Int32) (c : Nat) (M : Mem) (hA : M 0 1 = enc A0 x T) (hx : PIv x) (hc : c < x.1.2.2) : MC l G yX10_level cX10_level 2 (some .int) ({ frames := 2, cells := 0, slots := 0, locals := 42 } : Room) [9] lk0 [rv 0 0, iv (nI c)] (M) (fun r M2 => r = some (iv (x.2.1 c + T 1 c)) ∧ M2 = M) := by
  refine MC.of RX10 [some (rv 0 0), some (iv (nI c))] 0 (by decide +kernel) rfl rfl rfl ?_
  intro pp ee ss mm aa bb me cd ad E
  obtain ⟨M0, rfl⟩ : ∃ M0, M = md M0 (enc A0 x T) := ⟨M, (md_of hA).symm⟩
  clear hA
  have hn64 := (PIv_z hx).1
  
  refine r_aload_n E (dat dkX10_level 0 rfl) rfl rfl ?_
  refine r_iload_n E (dat dkX10_level 1 rfl) rfl rfl ?_
  refine r_iconst (v := 0) E (dat dkX10_level 2 rfl) rfl ?_
  refine r_callV (κ := 9) (μ := []) E (sp_X10_get l G c 0 _ _ md_a (by omega) (by decide)) my_X10_get iv_X10_get ml_X10_76 cm_id ⟨by decide, rfl, rfl⟩ rfl rfl rfl rfl (by decide) (Nat.le_of_ble_eq_true rfl) (dat dkX10_level 3 rfl) ?_
  rintro _ _ ⟨rfl, rfl⟩
  refine ⟨_, Mrg_z rfl, ?_⟩
  rw [e_h hc hn64]
  refine r_aload_n E (dat dkX10_level 4 rfl) rfl rfl ?_
  refine r_iload_n E (dat dkX10_level 5 rfl) rfl rfl ?_
  refine r_iconst (v := 1) E (dat dkX10_level 6 rfl) rfl ?_
  refine r_callV (κ := 9) (μ := []) E (sp_X10_get l G c 1 _ _ md_a (by omega) (by decide)) my_X10_get iv_X10_get ml_X10_76 cm_id ⟨by decide, rfl, rfl⟩ rfl rfl rfl rfl (by decide) (Nat.le_of_ble_eq_true rfl) (dat dkX10_level 7 rfl) ?_
  rintro _ _ ⟨rfl, rfl⟩
  refine ⟨_, Mrg_z rfl, ?_⟩
  rw [e_w hc hn64]
  refine r_iadd E (dat dkX10_level 8 rfl) ?_
  refine r_ireturn E (dat dkX10_level 9 rfl) (by decide) (by decide) ?_
  exact ⟨rfl, rfl⟩

set_option maxRecDepth 100000 in
set_option maxHeartbeats 4000000 in
theorem sp_X10_isDry (l : Launch) (G : GT) (A0 : Nat → Int32) (x : PP) (T : Nat → Nat → Int32) (c : Nat) (M : Mem) (hA : M 0 1 = enc A0 x T) (hx : PIv x) (hc : c < x.1.2.2) : MC l G yX10_isDry cX10_isDry 2 (some .boolean) ({ frames := 2, cells := 0, slots := 0, locals := 42 } : Room) [9] lk0 [rv 0 0, iv (nI c)] (M) (fun r M2 => r = some (iv (if T 1 c = 0 then 1 else 0)) ∧ M2 = M) := by
  refine MC.of RX10 [some (rv 0 0), some (iv (nI c))] 0 (by decide +kernel) rfl rfl rfl ?_
  intro pp ee ss mm aa bb me cd ad E
  obtain ⟨M0, rfl⟩ : ∃ M0, M = md M0 (enc A0 x T) := ⟨M, (md_of hA).symm⟩
  clear hA
  have hn64 := (PIv_z hx).1
  
  refine r_aload_n E (dat dkX10_isDry 0 rfl) rfl rfl ?_
  refine r_iload_n E (dat dkX10_isDry 1 rfl) rfl rfl ?_
  refine r_iconst (v := 1) E (dat dkX10_isDry 2 rfl) rfl ?_
  refine r_callV (κ := 9) (μ := []) E (sp_X10_get l G c 1 _ _ md_a (by omega) (by decide)) my_X10_get iv_X10_get ml_X10_76 cm_id ⟨by decide, rfl, rfl⟩ rfl rfl rfl rfl (by decide) (Nat.le_of_ble_eq_true rfl) (dat dkX10_isDry 3 rfl) ?_
  rintro _ _ ⟨rfl, rfl⟩
  refine ⟨_, Mrg_z rfl, ?_⟩
  rw [e_w hc hn64]
  refine r_if_ne (tgt := 13) E (dat dkX10_isDry 4 rfl) rfl (fun h6 => ?_) (fun h6 => ?_)
  ·
    refine r_iconst (v := 0) E (dat dkX10_isDry 7 rfl) rfl ?_
    refine r_zreturn E (dat dkX10_isDry 8 rfl) rfl (by decide) (by decide) ?_
    refine ⟨?_, rfl⟩
    first
      | (rw [if_neg h6]; done)
      | (rw [if_pos (by first | exact h6 | exact Decidable.not_not.mp h6)]; done)
  ·
    refine r_iconst (v := 1) E (dat dkX10_isDry 5 rfl) rfl ?_
    refine r_goto (tgt := 14) E (dat dkX10_isDry 6 rfl) rfl ?_
    refine r_zreturn E (dat dkX10_isDry 8 rfl) rfl (by decide) (by decide) ?_
    refine ⟨?_, rfl⟩
    first
      | (rw [if_neg h6]; done)
      | (rw [if_pos (by first | exact h6 | exact Decidable.not_not.mp h6)]; done)

set_option maxRecDepth 100000 in
set_option maxHeartbeats 4000000 in
theorem sp_X10_gutter (l : Launch) (G : GT) (A0 : Nat → Int32) (x : PP) (T : Nat → Nat → Int32) (c : Nat) (M : Mem) (hA : M 0 1 = enc A0 x T) (hx : PIv x) (hc : c < x.1.2.2) : MC l G yX10_gutter cX10_gutter 2 (some .int) ({ frames := 2, cells := 0, slots := 0, locals := 42 } : Room) [9] lk0 [rv 0 0, iv (nI c)] (M) (fun r M2 => r = some (iv (imax (x.2.2.1 c - T 2 c) 0)) ∧ M2 = M) := by
  refine MC.of RX10 [some (rv 0 0), some (iv (nI c))] 0 (by decide +kernel) rfl rfl rfl ?_
  intro pp ee ss mm aa bb me cd ad E
  obtain ⟨M0, rfl⟩ : ∃ M0, M = md M0 (enc A0 x T) := ⟨M, (md_of hA).symm⟩
  clear hA
  have hn64 := (PIv_z hx).1
  
  refine r_iconst (v := 0) E (dat dkX10_gutter 0 rfl) rfl ?_
  refine r_aload_n E (dat dkX10_gutter 1 rfl) rfl rfl ?_
  refine r_iload_n E (dat dkX10_gutter 2 rfl) rfl rfl ?_
  refine r_iconst (v := 3) E (dat dkX10_gutter 3 rfl) rfl ?_
  refine r_callV (κ := 9) (μ := []) E (sp_X10_get l G c 3 _ _ md_a (by omega) (by decide)) my_X10_get iv_X10_get ml_X10_76 cm_id ⟨by decide, rfl, rfl⟩ rfl rfl rfl rfl (by decide) (Nat.le_of_ble_eq_true rfl) (dat dkX10_gutter 4 rfl) ?_
  rintro _ _ ⟨rfl, rfl⟩
  refine ⟨_, Mrg_z rfl, ?_⟩
  rw [e_k hc hn64]
  refine r_aload_n E (dat dkX10_gutter 5 rfl) rfl rfl ?_
  refine r_iload_n E (dat dkX10_gutter 6 rfl) rfl rfl ?_
  refine r_iconst (v := 2) E (dat dkX10_gutter 7 rfl) rfl ?_
  refine r_callV (κ := 9) (μ := []) E (sp_X10_get l G c 2 _ _ md_a (by omega) (by decide)) my_X10_get iv_X10_get ml_X10_76 cm_id ⟨by decide, rfl, rfl⟩ rfl rfl rfl rfl (by decide) (Nat.le_of_ble_eq_true rfl) (dat dkX10_gutter 8 rfl) ?_
  rintro _ _ ⟨rfl, rfl⟩
  refine ⟨_, Mrg_z rfl, ?_⟩
  rw [e_l hc hn64]
  refine r_isub E (dat dkX10_gutter 9 rfl) ?_
  refine r_mmax E ml_X10_98 (by decide) (dat dkX10_gutter 10 rfl) ?_
  refine r_ireturn E (dat dkX10_gutter 11 rfl) (by decide) (by decide) ?_
  exact ⟨by rw [imax_c], rfl⟩

set_option maxRecDepth 100000 in
set_option maxHeartbeats 8000000 in
theorem sp_X10_lowest (l : Launch) (G : GT) (A0 : Nat → Int32) (x : PP) (T : Nat → Nat → Int32) (c : Nat) (M : Mem) (hA : M 0 1 = enc A0 x T) (hx : PIv x) (hc : c < x.1.2.2) : MC l G yX10_lowest cX10_lowest 5 (some .int) ({ frames := 3, cells := 0, slots := 0, locals := 63 } : Room) [9] lk0 [rv 0 0, iv (nI c)] (M) (fun r M2 => r = some (iv (oI (loF (nbx x) (fun k => x.2.1 k + T 1 k) c 4))) ∧ M2 = M) := by
  refine MC.of RX10 [some (rv 0 0), some (iv (nI c)), none, none, none] 3 (by decide +kernel) rfl rfl rfl ?_
  intro pp ee ss mm aa bb me cd ad E
  obtain ⟨M0, rfl⟩ : ∃ M0, M = md M0 (enc A0 x T) := ⟨M, (md_of hA).symm⟩
  clear hA
  have hn64 := (PIv_z hx).1
  
  refine r_iconst (v := -1) E (dat dkX10_lowest 0 rfl) rfl ?_
  refine r_istore_2 E (dat dkX10_lowest 1 rfl) rfl rfl ?_
  refine r_iconst (v := 0) E (dat dkX10_lowest 2 rfl) rfl ?_
  refine r_istore_3 E (dat dkX10_lowest 3 rfl) rfl rfl ?_
  refine r_for (4) (fun _ => True) (fun i => md M0 (enc A0 x T)) (fun i => [some (rv 0 0), some (iv (nI c)), some (iv (oI (loF (nbx x) (fun k => x.2.1 k + T 1 k) c i))), some (iv (nI i)), none]) trivial rfl rfl ?_ ?_
  · intro i hi hI kk
    refine r_iload_n E (dat dkX10_lowest 4 rfl) rfl rfl ?_
    refine r_iconst (v := 4) E (dat dkX10_lowest 5 rfl) rfl ?_
    refine q_icmp_ge (tgt := 51) E (dat dkX10_lowest 6 rfl) rfl rfl (b := 4) rfl (by omega) (by omega) (fun h6 => ?_) (fun h6 => ?_)
    ·
      omega
    ·
      refine r_aload_n E (dat dkX10_lowest 7 rfl) rfl rfl ?_
      refine r_iload_n E (dat dkX10_lowest 8 rfl) rfl rfl ?_
      refine r_iload_n E (dat dkX10_lowest 9 rfl) rfl rfl ?_
      refine r_callV (κ := 9) (μ := []) E (sp_X10_beside l G x.1.1 x.1.2.1 c i _ _ md_a rfl rfl hx.1 hx.2.1 (by have := hx.2.2.1; omega) hi) my_X10_beside iv_X10_beside ml_X10_84 cm_id ⟨by decide, rfl, rfl⟩ rfl rfl rfl rfl (by decide) (Nat.le_of_ble_eq_true rfl) (dat dkX10_lowest 10 rfl) ?_
      rintro _ _ ⟨rfl, rfl⟩
      refine ⟨_, Mrg_z rfl, ?_⟩
      rw [show gnb x.1.1 x.1.2.1 c i = nbx x c i from rfl]
      rcases hz : nbx x c i with _ | o
      ·
        refine r_istore_4 E (dat dkX10_lowest 11 rfl) rfl rfl ?_
        refine r_iload E (dat dkX10_lowest 12 rfl) rfl ?_
        refine r_iconst (v := -1) E (dat dkX10_lowest 13 rfl) rfl ?_
        refine r_icmp_eq (tgt := 45) E (dat dkX10_lowest 14 rfl) rfl (fun h20 => ?_) (fun h20 => ?_)
        ·
          refine q_iinc_3 E (dat dkX10_lowest 27 rfl) rfl rfl ?_
          refine r_goto (tgt := 4) E (dat dkX10_lowest 28 rfl) rfl ?_
          first
            | (rw [loF_n hz] at kk; refine r_back rfl ?_ (kk trivial); exact (And.intro rfl (And.intro rfl (And.intro rfl (And.intro rfl trivial)))))
            | (rw [loF_a hz (Or.inl h25) (fun b hb => by have := hlt b hb; omega)] at kk; refine r_back rfl ?_ (kk trivial); exact (And.intro rfl (And.intro rfl (And.intro rfl (And.intro rfl trivial)))))
            | (rw [loF_a hz (Or.inr (by rw [hb]; exact i32_lt h39)) (fun b hb => by have := hlt b hb; omega)] at kk; refine r_back rfl ?_ (kk trivial); exact (And.intro rfl (And.intro rfl (And.intro rfl (And.intro rfl trivial)))))
            | (rw [loF_b hz h25 (by rw [hb]; exact i32_nlt h39), hb] at kk; refine r_back rfl ?_ (kk trivial); exact (And.intro rfl (And.intro rfl (And.intro rfl (And.intro rfl trivial)))))
        ·
          exact absurd rfl h20
      ·
        have ho := nbx_lt hx c i o hz
        have hlt := loF_lt (lev := (fun k => x.2.1 k + T 1 k)) (nbx_lt hx c) i
        refine r_istore_4 E (dat dkX10_lowest 11 rfl) rfl rfl ?_
        refine r_iload E (dat dkX10_lowest 12 rfl) rfl ?_
        refine r_iconst (v := -1) E (dat dkX10_lowest 13 rfl) rfl ?_
        refine r_icmp_eq (tgt := 45) E (dat dkX10_lowest 14 rfl) rfl (fun h20 => ?_) (fun h20 => ?_)
        ·
          exact absurd h20 (oI_nm (by omega))
        ·
          refine r_iload_n E (dat dkX10_lowest 15 rfl) rfl rfl ?_
          refine r_iconst (v := -1) E (dat dkX10_lowest 16 rfl) rfl ?_
          refine r_icmp_eq (tgt := 42) E (dat dkX10_lowest 17 rfl) rfl (fun h25 => ?_) (fun h25 => ?_)
          ·
            refine r_iload E (dat dkX10_lowest 25 rfl) rfl ?_
            refine r_istore_2 E (dat dkX10_lowest 26 rfl) rfl rfl ?_
            refine q_iinc_3 E (dat dkX10_lowest 27 rfl) rfl rfl ?_
            refine r_goto (tgt := 4) E (dat dkX10_lowest 28 rfl) rfl ?_
            first
              | (rw [loF_n hz] at kk; refine r_back rfl ?_ (kk trivial); exact (And.intro rfl (And.intro rfl (And.intro rfl (And.intro rfl trivial)))))
              | (rw [loF_a hz (Or.inl h25) (fun b hb => by have := hlt b hb; omega)] at kk; refine r_back rfl ?_ (kk trivial); exact (And.intro rfl (And.intro rfl (And.intro rfl (And.intro rfl trivial)))))
              | (rw [loF_a hz (Or.inr (by rw [hb]; exact i32_lt h39)) (fun b hb => by have := hlt b hb; omega)] at kk; refine r_back rfl ?_ (kk trivial); exact (And.intro rfl (And.intro rfl (And.intro rfl (And.intro rfl trivial)))))
              | (rw [loF_b hz h25 (by rw [hb]; exact i32_nlt h39), hb] at kk; refine r_back rfl ?_ (kk trivial); exact (And.intro rfl (And.intro rfl (And.intro rfl (And.intro rfl trivial)))))
          ·
            obtain ⟨b, hb⟩ := oI_ex h25
            have hbn := hlt b hb
            rw [hb]
            refine r_aload_n E (dat dkX10_lowest 18 rfl) rfl rfl ?_
            refine r_iload E (dat dkX10_lowest 19 rfl) rfl ?_
            refine r_callV (κ := 9) (μ := []) E (sp_X10_level l G A0 x T o _ md_a hx ho) my_X10_level iv_X10_level ml_X10_87 cm_id ⟨by decide, rfl, rfl⟩ rfl rfl rfl rfl (by decide) (Nat.le_of_ble_eq_true rfl) (dat dkX10_lowest 20 rfl) ?_
            rintro _ _ ⟨rfl, rfl⟩
            refine ⟨_, Mrg_z rfl, ?_⟩
            refine r_aload_n E (dat dkX10_lowest 21 rfl) rfl rfl ?_
            refine r_iload_n E (dat dkX10_lowest 22 rfl) rfl rfl ?_
            refine r_callV (κ := 9) (μ := []) E (sp_X10_level l G A0 x T b _ md_a hx hbn) my_X10_level iv_X10_level ml_X10_87 cm_id ⟨by decide, rfl, rfl⟩ rfl rfl rfl rfl (by decide) (Nat.le_of_ble_eq_true rfl) (dat dkX10_lowest 23 rfl) ?_
            rintro _ _ ⟨rfl, rfl⟩
            refine ⟨_, Mrg_z rfl, ?_⟩
            refine r_icmp_ge (tgt := 45) E (dat dkX10_lowest 24 rfl) rfl (fun h39 => ?_) (fun h39 => ?_)
            ·
              refine q_iinc_3 E (dat dkX10_lowest 27 rfl) rfl rfl ?_
              refine r_goto (tgt := 4) E (dat dkX10_lowest 28 rfl) rfl ?_
              first
                | (rw [loF_n hz] at kk; refine r_back rfl ?_ (kk trivial); exact (And.intro rfl (And.intro rfl (And.intro rfl (And.intro rfl trivial)))))
                | (rw [loF_a hz (Or.inl h25) (fun b hb => by have := hlt b hb; omega)] at kk; refine r_back rfl ?_ (kk trivial); exact (And.intro rfl (And.intro rfl (And.intro rfl (And.intro rfl trivial)))))
                | (rw [loF_a hz (Or.inr (by rw [hb]; exact i32_lt h39)) (fun b hb => by have := hlt b hb; omega)] at kk; refine r_back rfl ?_ (kk trivial); exact (And.intro rfl (And.intro rfl (And.intro rfl (And.intro rfl trivial)))))
                | (rw [loF_b hz h25 (by rw [hb]; exact i32_nlt h39), hb] at kk; refine r_back rfl ?_ (kk trivial); exact (And.intro rfl (And.intro rfl (And.intro rfl (And.intro rfl trivial)))))
            ·
              refine r_iload E (dat dkX10_lowest 25 rfl) rfl ?_
              refine r_istore_2 E (dat dkX10_lowest 26 rfl) rfl rfl ?_
              refine q_iinc_3 E (dat dkX10_lowest 27 rfl) rfl rfl ?_
              refine r_goto (tgt := 4) E (dat dkX10_lowest 28 rfl) rfl ?_
              first
                | (rw [loF_n hz] at kk; refine r_back rfl ?_ (kk trivial); exact (And.intro rfl (And.intro rfl (And.intro rfl (And.intro rfl trivial)))))
                | (rw [loF_a hz (Or.inl h25) (fun b hb => by have := hlt b hb; omega)] at kk; refine r_back rfl ?_ (kk trivial); exact (And.intro rfl (And.intro rfl (And.intro rfl (And.intro rfl trivial)))))
                | (rw [loF_a hz (Or.inr (by rw [hb]; exact i32_lt h39)) (fun b hb => by have := hlt b hb; omega)] at kk; refine r_back rfl ?_ (kk trivial); exact (And.intro rfl (And.intro rfl (And.intro rfl (And.intro rfl trivial)))))
                | (rw [loF_b hz h25 (by rw [hb]; exact i32_nlt h39), hb] at kk; refine r_back rfl ?_ (kk trivial); exact (And.intro rfl (And.intro rfl (And.intro rfl (And.intro rfl trivial)))))
  · intro hI
    refine r_iload_n E (dat dkX10_lowest 4 rfl) rfl rfl ?_
    refine r_iconst (v := 4) E (dat dkX10_lowest 5 rfl) rfl ?_
    refine q_icmp_ge (tgt := 51) E (dat dkX10_lowest 6 rfl) rfl rfl (b := 4) rfl (by omega) (by omega) (fun h6 => ?_) (fun h6 => ?_)
    ·
      refine r_iload_n E (dat dkX10_lowest 29 rfl) rfl rfl ?_
      refine r_ireturn E (dat dkX10_lowest 30 rfl) (by decide) (by decide) ?_
      exact ⟨rfl, rfl⟩
    ·
      omega

set_option maxRecDepth 100000 in
set_option maxHeartbeats 4000000 in
theorem sp_X10_flow (l : Launch) (G : GT) (A0 : Nat → Int32) (x : PP) (T : Nat → Nat → Int32) (c : Nat) (M : Mem) (hA : M 0 1 = enc A0 x T) (hx : PIv x) (hc : c < x.1.2.2) (hv : PVi x) : MC l G yX10_flow cX10_flow 3 (some .int) ({ frames := 4, cells := 0, slots := 0, locals := 87 } : Room) [9] lk0 [rv 0 0, iv (nI c)] (M) (fun r M2 => r = some (iv (flO x.2.1 (T 1) c (loF (nbx x) (fun k => x.2.1 k + T 1 k) c 4))) ∧ M2 = M) := by
  refine MC.of RX10 [some (rv 0 0), some (iv (nI c)), none] 1 (by decide +kernel) rfl rfl rfl ?_
  intro pp ee ss mm aa bb me cd ad E
  obtain ⟨M0, rfl⟩ : ∃ M0, M = md M0 (enc A0 x T) := ⟨M, (md_of hA).symm⟩
  clear hA
  have hn64 := (PIv_z hx).1
  obtain ⟨o, ho, hlo⟩ := lo_ex (lev := (fun k => x.2.1 k + T 1 k)) hx hv hc
  
  refine r_aload_n E (dat dkX10_flow 0 rfl) rfl rfl ?_
  refine r_iload_n E (dat dkX10_flow 1 rfl) rfl rfl ?_
  refine r_callV (κ := 9) (μ := []) E (sp_X10_level l G A0 x T c _ md_a hx hc) my_X10_level iv_X10_level ml_X10_87 cm_id ⟨by decide, rfl, rfl⟩ rfl rfl rfl rfl (by decide) (Nat.le_of_ble_eq_true rfl) (dat dkX10_flow 2 rfl) ?_
  rintro _ _ ⟨rfl, rfl⟩
  refine ⟨_, Mrg_z rfl, ?_⟩
  refine r_aload_n E (dat dkX10_flow 3 rfl) rfl rfl ?_
  refine r_aload_n E (dat dkX10_flow 4 rfl) rfl rfl ?_
  refine r_iload_n E (dat dkX10_flow 5 rfl) rfl rfl ?_
  refine r_callV (κ := 9) (μ := []) E (sp_X10_lowest l G A0 x T c _ md_a hx hc) my_X10_lowest iv_X10_lowest ml_X10_90 cm_id ⟨by decide, rfl, rfl⟩ rfl rfl rfl rfl (by decide) (Nat.le_of_ble_eq_true rfl) (dat dkX10_flow 6 rfl) ?_
  rintro _ _ ⟨rfl, rfl⟩
  refine ⟨_, Mrg_z rfl, ?_⟩
  rw [hlo]
  refine r_callV (κ := 9) (μ := []) E (sp_X10_level l G A0 x T o _ md_a hx ho) my_X10_level iv_X10_level ml_X10_87 cm_id ⟨by decide, rfl, rfl⟩ rfl rfl rfl rfl (by decide) (Nat.le_of_ble_eq_true rfl) (dat dkX10_flow 7 rfl) ?_
  rintro _ _ ⟨rfl, rfl⟩
  refine ⟨_, Mrg_z rfl, ?_⟩
  refine r_isub E (dat dkX10_flow 8 rfl) ?_
  refine r_istore_2 E (dat dkX10_flow 9 rfl) rfl rfl ?_
  refine r_iload_n E (dat dkX10_flow 10 rfl) rfl rfl ?_
  refine r_if_gt (tgt := 24) E (dat dkX10_flow 11 rfl) rfl (fun h17 => ?_) (fun h17 => ?_)
  ·
    refine r_aload_n E (dat dkX10_flow 14 rfl) rfl rfl ?_
    refine r_iload_n E (dat dkX10_flow 15 rfl) rfl rfl ?_
    refine r_iconst (v := 1) E (dat dkX10_flow 16 rfl) rfl ?_
    refine r_callV (κ := 9) (μ := []) E (sp_X10_get l G c 1 _ _ md_a (by omega) (by decide)) my_X10_get iv_X10_get ml_X10_76 cm_id ⟨by decide, rfl, rfl⟩ rfl rfl rfl rfl (by decide) (Nat.le_of_ble_eq_true rfl) (dat dkX10_flow 17 rfl) ?_
    rintro _ _ ⟨rfl, rfl⟩
    refine ⟨_, Mrg_z rfl, ?_⟩
    rw [e_w hc hn64]
    refine r_iload_n E (dat dkX10_flow 18 rfl) rfl rfl ?_
    refine r_iconst (v := 2) E (dat dkX10_flow 19 rfl) rfl ?_
    refine r_idiv E (dat dkX10_flow 20 rfl) (by decide) ?_
    refine r_mmin E ml_X10_93 (by decide) (dat dkX10_flow 21 rfl) ?_
    refine r_ireturn E (dat dkX10_flow 22 rfl) (by decide) (by decide) ?_
    refine ⟨?_, rfl⟩
    show _ = some (iv (flA (x.2.1 c + T 1 c - x.2.1 o - T 1 o) (T 1 c)))
    rw [show x.2.1 c + T 1 c - x.2.1 o - T 1 o = x.2.1 c + T 1 c - (x.2.1 o + T 1 o) from (i32_sub2 _ _ _)]
    unfold flA
    first
      | (rw [if_pos h17, imin_c]; done)
      | (rw [if_neg h17]; done)
  ·
    refine r_iconst (v := 0) E (dat dkX10_flow 12 rfl) rfl ?_
    refine r_goto (tgt := 36) E (dat dkX10_flow 13 rfl) rfl ?_
    refine r_ireturn E (dat dkX10_flow 22 rfl) (by decide) (by decide) ?_
    refine ⟨?_, rfl⟩
    show _ = some (iv (flA (x.2.1 c + T 1 c - x.2.1 o - T 1 o) (T 1 c)))
    rw [show x.2.1 c + T 1 c - x.2.1 o - T 1 o = x.2.1 c + T 1 c - (x.2.1 o + T 1 o) from (i32_sub2 _ _ _)]
    unfold flA
    first
      | (rw [if_pos h17, imin_c]; done)
      | (rw [if_neg h17]; done)
