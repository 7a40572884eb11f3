/-! the minute's steps on one cell -/
def raC (T : Nat → Nat → Int32) (c : Nat) : Nat → Nat → Int32 := sc (sc T 1 c (T 1 c + T 0 8)) 0 9 (T 0 9 + T 0 8)
def guB (T : Nat → Nat → Int32) (c : Nat) : Nat → Nat → Int32 := sc (sc (sc T 1 c (T 1 c + T 3 c)) 0 10 (T 0 10 + T 3 c)) 4 c (T 4 c + -1)
def guC (T : Nat → Nat → Int32) (c : Nat) : Nat → Nat → Int32 := if T 4 c = 0 then T else if T 4 c + -1 = 0 then sc (guB T c) 3 c 0 else guB T c
def drA (x : PP) (T : Nat → Nat → Int32) (c : Nat) : Int32 := imin (imax (x.2.2.1 c - T 2 c) 0) (T 1 c)
def drC (x : PP) (T : Nat → Nat → Int32) (c : Nat) : Nat → Nat → Int32 := sc (sc T 1 c (T 1 c + -(drA x T c))) 0 11 (T 0 11 + drA x T c)
def evC1 (T : Nat → Nat → Int32) (c : Nat) : Nat → Nat → Int32 := if T 1 c = 0 then T else sc (sc T 1 c (T 1 c + -1)) 0 12 (T 0 12 + 1)
def flC2 (T : Nat → Nat → Int32) (c o : Nat) (v : Int32) : Nat → Nat → Int32 := sc (sc T 1 c (T 1 c + -v)) 1 o (upd (T 1) c (T 1 c + -v) o + v)
def flC3 (T : Nat → Nat → Int32) (c o : Nat) : Nat → Nat → Int32 := sc (sc T 2 c (T 2 c + -1)) 2 o (upd (T 2) c (T 2 c + -1) o + 1)
def flC (x : PP) (T : Nat → Nat → Int32) (c o : Nat) : Nat → Nat → Int32 :=
  if flO x.2.1 (T 1) c (some o) = 0 then T else if 0 < T 2 c ∧ x.2.2.1 c = 0 then flC3 (flC2 T c o (flO x.2.1 (T 1) c (some o))) c o else flC2 T c o (flO x.2.1 (T 1) c (some o))
def soC (x : PP) (T : Nat → Nat → Int32) (b q : Nat) : Nat → Nat → Int32 := if x.2.2.2.2.2.2.2.1 b < T 1 q then sc T 7 b 1 else T
set_option maxRecDepth 100000 in
set_option maxHeartbeats 4000000 in
theorem sp_X10_rainOn (l : Launch) (G : GT) (A0 : Nat → Int32) (x : PP) (T : Nat → Nat → Int32) (c : Nat) (M : Mem) (hA : M 0 1 = enc A0 x T) (hx : PIv x) (hc : c < x.1.2.2) : MC l G yX10_rainOn cX10_rainOn 2 none ({ frames := 2, cells := 0, slots := 0, locals := 43 } : Room) [9] lk0 [rv 0 0, iv (nI c)] (M) (fun r M2 => r = none ∧ M2 = md M (enc A0 x (raC T c))) := by
  refine MC.of RX10 [some (rv 0 0), some (iv (nI c))] 0 (by decide +kernel) rfl rfl rfl ?_
  intro pp ee ss mm aa bb me cd ad E
  obtain ⟨M0, rfl⟩ : ∃ M0, M = md M0 (enc A0 x T) := ⟨M, (md_of hA).symm⟩
  clear hA
  have hn64 := (PIv_z hx).1
  
  refine r_aload_n E (dat dkX10_rainOn 0 rfl) rfl rfl ?_
  refine r_iload_n E (dat dkX10_rainOn 1 rfl) rfl rfl ?_
  refine r_iconst (v := 1) E (dat dkX10_rainOn 2 rfl) rfl ?_
  refine r_aload_n E (dat dkX10_rainOn 3 rfl) rfl rfl ?_
  refine q_geta E fl_X10_9 (dat dkX10_rainOn 4 rfl) rfl rfl rfl ?_
  refine r_iconst (v := 3) E (dat dkX10_rainOn 5 rfl) rfl ?_
  refine q_iald E (dat dkX10_rainOn 6 rfl) rfl rfl (by decide) md_a (show _ = nI 3 from rfl) (by omega) ?_
  refine r_callV (κ := 9) (μ := []) E (sp_X10_add l G c 1 (T 0 8) _ _ md_a (by omega) (by decide)) my_X10_add iv_X10_add ml_X10_101 cm_id ⟨by decide, rfl, rfl⟩ rfl rfl rfl rfl (by decide) (Nat.le_of_ble_eq_true rfl) (dat dkX10_rainOn 7 rfl) ?_
  rintro _ _ ⟨rfl, rfl⟩
  refine ⟨_, Mrg_md (by decide) rfl, ?_⟩
  rw [e_w hc hn64, u_w hc hn64]
  refine r_aload_n E (dat dkX10_rainOn 8 rfl) rfl rfl ?_
  refine q_geta E fl_X10_9 (dat dkX10_rainOn 9 rfl) rfl rfl rfl ?_
  refine r_iconst (v := 5) E (dat dkX10_rainOn 10 rfl) rfl ?_
  refine r_dup2 E (dat dkX10_rainOn 11 rfl) rfl rfl ?_
  refine q_iald E (dat dkX10_rainOn 12 rfl) rfl rfl (by decide) md_a (show _ = nI 5 from rfl) (by omega) ?_
  refine r_aload_n E (dat dkX10_rainOn 13 rfl) rfl rfl ?_
  refine q_geta E fl_X10_9 (dat dkX10_rainOn 14 rfl) rfl rfl rfl ?_
  refine r_iconst (v := 3) E (dat dkX10_rainOn 15 rfl) rfl ?_
  refine q_iald E (dat dkX10_rainOn 16 rfl) rfl rfl (by decide) md_a (show _ = nI 3 from rfl) (by omega) ?_
  refine r_iadd E (dat dkX10_rainOn 17 rfl) ?_
  refine q_iast E (dat dkX10_rainOn 18 rfl) rfl rfl (by decide) md_a (fun _ => md_s) (show _ = nI 5 from rfl) (by omega) ?_
  refine r_vreturn E (dat dkX10_rainOn 19 rfl) (by decide) (by decide) ?_
  exact ⟨rfl, by rw [md_md, u_rd]; rfl⟩

set_option maxRecDepth 100000 in
set_option maxHeartbeats 4000000 in
theorem sp_X10_gushOn (l : Launch) (G : GT) (A0 : Nat → Int32) (x : PP) (T : Nat → Nat → Int32) (c : Nat) (M : Mem) (hA : M 0 1 = enc A0 x T) (hx : PIv x) (hc : c < x.1.2.2) : MC l G yX10_gushOn cX10_gushOn 2 none ({ frames := 2, cells := 0, slots := 0, locals := 43 } : Room) [9] lk0 [rv 0 0, iv (nI c)] (M) (fun r M2 => r = none ∧ M2 = md M (enc A0 x (guC T c))) := by
  refine MC.of RX10 [some (rv 0 0), some (iv (nI c))] 0 (by decide +kernel) rfl rfl rfl ?_
  intro pp ee ss mm aa bb me cd ad E
  obtain ⟨M0, rfl⟩ : ∃ M0, M = md M0 (enc A0 x T) := ⟨M, (md_of hA).symm⟩
  clear hA
  have hn64 := (PIv_z hx).1
  
  refine r_aload_n E (dat dkX10_gushOn 0 rfl) rfl rfl ?_
  refine r_iload_n E (dat dkX10_gushOn 1 rfl) rfl rfl ?_
  refine r_iconst (v := 5) E (dat dkX10_gushOn 2 rfl) rfl ?_
  refine r_callV (κ := 9) (μ := []) E (sp_X10_get l G c 5 _ _ md_a (by omega) (by decide)) my_X10_get iv_X10_get ml_X10_76 cm_id ⟨by decide, rfl, rfl⟩ rfl rfl rfl rfl (by decide) (Nat.le_of_ble_eq_true rfl) (dat dkX10_gushOn 3 rfl) ?_
  rintro _ _ ⟨rfl, rfl⟩
  refine ⟨_, Mrg_z rfl, ?_⟩
  rw [e_t hc hn64]
  refine r_if_ne (tgt := 10) E (dat dkX10_gushOn 4 rfl) rfl (fun h6 => ?_) (fun h6 => ?_)
  ·
    refine r_aload_n E (dat dkX10_gushOn 6 rfl) rfl rfl ?_
    refine r_iload_n E (dat dkX10_gushOn 7 rfl) rfl rfl ?_
    refine r_iconst (v := 1) E (dat dkX10_gushOn 8 rfl) rfl ?_
    refine r_aload_n E (dat dkX10_gushOn 9 rfl) rfl rfl ?_
    refine r_iload_n E (dat dkX10_gushOn 10 rfl) rfl rfl ?_
    refine r_iconst (v := 4) E (dat dkX10_gushOn 11 rfl) rfl ?_
    refine r_callV (κ := 9) (μ := []) E (sp_X10_get l G c 4 _ _ md_a (by omega) (by decide)) my_X10_get iv_X10_get ml_X10_76 cm_id ⟨by decide, rfl, rfl⟩ rfl rfl rfl rfl (by decide) (Nat.le_of_ble_eq_true rfl) (dat dkX10_gushOn 12 rfl) ?_
    rintro _ _ ⟨rfl, rfl⟩
    refine ⟨_, Mrg_z rfl, ?_⟩
    rw [e_r hc hn64]
    refine r_callV (κ := 9) (μ := []) E (sp_X10_add l G c 1 (T 3 c) _ _ md_a (by omega) (by decide)) my_X10_add iv_X10_add ml_X10_101 cm_id ⟨by decide, rfl, rfl⟩ rfl rfl rfl rfl (by decide) (Nat.le_of_ble_eq_true rfl) (dat dkX10_gushOn 13 rfl) ?_
    rintro _ _ ⟨rfl, rfl⟩
    refine ⟨_, Mrg_md (by decide) rfl, ?_⟩
    rw [e_w hc hn64, u_w hc hn64]
    refine r_aload_n E (dat dkX10_gushOn 14 rfl) rfl rfl ?_
    refine q_geta E fl_X10_9 (dat dkX10_gushOn 15 rfl) rfl rfl rfl ?_
    refine r_bipush (v := 6) E (dat dkX10_gushOn 16 rfl) rfl ?_
    refine r_dup2 E (dat dkX10_gushOn 17 rfl) rfl rfl ?_
    refine q_iald E (dat dkX10_gushOn 18 rfl) rfl rfl (by decide) md_a (show _ = nI 6 from rfl) (by omega) ?_
    refine r_aload_n E (dat dkX10_gushOn 19 rfl) rfl rfl ?_
    refine r_iload_n E (dat dkX10_gushOn 20 rfl) rfl rfl ?_
    refine r_iconst (v := 4) E (dat dkX10_gushOn 21 rfl) rfl ?_
    refine r_callV (κ := 9) (μ := []) E (sp_X10_get l G c 4 _ _ md_a (by omega) (by decide)) my_X10_get iv_X10_get ml_X10_76 cm_id ⟨by decide, rfl, rfl⟩ rfl rfl rfl rfl (by decide) (Nat.le_of_ble_eq_true rfl) (dat dkX10_gushOn 22 rfl) ?_
    rintro _ _ ⟨rfl, rfl⟩
    refine ⟨_, Mrg_z rfl, ?_⟩
    rw [e_r hc hn64]
    refine r_iadd E (dat dkX10_gushOn 23 rfl) ?_
    refine q_iast E (dat dkX10_gushOn 24 rfl) rfl rfl (by decide) md_a (fun _ => md_s) (show _ = nI 6 from rfl) (by omega) ?_
    rw [u_gs, show enc A0 x (sc T 1 c (T 1 c + T 3 c)) 6 = T 0 10 from rfl, show (sc T 1 c (T 1 c + T 3 c)) 3 c = T 3 c from rfl]
    refine r_aload_n E (dat dkX10_gushOn 25 rfl) rfl rfl ?_
    refine r_iload_n E (dat dkX10_gushOn 26 rfl) rfl rfl ?_
    refine r_iconst (v := 5) E (dat dkX10_gushOn 27 rfl) rfl ?_
    refine r_iconst (v := -1) E (dat dkX10_gushOn 28 rfl) rfl ?_
    refine r_callV (κ := 9) (μ := []) E (sp_X10_add l G c 5 (-1) _ _ md_a (by omega) (by decide)) my_X10_add iv_X10_add ml_X10_101 cm_id ⟨by decide, rfl, rfl⟩ rfl rfl rfl rfl (by decide) (Nat.le_of_ble_eq_true rfl) (dat dkX10_gushOn 29 rfl) ?_
    rintro _ _ ⟨rfl, rfl⟩
    refine ⟨_, Mrg_md (by decide) rfl, ?_⟩
    rw [e_t hc hn64, u_t hc hn64]
    rw [show (sc (sc T 1 c (T 1 c + T 3 c)) 0 10 (T 0 10 + T 3 c)) 4 c = T 4 c from rfl]
    refine r_aload_n E (dat dkX10_gushOn 30 rfl) rfl rfl ?_
    refine r_iload_n E (dat dkX10_gushOn 31 rfl) rfl rfl ?_
    refine r_iconst (v := 5) E (dat dkX10_gushOn 32 rfl) rfl ?_
    refine r_callV (κ := 9) (μ := []) E (sp_X10_get l G c 5 _ _ md_a (by omega) (by decide)) my_X10_get iv_X10_get ml_X10_76 cm_id ⟨by decide, rfl, rfl⟩ rfl rfl rfl rfl (by decide) (Nat.le_of_ble_eq_true rfl) (dat dkX10_gushOn 33 rfl) ?_
    rintro _ _ ⟨rfl, rfl⟩
    refine ⟨_, Mrg_z rfl, ?_⟩
    rw [e_t hc hn64]
    rw [show sc (sc (sc T 1 c (T 1 c + T 3 c)) 0 10 (T 0 10 + T 3 c)) 4 c (T 4 c + -1) 4 c = T 4 c + -1 from if_pos rfl]
    refine r_if_ne (tgt := 66) E (dat dkX10_gushOn 34 rfl) rfl (fun h51 => ?_) (fun h51 => ?_)
    ·
      refine r_vreturn E (dat dkX10_gushOn 43 rfl) (by decide) (by decide) ?_
      refine ⟨rfl, ?_⟩
      unfold guC
      first
        | (rw [if_pos h6, md_md]; done)
        | (rw [md_md, if_neg h6, if_pos h51, u_r hc hn64]; rfl)
        | (rw [md_md, if_neg h6, if_neg h51]; rfl)
    ·
      refine r_aload_n E (dat dkX10_gushOn 35 rfl) rfl rfl ?_
      refine q_geta E fl_X10_9 (dat dkX10_gushOn 36 rfl) rfl rfl rfl ?_
      refine r_iload_n E (dat dkX10_gushOn 37 rfl) rfl rfl ?_
      refine r_callS (μ := []) E (sp_X10_c l G c _) my_X10_c is_X10_c ml_X10_48 cm_nil rfl rfl (by decide) (Nat.le_of_ble_eq_true rfl) (dat dkX10_gushOn 38 rfl) ?_
      rintro _ _ ⟨rfl, hM⟩
      refine ⟨_, Mrg_z hM, ?_⟩
      clear hM
      refine r_iconst (v := 4) E (dat dkX10_gushOn 39 rfl) rfl ?_
      refine r_iadd E (dat dkX10_gushOn 40 rfl) ?_
      refine r_iconst (v := 0) E (dat dkX10_gushOn 41 rfl) rfl ?_
      refine q_iast E (dat dkX10_gushOn 42 rfl) rfl rfl (by decide) md_a (fun _ => md_s) (show _ = nI (c6 c 4) from nI_add _ _) (by unfold c6; omega) ?_
      refine r_vreturn E (dat dkX10_gushOn 43 rfl) (by decide) (by decide) ?_
      refine ⟨rfl, ?_⟩
      unfold guC
      first
        | (rw [if_pos h6, md_md]; done)
        | (rw [md_md, if_neg h6, if_pos h51, u_r hc hn64]; rfl)
        | (rw [md_md, if_neg h6, if_neg h51]; rfl)
  ·
    refine r_vreturn E (dat dkX10_gushOn 5 rfl) (by decide) (by decide) ?_
    refine ⟨rfl, ?_⟩
    unfold guC
    first
      | (rw [if_pos h6, md_md]; done)
      | (rw [md_md, if_neg h6, if_pos h51, u_r hc hn64]; rfl)
      | (rw [md_md, if_neg h6, if_neg h51]; rfl)

set_option maxRecDepth 100000 in
set_option maxHeartbeats 4000000 in
theorem sp_X10_drain (l : Launch) (G : GT) (A0 : Nat → Int32) (x : PP) (T : Nat → Nat → Int32) (c : Nat) (M : Mem) (hA : M 0 1 = enc A0 x T) (hx : PIv x) (hc : c < x.1.2.2) : MC l G yX10_drain cX10_drain 3 (some .int) ({ frames := 3, cells := 0, slots := 0, locals := 63 } : Room) [9] lk0 [rv 0 0, iv (nI c)] (M) (fun r M2 => r = some (iv (drA x T c)) ∧ M2 = md M (enc A0 x (drC x T c))) := by
  refine MC.of RX10 [some (rv 0 0), some (iv (nI c)), none] 1 (by decide +kernel) rfl rfl rfl ?_
  intro pp ee ss mm aa bb me cd ad E
  obtain ⟨M0, rfl⟩ : ∃ M0, M = md M0 (enc A0 x T) := ⟨M, (md_of hA).symm⟩
  clear hA
  have hn64 := (PIv_z hx).1
  
  refine r_aload_n E (dat dkX10_drain 0 rfl) rfl rfl ?_
  refine r_iload_n E (dat dkX10_drain 1 rfl) rfl rfl ?_
  refine r_callV (κ := 9) (μ := []) E (sp_X10_gutter l G A0 x T c _ md_a hx hc) my_X10_gutter iv_X10_gutter ml_X10_108 cm_id ⟨by decide, rfl, rfl⟩ rfl rfl rfl rfl (by decide) (Nat.le_of_ble_eq_true rfl) (dat dkX10_drain 2 rfl) ?_
  rintro _ _ ⟨rfl, rfl⟩
  refine ⟨_, Mrg_z rfl, ?_⟩
  refine r_aload_n E (dat dkX10_drain 3 rfl) rfl rfl ?_
  refine r_iload_n E (dat dkX10_drain 4 rfl) rfl rfl ?_
  refine r_iconst (v := 1) E (dat dkX10_drain 5 rfl) rfl ?_
  refine r_callV (κ := 9) (μ := []) E (sp_X10_get l G c 1 _ _ md_a (by omega) (by decide)) my_X10_get iv_X10_get ml_X10_76 cm_id ⟨by decide, rfl, rfl⟩ rfl rfl rfl rfl (by decide) (Nat.le_of_ble_eq_true rfl) (dat dkX10_drain 6 rfl) ?_
  rintro _ _ ⟨rfl, rfl⟩
  refine ⟨_, Mrg_z rfl, ?_⟩
  rw [e_w hc hn64]
  refine r_mmin E ml_X10_93 (by decide) (dat dkX10_drain 7 rfl) ?_
  refine r_istore_2 E (dat dkX10_drain 8 rfl) rfl rfl ?_
  refine r_aload_n E (dat dkX10_drain 9 rfl) rfl rfl ?_
  refine r_iload_n E (dat dkX10_drain 10 rfl) rfl rfl ?_
  refine r_iconst (v := 1) E (dat dkX10_drain 11 rfl) rfl ?_
  refine r_iload_n E (dat dkX10_drain 12 rfl) rfl rfl ?_
  refine r_ineg E (dat dkX10_drain 13 rfl) ?_
  refine r_callV (κ := 9) (μ := []) E (sp_X10_add l G c 1 (-(drA x T c)) _ _ md_a (by omega) (by decide)) my_X10_add iv_X10_add ml_X10_101 cm_id ⟨by decide, rfl, rfl⟩ rfl rfl rfl rfl (by decide) (Nat.le_of_ble_eq_true rfl) (dat dkX10_drain 14 rfl) ?_
  rintro _ _ ⟨rfl, rfl⟩
  refine ⟨_, Mrg_md (by decide) rfl, ?_⟩
  rw [e_w hc hn64, u_w hc hn64]
  refine r_aload_n E (dat dkX10_drain 15 rfl) rfl rfl ?_
  refine q_geta E fl_X10_9 (dat dkX10_drain 16 rfl) rfl rfl rfl ?_
  refine r_bipush (v := 7) E (dat dkX10_drain 17 rfl) rfl ?_
  refine r_dup2 E (dat dkX10_drain 18 rfl) rfl rfl ?_
  refine q_iald E (dat dkX10_drain 19 rfl) rfl rfl (by decide) md_a (show _ = nI 7 from rfl) (by omega) ?_
  refine r_iload_n E (dat dkX10_drain 20 rfl) rfl rfl ?_
  refine r_iadd E (dat dkX10_drain 21 rfl) ?_
  refine q_iast E (dat dkX10_drain 22 rfl) rfl rfl (by decide) md_a (fun _ => md_s) (show _ = nI 7 from rfl) (by omega) ?_
  refine r_iload_n E (dat dkX10_drain 23 rfl) rfl rfl ?_
  refine r_ireturn E (dat dkX10_drain 24 rfl) (by decide) (by decide) ?_
  exact ⟨rfl, by rw [md_md, u_dr]; rfl⟩

set_option maxRecDepth 100000 in
set_option maxHeartbeats 4000000 in
theorem sp_X10_evaporate (l : Launch) (G : GT) (A0 : Nat → Int32) (x : PP) (T : Nat → Nat → Int32) (c : Nat) (M : Mem) (hA : M 0 1 = enc A0 x T) (hx : PIv x) (hc : c < x.1.2.2) : MC l G yX10_evaporate cX10_evaporate 2 none ({ frames := 3, cells := 0, slots := 0, locals := 63 } : Room) [9] lk0 [rv 0 0, iv (nI c)] (M) (fun r M2 => r = none ∧ M2 = md M (enc A0 x (evC1 T c))) := by
  refine MC.of RX10 [some (rv 0 0), some (iv (nI c))] 0 (by decide +kernel) rfl rfl rfl ?_
  intro pp ee ss mm aa bb me cd ad E
  obtain ⟨M0, rfl⟩ : ∃ M0, M = md M0 (enc A0 x T) := ⟨M, (md_of hA).symm⟩
  clear hA
  have hn64 := (PIv_z hx).1
  
  refine r_aload_n E (dat dkX10_evaporate 0 rfl) rfl rfl ?_
  refine r_iload_n E (dat dkX10_evaporate 1 rfl) rfl rfl ?_
  refine r_callV (κ := 9) (μ := []) E (sp_X10_isDry l G A0 x T c _ md_a hx hc) my_X10_isDry iv_X10_isDry ml_X10_111 cm_id ⟨by decide, rfl, rfl⟩ rfl rfl rfl rfl (by decide) (Nat.le_of_ble_eq_true rfl) (dat dkX10_evaporate 2 rfl) ?_
  rintro _ _ ⟨rfl, rfl⟩
  refine ⟨_, Mrg_z rfl, ?_⟩
  refine r_if_ne (tgt := 26) E (dat dkX10_evaporate 3 rfl) rfl (fun h5 => ?_) (fun h5 => ?_)
  ·
    refine r_vreturn E (dat dkX10_evaporate 17 rfl) (by decide) (by decide) ?_
    refine ⟨rfl, ?_⟩
    unfold evC1
    by_cases hd : T 1 c = 0
    · first
        | (rw [if_pos hd, md_md]; done)
        | (rw [if_pos hd] at h5; exact absurd h5 (by decide))
        | (rw [if_pos hd] at h5; exact absurd rfl h5)
    · first
        | (rw [if_neg hd, md_md, u_ev]; rfl)
        | (rw [if_neg hd] at h5; exact absurd h5 (by decide))
        | (rw [if_neg hd] at h5; exact absurd rfl h5)
  ·
    refine r_aload_n E (dat dkX10_evaporate 4 rfl) rfl rfl ?_
    refine r_iload_n E (dat dkX10_evaporate 5 rfl) rfl rfl ?_
    refine r_iconst (v := 1) E (dat dkX10_evaporate 6 rfl) rfl ?_
    refine r_iconst (v := -1) E (dat dkX10_evaporate 7 rfl) rfl ?_
    refine r_callV (κ := 9) (μ := []) E (sp_X10_add l G c 1 (-1) _ _ md_a (by omega) (by decide)) my_X10_add iv_X10_add ml_X10_101 cm_id ⟨by decide, rfl, rfl⟩ rfl rfl rfl rfl (by decide) (Nat.le_of_ble_eq_true rfl) (dat dkX10_evaporate 8 rfl) ?_
    rintro _ _ ⟨rfl, rfl⟩
    refine ⟨_, Mrg_md (by decide) rfl, ?_⟩
    rw [e_w hc hn64, u_w hc hn64]
    refine r_aload_n E (dat dkX10_evaporate 9 rfl) rfl rfl ?_
    refine q_geta E fl_X10_9 (dat dkX10_evaporate 10 rfl) rfl rfl rfl ?_
    refine r_bipush (v := 8) E (dat dkX10_evaporate 11 rfl) rfl ?_
    refine r_dup2 E (dat dkX10_evaporate 12 rfl) rfl rfl ?_
    refine q_iald E (dat dkX10_evaporate 13 rfl) rfl rfl (by decide) md_a (show _ = nI 8 from rfl) (by omega) ?_
    refine r_iconst (v := 1) E (dat dkX10_evaporate 14 rfl) rfl ?_
    refine r_iadd E (dat dkX10_evaporate 15 rfl) ?_
    refine q_iast E (dat dkX10_evaporate 16 rfl) rfl rfl (by decide) md_a (fun _ => md_s) (show _ = nI 8 from rfl) (by omega) ?_
    refine r_vreturn E (dat dkX10_evaporate 17 rfl) (by decide) (by decide) ?_
    refine ⟨rfl, ?_⟩
    unfold evC1
    by_cases hd : T 1 c = 0
    · first
        | (rw [if_pos hd, md_md]; done)
        | (rw [if_pos hd] at h5; exact absurd h5 (by decide))
        | (rw [if_pos hd] at h5; exact absurd rfl h5)
    · first
        | (rw [if_neg hd, md_md, u_ev]; rfl)
        | (rw [if_neg hd] at h5; exact absurd h5 (by decide))
        | (rw [if_neg hd] at h5; exact absurd rfl h5)

set_option maxRecDepth 100000 in
set_option maxHeartbeats 4000000 in
theorem sp_X10_flowFromCell (l : Launch) (G : GT) (A0 : Nat → Int32) (x : PP) (T : Nat → Nat → Int32) (c o : Nat) (M : Mem) (hA : M 0 1 = enc A0 x T) (hx : PIv x) (hc : c < x.1.2.2) (hv : PVi x) (ho : o < x.1.2.2) (hlo : loF (nbx x) (fun k => x.2.1 k + T 1 k) c 4 = some o) : MC l G yX10_flowFromCell cX10_flowFromCell 4 none ({ frames := 5, cells := 0, slots := 0, locals := 109 } : Room) [9] lk0 [rv 0 0, iv (nI c)] (M) (fun r M2 => r = none ∧ M2 = md M (enc A0 x (flC x T c o))) := by
  refine MC.of RX10 [some (rv 0 0), some (iv (nI c)), none, none] 2 (by decide +kernel) rfl rfl rfl ?_
  intro pp ee ss mm aa bb me cd ad E
  obtain ⟨M0, rfl⟩ : ∃ M0, M = md M0 (enc A0 x T) := ⟨M, (md_of hA).symm⟩
  clear hA
  have hn64 := (PIv_z hx).1
  
  refine r_aload_n E (dat dkX10_flowFromCell 0 rfl) rfl rfl ?_
  refine r_iload_n E (dat dkX10_flowFromCell 1 rfl) rfl rfl ?_
  refine r_callV (κ := 9) (μ := []) E (sp_X10_flow l G A0 x T c _ md_a hx hc hv) my_X10_flow iv_X10_flow ml_X10_105 cm_id ⟨by decide, rfl, rfl⟩ rfl rfl rfl rfl (by decide) (Nat.le_of_ble_eq_true rfl) (dat dkX10_flowFromCell 2 rfl) ?_
  rintro _ _ ⟨rfl, rfl⟩
  refine ⟨_, Mrg_z rfl, ?_⟩
  rw [hlo]
  refine r_istore_2 E (dat dkX10_flowFromCell 3 rfl) rfl rfl ?_
  refine r_iload_n E (dat dkX10_flowFromCell 4 rfl) rfl rfl ?_
  refine r_if_ne (tgt := 11) E (dat dkX10_flowFromCell 5 rfl) rfl (fun h7 => ?_) (fun h7 => ?_)
  ·
    refine r_aload_n E (dat dkX10_flowFromCell 7 rfl) rfl rfl ?_
    refine r_iload_n E (dat dkX10_flowFromCell 8 rfl) rfl rfl ?_
    refine r_callV (κ := 9) (μ := []) E (sp_X10_lowest l G A0 x T c _ md_a hx hc) my_X10_lowest iv_X10_lowest ml_X10_90 cm_id ⟨by decide, rfl, rfl⟩ rfl rfl rfl rfl (by decide) (Nat.le_of_ble_eq_true rfl) (dat dkX10_flowFromCell 9 rfl) ?_
    rintro _ _ ⟨rfl, rfl⟩
    refine ⟨_, Mrg_z rfl, ?_⟩
    rw [hlo]
    refine r_istore_3 E (dat dkX10_flowFromCell 10 rfl) rfl rfl ?_
    refine r_aload_n E (dat dkX10_flowFromCell 11 rfl) rfl rfl ?_
    refine r_iload_n E (dat dkX10_flowFromCell 12 rfl) rfl rfl ?_
    refine r_iconst (v := 1) E (dat dkX10_flowFromCell 13 rfl) rfl ?_
    refine r_iload_n E (dat dkX10_flowFromCell 14 rfl) rfl rfl ?_
    refine r_ineg E (dat dkX10_flowFromCell 15 rfl) ?_
    refine r_callV (κ := 9) (μ := []) E (sp_X10_add l G c 1 (-(flO x.2.1 (T 1) c (some o))) _ _ md_a (by omega) (by decide)) my_X10_add iv_X10_add ml_X10_101 cm_id ⟨by decide, rfl, rfl⟩ rfl rfl rfl rfl (by decide) (Nat.le_of_ble_eq_true rfl) (dat dkX10_flowFromCell 16 rfl) ?_
    rintro _ _ ⟨rfl, rfl⟩
    refine ⟨_, Mrg_md (by decide) rfl, ?_⟩
    rw [e_w hc hn64, u_w hc hn64]
    refine r_aload_n E (dat dkX10_flowFromCell 17 rfl) rfl rfl ?_
    refine r_iload_n E (dat dkX10_flowFromCell 18 rfl) rfl rfl ?_
    refine r_iconst (v := 1) E (dat dkX10_flowFromCell 19 rfl) rfl ?_
    refine r_iload_n E (dat dkX10_flowFromCell 20 rfl) rfl rfl ?_
    refine r_callV (κ := 9) (μ := []) E (sp_X10_add l G o 1 ((flO x.2.1 (T 1) c (some o))) _ _ md_a (by omega) (by decide)) my_X10_add iv_X10_add ml_X10_101 cm_id ⟨by decide, rfl, rfl⟩ rfl rfl rfl rfl (by decide) (Nat.le_of_ble_eq_true rfl) (dat dkX10_flowFromCell 21 rfl) ?_
    rintro _ _ ⟨rfl, rfl⟩
    refine ⟨_, Mrg_md (by decide) rfl, ?_⟩
    rw [e_w ho hn64, u_w ho hn64]
    refine r_aload_n E (dat dkX10_flowFromCell 22 rfl) rfl rfl ?_
    refine r_iload_n E (dat dkX10_flowFromCell 23 rfl) rfl rfl ?_
    refine r_iconst (v := 2) E (dat dkX10_flowFromCell 24 rfl) rfl ?_
    refine r_callV (κ := 9) (μ := []) E (sp_X10_get l G c 2 _ _ md_a (by omega) (by decide)) my_X10_get iv_X10_get ml_X10_76 cm_id ⟨by decide, rfl, rfl⟩ rfl rfl rfl rfl (by decide) (Nat.le_of_ble_eq_true rfl) (dat dkX10_flowFromCell 25 rfl) ?_
    rintro _ _ ⟨rfl, rfl⟩
    refine ⟨_, Mrg_z rfl, ?_⟩
    rw [e_l hc hn64]
    refine r_if_le (tgt := 64) E (dat dkX10_flowFromCell 26 rfl) rfl (fun h38 => ?_) (fun h38 => ?_)
    ·
      refine r_vreturn E (dat dkX10_flowFromCell 42 rfl) (by decide) (by decide) ?_
      refine ⟨rfl, ?_⟩
      unfold flC
      first
        | (rw [if_pos h7, md_md]; done)
        | (rw [md_md, if_neg h7, if_pos ⟨i32_nle h38, h47⟩]; rfl)
        | (rw [md_md, if_neg h7, if_neg (fun q => i32_nlt h38 q.1)]; rfl)
        | (rw [md_md, if_neg h7, if_neg (fun q => h47 q.2)]; rfl)
    ·
      refine r_aload_n E (dat dkX10_flowFromCell 27 rfl) rfl rfl ?_
      refine r_iload_n E (dat dkX10_flowFromCell 28 rfl) rfl rfl ?_
      refine r_iconst (v := 3) E (dat dkX10_flowFromCell 29 rfl) rfl ?_
      refine r_callV (κ := 9) (μ := []) E (sp_X10_get l G c 3 _ _ md_a (by omega) (by decide)) my_X10_get iv_X10_get ml_X10_76 cm_id ⟨by decide, rfl, rfl⟩ rfl rfl rfl rfl (by decide) (Nat.le_of_ble_eq_true rfl) (dat dkX10_flowFromCell 30 rfl) ?_
      rintro _ _ ⟨rfl, rfl⟩
      refine ⟨_, Mrg_z rfl, ?_⟩
      rw [e_k hc hn64]
      refine r_if_ne (tgt := 64) E (dat dkX10_flowFromCell 31 rfl) rfl (fun h47 => ?_) (fun h47 => ?_)
      ·
        refine r_vreturn E (dat dkX10_flowFromCell 42 rfl) (by decide) (by decide) ?_
        refine ⟨rfl, ?_⟩
        unfold flC
        first
          | (rw [if_pos h7, md_md]; done)
          | (rw [md_md, if_neg h7, if_pos ⟨i32_nle h38, h47⟩]; rfl)
          | (rw [md_md, if_neg h7, if_neg (fun q => i32_nlt h38 q.1)]; rfl)
          | (rw [md_md, if_neg h7, if_neg (fun q => h47 q.2)]; rfl)
      ·
        refine r_aload_n E (dat dkX10_flowFromCell 32 rfl) rfl rfl ?_
        refine r_iload_n E (dat dkX10_flowFromCell 33 rfl) rfl rfl ?_
        refine r_iconst (v := 2) E (dat dkX10_flowFromCell 34 rfl) rfl ?_
        refine r_iconst (v := -1) E (dat dkX10_flowFromCell 35 rfl) rfl ?_
        refine r_callV (κ := 9) (μ := []) E (sp_X10_add l G c 2 (-1) _ _ md_a (by omega) (by decide)) my_X10_add iv_X10_add ml_X10_101 cm_id ⟨by decide, rfl, rfl⟩ rfl rfl rfl rfl (by decide) (Nat.le_of_ble_eq_true rfl) (dat dkX10_flowFromCell 36 rfl) ?_
        rintro _ _ ⟨rfl, rfl⟩
        refine ⟨_, Mrg_md (by decide) rfl, ?_⟩
        rw [e_l hc hn64, u_l hc hn64]
        refine r_aload_n E (dat dkX10_flowFromCell 37 rfl) rfl rfl ?_
        refine r_iload_n E (dat dkX10_flowFromCell 38 rfl) rfl rfl ?_
        refine r_iconst (v := 2) E (dat dkX10_flowFromCell 39 rfl) rfl ?_
        refine r_iconst (v := 1) E (dat dkX10_flowFromCell 40 rfl) rfl ?_
        refine r_callV (κ := 9) (μ := []) E (sp_X10_add l G o 2 (1) _ _ md_a (by omega) (by decide)) my_X10_add iv_X10_add ml_X10_101 cm_id ⟨by decide, rfl, rfl⟩ rfl rfl rfl rfl (by decide) (Nat.le_of_ble_eq_true rfl) (dat dkX10_flowFromCell 41 rfl) ?_
        rintro _ _ ⟨rfl, rfl⟩
        refine ⟨_, Mrg_md (by decide) rfl, ?_⟩
        rw [e_l ho hn64, u_l ho hn64]
        refine r_vreturn E (dat dkX10_flowFromCell 42 rfl) (by decide) (by decide) ?_
        refine ⟨rfl, ?_⟩
        unfold flC
        first
          | (rw [if_pos h7, md_md]; done)
          | (rw [md_md, if_neg h7, if_pos ⟨i32_nle h38, h47⟩]; rfl)
          | (rw [md_md, if_neg h7, if_neg (fun q => i32_nlt h38 q.1)]; rfl)
          | (rw [md_md, if_neg h7, if_neg (fun q => h47 q.2)]; rfl)
  ·
    refine r_vreturn E (dat dkX10_flowFromCell 6 rfl) (by decide) (by decide) ?_
    refine ⟨rfl, ?_⟩
    unfold flC
    first
      | (rw [if_pos h7, md_md]; done)
      | (rw [md_md, if_neg h7, if_pos ⟨i32_nle h38, h47⟩]; rfl)
      | (rw [md_md, if_neg h7, if_neg (fun q => i32_nlt h38 q.1)]; rfl)
      | (rw [md_md, if_neg h7, if_neg (fun q => h47 q.2)]; rfl)

set_option maxRecDepth 100000 in
set_option maxHeartbeats 4000000 in
theorem sp_X10_soak (l : Launch) (G : GT) (A0 : Nat → Int32) (x : PP) (T : Nat → Nat → Int32) (b q : Nat) (M : Mem) (hA : M 0 1 = enc A0 x T) (hx : PIv x) (hb : b < x.2.2.2.2.1) (hq : T 5 b = nI q) (hqn : q < x.1.2.2) : MC l G yX10_soak cX10_soak 3 none ({ frames := 2, cells := 0, slots := 0, locals := 42 } : Room) [9] lk0 [rv 0 0, iv (nI b)] (M) (fun r M2 => r = none ∧ M2 = md M (enc A0 x (soC x T b q))) := by
  refine MC.of RX10 [some (rv 0 0), some (iv (nI b)), none] 1 (by decide +kernel) rfl rfl rfl ?_
  intro pp ee ss mm aa bb me cd ad E
  obtain ⟨M0, rfl⟩ : ∃ M0, M = md M0 (enc A0 x T) := ⟨M, (md_of hA).symm⟩
  clear hA
  have hn64 := (PIv_z hx).1
  have hb4 := hx.2.2.2.2.1
  
  refine r_iload_n E (dat dkX10_soak 0 rfl) rfl rfl ?_
  refine r_callS (μ := []) E (sp_X10_p l G b _) my_X10_p is_X10_p ml_X10_73 cm_nil rfl rfl (by decide) (Nat.le_of_ble_eq_true rfl) (dat dkX10_soak 1 rfl) ?_
  rintro _ _ ⟨rfl, hM⟩
  refine ⟨_, Mrg_z hM, ?_⟩
  clear hM
  refine r_istore_2 E (dat dkX10_soak 2 rfl) rfl rfl ?_
  refine r_aload_n E (dat dkX10_soak 3 rfl) rfl rfl ?_
  refine r_aload_n E (dat dkX10_soak 4 rfl) rfl rfl ?_
  refine q_geta E fl_X10_9 (dat dkX10_soak 5 rfl) rfl rfl rfl ?_
  refine r_iload_n E (dat dkX10_soak 6 rfl) rfl rfl ?_
  refine r_bipush (v := 7) E (dat dkX10_soak 7 rfl) rfl ?_
  refine r_iadd E (dat dkX10_soak 8 rfl) ?_
  refine q_iald E (dat dkX10_soak 9 rfl) rfl rfl (by decide) md_a (nI_add (399 + 11 * b) 7) (by omega) ?_
  rw [e_pl hb, hq]
  refine r_iconst (v := 1) E (dat dkX10_soak 10 rfl) rfl ?_
  refine r_callV (κ := 9) (μ := []) E (sp_X10_get l G q 1 _ _ md_a (by omega) (by decide)) my_X10_get iv_X10_get ml_X10_76 cm_id ⟨by decide, rfl, rfl⟩ rfl rfl rfl rfl (by decide) (Nat.le_of_ble_eq_true rfl) (dat dkX10_soak 11 rfl) ?_
  rintro _ _ ⟨rfl, rfl⟩
  refine ⟨_, Mrg_z rfl, ?_⟩
  rw [e_w hqn hn64]
  refine r_aload_n E (dat dkX10_soak 12 rfl) rfl rfl ?_
  refine q_geta E fl_X10_9 (dat dkX10_soak 13 rfl) rfl rfl rfl ?_
  refine r_iload_n E (dat dkX10_soak 14 rfl) rfl rfl ?_
  refine r_bipush (v := 8) E (dat dkX10_soak 15 rfl) rfl ?_
  refine r_iadd E (dat dkX10_soak 16 rfl) ?_
  refine q_iald E (dat dkX10_soak 17 rfl) rfl rfl (by decide) md_a (nI_add (399 + 11 * b) 8) (by omega) ?_
  rw [e_bh hb]
  refine r_icmp_le (tgt := 41) E (dat dkX10_soak 18 rfl) rfl (fun h28 => ?_) (fun h28 => ?_)
  ·
    refine r_vreturn E (dat dkX10_soak 26 rfl) (by decide) (by decide) ?_
    refine ⟨rfl, ?_⟩
    unfold soC
    first
      | (rw [if_neg (i32_nlt h28), md_md]; done)
      | (rw [md_md, if_pos (i32_nle h28), u_wt hb]; done)
  ·
    refine r_aload_n E (dat dkX10_soak 19 rfl) rfl rfl ?_
    refine q_geta E fl_X10_9 (dat dkX10_soak 20 rfl) rfl rfl rfl ?_
    refine r_iload_n E (dat dkX10_soak 21 rfl) rfl rfl ?_
    refine r_bipush (v := 9) E (dat dkX10_soak 22 rfl) rfl ?_
    refine r_iadd E (dat dkX10_soak 23 rfl) ?_
    refine r_iconst (v := 1) E (dat dkX10_soak 24 rfl) rfl ?_
    refine q_iast E (dat dkX10_soak 25 rfl) rfl rfl (by decide) md_a (fun _ => md_s) (nI_add (399 + 11 * b) 9) (by omega) ?_
    refine r_vreturn E (dat dkX10_soak 26 rfl) (by decide) (by decide) ?_
    refine ⟨rfl, ?_⟩
    unfold soC
    first
      | (rw [if_neg (i32_nlt h28), md_md]; done)
      | (rw [md_md, if_pos (i32_nle h28), u_wt hb]; done)
