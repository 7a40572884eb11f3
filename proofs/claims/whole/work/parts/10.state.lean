set_option maxRecDepth 100000 in
set_option maxHeartbeats 4000000 in
theorem sp_X5_fallAsRain (l : Launch) (G : GT) (B0 : Nat → Nat → Int32) (mi ra rd fh dr ev dp sw : Int32) (w lv hr ht pl sp wt : Nat → Int32) (B1 : Nat → Nat → Int32) (ro co : Int32) (n : Nat) (bc fr : Int32) (he gu be nm nl bh fp n0 n1 n2 n3 : Nat → Int32) (M0 : Mem) (h64 : n ≤ 64) : MC l G yX5_fallAsRain cX5_fallAsRain 3 none ({ frames := 0, cells := 0, slots := 0, locals := 0 } : Room) [1, 2] lk0 [rv 0 0, rv 1 0] (m2 (vS B0 mi ra rd fh dr ev dp sw w lv hr ht pl sp wt) (vP B1 ro co (nI n) bc fr he gu be nm nl bh fp n0 n1 n2 n3) M0) (fun r M2 => r = none ∧ M2 = m2 (vS B0 mi ra (rd + ra * nI n) fh dr ev dp sw (fil (fun k => w k + ra) w n) lv hr ht pl sp wt) (vP B1 ro co (nI n) bc fr he gu be nm nl bh fp n0 n1 n2 n3) M0) := by
  refine MC.of RX5 [some (rv 0 0), some (rv 1 0), none] 1 (by decide +kernel) rfl rfl rfl ?_
  intro p e s m args below meth c ad E
  refine r_iconst (v := 0) E (dat dkX5_fallAsRain 0 rfl) rfl ?_
  refine r_istore_2 E (dat dkX5_fallAsRain 1 rfl) rfl rfl ?_
  refine r_for (n) (fun _ => True) (fun i => m2 (vS B0 mi ra rd fh dr ev dp sw (fil (fun k => w k + ra) w i) lv hr ht pl sp wt) (vP B1 ro co (nI n) bc fr he gu be nm nl bh fp n0 n1 n2 n3) M0) (fun i => [some (rv 0 0), some (rv 1 0), some (iv (nI i))]) trivial (by rw [fil_0]) rfl ?_ ?_
  · intro i hi hI kk
    refine r_iload_n E (dat dkX5_fallAsRain 2 rfl) rfl rfl ?_
    refine r_aload_n E (dat dkX5_fallAsRain 3 rfl) rfl rfl ?_
    refine q_getn E fl_X5_102 (dat dkX5_fallAsRain 4 rfl) rfl rfl rfl (go2_1 gfP_9) ?_
    refine q_icmp_ge (tgt := 29) E (dat dkX5_fallAsRain 5 rfl) rfl rfl rfl (by omega) (by omega) (fun h7 => ?_) (fun h7 => ?_)
    ·
      omega
    ·
      refine r_aload_n E (dat dkX5_fallAsRain 6 rfl) rfl rfl ?_
      refine q_geta E fl_X5_9 (dat dkX5_fallAsRain 7 rfl) rfl rfl rfl ?_
      refine r_iload_n E (dat dkX5_fallAsRain 8 rfl) rfl rfl ?_
      refine r_dup2 E (dat dkX5_fallAsRain 9 rfl) rfl rfl ?_
      refine q_iald E (dat dkX5_fallAsRain 10 rfl) rfl rfl (by decide) (gg2_0 gaS_1) rfl (by omega) ?_
      refine r_aload_n E (dat dkX5_fallAsRain 11 rfl) rfl rfl ?_
      refine q_getn E fl_X5_38 (dat dkX5_fallAsRain 12 rfl) rfl rfl rfl (go2_0 gfS_8) ?_
      refine r_iadd E (dat dkX5_fallAsRain 13 rfl) ?_
      refine q_iast E (dat dkX5_fallAsRain 14 rfl) rfl rfl (by decide) (gg2_0 gaS_1) (fun _ => sa2_0 paS_1) rfl (by omega) ?_
      refine q_iinc_2 E (dat dkX5_fallAsRain 15 rfl) rfl rfl ?_
      refine r_goto (tgt := 2) E (dat dkX5_fallAsRain 16 rfl) rfl ?_
      exact r_eq (by rw [fil_upd (by rw [fil_at])]) rfl (kk trivial)
  · intro hI
    refine r_iload_n E (dat dkX5_fallAsRain 2 rfl) rfl rfl ?_
    refine r_aload_n E (dat dkX5_fallAsRain 3 rfl) rfl rfl ?_
    refine q_getn E fl_X5_102 (dat dkX5_fallAsRain 4 rfl) rfl rfl rfl (go2_1 gfP_9) ?_
    refine q_icmp_ge (tgt := 29) E (dat dkX5_fallAsRain 5 rfl) rfl rfl rfl (by omega) (by omega) (fun h7 => ?_) (fun h7 => ?_)
    ·
      refine r_aload_n E (dat dkX5_fallAsRain 17 rfl) rfl rfl ?_
      refine r_dup E (dat dkX5_fallAsRain 18 rfl) rfl ?_
      refine q_getn E fl_X5_41 (dat dkX5_fallAsRain 19 rfl) rfl rfl rfl (go2_0 gfS_9) ?_
      refine r_aload_n E (dat dkX5_fallAsRain 20 rfl) rfl rfl ?_
      refine q_getn E fl_X5_38 (dat dkX5_fallAsRain 21 rfl) rfl rfl rfl (go2_0 gfS_8) ?_
      refine r_aload_n E (dat dkX5_fallAsRain 22 rfl) rfl rfl ?_
      refine q_getn E fl_X5_102 (dat dkX5_fallAsRain 23 rfl) rfl rfl rfl (go2_1 gfP_9) ?_
      refine r_imul E (dat dkX5_fallAsRain 24 rfl) ?_
      refine r_iadd E (dat dkX5_fallAsRain 25 rfl) ?_
      refine q_putn E ft_X5_41 (dat dkX5_fallAsRain 26 rfl) rfl rfl rfl (sf2_0 pfS_9) ?_
      refine r_vreturn E (dat dkX5_fallAsRain 27 rfl) (by decide) (by decide) ?_
      exact ⟨rfl, rfl⟩
    ·
      omega
