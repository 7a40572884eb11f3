/-! the reference: the boots of a name, boots added -/
set_option maxRecDepth 100000 in
set_option maxHeartbeats 16000000 in
theorem sp_X10_spelledBoots (l : Launch) (G : GT) (A0 : Nat → Int32) (x : PP) (T : Nat → Nat → Int32) (L : Nat) (sp : Nat → Int32) (M : Mem) (hA : M 0 1 = enc A0 x T) (hx : PIv x) (h8 : M 0 0 8 = nI L) (hL : L ≤ 6) (hsp : M 0 8 = sp) : MC l G yX10_spelledBoots cX10_spelledBoots 4 (some .int) ({ frames := 1, cells := 0, slots := 0, locals := 20 } : Room) [9] lk0 [rv 0 0] (M) (fun r M2 => r = some (iv (nmS (fun i => sB sp (x.2.2.2.2.2.2.2.2 i) (x.2.2.2.2.2.1 i = nI L) L) x.2.2.2.2.1 0)) ∧ M2 = M) := by
  refine MC.of RX10 [some (rv 0 0), none, none, none] 3 (by decide +kernel) rfl rfl rfl ?_
  intro pp ee ss mm aa bb me cd ad E
  have hn64 := (PIv_z hx).1
  have hb4 := hx.2.2.2.2.1
  
  refine r_iconst (v := 0) E (dat dkX10_spelledBoots 0 rfl) rfl ?_
  refine r_istore_1 E (dat dkX10_spelledBoots 1 rfl) rfl rfl ?_
  refine r_for (x.2.2.2.2.1) (fun i => nmS (fun i => sB sp (x.2.2.2.2.2.2.2.2 i) (x.2.2.2.2.2.1 i = nI L) L) (x.2.2.2.2.1 - i) i = nmS (fun i => sB sp (x.2.2.2.2.2.2.2.2 i) (x.2.2.2.2.2.1 i = nI L) L) x.2.2.2.2.1 0) (fun i => M) (fun i => [some (rv 0 0), some (iv (nI i)), none, none]) rfl rfl rfl ?_ ?_
  · intro i hi hI kk
    refine r_iload_n E (dat dkX10_spelledBoots 2 rfl) rfl rfl ?_
    refine r_aload_n E (dat dkX10_spelledBoots 3 rfl) rfl rfl ?_
    refine q_geta E fl_X10_9 (dat dkX10_spelledBoots 4 rfl) rfl rfl rfl ?_
    refine r_iconst (v := 4) E (dat dkX10_spelledBoots 5 rfl) rfl ?_
    refine q_iald E (dat dkX10_spelledBoots 6 rfl) rfl rfl (by decide) (show (_ : Nat → Int32) = _ from hA) (show _ = nI 4 from rfl) (by omega) ?_
    refine q_icmp_ge (tgt := 94) E (dat dkX10_spelledBoots 7 rfl) rfl rfl rfl (by omega) (by omega) (fun h9 => ?_) (fun h9 => ?_)
    ·
      omega
    ·
      refine r_aload_n E (dat dkX10_spelledBoots 8 rfl) rfl rfl ?_
      refine q_geta E fl_X10_9 (dat dkX10_spelledBoots 9 rfl) rfl rfl rfl ?_
      refine r_iload_n E (dat dkX10_spelledBoots 10 rfl) rfl rfl ?_
      refine r_callS (μ := []) E (sp_X10_p l G i _) my_X10_p is_X10_p ml_X10_73 cm_nil rfl rfl (by decide) (Nat.le_of_ble_eq_true rfl) (dat dkX10_spelledBoots 11 rfl) ?_
      rintro _ _ ⟨rfl, hM⟩
      refine ⟨_, Mrg_z hM, ?_⟩
      clear hM
      refine q_iald E (dat dkX10_spelledBoots 12 rfl) rfl rfl (by decide) (show (_ : Nat → Int32) = _ from hA) (show _ = nI (399 + 11 * i + 0) from rfl) (by omega) ?_
      rw [e_nl hi]
      refine r_aload_n E (dat dkX10_spelledBoots 13 rfl) rfl rfl ?_
      refine q_getn E fl_X10_54 (dat dkX10_spelledBoots 14 rfl) rfl rfl rfl (show (_ : Int32) = _ from h8) ?_
      by_cases hnl : x.2.2.2.2.2.1 i = nI L
      ·
        refine r_icmp_ne (tgt := 32) E (dat dkX10_spelledBoots 15 rfl) rfl (fun h25 => ?_) (fun h25 => ?_)
        ·
          exact absurd hnl h25
        ·
          refine r_iconst (v := 1) E (dat dkX10_spelledBoots 16 rfl) rfl ?_
          refine r_goto (tgt := 33) E (dat dkX10_spelledBoots 17 rfl) rfl ?_
          
          refine r_istore_2 E (dat dkX10_spelledBoots 19 rfl) rfl rfl ?_
          refine r_iconst (v := 0) E (dat dkX10_spelledBoots 20 rfl) rfl ?_
          refine r_istore_3 E (dat dkX10_spelledBoots 21 rfl) rfl rfl ?_
          refine r_for (L) (fun _ => True) (fun k => M) (fun k => [some (rv 0 0), some (iv (nI i)), some (iv (sB sp (x.2.2.2.2.2.2.2.2 i) (x.2.2.2.2.2.1 i = nI L) k)), some (iv (nI k))]) trivial rfl (by rw [sB_i]; first | (rw [if_pos hnl]; rfl) | (rw [if_neg hnl]; rfl)) ?_ ?_
          · intro k hk hI9 kk9
            refine r_iload_n E (dat dkX10_spelledBoots 22 rfl) rfl rfl ?_
            refine r_aload_n E (dat dkX10_spelledBoots 23 rfl) rfl rfl ?_
            refine q_getn E fl_X10_54 (dat dkX10_spelledBoots 24 rfl) rfl rfl rfl (show (_ : Int32) = _ from h8) ?_
            refine q_icmp_ge (tgt := 82) E (dat dkX10_spelledBoots 25 rfl) rfl rfl rfl (by omega) (by omega) (fun h41 => ?_) (fun h41 => ?_)
            ·
              omega
            ·
              refine r_iload_n E (dat dkX10_spelledBoots 26 rfl) rfl rfl ?_
              refine r_if_eq (tgt := 82) E (dat dkX10_spelledBoots 27 rfl) rfl (fun h45 => ?_) (fun h45 => ?_)
              ·
                refine r_iload_n E (dat dkX10_spelledBoots 48 rfl) rfl rfl ?_
                refine r_if_eq (tgt := 88) E (dat dkX10_spelledBoots 49 rfl) rfl (fun h83 => ?_) (fun h83 => ?_)
                ·
                  refine q_iinc_1 E (dat dkX10_spelledBoots 52 rfl) rfl rfl ?_
                  refine r_goto (tgt := 2) E (dat dkX10_spelledBoots 53 rfl) rfl ?_
                  have hg0 : sB sp (x.2.2.2.2.2.2.2.2 i) (x.2.2.2.2.2.1 i = nI L) L = 0 := by
                    first
                      | exact sB_0 h45 (by omega)
                      | exact h83
                      | exact Decidable.not_not.mp h83
                  refine r_back rfl ?_ (kk ((nmS_go hi hg0).trans hI))
                  exact (And.intro rfl (And.intro rfl trivial))
                ·
                  refine r_iload_n E (dat dkX10_spelledBoots 50 rfl) rfl rfl ?_
                  refine r_ireturn E (dat dkX10_spelledBoots 51 rfl) (by decide) (by decide) ?_
                  refine ⟨?_, rfl⟩
                  rw [← hI]
                  first
                    | exact absurd h45 h83
                    | rw [nmS_hit (g := (fun i => sB sp (x.2.2.2.2.2.2.2.2 i) (x.2.2.2.2.2.1 i = nI L) L)) hi (show ¬ sB sp (x.2.2.2.2.2.2.2.2 i) (x.2.2.2.2.2.1 i = nI L) L = 0 from h83)]
              ·
                refine r_aload_n E (dat dkX10_spelledBoots 28 rfl) rfl rfl ?_
                refine q_geta E fl_X10_9 (dat dkX10_spelledBoots 29 rfl) rfl rfl rfl ?_
                refine r_iload_n E (dat dkX10_spelledBoots 30 rfl) rfl rfl ?_
                refine r_callS (μ := []) E (sp_X10_p l G i _) my_X10_p is_X10_p ml_X10_73 cm_nil rfl rfl (by decide) (Nat.le_of_ble_eq_true rfl) (dat dkX10_spelledBoots 31 rfl) ?_
                rintro _ _ ⟨rfl, hM⟩
                refine ⟨_, Mrg_z hM, ?_⟩
                clear hM
                refine r_iconst (v := 1) E (dat dkX10_spelledBoots 32 rfl) rfl ?_
                refine r_iadd E (dat dkX10_spelledBoots 33 rfl) ?_
                refine r_iload_n E (dat dkX10_spelledBoots 34 rfl) rfl rfl ?_
                refine r_iadd E (dat dkX10_spelledBoots 35 rfl) ?_
                refine q_iald E (dat dkX10_spelledBoots 36 rfl) rfl rfl (by decide) (show (_ : Nat → Int32) = _ from hA) (show _ = nI (399 + 11 * i + (k + 1)) by rw [show (nI (399 + 11 * i) + 1 : Int32) = nI (399 + 11 * i + 1) from nI_1 _, nI_add, Nat.add_assoc, Nat.add_comm 1 k]) (by omega) ?_
                have hbk := sB_s h45
                have hbl : k < (x.2.2.2.2.2.1 i).toNatClampNeg := by rw [hbk.1, nI_clamp (by omega)]; exact hk
                rw [e_nm hi hbl (by omega)]
                refine r_aload_n E (dat dkX10_spelledBoots 37 rfl) rfl rfl ?_
                refine q_geta E fl_X10_22 (dat dkX10_spelledBoots 38 rfl) rfl rfl rfl ?_
                refine r_iload_n E (dat dkX10_spelledBoots 39 rfl) rfl rfl ?_
                refine q_iald E (dat dkX10_spelledBoots 40 rfl) rfl rfl (by decide) (show (_ : Nat → Int32) = _ from hsp) rfl (by omega) ?_
                refine r_icmp_ne (tgt := 74) E (dat dkX10_spelledBoots 41 rfl) rfl (fun h67 => ?_) (fun h67 => ?_)
                ·
                  refine r_iconst (v := 0) E (dat dkX10_spelledBoots 44 rfl) rfl ?_
                  refine r_istore_2 E (dat dkX10_spelledBoots 45 rfl) rfl rfl ?_
                  refine q_iinc_3 E (dat dkX10_spelledBoots 46 rfl) rfl rfl ?_
                  refine r_goto (tgt := 36) E (dat dkX10_spelledBoots 47 rfl) rfl ?_
                  first
                    | (rw [sB_1 h45 (by first | exact h67 | exact Decidable.not_not.mp h67)] at kk9; exact kk9 trivial)
                    | (rw [sB_n (L := k + 1) h67 (Nat.lt_succ_self k)] at kk9; exact kk9 trivial)
                ·
                  refine r_iconst (v := 1) E (dat dkX10_spelledBoots 42 rfl) rfl ?_
                  refine r_goto (tgt := 75) E (dat dkX10_spelledBoots 43 rfl) rfl ?_
                  refine r_istore_2 E (dat dkX10_spelledBoots 45 rfl) rfl rfl ?_
                  refine q_iinc_3 E (dat dkX10_spelledBoots 46 rfl) rfl rfl ?_
                  refine r_goto (tgt := 36) E (dat dkX10_spelledBoots 47 rfl) rfl ?_
                  first
                    | (rw [sB_1 h45 (by first | exact h67 | exact Decidable.not_not.mp h67)] at kk9; exact kk9 trivial)
                    | (rw [sB_n (L := k + 1) h67 (Nat.lt_succ_self k)] at kk9; exact kk9 trivial)
          · intro hI9
            refine r_iload_n E (dat dkX10_spelledBoots 22 rfl) rfl rfl ?_
            refine r_aload_n E (dat dkX10_spelledBoots 23 rfl) rfl rfl ?_
            refine q_getn E fl_X10_54 (dat dkX10_spelledBoots 24 rfl) rfl rfl rfl (show (_ : Int32) = _ from h8) ?_
            refine q_icmp_ge (tgt := 82) E (dat dkX10_spelledBoots 25 rfl) rfl rfl rfl (by omega) (by omega) (fun h41 => ?_) (fun h41 => ?_)
            ·
              refine r_iload_n E (dat dkX10_spelledBoots 48 rfl) rfl rfl ?_
              refine r_if_eq (tgt := 88) E (dat dkX10_spelledBoots 49 rfl) rfl (fun h83 => ?_) (fun h83 => ?_)
              ·
                refine q_iinc_1 E (dat dkX10_spelledBoots 52 rfl) rfl rfl ?_
                refine r_goto (tgt := 2) E (dat dkX10_spelledBoots 53 rfl) rfl ?_
                have hg0 : sB sp (x.2.2.2.2.2.2.2.2 i) (x.2.2.2.2.2.1 i = nI L) L = 0 := by
                  first
                    | exact sB_0 h45 (by omega)
                    | exact h83
                    | exact Decidable.not_not.mp h83
                refine r_back rfl ?_ (kk ((nmS_go hi hg0).trans hI))
                exact (And.intro rfl (And.intro rfl trivial))
              ·
                refine r_iload_n E (dat dkX10_spelledBoots 50 rfl) rfl rfl ?_
                refine r_ireturn E (dat dkX10_spelledBoots 51 rfl) (by decide) (by decide) ?_
                refine ⟨?_, rfl⟩
                rw [← hI]
                first
                  | exact absurd h45 h83
                  | rw [nmS_hit (g := (fun i => sB sp (x.2.2.2.2.2.2.2.2 i) (x.2.2.2.2.2.1 i = nI L) L)) hi (show ¬ sB sp (x.2.2.2.2.2.2.2.2 i) (x.2.2.2.2.2.1 i = nI L) L = 0 from h83)]
            ·
              omega
      ·
        refine r_icmp_ne (tgt := 32) E (dat dkX10_spelledBoots 15 rfl) rfl (fun h25 => ?_) (fun h25 => ?_)
        ·
          refine r_iconst (v := 0) E (dat dkX10_spelledBoots 18 rfl) rfl ?_
          
          refine r_istore_2 E (dat dkX10_spelledBoots 19 rfl) rfl rfl ?_
          refine r_iconst (v := 0) E (dat dkX10_spelledBoots 20 rfl) rfl ?_
          refine r_istore_3 E (dat dkX10_spelledBoots 21 rfl) rfl rfl ?_
          refine r_for (L) (fun _ => True) (fun k => M) (fun k => [some (rv 0 0), some (iv (nI i)), some (iv (sB sp (x.2.2.2.2.2.2.2.2 i) (x.2.2.2.2.2.1 i = nI L) k)), some (iv (nI k))]) trivial rfl (by rw [sB_i]; first | (rw [if_pos hnl]; rfl) | (rw [if_neg hnl]; rfl)) ?_ ?_
          · intro k hk hI9 kk9
            refine r_iload_n E (dat dkX10_spelledBoots 22 rfl) rfl rfl ?_
            refine r_aload_n E (dat dkX10_spelledBoots 23 rfl) rfl rfl ?_
            refine q_getn E fl_X10_54 (dat dkX10_spelledBoots 24 rfl) rfl rfl rfl (show (_ : Int32) = _ from h8) ?_
            refine q_icmp_ge (tgt := 82) E (dat dkX10_spelledBoots 25 rfl) rfl rfl rfl (by omega) (by omega) (fun h41 => ?_) (fun h41 => ?_)
            ·
              omega
            ·
              refine r_iload_n E (dat dkX10_spelledBoots 26 rfl) rfl rfl ?_
              refine r_if_eq (tgt := 82) E (dat dkX10_spelledBoots 27 rfl) rfl (fun h45 => ?_) (fun h45 => ?_)
              ·
                refine r_iload_n E (dat dkX10_spelledBoots 48 rfl) rfl rfl ?_
                refine r_if_eq (tgt := 88) E (dat dkX10_spelledBoots 49 rfl) rfl (fun h83 => ?_) (fun h83 => ?_)
                ·
                  refine q_iinc_1 E (dat dkX10_spelledBoots 52 rfl) rfl rfl ?_
                  refine r_goto (tgt := 2) E (dat dkX10_spelledBoots 53 rfl) rfl ?_
                  have hg0 : sB sp (x.2.2.2.2.2.2.2.2 i) (x.2.2.2.2.2.1 i = nI L) L = 0 := by
                    first
                      | exact sB_0 h45 (by omega)
                      | exact h83
                      | exact Decidable.not_not.mp h83
                  refine r_back rfl ?_ (kk ((nmS_go hi hg0).trans hI))
                  exact (And.intro rfl (And.intro rfl trivial))
                ·
                  refine r_iload_n E (dat dkX10_spelledBoots 50 rfl) rfl rfl ?_
                  refine r_ireturn E (dat dkX10_spelledBoots 51 rfl) (by decide) (by decide) ?_
                  refine ⟨?_, rfl⟩
                  rw [← hI]
                  first
                    | exact absurd h45 h83
                    | rw [nmS_hit (g := (fun i => sB sp (x.2.2.2.2.2.2.2.2 i) (x.2.2.2.2.2.1 i = nI L) L)) hi (show ¬ sB sp (x.2.2.2.2.2.2.2.2 i) (x.2.2.2.2.2.1 i = nI L) L = 0 from h83)]
              ·
                refine r_aload_n E (dat dkX10_spelledBoots 28 rfl) rfl rfl ?_
                refine q_geta E fl_X10_9 (dat dkX10_spelledBoots 29 rfl) rfl rfl rfl ?_
                refine r_iload_n E (dat dkX10_spelledBoots 30 rfl) rfl rfl ?_
                refine r_callS (μ := []) E (sp_X10_p l G i _) my_X10_p is_X10_p ml_X10_73 cm_nil rfl rfl (by decide) (Nat.le_of_ble_eq_true rfl) (dat dkX10_spelledBoots 31 rfl) ?_
                rintro _ _ ⟨rfl, hM⟩
                refine ⟨_, Mrg_z hM, ?_⟩
                clear hM
                refine r_iconst (v := 1) E (dat dkX10_spelledBoots 32 rfl) rfl ?_
                refine r_iadd E (dat dkX10_spelledBoots 33 rfl) ?_
                refine r_iload_n E (dat dkX10_spelledBoots 34 rfl) rfl rfl ?_
                refine r_iadd E (dat dkX10_spelledBoots 35 rfl) ?_
                refine q_iald E (dat dkX10_spelledBoots 36 rfl) rfl rfl (by decide) (show (_ : Nat → Int32) = _ from hA) (show _ = nI (399 + 11 * i + (k + 1)) by rw [show (nI (399 + 11 * i) + 1 : Int32) = nI (399 + 11 * i + 1) from nI_1 _, nI_add, Nat.add_assoc, Nat.add_comm 1 k]) (by omega) ?_
                have hbk := sB_s h45
                have hbl : k < (x.2.2.2.2.2.1 i).toNatClampNeg := by rw [hbk.1, nI_clamp (by omega)]; exact hk
                rw [e_nm hi hbl (by omega)]
                refine r_aload_n E (dat dkX10_spelledBoots 37 rfl) rfl rfl ?_
                refine q_geta E fl_X10_22 (dat dkX10_spelledBoots 38 rfl) rfl rfl rfl ?_
                refine r_iload_n E (dat dkX10_spelledBoots 39 rfl) rfl rfl ?_
                refine q_iald E (dat dkX10_spelledBoots 40 rfl) rfl rfl (by decide) (show (_ : Nat → Int32) = _ from hsp) rfl (by omega) ?_
                refine r_icmp_ne (tgt := 74) E (dat dkX10_spelledBoots 41 rfl) rfl (fun h67 => ?_) (fun h67 => ?_)
                ·
                  refine r_iconst (v := 0) E (dat dkX10_spelledBoots 44 rfl) rfl ?_
                  refine r_istore_2 E (dat dkX10_spelledBoots 45 rfl) rfl rfl ?_
                  refine q_iinc_3 E (dat dkX10_spelledBoots 46 rfl) rfl rfl ?_
                  refine r_goto (tgt := 36) E (dat dkX10_spelledBoots 47 rfl) rfl ?_
                  first
                    | (rw [sB_1 h45 (by first | exact h67 | exact Decidable.not_not.mp h67)] at kk9; exact kk9 trivial)
                    | (rw [sB_n (L := k + 1) h67 (Nat.lt_succ_self k)] at kk9; exact kk9 trivial)
                ·
                  refine r_iconst (v := 1) E (dat dkX10_spelledBoots 42 rfl) rfl ?_
                  refine r_goto (tgt := 75) E (dat dkX10_spelledBoots 43 rfl) rfl ?_
                  refine r_istore_2 E (dat dkX10_spelledBoots 45 rfl) rfl rfl ?_
                  refine q_iinc_3 E (dat dkX10_spelledBoots 46 rfl) rfl rfl ?_
                  refine r_goto (tgt := 36) E (dat dkX10_spelledBoots 47 rfl) rfl ?_
                  first
                    | (rw [sB_1 h45 (by first | exact h67 | exact Decidable.not_not.mp h67)] at kk9; exact kk9 trivial)
                    | (rw [sB_n (L := k + 1) h67 (Nat.lt_succ_self k)] at kk9; exact kk9 trivial)
          · intro hI9
            refine r_iload_n E (dat dkX10_spelledBoots 22 rfl) rfl rfl ?_
            refine r_aload_n E (dat dkX10_spelledBoots 23 rfl) rfl rfl ?_
            refine q_getn E fl_X10_54 (dat dkX10_spelledBoots 24 rfl) rfl rfl rfl (show (_ : Int32) = _ from h8) ?_
            refine q_icmp_ge (tgt := 82) E (dat dkX10_spelledBoots 25 rfl) rfl rfl rfl (by omega) (by omega) (fun h41 => ?_) (fun h41 => ?_)
            ·
              refine r_iload_n E (dat dkX10_spelledBoots 48 rfl) rfl rfl ?_
              refine r_if_eq (tgt := 88) E (dat dkX10_spelledBoots 49 rfl) rfl (fun h83 => ?_) (fun h83 => ?_)
              ·
                refine q_iinc_1 E (dat dkX10_spelledBoots 52 rfl) rfl rfl ?_
                refine r_goto (tgt := 2) E (dat dkX10_spelledBoots 53 rfl) rfl ?_
                have hg0 : sB sp (x.2.2.2.2.2.2.2.2 i) (x.2.2.2.2.2.1 i = nI L) L = 0 := by
                  first
                    | exact sB_0 h45 (by omega)
                    | exact h83
                    | exact Decidable.not_not.mp h83
                refine r_back rfl ?_ (kk ((nmS_go hi hg0).trans hI))
                exact (And.intro rfl (And.intro rfl trivial))
              ·
                refine r_iload_n E (dat dkX10_spelledBoots 50 rfl) rfl rfl ?_
                refine r_ireturn E (dat dkX10_spelledBoots 51 rfl) (by decide) (by decide) ?_
                refine ⟨?_, rfl⟩
                rw [← hI]
                first
                  | exact absurd h45 h83
                  | rw [nmS_hit (g := (fun i => sB sp (x.2.2.2.2.2.2.2.2 i) (x.2.2.2.2.2.1 i = nI L) L)) hi (show ¬ sB sp (x.2.2.2.2.2.2.2.2 i) (x.2.2.2.2.2.1 i = nI L) L = 0 from h83)]
            ·
              omega
        ·
          exact absurd (by first | exact h25 | exact Decidable.not_not.mp h25) hnl
  · intro hI
    refine r_iload_n E (dat dkX10_spelledBoots 2 rfl) rfl rfl ?_
    refine r_aload_n E (dat dkX10_spelledBoots 3 rfl) rfl rfl ?_
    refine q_geta E fl_X10_9 (dat dkX10_spelledBoots 4 rfl) rfl rfl rfl ?_
    refine r_iconst (v := 4) E (dat dkX10_spelledBoots 5 rfl) rfl ?_
    refine q_iald E (dat dkX10_spelledBoots 6 rfl) rfl rfl (by decide) (show (_ : Nat → Int32) = _ from hA) (show _ = nI 4 from rfl) (by omega) ?_
    refine q_icmp_ge (tgt := 94) E (dat dkX10_spelledBoots 7 rfl) rfl rfl rfl (by omega) (by omega) (fun h9 => ?_) (fun h9 => ?_)
    ·
      refine r_iconst (v := -1) E (dat dkX10_spelledBoots 54 rfl) rfl ?_
      refine r_ireturn E (dat dkX10_spelledBoots 55 rfl) (by decide) (by decide) ?_
      refine ⟨?_, rfl⟩
      rw [← hI, nmS_no]
    ·
      omega

/-- letters laid from place p on -/
def lwF (A : Nat → Int32) (p : Nat) (sp : Nat → Int32) : Nat → Nat → Int32
  | 0 => A
  | j + 1 => upd (lwF A p sp j) (p + j) (sp j)
theorem lwF_a {A sp : Nat → Int32} {p q : Nat} : ∀ {j : Nat}, (q < p ∨ p + j ≤ q) → lwF A p sp j q = A q
  | 0, _ => rfl
  | j + 1, h => (upd_ne (by omega)).trans (lwF_a (by omega))
theorem lwF_i {A sp : Nat → Int32} {p i : Nat} : ∀ {j : Nat}, i < j → lwF A p sp j (p + i) = sp i
  | 0, h => absurd h (Nat.not_lt_zero i)
  | j + 1, h => by
    show upd (lwF A p sp j) (p + j) (sp j) (p + i) = sp i
    by_cases he : i = j
    · subst he; exact upd_at
    · rw [upd_ne (by omega)]
      exact lwF_i (by omega)
def abF (A : Nat → Int32) (k L : Nat) (sp : Nat → Int32) (a v : Int32) : Nat → Int32 := upd (upd (upd (lwF (upd A (399 + 11 * k) (nI L)) (399 + 11 * k + 1) sp L) (399 + 11 * k + 7) a) (399 + 11 * k + 8) v) 4 (nI (k + 1))
set_option maxRecDepth 100000 in
set_option maxHeartbeats 8000000 in
theorem sp_X10_addBoots (l : Launch) (G : GT) (k L : Nat) (sp : Nat → Int32) (a v : Int32) (M : Mem) (A : Nat → Int32) (hA : M 0 1 = A) (hA4 : A 4 = nI k) (hk4 : k < 4) (h8 : M 0 0 8 = nI L) (hL : L ≤ 6) (hsp : M 0 8 = sp) : MC l G yX10_addBoots cX10_addBoots 5 none ({ frames := 1, cells := 0, slots := 0, locals := 20 } : Room) [9] lk0 [rv 0 0, iv a, iv v] (M) (fun r M2 => r = none ∧ M2 = md M (abF A k L sp a v)) := by
  refine MC.of RX10 [some (rv 0 0), some (iv a), some (iv v), none, none] 2 (by decide +kernel) rfl rfl rfl ?_
  intro pp ee ss mm aa bb me cd ad E
  obtain ⟨M0, rfl⟩ : ∃ M0, M = md M0 A := ⟨M, (md_of hA).symm⟩
  clear hA
  
  refine r_aload_n E (dat dkX10_addBoots 0 rfl) rfl rfl ?_
  refine q_geta E fl_X10_9 (dat dkX10_addBoots 1 rfl) rfl rfl rfl ?_
  refine r_iconst (v := 4) E (dat dkX10_addBoots 2 rfl) rfl ?_
  
  refine q_iald E (dat dkX10_addBoots 3 rfl) rfl rfl (by decide) md_a (show _ = nI 4 from rfl) (by omega) ?_
  rw [hA4]
  refine r_callS (μ := []) E (sp_X10_p l G k _) my_X10_p is_X10_p ml_X10_73 cm_nil rfl rfl (by decide) (Nat.le_of_ble_eq_true rfl) (dat dkX10_addBoots 4 rfl) ?_
  rintro _ _ ⟨rfl, hM⟩
  refine ⟨_, Mrg_z hM, ?_⟩
  clear hM
  refine r_istore_3 E (dat dkX10_addBoots 5 rfl) rfl rfl ?_
  refine r_aload_n E (dat dkX10_addBoots 6 rfl) rfl rfl ?_
  refine q_geta E fl_X10_9 (dat dkX10_addBoots 7 rfl) rfl rfl rfl ?_
  refine r_iload_n E (dat dkX10_addBoots 8 rfl) rfl rfl ?_
  refine r_aload_n E (dat dkX10_addBoots 9 rfl) rfl rfl ?_
  refine q_getn E fl_X10_54 (dat dkX10_addBoots 10 rfl) rfl rfl rfl (show (_ : Int32) = nI L from h8) ?_
  refine q_iast E (dat dkX10_addBoots 11 rfl) rfl rfl (by decide) md_a (fun _ => md_s) rfl (by omega) ?_
  refine r_iconst (v := 0) E (dat dkX10_addBoots 12 rfl) rfl ?_
  refine r_istore_4 E (dat dkX10_addBoots 13 rfl) rfl rfl ?_
  refine r_for (L) (fun _ => True) (fun j => md M0 (lwF (upd A (399 + 11 * k) (nI L)) (399 + 11 * k + 1) sp j)) (fun j => [some (rv 0 0), some (iv a), some (iv v), some (iv (nI (399 + 11 * k))), some (iv (nI j))]) trivial rfl rfl ?_ ?_
  · intro j hj hI kk
    refine r_iload E (dat dkX10_addBoots 14 rfl) rfl ?_
    refine r_aload_n E (dat dkX10_addBoots 15 rfl) rfl rfl ?_
    refine q_getn E fl_X10_54 (dat dkX10_addBoots 16 rfl) rfl rfl rfl (show (_ : Int32) = nI L from h8) ?_
    refine q_icmp_ge (tgt := 56) E (dat dkX10_addBoots 17 rfl) rfl rfl rfl (by omega) (by omega) (fun h29 => ?_) (fun h29 => ?_)
    ·
      omega
    ·
      refine r_aload_n E (dat dkX10_addBoots 18 rfl) rfl rfl ?_
      refine q_geta E fl_X10_9 (dat dkX10_addBoots 19 rfl) rfl rfl rfl ?_
      refine r_iload_n E (dat dkX10_addBoots 20 rfl) rfl rfl ?_
      refine r_iconst (v := 1) E (dat dkX10_addBoots 21 rfl) rfl ?_
      refine r_iadd E (dat dkX10_addBoots 22 rfl) ?_
      refine r_iload E (dat dkX10_addBoots 23 rfl) rfl ?_
      refine r_iadd E (dat dkX10_addBoots 24 rfl) ?_
      refine r_aload_n E (dat dkX10_addBoots 25 rfl) rfl rfl ?_
      refine q_geta E fl_X10_22 (dat dkX10_addBoots 26 rfl) rfl rfl rfl ?_
      refine r_iload E (dat dkX10_addBoots 27 rfl) rfl ?_
      refine q_iald E (dat dkX10_addBoots 28 rfl) rfl rfl (by decide) (show (_ : Nat → Int32) = sp from hsp) rfl (by omega) ?_
      refine q_iast E (dat dkX10_addBoots 29 rfl) rfl rfl (by decide) md_a (fun _ => md_s) (show (nI (399 + 11 * k)) + 1 + nI j = nI (399 + 11 * k + 1 + j) by rw [show ((nI (399 + 11 * k)) + 1 : Int32) = nI (399 + 11 * k + 1) from nI_1 _, nI_add]) (by omega) ?_
      refine q_iinc_4 E (dat dkX10_addBoots 30 rfl) rfl rfl ?_
      refine r_goto (tgt := 23) E (dat dkX10_addBoots 31 rfl) rfl ?_
      exact kk trivial
  · intro hI
    refine r_iload E (dat dkX10_addBoots 14 rfl) rfl ?_
    refine r_aload_n E (dat dkX10_addBoots 15 rfl) rfl rfl ?_
    refine q_getn E fl_X10_54 (dat dkX10_addBoots 16 rfl) rfl rfl rfl (show (_ : Int32) = nI L from h8) ?_
    refine q_icmp_ge (tgt := 56) E (dat dkX10_addBoots 17 rfl) rfl rfl rfl (by omega) (by omega) (fun h29 => ?_) (fun h29 => ?_)
    ·
      refine r_aload_n E (dat dkX10_addBoots 32 rfl) rfl rfl ?_
      refine q_geta E fl_X10_9 (dat dkX10_addBoots 33 rfl) rfl rfl rfl ?_
      refine r_iload_n E (dat dkX10_addBoots 34 rfl) rfl rfl ?_
      refine r_bipush (v := 7) E (dat dkX10_addBoots 35 rfl) rfl ?_
      refine r_iadd E (dat dkX10_addBoots 36 rfl) ?_
      refine r_iload_n E (dat dkX10_addBoots 37 rfl) rfl rfl ?_
      refine q_iast E (dat dkX10_addBoots 38 rfl) rfl rfl (by decide) md_a (fun _ => md_s) (nI_add (399 + 11 * k) 7) (by omega) ?_
      refine r_aload_n E (dat dkX10_addBoots 39 rfl) rfl rfl ?_
      refine q_geta E fl_X10_9 (dat dkX10_addBoots 40 rfl) rfl rfl rfl ?_
      refine r_iload_n E (dat dkX10_addBoots 41 rfl) rfl rfl ?_
      refine r_bipush (v := 8) E (dat dkX10_addBoots 42 rfl) rfl ?_
      refine r_iadd E (dat dkX10_addBoots 43 rfl) ?_
      refine r_iload_n E (dat dkX10_addBoots 44 rfl) rfl rfl ?_
      refine q_iast E (dat dkX10_addBoots 45 rfl) rfl rfl (by decide) md_a (fun _ => md_s) (nI_add (399 + 11 * k) 8) (by omega) ?_
      refine r_aload_n E (dat dkX10_addBoots 46 rfl) rfl rfl ?_
      refine q_geta E fl_X10_9 (dat dkX10_addBoots 47 rfl) rfl rfl rfl ?_
      refine r_iconst (v := 4) E (dat dkX10_addBoots 48 rfl) rfl ?_
      refine r_dup2 E (dat dkX10_addBoots 49 rfl) rfl rfl ?_
      refine q_iald E (dat dkX10_addBoots 50 rfl) rfl rfl (by decide) md_a (show _ = nI 4 from rfl) (by omega) ?_
      rw [show upd (upd (lwF (upd A (399 + 11 * k) (nI L)) (399 + 11 * k + 1) sp L) (399 + 11 * k + 7) a) (399 + 11 * k + 8) v 4 = nI k from by rw [upd_ne (by omega), upd_ne (by omega), lwF_a (Or.inl (by omega)), upd_ne (by omega)]; exact hA4]
      refine r_iconst (v := 1) E (dat dkX10_addBoots 51 rfl) rfl ?_
      refine r_iadd E (dat dkX10_addBoots 52 rfl) ?_
      rw [show nI k + 1 = nI (k + 1) from nI_1 k]
      refine q_iast E (dat dkX10_addBoots 53 rfl) rfl rfl (by decide) md_a (fun _ => md_s) (show _ = nI 4 from rfl) (by omega) ?_
      refine r_vreturn E (dat dkX10_addBoots 54 rfl) (by decide) (by decide) ?_
      exact ⟨rfl, by rw [md_md]; rfl⟩
    ·
      omega

set_option maxRecDepth 100000 in
set_option maxHeartbeats 4000000 in
theorem sp_X10_clear (l : Launch) (G : GT)  (M : Mem) (A : Nat → Int32) (hA : M 0 1 = A)  : MC l G yX10_clear cX10_clear 2 none ({ frames := 0, cells := 0, slots := 0, locals := 0 } : Room) [9] lk0 [rv 0 0] (M) (fun r M2 => r = none ∧ M2 = md M (fil (fun _ => 0) A 443)) := by
  refine MC.of RX10 [some (rv 0 0), none] 1 (by decide +kernel) rfl rfl rfl ?_
  intro pp ee ss mm aa bb me cd ad E
  obtain ⟨M0, rfl⟩ : ∃ M0, M = md M0 A := ⟨M, (md_of hA).symm⟩
  clear hA
  
  refine r_iconst (v := 0) E (dat dkX10_clear 0 rfl) rfl ?_
  refine r_istore_1 E (dat dkX10_clear 1 rfl) rfl rfl ?_
  refine r_for (443) (fun _ => True) (fun i => md M0 (fil (fun _ => 0) A i)) (fun i => [some (rv 0 0), some (iv (nI i))]) trivial (by rw [fil_0]) rfl ?_ ?_
  · intro i hi hI kk
    refine r_iload_n E (dat dkX10_clear 2 rfl) rfl rfl ?_
    refine r_sipush (v := 443) E (dat dkX10_clear 3 rfl) rfl ?_
    refine q_icmp_ge (tgt := 22) E (dat dkX10_clear 4 rfl) rfl rfl (b := 443) rfl (by omega) (by omega) (fun h6 => ?_) (fun h6 => ?_)
    ·
      omega
    ·
      refine r_aload_n E (dat dkX10_clear 5 rfl) rfl rfl ?_
      refine q_geta E fl_X10_9 (dat dkX10_clear 6 rfl) rfl rfl rfl ?_
      refine r_iload_n E (dat dkX10_clear 7 rfl) rfl rfl ?_
      refine r_iconst (v := 0) E (dat dkX10_clear 8 rfl) rfl ?_
      refine q_iast E (dat dkX10_clear 9 rfl) rfl rfl (by decide) md_a (fun _ => md_s) rfl (by omega) ?_
      refine q_iinc_1 E (dat dkX10_clear 10 rfl) rfl rfl ?_
      refine r_goto (tgt := 2) E (dat dkX10_clear 11 rfl) rfl ?_
      rw [← fil_upd (f := A) (g := fun _ => 0) (i := i) (v := 0) rfl] at kk
      exact kk trivial
  · intro hI
    refine r_iload_n E (dat dkX10_clear 2 rfl) rfl rfl ?_
    refine r_sipush (v := 443) E (dat dkX10_clear 3 rfl) rfl ?_
    refine q_icmp_ge (tgt := 22) E (dat dkX10_clear 4 rfl) rfl rfl (b := 443) rfl (by omega) (by omega) (fun h6 => ?_) (fun h6 => ?_)
    ·
      refine r_vreturn E (dat dkX10_clear 12 rfl) (by decide) (by decide) ?_
      exact ⟨rfl, by rw [md_md]⟩
    ·
      omega
