/-! undo, minutes until dry -/
set_option maxRecDepth 100000 in
set_option maxHeartbeats 8000000 in
theorem sp_X10_undo (l : Launch) (G : GT) (P A : Nat → Int32) (k : Nat) (M : Mem) (hP : M 0 4 = P) (hk : M 0 0 4 = nI k) (hA : M 0 1 = A) (hk8 : k ≤ 8) : MC l G yX10_undo cX10_undo 2 (some .int) ({ frames := 1, cells := 0, slots := 0, locals := 23 } : Room) [9] lk0 [rv 0 0] (M) (fun r M2 => (k = 0 ∧ M2 = mt M 1 ∧ r = some (iv 0)) ∨ (∃ j, k = j + 1 ∧ M2 = md (pcR (mt M 0) (nI j)) (fil (fun q => P (443 * j + q)) A 443) ∧ r = some (iv (nI j)))) := by
  refine MC.of RX10 [some (rv 0 0), none] 1 (by decide +kernel) rfl rfl rfl ?_
  intro pp ee ss mm aa bb me cd ad E
  rcases k with _ | k
  ·
    refine r_aload_n E (dat dkX10_undo 0 rfl) rfl rfl ?_
    refine r_aload_n E (dat dkX10_undo 1 rfl) rfl rfl ?_
    refine q_getn E fl_X10_70 (dat dkX10_undo 2 rfl) rfl rfl rfl rfl ?_
    refine r_if_le (tgt := 12) E (dat dkX10_undo 3 rfl) rfl (fun h5 => ?_) (fun h5 => ?_)
    ·
      refine r_iconst (v := 0) E (dat dkX10_undo 6 rfl) rfl ?_
      refine r_iconst (v := 1) E (dat dkX10_undo 7 rfl) rfl ?_
      refine r_iconst (v := 1) E (dat dkX10_undo 8 rfl) rfl ?_
      refine r_callV (κ := 9) (μ := []) E (sp_X10_check l G (0) (1) (1) _) my_X10_check iv_X10_check ml_X10_329 cm_id ⟨by decide, rfl, rfl⟩ rfl rfl rfl rfl (by decide) (Nat.le_of_ble_eq_true rfl) (dat dkX10_undo 9 rfl) ?_
      rintro _ _ ⟨rfl, rfl⟩
      refine ⟨_, Mrg_mt (by decide) rfl, ?_⟩
      rw [show ckI (0) (1) (1) = 1 from if_pos rfl, if_neg (by decide)]
      refine r_if_ne (tgt := 23) E (dat dkX10_undo 10 rfl) rfl (fun h18 => ?_) (fun h18 => ?_)
      ·
        exact absurd rfl h18
      ·
        refine r_iconst (v := 0) E (dat dkX10_undo 11 rfl) rfl ?_
        refine r_ireturn E (dat dkX10_undo 12 rfl) (by decide) (by decide) ?_
        exact Or.inl ⟨rfl, rfl, rfl⟩
    ·
      exact absurd (show M 0 0 4 ≤ 0 by rw [hk]; decide) (by first | exact h5 | exact Int32.not_le.mpr h5)
  ·
    refine r_aload_n E (dat dkX10_undo 0 rfl) rfl rfl ?_
    refine r_aload_n E (dat dkX10_undo 1 rfl) rfl rfl ?_
    refine q_getn E fl_X10_70 (dat dkX10_undo 2 rfl) rfl rfl rfl rfl ?_
    refine r_if_le (tgt := 12) E (dat dkX10_undo 3 rfl) rfl (fun h5 => ?_) (fun h5 => ?_)
    ·
      exact absurd h5 (by rw [show M 0 0 4 = nI (k + 1) from hk]; exact fun q => by have := (nI_leI (a := k + 1) (b := 0) (by omega) (by decide)).mp q; omega)
    ·
      refine r_iconst (v := 1) E (dat dkX10_undo 4 rfl) rfl ?_
      refine r_goto (tgt := 13) E (dat dkX10_undo 5 rfl) rfl ?_
      refine r_iconst (v := 1) E (dat dkX10_undo 7 rfl) rfl ?_
      refine r_iconst (v := 1) E (dat dkX10_undo 8 rfl) rfl ?_
      refine r_callV (κ := 9) (μ := []) E (sp_X10_check l G (1) (1) (1) _) my_X10_check iv_X10_check ml_X10_329 cm_id ⟨by decide, rfl, rfl⟩ rfl rfl rfl rfl (by decide) (Nat.le_of_ble_eq_true rfl) (dat dkX10_undo 9 rfl) ?_
      rintro _ _ ⟨rfl, rfl⟩
      refine ⟨_, Mrg_mt (by decide) rfl, ?_⟩
      rw [show ckI (1) (1) (1) = 0 from rfl, if_pos rfl]
      refine r_if_ne (tgt := 23) E (dat dkX10_undo 10 rfl) rfl (fun h18 => ?_) (fun h18 => ?_)
      ·
        refine r_aload_n E (dat dkX10_undo 13 rfl) rfl rfl ?_
        refine r_dup E (dat dkX10_undo 14 rfl) rfl ?_
        refine q_getn E fl_X10_70 (dat dkX10_undo 15 rfl) rfl rfl rfl rfl ?_
        refine r_iconst (v := 1) E (dat dkX10_undo 16 rfl) rfl ?_
        refine r_isub E (dat dkX10_undo 17 rfl) ?_
        rw [show (mt M 0 0 0 4 - 1 : Int32) = nI k from by (show M 0 0 4 - 1 = nI k); rw [hk]; exact (nI_sb (a := k + 1) (b := 1) (by omega)).trans (by rw [Nat.add_sub_cancel])]
        refine q_putn E ft_X10_70 (dat dkX10_undo 18 rfl) rfl rfl rfl rfl ?_
        refine r_iconst (v := 0) E (dat dkX10_undo 19 rfl) rfl ?_
        refine r_istore_1 E (dat dkX10_undo 20 rfl) rfl rfl ?_
        refine r_for (443) (fun _ => True) (fun i => md (pcR (mt M 0) (nI k)) (fil (fun q => P (443 * k + q)) A i)) (fun i => [some (rv 0 0), some (iv (nI i))]) trivial (by rw [fil_0]; exact md_of hA) rfl ?_ ?_
        · intro i hi hI kk
          refine r_iload_n E (dat dkX10_undo 21 rfl) rfl rfl ?_
          refine r_sipush (v := 443) E (dat dkX10_undo 22 rfl) rfl ?_
          refine q_icmp_ge (tgt := 69) E (dat dkX10_undo 23 rfl) rfl rfl (b := 443) rfl (by omega) (by omega) (fun h39 => ?_) (fun h39 => ?_)
          ·
            omega
          ·
            refine r_aload_n E (dat dkX10_undo 24 rfl) rfl rfl ?_
            refine q_geta E fl_X10_9 (dat dkX10_undo 25 rfl) rfl rfl rfl ?_
            refine r_iload_n E (dat dkX10_undo 26 rfl) rfl rfl ?_
            refine r_aload_n E (dat dkX10_undo 27 rfl) rfl rfl ?_
            refine q_geta E fl_X10_19 (dat dkX10_undo 28 rfl) rfl rfl rfl ?_
            refine r_sipush (v := 443) E (dat dkX10_undo 29 rfl) rfl ?_
            refine r_aload_n E (dat dkX10_undo 30 rfl) rfl rfl ?_
            refine q_getn E fl_X10_70 (dat dkX10_undo 31 rfl) rfl rfl rfl rfl ?_
            refine r_imul E (dat dkX10_undo 32 rfl) ?_
            refine r_iload_n E (dat dkX10_undo 33 rfl) rfl rfl ?_
            refine r_iadd E (dat dkX10_undo 34 rfl) ?_
            refine q_iald E (dat dkX10_undo 35 rfl) rfl rfl (by decide) (show md (pcR (mt M 0) _) _ 0 4 = P from hP) (show nI 443 * nI k + nI i = nI (443 * k + i) by rw [pk_mul, nI_add]) (by omega) ?_
            refine q_iast E (dat dkX10_undo 36 rfl) rfl rfl (by decide) md_a (fun _ => md_s) rfl (by omega) ?_
            refine q_iinc_1 E (dat dkX10_undo 37 rfl) rfl rfl ?_
            refine r_goto (tgt := 35) E (dat dkX10_undo 38 rfl) rfl ?_
            rw [← fil_upd (f := A) (g := fun q => P (443 * k + q)) (i := i) (v := P (443 * k + i)) rfl] at kk
            exact kk trivial
        · intro hI
          refine r_iload_n E (dat dkX10_undo 21 rfl) rfl rfl ?_
          refine r_sipush (v := 443) E (dat dkX10_undo 22 rfl) rfl ?_
          refine q_icmp_ge (tgt := 69) E (dat dkX10_undo 23 rfl) rfl rfl (b := 443) rfl (by omega) (by omega) (fun h39 => ?_) (fun h39 => ?_)
          ·
            refine r_aload_n E (dat dkX10_undo 39 rfl) rfl rfl ?_
            refine q_getn E fl_X10_70 (dat dkX10_undo 40 rfl) rfl rfl rfl rfl ?_
            refine r_ireturn E (dat dkX10_undo 41 rfl) (by decide) (by decide) ?_
            exact Or.inr ⟨k, rfl, rfl, rfl⟩
          ·
            omega
      ·
        exact absurd h18 (by decide)

set_option maxRecDepth 100000 in
set_option maxHeartbeats 8000000 in
theorem sp_X10_minutesUntilDry (l : Launch) (G : GT) (A0 : Nat → Int32) (x : PP) (T : Nat → Nat → Int32) (S : Nat → Int32) (a : Int32) (B : Int) (M : Mem) (hA : M 0 1 = enc A0 x T) (hx : PIv x) (hS : M 0 2 = S) (hpl : PLi x T) (hv : PVi x) (hs : SI x T B) (hB : B + 373056 < 2147483648) : MC l G yX10_minutesUntilDry cX10_minutesUntilDry 5 (some .int) ({ frames := 7, cells := 0, slots := 0, locals := 154 } : Room) [9] lk0 [rv 0 0, iv a] (M) (fun r M2 => (∃ c, c < x.1.2.2 ∧ a = nI c ∧ M2 = ar 2 (mt M 0) (fil (enc A0 x T) S 443) ∧ r = some (iv (mdF (fun i => mnX x T i 1 c) 201 0))) ∨ (¬ okc x a ∧ M2 = mt M 1 ∧ r = some (iv 0))) := by
  refine MC.of RX10 [some (rv 0 0), some (iv a), none, none, none] 3 (by decide +kernel) rfl rfl rfl ?_
  intro pp ee ss mm aa bb me cd ad E
  obtain ⟨M0, rfl⟩ : ∃ M0, M = md M0 (enc A0 x T) := ⟨M, (md_of hA).symm⟩
  clear hA
  have hn64 := (PIv_z hx).1
  
  by_cases hk : okc x a
  ·
    obtain ⟨c, hc, rfl⟩ := hk
    refine r_aload_n E (dat dkX10_minutesUntilDry 0 rfl) rfl rfl ?_
    refine r_iload_n E (dat dkX10_minutesUntilDry 1 rfl) rfl rfl ?_
    refine r_callV (κ := 9) (μ := []) E (sp_X10_checkCell l G A0 x T (nI c) _ md_a hx) my_X10_checkCell iv_X10_checkCell ml_X10_333 cm_id ⟨by decide, rfl, rfl⟩ rfl rfl rfl rfl (by decide) (Nat.le_of_ble_eq_true rfl) (dat dkX10_minutesUntilDry 2 rfl) ?_
    rintro _ _ ⟨rfl, rfl⟩
    refine ⟨_, Mrg_mt (by decide) rfl, ?_⟩
    rw [ic_1 hx ⟨c, hc, rfl⟩, show ckI 1 1 1 = 0 from rfl, if_pos rfl]
    refine r_if_ne (tgt := 10) E (dat dkX10_minutesUntilDry 3 rfl) rfl (fun h5 => ?_) (fun h5 => ?_)
    ·
      refine r_aload_n E (dat dkX10_minutesUntilDry 6 rfl) rfl rfl ?_
      refine r_aload_n E (dat dkX10_minutesUntilDry 7 rfl) rfl rfl ?_
      refine q_geta E fl_X10_13 (dat dkX10_minutesUntilDry 8 rfl) rfl rfl rfl ?_
      refine r_callV (κ := 9) (μ := []) E (sp_X10_copyTo2 l G (enc A0 x T) S _ rfl hS) my_X10_copyTo iv_X10_copyTo ml_X10_236 cm_id ⟨by decide, rfl, rfl⟩ rfl rfl rfl rfl (by decide) (Nat.le_of_ble_eq_true rfl) (dat dkX10_minutesUntilDry 9 rfl) ?_
      rintro _ _ ⟨rfl, rfl⟩
      refine ⟨_, Mrg_ar (by decide) rfl, ?_⟩
      refine r_iconst (v := -1) E (dat dkX10_minutesUntilDry 10 rfl) rfl ?_
      refine r_istore_2 E (dat dkX10_minutesUntilDry 11 rfl) rfl rfl ?_
      refine r_iconst (v := 0) E (dat dkX10_minutesUntilDry 12 rfl) rfl ?_
      refine r_istore_3 E (dat dkX10_minutesUntilDry 13 rfl) rfl rfl ?_
      refine r_for (201) (fun i => mdF (fun i => mnX x T i 1 c) 201 0 = mdF (fun i => mnX x T i 1 c) (201 - i) i) (fun i => md (ar 2 (mt (md M0 (enc A0 x T)) 0) (fil (enc A0 x T) S 443)) (enc A0 x (mnX x T i))) (fun i => [some (rv 0 0), some (iv (nI c)), some (iv (-1)), some (iv (nI i)), none]) rfl (md_of rfl) rfl ?_ ?_
      · intro i hi hI kk
        refine r_iload_n E (dat dkX10_minutesUntilDry 14 rfl) rfl rfl ?_
        refine r_sipush (v := 200) E (dat dkX10_minutesUntilDry 15 rfl) rfl ?_
        refine q_icmp_gt (tgt := 56) E (dat dkX10_minutesUntilDry 16 rfl) rfl rfl (b := 200) rfl (by omega) (by omega) (fun h26 => ?_) (fun h26 => ?_)
        ·
          omega
        ·
          refine r_iload_n E (dat dkX10_minutesUntilDry 17 rfl) rfl rfl ?_
          refine r_iconst (v := -1) E (dat dkX10_minutesUntilDry 18 rfl) rfl ?_
          refine r_icmp_ne (tgt := 56) E (dat dkX10_minutesUntilDry 19 rfl) rfl (fun h31 => ?_) (fun h31 => ?_)
          ·
            exact absurd rfl h31
          ·
            by_cases hd : mnX x T i 1 c = 0
            ·
              refine r_aload_n E (dat dkX10_minutesUntilDry 20 rfl) rfl rfl ?_
              refine r_iload_n E (dat dkX10_minutesUntilDry 21 rfl) rfl rfl ?_
              refine r_callV (κ := 9) (μ := []) E (sp_X10_isDry l G A0 x (mnX x T i) c _ rfl hx hc) my_X10_isDry iv_X10_isDry ml_X10_111 cm_id ⟨by decide, rfl, rfl⟩ rfl rfl rfl rfl (by decide) (Nat.le_of_ble_eq_true rfl) (dat dkX10_minutesUntilDry 22 rfl) ?_
              rintro _ _ ⟨rfl, rfl⟩
              refine ⟨_, Mrg_z rfl, ?_⟩
              refine r_if_eq (tgt := 44) E (dat dkX10_minutesUntilDry 23 rfl) rfl (fun h39 => ?_) (fun h39 => ?_)
              ·
                (rw [if_pos hd] at h39; exact absurd h39 (by decide))
              ·
                refine r_iload_n E (dat dkX10_minutesUntilDry 24 rfl) rfl rfl ?_
                refine r_istore_2 E (dat dkX10_minutesUntilDry 25 rfl) rfl rfl ?_
                refine r_aload_n E (dat dkX10_minutesUntilDry 26 rfl) rfl rfl ?_
                refine r_callV (κ := 9) (μ := []) E (sp_X10_letMinutePass l G A0 x (mnX x T i) _ rfl hx hv (by intro b hb; rw [show mnX x T i 5 = T 5 from mnN_5 i]; exact hpl b hb)) my_X10_letMinutePass iv_X10_letMinutePass ml_X10_138 cm_id ⟨by decide, rfl, rfl⟩ rfl rfl rfl rfl (by decide) (Nat.le_of_ble_eq_true rfl) (dat dkX10_minutesUntilDry 27 rfl) ?_
                rintro _ _ ⟨rfl, rfl⟩
                refine ⟨_, Mrg_md (by decide) rfl, ?_⟩
                have hmm := mm_n hx hv hs hpl i (by omega)
                rw [hmm.1, hmm.2]
                refine r_istore_4 E (dat dkX10_minutesUntilDry 28 rfl) rfl rfl ?_
                refine q_iinc_3 E (dat dkX10_minutesUntilDry 29 rfl) rfl rfl ?_
                refine r_goto (tgt := 22) E (dat dkX10_minutesUntilDry 30 rfl) rfl ?_
                refine r_iload_n E (dat dkX10_minutesUntilDry 14 rfl) rfl rfl ?_
                refine r_sipush (v := 200) E (dat dkX10_minutesUntilDry 15 rfl) rfl ?_
                refine q_icmp_gt (tgt := 56) E (dat dkX10_minutesUntilDry 16 rfl) rfl rfl (b := 200) rfl (by omega) (by omega) (fun h26 => ?_) (fun h26 => ?_)
                ·
                  refine r_aload_n E (dat dkX10_minutesUntilDry 31 rfl) rfl rfl ?_
                  refine r_aload_n E (dat dkX10_minutesUntilDry 32 rfl) rfl rfl ?_
                  refine q_geta E fl_X10_13 (dat dkX10_minutesUntilDry 33 rfl) rfl rfl rfl ?_
                  refine r_callV (κ := 9) (μ := []) E (sp_X10_copyFrom2 l G (enc A0 x (mnX x T (i + 1))) (fil (enc A0 x T) S 443) _ rfl rfl) my_X10_copyFrom iv_X10_copyFrom ml_X10_252 cm_id ⟨by decide, rfl, rfl⟩ rfl rfl rfl rfl (by decide) (Nat.le_of_ble_eq_true rfl) (dat dkX10_minutesUntilDry 34 rfl) ?_
                  rintro _ _ ⟨rfl, rfl⟩
                  refine ⟨_, Mrg_md2 (by decide) rfl, ?_⟩
                  rw [enc_rst hx]
                  refine r_iload_n E (dat dkX10_minutesUntilDry 35 rfl) rfl rfl ?_
                  refine r_ireturn E (dat dkX10_minutesUntilDry 36 rfl) (by decide) (by decide) ?_
                  refine Or.inl ⟨c, hc, rfl, ?_, ?_⟩
                  · show ar 1 (md _ _) _ = _
                    rw [show ∀ (Z : Mem) (U V : Nat → Int32), ar 1 (md Z U) V = md Z V from fun _ _ _ => md_md]
                    exact md_of rfl
                  · first
                      | rw [hI, mdF_hit hi hd]
                      | rw [hI, mdF_no (Nat.le_refl _)]
                ·
                  refine r_iload_n E (dat dkX10_minutesUntilDry 17 rfl) rfl rfl ?_
                  refine r_iconst (v := -1) E (dat dkX10_minutesUntilDry 18 rfl) rfl ?_
                  refine r_icmp_ne (tgt := 56) E (dat dkX10_minutesUntilDry 19 rfl) rfl (fun h31 => ?_) (fun h31 => ?_)
                  ·
                    refine r_aload_n E (dat dkX10_minutesUntilDry 31 rfl) rfl rfl ?_
                    refine r_aload_n E (dat dkX10_minutesUntilDry 32 rfl) rfl rfl ?_
                    refine q_geta E fl_X10_13 (dat dkX10_minutesUntilDry 33 rfl) rfl rfl rfl ?_
                    refine r_callV (κ := 9) (μ := []) E (sp_X10_copyFrom2 l G (enc A0 x (mnX x T (i + 1))) (fil (enc A0 x T) S 443) _ rfl rfl) my_X10_copyFrom iv_X10_copyFrom ml_X10_252 cm_id ⟨by decide, rfl, rfl⟩ rfl rfl rfl rfl (by decide) (Nat.le_of_ble_eq_true rfl) (dat dkX10_minutesUntilDry 34 rfl) ?_
                    rintro _ _ ⟨rfl, rfl⟩
                    refine ⟨_, Mrg_md2 (by decide) rfl, ?_⟩
                    rw [enc_rst hx]
                    refine r_iload_n E (dat dkX10_minutesUntilDry 35 rfl) rfl rfl ?_
                    refine r_ireturn E (dat dkX10_minutesUntilDry 36 rfl) (by decide) (by decide) ?_
                    refine Or.inl ⟨c, hc, rfl, ?_, ?_⟩
                    · show ar 1 (md _ _) _ = _
                      rw [show ∀ (Z : Mem) (U V : Nat → Int32), ar 1 (md Z U) V = md Z V from fun _ _ _ => md_md]
                      exact md_of rfl
                    · first
                        | rw [hI, mdF_hit hi hd]
                        | rw [hI, mdF_no (Nat.le_refl _)]
                  ·
                    exact absurd h31 (fun q => nI_pos (show i < 2 ^ 31 by omega) (by rw [q]; decide))
            ·
              refine r_aload_n E (dat dkX10_minutesUntilDry 20 rfl) rfl rfl ?_
              refine r_iload_n E (dat dkX10_minutesUntilDry 21 rfl) rfl rfl ?_
              refine r_callV (κ := 9) (μ := []) E (sp_X10_isDry l G A0 x (mnX x T i) c _ rfl hx hc) my_X10_isDry iv_X10_isDry ml_X10_111 cm_id ⟨by decide, rfl, rfl⟩ rfl rfl rfl rfl (by decide) (Nat.le_of_ble_eq_true rfl) (dat dkX10_minutesUntilDry 22 rfl) ?_
              rintro _ _ ⟨rfl, rfl⟩
              refine ⟨_, Mrg_z rfl, ?_⟩
              refine r_if_eq (tgt := 44) E (dat dkX10_minutesUntilDry 23 rfl) rfl (fun h39 => ?_) (fun h39 => ?_)
              ·
                refine r_aload_n E (dat dkX10_minutesUntilDry 26 rfl) rfl rfl ?_
                refine r_callV (κ := 9) (μ := []) E (sp_X10_letMinutePass l G A0 x (mnX x T i) _ rfl hx hv (by intro b hb; rw [show mnX x T i 5 = T 5 from mnN_5 i]; exact hpl b hb)) my_X10_letMinutePass iv_X10_letMinutePass ml_X10_138 cm_id ⟨by decide, rfl, rfl⟩ rfl rfl rfl rfl (by decide) (Nat.le_of_ble_eq_true rfl) (dat dkX10_minutesUntilDry 27 rfl) ?_
                rintro _ _ ⟨rfl, rfl⟩
                refine ⟨_, Mrg_md (by decide) rfl, ?_⟩
                have hmm := mm_n hx hv hs hpl i (by omega)
                rw [hmm.1, hmm.2]
                refine r_istore_4 E (dat dkX10_minutesUntilDry 28 rfl) rfl rfl ?_
                refine q_iinc_3 E (dat dkX10_minutesUntilDry 29 rfl) rfl rfl ?_
                refine r_goto (tgt := 22) E (dat dkX10_minutesUntilDry 30 rfl) rfl ?_
                refine r_back rfl ?_ (kk (hI.trans (mdF_go hi hd).symm))
                exact (And.intro rfl (And.intro rfl (And.intro rfl (And.intro rfl trivial))))
              ·
                (rw [if_neg hd] at h39; exact absurd rfl h39)
      · intro hI
        refine r_iload_n E (dat dkX10_minutesUntilDry 14 rfl) rfl rfl ?_
        refine r_sipush (v := 200) E (dat dkX10_minutesUntilDry 15 rfl) rfl ?_
        refine q_icmp_gt (tgt := 56) E (dat dkX10_minutesUntilDry 16 rfl) rfl rfl (b := 200) rfl (by omega) (by omega) (fun h26 => ?_) (fun h26 => ?_)
        ·
          refine r_aload_n E (dat dkX10_minutesUntilDry 31 rfl) rfl rfl ?_
          refine r_aload_n E (dat dkX10_minutesUntilDry 32 rfl) rfl rfl ?_
          refine q_geta E fl_X10_13 (dat dkX10_minutesUntilDry 33 rfl) rfl rfl rfl ?_
          refine r_callV (κ := 9) (μ := []) E (sp_X10_copyFrom2 l G (enc A0 x (mnX x T 201)) (fil (enc A0 x T) S 443) _ rfl rfl) my_X10_copyFrom iv_X10_copyFrom ml_X10_252 cm_id ⟨by decide, rfl, rfl⟩ rfl rfl rfl rfl (by decide) (Nat.le_of_ble_eq_true rfl) (dat dkX10_minutesUntilDry 34 rfl) ?_
          rintro _ _ ⟨rfl, rfl⟩
          refine ⟨_, Mrg_md2 (by decide) rfl, ?_⟩
          rw [enc_rst hx]
          refine r_iload_n E (dat dkX10_minutesUntilDry 35 rfl) rfl rfl ?_
          refine r_ireturn E (dat dkX10_minutesUntilDry 36 rfl) (by decide) (by decide) ?_
          refine Or.inl ⟨c, hc, rfl, ?_, ?_⟩
          · show ar 1 (md _ _) _ = _
            rw [show ∀ (Z : Mem) (U V : Nat → Int32), ar 1 (md Z U) V = md Z V from fun _ _ _ => md_md]
            exact md_of rfl
          · first
              | rw [hI, mdF_hit hi hd]
              | rw [hI, mdF_no (Nat.le_refl _)]
        ·
          omega
    ·
      exact absurd h5 (by decide)
  ·
    refine r_aload_n E (dat dkX10_minutesUntilDry 0 rfl) rfl rfl ?_
    refine r_iload_n E (dat dkX10_minutesUntilDry 1 rfl) rfl rfl ?_
    refine r_callV (κ := 9) (μ := []) E (sp_X10_checkCell l G A0 x T a _ md_a hx) my_X10_checkCell iv_X10_checkCell ml_X10_333 cm_id ⟨by decide, rfl, rfl⟩ rfl rfl rfl rfl (by decide) (Nat.le_of_ble_eq_true rfl) (dat dkX10_minutesUntilDry 2 rfl) ?_
    rintro _ _ ⟨rfl, rfl⟩
    refine ⟨_, Mrg_mt (by decide) rfl, ?_⟩
    rw [ic_0 hx hk, show ckI 0 1 1 = 1 from rfl, if_neg (by decide)]
    refine r_if_ne (tgt := 10) E (dat dkX10_minutesUntilDry 3 rfl) rfl (fun h5 => ?_) (fun h5 => ?_)
    ·
      exact absurd rfl h5
    ·
      refine r_iconst (v := 0) E (dat dkX10_minutesUntilDry 4 rfl) rfl ?_
      refine r_ireturn E (dat dkX10_minutesUntilDry 5 rfl) (by decide) (by decide) ?_
      exact Or.inr ⟨hk, rfl, rfl⟩
