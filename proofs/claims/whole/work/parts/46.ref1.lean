theorem nI_dv {a b : Nat} (ha : a < 2 ^ 31) (hb0 : 0 < b) (hb : b < 2 ^ 31) : nI a / nI b = nI (a / b) := by
  have hq : a / b ≤ a := Nat.div_le_self a b
  apply Int32.toInt_inj.mp
  rw [Int32.toInt_div_of_ne_left _ _ (fun h => by
    have h2 := nI_toInt ha
    rw [h] at h2
    have h3 : Int32.minValue.toInt = -2147483648 := by decide
    omega), nI_toInt ha, nI_toInt hb, nI_toInt (by omega), Int.tdiv_eq_ediv_of_nonneg (by omega)]
  rfl
theorem nI_md {a b : Nat} (ha : a < 2 ^ 31) (hb0 : 0 < b) (hb : b < 2 ^ 31) : nI a - nI a / nI b * nI b = nI (a % b) := by
  have h := Nat.div_add_mod a b
  have h2 : a / b * b = b * (a / b) := Nat.mul_comm _ _
  rw [nI_dv ha hb0 hb, pk_mul, nI_sb (by omega)]
  congr 1
  omega
theorem wI {a u : Nat} (hu : 0 < u) (hu2 : u < 2 ^ 20) (ha : a < 2 ^ 20) : iwI (nI a).toInt64 0 (nI u - 1).toInt64 = if a < u then 1 else 0 := by
  rw [show nI u - 1 = nI (u - 1) from nI_sb (b := 1) hu, show (0 : Int64) = (0 : Int32).toInt64 from rfl]
  by_cases h : a < u
  · rw [if_pos h]
    exact iw_1 (Int32.not_lt.mp (nI_pos (by omega))) ((nI_leI (by omega) (by omega)).mpr (by omega))
  · rw [if_neg h]
    exact iw_0 (fun q => h (by have := (nI_leI (a := a) (b := u - 1) (by omega) (by omega)).mp q.2; omega))
theorem wI_m {u : Nat} : iwI (nI 0 - 1).toInt64 0 (nI u - 1).toInt64 = 0 := by
  rw [show (0 : Int64) = (0 : Int32).toInt64 from rfl]
  exact iw_0 (fun q => absurd q.1 (by decide))
theorem rc_of {u v c : Nat} (hc : c < u * v) : ∃ r k, r < u ∧ k < v ∧ c = r * v + k := by
  have hv : 0 < v := Nat.pos_of_ne_zero fun q => by subst q; simp at hc
  refine ⟨c / v, c % v, Nat.div_lt_of_lt_mul (by rw [Nat.mul_comm]; exact hc), Nat.mod_lt c hv, ?_⟩
  have := Nat.div_add_mod c v
  rw [Nat.mul_comm] at this
  exact this.symm
set_option maxRecDepth 100000 in
set_option maxHeartbeats 16000000 in
theorem sp_X10_beside (l : Launch) (G : GT) (u v c d : Nat) (M : Mem) (A : Nat → Int32) (hA : M 0 1 = A) (hA2 : A 2 = nI u) (hA1 : A 1 = nI v) (hu : u ≤ 8) (hv : v ≤ 8) (hc : c < u * v) (hd : d < 4) : MC l G yX10_beside cX10_beside 8 (some .int) ({ frames := 1, cells := 0, slots := 0, locals := 25 } : Room) [9] lk0 [rv 0 0, iv (nI c), iv (nI d)] (M) (fun r9 M2 => r9 = some (iv (oI (gnb u v c d))) ∧ M2 = M) := by
  refine MC.of RX10 [some (rv 0 0), some (iv (nI c)), some (iv (nI d)), none, none, none, none, none] 5 (by decide +kernel) rfl rfl rfl ?_
  intro pp ee ss mm aa bb me cd ad E
  obtain ⟨M0, rfl⟩ : ∃ M0, M = md M0 A := ⟨M, (md_of hA).symm⟩
  clear hA
  obtain ⟨r, k, hr, hk, rfl⟩ := rc_of hc
  have hrv := Nat.mul_le_mul (show r ≤ 8 by omega) hv
  have hdv : nI (r * v + k) / nI v = nI r := by rw [nI_dv (by omega) (by omega) (by omega), Nat.mul_comm r v, Nat.mul_add_div (by omega), Nat.div_eq_of_lt hk, Nat.add_zero]
  have hmd : nI (r * v + k) - nI (r * v + k) / nI v * nI v = nI k := by rw [nI_md (by omega) (by omega) (by omega), Nat.mul_comm r v, Nat.mul_add_mod, Nat.mod_eq_of_lt hk]
  have hv0 : ¬ nI v = 0 := fun q => by have := (nI_eq (a := v) (b := 0) (by omega) (by decide)).mp q; omega
  
  rcases (show (d = 0 ∧ 0 < r) ∨ (d = 0 ∧ ¬ 0 < r) ∨ (d = 1 ∧ k + 1 < v) ∨ (d = 1 ∧ ¬ k + 1 < v) ∨ (d = 2 ∧ r + 1 < u) ∨ (d = 2 ∧ ¬ r + 1 < u) ∨ (d = 3 ∧ 0 < k) ∨ (d = 3 ∧ ¬ 0 < k) by omega) with ⟨hd9, h9⟩ | ⟨hd9, h9⟩ | ⟨hd9, h9⟩ | ⟨hd9, h9⟩ | ⟨hd9, h9⟩ | ⟨hd9, h9⟩ | ⟨hd9, h9⟩ | ⟨hd9, h9⟩
  ·
    obtain rfl : d = 0 := hd9
    
    refine r_iload_n E (dat dkX10_beside 0 rfl) rfl rfl ?_
    refine r_aload_n E (dat dkX10_beside 1 rfl) rfl rfl ?_
    refine q_geta E fl_X10_9 (dat dkX10_beside 2 rfl) rfl rfl rfl ?_
    refine r_iconst (v := 1) E (dat dkX10_beside 3 rfl) rfl ?_
    refine q_iald E (dat dkX10_beside 4 rfl) rfl rfl (by decide) md_a (show _ = nI 1 from rfl) (by omega) ?_
    rw [hA1]
    refine r_idiv E (dat dkX10_beside 5 rfl) hv0 ?_
    rw [hdv]
    refine r_istore_3 E (dat dkX10_beside 6 rfl) rfl rfl ?_
    refine r_iload_n E (dat dkX10_beside 7 rfl) rfl rfl ?_
    refine r_aload_n E (dat dkX10_beside 8 rfl) rfl rfl ?_
    refine q_geta E fl_X10_9 (dat dkX10_beside 9 rfl) rfl rfl rfl ?_
    refine r_iconst (v := 1) E (dat dkX10_beside 10 rfl) rfl ?_
    refine q_iald E (dat dkX10_beside 11 rfl) rfl rfl (by decide) md_a (show _ = nI 1 from rfl) (by omega) ?_
    rw [hA1]
    refine r_irem E (dat dkX10_beside 12 rfl) hv0 ?_
    rw [hmd]
    refine r_istore_4 E (dat dkX10_beside 13 rfl) rfl rfl ?_
    refine r_iload_n E (dat dkX10_beside 14 rfl) rfl rfl ?_
    refine r_if_ne (tgt := 29) E (dat dkX10_beside 15 rfl) rfl (fun h20 => ?_) (fun h20 => ?_)
    ·
      exact absurd rfl h20
    ·
      refine r_iload_n E (dat dkX10_beside 16 rfl) rfl rfl ?_
      refine r_iconst (v := 1) E (dat dkX10_beside 17 rfl) rfl ?_
      refine r_isub E (dat dkX10_beside 18 rfl) ?_
      refine r_goto (tgt := 41) E (dat dkX10_beside 19 rfl) rfl ?_
      rw [show nI r - 1 = nI (r - 1) from nI_sb (b := 1) h9]
      refine r_istore_5 E (dat dkX10_beside 28 rfl) rfl rfl ?_
      refine r_iload_n E (dat dkX10_beside 29 rfl) rfl rfl ?_
      refine r_iconst (v := 1) E (dat dkX10_beside 30 rfl) rfl ?_
      refine r_icmp_ne (tgt := 55) E (dat dkX10_beside 31 rfl) rfl (fun h45 => ?_) (fun h45 => ?_)
      ·
        refine r_iload_n E (dat dkX10_beside 36 rfl) rfl rfl ?_
        refine r_iconst (v := 3) E (dat dkX10_beside 37 rfl) rfl ?_
        refine r_icmp_ne (tgt := 67) E (dat dkX10_beside 38 rfl) rfl (fun h57 => ?_) (fun h57 => ?_)
        ·
          refine r_iload E (dat dkX10_beside 43 rfl) rfl ?_
          refine r_istore_6 E (dat dkX10_beside 44 rfl) rfl rfl ?_
          refine r_iload E (dat dkX10_beside 45 rfl) rfl ?_
          refine r_i2l E (dat dkX10_beside 46 rfl) ?_
          refine r_lconst E (dat dkX10_beside 47 rfl) rfl ?_
          refine r_aload_n E (dat dkX10_beside 48 rfl) rfl rfl ?_
          refine q_geta E fl_X10_9 (dat dkX10_beside 49 rfl) rfl rfl rfl ?_
          refine r_iconst (v := 2) E (dat dkX10_beside 50 rfl) rfl ?_
          refine q_iald E (dat dkX10_beside 51 rfl) rfl rfl (by decide) md_a (show _ = nI 2 from rfl) (by omega) ?_
          rw [hA2]
          refine r_iconst (v := 1) E (dat dkX10_beside 52 rfl) rfl ?_
          refine r_isub E (dat dkX10_beside 53 rfl) ?_
          refine r_i2l E (dat dkX10_beside 54 rfl) ?_
          refine r_callS (μ := []) E (sp_X10_isWithin l G (nI (r - 1)).toInt64 0 (nI u - 1).toInt64 _) my_X10_isWithin is_X10_isWithin ml_X10_80 cm_nil rfl rfl (by decide) (Nat.le_of_ble_eq_true rfl) (dat dkX10_beside 55 rfl) ?_
          rintro _ _ ⟨rfl, hM⟩
          refine ⟨_, Mrg_z hM, ?_⟩
          clear hM
          rw [wI (by omega) (by omega) (by omega), if_pos (show (r - 1) < u by omega)]
          refine r_if_eq (tgt := 113) E (dat dkX10_beside 56 rfl) rfl (fun h87 => ?_) (fun h87 => ?_)
          ·
            exact absurd h87 (by decide)
          ·
            refine r_iload E (dat dkX10_beside 57 rfl) rfl ?_
            refine r_i2l E (dat dkX10_beside 58 rfl) ?_
            refine r_lconst E (dat dkX10_beside 59 rfl) rfl ?_
            refine r_aload_n E (dat dkX10_beside 60 rfl) rfl rfl ?_
            refine q_geta E fl_X10_9 (dat dkX10_beside 61 rfl) rfl rfl rfl ?_
            refine r_iconst (v := 1) E (dat dkX10_beside 62 rfl) rfl ?_
            refine q_iald E (dat dkX10_beside 63 rfl) rfl rfl (by decide) md_a (show _ = nI 1 from rfl) (by omega) ?_
            rw [hA1]
            refine r_iconst (v := 1) E (dat dkX10_beside 64 rfl) rfl ?_
            refine r_isub E (dat dkX10_beside 65 rfl) ?_
            refine r_i2l E (dat dkX10_beside 66 rfl) ?_
            refine r_callS (μ := []) E (sp_X10_isWithin l G (nI k).toInt64 0 (nI v - 1).toInt64 _) my_X10_isWithin is_X10_isWithin ml_X10_80 cm_nil rfl rfl (by decide) (Nat.le_of_ble_eq_true rfl) (dat dkX10_beside 67 rfl) ?_
            rintro _ _ ⟨rfl, hM⟩
            refine ⟨_, Mrg_z hM, ?_⟩
            clear hM
            rw [wI (by omega) (by omega) (by omega), if_pos (show k < v by omega)]
            refine r_if_eq (tgt := 113) E (dat dkX10_beside 68 rfl) rfl (fun h106 => ?_) (fun h106 => ?_)
            ·
              exact absurd h106 (by decide)
            ·
              refine r_iconst (v := 1) E (dat dkX10_beside 69 rfl) rfl ?_
              refine r_goto (tgt := 114) E (dat dkX10_beside 70 rfl) rfl ?_
              refine r_istore_7 E (dat dkX10_beside 72 rfl) rfl rfl ?_
              refine r_iload E (dat dkX10_beside 73 rfl) rfl ?_
              refine r_if_eq (tgt := 136) E (dat dkX10_beside 74 rfl) rfl (fun h118 => ?_) (fun h118 => ?_)
              ·
                exact absurd h118 (by decide)
              ·
                refine r_iload E (dat dkX10_beside 75 rfl) rfl ?_
                refine r_aload_n E (dat dkX10_beside 76 rfl) rfl rfl ?_
                refine q_geta E fl_X10_9 (dat dkX10_beside 77 rfl) rfl rfl rfl ?_
                refine r_iconst (v := 1) E (dat dkX10_beside 78 rfl) rfl ?_
                refine q_iald E (dat dkX10_beside 79 rfl) rfl rfl (by decide) md_a (show _ = nI 1 from rfl) (by omega) ?_
                rw [hA1]
                refine r_imul E (dat dkX10_beside 80 rfl) ?_
                rw [pk_mul]
                refine r_iload E (dat dkX10_beside 81 rfl) rfl ?_
                refine r_iadd E (dat dkX10_beside 82 rfl) ?_
                rw [nI_add]
                refine r_goto (tgt := 137) E (dat dkX10_beside 83 rfl) rfl ?_
                refine r_ireturn E (dat dkX10_beside 85 rfl) (by decide) (by decide) ?_
                refine ⟨?_, rfl⟩
                rw [gnb_rc hr hk, show gN u v r k (r * v + k) 0 = some (r * v + k - v) from if_pos h9, show (r - 1) * v + k = r * v + k - v by
                  have h0 : (r - 1) * v + v = r * v := by rw [← Nat.succ_mul, Nat.succ_eq_add_one, Nat.sub_add_cancel h9]
                  omega]
                rfl
        ·
          exact absurd h57 (by decide)
      ·
        exact absurd h45 (by decide)
  ·
    obtain rfl : d = 0 := hd9
    obtain rfl : r = 0 := by omega
    
    refine r_iload_n E (dat dkX10_beside 0 rfl) rfl rfl ?_
    refine r_aload_n E (dat dkX10_beside 1 rfl) rfl rfl ?_
    refine q_geta E fl_X10_9 (dat dkX10_beside 2 rfl) rfl rfl rfl ?_
    refine r_iconst (v := 1) E (dat dkX10_beside 3 rfl) rfl ?_
    refine q_iald E (dat dkX10_beside 4 rfl) rfl rfl (by decide) md_a (show _ = nI 1 from rfl) (by omega) ?_
    rw [hA1]
    refine r_idiv E (dat dkX10_beside 5 rfl) hv0 ?_
    rw [hdv]
    refine r_istore_3 E (dat dkX10_beside 6 rfl) rfl rfl ?_
    refine r_iload_n E (dat dkX10_beside 7 rfl) rfl rfl ?_
    refine r_aload_n E (dat dkX10_beside 8 rfl) rfl rfl ?_
    refine q_geta E fl_X10_9 (dat dkX10_beside 9 rfl) rfl rfl rfl ?_
    refine r_iconst (v := 1) E (dat dkX10_beside 10 rfl) rfl ?_
    refine q_iald E (dat dkX10_beside 11 rfl) rfl rfl (by decide) md_a (show _ = nI 1 from rfl) (by omega) ?_
    rw [hA1]
    refine r_irem E (dat dkX10_beside 12 rfl) hv0 ?_
    rw [hmd]
    refine r_istore_4 E (dat dkX10_beside 13 rfl) rfl rfl ?_
    refine r_iload_n E (dat dkX10_beside 14 rfl) rfl rfl ?_
    refine r_if_ne (tgt := 29) E (dat dkX10_beside 15 rfl) rfl (fun h20 => ?_) (fun h20 => ?_)
    ·
      exact absurd rfl h20
    ·
      refine r_iload_n E (dat dkX10_beside 16 rfl) rfl rfl ?_
      refine r_iconst (v := 1) E (dat dkX10_beside 17 rfl) rfl ?_
      refine r_isub E (dat dkX10_beside 18 rfl) ?_
      refine r_goto (tgt := 41) E (dat dkX10_beside 19 rfl) rfl ?_
      refine r_istore_5 E (dat dkX10_beside 28 rfl) rfl rfl ?_
      refine r_iload_n E (dat dkX10_beside 29 rfl) rfl rfl ?_
      refine r_iconst (v := 1) E (dat dkX10_beside 30 rfl) rfl ?_
      refine r_icmp_ne (tgt := 55) E (dat dkX10_beside 31 rfl) rfl (fun h45 => ?_) (fun h45 => ?_)
      ·
        refine r_iload_n E (dat dkX10_beside 36 rfl) rfl rfl ?_
        refine r_iconst (v := 3) E (dat dkX10_beside 37 rfl) rfl ?_
        refine r_icmp_ne (tgt := 67) E (dat dkX10_beside 38 rfl) rfl (fun h57 => ?_) (fun h57 => ?_)
        ·
          refine r_iload E (dat dkX10_beside 43 rfl) rfl ?_
          refine r_istore_6 E (dat dkX10_beside 44 rfl) rfl rfl ?_
          refine r_iload E (dat dkX10_beside 45 rfl) rfl ?_
          refine r_i2l E (dat dkX10_beside 46 rfl) ?_
          refine r_lconst E (dat dkX10_beside 47 rfl) rfl ?_
          refine r_aload_n E (dat dkX10_beside 48 rfl) rfl rfl ?_
          refine q_geta E fl_X10_9 (dat dkX10_beside 49 rfl) rfl rfl rfl ?_
          refine r_iconst (v := 2) E (dat dkX10_beside 50 rfl) rfl ?_
          refine q_iald E (dat dkX10_beside 51 rfl) rfl rfl (by decide) md_a (show _ = nI 2 from rfl) (by omega) ?_
          rw [hA2]
          refine r_iconst (v := 1) E (dat dkX10_beside 52 rfl) rfl ?_
          refine r_isub E (dat dkX10_beside 53 rfl) ?_
          refine r_i2l E (dat dkX10_beside 54 rfl) ?_
          refine r_callS (μ := []) E (sp_X10_isWithin l G (nI 0 - 1).toInt64 0 (nI u - 1).toInt64 _) my_X10_isWithin is_X10_isWithin ml_X10_80 cm_nil rfl rfl (by decide) (Nat.le_of_ble_eq_true rfl) (dat dkX10_beside 55 rfl) ?_
          rintro _ _ ⟨rfl, hM⟩
          refine ⟨_, Mrg_z hM, ?_⟩
          clear hM
          rw [wI_m]
          refine r_if_eq (tgt := 113) E (dat dkX10_beside 56 rfl) rfl (fun h87 => ?_) (fun h87 => ?_)
          ·
            refine r_iconst (v := 0) E (dat dkX10_beside 71 rfl) rfl ?_
            refine r_istore_7 E (dat dkX10_beside 72 rfl) rfl rfl ?_
            refine r_iload E (dat dkX10_beside 73 rfl) rfl ?_
            refine r_if_eq (tgt := 136) E (dat dkX10_beside 74 rfl) rfl (fun h118 => ?_) (fun h118 => ?_)
            ·
              refine r_iconst (v := -1) E (dat dkX10_beside 84 rfl) rfl ?_
              refine r_ireturn E (dat dkX10_beside 85 rfl) (by decide) (by decide) ?_
              refine ⟨?_, rfl⟩
              rw [gnb_rc hr hk, show gN u v 0 k (0 * v + k) 0 = none from rfl]
              rfl
            ·
              exact absurd rfl h118
          ·
            exact absurd rfl h87
        ·
          exact absurd h57 (by decide)
      ·
        exact absurd h45 (by decide)
  ·
    obtain rfl : d = 1 := hd9
    
    refine r_iload_n E (dat dkX10_beside 0 rfl) rfl rfl ?_
    refine r_aload_n E (dat dkX10_beside 1 rfl) rfl rfl ?_
    refine q_geta E fl_X10_9 (dat dkX10_beside 2 rfl) rfl rfl rfl ?_
    refine r_iconst (v := 1) E (dat dkX10_beside 3 rfl) rfl ?_
    refine q_iald E (dat dkX10_beside 4 rfl) rfl rfl (by decide) md_a (show _ = nI 1 from rfl) (by omega) ?_
    rw [hA1]
    refine r_idiv E (dat dkX10_beside 5 rfl) hv0 ?_
    rw [hdv]
    refine r_istore_3 E (dat dkX10_beside 6 rfl) rfl rfl ?_
    refine r_iload_n E (dat dkX10_beside 7 rfl) rfl rfl ?_
    refine r_aload_n E (dat dkX10_beside 8 rfl) rfl rfl ?_
    refine q_geta E fl_X10_9 (dat dkX10_beside 9 rfl) rfl rfl rfl ?_
    refine r_iconst (v := 1) E (dat dkX10_beside 10 rfl) rfl ?_
    refine q_iald E (dat dkX10_beside 11 rfl) rfl rfl (by decide) md_a (show _ = nI 1 from rfl) (by omega) ?_
    rw [hA1]
    refine r_irem E (dat dkX10_beside 12 rfl) hv0 ?_
    rw [hmd]
    refine r_istore_4 E (dat dkX10_beside 13 rfl) rfl rfl ?_
    refine r_iload_n E (dat dkX10_beside 14 rfl) rfl rfl ?_
    refine r_if_ne (tgt := 29) E (dat dkX10_beside 15 rfl) rfl (fun h20 => ?_) (fun h20 => ?_)
    ·
      refine r_iload_n E (dat dkX10_beside 20 rfl) rfl rfl ?_
      refine r_iconst (v := 2) E (dat dkX10_beside 21 rfl) rfl ?_
      refine r_icmp_ne (tgt := 40) E (dat dkX10_beside 22 rfl) rfl (fun h31 => ?_) (fun h31 => ?_)
      ·
        refine r_iload_n E (dat dkX10_beside 27 rfl) rfl rfl ?_
        refine r_istore_5 E (dat dkX10_beside 28 rfl) rfl rfl ?_
        refine r_iload_n E (dat dkX10_beside 29 rfl) rfl rfl ?_
        refine r_iconst (v := 1) E (dat dkX10_beside 30 rfl) rfl ?_
        refine r_icmp_ne (tgt := 55) E (dat dkX10_beside 31 rfl) rfl (fun h45 => ?_) (fun h45 => ?_)
        ·
          exact absurd rfl h45
        ·
          refine r_iload E (dat dkX10_beside 32 rfl) rfl ?_
          refine r_iconst (v := 1) E (dat dkX10_beside 33 rfl) rfl ?_
          refine r_iadd E (dat dkX10_beside 34 rfl) ?_
          refine r_goto (tgt := 69) E (dat dkX10_beside 35 rfl) rfl ?_
          rw [show nI k + 1 = nI (k + 1) from nI_1 k]
          refine r_istore_6 E (dat dkX10_beside 44 rfl) rfl rfl ?_
          refine r_iload E (dat dkX10_beside 45 rfl) rfl ?_
          refine r_i2l E (dat dkX10_beside 46 rfl) ?_
          refine r_lconst E (dat dkX10_beside 47 rfl) rfl ?_
          refine r_aload_n E (dat dkX10_beside 48 rfl) rfl rfl ?_
          refine q_geta E fl_X10_9 (dat dkX10_beside 49 rfl) rfl rfl rfl ?_
          refine r_iconst (v := 2) E (dat dkX10_beside 50 rfl) rfl ?_
          refine q_iald E (dat dkX10_beside 51 rfl) rfl rfl (by decide) md_a (show _ = nI 2 from rfl) (by omega) ?_
          rw [hA2]
          refine r_iconst (v := 1) E (dat dkX10_beside 52 rfl) rfl ?_
          refine r_isub E (dat dkX10_beside 53 rfl) ?_
          refine r_i2l E (dat dkX10_beside 54 rfl) ?_
          refine r_callS (μ := []) E (sp_X10_isWithin l G (nI r).toInt64 0 (nI u - 1).toInt64 _) my_X10_isWithin is_X10_isWithin ml_X10_80 cm_nil rfl rfl (by decide) (Nat.le_of_ble_eq_true rfl) (dat dkX10_beside 55 rfl) ?_
          rintro _ _ ⟨rfl, hM⟩
          refine ⟨_, Mrg_z hM, ?_⟩
          clear hM
          rw [wI (by omega) (by omega) (by omega), if_pos (show r < u by omega)]
          refine r_if_eq (tgt := 113) E (dat dkX10_beside 56 rfl) rfl (fun h87 => ?_) (fun h87 => ?_)
          ·
            exact absurd h87 (by decide)
          ·
            refine r_iload E (dat dkX10_beside 57 rfl) rfl ?_
            refine r_i2l E (dat dkX10_beside 58 rfl) ?_
            refine r_lconst E (dat dkX10_beside 59 rfl) rfl ?_
            refine r_aload_n E (dat dkX10_beside 60 rfl) rfl rfl ?_
            refine q_geta E fl_X10_9 (dat dkX10_beside 61 rfl) rfl rfl rfl ?_
            refine r_iconst (v := 1) E (dat dkX10_beside 62 rfl) rfl ?_
            refine q_iald E (dat dkX10_beside 63 rfl) rfl rfl (by decide) md_a (show _ = nI 1 from rfl) (by omega) ?_
            rw [hA1]
            refine r_iconst (v := 1) E (dat dkX10_beside 64 rfl) rfl ?_
            refine r_isub E (dat dkX10_beside 65 rfl) ?_
            refine r_i2l E (dat dkX10_beside 66 rfl) ?_
            refine r_callS (μ := []) E (sp_X10_isWithin l G (nI (k + 1)).toInt64 0 (nI v - 1).toInt64 _) my_X10_isWithin is_X10_isWithin ml_X10_80 cm_nil rfl rfl (by decide) (Nat.le_of_ble_eq_true rfl) (dat dkX10_beside 67 rfl) ?_
            rintro _ _ ⟨rfl, hM⟩
            refine ⟨_, Mrg_z hM, ?_⟩
            clear hM
            rw [wI (by omega) (by omega) (by omega), if_pos (show (k + 1) < v by omega)]
            refine r_if_eq (tgt := 113) E (dat dkX10_beside 68 rfl) rfl (fun h106 => ?_) (fun h106 => ?_)
            ·
              exact absurd h106 (by decide)
            ·
              refine r_iconst (v := 1) E (dat dkX10_beside 69 rfl) rfl ?_
              refine r_goto (tgt := 114) E (dat dkX10_beside 70 rfl) rfl ?_
              refine r_istore_7 E (dat dkX10_beside 72 rfl) rfl rfl ?_
              refine r_iload E (dat dkX10_beside 73 rfl) rfl ?_
              refine r_if_eq (tgt := 136) E (dat dkX10_beside 74 rfl) rfl (fun h118 => ?_) (fun h118 => ?_)
              ·
                exact absurd h118 (by decide)
              ·
                refine r_iload E (dat dkX10_beside 75 rfl) rfl ?_
                refine r_aload_n E (dat dkX10_beside 76 rfl) rfl rfl ?_
                refine q_geta E fl_X10_9 (dat dkX10_beside 77 rfl) rfl rfl rfl ?_
                refine r_iconst (v := 1) E (dat dkX10_beside 78 rfl) rfl ?_
                refine q_iald E (dat dkX10_beside 79 rfl) rfl rfl (by decide) md_a (show _ = nI 1 from rfl) (by omega) ?_
                rw [hA1]
                refine r_imul E (dat dkX10_beside 80 rfl) ?_
                rw [pk_mul]
                refine r_iload E (dat dkX10_beside 81 rfl) rfl ?_
                refine r_iadd E (dat dkX10_beside 82 rfl) ?_
                rw [nI_add]
                refine r_goto (tgt := 137) E (dat dkX10_beside 83 rfl) rfl ?_
                refine r_ireturn E (dat dkX10_beside 85 rfl) (by decide) (by decide) ?_
                refine ⟨?_, rfl⟩
                rw [gnb_rc hr hk, show gN u v r k (r * v + k) 1 = some (r * v + k + 1) from if_pos h9, show r * v + (k + 1) = r * v + k + 1 by
                  omega]
                rfl
      ·
        exact absurd h31 (by decide)
    ·
      exact absurd h20 (by decide)
  ·
    obtain rfl : d = 1 := hd9
    
    refine r_iload_n E (dat dkX10_beside 0 rfl) rfl rfl ?_
    refine r_aload_n E (dat dkX10_beside 1 rfl) rfl rfl ?_
    refine q_geta E fl_X10_9 (dat dkX10_beside 2 rfl) rfl rfl rfl ?_
    refine r_iconst (v := 1) E (dat dkX10_beside 3 rfl) rfl ?_
    refine q_iald E (dat dkX10_beside 4 rfl) rfl rfl (by decide) md_a (show _ = nI 1 from rfl) (by omega) ?_
    rw [hA1]
    refine r_idiv E (dat dkX10_beside 5 rfl) hv0 ?_
    rw [hdv]
    refine r_istore_3 E (dat dkX10_beside 6 rfl) rfl rfl ?_
    refine r_iload_n E (dat dkX10_beside 7 rfl) rfl rfl ?_
    refine r_aload_n E (dat dkX10_beside 8 rfl) rfl rfl ?_
    refine q_geta E fl_X10_9 (dat dkX10_beside 9 rfl) rfl rfl rfl ?_
    refine r_iconst (v := 1) E (dat dkX10_beside 10 rfl) rfl ?_
    refine q_iald E (dat dkX10_beside 11 rfl) rfl rfl (by decide) md_a (show _ = nI 1 from rfl) (by omega) ?_
    rw [hA1]
    refine r_irem E (dat dkX10_beside 12 rfl) hv0 ?_
    rw [hmd]
    refine r_istore_4 E (dat dkX10_beside 13 rfl) rfl rfl ?_
    refine r_iload_n E (dat dkX10_beside 14 rfl) rfl rfl ?_
    refine r_if_ne (tgt := 29) E (dat dkX10_beside 15 rfl) rfl (fun h20 => ?_) (fun h20 => ?_)
    ·
      refine r_iload_n E (dat dkX10_beside 20 rfl) rfl rfl ?_
      refine r_iconst (v := 2) E (dat dkX10_beside 21 rfl) rfl ?_
      refine r_icmp_ne (tgt := 40) E (dat dkX10_beside 22 rfl) rfl (fun h31 => ?_) (fun h31 => ?_)
      ·
        refine r_iload_n E (dat dkX10_beside 27 rfl) rfl rfl ?_
        refine r_istore_5 E (dat dkX10_beside 28 rfl) rfl rfl ?_
        refine r_iload_n E (dat dkX10_beside 29 rfl) rfl rfl ?_
        refine r_iconst (v := 1) E (dat dkX10_beside 30 rfl) rfl ?_
        refine r_icmp_ne (tgt := 55) E (dat dkX10_beside 31 rfl) rfl (fun h45 => ?_) (fun h45 => ?_)
        ·
          exact absurd rfl h45
        ·
          refine r_iload E (dat dkX10_beside 32 rfl) rfl ?_
          refine r_iconst (v := 1) E (dat dkX10_beside 33 rfl) rfl ?_
          refine r_iadd E (dat dkX10_beside 34 rfl) ?_
          refine r_goto (tgt := 69) E (dat dkX10_beside 35 rfl) rfl ?_
          rw [show nI k + 1 = nI (k + 1) from nI_1 k]
          refine r_istore_6 E (dat dkX10_beside 44 rfl) rfl rfl ?_
          refine r_iload E (dat dkX10_beside 45 rfl) rfl ?_
          refine r_i2l E (dat dkX10_beside 46 rfl) ?_
          refine r_lconst E (dat dkX10_beside 47 rfl) rfl ?_
          refine r_aload_n E (dat dkX10_beside 48 rfl) rfl rfl ?_
          refine q_geta E fl_X10_9 (dat dkX10_beside 49 rfl) rfl rfl rfl ?_
          refine r_iconst (v := 2) E (dat dkX10_beside 50 rfl) rfl ?_
          refine q_iald E (dat dkX10_beside 51 rfl) rfl rfl (by decide) md_a (show _ = nI 2 from rfl) (by omega) ?_
          rw [hA2]
          refine r_iconst (v := 1) E (dat dkX10_beside 52 rfl) rfl ?_
          refine r_isub E (dat dkX10_beside 53 rfl) ?_
          refine r_i2l E (dat dkX10_beside 54 rfl) ?_
          refine r_callS (μ := []) E (sp_X10_isWithin l G (nI r).toInt64 0 (nI u - 1).toInt64 _) my_X10_isWithin is_X10_isWithin ml_X10_80 cm_nil rfl rfl (by decide) (Nat.le_of_ble_eq_true rfl) (dat dkX10_beside 55 rfl) ?_
          rintro _ _ ⟨rfl, hM⟩
          refine ⟨_, Mrg_z hM, ?_⟩
          clear hM
          rw [wI (by omega) (by omega) (by omega), if_pos (show r < u by omega)]
          refine r_if_eq (tgt := 113) E (dat dkX10_beside 56 rfl) rfl (fun h87 => ?_) (fun h87 => ?_)
          ·
            exact absurd h87 (by decide)
          ·
            refine r_iload E (dat dkX10_beside 57 rfl) rfl ?_
            refine r_i2l E (dat dkX10_beside 58 rfl) ?_
            refine r_lconst E (dat dkX10_beside 59 rfl) rfl ?_
            refine r_aload_n E (dat dkX10_beside 60 rfl) rfl rfl ?_
            refine q_geta E fl_X10_9 (dat dkX10_beside 61 rfl) rfl rfl rfl ?_
            refine r_iconst (v := 1) E (dat dkX10_beside 62 rfl) rfl ?_
            refine q_iald E (dat dkX10_beside 63 rfl) rfl rfl (by decide) md_a (show _ = nI 1 from rfl) (by omega) ?_
            rw [hA1]
            refine r_iconst (v := 1) E (dat dkX10_beside 64 rfl) rfl ?_
            refine r_isub E (dat dkX10_beside 65 rfl) ?_
            refine r_i2l E (dat dkX10_beside 66 rfl) ?_
            refine r_callS (μ := []) E (sp_X10_isWithin l G (nI (k + 1)).toInt64 0 (nI v - 1).toInt64 _) my_X10_isWithin is_X10_isWithin ml_X10_80 cm_nil rfl rfl (by decide) (Nat.le_of_ble_eq_true rfl) (dat dkX10_beside 67 rfl) ?_
            rintro _ _ ⟨rfl, hM⟩
            refine ⟨_, Mrg_z hM, ?_⟩
            clear hM
            rw [wI (by omega) (by omega) (by omega), if_neg (show ¬ (k + 1) < v by omega)]
            refine r_if_eq (tgt := 113) E (dat dkX10_beside 68 rfl) rfl (fun h106 => ?_) (fun h106 => ?_)
            ·
              refine r_iconst (v := 0) E (dat dkX10_beside 71 rfl) rfl ?_
              refine r_istore_7 E (dat dkX10_beside 72 rfl) rfl rfl ?_
              refine r_iload E (dat dkX10_beside 73 rfl) rfl ?_
              refine r_if_eq (tgt := 136) E (dat dkX10_beside 74 rfl) rfl (fun h118 => ?_) (fun h118 => ?_)
              ·
                refine r_iconst (v := -1) E (dat dkX10_beside 84 rfl) rfl ?_
                refine r_ireturn E (dat dkX10_beside 85 rfl) (by decide) (by decide) ?_
                refine ⟨?_, rfl⟩
                rw [gnb_rc hr hk, show gN u v r k (r * v + k) 1 = none from if_neg (by omega)]
                rfl
              ·
                exact absurd rfl h118
            ·
              exact absurd rfl h106
      ·
        exact absurd h31 (by decide)
    ·
      exact absurd h20 (by decide)
  ·
    obtain rfl : d = 2 := hd9
    
    refine r_iload_n E (dat dkX10_beside 0 rfl) rfl rfl ?_
    refine r_aload_n E (dat dkX10_beside 1 rfl) rfl rfl ?_
    refine q_geta E fl_X10_9 (dat dkX10_beside 2 rfl) rfl rfl rfl ?_
    refine r_iconst (v := 1) E (dat dkX10_beside 3 rfl) rfl ?_
    refine q_iald E (dat dkX10_beside 4 rfl) rfl rfl (by decide) md_a (show _ = nI 1 from rfl) (by omega) ?_
    rw [hA1]
    refine r_idiv E (dat dkX10_beside 5 rfl) hv0 ?_
    rw [hdv]
    refine r_istore_3 E (dat dkX10_beside 6 rfl) rfl rfl ?_
    refine r_iload_n E (dat dkX10_beside 7 rfl) rfl rfl ?_
    refine r_aload_n E (dat dkX10_beside 8 rfl) rfl rfl ?_
    refine q_geta E fl_X10_9 (dat dkX10_beside 9 rfl) rfl rfl rfl ?_
    refine r_iconst (v := 1) E (dat dkX10_beside 10 rfl) rfl ?_
    refine q_iald E (dat dkX10_beside 11 rfl) rfl rfl (by decide) md_a (show _ = nI 1 from rfl) (by omega) ?_
    rw [hA1]
    refine r_irem E (dat dkX10_beside 12 rfl) hv0 ?_
    rw [hmd]
    refine r_istore_4 E (dat dkX10_beside 13 rfl) rfl rfl ?_
    refine r_iload_n E (dat dkX10_beside 14 rfl) rfl rfl ?_
    refine r_if_ne (tgt := 29) E (dat dkX10_beside 15 rfl) rfl (fun h20 => ?_) (fun h20 => ?_)
    ·
      refine r_iload_n E (dat dkX10_beside 20 rfl) rfl rfl ?_
      refine r_iconst (v := 2) E (dat dkX10_beside 21 rfl) rfl ?_
      refine r_icmp_ne (tgt := 40) E (dat dkX10_beside 22 rfl) rfl (fun h31 => ?_) (fun h31 => ?_)
      ·
        exact absurd rfl h31
      ·
        refine r_iload_n E (dat dkX10_beside 23 rfl) rfl rfl ?_
        refine r_iconst (v := 1) E (dat dkX10_beside 24 rfl) rfl ?_
        refine r_iadd E (dat dkX10_beside 25 rfl) ?_
        refine r_goto (tgt := 41) E (dat dkX10_beside 26 rfl) rfl ?_
        rw [show nI r + 1 = nI (r + 1) from nI_1 r]
        refine r_istore_5 E (dat dkX10_beside 28 rfl) rfl rfl ?_
        refine r_iload_n E (dat dkX10_beside 29 rfl) rfl rfl ?_
        refine r_iconst (v := 1) E (dat dkX10_beside 30 rfl) rfl ?_
        refine r_icmp_ne (tgt := 55) E (dat dkX10_beside 31 rfl) rfl (fun h45 => ?_) (fun h45 => ?_)
        ·
          refine r_iload_n E (dat dkX10_beside 36 rfl) rfl rfl ?_
          refine r_iconst (v := 3) E (dat dkX10_beside 37 rfl) rfl ?_
          refine r_icmp_ne (tgt := 67) E (dat dkX10_beside 38 rfl) rfl (fun h57 => ?_) (fun h57 => ?_)
          ·
            refine r_iload E (dat dkX10_beside 43 rfl) rfl ?_
            refine r_istore_6 E (dat dkX10_beside 44 rfl) rfl rfl ?_
            refine r_iload E (dat dkX10_beside 45 rfl) rfl ?_
            refine r_i2l E (dat dkX10_beside 46 rfl) ?_
            refine r_lconst E (dat dkX10_beside 47 rfl) rfl ?_
            refine r_aload_n E (dat dkX10_beside 48 rfl) rfl rfl ?_
            refine q_geta E fl_X10_9 (dat dkX10_beside 49 rfl) rfl rfl rfl ?_
            refine r_iconst (v := 2) E (dat dkX10_beside 50 rfl) rfl ?_
            refine q_iald E (dat dkX10_beside 51 rfl) rfl rfl (by decide) md_a (show _ = nI 2 from rfl) (by omega) ?_
            rw [hA2]
            refine r_iconst (v := 1) E (dat dkX10_beside 52 rfl) rfl ?_
            refine r_isub E (dat dkX10_beside 53 rfl) ?_
            refine r_i2l E (dat dkX10_beside 54 rfl) ?_
            refine r_callS (μ := []) E (sp_X10_isWithin l G (nI (r + 1)).toInt64 0 (nI u - 1).toInt64 _) my_X10_isWithin is_X10_isWithin ml_X10_80 cm_nil rfl rfl (by decide) (Nat.le_of_ble_eq_true rfl) (dat dkX10_beside 55 rfl) ?_
            rintro _ _ ⟨rfl, hM⟩
            refine ⟨_, Mrg_z hM, ?_⟩
            clear hM
            rw [wI (by omega) (by omega) (by omega), if_pos (show (r + 1) < u by omega)]
            refine r_if_eq (tgt := 113) E (dat dkX10_beside 56 rfl) rfl (fun h87 => ?_) (fun h87 => ?_)
            ·
              exact absurd h87 (by decide)
            ·
              refine r_iload E (dat dkX10_beside 57 rfl) rfl ?_
              refine r_i2l E (dat dkX10_beside 58 rfl) ?_
              refine r_lconst E (dat dkX10_beside 59 rfl) rfl ?_
              refine r_aload_n E (dat dkX10_beside 60 rfl) rfl rfl ?_
              refine q_geta E fl_X10_9 (dat dkX10_beside 61 rfl) rfl rfl rfl ?_
              refine r_iconst (v := 1) E (dat dkX10_beside 62 rfl) rfl ?_
              refine q_iald E (dat dkX10_beside 63 rfl) rfl rfl (by decide) md_a (show _ = nI 1 from rfl) (by omega) ?_
              rw [hA1]
              refine r_iconst (v := 1) E (dat dkX10_beside 64 rfl) rfl ?_
              refine r_isub E (dat dkX10_beside 65 rfl) ?_
              refine r_i2l E (dat dkX10_beside 66 rfl) ?_
              refine r_callS (μ := []) E (sp_X10_isWithin l G (nI k).toInt64 0 (nI v - 1).toInt64 _) my_X10_isWithin is_X10_isWithin ml_X10_80 cm_nil rfl rfl (by decide) (Nat.le_of_ble_eq_true rfl) (dat dkX10_beside 67 rfl) ?_
              rintro _ _ ⟨rfl, hM⟩
              refine ⟨_, Mrg_z hM, ?_⟩
              clear hM
              rw [wI (by omega) (by omega) (by omega), if_pos (show k < v by omega)]
              refine r_if_eq (tgt := 113) E (dat dkX10_beside 68 rfl) rfl (fun h106 => ?_) (fun h106 => ?_)
              ·
                exact absurd h106 (by decide)
              ·
                refine r_iconst (v := 1) E (dat dkX10_beside 69 rfl) rfl ?_
                refine r_goto (tgt := 114) E (dat dkX10_beside 70 rfl) rfl ?_
                refine r_istore_7 E (dat dkX10_beside 72 rfl) rfl rfl ?_
                refine r_iload E (dat dkX10_beside 73 rfl) rfl ?_
                refine r_if_eq (tgt := 136) E (dat dkX10_beside 74 rfl) rfl (fun h118 => ?_) (fun h118 => ?_)
                ·
                  exact absurd h118 (by decide)
                ·
                  refine r_iload E (dat dkX10_beside 75 rfl) rfl ?_
                  refine r_aload_n E (dat dkX10_beside 76 rfl) rfl rfl ?_
                  refine q_geta E fl_X10_9 (dat dkX10_beside 77 rfl) rfl rfl rfl ?_
                  refine r_iconst (v := 1) E (dat dkX10_beside 78 rfl) rfl ?_
                  refine q_iald E (dat dkX10_beside 79 rfl) rfl rfl (by decide) md_a (show _ = nI 1 from rfl) (by omega) ?_
                  rw [hA1]
                  refine r_imul E (dat dkX10_beside 80 rfl) ?_
                  rw [pk_mul]
                  refine r_iload E (dat dkX10_beside 81 rfl) rfl ?_
                  refine r_iadd E (dat dkX10_beside 82 rfl) ?_
                  rw [nI_add]
                  refine r_goto (tgt := 137) E (dat dkX10_beside 83 rfl) rfl ?_
                  refine r_ireturn E (dat dkX10_beside 85 rfl) (by decide) (by decide) ?_
                  refine ⟨?_, rfl⟩
                  rw [gnb_rc hr hk, show gN u v r k (r * v + k) 2 = some (r * v + k + v) from if_pos h9, show (r + 1) * v + k = r * v + k + v by
                    rw [Nat.succ_mul]; omega]
                  rfl
          ·
            exact absurd h57 (by decide)
        ·
          exact absurd h45 (by decide)
    ·
      exact absurd h20 (by decide)
  ·
    obtain rfl : d = 2 := hd9
    
    refine r_iload_n E (dat dkX10_beside 0 rfl) rfl rfl ?_
    refine r_aload_n E (dat dkX10_beside 1 rfl) rfl rfl ?_
    refine q_geta E fl_X10_9 (dat dkX10_beside 2 rfl) rfl rfl rfl ?_
    refine r_iconst (v := 1) E (dat dkX10_beside 3 rfl) rfl ?_
    refine q_iald E (dat dkX10_beside 4 rfl) rfl rfl (by decide) md_a (show _ = nI 1 from rfl) (by omega) ?_
    rw [hA1]
    refine r_idiv E (dat dkX10_beside 5 rfl) hv0 ?_
    rw [hdv]
    refine r_istore_3 E (dat dkX10_beside 6 rfl) rfl rfl ?_
    refine r_iload_n E (dat dkX10_beside 7 rfl) rfl rfl ?_
    refine r_aload_n E (dat dkX10_beside 8 rfl) rfl rfl ?_
    refine q_geta E fl_X10_9 (dat dkX10_beside 9 rfl) rfl rfl rfl ?_
    refine r_iconst (v := 1) E (dat dkX10_beside 10 rfl) rfl ?_
    refine q_iald E (dat dkX10_beside 11 rfl) rfl rfl (by decide) md_a (show _ = nI 1 from rfl) (by omega) ?_
    rw [hA1]
    refine r_irem E (dat dkX10_beside 12 rfl) hv0 ?_
    rw [hmd]
    refine r_istore_4 E (dat dkX10_beside 13 rfl) rfl rfl ?_
    refine r_iload_n E (dat dkX10_beside 14 rfl) rfl rfl ?_
    refine r_if_ne (tgt := 29) E (dat dkX10_beside 15 rfl) rfl (fun h20 => ?_) (fun h20 => ?_)
    ·
      refine r_iload_n E (dat dkX10_beside 20 rfl) rfl rfl ?_
      refine r_iconst (v := 2) E (dat dkX10_beside 21 rfl) rfl ?_
      refine r_icmp_ne (tgt := 40) E (dat dkX10_beside 22 rfl) rfl (fun h31 => ?_) (fun h31 => ?_)
      ·
        exact absurd rfl h31
      ·
        refine r_iload_n E (dat dkX10_beside 23 rfl) rfl rfl ?_
        refine r_iconst (v := 1) E (dat dkX10_beside 24 rfl) rfl ?_
        refine r_iadd E (dat dkX10_beside 25 rfl) ?_
        refine r_goto (tgt := 41) E (dat dkX10_beside 26 rfl) rfl ?_
        rw [show nI r + 1 = nI (r + 1) from nI_1 r]
        refine r_istore_5 E (dat dkX10_beside 28 rfl) rfl rfl ?_
        refine r_iload_n E (dat dkX10_beside 29 rfl) rfl rfl ?_
        refine r_iconst (v := 1) E (dat dkX10_beside 30 rfl) rfl ?_
        refine r_icmp_ne (tgt := 55) E (dat dkX10_beside 31 rfl) rfl (fun h45 => ?_) (fun h45 => ?_)
        ·
          refine r_iload_n E (dat dkX10_beside 36 rfl) rfl rfl ?_
          refine r_iconst (v := 3) E (dat dkX10_beside 37 rfl) rfl ?_
          refine r_icmp_ne (tgt := 67) E (dat dkX10_beside 38 rfl) rfl (fun h57 => ?_) (fun h57 => ?_)
          ·
            refine r_iload E (dat dkX10_beside 43 rfl) rfl ?_
            refine r_istore_6 E (dat dkX10_beside 44 rfl) rfl rfl ?_
            refine r_iload E (dat dkX10_beside 45 rfl) rfl ?_
            refine r_i2l E (dat dkX10_beside 46 rfl) ?_
            refine r_lconst E (dat dkX10_beside 47 rfl) rfl ?_
            refine r_aload_n E (dat dkX10_beside 48 rfl) rfl rfl ?_
            refine q_geta E fl_X10_9 (dat dkX10_beside 49 rfl) rfl rfl rfl ?_
            refine r_iconst (v := 2) E (dat dkX10_beside 50 rfl) rfl ?_
            refine q_iald E (dat dkX10_beside 51 rfl) rfl rfl (by decide) md_a (show _ = nI 2 from rfl) (by omega) ?_
            rw [hA2]
            refine r_iconst (v := 1) E (dat dkX10_beside 52 rfl) rfl ?_
            refine r_isub E (dat dkX10_beside 53 rfl) ?_
            refine r_i2l E (dat dkX10_beside 54 rfl) ?_
            refine r_callS (μ := []) E (sp_X10_isWithin l G (nI (r + 1)).toInt64 0 (nI u - 1).toInt64 _) my_X10_isWithin is_X10_isWithin ml_X10_80 cm_nil rfl rfl (by decide) (Nat.le_of_ble_eq_true rfl) (dat dkX10_beside 55 rfl) ?_
            rintro _ _ ⟨rfl, hM⟩
            refine ⟨_, Mrg_z hM, ?_⟩
            clear hM
            rw [wI (by omega) (by omega) (by omega), if_neg (show ¬ (r + 1) < u by omega)]
            refine r_if_eq (tgt := 113) E (dat dkX10_beside 56 rfl) rfl (fun h87 => ?_) (fun h87 => ?_)
            ·
              refine r_iconst (v := 0) E (dat dkX10_beside 71 rfl) rfl ?_
              refine r_istore_7 E (dat dkX10_beside 72 rfl) rfl rfl ?_
              refine r_iload E (dat dkX10_beside 73 rfl) rfl ?_
              refine r_if_eq (tgt := 136) E (dat dkX10_beside 74 rfl) rfl (fun h118 => ?_) (fun h118 => ?_)
              ·
                refine r_iconst (v := -1) E (dat dkX10_beside 84 rfl) rfl ?_
                refine r_ireturn E (dat dkX10_beside 85 rfl) (by decide) (by decide) ?_
                refine ⟨?_, rfl⟩
                rw [gnb_rc hr hk, show gN u v r k (r * v + k) 2 = none from if_neg (by omega)]
                rfl
              ·
                exact absurd rfl h118
            ·
              exact absurd rfl h87
          ·
            exact absurd h57 (by decide)
        ·
          exact absurd h45 (by decide)
    ·
      exact absurd h20 (by decide)
  ·
    obtain rfl : d = 3 := hd9
    
    refine r_iload_n E (dat dkX10_beside 0 rfl) rfl rfl ?_
    refine r_aload_n E (dat dkX10_beside 1 rfl) rfl rfl ?_
    refine q_geta E fl_X10_9 (dat dkX10_beside 2 rfl) rfl rfl rfl ?_
    refine r_iconst (v := 1) E (dat dkX10_beside 3 rfl) rfl ?_
    refine q_iald E (dat dkX10_beside 4 rfl) rfl rfl (by decide) md_a (show _ = nI 1 from rfl) (by omega) ?_
    rw [hA1]
    refine r_idiv E (dat dkX10_beside 5 rfl) hv0 ?_
    rw [hdv]
    refine r_istore_3 E (dat dkX10_beside 6 rfl) rfl rfl ?_
    refine r_iload_n E (dat dkX10_beside 7 rfl) rfl rfl ?_
    refine r_aload_n E (dat dkX10_beside 8 rfl) rfl rfl ?_
    refine q_geta E fl_X10_9 (dat dkX10_beside 9 rfl) rfl rfl rfl ?_
    refine r_iconst (v := 1) E (dat dkX10_beside 10 rfl) rfl ?_
    refine q_iald E (dat dkX10_beside 11 rfl) rfl rfl (by decide) md_a (show _ = nI 1 from rfl) (by omega) ?_
    rw [hA1]
    refine r_irem E (dat dkX10_beside 12 rfl) hv0 ?_
    rw [hmd]
    refine r_istore_4 E (dat dkX10_beside 13 rfl) rfl rfl ?_
    refine r_iload_n E (dat dkX10_beside 14 rfl) rfl rfl ?_
    refine r_if_ne (tgt := 29) E (dat dkX10_beside 15 rfl) rfl (fun h20 => ?_) (fun h20 => ?_)
    ·
      refine r_iload_n E (dat dkX10_beside 20 rfl) rfl rfl ?_
      refine r_iconst (v := 2) E (dat dkX10_beside 21 rfl) rfl ?_
      refine r_icmp_ne (tgt := 40) E (dat dkX10_beside 22 rfl) rfl (fun h31 => ?_) (fun h31 => ?_)
      ·
        refine r_iload_n E (dat dkX10_beside 27 rfl) rfl rfl ?_
        refine r_istore_5 E (dat dkX10_beside 28 rfl) rfl rfl ?_
        refine r_iload_n E (dat dkX10_beside 29 rfl) rfl rfl ?_
        refine r_iconst (v := 1) E (dat dkX10_beside 30 rfl) rfl ?_
        refine r_icmp_ne (tgt := 55) E (dat dkX10_beside 31 rfl) rfl (fun h45 => ?_) (fun h45 => ?_)
        ·
          refine r_iload_n E (dat dkX10_beside 36 rfl) rfl rfl ?_
          refine r_iconst (v := 3) E (dat dkX10_beside 37 rfl) rfl ?_
          refine r_icmp_ne (tgt := 67) E (dat dkX10_beside 38 rfl) rfl (fun h57 => ?_) (fun h57 => ?_)
          ·
            exact absurd rfl h57
          ·
            refine r_iload E (dat dkX10_beside 39 rfl) rfl ?_
            refine r_iconst (v := 1) E (dat dkX10_beside 40 rfl) rfl ?_
            refine r_isub E (dat dkX10_beside 41 rfl) ?_
            refine r_goto (tgt := 69) E (dat dkX10_beside 42 rfl) rfl ?_
            rw [show nI k - 1 = nI (k - 1) from nI_sb (b := 1) h9]
            refine r_istore_6 E (dat dkX10_beside 44 rfl) rfl rfl ?_
            refine r_iload E (dat dkX10_beside 45 rfl) rfl ?_
            refine r_i2l E (dat dkX10_beside 46 rfl) ?_
            refine r_lconst E (dat dkX10_beside 47 rfl) rfl ?_
            refine r_aload_n E (dat dkX10_beside 48 rfl) rfl rfl ?_
            refine q_geta E fl_X10_9 (dat dkX10_beside 49 rfl) rfl rfl rfl ?_
            refine r_iconst (v := 2) E (dat dkX10_beside 50 rfl) rfl ?_
            refine q_iald E (dat dkX10_beside 51 rfl) rfl rfl (by decide) md_a (show _ = nI 2 from rfl) (by omega) ?_
            rw [hA2]
            refine r_iconst (v := 1) E (dat dkX10_beside 52 rfl) rfl ?_
            refine r_isub E (dat dkX10_beside 53 rfl) ?_
            refine r_i2l E (dat dkX10_beside 54 rfl) ?_
            refine r_callS (μ := []) E (sp_X10_isWithin l G (nI r).toInt64 0 (nI u - 1).toInt64 _) my_X10_isWithin is_X10_isWithin ml_X10_80 cm_nil rfl rfl (by decide) (Nat.le_of_ble_eq_true rfl) (dat dkX10_beside 55 rfl) ?_
            rintro _ _ ⟨rfl, hM⟩
            refine ⟨_, Mrg_z hM, ?_⟩
            clear hM
            rw [wI (by omega) (by omega) (by omega), if_pos (show r < u by omega)]
            refine r_if_eq (tgt := 113) E (dat dkX10_beside 56 rfl) rfl (fun h87 => ?_) (fun h87 => ?_)
            ·
              exact absurd h87 (by decide)
            ·
              refine r_iload E (dat dkX10_beside 57 rfl) rfl ?_
              refine r_i2l E (dat dkX10_beside 58 rfl) ?_
              refine r_lconst E (dat dkX10_beside 59 rfl) rfl ?_
              refine r_aload_n E (dat dkX10_beside 60 rfl) rfl rfl ?_
              refine q_geta E fl_X10_9 (dat dkX10_beside 61 rfl) rfl rfl rfl ?_
              refine r_iconst (v := 1) E (dat dkX10_beside 62 rfl) rfl ?_
              refine q_iald E (dat dkX10_beside 63 rfl) rfl rfl (by decide) md_a (show _ = nI 1 from rfl) (by omega) ?_
              rw [hA1]
              refine r_iconst (v := 1) E (dat dkX10_beside 64 rfl) rfl ?_
              refine r_isub E (dat dkX10_beside 65 rfl) ?_
              refine r_i2l E (dat dkX10_beside 66 rfl) ?_
              refine r_callS (μ := []) E (sp_X10_isWithin l G (nI (k - 1)).toInt64 0 (nI v - 1).toInt64 _) my_X10_isWithin is_X10_isWithin ml_X10_80 cm_nil rfl rfl (by decide) (Nat.le_of_ble_eq_true rfl) (dat dkX10_beside 67 rfl) ?_
              rintro _ _ ⟨rfl, hM⟩
              refine ⟨_, Mrg_z hM, ?_⟩
              clear hM
              rw [wI (by omega) (by omega) (by omega), if_pos (show (k - 1) < v by omega)]
              refine r_if_eq (tgt := 113) E (dat dkX10_beside 68 rfl) rfl (fun h106 => ?_) (fun h106 => ?_)
              ·
                exact absurd h106 (by decide)
              ·
                refine r_iconst (v := 1) E (dat dkX10_beside 69 rfl) rfl ?_
                refine r_goto (tgt := 114) E (dat dkX10_beside 70 rfl) rfl ?_
                refine r_istore_7 E (dat dkX10_beside 72 rfl) rfl rfl ?_
                refine r_iload E (dat dkX10_beside 73 rfl) rfl ?_
                refine r_if_eq (tgt := 136) E (dat dkX10_beside 74 rfl) rfl (fun h118 => ?_) (fun h118 => ?_)
                ·
                  exact absurd h118 (by decide)
                ·
                  refine r_iload E (dat dkX10_beside 75 rfl) rfl ?_
                  refine r_aload_n E (dat dkX10_beside 76 rfl) rfl rfl ?_
                  refine q_geta E fl_X10_9 (dat dkX10_beside 77 rfl) rfl rfl rfl ?_
                  refine r_iconst (v := 1) E (dat dkX10_beside 78 rfl) rfl ?_
                  refine q_iald E (dat dkX10_beside 79 rfl) rfl rfl (by decide) md_a (show _ = nI 1 from rfl) (by omega) ?_
                  rw [hA1]
                  refine r_imul E (dat dkX10_beside 80 rfl) ?_
                  rw [pk_mul]
                  refine r_iload E (dat dkX10_beside 81 rfl) rfl ?_
                  refine r_iadd E (dat dkX10_beside 82 rfl) ?_
                  rw [nI_add]
                  refine r_goto (tgt := 137) E (dat dkX10_beside 83 rfl) rfl ?_
                  refine r_ireturn E (dat dkX10_beside 85 rfl) (by decide) (by decide) ?_
                  refine ⟨?_, rfl⟩
                  rw [gnb_rc hr hk, show gN u v r k (r * v + k) 3 = some (r * v + k - 1) from if_pos h9, show r * v + (k - 1) = r * v + k - 1 by
                    omega]
                  rfl
        ·
          exact absurd h45 (by decide)
      ·
        exact absurd h31 (by decide)
    ·
      exact absurd h20 (by decide)
  ·
    obtain rfl : d = 3 := hd9
    obtain rfl : k = 0 := by omega
    
    refine r_iload_n E (dat dkX10_beside 0 rfl) rfl rfl ?_
    refine r_aload_n E (dat dkX10_beside 1 rfl) rfl rfl ?_
    refine q_geta E fl_X10_9 (dat dkX10_beside 2 rfl) rfl rfl rfl ?_
    refine r_iconst (v := 1) E (dat dkX10_beside 3 rfl) rfl ?_
    refine q_iald E (dat dkX10_beside 4 rfl) rfl rfl (by decide) md_a (show _ = nI 1 from rfl) (by omega) ?_
    rw [hA1]
    refine r_idiv E (dat dkX10_beside 5 rfl) hv0 ?_
    rw [hdv]
    refine r_istore_3 E (dat dkX10_beside 6 rfl) rfl rfl ?_
    refine r_iload_n E (dat dkX10_beside 7 rfl) rfl rfl ?_
    refine r_aload_n E (dat dkX10_beside 8 rfl) rfl rfl ?_
    refine q_geta E fl_X10_9 (dat dkX10_beside 9 rfl) rfl rfl rfl ?_
    refine r_iconst (v := 1) E (dat dkX10_beside 10 rfl) rfl ?_
    refine q_iald E (dat dkX10_beside 11 rfl) rfl rfl (by decide) md_a (show _ = nI 1 from rfl) (by omega) ?_
    rw [hA1]
    refine r_irem E (dat dkX10_beside 12 rfl) hv0 ?_
    rw [hmd]
    refine r_istore_4 E (dat dkX10_beside 13 rfl) rfl rfl ?_
    refine r_iload_n E (dat dkX10_beside 14 rfl) rfl rfl ?_
    refine r_if_ne (tgt := 29) E (dat dkX10_beside 15 rfl) rfl (fun h20 => ?_) (fun h20 => ?_)
    ·
      refine r_iload_n E (dat dkX10_beside 20 rfl) rfl rfl ?_
      refine r_iconst (v := 2) E (dat dkX10_beside 21 rfl) rfl ?_
      refine r_icmp_ne (tgt := 40) E (dat dkX10_beside 22 rfl) rfl (fun h31 => ?_) (fun h31 => ?_)
      ·
        refine r_iload_n E (dat dkX10_beside 27 rfl) rfl rfl ?_
        refine r_istore_5 E (dat dkX10_beside 28 rfl) rfl rfl ?_
        refine r_iload_n E (dat dkX10_beside 29 rfl) rfl rfl ?_
        refine r_iconst (v := 1) E (dat dkX10_beside 30 rfl) rfl ?_
        refine r_icmp_ne (tgt := 55) E (dat dkX10_beside 31 rfl) rfl (fun h45 => ?_) (fun h45 => ?_)
        ·
          refine r_iload_n E (dat dkX10_beside 36 rfl) rfl rfl ?_
          refine r_iconst (v := 3) E (dat dkX10_beside 37 rfl) rfl ?_
          refine r_icmp_ne (tgt := 67) E (dat dkX10_beside 38 rfl) rfl (fun h57 => ?_) (fun h57 => ?_)
          ·
            exact absurd rfl h57
          ·
            refine r_iload E (dat dkX10_beside 39 rfl) rfl ?_
            refine r_iconst (v := 1) E (dat dkX10_beside 40 rfl) rfl ?_
            refine r_isub E (dat dkX10_beside 41 rfl) ?_
            refine r_goto (tgt := 69) E (dat dkX10_beside 42 rfl) rfl ?_
            refine r_istore_6 E (dat dkX10_beside 44 rfl) rfl rfl ?_
            refine r_iload E (dat dkX10_beside 45 rfl) rfl ?_
            refine r_i2l E (dat dkX10_beside 46 rfl) ?_
            refine r_lconst E (dat dkX10_beside 47 rfl) rfl ?_
            refine r_aload_n E (dat dkX10_beside 48 rfl) rfl rfl ?_
            refine q_geta E fl_X10_9 (dat dkX10_beside 49 rfl) rfl rfl rfl ?_
            refine r_iconst (v := 2) E (dat dkX10_beside 50 rfl) rfl ?_
            refine q_iald E (dat dkX10_beside 51 rfl) rfl rfl (by decide) md_a (show _ = nI 2 from rfl) (by omega) ?_
            rw [hA2]
            refine r_iconst (v := 1) E (dat dkX10_beside 52 rfl) rfl ?_
            refine r_isub E (dat dkX10_beside 53 rfl) ?_
            refine r_i2l E (dat dkX10_beside 54 rfl) ?_
            refine r_callS (μ := []) E (sp_X10_isWithin l G (nI r).toInt64 0 (nI u - 1).toInt64 _) my_X10_isWithin is_X10_isWithin ml_X10_80 cm_nil rfl rfl (by decide) (Nat.le_of_ble_eq_true rfl) (dat dkX10_beside 55 rfl) ?_
            rintro _ _ ⟨rfl, hM⟩
            refine ⟨_, Mrg_z hM, ?_⟩
            clear hM
            rw [wI (by omega) (by omega) (by omega), if_pos (show r < u by omega)]
            refine r_if_eq (tgt := 113) E (dat dkX10_beside 56 rfl) rfl (fun h87 => ?_) (fun h87 => ?_)
            ·
              exact absurd h87 (by decide)
            ·
              refine r_iload E (dat dkX10_beside 57 rfl) rfl ?_
              refine r_i2l E (dat dkX10_beside 58 rfl) ?_
              refine r_lconst E (dat dkX10_beside 59 rfl) rfl ?_
              refine r_aload_n E (dat dkX10_beside 60 rfl) rfl rfl ?_
              refine q_geta E fl_X10_9 (dat dkX10_beside 61 rfl) rfl rfl rfl ?_
              refine r_iconst (v := 1) E (dat dkX10_beside 62 rfl) rfl ?_
              refine q_iald E (dat dkX10_beside 63 rfl) rfl rfl (by decide) md_a (show _ = nI 1 from rfl) (by omega) ?_
              rw [hA1]
              refine r_iconst (v := 1) E (dat dkX10_beside 64 rfl) rfl ?_
              refine r_isub E (dat dkX10_beside 65 rfl) ?_
              refine r_i2l E (dat dkX10_beside 66 rfl) ?_
              refine r_callS (μ := []) E (sp_X10_isWithin l G (nI 0 - 1).toInt64 0 (nI v - 1).toInt64 _) my_X10_isWithin is_X10_isWithin ml_X10_80 cm_nil rfl rfl (by decide) (Nat.le_of_ble_eq_true rfl) (dat dkX10_beside 67 rfl) ?_
              rintro _ _ ⟨rfl, hM⟩
              refine ⟨_, Mrg_z hM, ?_⟩
              clear hM
              rw [wI_m]
              refine r_if_eq (tgt := 113) E (dat dkX10_beside 68 rfl) rfl (fun h106 => ?_) (fun h106 => ?_)
              ·
                refine r_iconst (v := 0) E (dat dkX10_beside 71 rfl) rfl ?_
                refine r_istore_7 E (dat dkX10_beside 72 rfl) rfl rfl ?_
                refine r_iload E (dat dkX10_beside 73 rfl) rfl ?_
                refine r_if_eq (tgt := 136) E (dat dkX10_beside 74 rfl) rfl (fun h118 => ?_) (fun h118 => ?_)
                ·
                  refine r_iconst (v := -1) E (dat dkX10_beside 84 rfl) rfl ?_
                  refine r_ireturn E (dat dkX10_beside 85 rfl) (by decide) (by decide) ?_
                  refine ⟨?_, rfl⟩
                  rw [gnb_rc hr hk, show gN u v r 0 (r * v + 0) 3 = none from rfl]
                  rfl
                ·
                  exact absurd rfl h118
              ·
                exact absurd rfl h106
        ·
          exact absurd h45 (by decide)
      ·
        exact absurd h31 (by decide)
    ·
      exact absurd h20 (by decide)
