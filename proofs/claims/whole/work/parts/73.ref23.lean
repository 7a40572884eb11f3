/-! the reference: is the token this word? -/
set_option maxRecDepth 100000 in
set_option maxHeartbeats 4000000 in
theorem sp_X10_isWord (l : Launch) (G : GT) (bs : Nat → Int32) (n P s i : Nat) (ki : Int32) (M : Mem) (hB : M 0 10 = bs) (h13 : M 0 0 13 = nI s) (h14 : M 0 0 14 = nI P) (h15 : M 0 0 15 = ki) (hi : i < 33) (hsP : s ≤ P) (hP : P ≤ n) (hn : n ≤ 600) : MC l G yX10_isWord cX10_isWord 3 (some .boolean) ({ frames := 4, cells := 0, slots := 0, locals := 85 } : Room) [9] lk0 [rv 0 0, rv 97 i] (M) (fun r M2 => r = some (iv (if 0 < M 0 0 17 then 0 else isW bs ki s P (bytJS.getD i []))) ∧ M2 = M) := by
  refine MC.of RX10 [some (rv 0 0), some (rv 97 i), none] 1 (by decide +kernel) rfl rfl rfl ?_
  intro pp ee ss mm aa bb me cd ad E
  have hle := lenJS_le i hi
  have hlen := ch_len i hi
  by_cases h17 : 0 < M 0 0 17
  ·
    refine r_aload_n E (dat dkX10_isWord 0 rfl) rfl rfl ?_
    refine q_getn E fl_X10_165 (dat dkX10_isWord 1 rfl) rfl rfl rfl rfl ?_
    refine r_if_gt (tgt := 31) E (dat dkX10_isWord 2 rfl) rfl (fun h4 => ?_) (fun h4 => ?_)
    ·
      refine r_iconst (v := 0) E (dat dkX10_isWord 15 rfl) rfl ?_
      refine r_zreturn E (dat dkX10_isWord 16 rfl) rfl (by decide) (by decide) ?_
      exact ⟨by rw [if_pos h17], rfl⟩
    ·
      exact absurd h17 (by first | exact h4 | exact Int32.not_lt.mpr h4)
  ·
    refine r_aload_n E (dat dkX10_isWord 0 rfl) rfl rfl ?_
    refine q_getn E fl_X10_165 (dat dkX10_isWord 1 rfl) rfl rfl rfl rfl ?_
    refine r_if_gt (tgt := 31) E (dat dkX10_isWord 2 rfl) rfl (fun h4 => ?_) (fun h4 => ?_)
    ·
      exact absurd h4 h17
    ·
      refine r_aload_n E (dat dkX10_isWord 3 rfl) rfl rfl ?_
      refine q_getn E fl_X10_174 (dat dkX10_isWord 4 rfl) rfl rfl rfl (show _ = ki from h15) ?_
      refine r_iconst (v := 1) E (dat dkX10_isWord 5 rfl) rfl ?_
      refine r_icmp_ne (tgt := 31) E (dat dkX10_isWord 6 rfl) rfl (fun h12 => ?_) (fun h12 => ?_)
      ·
        refine r_iconst (v := 0) E (dat dkX10_isWord 15 rfl) rfl ?_
        refine r_zreturn E (dat dkX10_isWord 16 rfl) rfl (by decide) (by decide) ?_
        refine ⟨?_, rfl⟩
        rw [if_neg h17]
        first
          | rw [isW_0 (fun q => h12 q.1)]
          | rw [isW_0 (fun q => by (have h1 := q.2.1; omega))]
      ·
        refine r_aload_n E (dat dkX10_isWord 7 rfl) rfl rfl ?_
        refine q_getn E fl_X10_168 (dat dkX10_isWord 8 rfl) rfl rfl rfl (show _ = nI P from h14) ?_
        refine r_aload_n E (dat dkX10_isWord 9 rfl) rfl rfl ?_
        refine q_getn E fl_X10_171 (dat dkX10_isWord 10 rfl) rfl rfl rfl (show _ = nI s from h13) ?_
        refine r_isub E (dat dkX10_isWord 11 rfl) ?_
        refine r_aload_n E (dat dkX10_isWord 12 rfl) rfl rfl ?_
        refine r_callK E (sp_J0_length_8abf5 l G i _ hi) (KRC_s E (by omega)) my_J0_length_8abf5 iv_J0_length_8abf5 ml_X10_192  rfl rfl (by decide) (Nat.le_of_ble_eq_true rfl) (dat dkX10_isWord 13 rfl) ?_
        rintro _ _ ⟨rfl, hM⟩
        refine ⟨hM, ?_⟩
        clear hM
        refine q_icmp_eq (tgt := 33) E (dat dkX10_isWord 14 rfl) rfl (nI_sb hsP) rfl (by omega) (by omega) (fun h28 => ?_) (fun h28 => ?_)
        ·
          refine r_iconst (v := 0) E (dat dkX10_isWord 17 rfl) rfl ?_
          refine r_istore_2 E (dat dkX10_isWord 18 rfl) rfl rfl ?_
          refine r_for ((lenJS.getD i 0)) (fun k => ∀ q, q < k → bs (s + q) = bJS i q) (fun k => M) (fun k => [some (rv 0 0), some (rv 97 i), some (iv (nI k))]) (fun q hq => absurd hq (Nat.not_lt_zero q)) rfl rfl ?_ ?_
          · intro k hk hI kk
            refine r_iload_n E (dat dkX10_isWord 19 rfl) rfl rfl ?_
            refine r_aload_n E (dat dkX10_isWord 20 rfl) rfl rfl ?_
            refine r_callK E (sp_J0_length_8abf5 l G i _ hi) (KRC_s E (by omega)) my_J0_length_8abf5 iv_J0_length_8abf5 ml_X10_192  rfl rfl (by decide) (Nat.le_of_ble_eq_true rfl) (dat dkX10_isWord 21 rfl) ?_
            rintro _ _ ⟨rfl, hM⟩
            refine ⟨hM, ?_⟩
            clear hM
            refine q_icmp_ge (tgt := 70) E (dat dkX10_isWord 22 rfl) rfl rfl rfl (by omega) (by omega) (fun h40 => ?_) (fun h40 => ?_)
            ·
              omega
            ·
              refine r_aload_n E (dat dkX10_isWord 23 rfl) rfl rfl ?_
              refine q_geta E fl_X10_25 (dat dkX10_isWord 24 rfl) rfl rfl rfl ?_
              refine r_aload_n E (dat dkX10_isWord 25 rfl) rfl rfl ?_
              refine q_getn E fl_X10_171 (dat dkX10_isWord 26 rfl) rfl rfl rfl (show _ = nI s from h13) ?_
              refine r_iload_n E (dat dkX10_isWord 27 rfl) rfl rfl ?_
              refine r_iadd E (dat dkX10_isWord 28 rfl) ?_
              refine q_bald E (dat dkX10_isWord 29 rfl) rfl rfl (by decide) (show _ = bs from hB) (nI_add _ _) (show s + k < 600 by omega) ?_
              refine r_aload_n E (dat dkX10_isWord 30 rfl) rfl rfl ?_
              refine r_iload_n E (dat dkX10_isWord 31 rfl) rfl rfl ?_
              refine r_callK E (sp_J0_charAt_5068e l G i k _ hi hk) (KRC_s E (by omega)) my_J0_charAt_5068e iv_J0_charAt_5068e ml_X10_57  rfl rfl (by decide) (Nat.le_of_ble_eq_true rfl) (dat dkX10_isWord 32 rfl) ?_
              rintro _ _ ⟨rfl, hM⟩
              refine ⟨hM, ?_⟩
              clear hM
              refine r_icmp_eq (tgt := 64) E (dat dkX10_isWord 33 rfl) rfl (fun h59 => ?_) (fun h59 => ?_)
              ·
                refine q_iinc_2 E (dat dkX10_isWord 36 rfl) rfl rfl ?_
                refine r_goto (tgt := 35) E (dat dkX10_isWord 37 rfl) rfl ?_
                refine kk (fun q hq => ?_)
                by_cases hqk : q = k
                · subst hqk; exact h59
                · exact hI q (by omega)
              ·
                refine r_iconst (v := 0) E (dat dkX10_isWord 34 rfl) rfl ?_
                refine r_zreturn E (dat dkX10_isWord 35 rfl) rfl (by decide) (by decide) ?_
                refine ⟨?_, rfl⟩
                rw [if_neg h17, isW_0 (fun q => h59 (q.2.2 k (by omega)))]
          · intro hI
            refine r_iload_n E (dat dkX10_isWord 19 rfl) rfl rfl ?_
            refine r_aload_n E (dat dkX10_isWord 20 rfl) rfl rfl ?_
            refine r_callK E (sp_J0_length_8abf5 l G i _ hi) (KRC_s E (by omega)) my_J0_length_8abf5 iv_J0_length_8abf5 ml_X10_192  rfl rfl (by decide) (Nat.le_of_ble_eq_true rfl) (dat dkX10_isWord 21 rfl) ?_
            rintro _ _ ⟨rfl, hM⟩
            refine ⟨hM, ?_⟩
            clear hM
            refine q_icmp_ge (tgt := 70) E (dat dkX10_isWord 22 rfl) rfl rfl rfl (by omega) (by omega) (fun h40 => ?_) (fun h40 => ?_)
            ·
              refine r_iconst (v := 1) E (dat dkX10_isWord 38 rfl) rfl ?_
              refine r_zreturn E (dat dkX10_isWord 39 rfl) rfl (by decide) (by decide) ?_
              refine ⟨?_, rfl⟩
              rw [if_neg h17, isW_1 (by first | exact h12 | exact Decidable.not_not.mp h12) (by omega) (fun q hq => hI q (by omega))]
            ·
              omega
        ·
          refine r_iconst (v := 0) E (dat dkX10_isWord 15 rfl) rfl ?_
          refine r_zreturn E (dat dkX10_isWord 16 rfl) rfl (by decide) (by decide) ?_
          refine ⟨?_, rfl⟩
          rw [if_neg h17]
          first
            | rw [isW_0 (fun q => h12 q.1)]
            | rw [isW_0 (fun q => by (have h1 := q.2.1; omega))]
