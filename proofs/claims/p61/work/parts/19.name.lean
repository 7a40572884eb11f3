set_option maxRecDepth 100000 in
set_option maxHeartbeats 16000000 in
theorem sp_X6_isName (l : Launch) (G : GT) (B0 : Nat → Nat → Int32) (n P s : Nat) (ki va ec eo : Int32) (bs : Nat → Int32) (B1 : Nat → Nat → Int32) (ro co : Int32) (ce : Int32) (bc fr : Int32) (he gu be nm nl bh fp n0 n1 n2 n3 : Nat → Int32) (k L : Nat) (M : Mem) (hA0 : M 0 = (vT B0 (nI n) (nI P) ki (nI s) va ec eo bs)) (hA1 : M 1 = (vP B1 ro co (ce) bc fr he gu be nm nl bh fp n0 n1 n2 n3)) (hk : k < 4) (hsP : s ≤ P) (hP : P ≤ n) (hn : n ≤ 600) (hL : L < 1000) : MC l G yX6_isName cX6_isName 4 (some .boolean) ({ frames := 0, cells := 0, slots := 0, locals := 0 } : Room) [3, 2] lk0 [rv 0 0, rv 1 (8 + k), iv (nI L)] (M) (fun r M2 => r = some (iv (isN bs s P (rw4 n0 n1 n2 n3 k) L)) ∧ M2 = M) := by
  obtain ⟨M0, rfl⟩ : ∃ M0, M = m2 ((vT B0 (nI n) (nI P) ki (nI s) va ec eo bs)) ((vP B1 ro co (ce) bc fr he gu be nm nl bh fp n0 n1 n2 n3)) M0 := ⟨M, (m2_of hA0 hA1).symm⟩
  clear hA0 hA1
  refine MC.of RX6 [some (rv 0 0), some (rv 1 (8 + k)), some (iv (nI L)), none] 1 (by decide +kernel) rfl rfl rfl ?_
  intro pp ee ss mm aa bb me cd ad E
  rcases (show k = 0 ∨ k = 1 ∨ k = 2 ∨ k = 3 by omega) with rfl | rfl | rfl | rfl
  ·
    refine r_aload_n E (dat dkX6_isName 0 rfl) rfl rfl ?_
    refine q_getn E fl_X6_19 (dat dkX6_isName 1 rfl) rfl rfl rfl (go2_0 gfT_2) ?_
    refine r_aload_n E (dat dkX6_isName 2 rfl) rfl rfl ?_
    refine q_getn E fl_X6_25 (dat dkX6_isName 3 rfl) rfl rfl rfl (go2_0 gfT_4) ?_
    refine r_isub E (dat dkX6_isName 4 rfl) ?_
    refine r_iload_n E (dat dkX6_isName 5 rfl) rfl rfl ?_
    refine q_icmp_ne (tgt := 19) E (dat dkX6_isName 6 rfl) rfl (nI_sb hsP) rfl (by omega) (by omega) (fun h10 => ?_) (fun h10 => ?_)
    ·
      refine r_iconst (v := 0) E (dat dkX6_isName 11 rfl) rfl ?_
      refine r_zreturn E (dat dkX6_isName 12 rfl) rfl (by decide) (by decide) ?_
      refine ⟨?_, rfl⟩
      unfold isN
      rw [if_neg (fun q => by (have h1 := q.1; have h2 := q.2.1; omega))]
    ·
      refine r_iload_n E (dat dkX6_isName 7 rfl) rfl rfl ?_
      refine r_aload_n E (dat dkX6_isName 8 rfl) rfl rfl ?_
      refine r_alen E (dat dkX6_isName 9 rfl) rfl (by decide) rfl rfl ?_
      refine q_icmp_le (tgt := 21) E (dat dkX6_isName 10 rfl) rfl rfl (b := 6) rfl (by omega) (by omega) (fun h16 => ?_) (fun h16 => ?_)
      ·
        refine r_iconst (v := 0) E (dat dkX6_isName 13 rfl) rfl ?_
        refine r_istore_3 E (dat dkX6_isName 14 rfl) rfl rfl ?_
        refine r_for (L) (fun i => ∀ q, q < i → bs (s + q) = (rw4 n0 n1 n2 n3 0) q) (fun i => m2 (vT B0 (nI n) (nI P) ki (nI s) va ec eo bs) (vP B1 ro co (ce) bc fr he gu be nm nl bh fp n0 n1 n2 n3) M0) (fun i => [some (rv 0 0), some (rv 1 (8 + 0)), some (iv (nI L)), some (iv (nI i))]) (fun q hq => absurd hq (Nat.not_lt_zero q)) rfl rfl ?_ ?_
        · intro i hi hI kk
          refine r_iload_n E (dat dkX6_isName 15 rfl) rfl rfl ?_
          refine r_iload_n E (dat dkX6_isName 16 rfl) rfl rfl ?_
          refine q_icmp_ge (tgt := 53) E (dat dkX6_isName 17 rfl) rfl rfl rfl (by omega) (by omega) (fun h25 => ?_) (fun h25 => ?_)
          ·
            omega
          ·
            refine r_aload_n E (dat dkX6_isName 18 rfl) rfl rfl ?_
            refine q_geta E fl_X6_9 (dat dkX6_isName 19 rfl) rfl rfl rfl ?_
            refine r_aload_n E (dat dkX6_isName 20 rfl) rfl rfl ?_
            refine q_getn E fl_X6_25 (dat dkX6_isName 21 rfl) rfl rfl rfl (go2_0 gfT_4) ?_
            refine r_iload_n E (dat dkX6_isName 22 rfl) rfl rfl ?_
            refine r_iadd E (dat dkX6_isName 23 rfl) ?_
            refine q_bald E (dat dkX6_isName 24 rfl) rfl rfl (by decide) (gg2_0 gaT_1) (nI_add _ _) (show s + i < 600 by omega) ?_
            refine r_aload_n E (dat dkX6_isName 25 rfl) rfl rfl ?_
            refine r_iload_n E (dat dkX6_isName 26 rfl) rfl rfl ?_
            refine q_bald E (dat dkX6_isName 27 rfl) rfl rfl (by decide) (gg2_1 gaP_8) rfl (show i < 6 by omega) ?_
            refine r_icmp_eq (tgt := 47) E (dat dkX6_isName 28 rfl) rfl (fun h42 => ?_) (fun h42 => ?_)
            ·
              refine q_iinc_3 E (dat dkX6_isName 31 rfl) rfl rfl ?_
              refine r_goto (tgt := 23) E (dat dkX6_isName 32 rfl) rfl ?_
              refine kk (fun q hq => ?_)
              by_cases hqi : q = i
              · subst hqi; exact h42
              · exact hI q (by omega)
            ·
              refine r_iconst (v := 0) E (dat dkX6_isName 29 rfl) rfl ?_
              refine r_zreturn E (dat dkX6_isName 30 rfl) rfl (by decide) (by decide) ?_
              refine ⟨?_, rfl⟩
              unfold isN
              rw [if_neg (fun q => h42 (q.2.2 i hi))]
        · intro hI
          refine r_iload_n E (dat dkX6_isName 15 rfl) rfl rfl ?_
          refine r_iload_n E (dat dkX6_isName 16 rfl) rfl rfl ?_
          refine q_icmp_ge (tgt := 53) E (dat dkX6_isName 17 rfl) rfl rfl rfl (by omega) (by omega) (fun h25 => ?_) (fun h25 => ?_)
          ·
            refine r_iconst (v := 1) E (dat dkX6_isName 33 rfl) rfl ?_
            refine r_zreturn E (dat dkX6_isName 34 rfl) rfl (by decide) (by decide) ?_
            refine ⟨?_, rfl⟩
            unfold isN
            rw [if_pos ⟨h10, h16, hI⟩]
          ·
            omega
      ·
        refine r_iconst (v := 0) E (dat dkX6_isName 11 rfl) rfl ?_
        refine r_zreturn E (dat dkX6_isName 12 rfl) rfl (by decide) (by decide) ?_
        refine ⟨?_, rfl⟩
        unfold isN
        rw [if_neg (fun q => by (have h1 := q.1; have h2 := q.2.1; omega))]
  ·
    refine r_aload_n E (dat dkX6_isName 0 rfl) rfl rfl ?_
    refine q_getn E fl_X6_19 (dat dkX6_isName 1 rfl) rfl rfl rfl (go2_0 gfT_2) ?_
    refine r_aload_n E (dat dkX6_isName 2 rfl) rfl rfl ?_
    refine q_getn E fl_X6_25 (dat dkX6_isName 3 rfl) rfl rfl rfl (go2_0 gfT_4) ?_
    refine r_isub E (dat dkX6_isName 4 rfl) ?_
    refine r_iload_n E (dat dkX6_isName 5 rfl) rfl rfl ?_
    refine q_icmp_ne (tgt := 19) E (dat dkX6_isName 6 rfl) rfl (nI_sb hsP) rfl (by omega) (by omega) (fun h10 => ?_) (fun h10 => ?_)
    ·
      refine r_iconst (v := 0) E (dat dkX6_isName 11 rfl) rfl ?_
      refine r_zreturn E (dat dkX6_isName 12 rfl) rfl (by decide) (by decide) ?_
      refine ⟨?_, rfl⟩
      unfold isN
      rw [if_neg (fun q => by (have h1 := q.1; have h2 := q.2.1; omega))]
    ·
      refine r_iload_n E (dat dkX6_isName 7 rfl) rfl rfl ?_
      refine r_aload_n E (dat dkX6_isName 8 rfl) rfl rfl ?_
      refine r_alen E (dat dkX6_isName 9 rfl) rfl (by decide) rfl rfl ?_
      refine q_icmp_le (tgt := 21) E (dat dkX6_isName 10 rfl) rfl rfl (b := 6) rfl (by omega) (by omega) (fun h16 => ?_) (fun h16 => ?_)
      ·
        refine r_iconst (v := 0) E (dat dkX6_isName 13 rfl) rfl ?_
        refine r_istore_3 E (dat dkX6_isName 14 rfl) rfl rfl ?_
        refine r_for (L) (fun i => ∀ q, q < i → bs (s + q) = (rw4 n0 n1 n2 n3 1) q) (fun i => m2 (vT B0 (nI n) (nI P) ki (nI s) va ec eo bs) (vP B1 ro co (ce) bc fr he gu be nm nl bh fp n0 n1 n2 n3) M0) (fun i => [some (rv 0 0), some (rv 1 (8 + 1)), some (iv (nI L)), some (iv (nI i))]) (fun q hq => absurd hq (Nat.not_lt_zero q)) rfl rfl ?_ ?_
        · intro i hi hI kk
          refine r_iload_n E (dat dkX6_isName 15 rfl) rfl rfl ?_
          refine r_iload_n E (dat dkX6_isName 16 rfl) rfl rfl ?_
          refine q_icmp_ge (tgt := 53) E (dat dkX6_isName 17 rfl) rfl rfl rfl (by omega) (by omega) (fun h25 => ?_) (fun h25 => ?_)
          ·
            omega
          ·
            refine r_aload_n E (dat dkX6_isName 18 rfl) rfl rfl ?_
            refine q_geta E fl_X6_9 (dat dkX6_isName 19 rfl) rfl rfl rfl ?_
            refine r_aload_n E (dat dkX6_isName 20 rfl) rfl rfl ?_
            refine q_getn E fl_X6_25 (dat dkX6_isName 21 rfl) rfl rfl rfl (go2_0 gfT_4) ?_
            refine r_iload_n E (dat dkX6_isName 22 rfl) rfl rfl ?_
            refine r_iadd E (dat dkX6_isName 23 rfl) ?_
            refine q_bald E (dat dkX6_isName 24 rfl) rfl rfl (by decide) (gg2_0 gaT_1) (nI_add _ _) (show s + i < 600 by omega) ?_
            refine r_aload_n E (dat dkX6_isName 25 rfl) rfl rfl ?_
            refine r_iload_n E (dat dkX6_isName 26 rfl) rfl rfl ?_
            refine q_bald E (dat dkX6_isName 27 rfl) rfl rfl (by decide) (gg2_1 gaP_9) rfl (show i < 6 by omega) ?_
            refine r_icmp_eq (tgt := 47) E (dat dkX6_isName 28 rfl) rfl (fun h42 => ?_) (fun h42 => ?_)
            ·
              refine q_iinc_3 E (dat dkX6_isName 31 rfl) rfl rfl ?_
              refine r_goto (tgt := 23) E (dat dkX6_isName 32 rfl) rfl ?_
              refine kk (fun q hq => ?_)
              by_cases hqi : q = i
              · subst hqi; exact h42
              · exact hI q (by omega)
            ·
              refine r_iconst (v := 0) E (dat dkX6_isName 29 rfl) rfl ?_
              refine r_zreturn E (dat dkX6_isName 30 rfl) rfl (by decide) (by decide) ?_
              refine ⟨?_, rfl⟩
              unfold isN
              rw [if_neg (fun q => h42 (q.2.2 i hi))]
        · intro hI
          refine r_iload_n E (dat dkX6_isName 15 rfl) rfl rfl ?_
          refine r_iload_n E (dat dkX6_isName 16 rfl) rfl rfl ?_
          refine q_icmp_ge (tgt := 53) E (dat dkX6_isName 17 rfl) rfl rfl rfl (by omega) (by omega) (fun h25 => ?_) (fun h25 => ?_)
          ·
            refine r_iconst (v := 1) E (dat dkX6_isName 33 rfl) rfl ?_
            refine r_zreturn E (dat dkX6_isName 34 rfl) rfl (by decide) (by decide) ?_
            refine ⟨?_, rfl⟩
            unfold isN
            rw [if_pos ⟨h10, h16, hI⟩]
          ·
            omega
      ·
        refine r_iconst (v := 0) E (dat dkX6_isName 11 rfl) rfl ?_
        refine r_zreturn E (dat dkX6_isName 12 rfl) rfl (by decide) (by decide) ?_
        refine ⟨?_, rfl⟩
        unfold isN
        rw [if_neg (fun q => by (have h1 := q.1; have h2 := q.2.1; omega))]
  ·
    refine r_aload_n E (dat dkX6_isName 0 rfl) rfl rfl ?_
    refine q_getn E fl_X6_19 (dat dkX6_isName 1 rfl) rfl rfl rfl (go2_0 gfT_2) ?_
    refine r_aload_n E (dat dkX6_isName 2 rfl) rfl rfl ?_
    refine q_getn E fl_X6_25 (dat dkX6_isName 3 rfl) rfl rfl rfl (go2_0 gfT_4) ?_
    refine r_isub E (dat dkX6_isName 4 rfl) ?_
    refine r_iload_n E (dat dkX6_isName 5 rfl) rfl rfl ?_
    refine q_icmp_ne (tgt := 19) E (dat dkX6_isName 6 rfl) rfl (nI_sb hsP) rfl (by omega) (by omega) (fun h10 => ?_) (fun h10 => ?_)
    ·
      refine r_iconst (v := 0) E (dat dkX6_isName 11 rfl) rfl ?_
      refine r_zreturn E (dat dkX6_isName 12 rfl) rfl (by decide) (by decide) ?_
      refine ⟨?_, rfl⟩
      unfold isN
      rw [if_neg (fun q => by (have h1 := q.1; have h2 := q.2.1; omega))]
    ·
      refine r_iload_n E (dat dkX6_isName 7 rfl) rfl rfl ?_
      refine r_aload_n E (dat dkX6_isName 8 rfl) rfl rfl ?_
      refine r_alen E (dat dkX6_isName 9 rfl) rfl (by decide) rfl rfl ?_
      refine q_icmp_le (tgt := 21) E (dat dkX6_isName 10 rfl) rfl rfl (b := 6) rfl (by omega) (by omega) (fun h16 => ?_) (fun h16 => ?_)
      ·
        refine r_iconst (v := 0) E (dat dkX6_isName 13 rfl) rfl ?_
        refine r_istore_3 E (dat dkX6_isName 14 rfl) rfl rfl ?_
        refine r_for (L) (fun i => ∀ q, q < i → bs (s + q) = (rw4 n0 n1 n2 n3 2) q) (fun i => m2 (vT B0 (nI n) (nI P) ki (nI s) va ec eo bs) (vP B1 ro co (ce) bc fr he gu be nm nl bh fp n0 n1 n2 n3) M0) (fun i => [some (rv 0 0), some (rv 1 (8 + 2)), some (iv (nI L)), some (iv (nI i))]) (fun q hq => absurd hq (Nat.not_lt_zero q)) rfl rfl ?_ ?_
        · intro i hi hI kk
          refine r_iload_n E (dat dkX6_isName 15 rfl) rfl rfl ?_
          refine r_iload_n E (dat dkX6_isName 16 rfl) rfl rfl ?_
          refine q_icmp_ge (tgt := 53) E (dat dkX6_isName 17 rfl) rfl rfl rfl (by omega) (by omega) (fun h25 => ?_) (fun h25 => ?_)
          ·
            omega
          ·
            refine r_aload_n E (dat dkX6_isName 18 rfl) rfl rfl ?_
            refine q_geta E fl_X6_9 (dat dkX6_isName 19 rfl) rfl rfl rfl ?_
            refine r_aload_n E (dat dkX6_isName 20 rfl) rfl rfl ?_
            refine q_getn E fl_X6_25 (dat dkX6_isName 21 rfl) rfl rfl rfl (go2_0 gfT_4) ?_
            refine r_iload_n E (dat dkX6_isName 22 rfl) rfl rfl ?_
            refine r_iadd E (dat dkX6_isName 23 rfl) ?_
            refine q_bald E (dat dkX6_isName 24 rfl) rfl rfl (by decide) (gg2_0 gaT_1) (nI_add _ _) (show s + i < 600 by omega) ?_
            refine r_aload_n E (dat dkX6_isName 25 rfl) rfl rfl ?_
            refine r_iload_n E (dat dkX6_isName 26 rfl) rfl rfl ?_
            refine q_bald E (dat dkX6_isName 27 rfl) rfl rfl (by decide) (gg2_1 gaP_10) rfl (show i < 6 by omega) ?_
            refine r_icmp_eq (tgt := 47) E (dat dkX6_isName 28 rfl) rfl (fun h42 => ?_) (fun h42 => ?_)
            ·
              refine q_iinc_3 E (dat dkX6_isName 31 rfl) rfl rfl ?_
              refine r_goto (tgt := 23) E (dat dkX6_isName 32 rfl) rfl ?_
              refine kk (fun q hq => ?_)
              by_cases hqi : q = i
              · subst hqi; exact h42
              · exact hI q (by omega)
            ·
              refine r_iconst (v := 0) E (dat dkX6_isName 29 rfl) rfl ?_
              refine r_zreturn E (dat dkX6_isName 30 rfl) rfl (by decide) (by decide) ?_
              refine ⟨?_, rfl⟩
              unfold isN
              rw [if_neg (fun q => h42 (q.2.2 i hi))]
        · intro hI
          refine r_iload_n E (dat dkX6_isName 15 rfl) rfl rfl ?_
          refine r_iload_n E (dat dkX6_isName 16 rfl) rfl rfl ?_
          refine q_icmp_ge (tgt := 53) E (dat dkX6_isName 17 rfl) rfl rfl rfl (by omega) (by omega) (fun h25 => ?_) (fun h25 => ?_)
          ·
            refine r_iconst (v := 1) E (dat dkX6_isName 33 rfl) rfl ?_
            refine r_zreturn E (dat dkX6_isName 34 rfl) rfl (by decide) (by decide) ?_
            refine ⟨?_, rfl⟩
            unfold isN
            rw [if_pos ⟨h10, h16, hI⟩]
          ·
            omega
      ·
        refine r_iconst (v := 0) E (dat dkX6_isName 11 rfl) rfl ?_
        refine r_zreturn E (dat dkX6_isName 12 rfl) rfl (by decide) (by decide) ?_
        refine ⟨?_, rfl⟩
        unfold isN
        rw [if_neg (fun q => by (have h1 := q.1; have h2 := q.2.1; omega))]
  ·
    refine r_aload_n E (dat dkX6_isName 0 rfl) rfl rfl ?_
    refine q_getn E fl_X6_19 (dat dkX6_isName 1 rfl) rfl rfl rfl (go2_0 gfT_2) ?_
    refine r_aload_n E (dat dkX6_isName 2 rfl) rfl rfl ?_
    refine q_getn E fl_X6_25 (dat dkX6_isName 3 rfl) rfl rfl rfl (go2_0 gfT_4) ?_
    refine r_isub E (dat dkX6_isName 4 rfl) ?_
    refine r_iload_n E (dat dkX6_isName 5 rfl) rfl rfl ?_
    refine q_icmp_ne (tgt := 19) E (dat dkX6_isName 6 rfl) rfl (nI_sb hsP) rfl (by omega) (by omega) (fun h10 => ?_) (fun h10 => ?_)
    ·
      refine r_iconst (v := 0) E (dat dkX6_isName 11 rfl) rfl ?_
      refine r_zreturn E (dat dkX6_isName 12 rfl) rfl (by decide) (by decide) ?_
      refine ⟨?_, rfl⟩
      unfold isN
      rw [if_neg (fun q => by (have h1 := q.1; have h2 := q.2.1; omega))]
    ·
      refine r_iload_n E (dat dkX6_isName 7 rfl) rfl rfl ?_
      refine r_aload_n E (dat dkX6_isName 8 rfl) rfl rfl ?_
      refine r_alen E (dat dkX6_isName 9 rfl) rfl (by decide) rfl rfl ?_
      refine q_icmp_le (tgt := 21) E (dat dkX6_isName 10 rfl) rfl rfl (b := 6) rfl (by omega) (by omega) (fun h16 => ?_) (fun h16 => ?_)
      ·
        refine r_iconst (v := 0) E (dat dkX6_isName 13 rfl) rfl ?_
        refine r_istore_3 E (dat dkX6_isName 14 rfl) rfl rfl ?_
        refine r_for (L) (fun i => ∀ q, q < i → bs (s + q) = (rw4 n0 n1 n2 n3 3) q) (fun i => m2 (vT B0 (nI n) (nI P) ki (nI s) va ec eo bs) (vP B1 ro co (ce) bc fr he gu be nm nl bh fp n0 n1 n2 n3) M0) (fun i => [some (rv 0 0), some (rv 1 (8 + 3)), some (iv (nI L)), some (iv (nI i))]) (fun q hq => absurd hq (Nat.not_lt_zero q)) rfl rfl ?_ ?_
        · intro i hi hI kk
          refine r_iload_n E (dat dkX6_isName 15 rfl) rfl rfl ?_
          refine r_iload_n E (dat dkX6_isName 16 rfl) rfl rfl ?_
          refine q_icmp_ge (tgt := 53) E (dat dkX6_isName 17 rfl) rfl rfl rfl (by omega) (by omega) (fun h25 => ?_) (fun h25 => ?_)
          ·
            omega
          ·
            refine r_aload_n E (dat dkX6_isName 18 rfl) rfl rfl ?_
            refine q_geta E fl_X6_9 (dat dkX6_isName 19 rfl) rfl rfl rfl ?_
            refine r_aload_n E (dat dkX6_isName 20 rfl) rfl rfl ?_
            refine q_getn E fl_X6_25 (dat dkX6_isName 21 rfl) rfl rfl rfl (go2_0 gfT_4) ?_
            refine r_iload_n E (dat dkX6_isName 22 rfl) rfl rfl ?_
            refine r_iadd E (dat dkX6_isName 23 rfl) ?_
            refine q_bald E (dat dkX6_isName 24 rfl) rfl rfl (by decide) (gg2_0 gaT_1) (nI_add _ _) (show s + i < 600 by omega) ?_
            refine r_aload_n E (dat dkX6_isName 25 rfl) rfl rfl ?_
            refine r_iload_n E (dat dkX6_isName 26 rfl) rfl rfl ?_
            refine q_bald E (dat dkX6_isName 27 rfl) rfl rfl (by decide) (gg2_1 gaP_11) rfl (show i < 6 by omega) ?_
            refine r_icmp_eq (tgt := 47) E (dat dkX6_isName 28 rfl) rfl (fun h42 => ?_) (fun h42 => ?_)
            ·
              refine q_iinc_3 E (dat dkX6_isName 31 rfl) rfl rfl ?_
              refine r_goto (tgt := 23) E (dat dkX6_isName 32 rfl) rfl ?_
              refine kk (fun q hq => ?_)
              by_cases hqi : q = i
              · subst hqi; exact h42
              · exact hI q (by omega)
            ·
              refine r_iconst (v := 0) E (dat dkX6_isName 29 rfl) rfl ?_
              refine r_zreturn E (dat dkX6_isName 30 rfl) rfl (by decide) (by decide) ?_
              refine ⟨?_, rfl⟩
              unfold isN
              rw [if_neg (fun q => h42 (q.2.2 i hi))]
        · intro hI
          refine r_iload_n E (dat dkX6_isName 15 rfl) rfl rfl ?_
          refine r_iload_n E (dat dkX6_isName 16 rfl) rfl rfl ?_
          refine q_icmp_ge (tgt := 53) E (dat dkX6_isName 17 rfl) rfl rfl rfl (by omega) (by omega) (fun h25 => ?_) (fun h25 => ?_)
          ·
            refine r_iconst (v := 1) E (dat dkX6_isName 33 rfl) rfl ?_
            refine r_zreturn E (dat dkX6_isName 34 rfl) rfl (by decide) (by decide) ?_
            refine ⟨?_, rfl⟩
            unfold isN
            rw [if_pos ⟨h10, h16, hI⟩]
          ·
            omega
      ·
        refine r_iconst (v := 0) E (dat dkX6_isName 11 rfl) rfl ?_
        refine r_zreturn E (dat dkX6_isName 12 rfl) rfl (by decide) (by decide) ?_
        refine ⟨?_, rfl⟩
        unfold isN
        rw [if_neg (fun q => by (have h1 := q.1; have h2 := q.2.1; omega))]

set_option maxRecDepth 100000 in
set_option maxHeartbeats 16000000 in
theorem sp_X6_copyName (l : Launch) (G : GT) (B0 : Nat → Nat → Int32) (n P s : Nat) (ki va ec eo : Int32) (bs : Nat → Int32) (B1 : Nat → Nat → Int32) (ro co : Int32) (ce : Int32) (bc fr : Int32) (he gu be nm nl bh fp n0 n1 n2 n3 : Nat → Int32) (k : Nat) (M : Mem) (hA0 : M 0 = (vT B0 (nI n) (nI P) ki (nI s) va ec eo bs)) (hA1 : M 1 = (vP B1 ro co (ce) bc fr he gu be nm nl bh fp n0 n1 n2 n3)) (hk : k < 4) (hsP : s ≤ P) (hP : P ≤ n) (hn : n ≤ 600) (h6 : P - s ≤ 6) (hby : ∀ i, i < n → fits .byte (.int (bs i)) = true) : MC l G yX6_copyName cX6_copyName 3 (some .int) ({ frames := 1, cells := 0, slots := 0, locals := 40 } : Room) [3, 2] lk0 [rv 0 0, rv 1 (8 + k)] (M) (fun r M2 => r = some (iv (nI (P - s))) ∧ M2 = setm M 1 (vP B1 ro co (ce) bc fr he gu be nm nl bh fp (if k = 0 then va_cpy bs n0 s 0 (P - s) else n0) (if k = 1 then va_cpy bs n1 s 0 (P - s) else n1) (if k = 2 then va_cpy bs n2 s 0 (P - s) else n2) (if k = 3 then va_cpy bs n3 s 0 (P - s) else n3))) := by
  obtain ⟨M0, rfl⟩ : ∃ M0, M = m2 ((vT B0 (nI n) (nI P) ki (nI s) va ec eo bs)) ((vP B1 ro co (ce) bc fr he gu be nm nl bh fp n0 n1 n2 n3)) M0 := ⟨M, (m2_of hA0 hA1).symm⟩
  clear hA0 hA1
  refine MC.of RX6 [some (rv 0 0), some (rv 1 (8 + k)), none] 1 (by decide +kernel) rfl rfl rfl ?_
  intro pp ee ss mm aa bb me cd ad E
  rcases (show k = 0 ∨ k = 1 ∨ k = 2 ∨ k = 3 by omega) with rfl | rfl | rfl | rfl
  ·
    refine r_aload_n E (dat dkX6_copyName 0 rfl) rfl rfl ?_
    refine q_getn E fl_X6_19 (dat dkX6_copyName 1 rfl) rfl rfl rfl (go2_0 gfT_2) ?_
    refine r_aload_n E (dat dkX6_copyName 2 rfl) rfl rfl ?_
    refine q_getn E fl_X6_25 (dat dkX6_copyName 3 rfl) rfl rfl rfl (go2_0 gfT_4) ?_
    refine r_isub E (dat dkX6_copyName 4 rfl) ?_
    refine r_aload_n E (dat dkX6_copyName 5 rfl) rfl rfl ?_
    refine r_alen E (dat dkX6_copyName 6 rfl) rfl (by decide) rfl rfl ?_
    rw [nI_sb hsP]
    refine r_mmin E ml_X6_73 (by decide) (dat dkX6_copyName 7 rfl) ?_
    rw [show imin (nI (P - s)) (Int32.ofNat 6) = nI (P - s) from imin_l (b := 6) h6 (by decide)]
    refine r_istore_2 E (dat dkX6_copyName 8 rfl) rfl rfl ?_
    refine r_aload_n E (dat dkX6_copyName 9 rfl) rfl rfl ?_
    refine q_geta E fl_X6_9 (dat dkX6_copyName 10 rfl) rfl rfl rfl ?_
    refine r_aload_n E (dat dkX6_copyName 11 rfl) rfl rfl ?_
    refine q_getn E fl_X6_25 (dat dkX6_copyName 12 rfl) rfl rfl rfl (go2_0 gfT_4) ?_
    refine r_aload_n E (dat dkX6_copyName 13 rfl) rfl rfl ?_
    refine r_iconst (v := 0) E (dat dkX6_copyName 14 rfl) rfl ?_
    refine r_iload_n E (dat dkX6_copyName 15 rfl) rfl rfl ?_
    refine q_acopy (a := s) (b := 0) (z := P - s) (f2 := va_cpy bs n0 s 0 (P - s)) E ml_X6_79 (dat dkX6_copyName 16 rfl) rfl rfl (by decide) rfl rfl (gg2_0 gaT_1) (gg2_1 gaP_8) rfl rfl rfl (by omega) (by omega) (by decide) (fun i hi => hby (s + i) (by omega)) (by decide) (fun i hi => rfl) (sa2_1 paP_8) ?_
    refine r_iload_n E (dat dkX6_copyName 17 rfl) rfl rfl ?_
    refine r_ireturn E (dat dkX6_copyName 18 rfl) (by decide) (by decide) ?_
    exact ⟨rfl, by rw [pm2_1]; rfl⟩
  ·
    refine r_aload_n E (dat dkX6_copyName 0 rfl) rfl rfl ?_
    refine q_getn E fl_X6_19 (dat dkX6_copyName 1 rfl) rfl rfl rfl (go2_0 gfT_2) ?_
    refine r_aload_n E (dat dkX6_copyName 2 rfl) rfl rfl ?_
    refine q_getn E fl_X6_25 (dat dkX6_copyName 3 rfl) rfl rfl rfl (go2_0 gfT_4) ?_
    refine r_isub E (dat dkX6_copyName 4 rfl) ?_
    refine r_aload_n E (dat dkX6_copyName 5 rfl) rfl rfl ?_
    refine r_alen E (dat dkX6_copyName 6 rfl) rfl (by decide) rfl rfl ?_
    rw [nI_sb hsP]
    refine r_mmin E ml_X6_73 (by decide) (dat dkX6_copyName 7 rfl) ?_
    rw [show imin (nI (P - s)) (Int32.ofNat 6) = nI (P - s) from imin_l (b := 6) h6 (by decide)]
    refine r_istore_2 E (dat dkX6_copyName 8 rfl) rfl rfl ?_
    refine r_aload_n E (dat dkX6_copyName 9 rfl) rfl rfl ?_
    refine q_geta E fl_X6_9 (dat dkX6_copyName 10 rfl) rfl rfl rfl ?_
    refine r_aload_n E (dat dkX6_copyName 11 rfl) rfl rfl ?_
    refine q_getn E fl_X6_25 (dat dkX6_copyName 12 rfl) rfl rfl rfl (go2_0 gfT_4) ?_
    refine r_aload_n E (dat dkX6_copyName 13 rfl) rfl rfl ?_
    refine r_iconst (v := 0) E (dat dkX6_copyName 14 rfl) rfl ?_
    refine r_iload_n E (dat dkX6_copyName 15 rfl) rfl rfl ?_
    refine q_acopy (a := s) (b := 0) (z := P - s) (f2 := va_cpy bs n1 s 0 (P - s)) E ml_X6_79 (dat dkX6_copyName 16 rfl) rfl rfl (by decide) rfl rfl (gg2_0 gaT_1) (gg2_1 gaP_9) rfl rfl rfl (by omega) (by omega) (by decide) (fun i hi => hby (s + i) (by omega)) (by decide) (fun i hi => rfl) (sa2_1 paP_9) ?_
    refine r_iload_n E (dat dkX6_copyName 17 rfl) rfl rfl ?_
    refine r_ireturn E (dat dkX6_copyName 18 rfl) (by decide) (by decide) ?_
    exact ⟨rfl, by rw [pm2_1]; rfl⟩
  ·
    refine r_aload_n E (dat dkX6_copyName 0 rfl) rfl rfl ?_
    refine q_getn E fl_X6_19 (dat dkX6_copyName 1 rfl) rfl rfl rfl (go2_0 gfT_2) ?_
    refine r_aload_n E (dat dkX6_copyName 2 rfl) rfl rfl ?_
    refine q_getn E fl_X6_25 (dat dkX6_copyName 3 rfl) rfl rfl rfl (go2_0 gfT_4) ?_
    refine r_isub E (dat dkX6_copyName 4 rfl) ?_
    refine r_aload_n E (dat dkX6_copyName 5 rfl) rfl rfl ?_
    refine r_alen E (dat dkX6_copyName 6 rfl) rfl (by decide) rfl rfl ?_
    rw [nI_sb hsP]
    refine r_mmin E ml_X6_73 (by decide) (dat dkX6_copyName 7 rfl) ?_
    rw [show imin (nI (P - s)) (Int32.ofNat 6) = nI (P - s) from imin_l (b := 6) h6 (by decide)]
    refine r_istore_2 E (dat dkX6_copyName 8 rfl) rfl rfl ?_
    refine r_aload_n E (dat dkX6_copyName 9 rfl) rfl rfl ?_
    refine q_geta E fl_X6_9 (dat dkX6_copyName 10 rfl) rfl rfl rfl ?_
    refine r_aload_n E (dat dkX6_copyName 11 rfl) rfl rfl ?_
    refine q_getn E fl_X6_25 (dat dkX6_copyName 12 rfl) rfl rfl rfl (go2_0 gfT_4) ?_
    refine r_aload_n E (dat dkX6_copyName 13 rfl) rfl rfl ?_
    refine r_iconst (v := 0) E (dat dkX6_copyName 14 rfl) rfl ?_
    refine r_iload_n E (dat dkX6_copyName 15 rfl) rfl rfl ?_
    refine q_acopy (a := s) (b := 0) (z := P - s) (f2 := va_cpy bs n2 s 0 (P - s)) E ml_X6_79 (dat dkX6_copyName 16 rfl) rfl rfl (by decide) rfl rfl (gg2_0 gaT_1) (gg2_1 gaP_10) rfl rfl rfl (by omega) (by omega) (by decide) (fun i hi => hby (s + i) (by omega)) (by decide) (fun i hi => rfl) (sa2_1 paP_10) ?_
    refine r_iload_n E (dat dkX6_copyName 17 rfl) rfl rfl ?_
    refine r_ireturn E (dat dkX6_copyName 18 rfl) (by decide) (by decide) ?_
    exact ⟨rfl, by rw [pm2_1]; rfl⟩
  ·
    refine r_aload_n E (dat dkX6_copyName 0 rfl) rfl rfl ?_
    refine q_getn E fl_X6_19 (dat dkX6_copyName 1 rfl) rfl rfl rfl (go2_0 gfT_2) ?_
    refine r_aload_n E (dat dkX6_copyName 2 rfl) rfl rfl ?_
    refine q_getn E fl_X6_25 (dat dkX6_copyName 3 rfl) rfl rfl rfl (go2_0 gfT_4) ?_
    refine r_isub E (dat dkX6_copyName 4 rfl) ?_
    refine r_aload_n E (dat dkX6_copyName 5 rfl) rfl rfl ?_
    refine r_alen E (dat dkX6_copyName 6 rfl) rfl (by decide) rfl rfl ?_
    rw [nI_sb hsP]
    refine r_mmin E ml_X6_73 (by decide) (dat dkX6_copyName 7 rfl) ?_
    rw [show imin (nI (P - s)) (Int32.ofNat 6) = nI (P - s) from imin_l (b := 6) h6 (by decide)]
    refine r_istore_2 E (dat dkX6_copyName 8 rfl) rfl rfl ?_
    refine r_aload_n E (dat dkX6_copyName 9 rfl) rfl rfl ?_
    refine q_geta E fl_X6_9 (dat dkX6_copyName 10 rfl) rfl rfl rfl ?_
    refine r_aload_n E (dat dkX6_copyName 11 rfl) rfl rfl ?_
    refine q_getn E fl_X6_25 (dat dkX6_copyName 12 rfl) rfl rfl rfl (go2_0 gfT_4) ?_
    refine r_aload_n E (dat dkX6_copyName 13 rfl) rfl rfl ?_
    refine r_iconst (v := 0) E (dat dkX6_copyName 14 rfl) rfl ?_
    refine r_iload_n E (dat dkX6_copyName 15 rfl) rfl rfl ?_
    refine q_acopy (a := s) (b := 0) (z := P - s) (f2 := va_cpy bs n3 s 0 (P - s)) E ml_X6_79 (dat dkX6_copyName 16 rfl) rfl rfl (by decide) rfl rfl (gg2_0 gaT_1) (gg2_1 gaP_11) rfl rfl rfl (by omega) (by omega) (by decide) (fun i hi => hby (s + i) (by omega)) (by decide) (fun i hi => rfl) (sa2_1 paP_11) ?_
    refine r_iload_n E (dat dkX6_copyName 17 rfl) rfl rfl ?_
    refine r_ireturn E (dat dkX6_copyName 18 rfl) (by decide) (by decide) ?_
    exact ⟨rfl, by rw [pm2_1]; rfl⟩

set_option maxRecDepth 100000 in
set_option maxHeartbeats 4000000 in
theorem sp_X2_bootsNamed (l : Launch) (G : GT) (B1 : Nat → Nat → Int32) (ro co : Int32) (z : Nat) (bcn : Nat) (fr : Int32) (he gu be nm nl bh fp n0 n1 n2 n3 : Nat → Int32) (B0 : Nat → Nat → Int32) (n P s : Nat) (ki va ec eo : Int32) (bs : Nat → Int32) (M : Mem) (hA0 : M 0 = (vP B1 ro co (nI z) (nI bcn) fr he gu be nm nl bh fp n0 n1 n2 n3)) (hA1 : M 1 = (vT B0 (nI n) (nI P) ki (nI s) va ec eo bs)) (nlN : Nat → Nat) (hb4 : bcn ≤ 4) (hnl : ∀ i, i < bcn → nl i = nI (nlN i) ∧ nlN i ≤ 6) (hsP : s ≤ P) (hP : P ≤ n) (hn : n ≤ 600) : MC l G yX2_bootsNamed cX2_bootsNamed 3 (some .int) ({ frames := 1, cells := 0, slots := 0, locals := 23 } : Room) [2, 3] lk0 [rv 0 0, rv 1 0] (M) (fun r M2 => r = some (iv (nmS (gNm bs s P n0 n1 n2 n3 nlN) bcn 0)) ∧ M2 = M) := by
  obtain ⟨M0, rfl⟩ : ∃ M0, M = m2 ((vP B1 ro co (nI z) (nI bcn) fr he gu be nm nl bh fp n0 n1 n2 n3)) ((vT B0 (nI n) (nI P) ki (nI s) va ec eo bs)) M0 := ⟨M, (m2_of hA0 hA1).symm⟩
  clear hA0 hA1
  refine MC.of RX2 [some (rv 0 0), some (rv 1 0), none] 1 (by decide +kernel) rfl rfl rfl ?_
  intro pp ee ss mm aa bb me cd ad E
  refine r_iconst (v := 0) E (dat dkX2_bootsNamed 0 rfl) rfl ?_
  refine r_istore_2 E (dat dkX2_bootsNamed 1 rfl) rfl rfl ?_
  refine r_for (bcn) (fun i => nmS (gNm bs s P n0 n1 n2 n3 nlN) (bcn - i) i = nmS (gNm bs s P n0 n1 n2 n3 nlN) bcn 0) (fun i => m2 (vP B1 ro co (nI z) (nI bcn) fr he gu be nm nl bh fp n0 n1 n2 n3) (vT B0 (nI n) (nI P) ki (nI s) va ec eo bs) M0) (fun i => [some (rv 0 0), some (rv 1 0), some (iv (nI i))]) rfl rfl rfl ?_ ?_
  · intro i hi hI kk
    refine r_iload_n E (dat dkX2_bootsNamed 2 rfl) rfl rfl ?_
    refine r_aload_n E (dat dkX2_bootsNamed 3 rfl) rfl rfl ?_
    refine q_getn E fl_X2_45 (dat dkX2_bootsNamed 4 rfl) rfl rfl rfl (go2_0 gfP_10) ?_
    refine q_icmp_ge (tgt := 37) E (dat dkX2_bootsNamed 5 rfl) rfl rfl rfl (by omega) (by omega) (fun h7 => ?_) (fun h7 => ?_)
    ·
      omega
    ·
      refine r_aload_n E (dat dkX2_bootsNamed 6 rfl) rfl rfl ?_
      refine r_aload_n E (dat dkX2_bootsNamed 7 rfl) rfl rfl ?_
      refine q_geta E fl_X2_23 (dat dkX2_bootsNamed 8 rfl) rfl rfl rfl ?_
      refine r_iload_n E (dat dkX2_bootsNamed 9 rfl) rfl rfl ?_
      refine q_aalN E (dat dkX2_bootsNamed 10 rfl) rfl rfl (by decide) rfl (by omega) ?_
      refine r_aload_n E (dat dkX2_bootsNamed 11 rfl) rfl rfl ?_
      refine q_geta E fl_X2_26 (dat dkX2_bootsNamed 12 rfl) rfl rfl rfl ?_
      refine r_iload_n E (dat dkX2_bootsNamed 13 rfl) rfl rfl ?_
      refine q_iald E (dat dkX2_bootsNamed 14 rfl) rfl rfl (by decide) (gg2_0 gaP_5) rfl (by omega) ?_
      rw [(hnl i hi).1]
      refine r_callV (κ := 3) (μ := [1, 0]) E (sp_X6_isName l G B0 n P s ki va ec eo bs B1 ro co (nI z) (nI bcn) fr he gu be nm nl bh fp n0 n1 n2 n3 i (nlN i) _ rfl rfl (by omega) hsP hP hn (by have := (hnl i hi).2; omega)) my_X6_isName iv_X6_isName ml_X2_135 (cm_of rfl) ⟨by decide, rfl, rfl⟩ rfl rfl rfl rfl (by decide) (Nat.le_of_ble_eq_true rfl) (dat dkX2_bootsNamed 15 rfl) ?_
      rintro _ _ ⟨rfl, rfl⟩
      refine ⟨_, Mrg_z rfl, ?_⟩
      refine r_if_eq (tgt := 31) E (dat dkX2_bootsNamed 16 rfl) rfl (fun h26 => ?_) (fun h26 => ?_)
      ·
        refine q_iinc_2 E (dat dkX2_bootsNamed 19 rfl) rfl rfl ?_
        refine r_goto (tgt := 2) E (dat dkX2_bootsNamed 20 rfl) rfl ?_
        exact kk ((nmS_go hi h26).trans hI)
      ·
        refine r_iload_n E (dat dkX2_bootsNamed 17 rfl) rfl rfl ?_
        refine r_ireturn E (dat dkX2_bootsNamed 18 rfl) (by decide) (by decide) ?_
        exact ⟨by rw [← hI, nmS_hit hi h26], rfl⟩
  · intro hI
    refine r_iload_n E (dat dkX2_bootsNamed 2 rfl) rfl rfl ?_
    refine r_aload_n E (dat dkX2_bootsNamed 3 rfl) rfl rfl ?_
    refine q_getn E fl_X2_45 (dat dkX2_bootsNamed 4 rfl) rfl rfl rfl (go2_0 gfP_10) ?_
    refine q_icmp_ge (tgt := 37) E (dat dkX2_bootsNamed 5 rfl) rfl rfl rfl (by omega) (by omega) (fun h7 => ?_) (fun h7 => ?_)
    ·
      refine r_iconst (v := -1) E (dat dkX2_bootsNamed 21 rfl) rfl ?_
      refine r_ireturn E (dat dkX2_bootsNamed 22 rfl) (by decide) (by decide) ?_
      exact ⟨by rw [← hI, nmS_no], rfl⟩
    ·
      omega
