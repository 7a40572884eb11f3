/-! the reference's parser: a row -/
def rwM (b : Nat → Int32) (n lea mo : Nat) : Nat → Nat → (Nat → Int32) → TT → Nat × (Nat → Int32) × TT
  | 0, c, hs, t => (c, hs, t)
  | f + 1, c, hs, t => if t.2.2.2.2.1 = 0 ∧ (c < lea ∨ (c < mo ∧ t.2.1 = 2)) then rwM b n lea mo f (c + 1) (upd hs c (mNv t 0 9)) (mAd b n (mNe t 0 9)) else (c, hs, t)
section RWM
variable {b : Nat → Int32} {n lea mo c : Nat} {hs : Nat → Int32} {t : TT}
theorem rwM_no (h : ¬ (t.2.2.2.2.1 = 0 ∧ (c < lea ∨ (c < mo ∧ t.2.1 = 2)))) : ∀ f, rwM b n lea mo f c hs t = (c, hs, t)
  | 0 => rfl
  | f + 1 => if_neg h
theorem rwM_go (hc : c < 8) (h : t.2.2.2.2.1 = 0 ∧ (c < lea ∨ (c < mo ∧ t.2.1 = 2))) : rwM b n lea mo (8 - (c + 1)) (c + 1) (upd hs c (mNv t 0 9)) (mAd b n (mNe t 0 9)) = rwM b n lea mo (8 - c) c hs t := by
  obtain ⟨f, hf⟩ : ∃ f, 8 - c = f + 1 := ⟨8 - c - 1, by omega⟩
  rw [hf, show 8 - (c + 1) = f by omega]
  exact (if_pos h).symm
end RWM
/-- a row as the reference reads it -/
def rwP (b : Nat → Int32) (n : Nat) (x : PP) (t : TT) (A : Nat → Int32) (t4 : TT) (A2 : Nat → Int32) : Prop := ∃ t2 t3 c hs hs0, t2 = mAd b n (mEx (if x.1.1 < 8 then 1 else 0) 4 t) ∧ rwM b n (leO x.1.1 x.1.2.1) (moO x.1.1 x.1.2.1) 8 0 hs0 t2 = (c, hs, t3) ∧ c ≤ moO x.1.1 x.1.2.1 ∧ t4 = mEx (if t3.2.1 = 3 then 1 else 0) 1 t3 ∧ A2 = if t4.2.2.2.2.1 = 0 then upd (hgF (upd A 1 (nI c)) (x.1.1 * c) hs c) 2 (nI (x.1.1 + 1)) else A
set_option maxRecDepth 100000 in
set_option maxHeartbeats 8000000 in
theorem sp_X10_parseRow (l : Launch) (G : GT) (bs : Nat → Int32) (n : Nat) (A : Nat → Int32) (t : TT) (A0 : Nat → Int32) (x : PP) (M : Mem) (hB : M 0 10 = bs) (hn : M 0 0 10 = nI n) (hA : M 0 1 = A) (hT : TI M t) (hG : TG n t) (hn6 : n ≤ 600) (hE : A = pE A0 x) (hx : PIv x) : MC l G yX10_parseRow cX10_parseRow 5 none ({ frames := 4, cells := 0, slots := 0, locals := 89 } : Room) [9] lk0 [rv 0 0] (M) (fun r M2 => r = none ∧ ∃ t4 A2, rwP bs n x t A t4 A2 ∧ TG n t4 ∧ PK M M2 A2 t4) := by
  refine MC.of RX10 [some (rv 0 0), none, none, none, none] 4 (by decide +kernel) rfl rfl rfl ?_
  intro pp ee ss mm aa bb me cd ad E
  have hk : kq M M := kq_r
  have hA1 : A 1 = nI x.1.2.1 := by rw [hE]; rfl
  have hA2 : A 2 = nI x.1.1 := by rw [hE]; rfl
  have hz5 := (PIv_z hx).2.1
  have hx1 := hx.1
  have hx2 := hx.2.1
  
  rcases (show x.1.1 = 0 ∨ (¬ x.1.1 = 0 ∧ x.1.1 < 8) ∨ (¬ x.1.1 = 0 ∧ ¬ x.1.1 < 8) by omega) with hU | ⟨hU, hu8⟩ | ⟨hU, hu8⟩
  ·
    have hu8 : x.1.1 < 8 := by omega
    have hleo : leO x.1.1 x.1.2.1 = 2 := if_pos hU
    have hmoo : moO x.1.1 x.1.2.1 = 8 := if_pos hU
    refine r_aload_n E (dat dkX10_parseRow 0 rfl) rfl rfl ?_
    refine r_aload_n E (dat dkX10_parseRow 1 rfl) rfl rfl ?_
    refine q_geta E fl_X10_9 (dat dkX10_parseRow 2 rfl) rfl rfl rfl ?_
    refine r_iconst (v := 2) E (dat dkX10_parseRow 3 rfl) rfl ?_
    refine q_iald E (dat dkX10_parseRow 4 rfl) rfl rfl (by decide) (show (_ : Nat → Int32) = _ from hA) (show _ = nI 2 from rfl) (by omega) ?_
    rw [hA2]
    refine r_bipush (v := 8) E (dat dkX10_parseRow 5 rfl) rfl ?_
    refine q_icmp_ge (tgt := 16) E (dat dkX10_parseRow 6 rfl) rfl rfl (b := 8) rfl (by omega) (by omega) (fun h9 => ?_) (fun h9 => ?_)
    ·
      omega
    ·
      refine r_iconst (v := 1) E (dat dkX10_parseRow 7 rfl) rfl ?_
      refine r_goto (tgt := 17) E (dat dkX10_parseRow 8 rfl) rfl ?_
      refine r_iconst (v := 4) E (dat dkX10_parseRow 10 rfl) rfl ?_
      refine r_callV (κ := 9) (μ := []) E (px_ex l G bs n _ _ (1) (4) _ hB hn hA hT hG hn6) my_X10_expect iv_X10_expect ml_X10_194 cm_id ⟨by decide, rfl, rfl⟩ rfl rfl rfl rfl (by decide) (Nat.le_of_ble_eq_true rfl) (dat dkX10_parseRow 11 rfl) ?_
      rintro _ M9 ⟨rfl, hp9, hs9⟩
      obtain ⟨Ma, hMr, hk9, hA, hT, hS9⟩ := Mrg_pk hp9 hs9
      replace hB := (hk9.2.2.2.1).trans hB
      replace hn := (hk9.2.2.2.2.2.2.2.2.1).trans hn
      replace hk := kq_t hk hk9
      replace hG := TG_ex (a := 1) (k := 4) (by decide) hG
      refine ⟨_, hMr, ?_⟩
      clear hp9 hs9 hMr hk9 hS9
      refine r_aload_n E (dat dkX10_parseRow 12 rfl) rfl rfl ?_
      refine r_callV (κ := 9) (μ := []) E (px_adv l G bs n _ _  _ hB hn hA hT hG hn6) my_X10_advanceToken iv_X10_advanceToken ml_X10_189 cm_id ⟨by decide, rfl, rfl⟩ rfl rfl rfl rfl (by decide) (Nat.le_of_ble_eq_true rfl) (dat dkX10_parseRow 13 rfl) ?_
      rintro _ M9 ⟨rfl, hp9, hs9⟩
      obtain ⟨Ma, hMr, hk9, hA, hT, hS9⟩ := Mrg_pk hp9 hs9
      replace hB := (hk9.2.2.2.1).trans hB
      replace hn := (hk9.2.2.2.2.2.2.2.2.1).trans hn
      replace hk := kq_t hk hk9
      replace hG := TG_ad (b := bs) hG
      obtain ⟨hs0, hhs0⟩ : ∃ z, Ma 0 20 = z := ⟨_, rfl⟩
      obtain ⟨t2, ht2⟩ : ∃ z, z = mAd bs n (mEx 1 4 t) := ⟨_, rfl⟩
      rw [← ht2] at hT hG
      refine ⟨_, hMr, ?_⟩
      clear hp9 hs9 hMr hk9 hS9
      
      refine r_aload_n E (dat dkX10_parseRow 14 rfl) rfl rfl ?_
      refine q_geta E fl_X10_9 (dat dkX10_parseRow 15 rfl) rfl rfl rfl ?_
      refine r_iconst (v := 2) E (dat dkX10_parseRow 16 rfl) rfl ?_
      refine q_iald E (dat dkX10_parseRow 17 rfl) rfl rfl (by decide) (show (_ : Nat → Int32) = _ from hA) (show _ = nI 2 from rfl) (by omega) ?_
      rw [hA2]
      refine r_if_ne (tgt := 38) E (dat dkX10_parseRow 18 rfl) rfl (fun h31 => ?_) (fun h31 => ?_)
      ·
        exact absurd (show nI x.1.1 = 0 by rw [hU]; rfl) h31
      ·
        refine r_iconst (v := 2) E (dat dkX10_parseRow 19 rfl) rfl ?_
        refine r_goto (tgt := 44) E (dat dkX10_parseRow 20 rfl) rfl ?_
        first
          | rw [hA1]
          | skip
        refine r_istore_1 E (dat dkX10_parseRow 25 rfl) rfl rfl ?_
        refine r_aload_n E (dat dkX10_parseRow 26 rfl) rfl rfl ?_
        refine q_geta E fl_X10_9 (dat dkX10_parseRow 27 rfl) rfl rfl rfl ?_
        refine r_iconst (v := 2) E (dat dkX10_parseRow 28 rfl) rfl ?_
        refine q_iald E (dat dkX10_parseRow 29 rfl) rfl rfl (by decide) (show (_ : Nat → Int32) = _ from hA) (show _ = nI 2 from rfl) (by omega) ?_
        rw [hA2]
        refine r_if_ne (tgt := 59) E (dat dkX10_parseRow 30 rfl) rfl (fun h51 => ?_) (fun h51 => ?_)
        ·
          exact absurd (show nI x.1.1 = 0 by rw [hU]; rfl) h51
        ·
          refine r_bipush (v := 8) E (dat dkX10_parseRow 31 rfl) rfl ?_
          refine r_goto (tgt := 65) E (dat dkX10_parseRow 32 rfl) rfl ?_
          first
            | rw [hA1]
            | skip
          refine r_istore_2 E (dat dkX10_parseRow 37 rfl) rfl rfl ?_
          refine r_iconst (v := 0) E (dat dkX10_parseRow 38 rfl) rfl ?_
          refine r_istore_3 E (dat dkX10_parseRow 39 rfl) rfl rfl ?_
          refine r_while (β := Nat × (Nat → Int32) × TT × Mem) (fun y => 8 - y.1) (fun y => y.1 ≤ 8 ∧ rwM bs n (2) (8) (8 - y.1) y.1 y.2.1 y.2.2.1 = rwM bs n (2) (8) 8 0 hs0 t2 ∧ kq M y.2.2.2 ∧ y.2.2.2 0 1 = A ∧ TI y.2.2.2 y.2.2.1 ∧ TG n y.2.2.1 ∧ y.2.2.2 0 20 = y.2.1 ∧ y.2.2.2 0 10 = bs ∧ y.2.2.2 0 0 10 = nI n) (fun y => y.2.2.2) (fun y => [some (rv 0 0), some (iv (nI (2))), some (iv (nI (8))), some (iv (nI y.1)), none]) ((0, hs0, t2, Ma)) ⟨Nat.zero_le _, rfl, hk, hA, hT, hG, hhs0, hB, hn⟩ rfl rfl ?_
          intro y hI kk0
          obtain ⟨c, hs, tt, Mc⟩ := y
          obtain ⟨hv1, hv2, hk, hA, hT, hG, h20, hB, hn⟩ := hI
          dsimp only at hv1 hv2 hk hA hT hG h20 hB hn ⊢
          
          refine r_aload_n E (dat dkX10_parseRow 40 rfl) rfl rfl ?_
          refine q_getn E fl_X10_165 (dat dkX10_parseRow 41 rfl) rfl rfl rfl (show (_ : Int32) = _ from hT.2.2.2.2.1) ?_
          refine r_if_ne (tgt := 112) E (dat dkX10_parseRow 42 rfl) rfl (fun h72 => ?_) (fun h72 => ?_)
          ·
            refine r_aload_n E (dat dkX10_parseRow 63 rfl) rfl rfl ?_
            refine r_aload_n E (dat dkX10_parseRow 64 rfl) rfl rfl ?_
            refine q_getn E fl_X10_174 (dat dkX10_parseRow 65 rfl) rfl rfl rfl (show (_ : Int32) = _ from hT.2.2.1) ?_
            refine r_iconst (v := 3) E (dat dkX10_parseRow 66 rfl) rfl ?_
            refine r_icmp_ne (tgt := 125) E (dat dkX10_parseRow 67 rfl) rfl (fun h118 => ?_) (fun h118 => ?_)
            ·
              refine r_iconst (v := 0) E (dat dkX10_parseRow 70 rfl) rfl ?_
              refine r_iconst (v := 1) E (dat dkX10_parseRow 71 rfl) rfl ?_
              refine r_callV (κ := 9) (μ := []) E (px_ex l G bs n _ _ (0) (1) _ hB hn hA hT hG hn6) my_X10_expect iv_X10_expect ml_X10_194 cm_id ⟨by decide, rfl, rfl⟩ rfl rfl rfl rfl (by decide) (Nat.le_of_ble_eq_true rfl) (dat dkX10_parseRow 72 rfl) ?_
              rintro _ M9 ⟨rfl, hp9, hs9⟩
              obtain ⟨Ma, hMr, hk9, hA, hT, hS9⟩ := Mrg_pk hp9 hs9
              replace hB := (hk9.2.2.2.1).trans hB
              replace hn := (hk9.2.2.2.2.2.2.2.2.1).trans hn
              replace hk := kq_t hk hk9
              replace hG := TG_ex (a := 0) (k := 1) (by decide) hG
              replace h20 := hS9.2.2.1.trans h20
              obtain ⟨t4, ht4⟩ : ∃ z, z = mEx 0 1 tt := ⟨_, rfl⟩
              rw [← ht4] at hT hG
              refine ⟨_, hMr, ?_⟩
              clear hp9 hs9 hMr hk9 hS9
              refine r_aload_n E (dat dkX10_parseRow 73 rfl) rfl rfl ?_
              refine q_getn E fl_X10_165 (dat dkX10_parseRow 74 rfl) rfl rfl rfl (show (_ : Int32) = _ from hT.2.2.2.2.1) ?_
              refine r_if_le (tgt := 138) E (dat dkX10_parseRow 75 rfl) rfl (fun h134 => ?_) (fun h134 => ?_)
              ·
                have h40 : t4.2.2.2.2.1 = 0 := by
                  rcases hG.2.1 with q | q
                  · exact q
                  · exact absurd q (by first | exact Int32.not_lt.mpr h134 | exact h134)
                have hcl : 2 ≤ c := by
                  first
                    | omega
                    | (rw [ht4] at h40; exact absurd (mEx_z (by decide) h40).1 h72)
                have hcb : x.1.1 * c + c ≤ 64 := by
                  rw [hU, Nat.zero_mul]; omega
                refine r_aload_n E (dat dkX10_parseRow 77 rfl) rfl rfl ?_
                refine q_geta E fl_X10_9 (dat dkX10_parseRow 78 rfl) rfl rfl rfl ?_
                refine r_iconst (v := 1) E (dat dkX10_parseRow 79 rfl) rfl ?_
                refine r_iload_n E (dat dkX10_parseRow 80 rfl) rfl rfl ?_
                refine q_iast E (dat dkX10_parseRow 81 rfl) rfl rfl (by decide) (show (_ : Nat → Int32) = _ from hA) (fun _ => rfl) (show _ = nI 1 from rfl) (by omega) ?_
                refine r_iconst (v := 0) E (dat dkX10_parseRow 82 rfl) rfl ?_
                refine r_istore_4 E (dat dkX10_parseRow 83 rfl) rfl rfl ?_
                refine r_for (c) (fun _ => True) (fun i => md Ma (hgF (upd A 1 (nI c)) (x.1.1 * c) hs i)) (fun i => [some (rv 0 0), some (iv (nI (2))), some (iv (nI (8))), some (iv (nI c)), some (iv (nI i))]) trivial rfl rfl ?_ ?_
                · intro i hi hI kk
                  
                  refine r_iload E (dat dkX10_parseRow 84 rfl) rfl ?_
                  refine r_iload_n E (dat dkX10_parseRow 85 rfl) rfl rfl ?_
                  refine q_icmp_ge (tgt := 188) E (dat dkX10_parseRow 86 rfl) rfl rfl rfl (by omega) (by omega) (fun h151 => ?_) (fun h151 => ?_)
                  ·
                    omega
                  ·
                    refine r_aload_n E (dat dkX10_parseRow 87 rfl) rfl rfl ?_
                    refine q_geta E fl_X10_9 (dat dkX10_parseRow 88 rfl) rfl rfl rfl ?_
                    refine r_aload_n E (dat dkX10_parseRow 89 rfl) rfl rfl ?_
                    refine q_geta E fl_X10_9 (dat dkX10_parseRow 90 rfl) rfl rfl rfl ?_
                    refine r_iconst (v := 2) E (dat dkX10_parseRow 91 rfl) rfl ?_
                    refine q_iald E (dat dkX10_parseRow 92 rfl) rfl rfl (by decide) md_a (show _ = nI 2 from rfl) (by omega) ?_
                    rw [show (hgF (upd A 1 (nI c)) (x.1.1 * c) hs i) 2 = nI x.1.1 from by rw [hgF_n (fun j _ => by unfold c6; omega), upd_ne (by decide)]; exact hA2]
                    refine r_iload_n E (dat dkX10_parseRow 93 rfl) rfl rfl ?_
                    refine r_imul E (dat dkX10_parseRow 94 rfl) ?_
                    rw [show nI x.1.1 * nI c = nI (x.1.1 * c) from pk_mul _ _]
                    refine r_iload E (dat dkX10_parseRow 95 rfl) rfl ?_
                    refine r_iadd E (dat dkX10_parseRow 96 rfl) ?_
                    rw [nI_add]
                    refine r_callS (μ := []) E (sp_X10_c l G (x.1.1 * c + i) _) my_X10_c is_X10_c ml_X10_48 cm_nil rfl rfl (by decide) (Nat.le_of_ble_eq_true rfl) (dat dkX10_parseRow 97 rfl) ?_
                    rintro _ _ ⟨rfl, hM⟩
                    refine ⟨_, Mrg_z hM, ?_⟩
                    clear hM
                    refine r_iconst (v := 0) E (dat dkX10_parseRow 98 rfl) rfl ?_
                    refine r_iadd E (dat dkX10_parseRow 99 rfl) ?_
                    refine r_aload_n E (dat dkX10_parseRow 100 rfl) rfl rfl ?_
                    refine q_geta E fl_X10_33 (dat dkX10_parseRow 101 rfl) rfl rfl rfl ?_
                    refine r_iload E (dat dkX10_parseRow 102 rfl) rfl ?_
                    refine q_iald E (dat dkX10_parseRow 103 rfl) rfl rfl (by decide) (show (_ : Nat → Int32) = hs from h20) rfl (by omega) ?_
                    refine q_iast E (dat dkX10_parseRow 104 rfl) rfl rfl (by decide) md_a (fun _ => md_s) (show nI (c6 (x.1.1 * c + i) 0) + 0 = nI (c6 (x.1.1 * c + i) 0) from Int32.add_zero _) (by unfold c6; omega) ?_
                    refine q_iinc_4 E (dat dkX10_parseRow 105 rfl) rfl rfl ?_
                    refine r_goto (tgt := 148) E (dat dkX10_parseRow 106 rfl) rfl ?_
                    exact kk trivial
                · intro hI
                  
                  refine r_iload E (dat dkX10_parseRow 84 rfl) rfl ?_
                  refine r_iload_n E (dat dkX10_parseRow 85 rfl) rfl rfl ?_
                  refine q_icmp_ge (tgt := 188) E (dat dkX10_parseRow 86 rfl) rfl rfl rfl (by omega) (by omega) (fun h151 => ?_) (fun h151 => ?_)
                  ·
                    refine r_aload_n E (dat dkX10_parseRow 107 rfl) rfl rfl ?_
                    refine q_geta E fl_X10_9 (dat dkX10_parseRow 108 rfl) rfl rfl rfl ?_
                    refine r_iconst (v := 2) E (dat dkX10_parseRow 109 rfl) rfl ?_
                    refine r_dup2 E (dat dkX10_parseRow 110 rfl) rfl rfl ?_
                    refine q_iald E (dat dkX10_parseRow 111 rfl) rfl rfl (by decide) md_a (show _ = nI 2 from rfl) (by omega) ?_
                    rw [show (hgF (upd A 1 (nI c)) (x.1.1 * c) hs c) 2 = nI x.1.1 from by rw [hgF_n (fun j _ => by unfold c6; omega), upd_ne (by decide)]; exact hA2]
                    refine r_iconst (v := 1) E (dat dkX10_parseRow 112 rfl) rfl ?_
                    refine r_iadd E (dat dkX10_parseRow 113 rfl) ?_
                    rw [show nI x.1.1 + 1 = nI (x.1.1 + 1) from nI_1 _]
                    refine q_iast E (dat dkX10_parseRow 114 rfl) rfl rfl (by decide) md_a (fun _ => md_s) (show _ = nI 2 from rfl) (by omega) ?_
                    refine r_vreturn E (dat dkX10_parseRow 115 rfl) (by decide) (by decide) ?_
                    refine ⟨rfl, t4, _, ⟨t2, tt, c, hs, hs0, by rw [if_pos hu8]; exact ht2, ?_, ?_, ?_, rfl⟩, hG, ?_⟩
                    · rw [hleo, hmoo, ← hv2]
                      exact rwM_no (fun q => by
                            first
                              | exact h72 q.1
                              | (rcases q.2 with q | q
                                 · exact absurd q (by omega)
                                 · first
                                     | exact absurd q.1 (by omega)
                                     | exact h90 q.2)) _
                    · rw [hmoo]; exact hv1
                    · first
                        | (rw [if_pos (by first | exact h118 | exact Decidable.not_not.mp h118)]; exact ht4)
                        | (rw [if_neg h118]; exact ht4)
                    · rw [if_pos h40]
                      exact ⟨hk, rfl, hT⟩
                  ·
                    omega
              ·
                refine r_vreturn E (dat dkX10_parseRow 76 rfl) (by decide) (by decide) ?_
                refine ⟨rfl, t4, _, ⟨t2, tt, c, hs, hs0, by rw [if_pos hu8]; exact ht2, ?_, ?_, ?_, rfl⟩, hG, ?_⟩
                · rw [hleo, hmoo, ← hv2]
                  exact rwM_no (fun q => by
                        first
                          | exact h72 q.1
                          | (rcases q.2 with q | q
                             · exact absurd q (by omega)
                             · first
                                 | exact absurd q.1 (by omega)
                                 | exact h90 q.2)) _
                · rw [hmoo]; exact hv1
                · first
                    | (rw [if_pos (by first | exact h118 | exact Decidable.not_not.mp h118)]; exact ht4)
                    | (rw [if_neg h118]; exact ht4)
                · rw [if_neg (fun q => by first | exact absurd (show t4.2.2.2.2.1 ≤ 0 by rw [q]; decide) h134 | exact absurd (show t4.2.2.2.2.1 ≤ 0 by rw [q]; decide) (Int32.not_le.mpr h134))]
                  exact ⟨hk, hA, hT⟩
            ·
              refine r_iconst (v := 1) E (dat dkX10_parseRow 68 rfl) rfl ?_
              refine r_goto (tgt := 126) E (dat dkX10_parseRow 69 rfl) rfl ?_
              refine r_iconst (v := 1) E (dat dkX10_parseRow 71 rfl) rfl ?_
              refine r_callV (κ := 9) (μ := []) E (px_ex l G bs n _ _ (1) (1) _ hB hn hA hT hG hn6) my_X10_expect iv_X10_expect ml_X10_194 cm_id ⟨by decide, rfl, rfl⟩ rfl rfl rfl rfl (by decide) (Nat.le_of_ble_eq_true rfl) (dat dkX10_parseRow 72 rfl) ?_
              rintro _ M9 ⟨rfl, hp9, hs9⟩
              obtain ⟨Ma, hMr, hk9, hA, hT, hS9⟩ := Mrg_pk hp9 hs9
              replace hB := (hk9.2.2.2.1).trans hB
              replace hn := (hk9.2.2.2.2.2.2.2.2.1).trans hn
              replace hk := kq_t hk hk9
              replace hG := TG_ex (a := 1) (k := 1) (by decide) hG
              replace h20 := hS9.2.2.1.trans h20
              obtain ⟨t4, ht4⟩ : ∃ z, z = mEx 1 1 tt := ⟨_, rfl⟩
              rw [← ht4] at hT hG
              refine ⟨_, hMr, ?_⟩
              clear hp9 hs9 hMr hk9 hS9
              refine r_aload_n E (dat dkX10_parseRow 73 rfl) rfl rfl ?_
              refine q_getn E fl_X10_165 (dat dkX10_parseRow 74 rfl) rfl rfl rfl (show (_ : Int32) = _ from hT.2.2.2.2.1) ?_
              refine r_if_le (tgt := 138) E (dat dkX10_parseRow 75 rfl) rfl (fun h134 => ?_) (fun h134 => ?_)
              ·
                have h40 : t4.2.2.2.2.1 = 0 := by
                  rcases hG.2.1 with q | q
                  · exact q
                  · exact absurd q (by first | exact Int32.not_lt.mpr h134 | exact h134)
                have hcl : 2 ≤ c := by
                  first
                    | omega
                    | (rw [ht4] at h40; exact absurd (mEx_z (by decide) h40).1 h72)
                have hcb : x.1.1 * c + c ≤ 64 := by
                  rw [hU, Nat.zero_mul]; omega
                refine r_aload_n E (dat dkX10_parseRow 77 rfl) rfl rfl ?_
                refine q_geta E fl_X10_9 (dat dkX10_parseRow 78 rfl) rfl rfl rfl ?_
                refine r_iconst (v := 1) E (dat dkX10_parseRow 79 rfl) rfl ?_
                refine r_iload_n E (dat dkX10_parseRow 80 rfl) rfl rfl ?_
                refine q_iast E (dat dkX10_parseRow 81 rfl) rfl rfl (by decide) (show (_ : Nat → Int32) = _ from hA) (fun _ => rfl) (show _ = nI 1 from rfl) (by omega) ?_
                refine r_iconst (v := 0) E (dat dkX10_parseRow 82 rfl) rfl ?_
                refine r_istore_4 E (dat dkX10_parseRow 83 rfl) rfl rfl ?_
                refine r_for (c) (fun _ => True) (fun i => md Ma (hgF (upd A 1 (nI c)) (x.1.1 * c) hs i)) (fun i => [some (rv 0 0), some (iv (nI (2))), some (iv (nI (8))), some (iv (nI c)), some (iv (nI i))]) trivial rfl rfl ?_ ?_
                · intro i hi hI kk
                  
                  refine r_iload E (dat dkX10_parseRow 84 rfl) rfl ?_
                  refine r_iload_n E (dat dkX10_parseRow 85 rfl) rfl rfl ?_
                  refine q_icmp_ge (tgt := 188) E (dat dkX10_parseRow 86 rfl) rfl rfl rfl (by omega) (by omega) (fun h151 => ?_) (fun h151 => ?_)
                  ·
                    omega
                  ·
                    refine r_aload_n E (dat dkX10_parseRow 87 rfl) rfl rfl ?_
                    refine q_geta E fl_X10_9 (dat dkX10_parseRow 88 rfl) rfl rfl rfl ?_
                    refine r_aload_n E (dat dkX10_parseRow 89 rfl) rfl rfl ?_
                    refine q_geta E fl_X10_9 (dat dkX10_parseRow 90 rfl) rfl rfl rfl ?_
                    refine r_iconst (v := 2) E (dat dkX10_parseRow 91 rfl) rfl ?_
                    refine q_iald E (dat dkX10_parseRow 92 rfl) rfl rfl (by decide) md_a (show _ = nI 2 from rfl) (by omega) ?_
                    rw [show (hgF (upd A 1 (nI c)) (x.1.1 * c) hs i) 2 = nI x.1.1 from by rw [hgF_n (fun j _ => by unfold c6; omega), upd_ne (by decide)]; exact hA2]
                    refine r_iload_n E (dat dkX10_parseRow 93 rfl) rfl rfl ?_
                    refine r_imul E (dat dkX10_parseRow 94 rfl) ?_
                    rw [show nI x.1.1 * nI c = nI (x.1.1 * c) from pk_mul _ _]
                    refine r_iload E (dat dkX10_parseRow 95 rfl) rfl ?_
                    refine r_iadd E (dat dkX10_parseRow 96 rfl) ?_
                    rw [nI_add]
                    refine r_callS (μ := []) E (sp_X10_c l G (x.1.1 * c + i) _) my_X10_c is_X10_c ml_X10_48 cm_nil rfl rfl (by decide) (Nat.le_of_ble_eq_true rfl) (dat dkX10_parseRow 97 rfl) ?_
                    rintro _ _ ⟨rfl, hM⟩
                    refine ⟨_, Mrg_z hM, ?_⟩
                    clear hM
                    refine r_iconst (v := 0) E (dat dkX10_parseRow 98 rfl) rfl ?_
                    refine r_iadd E (dat dkX10_parseRow 99 rfl) ?_
                    refine r_aload_n E (dat dkX10_parseRow 100 rfl) rfl rfl ?_
                    refine q_geta E fl_X10_33 (dat dkX10_parseRow 101 rfl) rfl rfl rfl ?_
                    refine r_iload E (dat dkX10_parseRow 102 rfl) rfl ?_
                    refine q_iald E (dat dkX10_parseRow 103 rfl) rfl rfl (by decide) (show (_ : Nat → Int32) = hs from h20) rfl (by omega) ?_
                    refine q_iast E (dat dkX10_parseRow 104 rfl) rfl rfl (by decide) md_a (fun _ => md_s) (show nI (c6 (x.1.1 * c + i) 0) + 0 = nI (c6 (x.1.1 * c + i) 0) from Int32.add_zero _) (by unfold c6; omega) ?_
                    refine q_iinc_4 E (dat dkX10_parseRow 105 rfl) rfl rfl ?_
                    refine r_goto (tgt := 148) E (dat dkX10_parseRow 106 rfl) rfl ?_
                    exact kk trivial
                · intro hI
                  
                  refine r_iload E (dat dkX10_parseRow 84 rfl) rfl ?_
                  refine r_iload_n E (dat dkX10_parseRow 85 rfl) rfl rfl ?_
                  refine q_icmp_ge (tgt := 188) E (dat dkX10_parseRow 86 rfl) rfl rfl rfl (by omega) (by omega) (fun h151 => ?_) (fun h151 => ?_)
                  ·
                    refine r_aload_n E (dat dkX10_parseRow 107 rfl) rfl rfl ?_
                    refine q_geta E fl_X10_9 (dat dkX10_parseRow 108 rfl) rfl rfl rfl ?_
                    refine r_iconst (v := 2) E (dat dkX10_parseRow 109 rfl) rfl ?_
                    refine r_dup2 E (dat dkX10_parseRow 110 rfl) rfl rfl ?_
                    refine q_iald E (dat dkX10_parseRow 111 rfl) rfl rfl (by decide) md_a (show _ = nI 2 from rfl) (by omega) ?_
                    rw [show (hgF (upd A 1 (nI c)) (x.1.1 * c) hs c) 2 = nI x.1.1 from by rw [hgF_n (fun j _ => by unfold c6; omega), upd_ne (by decide)]; exact hA2]
                    refine r_iconst (v := 1) E (dat dkX10_parseRow 112 rfl) rfl ?_
                    refine r_iadd E (dat dkX10_parseRow 113 rfl) ?_
                    rw [show nI x.1.1 + 1 = nI (x.1.1 + 1) from nI_1 _]
                    refine q_iast E (dat dkX10_parseRow 114 rfl) rfl rfl (by decide) md_a (fun _ => md_s) (show _ = nI 2 from rfl) (by omega) ?_
                    refine r_vreturn E (dat dkX10_parseRow 115 rfl) (by decide) (by decide) ?_
                    refine ⟨rfl, t4, _, ⟨t2, tt, c, hs, hs0, by rw [if_pos hu8]; exact ht2, ?_, ?_, ?_, rfl⟩, hG, ?_⟩
                    · rw [hleo, hmoo, ← hv2]
                      exact rwM_no (fun q => by
                            first
                              | exact h72 q.1
                              | (rcases q.2 with q | q
                                 · exact absurd q (by omega)
                                 · first
                                     | exact absurd q.1 (by omega)
                                     | exact h90 q.2)) _
                    · rw [hmoo]; exact hv1
                    · first
                        | (rw [if_pos (by first | exact h118 | exact Decidable.not_not.mp h118)]; exact ht4)
                        | (rw [if_neg h118]; exact ht4)
                    · rw [if_pos h40]
                      exact ⟨hk, rfl, hT⟩
                  ·
                    omega
              ·
                refine r_vreturn E (dat dkX10_parseRow 76 rfl) (by decide) (by decide) ?_
                refine ⟨rfl, t4, _, ⟨t2, tt, c, hs, hs0, by rw [if_pos hu8]; exact ht2, ?_, ?_, ?_, rfl⟩, hG, ?_⟩
                · rw [hleo, hmoo, ← hv2]
                  exact rwM_no (fun q => by
                        first
                          | exact h72 q.1
                          | (rcases q.2 with q | q
                             · exact absurd q (by omega)
                             · first
                                 | exact absurd q.1 (by omega)
                                 | exact h90 q.2)) _
                · rw [hmoo]; exact hv1
                · first
                    | (rw [if_pos (by first | exact h118 | exact Decidable.not_not.mp h118)]; exact ht4)
                    | (rw [if_neg h118]; exact ht4)
                · rw [if_neg (fun q => by first | exact absurd (show t4.2.2.2.2.1 ≤ 0 by rw [q]; decide) h134 | exact absurd (show t4.2.2.2.2.1 ≤ 0 by rw [q]; decide) (Int32.not_le.mpr h134))]
                  exact ⟨hk, hA, hT⟩
          ·
            refine r_iload_n E (dat dkX10_parseRow 43 rfl) rfl rfl ?_
            refine r_iload_n E (dat dkX10_parseRow 44 rfl) rfl rfl ?_
            refine q_icmp_lt (tgt := 93) E (dat dkX10_parseRow 45 rfl) rfl rfl rfl (by omega) (by omega) (fun h77 => ?_) (fun h77 => ?_)
            ·
              refine r_aload_n E (dat dkX10_parseRow 53 rfl) rfl rfl ?_
              refine q_geta E fl_X10_33 (dat dkX10_parseRow 54 rfl) rfl rfl rfl ?_
              refine r_iload_n E (dat dkX10_parseRow 55 rfl) rfl rfl ?_
              refine r_aload_n E (dat dkX10_parseRow 56 rfl) rfl rfl ?_
              refine r_iconst (v := 0) E (dat dkX10_parseRow 57 rfl) rfl ?_
              refine r_bipush (v := 9) E (dat dkX10_parseRow 58 rfl) rfl ?_
              refine r_callV (κ := 9) (μ := []) E (px_num l G bs n _ _ (0) (9) _ hB hn hA hT hG hn6) my_X10_parseNumber iv_X10_parseNumber ml_X10_198 cm_id ⟨by decide, rfl, rfl⟩ rfl rfl rfl rfl (by decide) (Nat.le_of_ble_eq_true rfl) (dat dkX10_parseRow 59 rfl) ?_
              rintro _ M9 ⟨rfl, hp9, hs9⟩
              obtain ⟨Ma, hMr, hk9, hA, hT, hS9⟩ := Mrg_pk hp9 hs9
              replace hB := (hk9.2.2.2.1).trans hB
              replace hn := (hk9.2.2.2.2.2.2.2.2.1).trans hn
              replace hk := kq_t hk hk9
              replace hG := TG_ad (b := bs) (TG_ne (lo := 0) (hi := 9) hG)
              replace h20 := hS9.2.2.1.trans h20
              refine ⟨_, hMr, ?_⟩
              clear hp9 hs9 hMr hk9 hS9
              refine q_iast E (dat dkX10_parseRow 60 rfl) rfl rfl (by decide) (show (_ : Nat → Int32) = hs from h20) (fun _ => rfl) rfl (by omega) ?_
              refine q_iinc_3 E (dat dkX10_parseRow 61 rfl) rfl rfl ?_
              refine r_goto (tgt := 68) E (dat dkX10_parseRow 62 rfl) rfl ?_
              exact kk0 (c + 1, upd hs c (mNv tt 0 9), mAd bs n (mNe tt 0 9), ar 20 Ma (upd hs c (mNv tt 0 9))) ⟨by show c + 1 ≤ 8; omega, (rwM_go (by omega) ⟨by first | exact h72 | exact Decidable.not_not.mp h72, by first | exact Or.inl h77 | exact Or.inr ⟨by omega, by first | exact h90 | exact Decidable.not_not.mp h90⟩⟩).trans hv2, hk, hA, hT, hG, rfl, hB, hn⟩ (by show 8 - (c + 1) < 8 - c; omega)
            ·
              refine r_iload_n E (dat dkX10_parseRow 46 rfl) rfl rfl ?_
              refine r_iload_n E (dat dkX10_parseRow 47 rfl) rfl rfl ?_
              refine q_icmp_ge (tgt := 112) E (dat dkX10_parseRow 48 rfl) rfl rfl rfl (by omega) (by omega) (fun h82 => ?_) (fun h82 => ?_)
              ·
                refine r_aload_n E (dat dkX10_parseRow 63 rfl) rfl rfl ?_
                refine r_aload_n E (dat dkX10_parseRow 64 rfl) rfl rfl ?_
                refine q_getn E fl_X10_174 (dat dkX10_parseRow 65 rfl) rfl rfl rfl (show (_ : Int32) = _ from hT.2.2.1) ?_
                refine r_iconst (v := 3) E (dat dkX10_parseRow 66 rfl) rfl ?_
                refine r_icmp_ne (tgt := 125) E (dat dkX10_parseRow 67 rfl) rfl (fun h118 => ?_) (fun h118 => ?_)
                ·
                  refine r_iconst (v := 0) E (dat dkX10_parseRow 70 rfl) rfl ?_
                  refine r_iconst (v := 1) E (dat dkX10_parseRow 71 rfl) rfl ?_
                  refine r_callV (κ := 9) (μ := []) E (px_ex l G bs n _ _ (0) (1) _ hB hn hA hT hG hn6) my_X10_expect iv_X10_expect ml_X10_194 cm_id ⟨by decide, rfl, rfl⟩ rfl rfl rfl rfl (by decide) (Nat.le_of_ble_eq_true rfl) (dat dkX10_parseRow 72 rfl) ?_
                  rintro _ M9 ⟨rfl, hp9, hs9⟩
                  obtain ⟨Ma, hMr, hk9, hA, hT, hS9⟩ := Mrg_pk hp9 hs9
                  replace hB := (hk9.2.2.2.1).trans hB
                  replace hn := (hk9.2.2.2.2.2.2.2.2.1).trans hn
                  replace hk := kq_t hk hk9
                  replace hG := TG_ex (a := 0) (k := 1) (by decide) hG
                  replace h20 := hS9.2.2.1.trans h20
                  obtain ⟨t4, ht4⟩ : ∃ z, z = mEx 0 1 tt := ⟨_, rfl⟩
                  rw [← ht4] at hT hG
                  refine ⟨_, hMr, ?_⟩
                  clear hp9 hs9 hMr hk9 hS9
                  refine r_aload_n E (dat dkX10_parseRow 73 rfl) rfl rfl ?_
                  refine q_getn E fl_X10_165 (dat dkX10_parseRow 74 rfl) rfl rfl rfl (show (_ : Int32) = _ from hT.2.2.2.2.1) ?_
                  refine r_if_le (tgt := 138) E (dat dkX10_parseRow 75 rfl) rfl (fun h134 => ?_) (fun h134 => ?_)
                  ·
                    have h40 : t4.2.2.2.2.1 = 0 := by
                      rcases hG.2.1 with q | q
                      · exact q
                      · exact absurd q (by first | exact Int32.not_lt.mpr h134 | exact h134)
                    have hcl : 2 ≤ c := by
                      first
                        | omega
                        | (rw [ht4] at h40; exact absurd (mEx_z (by decide) h40).1 h72)
                    have hcb : x.1.1 * c + c ≤ 64 := by
                      rw [hU, Nat.zero_mul]; omega
                    refine r_aload_n E (dat dkX10_parseRow 77 rfl) rfl rfl ?_
                    refine q_geta E fl_X10_9 (dat dkX10_parseRow 78 rfl) rfl rfl rfl ?_
                    refine r_iconst (v := 1) E (dat dkX10_parseRow 79 rfl) rfl ?_
                    refine r_iload_n E (dat dkX10_parseRow 80 rfl) rfl rfl ?_
                    refine q_iast E (dat dkX10_parseRow 81 rfl) rfl rfl (by decide) (show (_ : Nat → Int32) = _ from hA) (fun _ => rfl) (show _ = nI 1 from rfl) (by omega) ?_
                    refine r_iconst (v := 0) E (dat dkX10_parseRow 82 rfl) rfl ?_
                    refine r_istore_4 E (dat dkX10_parseRow 83 rfl) rfl rfl ?_
                    refine r_for (c) (fun _ => True) (fun i => md Ma (hgF (upd A 1 (nI c)) (x.1.1 * c) hs i)) (fun i => [some (rv 0 0), some (iv (nI (2))), some (iv (nI (8))), some (iv (nI c)), some (iv (nI i))]) trivial rfl rfl ?_ ?_
                    · intro i hi hI kk
                      
                      refine r_iload E (dat dkX10_parseRow 84 rfl) rfl ?_
                      refine r_iload_n E (dat dkX10_parseRow 85 rfl) rfl rfl ?_
                      refine q_icmp_ge (tgt := 188) E (dat dkX10_parseRow 86 rfl) rfl rfl rfl (by omega) (by omega) (fun h151 => ?_) (fun h151 => ?_)
                      ·
                        omega
                      ·
                        refine r_aload_n E (dat dkX10_parseRow 87 rfl) rfl rfl ?_
                        refine q_geta E fl_X10_9 (dat dkX10_parseRow 88 rfl) rfl rfl rfl ?_
                        refine r_aload_n E (dat dkX10_parseRow 89 rfl) rfl rfl ?_
                        refine q_geta E fl_X10_9 (dat dkX10_parseRow 90 rfl) rfl rfl rfl ?_
                        refine r_iconst (v := 2) E (dat dkX10_parseRow 91 rfl) rfl ?_
                        refine q_iald E (dat dkX10_parseRow 92 rfl) rfl rfl (by decide) md_a (show _ = nI 2 from rfl) (by omega) ?_
                        rw [show (hgF (upd A 1 (nI c)) (x.1.1 * c) hs i) 2 = nI x.1.1 from by rw [hgF_n (fun j _ => by unfold c6; omega), upd_ne (by decide)]; exact hA2]
                        refine r_iload_n E (dat dkX10_parseRow 93 rfl) rfl rfl ?_
                        refine r_imul E (dat dkX10_parseRow 94 rfl) ?_
                        rw [show nI x.1.1 * nI c = nI (x.1.1 * c) from pk_mul _ _]
                        refine r_iload E (dat dkX10_parseRow 95 rfl) rfl ?_
                        refine r_iadd E (dat dkX10_parseRow 96 rfl) ?_
                        rw [nI_add]
                        refine r_callS (μ := []) E (sp_X10_c l G (x.1.1 * c + i) _) my_X10_c is_X10_c ml_X10_48 cm_nil rfl rfl (by decide) (Nat.le_of_ble_eq_true rfl) (dat dkX10_parseRow 97 rfl) ?_
                        rintro _ _ ⟨rfl, hM⟩
                        refine ⟨_, Mrg_z hM, ?_⟩
                        clear hM
                        refine r_iconst (v := 0) E (dat dkX10_parseRow 98 rfl) rfl ?_
                        refine r_iadd E (dat dkX10_parseRow 99 rfl) ?_
                        refine r_aload_n E (dat dkX10_parseRow 100 rfl) rfl rfl ?_
                        refine q_geta E fl_X10_33 (dat dkX10_parseRow 101 rfl) rfl rfl rfl ?_
                        refine r_iload E (dat dkX10_parseRow 102 rfl) rfl ?_
                        refine q_iald E (dat dkX10_parseRow 103 rfl) rfl rfl (by decide) (show (_ : Nat → Int32) = hs from h20) rfl (by omega) ?_
                        refine q_iast E (dat dkX10_parseRow 104 rfl) rfl rfl (by decide) md_a (fun _ => md_s) (show nI (c6 (x.1.1 * c + i) 0) + 0 = nI (c6 (x.1.1 * c + i) 0) from Int32.add_zero _) (by unfold c6; omega) ?_
                        refine q_iinc_4 E (dat dkX10_parseRow 105 rfl) rfl rfl ?_
                        refine r_goto (tgt := 148) E (dat dkX10_parseRow 106 rfl) rfl ?_
                        exact kk trivial
                    · intro hI
                      
                      refine r_iload E (dat dkX10_parseRow 84 rfl) rfl ?_
                      refine r_iload_n E (dat dkX10_parseRow 85 rfl) rfl rfl ?_
                      refine q_icmp_ge (tgt := 188) E (dat dkX10_parseRow 86 rfl) rfl rfl rfl (by omega) (by omega) (fun h151 => ?_) (fun h151 => ?_)
                      ·
                        refine r_aload_n E (dat dkX10_parseRow 107 rfl) rfl rfl ?_
                        refine q_geta E fl_X10_9 (dat dkX10_parseRow 108 rfl) rfl rfl rfl ?_
                        refine r_iconst (v := 2) E (dat dkX10_parseRow 109 rfl) rfl ?_
                        refine r_dup2 E (dat dkX10_parseRow 110 rfl) rfl rfl ?_
                        refine q_iald E (dat dkX10_parseRow 111 rfl) rfl rfl (by decide) md_a (show _ = nI 2 from rfl) (by omega) ?_
                        rw [show (hgF (upd A 1 (nI c)) (x.1.1 * c) hs c) 2 = nI x.1.1 from by rw [hgF_n (fun j _ => by unfold c6; omega), upd_ne (by decide)]; exact hA2]
                        refine r_iconst (v := 1) E (dat dkX10_parseRow 112 rfl) rfl ?_
                        refine r_iadd E (dat dkX10_parseRow 113 rfl) ?_
                        rw [show nI x.1.1 + 1 = nI (x.1.1 + 1) from nI_1 _]
                        refine q_iast E (dat dkX10_parseRow 114 rfl) rfl rfl (by decide) md_a (fun _ => md_s) (show _ = nI 2 from rfl) (by omega) ?_
                        refine r_vreturn E (dat dkX10_parseRow 115 rfl) (by decide) (by decide) ?_
                        refine ⟨rfl, t4, _, ⟨t2, tt, c, hs, hs0, by rw [if_pos hu8]; exact ht2, ?_, ?_, ?_, rfl⟩, hG, ?_⟩
                        · rw [hleo, hmoo, ← hv2]
                          exact rwM_no (fun q => by
                                first
                                  | exact h72 q.1
                                  | (rcases q.2 with q | q
                                     · exact absurd q (by omega)
                                     · first
                                         | exact absurd q.1 (by omega)
                                         | exact h90 q.2)) _
                        · rw [hmoo]; exact hv1
                        · first
                            | (rw [if_pos (by first | exact h118 | exact Decidable.not_not.mp h118)]; exact ht4)
                            | (rw [if_neg h118]; exact ht4)
                        · rw [if_pos h40]
                          exact ⟨hk, rfl, hT⟩
                      ·
                        omega
                  ·
                    refine r_vreturn E (dat dkX10_parseRow 76 rfl) (by decide) (by decide) ?_
                    refine ⟨rfl, t4, _, ⟨t2, tt, c, hs, hs0, by rw [if_pos hu8]; exact ht2, ?_, ?_, ?_, rfl⟩, hG, ?_⟩
                    · rw [hleo, hmoo, ← hv2]
                      exact rwM_no (fun q => by
                            first
                              | exact h72 q.1
                              | (rcases q.2 with q | q
                                 · exact absurd q (by omega)
                                 · first
                                     | exact absurd q.1 (by omega)
                                     | exact h90 q.2)) _
                    · rw [hmoo]; exact hv1
                    · first
                        | (rw [if_pos (by first | exact h118 | exact Decidable.not_not.mp h118)]; exact ht4)
                        | (rw [if_neg h118]; exact ht4)
                    · rw [if_neg (fun q => by first | exact absurd (show t4.2.2.2.2.1 ≤ 0 by rw [q]; decide) h134 | exact absurd (show t4.2.2.2.2.1 ≤ 0 by rw [q]; decide) (Int32.not_le.mpr h134))]
                      exact ⟨hk, hA, hT⟩
                ·
                  refine r_iconst (v := 1) E (dat dkX10_parseRow 68 rfl) rfl ?_
                  refine r_goto (tgt := 126) E (dat dkX10_parseRow 69 rfl) rfl ?_
                  refine r_iconst (v := 1) E (dat dkX10_parseRow 71 rfl) rfl ?_
                  refine r_callV (κ := 9) (μ := []) E (px_ex l G bs n _ _ (1) (1) _ hB hn hA hT hG hn6) my_X10_expect iv_X10_expect ml_X10_194 cm_id ⟨by decide, rfl, rfl⟩ rfl rfl rfl rfl (by decide) (Nat.le_of_ble_eq_true rfl) (dat dkX10_parseRow 72 rfl) ?_
                  rintro _ M9 ⟨rfl, hp9, hs9⟩
                  obtain ⟨Ma, hMr, hk9, hA, hT, hS9⟩ := Mrg_pk hp9 hs9
                  replace hB := (hk9.2.2.2.1).trans hB
                  replace hn := (hk9.2.2.2.2.2.2.2.2.1).trans hn
                  replace hk := kq_t hk hk9
                  replace hG := TG_ex (a := 1) (k := 1) (by decide) hG
                  replace h20 := hS9.2.2.1.trans h20
                  obtain ⟨t4, ht4⟩ : ∃ z, z = mEx 1 1 tt := ⟨_, rfl⟩
                  rw [← ht4] at hT hG
                  refine ⟨_, hMr, ?_⟩
                  clear hp9 hs9 hMr hk9 hS9
                  refine r_aload_n E (dat dkX10_parseRow 73 rfl) rfl rfl ?_
                  refine q_getn E fl_X10_165 (dat dkX10_parseRow 74 rfl) rfl rfl rfl (show (_ : Int32) = _ from hT.2.2.2.2.1) ?_
                  refine r_if_le (tgt := 138) E (dat dkX10_parseRow 75 rfl) rfl (fun h134 => ?_) (fun h134 => ?_)
                  ·
                    have h40 : t4.2.2.2.2.1 = 0 := by
                      rcases hG.2.1 with q | q
                      · exact q
                      · exact absurd q (by first | exact Int32.not_lt.mpr h134 | exact h134)
                    have hcl : 2 ≤ c := by
                      first
                        | omega
                        | (rw [ht4] at h40; exact absurd (mEx_z (by decide) h40).1 h72)
                    have hcb : x.1.1 * c + c ≤ 64 := by
                      rw [hU, Nat.zero_mul]; omega
                    refine r_aload_n E (dat dkX10_parseRow 77 rfl) rfl rfl ?_
                    refine q_geta E fl_X10_9 (dat dkX10_parseRow 78 rfl) rfl rfl rfl ?_
                    refine r_iconst (v := 1) E (dat dkX10_parseRow 79 rfl) rfl ?_
                    refine r_iload_n E (dat dkX10_parseRow 80 rfl) rfl rfl ?_
                    refine q_iast E (dat dkX10_parseRow 81 rfl) rfl rfl (by decide) (show (_ : Nat → Int32) = _ from hA) (fun _ => rfl) (show _ = nI 1 from rfl) (by omega) ?_
                    refine r_iconst (v := 0) E (dat dkX10_parseRow 82 rfl) rfl ?_
                    refine r_istore_4 E (dat dkX10_parseRow 83 rfl) rfl rfl ?_
                    refine r_for (c) (fun _ => True) (fun i => md Ma (hgF (upd A 1 (nI c)) (x.1.1 * c) hs i)) (fun i => [some (rv 0 0), some (iv (nI (2))), some (iv (nI (8))), some (iv (nI c)), some (iv (nI i))]) trivial rfl rfl ?_ ?_
                    · intro i hi hI kk
                      
                      refine r_iload E (dat dkX10_parseRow 84 rfl) rfl ?_
                      refine r_iload_n E (dat dkX10_parseRow 85 rfl) rfl rfl ?_
                      refine q_icmp_ge (tgt := 188) E (dat dkX10_parseRow 86 rfl) rfl rfl rfl (by omega) (by omega) (fun h151 => ?_) (fun h151 => ?_)
                      ·
                        omega
                      ·
                        refine r_aload_n E (dat dkX10_parseRow 87 rfl) rfl rfl ?_
                        refine q_geta E fl_X10_9 (dat dkX10_parseRow 88 rfl) rfl rfl rfl ?_
                        refine r_aload_n E (dat dkX10_parseRow 89 rfl) rfl rfl ?_
                        refine q_geta E fl_X10_9 (dat dkX10_parseRow 90 rfl) rfl rfl rfl ?_
                        refine r_iconst (v := 2) E (dat dkX10_parseRow 91 rfl) rfl ?_
                        refine q_iald E (dat dkX10_parseRow 92 rfl) rfl rfl (by decide) md_a (show _ = nI 2 from rfl) (by omega) ?_
                        rw [show (hgF (upd A 1 (nI c)) (x.1.1 * c) hs i) 2 = nI x.1.1 from by rw [hgF_n (fun j _ => by unfold c6; omega), upd_ne (by decide)]; exact hA2]
                        refine r_iload_n E (dat dkX10_parseRow 93 rfl) rfl rfl ?_
                        refine r_imul E (dat dkX10_parseRow 94 rfl) ?_
                        rw [show nI x.1.1 * nI c = nI (x.1.1 * c) from pk_mul _ _]
                        refine r_iload E (dat dkX10_parseRow 95 rfl) rfl ?_
                        refine r_iadd E (dat dkX10_parseRow 96 rfl) ?_
                        rw [nI_add]
                        refine r_callS (μ := []) E (sp_X10_c l G (x.1.1 * c + i) _) my_X10_c is_X10_c ml_X10_48 cm_nil rfl rfl (by decide) (Nat.le_of_ble_eq_true rfl) (dat dkX10_parseRow 97 rfl) ?_
                        rintro _ _ ⟨rfl, hM⟩
                        refine ⟨_, Mrg_z hM, ?_⟩
                        clear hM
                        refine r_iconst (v := 0) E (dat dkX10_parseRow 98 rfl) rfl ?_
                        refine r_iadd E (dat dkX10_parseRow 99 rfl) ?_
                        refine r_aload_n E (dat dkX10_parseRow 100 rfl) rfl rfl ?_
                        refine q_geta E fl_X10_33 (dat dkX10_parseRow 101 rfl) rfl rfl rfl ?_
                        refine r_iload E (dat dkX10_parseRow 102 rfl) rfl ?_
                        refine q_iald E (dat dkX10_parseRow 103 rfl) rfl rfl (by decide) (show (_ : Nat → Int32) = hs from h20) rfl (by omega) ?_
                        refine q_iast E (dat dkX10_parseRow 104 rfl) rfl rfl (by decide) md_a (fun _ => md_s) (show nI (c6 (x.1.1 * c + i) 0) + 0 = nI (c6 (x.1.1 * c + i) 0) from Int32.add_zero _) (by unfold c6; omega) ?_
                        refine q_iinc_4 E (dat dkX10_parseRow 105 rfl) rfl rfl ?_
                        refine r_goto (tgt := 148) E (dat dkX10_parseRow 106 rfl) rfl ?_
                        exact kk trivial
                    · intro hI
                      
                      refine r_iload E (dat dkX10_parseRow 84 rfl) rfl ?_
                      refine r_iload_n E (dat dkX10_parseRow 85 rfl) rfl rfl ?_
                      refine q_icmp_ge (tgt := 188) E (dat dkX10_parseRow 86 rfl) rfl rfl rfl (by omega) (by omega) (fun h151 => ?_) (fun h151 => ?_)
                      ·
                        refine r_aload_n E (dat dkX10_parseRow 107 rfl) rfl rfl ?_
                        refine q_geta E fl_X10_9 (dat dkX10_parseRow 108 rfl) rfl rfl rfl ?_
                        refine r_iconst (v := 2) E (dat dkX10_parseRow 109 rfl) rfl ?_
                        refine r_dup2 E (dat dkX10_parseRow 110 rfl) rfl rfl ?_
                        refine q_iald E (dat dkX10_parseRow 111 rfl) rfl rfl (by decide) md_a (show _ = nI 2 from rfl) (by omega) ?_
                        rw [show (hgF (upd A 1 (nI c)) (x.1.1 * c) hs c) 2 = nI x.1.1 from by rw [hgF_n (fun j _ => by unfold c6; omega), upd_ne (by decide)]; exact hA2]
                        refine r_iconst (v := 1) E (dat dkX10_parseRow 112 rfl) rfl ?_
                        refine r_iadd E (dat dkX10_parseRow 113 rfl) ?_
                        rw [show nI x.1.1 + 1 = nI (x.1.1 + 1) from nI_1 _]
                        refine q_iast E (dat dkX10_parseRow 114 rfl) rfl rfl (by decide) md_a (fun _ => md_s) (show _ = nI 2 from rfl) (by omega) ?_
                        refine r_vreturn E (dat dkX10_parseRow 115 rfl) (by decide) (by decide) ?_
                        refine ⟨rfl, t4, _, ⟨t2, tt, c, hs, hs0, by rw [if_pos hu8]; exact ht2, ?_, ?_, ?_, rfl⟩, hG, ?_⟩
                        · rw [hleo, hmoo, ← hv2]
                          exact rwM_no (fun q => by
                                first
                                  | exact h72 q.1
                                  | (rcases q.2 with q | q
                                     · exact absurd q (by omega)
                                     · first
                                         | exact absurd q.1 (by omega)
                                         | exact h90 q.2)) _
                        · rw [hmoo]; exact hv1
                        · first
                            | (rw [if_pos (by first | exact h118 | exact Decidable.not_not.mp h118)]; exact ht4)
                            | (rw [if_neg h118]; exact ht4)
                        · rw [if_pos h40]
                          exact ⟨hk, rfl, hT⟩
                      ·
                        omega
                  ·
                    refine r_vreturn E (dat dkX10_parseRow 76 rfl) (by decide) (by decide) ?_
                    refine ⟨rfl, t4, _, ⟨t2, tt, c, hs, hs0, by rw [if_pos hu8]; exact ht2, ?_, ?_, ?_, rfl⟩, hG, ?_⟩
                    · rw [hleo, hmoo, ← hv2]
                      exact rwM_no (fun q => by
                            first
                              | exact h72 q.1
                              | (rcases q.2 with q | q
                                 · exact absurd q (by omega)
                                 · first
                                     | exact absurd q.1 (by omega)
                                     | exact h90 q.2)) _
                    · rw [hmoo]; exact hv1
                    · first
                        | (rw [if_pos (by first | exact h118 | exact Decidable.not_not.mp h118)]; exact ht4)
                        | (rw [if_neg h118]; exact ht4)
                    · rw [if_neg (fun q => by first | exact absurd (show t4.2.2.2.2.1 ≤ 0 by rw [q]; decide) h134 | exact absurd (show t4.2.2.2.2.1 ≤ 0 by rw [q]; decide) (Int32.not_le.mpr h134))]
                      exact ⟨hk, hA, hT⟩
              ·
                refine r_aload_n E (dat dkX10_parseRow 49 rfl) rfl rfl ?_
                refine q_getn E fl_X10_174 (dat dkX10_parseRow 50 rfl) rfl rfl rfl (show (_ : Int32) = _ from hT.2.2.1) ?_
                refine r_iconst (v := 2) E (dat dkX10_parseRow 51 rfl) rfl ?_
                refine r_icmp_ne (tgt := 112) E (dat dkX10_parseRow 52 rfl) rfl (fun h90 => ?_) (fun h90 => ?_)
                ·
                  refine r_aload_n E (dat dkX10_parseRow 63 rfl) rfl rfl ?_
                  refine r_aload_n E (dat dkX10_parseRow 64 rfl) rfl rfl ?_
                  refine q_getn E fl_X10_174 (dat dkX10_parseRow 65 rfl) rfl rfl rfl (show (_ : Int32) = _ from hT.2.2.1) ?_
                  refine r_iconst (v := 3) E (dat dkX10_parseRow 66 rfl) rfl ?_
                  refine r_icmp_ne (tgt := 125) E (dat dkX10_parseRow 67 rfl) rfl (fun h118 => ?_) (fun h118 => ?_)
                  ·
                    refine r_iconst (v := 0) E (dat dkX10_parseRow 70 rfl) rfl ?_
                    refine r_iconst (v := 1) E (dat dkX10_parseRow 71 rfl) rfl ?_
                    refine r_callV (κ := 9) (μ := []) E (px_ex l G bs n _ _ (0) (1) _ hB hn hA hT hG hn6) my_X10_expect iv_X10_expect ml_X10_194 cm_id ⟨by decide, rfl, rfl⟩ rfl rfl rfl rfl (by decide) (Nat.le_of_ble_eq_true rfl) (dat dkX10_parseRow 72 rfl) ?_
                    rintro _ M9 ⟨rfl, hp9, hs9⟩
                    obtain ⟨Ma, hMr, hk9, hA, hT, hS9⟩ := Mrg_pk hp9 hs9
                    replace hB := (hk9.2.2.2.1).trans hB
                    replace hn := (hk9.2.2.2.2.2.2.2.2.1).trans hn
                    replace hk := kq_t hk hk9
                    replace hG := TG_ex (a := 0) (k := 1) (by decide) hG
                    replace h20 := hS9.2.2.1.trans h20
                    obtain ⟨t4, ht4⟩ : ∃ z, z = mEx 0 1 tt := ⟨_, rfl⟩
                    rw [← ht4] at hT hG
                    refine ⟨_, hMr, ?_⟩
                    clear hp9 hs9 hMr hk9 hS9
                    refine r_aload_n E (dat dkX10_parseRow 73 rfl) rfl rfl ?_
                    refine q_getn E fl_X10_165 (dat dkX10_parseRow 74 rfl) rfl rfl rfl (show (_ : Int32) = _ from hT.2.2.2.2.1) ?_
                    refine r_if_le (tgt := 138) E (dat dkX10_parseRow 75 rfl) rfl (fun h134 => ?_) (fun h134 => ?_)
                    ·
                      have h40 : t4.2.2.2.2.1 = 0 := by
                        rcases hG.2.1 with q | q
                        · exact q
                        · exact absurd q (by first | exact Int32.not_lt.mpr h134 | exact h134)
                      have hcl : 2 ≤ c := by
                        first
                          | omega
                          | (rw [ht4] at h40; exact absurd (mEx_z (by decide) h40).1 h72)
                      have hcb : x.1.1 * c + c ≤ 64 := by
                        rw [hU, Nat.zero_mul]; omega
                      refine r_aload_n E (dat dkX10_parseRow 77 rfl) rfl rfl ?_
                      refine q_geta E fl_X10_9 (dat dkX10_parseRow 78 rfl) rfl rfl rfl ?_
                      refine r_iconst (v := 1) E (dat dkX10_parseRow 79 rfl) rfl ?_
                      refine r_iload_n E (dat dkX10_parseRow 80 rfl) rfl rfl ?_
                      refine q_iast E (dat dkX10_parseRow 81 rfl) rfl rfl (by decide) (show (_ : Nat → Int32) = _ from hA) (fun _ => rfl) (show _ = nI 1 from rfl) (by omega) ?_
                      refine r_iconst (v := 0) E (dat dkX10_parseRow 82 rfl) rfl ?_
                      refine r_istore_4 E (dat dkX10_parseRow 83 rfl) rfl rfl ?_
                      refine r_for (c) (fun _ => True) (fun i => md Ma (hgF (upd A 1 (nI c)) (x.1.1 * c) hs i)) (fun i => [some (rv 0 0), some (iv (nI (2))), some (iv (nI (8))), some (iv (nI c)), some (iv (nI i))]) trivial rfl rfl ?_ ?_
                      · intro i hi hI kk
                        
                        refine r_iload E (dat dkX10_parseRow 84 rfl) rfl ?_
                        refine r_iload_n E (dat dkX10_parseRow 85 rfl) rfl rfl ?_
                        refine q_icmp_ge (tgt := 188) E (dat dkX10_parseRow 86 rfl) rfl rfl rfl (by omega) (by omega) (fun h151 => ?_) (fun h151 => ?_)
                        ·
                          omega
                        ·
                          refine r_aload_n E (dat dkX10_parseRow 87 rfl) rfl rfl ?_
                          refine q_geta E fl_X10_9 (dat dkX10_parseRow 88 rfl) rfl rfl rfl ?_
                          refine r_aload_n E (dat dkX10_parseRow 89 rfl) rfl rfl ?_
                          refine q_geta E fl_X10_9 (dat dkX10_parseRow 90 rfl) rfl rfl rfl ?_
                          refine r_iconst (v := 2) E (dat dkX10_parseRow 91 rfl) rfl ?_
                          refine q_iald E (dat dkX10_parseRow 92 rfl) rfl rfl (by decide) md_a (show _ = nI 2 from rfl) (by omega) ?_
                          rw [show (hgF (upd A 1 (nI c)) (x.1.1 * c) hs i) 2 = nI x.1.1 from by rw [hgF_n (fun j _ => by unfold c6; omega), upd_ne (by decide)]; exact hA2]
                          refine r_iload_n E (dat dkX10_parseRow 93 rfl) rfl rfl ?_
                          refine r_imul E (dat dkX10_parseRow 94 rfl) ?_
                          rw [show nI x.1.1 * nI c = nI (x.1.1 * c) from pk_mul _ _]
                          refine r_iload E (dat dkX10_parseRow 95 rfl) rfl ?_
                          refine r_iadd E (dat dkX10_parseRow 96 rfl) ?_
                          rw [nI_add]
                          refine r_callS (μ := []) E (sp_X10_c l G (x.1.1 * c + i) _) my_X10_c is_X10_c ml_X10_48 cm_nil rfl rfl (by decide) (Nat.le_of_ble_eq_true rfl) (dat dkX10_parseRow 97 rfl) ?_
                          rintro _ _ ⟨rfl, hM⟩
                          refine ⟨_, Mrg_z hM, ?_⟩
                          clear hM
                          refine r_iconst (v := 0) E (dat dkX10_parseRow 98 rfl) rfl ?_
                          refine r_iadd E (dat dkX10_parseRow 99 rfl) ?_
                          refine r_aload_n E (dat dkX10_parseRow 100 rfl) rfl rfl ?_
                          refine q_geta E fl_X10_33 (dat dkX10_parseRow 101 rfl) rfl rfl rfl ?_
                          refine r_iload E (dat dkX10_parseRow 102 rfl) rfl ?_
                          refine q_iald E (dat dkX10_parseRow 103 rfl) rfl rfl (by decide) (show (_ : Nat → Int32) = hs from h20) rfl (by omega) ?_
                          refine q_iast E (dat dkX10_parseRow 104 rfl) rfl rfl (by decide) md_a (fun _ => md_s) (show nI (c6 (x.1.1 * c + i) 0) + 0 = nI (c6 (x.1.1 * c + i) 0) from Int32.add_zero _) (by unfold c6; omega) ?_
                          refine q_iinc_4 E (dat dkX10_parseRow 105 rfl) rfl rfl ?_
                          refine r_goto (tgt := 148) E (dat dkX10_parseRow 106 rfl) rfl ?_
                          exact kk trivial
                      · intro hI
                        
                        refine r_iload E (dat dkX10_parseRow 84 rfl) rfl ?_
                        refine r_iload_n E (dat dkX10_parseRow 85 rfl) rfl rfl ?_
                        refine q_icmp_ge (tgt := 188) E (dat dkX10_parseRow 86 rfl) rfl rfl rfl (by omega) (by omega) (fun h151 => ?_) (fun h151 => ?_)
                        ·
                          refine r_aload_n E (dat dkX10_parseRow 107 rfl) rfl rfl ?_
                          refine q_geta E fl_X10_9 (dat dkX10_parseRow 108 rfl) rfl rfl rfl ?_
                          refine r_iconst (v := 2) E (dat dkX10_parseRow 109 rfl) rfl ?_
                          refine r_dup2 E (dat dkX10_parseRow 110 rfl) rfl rfl ?_
                          refine q_iald E (dat dkX10_parseRow 111 rfl) rfl rfl (by decide) md_a (show _ = nI 2 from rfl) (by omega) ?_
                          rw [show (hgF (upd A 1 (nI c)) (x.1.1 * c) hs c) 2 = nI x.1.1 from by rw [hgF_n (fun j _ => by unfold c6; omega), upd_ne (by decide)]; exact hA2]
                          refine r_iconst (v := 1) E (dat dkX10_parseRow 112 rfl) rfl ?_
                          refine r_iadd E (dat dkX10_parseRow 113 rfl) ?_
                          rw [show nI x.1.1 + 1 = nI (x.1.1 + 1) from nI_1 _]
                          refine q_iast E (dat dkX10_parseRow 114 rfl) rfl rfl (by decide) md_a (fun _ => md_s) (show _ = nI 2 from rfl) (by omega) ?_
                          refine r_vreturn E (dat dkX10_parseRow 115 rfl) (by decide) (by decide) ?_
                          refine ⟨rfl, t4, _, ⟨t2, tt, c, hs, hs0, by rw [if_pos hu8]; exact ht2, ?_, ?_, ?_, rfl⟩, hG, ?_⟩
                          · rw [hleo, hmoo, ← hv2]
                            exact rwM_no (fun q => by
                                  first
                                    | exact h72 q.1
                                    | (rcases q.2 with q | q
                                       · exact absurd q (by omega)
                                       · first
                                           | exact absurd q.1 (by omega)
                                           | exact h90 q.2)) _
                          · rw [hmoo]; exact hv1
                          · first
                              | (rw [if_pos (by first | exact h118 | exact Decidable.not_not.mp h118)]; exact ht4)
                              | (rw [if_neg h118]; exact ht4)
                          · rw [if_pos h40]
                            exact ⟨hk, rfl, hT⟩
                        ·
                          omega
                    ·
                      refine r_vreturn E (dat dkX10_parseRow 76 rfl) (by decide) (by decide) ?_
                      refine ⟨rfl, t4, _, ⟨t2, tt, c, hs, hs0, by rw [if_pos hu8]; exact ht2, ?_, ?_, ?_, rfl⟩, hG, ?_⟩
                      · rw [hleo, hmoo, ← hv2]
                        exact rwM_no (fun q => by
                              first
                                | exact h72 q.1
                                | (rcases q.2 with q | q
                                   · exact absurd q (by omega)
                                   · first
                                       | exact absurd q.1 (by omega)
                                       | exact h90 q.2)) _
                      · rw [hmoo]; exact hv1
                      · first
                          | (rw [if_pos (by first | exact h118 | exact Decidable.not_not.mp h118)]; exact ht4)
                          | (rw [if_neg h118]; exact ht4)
                      · rw [if_neg (fun q => by first | exact absurd (show t4.2.2.2.2.1 ≤ 0 by rw [q]; decide) h134 | exact absurd (show t4.2.2.2.2.1 ≤ 0 by rw [q]; decide) (Int32.not_le.mpr h134))]
                        exact ⟨hk, hA, hT⟩
                  ·
                    refine r_iconst (v := 1) E (dat dkX10_parseRow 68 rfl) rfl ?_
                    refine r_goto (tgt := 126) E (dat dkX10_parseRow 69 rfl) rfl ?_
                    refine r_iconst (v := 1) E (dat dkX10_parseRow 71 rfl) rfl ?_
                    refine r_callV (κ := 9) (μ := []) E (px_ex l G bs n _ _ (1) (1) _ hB hn hA hT hG hn6) my_X10_expect iv_X10_expect ml_X10_194 cm_id ⟨by decide, rfl, rfl⟩ rfl rfl rfl rfl (by decide) (Nat.le_of_ble_eq_true rfl) (dat dkX10_parseRow 72 rfl) ?_
                    rintro _ M9 ⟨rfl, hp9, hs9⟩
                    obtain ⟨Ma, hMr, hk9, hA, hT, hS9⟩ := Mrg_pk hp9 hs9
                    replace hB := (hk9.2.2.2.1).trans hB
                    replace hn := (hk9.2.2.2.2.2.2.2.2.1).trans hn
                    replace hk := kq_t hk hk9
                    replace hG := TG_ex (a := 1) (k := 1) (by decide) hG
                    replace h20 := hS9.2.2.1.trans h20
                    obtain ⟨t4, ht4⟩ : ∃ z, z = mEx 1 1 tt := ⟨_, rfl⟩
                    rw [← ht4] at hT hG
                    refine ⟨_, hMr, ?_⟩
                    clear hp9 hs9 hMr hk9 hS9
                    refine r_aload_n E (dat dkX10_parseRow 73 rfl) rfl rfl ?_
                    refine q_getn E fl_X10_165 (dat dkX10_parseRow 74 rfl) rfl rfl rfl (show (_ : Int32) = _ from hT.2.2.2.2.1) ?_
                    refine r_if_le (tgt := 138) E (dat dkX10_parseRow 75 rfl) rfl (fun h134 => ?_) (fun h134 => ?_)
                    ·
                      have h40 : t4.2.2.2.2.1 = 0 := by
                        rcases hG.2.1 with q | q
                        · exact q
                        · exact absurd q (by first | exact Int32.not_lt.mpr h134 | exact h134)
                      have hcl : 2 ≤ c := by
                        first
                          | omega
                          | (rw [ht4] at h40; exact absurd (mEx_z (by decide) h40).1 h72)
                      have hcb : x.1.1 * c + c ≤ 64 := by
                        rw [hU, Nat.zero_mul]; omega
                      refine r_aload_n E (dat dkX10_parseRow 77 rfl) rfl rfl ?_
                      refine q_geta E fl_X10_9 (dat dkX10_parseRow 78 rfl) rfl rfl rfl ?_
                      refine r_iconst (v := 1) E (dat dkX10_parseRow 79 rfl) rfl ?_
                      refine r_iload_n E (dat dkX10_parseRow 80 rfl) rfl rfl ?_
                      refine q_iast E (dat dkX10_parseRow 81 rfl) rfl rfl (by decide) (show (_ : Nat → Int32) = _ from hA) (fun _ => rfl) (show _ = nI 1 from rfl) (by omega) ?_
                      refine r_iconst (v := 0) E (dat dkX10_parseRow 82 rfl) rfl ?_
                      refine r_istore_4 E (dat dkX10_parseRow 83 rfl) rfl rfl ?_
                      refine r_for (c) (fun _ => True) (fun i => md Ma (hgF (upd A 1 (nI c)) (x.1.1 * c) hs i)) (fun i => [some (rv 0 0), some (iv (nI (2))), some (iv (nI (8))), some (iv (nI c)), some (iv (nI i))]) trivial rfl rfl ?_ ?_
                      · intro i hi hI kk
                        
                        refine r_iload E (dat dkX10_parseRow 84 rfl) rfl ?_
                        refine r_iload_n E (dat dkX10_parseRow 85 rfl) rfl rfl ?_
                        refine q_icmp_ge (tgt := 188) E (dat dkX10_parseRow 86 rfl) rfl rfl rfl (by omega) (by omega) (fun h151 => ?_) (fun h151 => ?_)
                        ·
                          omega
                        ·
                          refine r_aload_n E (dat dkX10_parseRow 87 rfl) rfl rfl ?_
                          refine q_geta E fl_X10_9 (dat dkX10_parseRow 88 rfl) rfl rfl rfl ?_
                          refine r_aload_n E (dat dkX10_parseRow 89 rfl) rfl rfl ?_
                          refine q_geta E fl_X10_9 (dat dkX10_parseRow 90 rfl) rfl rfl rfl ?_
                          refine r_iconst (v := 2) E (dat dkX10_parseRow 91 rfl) rfl ?_
                          refine q_iald E (dat dkX10_parseRow 92 rfl) rfl rfl (by decide) md_a (show _ = nI 2 from rfl) (by omega) ?_
                          rw [show (hgF (upd A 1 (nI c)) (x.1.1 * c) hs i) 2 = nI x.1.1 from by rw [hgF_n (fun j _ => by unfold c6; omega), upd_ne (by decide)]; exact hA2]
                          refine r_iload_n E (dat dkX10_parseRow 93 rfl) rfl rfl ?_
                          refine r_imul E (dat dkX10_parseRow 94 rfl) ?_
                          rw [show nI x.1.1 * nI c = nI (x.1.1 * c) from pk_mul _ _]
                          refine r_iload E (dat dkX10_parseRow 95 rfl) rfl ?_
                          refine r_iadd E (dat dkX10_parseRow 96 rfl) ?_
                          rw [nI_add]
                          refine r_callS (μ := []) E (sp_X10_c l G (x.1.1 * c + i) _) my_X10_c is_X10_c ml_X10_48 cm_nil rfl rfl (by decide) (Nat.le_of_ble_eq_true rfl) (dat dkX10_parseRow 97 rfl) ?_
                          rintro _ _ ⟨rfl, hM⟩
                          refine ⟨_, Mrg_z hM, ?_⟩
                          clear hM
                          refine r_iconst (v := 0) E (dat dkX10_parseRow 98 rfl) rfl ?_
                          refine r_iadd E (dat dkX10_parseRow 99 rfl) ?_
                          refine r_aload_n E (dat dkX10_parseRow 100 rfl) rfl rfl ?_
                          refine q_geta E fl_X10_33 (dat dkX10_parseRow 101 rfl) rfl rfl rfl ?_
                          refine r_iload E (dat dkX10_parseRow 102 rfl) rfl ?_
                          refine q_iald E (dat dkX10_parseRow 103 rfl) rfl rfl (by decide) (show (_ : Nat → Int32) = hs from h20) rfl (by omega) ?_
                          refine q_iast E (dat dkX10_parseRow 104 rfl) rfl rfl (by decide) md_a (fun _ => md_s) (show nI (c6 (x.1.1 * c + i) 0) + 0 = nI (c6 (x.1.1 * c + i) 0) from Int32.add_zero _) (by unfold c6; omega) ?_
                          refine q_iinc_4 E (dat dkX10_parseRow 105 rfl) rfl rfl ?_
                          refine r_goto (tgt := 148) E (dat dkX10_parseRow 106 rfl) rfl ?_
                          exact kk trivial
                      · intro hI
                        
                        refine r_iload E (dat dkX10_parseRow 84 rfl) rfl ?_
                        refine r_iload_n E (dat dkX10_parseRow 85 rfl) rfl rfl ?_
                        refine q_icmp_ge (tgt := 188) E (dat dkX10_parseRow 86 rfl) rfl rfl rfl (by omega) (by omega) (fun h151 => ?_) (fun h151 => ?_)
                        ·
                          refine r_aload_n E (dat dkX10_parseRow 107 rfl) rfl rfl ?_
                          refine q_geta E fl_X10_9 (dat dkX10_parseRow 108 rfl) rfl rfl rfl ?_
                          refine r_iconst (v := 2) E (dat dkX10_parseRow 109 rfl) rfl ?_
                          refine r_dup2 E (dat dkX10_parseRow 110 rfl) rfl rfl ?_
                          refine q_iald E (dat dkX10_parseRow 111 rfl) rfl rfl (by decide) md_a (show _ = nI 2 from rfl) (by omega) ?_
                          rw [show (hgF (upd A 1 (nI c)) (x.1.1 * c) hs c) 2 = nI x.1.1 from by rw [hgF_n (fun j _ => by unfold c6; omega), upd_ne (by decide)]; exact hA2]
                          refine r_iconst (v := 1) E (dat dkX10_parseRow 112 rfl) rfl ?_
                          refine r_iadd E (dat dkX10_parseRow 113 rfl) ?_
                          rw [show nI x.1.1 + 1 = nI (x.1.1 + 1) from nI_1 _]
                          refine q_iast E (dat dkX10_parseRow 114 rfl) rfl rfl (by decide) md_a (fun _ => md_s) (show _ = nI 2 from rfl) (by omega) ?_
                          refine r_vreturn E (dat dkX10_parseRow 115 rfl) (by decide) (by decide) ?_
                          refine ⟨rfl, t4, _, ⟨t2, tt, c, hs, hs0, by rw [if_pos hu8]; exact ht2, ?_, ?_, ?_, rfl⟩, hG, ?_⟩
                          · rw [hleo, hmoo, ← hv2]
                            exact rwM_no (fun q => by
                                  first
                                    | exact h72 q.1
                                    | (rcases q.2 with q | q
                                       · exact absurd q (by omega)
                                       · first
                                           | exact absurd q.1 (by omega)
                                           | exact h90 q.2)) _
                          · rw [hmoo]; exact hv1
                          · first
                              | (rw [if_pos (by first | exact h118 | exact Decidable.not_not.mp h118)]; exact ht4)
                              | (rw [if_neg h118]; exact ht4)
                          · rw [if_pos h40]
                            exact ⟨hk, rfl, hT⟩
                        ·
                          omega
                    ·
                      refine r_vreturn E (dat dkX10_parseRow 76 rfl) (by decide) (by decide) ?_
                      refine ⟨rfl, t4, _, ⟨t2, tt, c, hs, hs0, by rw [if_pos hu8]; exact ht2, ?_, ?_, ?_, rfl⟩, hG, ?_⟩
                      · rw [hleo, hmoo, ← hv2]
                        exact rwM_no (fun q => by
                              first
                                | exact h72 q.1
                                | (rcases q.2 with q | q
                                   · exact absurd q (by omega)
                                   · first
                                       | exact absurd q.1 (by omega)
                                       | exact h90 q.2)) _
                      · rw [hmoo]; exact hv1
                      · first
                          | (rw [if_pos (by first | exact h118 | exact Decidable.not_not.mp h118)]; exact ht4)
                          | (rw [if_neg h118]; exact ht4)
                      · rw [if_neg (fun q => by first | exact absurd (show t4.2.2.2.2.1 ≤ 0 by rw [q]; decide) h134 | exact absurd (show t4.2.2.2.2.1 ≤ 0 by rw [q]; decide) (Int32.not_le.mpr h134))]
                        exact ⟨hk, hA, hT⟩
                ·
                  refine r_aload_n E (dat dkX10_parseRow 53 rfl) rfl rfl ?_
                  refine q_geta E fl_X10_33 (dat dkX10_parseRow 54 rfl) rfl rfl rfl ?_
                  refine r_iload_n E (dat dkX10_parseRow 55 rfl) rfl rfl ?_
                  refine r_aload_n E (dat dkX10_parseRow 56 rfl) rfl rfl ?_
                  refine r_iconst (v := 0) E (dat dkX10_parseRow 57 rfl) rfl ?_
                  refine r_bipush (v := 9) E (dat dkX10_parseRow 58 rfl) rfl ?_
                  refine r_callV (κ := 9) (μ := []) E (px_num l G bs n _ _ (0) (9) _ hB hn hA hT hG hn6) my_X10_parseNumber iv_X10_parseNumber ml_X10_198 cm_id ⟨by decide, rfl, rfl⟩ rfl rfl rfl rfl (by decide) (Nat.le_of_ble_eq_true rfl) (dat dkX10_parseRow 59 rfl) ?_
                  rintro _ M9 ⟨rfl, hp9, hs9⟩
                  obtain ⟨Ma, hMr, hk9, hA, hT, hS9⟩ := Mrg_pk hp9 hs9
                  replace hB := (hk9.2.2.2.1).trans hB
                  replace hn := (hk9.2.2.2.2.2.2.2.2.1).trans hn
                  replace hk := kq_t hk hk9
                  replace hG := TG_ad (b := bs) (TG_ne (lo := 0) (hi := 9) hG)
                  replace h20 := hS9.2.2.1.trans h20
                  refine ⟨_, hMr, ?_⟩
                  clear hp9 hs9 hMr hk9 hS9
                  refine q_iast E (dat dkX10_parseRow 60 rfl) rfl rfl (by decide) (show (_ : Nat → Int32) = hs from h20) (fun _ => rfl) rfl (by omega) ?_
                  refine q_iinc_3 E (dat dkX10_parseRow 61 rfl) rfl rfl ?_
                  refine r_goto (tgt := 68) E (dat dkX10_parseRow 62 rfl) rfl ?_
                  exact kk0 (c + 1, upd hs c (mNv tt 0 9), mAd bs n (mNe tt 0 9), ar 20 Ma (upd hs c (mNv tt 0 9))) ⟨by show c + 1 ≤ 8; omega, (rwM_go (by omega) ⟨by first | exact h72 | exact Decidable.not_not.mp h72, by first | exact Or.inl h77 | exact Or.inr ⟨by omega, by first | exact h90 | exact Decidable.not_not.mp h90⟩⟩).trans hv2, hk, hA, hT, hG, rfl, hB, hn⟩ (by show 8 - (c + 1) < 8 - c; omega)
  ·
    skip
    have hleo : leO x.1.1 x.1.2.1 = x.1.2.1 := if_neg hU
    have hmoo : moO x.1.1 x.1.2.1 = x.1.2.1 := if_neg hU
    refine r_aload_n E (dat dkX10_parseRow 0 rfl) rfl rfl ?_
    refine r_aload_n E (dat dkX10_parseRow 1 rfl) rfl rfl ?_
    refine q_geta E fl_X10_9 (dat dkX10_parseRow 2 rfl) rfl rfl rfl ?_
    refine r_iconst (v := 2) E (dat dkX10_parseRow 3 rfl) rfl ?_
    refine q_iald E (dat dkX10_parseRow 4 rfl) rfl rfl (by decide) (show (_ : Nat → Int32) = _ from hA) (show _ = nI 2 from rfl) (by omega) ?_
    rw [hA2]
    refine r_bipush (v := 8) E (dat dkX10_parseRow 5 rfl) rfl ?_
    refine q_icmp_ge (tgt := 16) E (dat dkX10_parseRow 6 rfl) rfl rfl (b := 8) rfl (by omega) (by omega) (fun h9 => ?_) (fun h9 => ?_)
    ·
      omega
    ·
      refine r_iconst (v := 1) E (dat dkX10_parseRow 7 rfl) rfl ?_
      refine r_goto (tgt := 17) E (dat dkX10_parseRow 8 rfl) rfl ?_
      refine r_iconst (v := 4) E (dat dkX10_parseRow 10 rfl) rfl ?_
      refine r_callV (κ := 9) (μ := []) E (px_ex l G bs n _ _ (1) (4) _ hB hn hA hT hG hn6) my_X10_expect iv_X10_expect ml_X10_194 cm_id ⟨by decide, rfl, rfl⟩ rfl rfl rfl rfl (by decide) (Nat.le_of_ble_eq_true rfl) (dat dkX10_parseRow 11 rfl) ?_
      rintro _ M9 ⟨rfl, hp9, hs9⟩
      obtain ⟨Ma, hMr, hk9, hA, hT, hS9⟩ := Mrg_pk hp9 hs9
      replace hB := (hk9.2.2.2.1).trans hB
      replace hn := (hk9.2.2.2.2.2.2.2.2.1).trans hn
      replace hk := kq_t hk hk9
      replace hG := TG_ex (a := 1) (k := 4) (by decide) hG
      refine ⟨_, hMr, ?_⟩
      clear hp9 hs9 hMr hk9 hS9
      refine r_aload_n E (dat dkX10_parseRow 12 rfl) rfl rfl ?_
      refine r_callV (κ := 9) (μ := []) E (px_adv l G bs n _ _  _ hB hn hA hT hG hn6) my_X10_advanceToken iv_X10_advanceToken ml_X10_189 cm_id ⟨by decide, rfl, rfl⟩ rfl rfl rfl rfl (by decide) (Nat.le_of_ble_eq_true rfl) (dat dkX10_parseRow 13 rfl) ?_
      rintro _ M9 ⟨rfl, hp9, hs9⟩
      obtain ⟨Ma, hMr, hk9, hA, hT, hS9⟩ := Mrg_pk hp9 hs9
      replace hB := (hk9.2.2.2.1).trans hB
      replace hn := (hk9.2.2.2.2.2.2.2.2.1).trans hn
      replace hk := kq_t hk hk9
      replace hG := TG_ad (b := bs) hG
      obtain ⟨hs0, hhs0⟩ : ∃ z, Ma 0 20 = z := ⟨_, rfl⟩
      obtain ⟨t2, ht2⟩ : ∃ z, z = mAd bs n (mEx 1 4 t) := ⟨_, rfl⟩
      rw [← ht2] at hT hG
      refine ⟨_, hMr, ?_⟩
      clear hp9 hs9 hMr hk9 hS9
      
      refine r_aload_n E (dat dkX10_parseRow 14 rfl) rfl rfl ?_
      refine q_geta E fl_X10_9 (dat dkX10_parseRow 15 rfl) rfl rfl rfl ?_
      refine r_iconst (v := 2) E (dat dkX10_parseRow 16 rfl) rfl ?_
      refine q_iald E (dat dkX10_parseRow 17 rfl) rfl rfl (by decide) (show (_ : Nat → Int32) = _ from hA) (show _ = nI 2 from rfl) (by omega) ?_
      rw [hA2]
      refine r_if_ne (tgt := 38) E (dat dkX10_parseRow 18 rfl) rfl (fun h31 => ?_) (fun h31 => ?_)
      ·
        refine r_aload_n E (dat dkX10_parseRow 21 rfl) rfl rfl ?_
        refine q_geta E fl_X10_9 (dat dkX10_parseRow 22 rfl) rfl rfl rfl ?_
        refine r_iconst (v := 1) E (dat dkX10_parseRow 23 rfl) rfl ?_
        refine q_iald E (dat dkX10_parseRow 24 rfl) rfl rfl (by decide) (show (_ : Nat → Int32) = _ from hA) (show _ = nI 1 from rfl) (by omega) ?_
        first
          | rw [hA1]
          | skip
        refine r_istore_1 E (dat dkX10_parseRow 25 rfl) rfl rfl ?_
        refine r_aload_n E (dat dkX10_parseRow 26 rfl) rfl rfl ?_
        refine q_geta E fl_X10_9 (dat dkX10_parseRow 27 rfl) rfl rfl rfl ?_
        refine r_iconst (v := 2) E (dat dkX10_parseRow 28 rfl) rfl ?_
        refine q_iald E (dat dkX10_parseRow 29 rfl) rfl rfl (by decide) (show (_ : Nat → Int32) = _ from hA) (show _ = nI 2 from rfl) (by omega) ?_
        rw [hA2]
        refine r_if_ne (tgt := 59) E (dat dkX10_parseRow 30 rfl) rfl (fun h51 => ?_) (fun h51 => ?_)
        ·
          refine r_aload_n E (dat dkX10_parseRow 33 rfl) rfl rfl ?_
          refine q_geta E fl_X10_9 (dat dkX10_parseRow 34 rfl) rfl rfl rfl ?_
          refine r_iconst (v := 1) E (dat dkX10_parseRow 35 rfl) rfl ?_
          refine q_iald E (dat dkX10_parseRow 36 rfl) rfl rfl (by decide) (show (_ : Nat → Int32) = _ from hA) (show _ = nI 1 from rfl) (by omega) ?_
          first
            | rw [hA1]
            | skip
          refine r_istore_2 E (dat dkX10_parseRow 37 rfl) rfl rfl ?_
          refine r_iconst (v := 0) E (dat dkX10_parseRow 38 rfl) rfl ?_
          refine r_istore_3 E (dat dkX10_parseRow 39 rfl) rfl rfl ?_
          refine r_while (β := Nat × (Nat → Int32) × TT × Mem) (fun y => 8 - y.1) (fun y => y.1 ≤ x.1.2.1 ∧ rwM bs n (x.1.2.1) (x.1.2.1) (8 - y.1) y.1 y.2.1 y.2.2.1 = rwM bs n (x.1.2.1) (x.1.2.1) 8 0 hs0 t2 ∧ kq M y.2.2.2 ∧ y.2.2.2 0 1 = A ∧ TI y.2.2.2 y.2.2.1 ∧ TG n y.2.2.1 ∧ y.2.2.2 0 20 = y.2.1 ∧ y.2.2.2 0 10 = bs ∧ y.2.2.2 0 0 10 = nI n) (fun y => y.2.2.2) (fun y => [some (rv 0 0), some (iv (nI (x.1.2.1))), some (iv (nI (x.1.2.1))), some (iv (nI y.1)), none]) ((0, hs0, t2, Ma)) ⟨Nat.zero_le _, rfl, hk, hA, hT, hG, hhs0, hB, hn⟩ rfl rfl ?_
          intro y hI kk0
          obtain ⟨c, hs, tt, Mc⟩ := y
          obtain ⟨hv1, hv2, hk, hA, hT, hG, h20, hB, hn⟩ := hI
          dsimp only at hv1 hv2 hk hA hT hG h20 hB hn ⊢
          
          refine r_aload_n E (dat dkX10_parseRow 40 rfl) rfl rfl ?_
          refine q_getn E fl_X10_165 (dat dkX10_parseRow 41 rfl) rfl rfl rfl (show (_ : Int32) = _ from hT.2.2.2.2.1) ?_
          refine r_if_ne (tgt := 112) E (dat dkX10_parseRow 42 rfl) rfl (fun h72 => ?_) (fun h72 => ?_)
          ·
            refine r_aload_n E (dat dkX10_parseRow 63 rfl) rfl rfl ?_
            refine r_aload_n E (dat dkX10_parseRow 64 rfl) rfl rfl ?_
            refine q_getn E fl_X10_174 (dat dkX10_parseRow 65 rfl) rfl rfl rfl (show (_ : Int32) = _ from hT.2.2.1) ?_
            refine r_iconst (v := 3) E (dat dkX10_parseRow 66 rfl) rfl ?_
            refine r_icmp_ne (tgt := 125) E (dat dkX10_parseRow 67 rfl) rfl (fun h118 => ?_) (fun h118 => ?_)
            ·
              refine r_iconst (v := 0) E (dat dkX10_parseRow 70 rfl) rfl ?_
              refine r_iconst (v := 1) E (dat dkX10_parseRow 71 rfl) rfl ?_
              refine r_callV (κ := 9) (μ := []) E (px_ex l G bs n _ _ (0) (1) _ hB hn hA hT hG hn6) my_X10_expect iv_X10_expect ml_X10_194 cm_id ⟨by decide, rfl, rfl⟩ rfl rfl rfl rfl (by decide) (Nat.le_of_ble_eq_true rfl) (dat dkX10_parseRow 72 rfl) ?_
              rintro _ M9 ⟨rfl, hp9, hs9⟩
              obtain ⟨Ma, hMr, hk9, hA, hT, hS9⟩ := Mrg_pk hp9 hs9
              replace hB := (hk9.2.2.2.1).trans hB
              replace hn := (hk9.2.2.2.2.2.2.2.2.1).trans hn
              replace hk := kq_t hk hk9
              replace hG := TG_ex (a := 0) (k := 1) (by decide) hG
              replace h20 := hS9.2.2.1.trans h20
              obtain ⟨t4, ht4⟩ : ∃ z, z = mEx 0 1 tt := ⟨_, rfl⟩
              rw [← ht4] at hT hG
              refine ⟨_, hMr, ?_⟩
              clear hp9 hs9 hMr hk9 hS9
              refine r_aload_n E (dat dkX10_parseRow 73 rfl) rfl rfl ?_
              refine q_getn E fl_X10_165 (dat dkX10_parseRow 74 rfl) rfl rfl rfl (show (_ : Int32) = _ from hT.2.2.2.2.1) ?_
              refine r_if_le (tgt := 138) E (dat dkX10_parseRow 75 rfl) rfl (fun h134 => ?_) (fun h134 => ?_)
              ·
                have h40 : t4.2.2.2.2.1 = 0 := by
                  rcases hG.2.1 with q | q
                  · exact q
                  · exact absurd q (by first | exact Int32.not_lt.mpr h134 | exact h134)
                have hcl : x.1.2.1 ≤ c := by
                  first
                    | omega
                    | (rw [ht4] at h40; exact absurd (mEx_z (by decide) h40).1 h72)
                have hcb : x.1.1 * c + c ≤ 64 := by
                  have h1 := hz5 hu8
                  rw [hmoo] at h1
                  have hcv : c = x.1.2.1 := by omega
                  rw [hcv, ← hx.2.2.1]
                  omega
                refine r_aload_n E (dat dkX10_parseRow 77 rfl) rfl rfl ?_
                refine q_geta E fl_X10_9 (dat dkX10_parseRow 78 rfl) rfl rfl rfl ?_
                refine r_iconst (v := 1) E (dat dkX10_parseRow 79 rfl) rfl ?_
                refine r_iload_n E (dat dkX10_parseRow 80 rfl) rfl rfl ?_
                refine q_iast E (dat dkX10_parseRow 81 rfl) rfl rfl (by decide) (show (_ : Nat → Int32) = _ from hA) (fun _ => rfl) (show _ = nI 1 from rfl) (by omega) ?_
                refine r_iconst (v := 0) E (dat dkX10_parseRow 82 rfl) rfl ?_
                refine r_istore_4 E (dat dkX10_parseRow 83 rfl) rfl rfl ?_
                refine r_for (c) (fun _ => True) (fun i => md Ma (hgF (upd A 1 (nI c)) (x.1.1 * c) hs i)) (fun i => [some (rv 0 0), some (iv (nI (x.1.2.1))), some (iv (nI (x.1.2.1))), some (iv (nI c)), some (iv (nI i))]) trivial rfl rfl ?_ ?_
                · intro i hi hI kk
                  
                  refine r_iload E (dat dkX10_parseRow 84 rfl) rfl ?_
                  refine r_iload_n E (dat dkX10_parseRow 85 rfl) rfl rfl ?_
                  refine q_icmp_ge (tgt := 188) E (dat dkX10_parseRow 86 rfl) rfl rfl rfl (by omega) (by omega) (fun h151 => ?_) (fun h151 => ?_)
                  ·
                    omega
                  ·
                    refine r_aload_n E (dat dkX10_parseRow 87 rfl) rfl rfl ?_
                    refine q_geta E fl_X10_9 (dat dkX10_parseRow 88 rfl) rfl rfl rfl ?_
                    refine r_aload_n E (dat dkX10_parseRow 89 rfl) rfl rfl ?_
                    refine q_geta E fl_X10_9 (dat dkX10_parseRow 90 rfl) rfl rfl rfl ?_
                    refine r_iconst (v := 2) E (dat dkX10_parseRow 91 rfl) rfl ?_
                    refine q_iald E (dat dkX10_parseRow 92 rfl) rfl rfl (by decide) md_a (show _ = nI 2 from rfl) (by omega) ?_
                    rw [show (hgF (upd A 1 (nI c)) (x.1.1 * c) hs i) 2 = nI x.1.1 from by rw [hgF_n (fun j _ => by unfold c6; omega), upd_ne (by decide)]; exact hA2]
                    refine r_iload_n E (dat dkX10_parseRow 93 rfl) rfl rfl ?_
                    refine r_imul E (dat dkX10_parseRow 94 rfl) ?_
                    rw [show nI x.1.1 * nI c = nI (x.1.1 * c) from pk_mul _ _]
                    refine r_iload E (dat dkX10_parseRow 95 rfl) rfl ?_
                    refine r_iadd E (dat dkX10_parseRow 96 rfl) ?_
                    rw [nI_add]
                    refine r_callS (μ := []) E (sp_X10_c l G (x.1.1 * c + i) _) my_X10_c is_X10_c ml_X10_48 cm_nil rfl rfl (by decide) (Nat.le_of_ble_eq_true rfl) (dat dkX10_parseRow 97 rfl) ?_
                    rintro _ _ ⟨rfl, hM⟩
                    refine ⟨_, Mrg_z hM, ?_⟩
                    clear hM
                    refine r_iconst (v := 0) E (dat dkX10_parseRow 98 rfl) rfl ?_
                    refine r_iadd E (dat dkX10_parseRow 99 rfl) ?_
                    refine r_aload_n E (dat dkX10_parseRow 100 rfl) rfl rfl ?_
                    refine q_geta E fl_X10_33 (dat dkX10_parseRow 101 rfl) rfl rfl rfl ?_
                    refine r_iload E (dat dkX10_parseRow 102 rfl) rfl ?_
                    refine q_iald E (dat dkX10_parseRow 103 rfl) rfl rfl (by decide) (show (_ : Nat → Int32) = hs from h20) rfl (by omega) ?_
                    refine q_iast E (dat dkX10_parseRow 104 rfl) rfl rfl (by decide) md_a (fun _ => md_s) (show nI (c6 (x.1.1 * c + i) 0) + 0 = nI (c6 (x.1.1 * c + i) 0) from Int32.add_zero _) (by unfold c6; omega) ?_
                    refine q_iinc_4 E (dat dkX10_parseRow 105 rfl) rfl rfl ?_
                    refine r_goto (tgt := 148) E (dat dkX10_parseRow 106 rfl) rfl ?_
                    exact kk trivial
                · intro hI
                  
                  refine r_iload E (dat dkX10_parseRow 84 rfl) rfl ?_
                  refine r_iload_n E (dat dkX10_parseRow 85 rfl) rfl rfl ?_
                  refine q_icmp_ge (tgt := 188) E (dat dkX10_parseRow 86 rfl) rfl rfl rfl (by omega) (by omega) (fun h151 => ?_) (fun h151 => ?_)
                  ·
                    refine r_aload_n E (dat dkX10_parseRow 107 rfl) rfl rfl ?_
                    refine q_geta E fl_X10_9 (dat dkX10_parseRow 108 rfl) rfl rfl rfl ?_
                    refine r_iconst (v := 2) E (dat dkX10_parseRow 109 rfl) rfl ?_
                    refine r_dup2 E (dat dkX10_parseRow 110 rfl) rfl rfl ?_
                    refine q_iald E (dat dkX10_parseRow 111 rfl) rfl rfl (by decide) md_a (show _ = nI 2 from rfl) (by omega) ?_
                    rw [show (hgF (upd A 1 (nI c)) (x.1.1 * c) hs c) 2 = nI x.1.1 from by rw [hgF_n (fun j _ => by unfold c6; omega), upd_ne (by decide)]; exact hA2]
                    refine r_iconst (v := 1) E (dat dkX10_parseRow 112 rfl) rfl ?_
                    refine r_iadd E (dat dkX10_parseRow 113 rfl) ?_
                    rw [show nI x.1.1 + 1 = nI (x.1.1 + 1) from nI_1 _]
                    refine q_iast E (dat dkX10_parseRow 114 rfl) rfl rfl (by decide) md_a (fun _ => md_s) (show _ = nI 2 from rfl) (by omega) ?_
                    refine r_vreturn E (dat dkX10_parseRow 115 rfl) (by decide) (by decide) ?_
                    refine ⟨rfl, t4, _, ⟨t2, tt, c, hs, hs0, by rw [if_pos hu8]; exact ht2, ?_, ?_, ?_, rfl⟩, hG, ?_⟩
                    · rw [hleo, hmoo, ← hv2]
                      exact rwM_no (fun q => by
                            first
                              | exact h72 q.1
                              | (rcases q.2 with q | q
                                 · exact absurd q (by omega)
                                 · first
                                     | exact absurd q.1 (by omega)
                                     | exact h90 q.2)) _
                    · rw [hmoo]; exact hv1
                    · first
                        | (rw [if_pos (by first | exact h118 | exact Decidable.not_not.mp h118)]; exact ht4)
                        | (rw [if_neg h118]; exact ht4)
                    · rw [if_pos h40]
                      exact ⟨hk, rfl, hT⟩
                  ·
                    omega
              ·
                refine r_vreturn E (dat dkX10_parseRow 76 rfl) (by decide) (by decide) ?_
                refine ⟨rfl, t4, _, ⟨t2, tt, c, hs, hs0, by rw [if_pos hu8]; exact ht2, ?_, ?_, ?_, rfl⟩, hG, ?_⟩
                · rw [hleo, hmoo, ← hv2]
                  exact rwM_no (fun q => by
                        first
                          | exact h72 q.1
                          | (rcases q.2 with q | q
                             · exact absurd q (by omega)
                             · first
                                 | exact absurd q.1 (by omega)
                                 | exact h90 q.2)) _
                · rw [hmoo]; exact hv1
                · first
                    | (rw [if_pos (by first | exact h118 | exact Decidable.not_not.mp h118)]; exact ht4)
                    | (rw [if_neg h118]; exact ht4)
                · rw [if_neg (fun q => by first | exact absurd (show t4.2.2.2.2.1 ≤ 0 by rw [q]; decide) h134 | exact absurd (show t4.2.2.2.2.1 ≤ 0 by rw [q]; decide) (Int32.not_le.mpr h134))]
                  exact ⟨hk, hA, hT⟩
            ·
              refine r_iconst (v := 1) E (dat dkX10_parseRow 68 rfl) rfl ?_
              refine r_goto (tgt := 126) E (dat dkX10_parseRow 69 rfl) rfl ?_
              refine r_iconst (v := 1) E (dat dkX10_parseRow 71 rfl) rfl ?_
              refine r_callV (κ := 9) (μ := []) E (px_ex l G bs n _ _ (1) (1) _ hB hn hA hT hG hn6) my_X10_expect iv_X10_expect ml_X10_194 cm_id ⟨by decide, rfl, rfl⟩ rfl rfl rfl rfl (by decide) (Nat.le_of_ble_eq_true rfl) (dat dkX10_parseRow 72 rfl) ?_
              rintro _ M9 ⟨rfl, hp9, hs9⟩
              obtain ⟨Ma, hMr, hk9, hA, hT, hS9⟩ := Mrg_pk hp9 hs9
              replace hB := (hk9.2.2.2.1).trans hB
              replace hn := (hk9.2.2.2.2.2.2.2.2.1).trans hn
              replace hk := kq_t hk hk9
              replace hG := TG_ex (a := 1) (k := 1) (by decide) hG
              replace h20 := hS9.2.2.1.trans h20
              obtain ⟨t4, ht4⟩ : ∃ z, z = mEx 1 1 tt := ⟨_, rfl⟩
              rw [← ht4] at hT hG
              refine ⟨_, hMr, ?_⟩
              clear hp9 hs9 hMr hk9 hS9
              refine r_aload_n E (dat dkX10_parseRow 73 rfl) rfl rfl ?_
              refine q_getn E fl_X10_165 (dat dkX10_parseRow 74 rfl) rfl rfl rfl (show (_ : Int32) = _ from hT.2.2.2.2.1) ?_
              refine r_if_le (tgt := 138) E (dat dkX10_parseRow 75 rfl) rfl (fun h134 => ?_) (fun h134 => ?_)
              ·
                have h40 : t4.2.2.2.2.1 = 0 := by
                  rcases hG.2.1 with q | q
                  · exact q
                  · exact absurd q (by first | exact Int32.not_lt.mpr h134 | exact h134)
                have hcl : x.1.2.1 ≤ c := by
                  first
                    | omega
                    | (rw [ht4] at h40; exact absurd (mEx_z (by decide) h40).1 h72)
                have hcb : x.1.1 * c + c ≤ 64 := by
                  have h1 := hz5 hu8
                  rw [hmoo] at h1
                  have hcv : c = x.1.2.1 := by omega
                  rw [hcv, ← hx.2.2.1]
                  omega
                refine r_aload_n E (dat dkX10_parseRow 77 rfl) rfl rfl ?_
                refine q_geta E fl_X10_9 (dat dkX10_parseRow 78 rfl) rfl rfl rfl ?_
                refine r_iconst (v := 1) E (dat dkX10_parseRow 79 rfl) rfl ?_
                refine r_iload_n E (dat dkX10_parseRow 80 rfl) rfl rfl ?_
                refine q_iast E (dat dkX10_parseRow 81 rfl) rfl rfl (by decide) (show (_ : Nat → Int32) = _ from hA) (fun _ => rfl) (show _ = nI 1 from rfl) (by omega) ?_
                refine r_iconst (v := 0) E (dat dkX10_parseRow 82 rfl) rfl ?_
                refine r_istore_4 E (dat dkX10_parseRow 83 rfl) rfl rfl ?_
                refine r_for (c) (fun _ => True) (fun i => md Ma (hgF (upd A 1 (nI c)) (x.1.1 * c) hs i)) (fun i => [some (rv 0 0), some (iv (nI (x.1.2.1))), some (iv (nI (x.1.2.1))), some (iv (nI c)), some (iv (nI i))]) trivial rfl rfl ?_ ?_
                · intro i hi hI kk
                  
                  refine r_iload E (dat dkX10_parseRow 84 rfl) rfl ?_
                  refine r_iload_n E (dat dkX10_parseRow 85 rfl) rfl rfl ?_
                  refine q_icmp_ge (tgt := 188) E (dat dkX10_parseRow 86 rfl) rfl rfl rfl (by omega) (by omega) (fun h151 => ?_) (fun h151 => ?_)
                  ·
                    omega
                  ·
                    refine r_aload_n E (dat dkX10_parseRow 87 rfl) rfl rfl ?_
                    refine q_geta E fl_X10_9 (dat dkX10_parseRow 88 rfl) rfl rfl rfl ?_
                    refine r_aload_n E (dat dkX10_parseRow 89 rfl) rfl rfl ?_
                    refine q_geta E fl_X10_9 (dat dkX10_parseRow 90 rfl) rfl rfl rfl ?_
                    refine r_iconst (v := 2) E (dat dkX10_parseRow 91 rfl) rfl ?_
                    refine q_iald E (dat dkX10_parseRow 92 rfl) rfl rfl (by decide) md_a (show _ = nI 2 from rfl) (by omega) ?_
                    rw [show (hgF (upd A 1 (nI c)) (x.1.1 * c) hs i) 2 = nI x.1.1 from by rw [hgF_n (fun j _ => by unfold c6; omega), upd_ne (by decide)]; exact hA2]
                    refine r_iload_n E (dat dkX10_parseRow 93 rfl) rfl rfl ?_
                    refine r_imul E (dat dkX10_parseRow 94 rfl) ?_
                    rw [show nI x.1.1 * nI c = nI (x.1.1 * c) from pk_mul _ _]
                    refine r_iload E (dat dkX10_parseRow 95 rfl) rfl ?_
                    refine r_iadd E (dat dkX10_parseRow 96 rfl) ?_
                    rw [nI_add]
                    refine r_callS (μ := []) E (sp_X10_c l G (x.1.1 * c + i) _) my_X10_c is_X10_c ml_X10_48 cm_nil rfl rfl (by decide) (Nat.le_of_ble_eq_true rfl) (dat dkX10_parseRow 97 rfl) ?_
                    rintro _ _ ⟨rfl, hM⟩
                    refine ⟨_, Mrg_z hM, ?_⟩
                    clear hM
                    refine r_iconst (v := 0) E (dat dkX10_parseRow 98 rfl) rfl ?_
                    refine r_iadd E (dat dkX10_parseRow 99 rfl) ?_
                    refine r_aload_n E (dat dkX10_parseRow 100 rfl) rfl rfl ?_
                    refine q_geta E fl_X10_33 (dat dkX10_parseRow 101 rfl) rfl rfl rfl ?_
                    refine r_iload E (dat dkX10_parseRow 102 rfl) rfl ?_
                    refine q_iald E (dat dkX10_parseRow 103 rfl) rfl rfl (by decide) (show (_ : Nat → Int32) = hs from h20) rfl (by omega) ?_
                    refine q_iast E (dat dkX10_parseRow 104 rfl) rfl rfl (by decide) md_a (fun _ => md_s) (show nI (c6 (x.1.1 * c + i) 0) + 0 = nI (c6 (x.1.1 * c + i) 0) from Int32.add_zero _) (by unfold c6; omega) ?_
                    refine q_iinc_4 E (dat dkX10_parseRow 105 rfl) rfl rfl ?_
                    refine r_goto (tgt := 148) E (dat dkX10_parseRow 106 rfl) rfl ?_
                    exact kk trivial
                · intro hI
                  
                  refine r_iload E (dat dkX10_parseRow 84 rfl) rfl ?_
                  refine r_iload_n E (dat dkX10_parseRow 85 rfl) rfl rfl ?_
                  refine q_icmp_ge (tgt := 188) E (dat dkX10_parseRow 86 rfl) rfl rfl rfl (by omega) (by omega) (fun h151 => ?_) (fun h151 => ?_)
                  ·
                    refine r_aload_n E (dat dkX10_parseRow 107 rfl) rfl rfl ?_
                    refine q_geta E fl_X10_9 (dat dkX10_parseRow 108 rfl) rfl rfl rfl ?_
                    refine r_iconst (v := 2) E (dat dkX10_parseRow 109 rfl) rfl ?_
                    refine r_dup2 E (dat dkX10_parseRow 110 rfl) rfl rfl ?_
                    refine q_iald E (dat dkX10_parseRow 111 rfl) rfl rfl (by decide) md_a (show _ = nI 2 from rfl) (by omega) ?_
                    rw [show (hgF (upd A 1 (nI c)) (x.1.1 * c) hs c) 2 = nI x.1.1 from by rw [hgF_n (fun j _ => by unfold c6; omega), upd_ne (by decide)]; exact hA2]
                    refine r_iconst (v := 1) E (dat dkX10_parseRow 112 rfl) rfl ?_
                    refine r_iadd E (dat dkX10_parseRow 113 rfl) ?_
                    rw [show nI x.1.1 + 1 = nI (x.1.1 + 1) from nI_1 _]
                    refine q_iast E (dat dkX10_parseRow 114 rfl) rfl rfl (by decide) md_a (fun _ => md_s) (show _ = nI 2 from rfl) (by omega) ?_
                    refine r_vreturn E (dat dkX10_parseRow 115 rfl) (by decide) (by decide) ?_
                    refine ⟨rfl, t4, _, ⟨t2, tt, c, hs, hs0, by rw [if_pos hu8]; exact ht2, ?_, ?_, ?_, rfl⟩, hG, ?_⟩
                    · rw [hleo, hmoo, ← hv2]
                      exact rwM_no (fun q => by
                            first
                              | exact h72 q.1
                              | (rcases q.2 with q | q
                                 · exact absurd q (by omega)
                                 · first
                                     | exact absurd q.1 (by omega)
                                     | exact h90 q.2)) _
                    · rw [hmoo]; exact hv1
                    · first
                        | (rw [if_pos (by first | exact h118 | exact Decidable.not_not.mp h118)]; exact ht4)
                        | (rw [if_neg h118]; exact ht4)
                    · rw [if_pos h40]
                      exact ⟨hk, rfl, hT⟩
                  ·
                    omega
              ·
                refine r_vreturn E (dat dkX10_parseRow 76 rfl) (by decide) (by decide) ?_
                refine ⟨rfl, t4, _, ⟨t2, tt, c, hs, hs0, by rw [if_pos hu8]; exact ht2, ?_, ?_, ?_, rfl⟩, hG, ?_⟩
                · rw [hleo, hmoo, ← hv2]
                  exact rwM_no (fun q => by
                        first
                          | exact h72 q.1
                          | (rcases q.2 with q | q
                             · exact absurd q (by omega)
                             · first
                                 | exact absurd q.1 (by omega)
                                 | exact h90 q.2)) _
                · rw [hmoo]; exact hv1
                · first
                    | (rw [if_pos (by first | exact h118 | exact Decidable.not_not.mp h118)]; exact ht4)
                    | (rw [if_neg h118]; exact ht4)
                · rw [if_neg (fun q => by first | exact absurd (show t4.2.2.2.2.1 ≤ 0 by rw [q]; decide) h134 | exact absurd (show t4.2.2.2.2.1 ≤ 0 by rw [q]; decide) (Int32.not_le.mpr h134))]
                  exact ⟨hk, hA, hT⟩
          ·
            refine r_iload_n E (dat dkX10_parseRow 43 rfl) rfl rfl ?_
            refine r_iload_n E (dat dkX10_parseRow 44 rfl) rfl rfl ?_
            refine q_icmp_lt (tgt := 93) E (dat dkX10_parseRow 45 rfl) rfl rfl rfl (by omega) (by omega) (fun h77 => ?_) (fun h77 => ?_)
            ·
              refine r_aload_n E (dat dkX10_parseRow 53 rfl) rfl rfl ?_
              refine q_geta E fl_X10_33 (dat dkX10_parseRow 54 rfl) rfl rfl rfl ?_
              refine r_iload_n E (dat dkX10_parseRow 55 rfl) rfl rfl ?_
              refine r_aload_n E (dat dkX10_parseRow 56 rfl) rfl rfl ?_
              refine r_iconst (v := 0) E (dat dkX10_parseRow 57 rfl) rfl ?_
              refine r_bipush (v := 9) E (dat dkX10_parseRow 58 rfl) rfl ?_
              refine r_callV (κ := 9) (μ := []) E (px_num l G bs n _ _ (0) (9) _ hB hn hA hT hG hn6) my_X10_parseNumber iv_X10_parseNumber ml_X10_198 cm_id ⟨by decide, rfl, rfl⟩ rfl rfl rfl rfl (by decide) (Nat.le_of_ble_eq_true rfl) (dat dkX10_parseRow 59 rfl) ?_
              rintro _ M9 ⟨rfl, hp9, hs9⟩
              obtain ⟨Ma, hMr, hk9, hA, hT, hS9⟩ := Mrg_pk hp9 hs9
              replace hB := (hk9.2.2.2.1).trans hB
              replace hn := (hk9.2.2.2.2.2.2.2.2.1).trans hn
              replace hk := kq_t hk hk9
              replace hG := TG_ad (b := bs) (TG_ne (lo := 0) (hi := 9) hG)
              replace h20 := hS9.2.2.1.trans h20
              refine ⟨_, hMr, ?_⟩
              clear hp9 hs9 hMr hk9 hS9
              refine q_iast E (dat dkX10_parseRow 60 rfl) rfl rfl (by decide) (show (_ : Nat → Int32) = hs from h20) (fun _ => rfl) rfl (by omega) ?_
              refine q_iinc_3 E (dat dkX10_parseRow 61 rfl) rfl rfl ?_
              refine r_goto (tgt := 68) E (dat dkX10_parseRow 62 rfl) rfl ?_
              exact kk0 (c + 1, upd hs c (mNv tt 0 9), mAd bs n (mNe tt 0 9), ar 20 Ma (upd hs c (mNv tt 0 9))) ⟨by show c + 1 ≤ x.1.2.1; omega, (rwM_go (by omega) ⟨by first | exact h72 | exact Decidable.not_not.mp h72, by first | exact Or.inl h77 | exact Or.inr ⟨by omega, by first | exact h90 | exact Decidable.not_not.mp h90⟩⟩).trans hv2, hk, hA, hT, hG, rfl, hB, hn⟩ (by show 8 - (c + 1) < 8 - c; omega)
            ·
              refine r_iload_n E (dat dkX10_parseRow 46 rfl) rfl rfl ?_
              refine r_iload_n E (dat dkX10_parseRow 47 rfl) rfl rfl ?_
              refine q_icmp_ge (tgt := 112) E (dat dkX10_parseRow 48 rfl) rfl rfl rfl (by omega) (by omega) (fun h82 => ?_) (fun h82 => ?_)
              ·
                refine r_aload_n E (dat dkX10_parseRow 63 rfl) rfl rfl ?_
                refine r_aload_n E (dat dkX10_parseRow 64 rfl) rfl rfl ?_
                refine q_getn E fl_X10_174 (dat dkX10_parseRow 65 rfl) rfl rfl rfl (show (_ : Int32) = _ from hT.2.2.1) ?_
                refine r_iconst (v := 3) E (dat dkX10_parseRow 66 rfl) rfl ?_
                refine r_icmp_ne (tgt := 125) E (dat dkX10_parseRow 67 rfl) rfl (fun h118 => ?_) (fun h118 => ?_)
                ·
                  refine r_iconst (v := 0) E (dat dkX10_parseRow 70 rfl) rfl ?_
                  refine r_iconst (v := 1) E (dat dkX10_parseRow 71 rfl) rfl ?_
                  refine r_callV (κ := 9) (μ := []) E (px_ex l G bs n _ _ (0) (1) _ hB hn hA hT hG hn6) my_X10_expect iv_X10_expect ml_X10_194 cm_id ⟨by decide, rfl, rfl⟩ rfl rfl rfl rfl (by decide) (Nat.le_of_ble_eq_true rfl) (dat dkX10_parseRow 72 rfl) ?_
                  rintro _ M9 ⟨rfl, hp9, hs9⟩
                  obtain ⟨Ma, hMr, hk9, hA, hT, hS9⟩ := Mrg_pk hp9 hs9
                  replace hB := (hk9.2.2.2.1).trans hB
                  replace hn := (hk9.2.2.2.2.2.2.2.2.1).trans hn
                  replace hk := kq_t hk hk9
                  replace hG := TG_ex (a := 0) (k := 1) (by decide) hG
                  replace h20 := hS9.2.2.1.trans h20
                  obtain ⟨t4, ht4⟩ : ∃ z, z = mEx 0 1 tt := ⟨_, rfl⟩
                  rw [← ht4] at hT hG
                  refine ⟨_, hMr, ?_⟩
                  clear hp9 hs9 hMr hk9 hS9
                  refine r_aload_n E (dat dkX10_parseRow 73 rfl) rfl rfl ?_
                  refine q_getn E fl_X10_165 (dat dkX10_parseRow 74 rfl) rfl rfl rfl (show (_ : Int32) = _ from hT.2.2.2.2.1) ?_
                  refine r_if_le (tgt := 138) E (dat dkX10_parseRow 75 rfl) rfl (fun h134 => ?_) (fun h134 => ?_)
                  ·
                    have h40 : t4.2.2.2.2.1 = 0 := by
                      rcases hG.2.1 with q | q
                      · exact q
                      · exact absurd q (by first | exact Int32.not_lt.mpr h134 | exact h134)
                    have hcl : x.1.2.1 ≤ c := by
                      first
                        | omega
                        | (rw [ht4] at h40; exact absurd (mEx_z (by decide) h40).1 h72)
                    have hcb : x.1.1 * c + c ≤ 64 := by
                      have h1 := hz5 hu8
                      rw [hmoo] at h1
                      have hcv : c = x.1.2.1 := by omega
                      rw [hcv, ← hx.2.2.1]
                      omega
                    refine r_aload_n E (dat dkX10_parseRow 77 rfl) rfl rfl ?_
                    refine q_geta E fl_X10_9 (dat dkX10_parseRow 78 rfl) rfl rfl rfl ?_
                    refine r_iconst (v := 1) E (dat dkX10_parseRow 79 rfl) rfl ?_
                    refine r_iload_n E (dat dkX10_parseRow 80 rfl) rfl rfl ?_
                    refine q_iast E (dat dkX10_parseRow 81 rfl) rfl rfl (by decide) (show (_ : Nat → Int32) = _ from hA) (fun _ => rfl) (show _ = nI 1 from rfl) (by omega) ?_
                    refine r_iconst (v := 0) E (dat dkX10_parseRow 82 rfl) rfl ?_
                    refine r_istore_4 E (dat dkX10_parseRow 83 rfl) rfl rfl ?_
                    refine r_for (c) (fun _ => True) (fun i => md Ma (hgF (upd A 1 (nI c)) (x.1.1 * c) hs i)) (fun i => [some (rv 0 0), some (iv (nI (x.1.2.1))), some (iv (nI (x.1.2.1))), some (iv (nI c)), some (iv (nI i))]) trivial rfl rfl ?_ ?_
                    · intro i hi hI kk
                      
                      refine r_iload E (dat dkX10_parseRow 84 rfl) rfl ?_
                      refine r_iload_n E (dat dkX10_parseRow 85 rfl) rfl rfl ?_
                      refine q_icmp_ge (tgt := 188) E (dat dkX10_parseRow 86 rfl) rfl rfl rfl (by omega) (by omega) (fun h151 => ?_) (fun h151 => ?_)
                      ·
                        omega
                      ·
                        refine r_aload_n E (dat dkX10_parseRow 87 rfl) rfl rfl ?_
                        refine q_geta E fl_X10_9 (dat dkX10_parseRow 88 rfl) rfl rfl rfl ?_
                        refine r_aload_n E (dat dkX10_parseRow 89 rfl) rfl rfl ?_
                        refine q_geta E fl_X10_9 (dat dkX10_parseRow 90 rfl) rfl rfl rfl ?_
                        refine r_iconst (v := 2) E (dat dkX10_parseRow 91 rfl) rfl ?_
                        refine q_iald E (dat dkX10_parseRow 92 rfl) rfl rfl (by decide) md_a (show _ = nI 2 from rfl) (by omega) ?_
                        rw [show (hgF (upd A 1 (nI c)) (x.1.1 * c) hs i) 2 = nI x.1.1 from by rw [hgF_n (fun j _ => by unfold c6; omega), upd_ne (by decide)]; exact hA2]
                        refine r_iload_n E (dat dkX10_parseRow 93 rfl) rfl rfl ?_
                        refine r_imul E (dat dkX10_parseRow 94 rfl) ?_
                        rw [show nI x.1.1 * nI c = nI (x.1.1 * c) from pk_mul _ _]
                        refine r_iload E (dat dkX10_parseRow 95 rfl) rfl ?_
                        refine r_iadd E (dat dkX10_parseRow 96 rfl) ?_
                        rw [nI_add]
                        refine r_callS (μ := []) E (sp_X10_c l G (x.1.1 * c + i) _) my_X10_c is_X10_c ml_X10_48 cm_nil rfl rfl (by decide) (Nat.le_of_ble_eq_true rfl) (dat dkX10_parseRow 97 rfl) ?_
                        rintro _ _ ⟨rfl, hM⟩
                        refine ⟨_, Mrg_z hM, ?_⟩
                        clear hM
                        refine r_iconst (v := 0) E (dat dkX10_parseRow 98 rfl) rfl ?_
                        refine r_iadd E (dat dkX10_parseRow 99 rfl) ?_
                        refine r_aload_n E (dat dkX10_parseRow 100 rfl) rfl rfl ?_
                        refine q_geta E fl_X10_33 (dat dkX10_parseRow 101 rfl) rfl rfl rfl ?_
                        refine r_iload E (dat dkX10_parseRow 102 rfl) rfl ?_
                        refine q_iald E (dat dkX10_parseRow 103 rfl) rfl rfl (by decide) (show (_ : Nat → Int32) = hs from h20) rfl (by omega) ?_
                        refine q_iast E (dat dkX10_parseRow 104 rfl) rfl rfl (by decide) md_a (fun _ => md_s) (show nI (c6 (x.1.1 * c + i) 0) + 0 = nI (c6 (x.1.1 * c + i) 0) from Int32.add_zero _) (by unfold c6; omega) ?_
                        refine q_iinc_4 E (dat dkX10_parseRow 105 rfl) rfl rfl ?_
                        refine r_goto (tgt := 148) E (dat dkX10_parseRow 106 rfl) rfl ?_
                        exact kk trivial
                    · intro hI
                      
                      refine r_iload E (dat dkX10_parseRow 84 rfl) rfl ?_
                      refine r_iload_n E (dat dkX10_parseRow 85 rfl) rfl rfl ?_
                      refine q_icmp_ge (tgt := 188) E (dat dkX10_parseRow 86 rfl) rfl rfl rfl (by omega) (by omega) (fun h151 => ?_) (fun h151 => ?_)
                      ·
                        refine r_aload_n E (dat dkX10_parseRow 107 rfl) rfl rfl ?_
                        refine q_geta E fl_X10_9 (dat dkX10_parseRow 108 rfl) rfl rfl rfl ?_
                        refine r_iconst (v := 2) E (dat dkX10_parseRow 109 rfl) rfl ?_
                        refine r_dup2 E (dat dkX10_parseRow 110 rfl) rfl rfl ?_
                        refine q_iald E (dat dkX10_parseRow 111 rfl) rfl rfl (by decide) md_a (show _ = nI 2 from rfl) (by omega) ?_
                        rw [show (hgF (upd A 1 (nI c)) (x.1.1 * c) hs c) 2 = nI x.1.1 from by rw [hgF_n (fun j _ => by unfold c6; omega), upd_ne (by decide)]; exact hA2]
                        refine r_iconst (v := 1) E (dat dkX10_parseRow 112 rfl) rfl ?_
                        refine r_iadd E (dat dkX10_parseRow 113 rfl) ?_
                        rw [show nI x.1.1 + 1 = nI (x.1.1 + 1) from nI_1 _]
                        refine q_iast E (dat dkX10_parseRow 114 rfl) rfl rfl (by decide) md_a (fun _ => md_s) (show _ = nI 2 from rfl) (by omega) ?_
                        refine r_vreturn E (dat dkX10_parseRow 115 rfl) (by decide) (by decide) ?_
                        refine ⟨rfl, t4, _, ⟨t2, tt, c, hs, hs0, by rw [if_pos hu8]; exact ht2, ?_, ?_, ?_, rfl⟩, hG, ?_⟩
                        · rw [hleo, hmoo, ← hv2]
                          exact rwM_no (fun q => by
                                first
                                  | exact h72 q.1
                                  | (rcases q.2 with q | q
                                     · exact absurd q (by omega)
                                     · first
                                         | exact absurd q.1 (by omega)
                                         | exact h90 q.2)) _
                        · rw [hmoo]; exact hv1
                        · first
                            | (rw [if_pos (by first | exact h118 | exact Decidable.not_not.mp h118)]; exact ht4)
                            | (rw [if_neg h118]; exact ht4)
                        · rw [if_pos h40]
                          exact ⟨hk, rfl, hT⟩
                      ·
                        omega
                  ·
                    refine r_vreturn E (dat dkX10_parseRow 76 rfl) (by decide) (by decide) ?_
                    refine ⟨rfl, t4, _, ⟨t2, tt, c, hs, hs0, by rw [if_pos hu8]; exact ht2, ?_, ?_, ?_, rfl⟩, hG, ?_⟩
                    · rw [hleo, hmoo, ← hv2]
                      exact rwM_no (fun q => by
                            first
                              | exact h72 q.1
                              | (rcases q.2 with q | q
                                 · exact absurd q (by omega)
                                 · first
                                     | exact absurd q.1 (by omega)
                                     | exact h90 q.2)) _
                    · rw [hmoo]; exact hv1
                    · first
                        | (rw [if_pos (by first | exact h118 | exact Decidable.not_not.mp h118)]; exact ht4)
                        | (rw [if_neg h118]; exact ht4)
                    · rw [if_neg (fun q => by first | exact absurd (show t4.2.2.2.2.1 ≤ 0 by rw [q]; decide) h134 | exact absurd (show t4.2.2.2.2.1 ≤ 0 by rw [q]; decide) (Int32.not_le.mpr h134))]
                      exact ⟨hk, hA, hT⟩
                ·
                  refine r_iconst (v := 1) E (dat dkX10_parseRow 68 rfl) rfl ?_
                  refine r_goto (tgt := 126) E (dat dkX10_parseRow 69 rfl) rfl ?_
                  refine r_iconst (v := 1) E (dat dkX10_parseRow 71 rfl) rfl ?_
                  refine r_callV (κ := 9) (μ := []) E (px_ex l G bs n _ _ (1) (1) _ hB hn hA hT hG hn6) my_X10_expect iv_X10_expect ml_X10_194 cm_id ⟨by decide, rfl, rfl⟩ rfl rfl rfl rfl (by decide) (Nat.le_of_ble_eq_true rfl) (dat dkX10_parseRow 72 rfl) ?_
                  rintro _ M9 ⟨rfl, hp9, hs9⟩
                  obtain ⟨Ma, hMr, hk9, hA, hT, hS9⟩ := Mrg_pk hp9 hs9
                  replace hB := (hk9.2.2.2.1).trans hB
                  replace hn := (hk9.2.2.2.2.2.2.2.2.1).trans hn
                  replace hk := kq_t hk hk9
                  replace hG := TG_ex (a := 1) (k := 1) (by decide) hG
                  replace h20 := hS9.2.2.1.trans h20
                  obtain ⟨t4, ht4⟩ : ∃ z, z = mEx 1 1 tt := ⟨_, rfl⟩
                  rw [← ht4] at hT hG
                  refine ⟨_, hMr, ?_⟩
                  clear hp9 hs9 hMr hk9 hS9
                  refine r_aload_n E (dat dkX10_parseRow 73 rfl) rfl rfl ?_
                  refine q_getn E fl_X10_165 (dat dkX10_parseRow 74 rfl) rfl rfl rfl (show (_ : Int32) = _ from hT.2.2.2.2.1) ?_
                  refine r_if_le (tgt := 138) E (dat dkX10_parseRow 75 rfl) rfl (fun h134 => ?_) (fun h134 => ?_)
                  ·
                    have h40 : t4.2.2.2.2.1 = 0 := by
                      rcases hG.2.1 with q | q
                      · exact q
                      · exact absurd q (by first | exact Int32.not_lt.mpr h134 | exact h134)
                    have hcl : x.1.2.1 ≤ c := by
                      first
                        | omega
                        | (rw [ht4] at h40; exact absurd (mEx_z (by decide) h40).1 h72)
                    have hcb : x.1.1 * c + c ≤ 64 := by
                      have h1 := hz5 hu8
                      rw [hmoo] at h1
                      have hcv : c = x.1.2.1 := by omega
                      rw [hcv, ← hx.2.2.1]
                      omega
                    refine r_aload_n E (dat dkX10_parseRow 77 rfl) rfl rfl ?_
                    refine q_geta E fl_X10_9 (dat dkX10_parseRow 78 rfl) rfl rfl rfl ?_
                    refine r_iconst (v := 1) E (dat dkX10_parseRow 79 rfl) rfl ?_
                    refine r_iload_n E (dat dkX10_parseRow 80 rfl) rfl rfl ?_
                    refine q_iast E (dat dkX10_parseRow 81 rfl) rfl rfl (by decide) (show (_ : Nat → Int32) = _ from hA) (fun _ => rfl) (show _ = nI 1 from rfl) (by omega) ?_
                    refine r_iconst (v := 0) E (dat dkX10_parseRow 82 rfl) rfl ?_
                    refine r_istore_4 E (dat dkX10_parseRow 83 rfl) rfl rfl ?_
                    refine r_for (c) (fun _ => True) (fun i => md Ma (hgF (upd A 1 (nI c)) (x.1.1 * c) hs i)) (fun i => [some (rv 0 0), some (iv (nI (x.1.2.1))), some (iv (nI (x.1.2.1))), some (iv (nI c)), some (iv (nI i))]) trivial rfl rfl ?_ ?_
                    · intro i hi hI kk
                      
                      refine r_iload E (dat dkX10_parseRow 84 rfl) rfl ?_
                      refine r_iload_n E (dat dkX10_parseRow 85 rfl) rfl rfl ?_
                      refine q_icmp_ge (tgt := 188) E (dat dkX10_parseRow 86 rfl) rfl rfl rfl (by omega) (by omega) (fun h151 => ?_) (fun h151 => ?_)
                      ·
                        omega
                      ·
                        refine r_aload_n E (dat dkX10_parseRow 87 rfl) rfl rfl ?_
                        refine q_geta E fl_X10_9 (dat dkX10_parseRow 88 rfl) rfl rfl rfl ?_
                        refine r_aload_n E (dat dkX10_parseRow 89 rfl) rfl rfl ?_
                        refine q_geta E fl_X10_9 (dat dkX10_parseRow 90 rfl) rfl rfl rfl ?_
                        refine r_iconst (v := 2) E (dat dkX10_parseRow 91 rfl) rfl ?_
                        refine q_iald E (dat dkX10_parseRow 92 rfl) rfl rfl (by decide) md_a (show _ = nI 2 from rfl) (by omega) ?_
                        rw [show (hgF (upd A 1 (nI c)) (x.1.1 * c) hs i) 2 = nI x.1.1 from by rw [hgF_n (fun j _ => by unfold c6; omega), upd_ne (by decide)]; exact hA2]
                        refine r_iload_n E (dat dkX10_parseRow 93 rfl) rfl rfl ?_
                        refine r_imul E (dat dkX10_parseRow 94 rfl) ?_
                        rw [show nI x.1.1 * nI c = nI (x.1.1 * c) from pk_mul _ _]
                        refine r_iload E (dat dkX10_parseRow 95 rfl) rfl ?_
                        refine r_iadd E (dat dkX10_parseRow 96 rfl) ?_
                        rw [nI_add]
                        refine r_callS (μ := []) E (sp_X10_c l G (x.1.1 * c + i) _) my_X10_c is_X10_c ml_X10_48 cm_nil rfl rfl (by decide) (Nat.le_of_ble_eq_true rfl) (dat dkX10_parseRow 97 rfl) ?_
                        rintro _ _ ⟨rfl, hM⟩
                        refine ⟨_, Mrg_z hM, ?_⟩
                        clear hM
                        refine r_iconst (v := 0) E (dat dkX10_parseRow 98 rfl) rfl ?_
                        refine r_iadd E (dat dkX10_parseRow 99 rfl) ?_
                        refine r_aload_n E (dat dkX10_parseRow 100 rfl) rfl rfl ?_
                        refine q_geta E fl_X10_33 (dat dkX10_parseRow 101 rfl) rfl rfl rfl ?_
                        refine r_iload E (dat dkX10_parseRow 102 rfl) rfl ?_
                        refine q_iald E (dat dkX10_parseRow 103 rfl) rfl rfl (by decide) (show (_ : Nat → Int32) = hs from h20) rfl (by omega) ?_
                        refine q_iast E (dat dkX10_parseRow 104 rfl) rfl rfl (by decide) md_a (fun _ => md_s) (show nI (c6 (x.1.1 * c + i) 0) + 0 = nI (c6 (x.1.1 * c + i) 0) from Int32.add_zero _) (by unfold c6; omega) ?_
                        refine q_iinc_4 E (dat dkX10_parseRow 105 rfl) rfl rfl ?_
                        refine r_goto (tgt := 148) E (dat dkX10_parseRow 106 rfl) rfl ?_
                        exact kk trivial
                    · intro hI
                      
                      refine r_iload E (dat dkX10_parseRow 84 rfl) rfl ?_
                      refine r_iload_n E (dat dkX10_parseRow 85 rfl) rfl rfl ?_
                      refine q_icmp_ge (tgt := 188) E (dat dkX10_parseRow 86 rfl) rfl rfl rfl (by omega) (by omega) (fun h151 => ?_) (fun h151 => ?_)
                      ·
                        refine r_aload_n E (dat dkX10_parseRow 107 rfl) rfl rfl ?_
                        refine q_geta E fl_X10_9 (dat dkX10_parseRow 108 rfl) rfl rfl rfl ?_
                        refine r_iconst (v := 2) E (dat dkX10_parseRow 109 rfl) rfl ?_
                        refine r_dup2 E (dat dkX10_parseRow 110 rfl) rfl rfl ?_
                        refine q_iald E (dat dkX10_parseRow 111 rfl) rfl rfl (by decide) md_a (show _ = nI 2 from rfl) (by omega) ?_
                        rw [show (hgF (upd A 1 (nI c)) (x.1.1 * c) hs c) 2 = nI x.1.1 from by rw [hgF_n (fun j _ => by unfold c6; omega), upd_ne (by decide)]; exact hA2]
                        refine r_iconst (v := 1) E (dat dkX10_parseRow 112 rfl) rfl ?_
                        refine r_iadd E (dat dkX10_parseRow 113 rfl) ?_
                        rw [show nI x.1.1 + 1 = nI (x.1.1 + 1) from nI_1 _]
                        refine q_iast E (dat dkX10_parseRow 114 rfl) rfl rfl (by decide) md_a (fun _ => md_s) (show _ = nI 2 from rfl) (by omega) ?_
                        refine r_vreturn E (dat dkX10_parseRow 115 rfl) (by decide) (by decide) ?_
                        refine ⟨rfl, t4, _, ⟨t2, tt, c, hs, hs0, by rw [if_pos hu8]; exact ht2, ?_, ?_, ?_, rfl⟩, hG, ?_⟩
                        · rw [hleo, hmoo, ← hv2]
                          exact rwM_no (fun q => by
                                first
                                  | exact h72 q.1
                                  | (rcases q.2 with q | q
                                     · exact absurd q (by omega)
                                     · first
                                         | exact absurd q.1 (by omega)
                                         | exact h90 q.2)) _
                        · rw [hmoo]; exact hv1
                        · first
                            | (rw [if_pos (by first | exact h118 | exact Decidable.not_not.mp h118)]; exact ht4)
                            | (rw [if_neg h118]; exact ht4)
                        · rw [if_pos h40]
                          exact ⟨hk, rfl, hT⟩
                      ·
                        omega
                  ·
                    refine r_vreturn E (dat dkX10_parseRow 76 rfl) (by decide) (by decide) ?_
                    refine ⟨rfl, t4, _, ⟨t2, tt, c, hs, hs0, by rw [if_pos hu8]; exact ht2, ?_, ?_, ?_, rfl⟩, hG, ?_⟩
                    · rw [hleo, hmoo, ← hv2]
                      exact rwM_no (fun q => by
                            first
                              | exact h72 q.1
                              | (rcases q.2 with q | q
                                 · exact absurd q (by omega)
                                 · first
                                     | exact absurd q.1 (by omega)
                                     | exact h90 q.2)) _
                    · rw [hmoo]; exact hv1
                    · first
                        | (rw [if_pos (by first | exact h118 | exact Decidable.not_not.mp h118)]; exact ht4)
                        | (rw [if_neg h118]; exact ht4)
                    · rw [if_neg (fun q => by first | exact absurd (show t4.2.2.2.2.1 ≤ 0 by rw [q]; decide) h134 | exact absurd (show t4.2.2.2.2.1 ≤ 0 by rw [q]; decide) (Int32.not_le.mpr h134))]
                      exact ⟨hk, hA, hT⟩
              ·
                refine r_aload_n E (dat dkX10_parseRow 49 rfl) rfl rfl ?_
                refine q_getn E fl_X10_174 (dat dkX10_parseRow 50 rfl) rfl rfl rfl (show (_ : Int32) = _ from hT.2.2.1) ?_
                refine r_iconst (v := 2) E (dat dkX10_parseRow 51 rfl) rfl ?_
                refine r_icmp_ne (tgt := 112) E (dat dkX10_parseRow 52 rfl) rfl (fun h90 => ?_) (fun h90 => ?_)
                ·
                  refine r_aload_n E (dat dkX10_parseRow 63 rfl) rfl rfl ?_
                  refine r_aload_n E (dat dkX10_parseRow 64 rfl) rfl rfl ?_
                  refine q_getn E fl_X10_174 (dat dkX10_parseRow 65 rfl) rfl rfl rfl (show (_ : Int32) = _ from hT.2.2.1) ?_
                  refine r_iconst (v := 3) E (dat dkX10_parseRow 66 rfl) rfl ?_
                  refine r_icmp_ne (tgt := 125) E (dat dkX10_parseRow 67 rfl) rfl (fun h118 => ?_) (fun h118 => ?_)
                  ·
                    refine r_iconst (v := 0) E (dat dkX10_parseRow 70 rfl) rfl ?_
                    refine r_iconst (v := 1) E (dat dkX10_parseRow 71 rfl) rfl ?_
                    refine r_callV (κ := 9) (μ := []) E (px_ex l G bs n _ _ (0) (1) _ hB hn hA hT hG hn6) my_X10_expect iv_X10_expect ml_X10_194 cm_id ⟨by decide, rfl, rfl⟩ rfl rfl rfl rfl (by decide) (Nat.le_of_ble_eq_true rfl) (dat dkX10_parseRow 72 rfl) ?_
                    rintro _ M9 ⟨rfl, hp9, hs9⟩
                    obtain ⟨Ma, hMr, hk9, hA, hT, hS9⟩ := Mrg_pk hp9 hs9
                    replace hB := (hk9.2.2.2.1).trans hB
                    replace hn := (hk9.2.2.2.2.2.2.2.2.1).trans hn
                    replace hk := kq_t hk hk9
                    replace hG := TG_ex (a := 0) (k := 1) (by decide) hG
                    replace h20 := hS9.2.2.1.trans h20
                    obtain ⟨t4, ht4⟩ : ∃ z, z = mEx 0 1 tt := ⟨_, rfl⟩
                    rw [← ht4] at hT hG
                    refine ⟨_, hMr, ?_⟩
                    clear hp9 hs9 hMr hk9 hS9
                    refine r_aload_n E (dat dkX10_parseRow 73 rfl) rfl rfl ?_
                    refine q_getn E fl_X10_165 (dat dkX10_parseRow 74 rfl) rfl rfl rfl (show (_ : Int32) = _ from hT.2.2.2.2.1) ?_
                    refine r_if_le (tgt := 138) E (dat dkX10_parseRow 75 rfl) rfl (fun h134 => ?_) (fun h134 => ?_)
                    ·
                      have h40 : t4.2.2.2.2.1 = 0 := by
                        rcases hG.2.1 with q | q
                        · exact q
                        · exact absurd q (by first | exact Int32.not_lt.mpr h134 | exact h134)
                      have hcl : x.1.2.1 ≤ c := by
                        first
                          | omega
                          | (rw [ht4] at h40; exact absurd (mEx_z (by decide) h40).1 h72)
                      have hcb : x.1.1 * c + c ≤ 64 := by
                        have h1 := hz5 hu8
                        rw [hmoo] at h1
                        have hcv : c = x.1.2.1 := by omega
                        rw [hcv, ← hx.2.2.1]
                        omega
                      refine r_aload_n E (dat dkX10_parseRow 77 rfl) rfl rfl ?_
                      refine q_geta E fl_X10_9 (dat dkX10_parseRow 78 rfl) rfl rfl rfl ?_
                      refine r_iconst (v := 1) E (dat dkX10_parseRow 79 rfl) rfl ?_
                      refine r_iload_n E (dat dkX10_parseRow 80 rfl) rfl rfl ?_
                      refine q_iast E (dat dkX10_parseRow 81 rfl) rfl rfl (by decide) (show (_ : Nat → Int32) = _ from hA) (fun _ => rfl) (show _ = nI 1 from rfl) (by omega) ?_
                      refine r_iconst (v := 0) E (dat dkX10_parseRow 82 rfl) rfl ?_
                      refine r_istore_4 E (dat dkX10_parseRow 83 rfl) rfl rfl ?_
                      refine r_for (c) (fun _ => True) (fun i => md Ma (hgF (upd A 1 (nI c)) (x.1.1 * c) hs i)) (fun i => [some (rv 0 0), some (iv (nI (x.1.2.1))), some (iv (nI (x.1.2.1))), some (iv (nI c)), some (iv (nI i))]) trivial rfl rfl ?_ ?_
                      · intro i hi hI kk
                        
                        refine r_iload E (dat dkX10_parseRow 84 rfl) rfl ?_
                        refine r_iload_n E (dat dkX10_parseRow 85 rfl) rfl rfl ?_
                        refine q_icmp_ge (tgt := 188) E (dat dkX10_parseRow 86 rfl) rfl rfl rfl (by omega) (by omega) (fun h151 => ?_) (fun h151 => ?_)
                        ·
                          omega
                        ·
                          refine r_aload_n E (dat dkX10_parseRow 87 rfl) rfl rfl ?_
                          refine q_geta E fl_X10_9 (dat dkX10_parseRow 88 rfl) rfl rfl rfl ?_
                          refine r_aload_n E (dat dkX10_parseRow 89 rfl) rfl rfl ?_
                          refine q_geta E fl_X10_9 (dat dkX10_parseRow 90 rfl) rfl rfl rfl ?_
                          refine r_iconst (v := 2) E (dat dkX10_parseRow 91 rfl) rfl ?_
                          refine q_iald E (dat dkX10_parseRow 92 rfl) rfl rfl (by decide) md_a (show _ = nI 2 from rfl) (by omega) ?_
                          rw [show (hgF (upd A 1 (nI c)) (x.1.1 * c) hs i) 2 = nI x.1.1 from by rw [hgF_n (fun j _ => by unfold c6; omega), upd_ne (by decide)]; exact hA2]
                          refine r_iload_n E (dat dkX10_parseRow 93 rfl) rfl rfl ?_
                          refine r_imul E (dat dkX10_parseRow 94 rfl) ?_
                          rw [show nI x.1.1 * nI c = nI (x.1.1 * c) from pk_mul _ _]
                          refine r_iload E (dat dkX10_parseRow 95 rfl) rfl ?_
                          refine r_iadd E (dat dkX10_parseRow 96 rfl) ?_
                          rw [nI_add]
                          refine r_callS (μ := []) E (sp_X10_c l G (x.1.1 * c + i) _) my_X10_c is_X10_c ml_X10_48 cm_nil rfl rfl (by decide) (Nat.le_of_ble_eq_true rfl) (dat dkX10_parseRow 97 rfl) ?_
                          rintro _ _ ⟨rfl, hM⟩
                          refine ⟨_, Mrg_z hM, ?_⟩
                          clear hM
                          refine r_iconst (v := 0) E (dat dkX10_parseRow 98 rfl) rfl ?_
                          refine r_iadd E (dat dkX10_parseRow 99 rfl) ?_
                          refine r_aload_n E (dat dkX10_parseRow 100 rfl) rfl rfl ?_
                          refine q_geta E fl_X10_33 (dat dkX10_parseRow 101 rfl) rfl rfl rfl ?_
                          refine r_iload E (dat dkX10_parseRow 102 rfl) rfl ?_
                          refine q_iald E (dat dkX10_parseRow 103 rfl) rfl rfl (by decide) (show (_ : Nat → Int32) = hs from h20) rfl (by omega) ?_
                          refine q_iast E (dat dkX10_parseRow 104 rfl) rfl rfl (by decide) md_a (fun _ => md_s) (show nI (c6 (x.1.1 * c + i) 0) + 0 = nI (c6 (x.1.1 * c + i) 0) from Int32.add_zero _) (by unfold c6; omega) ?_
                          refine q_iinc_4 E (dat dkX10_parseRow 105 rfl) rfl rfl ?_
                          refine r_goto (tgt := 148) E (dat dkX10_parseRow 106 rfl) rfl ?_
                          exact kk trivial
                      · intro hI
                        
                        refine r_iload E (dat dkX10_parseRow 84 rfl) rfl ?_
                        refine r_iload_n E (dat dkX10_parseRow 85 rfl) rfl rfl ?_
                        refine q_icmp_ge (tgt := 188) E (dat dkX10_parseRow 86 rfl) rfl rfl rfl (by omega) (by omega) (fun h151 => ?_) (fun h151 => ?_)
                        ·
                          refine r_aload_n E (dat dkX10_parseRow 107 rfl) rfl rfl ?_
                          refine q_geta E fl_X10_9 (dat dkX10_parseRow 108 rfl) rfl rfl rfl ?_
                          refine r_iconst (v := 2) E (dat dkX10_parseRow 109 rfl) rfl ?_
                          refine r_dup2 E (dat dkX10_parseRow 110 rfl) rfl rfl ?_
                          refine q_iald E (dat dkX10_parseRow 111 rfl) rfl rfl (by decide) md_a (show _ = nI 2 from rfl) (by omega) ?_
                          rw [show (hgF (upd A 1 (nI c)) (x.1.1 * c) hs c) 2 = nI x.1.1 from by rw [hgF_n (fun j _ => by unfold c6; omega), upd_ne (by decide)]; exact hA2]
                          refine r_iconst (v := 1) E (dat dkX10_parseRow 112 rfl) rfl ?_
                          refine r_iadd E (dat dkX10_parseRow 113 rfl) ?_
                          rw [show nI x.1.1 + 1 = nI (x.1.1 + 1) from nI_1 _]
                          refine q_iast E (dat dkX10_parseRow 114 rfl) rfl rfl (by decide) md_a (fun _ => md_s) (show _ = nI 2 from rfl) (by omega) ?_
                          refine r_vreturn E (dat dkX10_parseRow 115 rfl) (by decide) (by decide) ?_
                          refine ⟨rfl, t4, _, ⟨t2, tt, c, hs, hs0, by rw [if_pos hu8]; exact ht2, ?_, ?_, ?_, rfl⟩, hG, ?_⟩
                          · rw [hleo, hmoo, ← hv2]
                            exact rwM_no (fun q => by
                                  first
                                    | exact h72 q.1
                                    | (rcases q.2 with q | q
                                       · exact absurd q (by omega)
                                       · first
                                           | exact absurd q.1 (by omega)
                                           | exact h90 q.2)) _
                          · rw [hmoo]; exact hv1
                          · first
                              | (rw [if_pos (by first | exact h118 | exact Decidable.not_not.mp h118)]; exact ht4)
                              | (rw [if_neg h118]; exact ht4)
                          · rw [if_pos h40]
                            exact ⟨hk, rfl, hT⟩
                        ·
                          omega
                    ·
                      refine r_vreturn E (dat dkX10_parseRow 76 rfl) (by decide) (by decide) ?_
                      refine ⟨rfl, t4, _, ⟨t2, tt, c, hs, hs0, by rw [if_pos hu8]; exact ht2, ?_, ?_, ?_, rfl⟩, hG, ?_⟩
                      · rw [hleo, hmoo, ← hv2]
                        exact rwM_no (fun q => by
                              first
                                | exact h72 q.1
                                | (rcases q.2 with q | q
                                   · exact absurd q (by omega)
                                   · first
                                       | exact absurd q.1 (by omega)
                                       | exact h90 q.2)) _
                      · rw [hmoo]; exact hv1
                      · first
                          | (rw [if_pos (by first | exact h118 | exact Decidable.not_not.mp h118)]; exact ht4)
                          | (rw [if_neg h118]; exact ht4)
                      · rw [if_neg (fun q => by first | exact absurd (show t4.2.2.2.2.1 ≤ 0 by rw [q]; decide) h134 | exact absurd (show t4.2.2.2.2.1 ≤ 0 by rw [q]; decide) (Int32.not_le.mpr h134))]
                        exact ⟨hk, hA, hT⟩
                  ·
                    refine r_iconst (v := 1) E (dat dkX10_parseRow 68 rfl) rfl ?_
                    refine r_goto (tgt := 126) E (dat dkX10_parseRow 69 rfl) rfl ?_
                    refine r_iconst (v := 1) E (dat dkX10_parseRow 71 rfl) rfl ?_
                    refine r_callV (κ := 9) (μ := []) E (px_ex l G bs n _ _ (1) (1) _ hB hn hA hT hG hn6) my_X10_expect iv_X10_expect ml_X10_194 cm_id ⟨by decide, rfl, rfl⟩ rfl rfl rfl rfl (by decide) (Nat.le_of_ble_eq_true rfl) (dat dkX10_parseRow 72 rfl) ?_
                    rintro _ M9 ⟨rfl, hp9, hs9⟩
                    obtain ⟨Ma, hMr, hk9, hA, hT, hS9⟩ := Mrg_pk hp9 hs9
                    replace hB := (hk9.2.2.2.1).trans hB
                    replace hn := (hk9.2.2.2.2.2.2.2.2.1).trans hn
                    replace hk := kq_t hk hk9
                    replace hG := TG_ex (a := 1) (k := 1) (by decide) hG
                    replace h20 := hS9.2.2.1.trans h20
                    obtain ⟨t4, ht4⟩ : ∃ z, z = mEx 1 1 tt := ⟨_, rfl⟩
                    rw [← ht4] at hT hG
                    refine ⟨_, hMr, ?_⟩
                    clear hp9 hs9 hMr hk9 hS9
                    refine r_aload_n E (dat dkX10_parseRow 73 rfl) rfl rfl ?_
                    refine q_getn E fl_X10_165 (dat dkX10_parseRow 74 rfl) rfl rfl rfl (show (_ : Int32) = _ from hT.2.2.2.2.1) ?_
                    refine r_if_le (tgt := 138) E (dat dkX10_parseRow 75 rfl) rfl (fun h134 => ?_) (fun h134 => ?_)
                    ·
                      have h40 : t4.2.2.2.2.1 = 0 := by
                        rcases hG.2.1 with q | q
                        · exact q
                        · exact absurd q (by first | exact Int32.not_lt.mpr h134 | exact h134)
                      have hcl : x.1.2.1 ≤ c := by
                        first
                          | omega
                          | (rw [ht4] at h40; exact absurd (mEx_z (by decide) h40).1 h72)
                      have hcb : x.1.1 * c + c ≤ 64 := by
                        have h1 := hz5 hu8
                        rw [hmoo] at h1
                        have hcv : c = x.1.2.1 := by omega
                        rw [hcv, ← hx.2.2.1]
                        omega
                      refine r_aload_n E (dat dkX10_parseRow 77 rfl) rfl rfl ?_
                      refine q_geta E fl_X10_9 (dat dkX10_parseRow 78 rfl) rfl rfl rfl ?_
                      refine r_iconst (v := 1) E (dat dkX10_parseRow 79 rfl) rfl ?_
                      refine r_iload_n E (dat dkX10_parseRow 80 rfl) rfl rfl ?_
                      refine q_iast E (dat dkX10_parseRow 81 rfl) rfl rfl (by decide) (show (_ : Nat → Int32) = _ from hA) (fun _ => rfl) (show _ = nI 1 from rfl) (by omega) ?_
                      refine r_iconst (v := 0) E (dat dkX10_parseRow 82 rfl) rfl ?_
                      refine r_istore_4 E (dat dkX10_parseRow 83 rfl) rfl rfl ?_
                      refine r_for (c) (fun _ => True) (fun i => md Ma (hgF (upd A 1 (nI c)) (x.1.1 * c) hs i)) (fun i => [some (rv 0 0), some (iv (nI (x.1.2.1))), some (iv (nI (x.1.2.1))), some (iv (nI c)), some (iv (nI i))]) trivial rfl rfl ?_ ?_
                      · intro i hi hI kk
                        
                        refine r_iload E (dat dkX10_parseRow 84 rfl) rfl ?_
                        refine r_iload_n E (dat dkX10_parseRow 85 rfl) rfl rfl ?_
                        refine q_icmp_ge (tgt := 188) E (dat dkX10_parseRow 86 rfl) rfl rfl rfl (by omega) (by omega) (fun h151 => ?_) (fun h151 => ?_)
                        ·
                          omega
                        ·
                          refine r_aload_n E (dat dkX10_parseRow 87 rfl) rfl rfl ?_
                          refine q_geta E fl_X10_9 (dat dkX10_parseRow 88 rfl) rfl rfl rfl ?_
                          refine r_aload_n E (dat dkX10_parseRow 89 rfl) rfl rfl ?_
                          refine q_geta E fl_X10_9 (dat dkX10_parseRow 90 rfl) rfl rfl rfl ?_
                          refine r_iconst (v := 2) E (dat dkX10_parseRow 91 rfl) rfl ?_
                          refine q_iald E (dat dkX10_parseRow 92 rfl) rfl rfl (by decide) md_a (show _ = nI 2 from rfl) (by omega) ?_
                          rw [show (hgF (upd A 1 (nI c)) (x.1.1 * c) hs i) 2 = nI x.1.1 from by rw [hgF_n (fun j _ => by unfold c6; omega), upd_ne (by decide)]; exact hA2]
                          refine r_iload_n E (dat dkX10_parseRow 93 rfl) rfl rfl ?_
                          refine r_imul E (dat dkX10_parseRow 94 rfl) ?_
                          rw [show nI x.1.1 * nI c = nI (x.1.1 * c) from pk_mul _ _]
                          refine r_iload E (dat dkX10_parseRow 95 rfl) rfl ?_
                          refine r_iadd E (dat dkX10_parseRow 96 rfl) ?_
                          rw [nI_add]
                          refine r_callS (μ := []) E (sp_X10_c l G (x.1.1 * c + i) _) my_X10_c is_X10_c ml_X10_48 cm_nil rfl rfl (by decide) (Nat.le_of_ble_eq_true rfl) (dat dkX10_parseRow 97 rfl) ?_
                          rintro _ _ ⟨rfl, hM⟩
                          refine ⟨_, Mrg_z hM, ?_⟩
                          clear hM
                          refine r_iconst (v := 0) E (dat dkX10_parseRow 98 rfl) rfl ?_
                          refine r_iadd E (dat dkX10_parseRow 99 rfl) ?_
                          refine r_aload_n E (dat dkX10_parseRow 100 rfl) rfl rfl ?_
                          refine q_geta E fl_X10_33 (dat dkX10_parseRow 101 rfl) rfl rfl rfl ?_
                          refine r_iload E (dat dkX10_parseRow 102 rfl) rfl ?_
                          refine q_iald E (dat dkX10_parseRow 103 rfl) rfl rfl (by decide) (show (_ : Nat → Int32) = hs from h20) rfl (by omega) ?_
                          refine q_iast E (dat dkX10_parseRow 104 rfl) rfl rfl (by decide) md_a (fun _ => md_s) (show nI (c6 (x.1.1 * c + i) 0) + 0 = nI (c6 (x.1.1 * c + i) 0) from Int32.add_zero _) (by unfold c6; omega) ?_
                          refine q_iinc_4 E (dat dkX10_parseRow 105 rfl) rfl rfl ?_
                          refine r_goto (tgt := 148) E (dat dkX10_parseRow 106 rfl) rfl ?_
                          exact kk trivial
                      · intro hI
                        
                        refine r_iload E (dat dkX10_parseRow 84 rfl) rfl ?_
                        refine r_iload_n E (dat dkX10_parseRow 85 rfl) rfl rfl ?_
                        refine q_icmp_ge (tgt := 188) E (dat dkX10_parseRow 86 rfl) rfl rfl rfl (by omega) (by omega) (fun h151 => ?_) (fun h151 => ?_)
                        ·
                          refine r_aload_n E (dat dkX10_parseRow 107 rfl) rfl rfl ?_
                          refine q_geta E fl_X10_9 (dat dkX10_parseRow 108 rfl) rfl rfl rfl ?_
                          refine r_iconst (v := 2) E (dat dkX10_parseRow 109 rfl) rfl ?_
                          refine r_dup2 E (dat dkX10_parseRow 110 rfl) rfl rfl ?_
                          refine q_iald E (dat dkX10_parseRow 111 rfl) rfl rfl (by decide) md_a (show _ = nI 2 from rfl) (by omega) ?_
                          rw [show (hgF (upd A 1 (nI c)) (x.1.1 * c) hs c) 2 = nI x.1.1 from by rw [hgF_n (fun j _ => by unfold c6; omega), upd_ne (by decide)]; exact hA2]
                          refine r_iconst (v := 1) E (dat dkX10_parseRow 112 rfl) rfl ?_
                          refine r_iadd E (dat dkX10_parseRow 113 rfl) ?_
                          rw [show nI x.1.1 + 1 = nI (x.1.1 + 1) from nI_1 _]
                          refine q_iast E (dat dkX10_parseRow 114 rfl) rfl rfl (by decide) md_a (fun _ => md_s) (show _ = nI 2 from rfl) (by omega) ?_
                          refine r_vreturn E (dat dkX10_parseRow 115 rfl) (by decide) (by decide) ?_
                          refine ⟨rfl, t4, _, ⟨t2, tt, c, hs, hs0, by rw [if_pos hu8]; exact ht2, ?_, ?_, ?_, rfl⟩, hG, ?_⟩
                          · rw [hleo, hmoo, ← hv2]
                            exact rwM_no (fun q => by
                                  first
                                    | exact h72 q.1
                                    | (rcases q.2 with q | q
                                       · exact absurd q (by omega)
                                       · first
                                           | exact absurd q.1 (by omega)
                                           | exact h90 q.2)) _
                          · rw [hmoo]; exact hv1
                          · first
                              | (rw [if_pos (by first | exact h118 | exact Decidable.not_not.mp h118)]; exact ht4)
                              | (rw [if_neg h118]; exact ht4)
                          · rw [if_pos h40]
                            exact ⟨hk, rfl, hT⟩
                        ·
                          omega
                    ·
                      refine r_vreturn E (dat dkX10_parseRow 76 rfl) (by decide) (by decide) ?_
                      refine ⟨rfl, t4, _, ⟨t2, tt, c, hs, hs0, by rw [if_pos hu8]; exact ht2, ?_, ?_, ?_, rfl⟩, hG, ?_⟩
                      · rw [hleo, hmoo, ← hv2]
                        exact rwM_no (fun q => by
                              first
                                | exact h72 q.1
                                | (rcases q.2 with q | q
                                   · exact absurd q (by omega)
                                   · first
                                       | exact absurd q.1 (by omega)
                                       | exact h90 q.2)) _
                      · rw [hmoo]; exact hv1
                      · first
                          | (rw [if_pos (by first | exact h118 | exact Decidable.not_not.mp h118)]; exact ht4)
                          | (rw [if_neg h118]; exact ht4)
                      · rw [if_neg (fun q => by first | exact absurd (show t4.2.2.2.2.1 ≤ 0 by rw [q]; decide) h134 | exact absurd (show t4.2.2.2.2.1 ≤ 0 by rw [q]; decide) (Int32.not_le.mpr h134))]
                        exact ⟨hk, hA, hT⟩
                ·
                  refine r_aload_n E (dat dkX10_parseRow 53 rfl) rfl rfl ?_
                  refine q_geta E fl_X10_33 (dat dkX10_parseRow 54 rfl) rfl rfl rfl ?_
                  refine r_iload_n E (dat dkX10_parseRow 55 rfl) rfl rfl ?_
                  refine r_aload_n E (dat dkX10_parseRow 56 rfl) rfl rfl ?_
                  refine r_iconst (v := 0) E (dat dkX10_parseRow 57 rfl) rfl ?_
                  refine r_bipush (v := 9) E (dat dkX10_parseRow 58 rfl) rfl ?_
                  refine r_callV (κ := 9) (μ := []) E (px_num l G bs n _ _ (0) (9) _ hB hn hA hT hG hn6) my_X10_parseNumber iv_X10_parseNumber ml_X10_198 cm_id ⟨by decide, rfl, rfl⟩ rfl rfl rfl rfl (by decide) (Nat.le_of_ble_eq_true rfl) (dat dkX10_parseRow 59 rfl) ?_
                  rintro _ M9 ⟨rfl, hp9, hs9⟩
                  obtain ⟨Ma, hMr, hk9, hA, hT, hS9⟩ := Mrg_pk hp9 hs9
                  replace hB := (hk9.2.2.2.1).trans hB
                  replace hn := (hk9.2.2.2.2.2.2.2.2.1).trans hn
                  replace hk := kq_t hk hk9
                  replace hG := TG_ad (b := bs) (TG_ne (lo := 0) (hi := 9) hG)
                  replace h20 := hS9.2.2.1.trans h20
                  refine ⟨_, hMr, ?_⟩
                  clear hp9 hs9 hMr hk9 hS9
                  refine q_iast E (dat dkX10_parseRow 60 rfl) rfl rfl (by decide) (show (_ : Nat → Int32) = hs from h20) (fun _ => rfl) rfl (by omega) ?_
                  refine q_iinc_3 E (dat dkX10_parseRow 61 rfl) rfl rfl ?_
                  refine r_goto (tgt := 68) E (dat dkX10_parseRow 62 rfl) rfl ?_
                  exact kk0 (c + 1, upd hs c (mNv tt 0 9), mAd bs n (mNe tt 0 9), ar 20 Ma (upd hs c (mNv tt 0 9))) ⟨by show c + 1 ≤ x.1.2.1; omega, (rwM_go (by omega) ⟨by first | exact h72 | exact Decidable.not_not.mp h72, by first | exact Or.inl h77 | exact Or.inr ⟨by omega, by first | exact h90 | exact Decidable.not_not.mp h90⟩⟩).trans hv2, hk, hA, hT, hG, rfl, hB, hn⟩ (by show 8 - (c + 1) < 8 - c; omega)
        ·
          exact absurd ((nI_eq (b := 0) (by omega) (by decide)).mp (show nI x.1.1 = nI 0 from by first | exact h51 | exact Decidable.not_not.mp h51)) hU
      ·
        exact absurd ((nI_eq (b := 0) (by omega) (by decide)).mp (show nI x.1.1 = nI 0 from by first | exact h31 | exact Decidable.not_not.mp h31)) hU
  ·
    skip
    have hleo : leO x.1.1 x.1.2.1 = x.1.2.1 := if_neg hU
    have hmoo : moO x.1.1 x.1.2.1 = x.1.2.1 := if_neg hU
    refine r_aload_n E (dat dkX10_parseRow 0 rfl) rfl rfl ?_
    refine r_aload_n E (dat dkX10_parseRow 1 rfl) rfl rfl ?_
    refine q_geta E fl_X10_9 (dat dkX10_parseRow 2 rfl) rfl rfl rfl ?_
    refine r_iconst (v := 2) E (dat dkX10_parseRow 3 rfl) rfl ?_
    refine q_iald E (dat dkX10_parseRow 4 rfl) rfl rfl (by decide) (show (_ : Nat → Int32) = _ from hA) (show _ = nI 2 from rfl) (by omega) ?_
    rw [hA2]
    refine r_bipush (v := 8) E (dat dkX10_parseRow 5 rfl) rfl ?_
    refine q_icmp_ge (tgt := 16) E (dat dkX10_parseRow 6 rfl) rfl rfl (b := 8) rfl (by omega) (by omega) (fun h9 => ?_) (fun h9 => ?_)
    ·
      refine r_iconst (v := 0) E (dat dkX10_parseRow 9 rfl) rfl ?_
      refine r_iconst (v := 4) E (dat dkX10_parseRow 10 rfl) rfl ?_
      refine r_callV (κ := 9) (μ := []) E (px_ex l G bs n _ _ (0) (4) _ hB hn hA hT hG hn6) my_X10_expect iv_X10_expect ml_X10_194 cm_id ⟨by decide, rfl, rfl⟩ rfl rfl rfl rfl (by decide) (Nat.le_of_ble_eq_true rfl) (dat dkX10_parseRow 11 rfl) ?_
      rintro _ M9 ⟨rfl, hp9, hs9⟩
      obtain ⟨Ma, hMr, hk9, hA, hT, hS9⟩ := Mrg_pk hp9 hs9
      replace hB := (hk9.2.2.2.1).trans hB
      replace hn := (hk9.2.2.2.2.2.2.2.2.1).trans hn
      replace hk := kq_t hk hk9
      replace hG := TG_ex (a := 0) (k := 4) (by decide) hG
      refine ⟨_, hMr, ?_⟩
      clear hp9 hs9 hMr hk9 hS9
      refine r_aload_n E (dat dkX10_parseRow 12 rfl) rfl rfl ?_
      refine r_callV (κ := 9) (μ := []) E (px_adv l G bs n _ _  _ hB hn hA hT hG hn6) my_X10_advanceToken iv_X10_advanceToken ml_X10_189 cm_id ⟨by decide, rfl, rfl⟩ rfl rfl rfl rfl (by decide) (Nat.le_of_ble_eq_true rfl) (dat dkX10_parseRow 13 rfl) ?_
      rintro _ M9 ⟨rfl, hp9, hs9⟩
      obtain ⟨Ma, hMr, hk9, hA, hT, hS9⟩ := Mrg_pk hp9 hs9
      replace hB := (hk9.2.2.2.1).trans hB
      replace hn := (hk9.2.2.2.2.2.2.2.2.1).trans hn
      replace hk := kq_t hk hk9
      replace hG := TG_ad (b := bs) hG
      obtain ⟨hs0, hhs0⟩ : ∃ z, Ma 0 20 = z := ⟨_, rfl⟩
      obtain ⟨t2, ht2⟩ : ∃ z, z = mAd bs n (mEx 0 4 t) := ⟨_, rfl⟩
      rw [← ht2] at hT hG
      refine ⟨_, hMr, ?_⟩
      clear hp9 hs9 hMr hk9 hS9
      have hf2 : 0 < t2.2.2.2.2.1 := hG.2.1.resolve_left (fun q => (mEx_z (a := 0) (k := 4) (t := t) (by decide) (mAd_z (b := bs) (n := n) (by rw [← ht2]; exact q))).2.2 rfl)
      refine r_aload_n E (dat dkX10_parseRow 14 rfl) rfl rfl ?_
      refine q_geta E fl_X10_9 (dat dkX10_parseRow 15 rfl) rfl rfl rfl ?_
      refine r_iconst (v := 2) E (dat dkX10_parseRow 16 rfl) rfl ?_
      refine q_iald E (dat dkX10_parseRow 17 rfl) rfl rfl (by decide) (show (_ : Nat → Int32) = _ from hA) (show _ = nI 2 from rfl) (by omega) ?_
      rw [hA2]
      refine r_if_ne (tgt := 38) E (dat dkX10_parseRow 18 rfl) rfl (fun h31 => ?_) (fun h31 => ?_)
      ·
        refine r_aload_n E (dat dkX10_parseRow 21 rfl) rfl rfl ?_
        refine q_geta E fl_X10_9 (dat dkX10_parseRow 22 rfl) rfl rfl rfl ?_
        refine r_iconst (v := 1) E (dat dkX10_parseRow 23 rfl) rfl ?_
        refine q_iald E (dat dkX10_parseRow 24 rfl) rfl rfl (by decide) (show (_ : Nat → Int32) = _ from hA) (show _ = nI 1 from rfl) (by omega) ?_
        first
          | rw [hA1]
          | skip
        refine r_istore_1 E (dat dkX10_parseRow 25 rfl) rfl rfl ?_
        refine r_aload_n E (dat dkX10_parseRow 26 rfl) rfl rfl ?_
        refine q_geta E fl_X10_9 (dat dkX10_parseRow 27 rfl) rfl rfl rfl ?_
        refine r_iconst (v := 2) E (dat dkX10_parseRow 28 rfl) rfl ?_
        refine q_iald E (dat dkX10_parseRow 29 rfl) rfl rfl (by decide) (show (_ : Nat → Int32) = _ from hA) (show _ = nI 2 from rfl) (by omega) ?_
        rw [hA2]
        refine r_if_ne (tgt := 59) E (dat dkX10_parseRow 30 rfl) rfl (fun h51 => ?_) (fun h51 => ?_)
        ·
          refine r_aload_n E (dat dkX10_parseRow 33 rfl) rfl rfl ?_
          refine q_geta E fl_X10_9 (dat dkX10_parseRow 34 rfl) rfl rfl rfl ?_
          refine r_iconst (v := 1) E (dat dkX10_parseRow 35 rfl) rfl ?_
          refine q_iald E (dat dkX10_parseRow 36 rfl) rfl rfl (by decide) (show (_ : Nat → Int32) = _ from hA) (show _ = nI 1 from rfl) (by omega) ?_
          first
            | rw [hA1]
            | skip
          refine r_istore_2 E (dat dkX10_parseRow 37 rfl) rfl rfl ?_
          refine r_iconst (v := 0) E (dat dkX10_parseRow 38 rfl) rfl ?_
          refine r_istore_3 E (dat dkX10_parseRow 39 rfl) rfl rfl ?_
          refine r_while (β := Nat × (Nat → Int32) × TT × Mem) (fun y => 8 - y.1) (fun y => y.1 ≤ x.1.2.1 ∧ rwM bs n (x.1.2.1) (x.1.2.1) (8 - y.1) y.1 y.2.1 y.2.2.1 = rwM bs n (x.1.2.1) (x.1.2.1) 8 0 hs0 t2 ∧ kq M y.2.2.2 ∧ y.2.2.2 0 1 = A ∧ TI y.2.2.2 y.2.2.1 ∧ TG n y.2.2.1 ∧ y.2.2.2 0 20 = y.2.1 ∧ y.2.2.2 0 10 = bs ∧ y.2.2.2 0 0 10 = nI n) (fun y => y.2.2.2) (fun y => [some (rv 0 0), some (iv (nI (x.1.2.1))), some (iv (nI (x.1.2.1))), some (iv (nI y.1)), none]) ((0, hs0, t2, Ma)) ⟨Nat.zero_le _, rfl, hk, hA, hT, hG, hhs0, hB, hn⟩ rfl rfl ?_
          intro y hI kk0
          obtain ⟨c, hs, tt, Mc⟩ := y
          obtain ⟨hv1, hv2, hk, hA, hT, hG, h20, hB, hn⟩ := hI
          dsimp only at hv1 hv2 hk hA hT hG h20 hB hn ⊢
          
          refine r_aload_n E (dat dkX10_parseRow 40 rfl) rfl rfl ?_
          refine q_getn E fl_X10_165 (dat dkX10_parseRow 41 rfl) rfl rfl rfl (show (_ : Int32) = _ from hT.2.2.2.2.1) ?_
          refine r_if_ne (tgt := 112) E (dat dkX10_parseRow 42 rfl) rfl (fun h72 => ?_) (fun h72 => ?_)
          ·
            refine r_aload_n E (dat dkX10_parseRow 63 rfl) rfl rfl ?_
            refine r_aload_n E (dat dkX10_parseRow 64 rfl) rfl rfl ?_
            refine q_getn E fl_X10_174 (dat dkX10_parseRow 65 rfl) rfl rfl rfl (show (_ : Int32) = _ from hT.2.2.1) ?_
            refine r_iconst (v := 3) E (dat dkX10_parseRow 66 rfl) rfl ?_
            refine r_icmp_ne (tgt := 125) E (dat dkX10_parseRow 67 rfl) rfl (fun h118 => ?_) (fun h118 => ?_)
            ·
              refine r_iconst (v := 0) E (dat dkX10_parseRow 70 rfl) rfl ?_
              refine r_iconst (v := 1) E (dat dkX10_parseRow 71 rfl) rfl ?_
              refine r_callV (κ := 9) (μ := []) E (px_ex l G bs n _ _ (0) (1) _ hB hn hA hT hG hn6) my_X10_expect iv_X10_expect ml_X10_194 cm_id ⟨by decide, rfl, rfl⟩ rfl rfl rfl rfl (by decide) (Nat.le_of_ble_eq_true rfl) (dat dkX10_parseRow 72 rfl) ?_
              rintro _ M9 ⟨rfl, hp9, hs9⟩
              obtain ⟨Ma, hMr, hk9, hA, hT, hS9⟩ := Mrg_pk hp9 hs9
              replace hB := (hk9.2.2.2.1).trans hB
              replace hn := (hk9.2.2.2.2.2.2.2.2.1).trans hn
              replace hk := kq_t hk hk9
              replace hG := TG_ex (a := 0) (k := 1) (by decide) hG
              replace h20 := hS9.2.2.1.trans h20
              obtain ⟨t4, ht4⟩ : ∃ z, z = mEx 0 1 tt := ⟨_, rfl⟩
              rw [← ht4] at hT hG
              refine ⟨_, hMr, ?_⟩
              clear hp9 hs9 hMr hk9 hS9
              refine r_aload_n E (dat dkX10_parseRow 73 rfl) rfl rfl ?_
              refine q_getn E fl_X10_165 (dat dkX10_parseRow 74 rfl) rfl rfl rfl (show (_ : Int32) = _ from hT.2.2.2.2.1) ?_
              refine r_if_le (tgt := 138) E (dat dkX10_parseRow 75 rfl) rfl (fun h134 => ?_) (fun h134 => ?_)
              ·
                exact absurd (show t4.2.2.2.2.1 ≤ 0 from by first | exact h134 | exact Int32.not_lt.mp h134) (Int32.not_le.mpr (by
                  have e1 : rwM bs n x.1.2.1 x.1.2.1 8 0 hs0 t2 = (0, hs0, t2) := rwM_no (fun q => fz hf2 q.1) _
                  have e2 : (c, hs, tt) = (0, hs0, t2) := by
                    rw [← e1, ← hv2]
                    exact (rwM_no (fun q => by
                        first
                          | exact h72 q.1
                          | (rcases q.2 with q | q
                             · exact absurd q (by omega)
                             · first
                                 | exact absurd q.1 (by omega)
                                 | exact h90 q.2)) _).symm
                  have e3 : tt = t2 := by injection e2 with _ e; injection e
                  rw [ht4, e3, mEx_x hf2]
                  exact hf2))
              ·
                refine r_vreturn E (dat dkX10_parseRow 76 rfl) (by decide) (by decide) ?_
                refine ⟨rfl, t4, _, ⟨t2, tt, c, hs, hs0, by rw [if_neg hu8]; exact ht2, ?_, ?_, ?_, rfl⟩, hG, ?_⟩
                · rw [hleo, hmoo, ← hv2]
                  exact rwM_no (fun q => by
                        first
                          | exact h72 q.1
                          | (rcases q.2 with q | q
                             · exact absurd q (by omega)
                             · first
                                 | exact absurd q.1 (by omega)
                                 | exact h90 q.2)) _
                · rw [hmoo]; exact hv1
                · first
                    | (rw [if_pos (by first | exact h118 | exact Decidable.not_not.mp h118)]; exact ht4)
                    | (rw [if_neg h118]; exact ht4)
                · rw [if_neg (fun q => by first | exact absurd (show t4.2.2.2.2.1 ≤ 0 by rw [q]; decide) h134 | exact absurd (show t4.2.2.2.2.1 ≤ 0 by rw [q]; decide) (Int32.not_le.mpr h134))]
                  exact ⟨hk, hA, hT⟩
            ·
              refine r_iconst (v := 1) E (dat dkX10_parseRow 68 rfl) rfl ?_
              refine r_goto (tgt := 126) E (dat dkX10_parseRow 69 rfl) rfl ?_
              refine r_iconst (v := 1) E (dat dkX10_parseRow 71 rfl) rfl ?_
              refine r_callV (κ := 9) (μ := []) E (px_ex l G bs n _ _ (1) (1) _ hB hn hA hT hG hn6) my_X10_expect iv_X10_expect ml_X10_194 cm_id ⟨by decide, rfl, rfl⟩ rfl rfl rfl rfl (by decide) (Nat.le_of_ble_eq_true rfl) (dat dkX10_parseRow 72 rfl) ?_
              rintro _ M9 ⟨rfl, hp9, hs9⟩
              obtain ⟨Ma, hMr, hk9, hA, hT, hS9⟩ := Mrg_pk hp9 hs9
              replace hB := (hk9.2.2.2.1).trans hB
              replace hn := (hk9.2.2.2.2.2.2.2.2.1).trans hn
              replace hk := kq_t hk hk9
              replace hG := TG_ex (a := 1) (k := 1) (by decide) hG
              replace h20 := hS9.2.2.1.trans h20
              obtain ⟨t4, ht4⟩ : ∃ z, z = mEx 1 1 tt := ⟨_, rfl⟩
              rw [← ht4] at hT hG
              refine ⟨_, hMr, ?_⟩
              clear hp9 hs9 hMr hk9 hS9
              refine r_aload_n E (dat dkX10_parseRow 73 rfl) rfl rfl ?_
              refine q_getn E fl_X10_165 (dat dkX10_parseRow 74 rfl) rfl rfl rfl (show (_ : Int32) = _ from hT.2.2.2.2.1) ?_
              refine r_if_le (tgt := 138) E (dat dkX10_parseRow 75 rfl) rfl (fun h134 => ?_) (fun h134 => ?_)
              ·
                exact absurd (show t4.2.2.2.2.1 ≤ 0 from by first | exact h134 | exact Int32.not_lt.mp h134) (Int32.not_le.mpr (by
                  have e1 : rwM bs n x.1.2.1 x.1.2.1 8 0 hs0 t2 = (0, hs0, t2) := rwM_no (fun q => fz hf2 q.1) _
                  have e2 : (c, hs, tt) = (0, hs0, t2) := by
                    rw [← e1, ← hv2]
                    exact (rwM_no (fun q => by
                        first
                          | exact h72 q.1
                          | (rcases q.2 with q | q
                             · exact absurd q (by omega)
                             · first
                                 | exact absurd q.1 (by omega)
                                 | exact h90 q.2)) _).symm
                  have e3 : tt = t2 := by injection e2 with _ e; injection e
                  rw [ht4, e3, mEx_x hf2]
                  exact hf2))
              ·
                refine r_vreturn E (dat dkX10_parseRow 76 rfl) (by decide) (by decide) ?_
                refine ⟨rfl, t4, _, ⟨t2, tt, c, hs, hs0, by rw [if_neg hu8]; exact ht2, ?_, ?_, ?_, rfl⟩, hG, ?_⟩
                · rw [hleo, hmoo, ← hv2]
                  exact rwM_no (fun q => by
                        first
                          | exact h72 q.1
                          | (rcases q.2 with q | q
                             · exact absurd q (by omega)
                             · first
                                 | exact absurd q.1 (by omega)
                                 | exact h90 q.2)) _
                · rw [hmoo]; exact hv1
                · first
                    | (rw [if_pos (by first | exact h118 | exact Decidable.not_not.mp h118)]; exact ht4)
                    | (rw [if_neg h118]; exact ht4)
                · rw [if_neg (fun q => by first | exact absurd (show t4.2.2.2.2.1 ≤ 0 by rw [q]; decide) h134 | exact absurd (show t4.2.2.2.2.1 ≤ 0 by rw [q]; decide) (Int32.not_le.mpr h134))]
                  exact ⟨hk, hA, hT⟩
          ·
            refine r_iload_n E (dat dkX10_parseRow 43 rfl) rfl rfl ?_
            refine r_iload_n E (dat dkX10_parseRow 44 rfl) rfl rfl ?_
            refine q_icmp_lt (tgt := 93) E (dat dkX10_parseRow 45 rfl) rfl rfl rfl (by omega) (by omega) (fun h77 => ?_) (fun h77 => ?_)
            ·
              refine r_aload_n E (dat dkX10_parseRow 53 rfl) rfl rfl ?_
              refine q_geta E fl_X10_33 (dat dkX10_parseRow 54 rfl) rfl rfl rfl ?_
              refine r_iload_n E (dat dkX10_parseRow 55 rfl) rfl rfl ?_
              refine r_aload_n E (dat dkX10_parseRow 56 rfl) rfl rfl ?_
              refine r_iconst (v := 0) E (dat dkX10_parseRow 57 rfl) rfl ?_
              refine r_bipush (v := 9) E (dat dkX10_parseRow 58 rfl) rfl ?_
              refine r_callV (κ := 9) (μ := []) E (px_num l G bs n _ _ (0) (9) _ hB hn hA hT hG hn6) my_X10_parseNumber iv_X10_parseNumber ml_X10_198 cm_id ⟨by decide, rfl, rfl⟩ rfl rfl rfl rfl (by decide) (Nat.le_of_ble_eq_true rfl) (dat dkX10_parseRow 59 rfl) ?_
              rintro _ M9 ⟨rfl, hp9, hs9⟩
              obtain ⟨Ma, hMr, hk9, hA, hT, hS9⟩ := Mrg_pk hp9 hs9
              replace hB := (hk9.2.2.2.1).trans hB
              replace hn := (hk9.2.2.2.2.2.2.2.2.1).trans hn
              replace hk := kq_t hk hk9
              replace hG := TG_ad (b := bs) (TG_ne (lo := 0) (hi := 9) hG)
              replace h20 := hS9.2.2.1.trans h20
              refine ⟨_, hMr, ?_⟩
              clear hp9 hs9 hMr hk9 hS9
              refine q_iast E (dat dkX10_parseRow 60 rfl) rfl rfl (by decide) (show (_ : Nat → Int32) = hs from h20) (fun _ => rfl) rfl (by omega) ?_
              refine q_iinc_3 E (dat dkX10_parseRow 61 rfl) rfl rfl ?_
              refine r_goto (tgt := 68) E (dat dkX10_parseRow 62 rfl) rfl ?_
              exact kk0 (c + 1, upd hs c (mNv tt 0 9), mAd bs n (mNe tt 0 9), ar 20 Ma (upd hs c (mNv tt 0 9))) ⟨by show c + 1 ≤ x.1.2.1; omega, (rwM_go (by omega) ⟨by first | exact h72 | exact Decidable.not_not.mp h72, by first | exact Or.inl h77 | exact Or.inr ⟨by omega, by first | exact h90 | exact Decidable.not_not.mp h90⟩⟩).trans hv2, hk, hA, hT, hG, rfl, hB, hn⟩ (by show 8 - (c + 1) < 8 - c; omega)
            ·
              refine r_iload_n E (dat dkX10_parseRow 46 rfl) rfl rfl ?_
              refine r_iload_n E (dat dkX10_parseRow 47 rfl) rfl rfl ?_
              refine q_icmp_ge (tgt := 112) E (dat dkX10_parseRow 48 rfl) rfl rfl rfl (by omega) (by omega) (fun h82 => ?_) (fun h82 => ?_)
              ·
                refine r_aload_n E (dat dkX10_parseRow 63 rfl) rfl rfl ?_
                refine r_aload_n E (dat dkX10_parseRow 64 rfl) rfl rfl ?_
                refine q_getn E fl_X10_174 (dat dkX10_parseRow 65 rfl) rfl rfl rfl (show (_ : Int32) = _ from hT.2.2.1) ?_
                refine r_iconst (v := 3) E (dat dkX10_parseRow 66 rfl) rfl ?_
                refine r_icmp_ne (tgt := 125) E (dat dkX10_parseRow 67 rfl) rfl (fun h118 => ?_) (fun h118 => ?_)
                ·
                  refine r_iconst (v := 0) E (dat dkX10_parseRow 70 rfl) rfl ?_
                  refine r_iconst (v := 1) E (dat dkX10_parseRow 71 rfl) rfl ?_
                  refine r_callV (κ := 9) (μ := []) E (px_ex l G bs n _ _ (0) (1) _ hB hn hA hT hG hn6) my_X10_expect iv_X10_expect ml_X10_194 cm_id ⟨by decide, rfl, rfl⟩ rfl rfl rfl rfl (by decide) (Nat.le_of_ble_eq_true rfl) (dat dkX10_parseRow 72 rfl) ?_
                  rintro _ M9 ⟨rfl, hp9, hs9⟩
                  obtain ⟨Ma, hMr, hk9, hA, hT, hS9⟩ := Mrg_pk hp9 hs9
                  replace hB := (hk9.2.2.2.1).trans hB
                  replace hn := (hk9.2.2.2.2.2.2.2.2.1).trans hn
                  replace hk := kq_t hk hk9
                  replace hG := TG_ex (a := 0) (k := 1) (by decide) hG
                  replace h20 := hS9.2.2.1.trans h20
                  obtain ⟨t4, ht4⟩ : ∃ z, z = mEx 0 1 tt := ⟨_, rfl⟩
                  rw [← ht4] at hT hG
                  refine ⟨_, hMr, ?_⟩
                  clear hp9 hs9 hMr hk9 hS9
                  refine r_aload_n E (dat dkX10_parseRow 73 rfl) rfl rfl ?_
                  refine q_getn E fl_X10_165 (dat dkX10_parseRow 74 rfl) rfl rfl rfl (show (_ : Int32) = _ from hT.2.2.2.2.1) ?_
                  refine r_if_le (tgt := 138) E (dat dkX10_parseRow 75 rfl) rfl (fun h134 => ?_) (fun h134 => ?_)
                  ·
                    exact absurd (show t4.2.2.2.2.1 ≤ 0 from by first | exact h134 | exact Int32.not_lt.mp h134) (Int32.not_le.mpr (by
                      have e1 : rwM bs n x.1.2.1 x.1.2.1 8 0 hs0 t2 = (0, hs0, t2) := rwM_no (fun q => fz hf2 q.1) _
                      have e2 : (c, hs, tt) = (0, hs0, t2) := by
                        rw [← e1, ← hv2]
                        exact (rwM_no (fun q => by
                            first
                              | exact h72 q.1
                              | (rcases q.2 with q | q
                                 · exact absurd q (by omega)
                                 · first
                                     | exact absurd q.1 (by omega)
                                     | exact h90 q.2)) _).symm
                      have e3 : tt = t2 := by injection e2 with _ e; injection e
                      rw [ht4, e3, mEx_x hf2]
                      exact hf2))
                  ·
                    refine r_vreturn E (dat dkX10_parseRow 76 rfl) (by decide) (by decide) ?_
                    refine ⟨rfl, t4, _, ⟨t2, tt, c, hs, hs0, by rw [if_neg hu8]; exact ht2, ?_, ?_, ?_, rfl⟩, hG, ?_⟩
                    · rw [hleo, hmoo, ← hv2]
                      exact rwM_no (fun q => by
                            first
                              | exact h72 q.1
                              | (rcases q.2 with q | q
                                 · exact absurd q (by omega)
                                 · first
                                     | exact absurd q.1 (by omega)
                                     | exact h90 q.2)) _
                    · rw [hmoo]; exact hv1
                    · first
                        | (rw [if_pos (by first | exact h118 | exact Decidable.not_not.mp h118)]; exact ht4)
                        | (rw [if_neg h118]; exact ht4)
                    · rw [if_neg (fun q => by first | exact absurd (show t4.2.2.2.2.1 ≤ 0 by rw [q]; decide) h134 | exact absurd (show t4.2.2.2.2.1 ≤ 0 by rw [q]; decide) (Int32.not_le.mpr h134))]
                      exact ⟨hk, hA, hT⟩
                ·
                  refine r_iconst (v := 1) E (dat dkX10_parseRow 68 rfl) rfl ?_
                  refine r_goto (tgt := 126) E (dat dkX10_parseRow 69 rfl) rfl ?_
                  refine r_iconst (v := 1) E (dat dkX10_parseRow 71 rfl) rfl ?_
                  refine r_callV (κ := 9) (μ := []) E (px_ex l G bs n _ _ (1) (1) _ hB hn hA hT hG hn6) my_X10_expect iv_X10_expect ml_X10_194 cm_id ⟨by decide, rfl, rfl⟩ rfl rfl rfl rfl (by decide) (Nat.le_of_ble_eq_true rfl) (dat dkX10_parseRow 72 rfl) ?_
                  rintro _ M9 ⟨rfl, hp9, hs9⟩
                  obtain ⟨Ma, hMr, hk9, hA, hT, hS9⟩ := Mrg_pk hp9 hs9
                  replace hB := (hk9.2.2.2.1).trans hB
                  replace hn := (hk9.2.2.2.2.2.2.2.2.1).trans hn
                  replace hk := kq_t hk hk9
                  replace hG := TG_ex (a := 1) (k := 1) (by decide) hG
                  replace h20 := hS9.2.2.1.trans h20
                  obtain ⟨t4, ht4⟩ : ∃ z, z = mEx 1 1 tt := ⟨_, rfl⟩
                  rw [← ht4] at hT hG
                  refine ⟨_, hMr, ?_⟩
                  clear hp9 hs9 hMr hk9 hS9
                  refine r_aload_n E (dat dkX10_parseRow 73 rfl) rfl rfl ?_
                  refine q_getn E fl_X10_165 (dat dkX10_parseRow 74 rfl) rfl rfl rfl (show (_ : Int32) = _ from hT.2.2.2.2.1) ?_
                  refine r_if_le (tgt := 138) E (dat dkX10_parseRow 75 rfl) rfl (fun h134 => ?_) (fun h134 => ?_)
                  ·
                    exact absurd (show t4.2.2.2.2.1 ≤ 0 from by first | exact h134 | exact Int32.not_lt.mp h134) (Int32.not_le.mpr (by
                      have e1 : rwM bs n x.1.2.1 x.1.2.1 8 0 hs0 t2 = (0, hs0, t2) := rwM_no (fun q => fz hf2 q.1) _
                      have e2 : (c, hs, tt) = (0, hs0, t2) := by
                        rw [← e1, ← hv2]
                        exact (rwM_no (fun q => by
                            first
                              | exact h72 q.1
                              | (rcases q.2 with q | q
                                 · exact absurd q (by omega)
                                 · first
                                     | exact absurd q.1 (by omega)
                                     | exact h90 q.2)) _).symm
                      have e3 : tt = t2 := by injection e2 with _ e; injection e
                      rw [ht4, e3, mEx_x hf2]
                      exact hf2))
                  ·
                    refine r_vreturn E (dat dkX10_parseRow 76 rfl) (by decide) (by decide) ?_
                    refine ⟨rfl, t4, _, ⟨t2, tt, c, hs, hs0, by rw [if_neg hu8]; exact ht2, ?_, ?_, ?_, rfl⟩, hG, ?_⟩
                    · rw [hleo, hmoo, ← hv2]
                      exact rwM_no (fun q => by
                            first
                              | exact h72 q.1
                              | (rcases q.2 with q | q
                                 · exact absurd q (by omega)
                                 · first
                                     | exact absurd q.1 (by omega)
                                     | exact h90 q.2)) _
                    · rw [hmoo]; exact hv1
                    · first
                        | (rw [if_pos (by first | exact h118 | exact Decidable.not_not.mp h118)]; exact ht4)
                        | (rw [if_neg h118]; exact ht4)
                    · rw [if_neg (fun q => by first | exact absurd (show t4.2.2.2.2.1 ≤ 0 by rw [q]; decide) h134 | exact absurd (show t4.2.2.2.2.1 ≤ 0 by rw [q]; decide) (Int32.not_le.mpr h134))]
                      exact ⟨hk, hA, hT⟩
              ·
                refine r_aload_n E (dat dkX10_parseRow 49 rfl) rfl rfl ?_
                refine q_getn E fl_X10_174 (dat dkX10_parseRow 50 rfl) rfl rfl rfl (show (_ : Int32) = _ from hT.2.2.1) ?_
                refine r_iconst (v := 2) E (dat dkX10_parseRow 51 rfl) rfl ?_
                refine r_icmp_ne (tgt := 112) E (dat dkX10_parseRow 52 rfl) rfl (fun h90 => ?_) (fun h90 => ?_)
                ·
                  refine r_aload_n E (dat dkX10_parseRow 63 rfl) rfl rfl ?_
                  refine r_aload_n E (dat dkX10_parseRow 64 rfl) rfl rfl ?_
                  refine q_getn E fl_X10_174 (dat dkX10_parseRow 65 rfl) rfl rfl rfl (show (_ : Int32) = _ from hT.2.2.1) ?_
                  refine r_iconst (v := 3) E (dat dkX10_parseRow 66 rfl) rfl ?_
                  refine r_icmp_ne (tgt := 125) E (dat dkX10_parseRow 67 rfl) rfl (fun h118 => ?_) (fun h118 => ?_)
                  ·
                    refine r_iconst (v := 0) E (dat dkX10_parseRow 70 rfl) rfl ?_
                    refine r_iconst (v := 1) E (dat dkX10_parseRow 71 rfl) rfl ?_
                    refine r_callV (κ := 9) (μ := []) E (px_ex l G bs n _ _ (0) (1) _ hB hn hA hT hG hn6) my_X10_expect iv_X10_expect ml_X10_194 cm_id ⟨by decide, rfl, rfl⟩ rfl rfl rfl rfl (by decide) (Nat.le_of_ble_eq_true rfl) (dat dkX10_parseRow 72 rfl) ?_
                    rintro _ M9 ⟨rfl, hp9, hs9⟩
                    obtain ⟨Ma, hMr, hk9, hA, hT, hS9⟩ := Mrg_pk hp9 hs9
                    replace hB := (hk9.2.2.2.1).trans hB
                    replace hn := (hk9.2.2.2.2.2.2.2.2.1).trans hn
                    replace hk := kq_t hk hk9
                    replace hG := TG_ex (a := 0) (k := 1) (by decide) hG
                    replace h20 := hS9.2.2.1.trans h20
                    obtain ⟨t4, ht4⟩ : ∃ z, z = mEx 0 1 tt := ⟨_, rfl⟩
                    rw [← ht4] at hT hG
                    refine ⟨_, hMr, ?_⟩
                    clear hp9 hs9 hMr hk9 hS9
                    refine r_aload_n E (dat dkX10_parseRow 73 rfl) rfl rfl ?_
                    refine q_getn E fl_X10_165 (dat dkX10_parseRow 74 rfl) rfl rfl rfl (show (_ : Int32) = _ from hT.2.2.2.2.1) ?_
                    refine r_if_le (tgt := 138) E (dat dkX10_parseRow 75 rfl) rfl (fun h134 => ?_) (fun h134 => ?_)
                    ·
                      exact absurd (show t4.2.2.2.2.1 ≤ 0 from by first | exact h134 | exact Int32.not_lt.mp h134) (Int32.not_le.mpr (by
                        have e1 : rwM bs n x.1.2.1 x.1.2.1 8 0 hs0 t2 = (0, hs0, t2) := rwM_no (fun q => fz hf2 q.1) _
                        have e2 : (c, hs, tt) = (0, hs0, t2) := by
                          rw [← e1, ← hv2]
                          exact (rwM_no (fun q => by
                              first
                                | exact h72 q.1
                                | (rcases q.2 with q | q
                                   · exact absurd q (by omega)
                                   · first
                                       | exact absurd q.1 (by omega)
                                       | exact h90 q.2)) _).symm
                        have e3 : tt = t2 := by injection e2 with _ e; injection e
                        rw [ht4, e3, mEx_x hf2]
                        exact hf2))
                    ·
                      refine r_vreturn E (dat dkX10_parseRow 76 rfl) (by decide) (by decide) ?_
                      refine ⟨rfl, t4, _, ⟨t2, tt, c, hs, hs0, by rw [if_neg hu8]; exact ht2, ?_, ?_, ?_, rfl⟩, hG, ?_⟩
                      · rw [hleo, hmoo, ← hv2]
                        exact rwM_no (fun q => by
                              first
                                | exact h72 q.1
                                | (rcases q.2 with q | q
                                   · exact absurd q (by omega)
                                   · first
                                       | exact absurd q.1 (by omega)
                                       | exact h90 q.2)) _
                      · rw [hmoo]; exact hv1
                      · first
                          | (rw [if_pos (by first | exact h118 | exact Decidable.not_not.mp h118)]; exact ht4)
                          | (rw [if_neg h118]; exact ht4)
                      · rw [if_neg (fun q => by first | exact absurd (show t4.2.2.2.2.1 ≤ 0 by rw [q]; decide) h134 | exact absurd (show t4.2.2.2.2.1 ≤ 0 by rw [q]; decide) (Int32.not_le.mpr h134))]
                        exact ⟨hk, hA, hT⟩
                  ·
                    refine r_iconst (v := 1) E (dat dkX10_parseRow 68 rfl) rfl ?_
                    refine r_goto (tgt := 126) E (dat dkX10_parseRow 69 rfl) rfl ?_
                    refine r_iconst (v := 1) E (dat dkX10_parseRow 71 rfl) rfl ?_
                    refine r_callV (κ := 9) (μ := []) E (px_ex l G bs n _ _ (1) (1) _ hB hn hA hT hG hn6) my_X10_expect iv_X10_expect ml_X10_194 cm_id ⟨by decide, rfl, rfl⟩ rfl rfl rfl rfl (by decide) (Nat.le_of_ble_eq_true rfl) (dat dkX10_parseRow 72 rfl) ?_
                    rintro _ M9 ⟨rfl, hp9, hs9⟩
                    obtain ⟨Ma, hMr, hk9, hA, hT, hS9⟩ := Mrg_pk hp9 hs9
                    replace hB := (hk9.2.2.2.1).trans hB
                    replace hn := (hk9.2.2.2.2.2.2.2.2.1).trans hn
                    replace hk := kq_t hk hk9
                    replace hG := TG_ex (a := 1) (k := 1) (by decide) hG
                    replace h20 := hS9.2.2.1.trans h20
                    obtain ⟨t4, ht4⟩ : ∃ z, z = mEx 1 1 tt := ⟨_, rfl⟩
                    rw [← ht4] at hT hG
                    refine ⟨_, hMr, ?_⟩
                    clear hp9 hs9 hMr hk9 hS9
                    refine r_aload_n E (dat dkX10_parseRow 73 rfl) rfl rfl ?_
                    refine q_getn E fl_X10_165 (dat dkX10_parseRow 74 rfl) rfl rfl rfl (show (_ : Int32) = _ from hT.2.2.2.2.1) ?_
                    refine r_if_le (tgt := 138) E (dat dkX10_parseRow 75 rfl) rfl (fun h134 => ?_) (fun h134 => ?_)
                    ·
                      exact absurd (show t4.2.2.2.2.1 ≤ 0 from by first | exact h134 | exact Int32.not_lt.mp h134) (Int32.not_le.mpr (by
                        have e1 : rwM bs n x.1.2.1 x.1.2.1 8 0 hs0 t2 = (0, hs0, t2) := rwM_no (fun q => fz hf2 q.1) _
                        have e2 : (c, hs, tt) = (0, hs0, t2) := by
                          rw [← e1, ← hv2]
                          exact (rwM_no (fun q => by
                              first
                                | exact h72 q.1
                                | (rcases q.2 with q | q
                                   · exact absurd q (by omega)
                                   · first
                                       | exact absurd q.1 (by omega)
                                       | exact h90 q.2)) _).symm
                        have e3 : tt = t2 := by injection e2 with _ e; injection e
                        rw [ht4, e3, mEx_x hf2]
                        exact hf2))
                    ·
                      refine r_vreturn E (dat dkX10_parseRow 76 rfl) (by decide) (by decide) ?_
                      refine ⟨rfl, t4, _, ⟨t2, tt, c, hs, hs0, by rw [if_neg hu8]; exact ht2, ?_, ?_, ?_, rfl⟩, hG, ?_⟩
                      · rw [hleo, hmoo, ← hv2]
                        exact rwM_no (fun q => by
                              first
                                | exact h72 q.1
                                | (rcases q.2 with q | q
                                   · exact absurd q (by omega)
                                   · first
                                       | exact absurd q.1 (by omega)
                                       | exact h90 q.2)) _
                      · rw [hmoo]; exact hv1
                      · first
                          | (rw [if_pos (by first | exact h118 | exact Decidable.not_not.mp h118)]; exact ht4)
                          | (rw [if_neg h118]; exact ht4)
                      · rw [if_neg (fun q => by first | exact absurd (show t4.2.2.2.2.1 ≤ 0 by rw [q]; decide) h134 | exact absurd (show t4.2.2.2.2.1 ≤ 0 by rw [q]; decide) (Int32.not_le.mpr h134))]
                        exact ⟨hk, hA, hT⟩
                ·
                  refine r_aload_n E (dat dkX10_parseRow 53 rfl) rfl rfl ?_
                  refine q_geta E fl_X10_33 (dat dkX10_parseRow 54 rfl) rfl rfl rfl ?_
                  refine r_iload_n E (dat dkX10_parseRow 55 rfl) rfl rfl ?_
                  refine r_aload_n E (dat dkX10_parseRow 56 rfl) rfl rfl ?_
                  refine r_iconst (v := 0) E (dat dkX10_parseRow 57 rfl) rfl ?_
                  refine r_bipush (v := 9) E (dat dkX10_parseRow 58 rfl) rfl ?_
                  refine r_callV (κ := 9) (μ := []) E (px_num l G bs n _ _ (0) (9) _ hB hn hA hT hG hn6) my_X10_parseNumber iv_X10_parseNumber ml_X10_198 cm_id ⟨by decide, rfl, rfl⟩ rfl rfl rfl rfl (by decide) (Nat.le_of_ble_eq_true rfl) (dat dkX10_parseRow 59 rfl) ?_
                  rintro _ M9 ⟨rfl, hp9, hs9⟩
                  obtain ⟨Ma, hMr, hk9, hA, hT, hS9⟩ := Mrg_pk hp9 hs9
                  replace hB := (hk9.2.2.2.1).trans hB
                  replace hn := (hk9.2.2.2.2.2.2.2.2.1).trans hn
                  replace hk := kq_t hk hk9
                  replace hG := TG_ad (b := bs) (TG_ne (lo := 0) (hi := 9) hG)
                  replace h20 := hS9.2.2.1.trans h20
                  refine ⟨_, hMr, ?_⟩
                  clear hp9 hs9 hMr hk9 hS9
                  refine q_iast E (dat dkX10_parseRow 60 rfl) rfl rfl (by decide) (show (_ : Nat → Int32) = hs from h20) (fun _ => rfl) rfl (by omega) ?_
                  refine q_iinc_3 E (dat dkX10_parseRow 61 rfl) rfl rfl ?_
                  refine r_goto (tgt := 68) E (dat dkX10_parseRow 62 rfl) rfl ?_
                  exact kk0 (c + 1, upd hs c (mNv tt 0 9), mAd bs n (mNe tt 0 9), ar 20 Ma (upd hs c (mNv tt 0 9))) ⟨by show c + 1 ≤ x.1.2.1; omega, (rwM_go (by omega) ⟨by first | exact h72 | exact Decidable.not_not.mp h72, by first | exact Or.inl h77 | exact Or.inr ⟨by omega, by first | exact h90 | exact Decidable.not_not.mp h90⟩⟩).trans hv2, hk, hA, hT, hG, rfl, hB, hn⟩ (by show 8 - (c + 1) < 8 - c; omega)
        ·
          exact absurd ((nI_eq (b := 0) (by omega) (by decide)).mp (show nI x.1.1 = nI 0 from by first | exact h51 | exact Decidable.not_not.mp h51)) hU
      ·
        exact absurd ((nI_eq (b := 0) (by omega) (by decide)).mp (show nI x.1.1 = nI 0 from by first | exact h31 | exact Decidable.not_not.mp h31)) hU
    ·
      omega
