/-! the reference: a text's beginning, a cell's number -/
theorem tt_fM {M : Mem} {f : Nat} {v : Int32} {t : TT} (h1 : 13 ≤ f) (h2 : f ≤ 18) : ttM (fM M f v) t = ttM M t := by
  show setm (fM M f v) 0 (sett (fM M f v 0) 0 (ttF (fM M f v) t)) = _
  have hF : ttF (fM M f v) t = ttF M t := by
    funext j
    unfold ttF
    by_cases g1 : j = 13
    · rw [if_pos g1, if_pos g1]
    · rw [if_neg g1, if_neg g1]
      by_cases g2 : j = 14
      · rw [if_pos g2, if_pos g2]
      · rw [if_neg g2, if_neg g2]
        by_cases g3 : j = 15
        · rw [if_pos g3, if_pos g3]
        · rw [if_neg g3, if_neg g3]
          by_cases g4 : j = 16
          · rw [if_pos g4, if_pos g4]
          · rw [if_neg g4, if_neg g4]
            by_cases g5 : j = 17
            · rw [if_pos g5, if_pos g5]
            · rw [if_neg g5, if_neg g5]
              by_cases g6 : j = 18
              · rw [if_pos g6, if_pos g6]
              · rw [if_neg g6, if_neg g6]
                show (if j = f then v else M 0 0 j) = M 0 0 j
                exact if_neg (by omega)
  rw [hF]
  unfold ttM fM
  rw [setm_setm, setm_s, sett_sett]
/-- at the text's beginning, without a fault -/
def mB0 (t : TT) : TT := (0, t.2.1, t.2.2.1, t.2.2.2.1, 0, t.2.2.2.2.2)
theorem Mrg_t3 {N : Nat} {M M1 : Mem} {t t2 : TT} (hN : 0 < N) (h1 : M1 = ttM (vw [] (fM (fM (ttM M t) 17 0) 14 0)) t2) : Mrg N [] (fM (fM (ttM M t) 17 0) 14 0) M1 (ttM M t2) := by
  rw [show ttM M t2 = ttM (fM (fM (ttM M t) 17 0) 14 0) t2 from by rw [tt_fM (by decide) (by decide), tt_fM (by decide) (by decide), tt_tt]]
  exact Mrg_tt hN h1
set_option maxRecDepth 100000 in
set_option maxHeartbeats 4000000 in
theorem sp_X10_beginText (l : Launch) (G : GT) (bs : Nat → Int32) (n : Nat) (t : TT) (M : Mem) (hB : M 0 10 = bs) (hn : M 0 0 10 = nI n) (hT : TI M t) (hn6 : n ≤ 600) : MC l G yX10_beginText cX10_beginText 1 none ({ frames := 3, cells := 0, slots := 0, locals := 66 } : Room) [9] lk0 [rv 0 0] (M) (fun r M2 => r = none ∧ M2 = ttM M (mAd bs n (mB0 t))) := by
  refine MC.of RX10 [some (rv 0 0)] 0 (by decide +kernel) rfl rfl rfl ?_
  intro pp ee ss mm aa bb me cd ad E
  obtain ⟨M0, rfl, hB0, hn0⟩ : ∃ M0, M = ttM M0 t ∧ M0 0 10 = bs ∧ M0 0 0 10 = nI n := ⟨M, (tt_of hT).symm, hB, hn⟩
  clear hT hB hn
  
  refine r_aload_n E (dat dkX10_beginText 0 rfl) rfl rfl ?_
  refine r_iconst (v := 0) E (dat dkX10_beginText 1 rfl) rfl ?_
  refine q_putn E ft_X10_165 (dat dkX10_beginText 2 rfl) rfl rfl rfl rfl ?_
  refine r_aload_n E (dat dkX10_beginText 3 rfl) rfl rfl ?_
  refine r_iconst (v := 0) E (dat dkX10_beginText 4 rfl) rfl ?_
  refine q_putn E ft_X10_168 (dat dkX10_beginText 5 rfl) rfl rfl rfl rfl ?_
  rw [show ∀ (Z : Mem), setm (setm Z 0 (sett (Z 0) 0 (upd (Z 0 0) 17 0))) 0 (sett ((setm Z 0 (sett (Z 0) 0 (upd (Z 0 0) 17 0))) 0) 0 (upd ((setm Z 0 (sett (Z 0) 0 (upd (Z 0 0) 17 0))) 0 0) 14 0)) = fM (fM Z 17 0) 14 0 from fun _ => rfl]
  refine r_aload_n E (dat dkX10_beginText 6 rfl) rfl rfl ?_
  refine r_callV (κ := 9) (μ := []) E (spx_adv l G bs n (mB0 t) _ hB0 hn0 ⟨rfl, rfl, rfl, rfl, rfl, rfl⟩ (Nat.zero_le n) hn6 (Or.inl rfl)) my_X10_advanceToken iv_X10_advanceToken ml_X10_189 cm_id ⟨by decide, rfl, rfl⟩ rfl rfl rfl rfl (by decide) (Nat.le_of_ble_eq_true rfl) (dat dkX10_beginText 7 rfl) ?_
  rintro _ _ ⟨rfl, rfl⟩
  refine ⟨_, Mrg_t3 (by decide) rfl, ?_⟩
  refine r_vreturn E (dat dkX10_beginText 8 rfl) (by decide) (by decide) ?_
  exact ⟨rfl, by rw [tt_tt]⟩
