/-! the reference's text in one record: place, token, start, value, fault, its place -/
def ttF (M : Mem) (t : TT) (j : Nat) : Int32 := if j = 13 then t.2.2.1 else if j = 14 then nI t.1 else if j = 15 then t.2.1 else if j = 16 then t.2.2.2.1 else if j = 17 then t.2.2.2.2.1 else if j = 18 then t.2.2.2.2.2 else M 0 0 j
def ttM (M : Mem) (t : TT) : Mem := setm M 0 (sett (M 0) 0 (ttF M t))
def TI (M : Mem) (t : TT) : Prop := M 0 0 13 = t.2.2.1 ∧ M 0 0 14 = nI t.1 ∧ M 0 0 15 = t.2.1 ∧ M 0 0 16 = t.2.2.2.1 ∧ M 0 0 17 = t.2.2.2.2.1 ∧ M 0 0 18 = t.2.2.2.2.2
theorem Mrg_tt {N : Nat} {M M1 : Mem} {t : TT} (hN : 0 < N) (h1 : M1 = ttM (vw [] M) t) : Mrg N [] M M1 (ttM M t) := Mrg_e (i := 0) (fun j _ h => h) hN rfl h1
theorem TI_tt {M : Mem} {t : TT} : TI (ttM M t) t := ⟨rfl, rfl, rfl, rfl, rfl, rfl⟩
theorem tt_F {M : Mem} {F : Nat → Int32} {t : TT} (h : ∀ j, F j = ttF M t j) : setm M 0 (sett (M 0) 0 F) = ttM M t := by
  rw [show F = ttF M t from funext h]; rfl
theorem tt_of {M : Mem} {t : TT} (h : TI M t) : ttM M t = M := by
  obtain ⟨h1, h2, h3, h4, h5, h6⟩ := h
  have hF : ttF M t = M 0 0 := by
    funext j
    unfold ttF
    by_cases g1 : j = 13
    · rw [if_pos g1, g1, h1]
    · rw [if_neg g1]
      by_cases g2 : j = 14
      · rw [if_pos g2, g2, h2]
      · rw [if_neg g2]
        by_cases g3 : j = 15
        · rw [if_pos g3, g3, h3]
        · rw [if_neg g3]
          by_cases g4 : j = 16
          · rw [if_pos g4, g4, h4]
          · rw [if_neg g4]
            by_cases g5 : j = 17
            · rw [if_pos g5, g5, h5]
            · rw [if_neg g5]
              by_cases g6 : j = 18
              · rw [if_pos g6, g6, h6]
              · rw [if_neg g6]
  unfold ttM
  rw [hF]
  funext g
  unfold setm sett
  split
  · rename_i h; subst h
    funext u
    split
    · rename_i h; rw [h]
    · rfl
  · rfl
theorem tt_tt {M : Mem} {t t2 : TT} : ttM (ttM M t) t2 = ttM M t2 := by
  show setm (ttM M t) 0 (sett (ttM M t 0) 0 (ttF (ttM M t) t2)) = setm M 0 (sett (M 0) 0 (ttF M t2))
  have hF : ttF (ttM M t) t2 = ttF M t2 := by
    funext j
    show (if j = 13 then _ else if j = 14 then _ else if j = 15 then _ else if j = 16 then _ else if j = 17 then _ else if j = 18 then _ else ttF M t j) = ttF M t2 j
    unfold ttF
    by_cases g1 : j = 13
    · rw [if_pos g1, if_pos g1]
    · rw [if_neg g1, if_neg g1]
      by_cases g2 : j = 14
      · rw [if_pos g2, if_neg g1, if_pos g2]
      · rw [if_neg g2, if_neg g2]
        by_cases g3 : j = 15
        · rw [if_pos g3, if_neg g1, if_neg g2, if_pos g3]
        · rw [if_neg g3, if_neg g3]
          by_cases g4 : j = 16
          · rw [if_pos g4, if_neg g1, if_neg g2, if_neg g3, if_pos g4]
          · rw [if_neg g4, if_neg g4]
            by_cases g5 : j = 17
            · rw [if_pos g5, if_neg g1, if_neg g2, if_neg g3, if_neg g4, if_pos g5]
            · rw [if_neg g5, if_neg g5]
              by_cases g6 : j = 18
              · rw [if_pos g6, if_neg g1, if_neg g2, if_neg g3, if_neg g4, if_neg g5, if_pos g6]
              · rw [if_neg g6, if_neg g6, if_neg g1, if_neg g2, if_neg g3, if_neg g4, if_neg g5, if_neg g6]
  rw [hF]
  unfold ttM
  rw [setm_setm, setm_s, sett_sett]
theorem ttx {M : Mem} {t : TT} (h : TI M t) {s p : Nat} {k v : Int32} : txM M (nI s) (nI p) k v = ttM M ((p, k, nI s, v, t.2.2.2.2.1, t.2.2.2.2.2) : TT) := by
  refine tt_F (fun j => ?_)
  unfold ttF
  by_cases g1 : j = 13
  · rw [if_pos g1, if_pos g1]
  · rw [if_neg g1, if_neg g1]
    by_cases g2 : j = 14
    · rw [if_pos g2, if_pos g2]
    · rw [if_neg g2, if_neg g2]
      by_cases g3 : j = 15
      · rw [if_pos g3, if_pos g3]
      · rw [if_neg g3, if_neg g3]
        by_cases g4 : j = 16
        · rw [if_pos g4, if_pos g4]
        · rw [if_neg g4, if_neg g4]
          by_cases g5 : j = 17
          · rw [if_pos g5, g5]; exact h.2.2.2.2.1
          · rw [if_neg g5]
            by_cases g6 : j = 18
            · rw [if_pos g6, g6]; exact h.2.2.2.2.2
            · rw [if_neg g6]
/-- the next token, a fault -/
def mAd (b : Nat → Int32) (n : Nat) (t : TT) : TT := if t.2.2.2.2.1 = 0 then (tP b n t.1, tK b n t.1, nI (tS b n t.1), mV b n t.1 t.2.2.2.1, t.2.2.2.2.1, t.2.2.2.2.2) else t
def mEx (a k : Int32) (t : TT) : TT := if t.2.2.2.2.1 = 0 then (if a = 0 then (t.1, t.2.1, t.2.2.1, t.2.2.2.1, k, t.2.2.1) else t) else t
theorem ex_tt {M : Mem} {t : TT} (h : TI M t) {a k : Int32} : exM M a k = ttM M (mEx a k t) := by
  unfold exM mEx
  rw [h.2.2.2.2.1]
  by_cases h0 : t.2.2.2.2.1 = 0
  · rw [if_pos h0, if_pos h0]
    by_cases ha : a = 0
    · rw [if_pos ha, if_pos ha]
      show setm (fM M 17 k) 0 _ = _
      unfold fM
      rw [setm_setm, setm_s, sett_sett]
      refine tt_F (fun j => ?_)
      show (if j = 18 then M 0 0 13 else if j = 17 then k else M 0 0 j) = _
      unfold ttF
      by_cases g1 : j = 13
      · rw [if_pos g1, if_neg (by omega), if_neg (by omega), g1]; exact h.1
      · rw [if_neg g1]
        by_cases g2 : j = 14
        · rw [if_pos g2, if_neg (by omega), if_neg (by omega), g2]; exact h.2.1
        · rw [if_neg g2]
          by_cases g3 : j = 15
          · rw [if_pos g3, if_neg (by omega), if_neg (by omega), g3]; exact h.2.2.1
          · rw [if_neg g3]
            by_cases g4 : j = 16
            · rw [if_pos g4, if_neg (by omega), if_neg (by omega), g4]; exact h.2.2.2.1
            · rw [if_neg g4]
              by_cases g6 : j = 18
              · rw [if_pos g6, if_neg (show ¬ j = 17 by omega), if_pos g6]; exact h.1
              · rw [if_neg g6]
                by_cases g5 : j = 17
                · rw [if_pos g5, if_pos g5]
                · rw [if_neg g5, if_neg g5, if_neg g6]
    · rw [if_neg ha, if_neg ha, tt_of h]
  · rw [if_neg h0, if_neg h0, tt_of h]
set_option maxRecDepth 100000 in
set_option maxHeartbeats 4000000 in
theorem sp_X10_advance1 (l : Launch) (G : GT) (M : Mem) (hf : 0 < M 0 0 17) : MC l G yX10_advanceToken cX10_advanceToken 1 none ({ frames := 2, cells := 0, slots := 0, locals := 46 } : Room) [9] lk0 [rv 0 0] (M) (fun r M2 => r = none ∧ M2 = M) := by
  refine MC.of RX10 [some (rv 0 0)] 0 (by decide +kernel) rfl rfl rfl ?_
  intro pp ee ss mm aa bb me cd ad E
  refine r_aload_n E (dat dkX10_advanceToken 0 rfl) rfl rfl ?_
  refine q_getn E fl_X10_165 (dat dkX10_advanceToken 1 rfl) rfl rfl rfl rfl ?_
  refine r_if_le (tgt := 8) E (dat dkX10_advanceToken 2 rfl) rfl (fun h4 => ?_) (fun h4 => ?_)
  ·
    exact absurd hf (Int32.not_lt.mpr h4)
  ·
    refine r_vreturn E (dat dkX10_advanceToken 3 rfl) (by decide) (by decide) ?_
    exact ⟨rfl, rfl⟩
