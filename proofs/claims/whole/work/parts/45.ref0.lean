/-! the reference: one module, its numbers in the array of tag 1 -/
def md (M : Mem) (A : Nat → Int32) : Mem := setm M 0 (sett (M 0) 1 A)
theorem md_a {M : Mem} {A : Nat → Int32} : md M A 0 1 = A := rfl
theorem md_s {M : Mem} {A f : Nat → Int32} : setm (md M A) 0 (sett (md M A 0) 1 f) = md M f := by
  unfold md
  rw [setm_setm, setm_s, sett_sett]
theorem md_of {M : Mem} {A : Nat → Int32} (h : M 0 1 = A) : md M A = M := by
  funext g
  unfold md setm
  split
  · rename_i h0
    subst h0
    funext t
    unfold sett
    split
    · rename_i h1; rw [h1, h]
    · rfl
  · rfl
theorem md_md {M : Mem} {A B : Nat → Int32} : md (md M A) B = md M B := by
  unfold md
  rw [setm_setm, setm_s, sett_sett]
theorem Mrg_md {N : Nat} {M M1 : Mem} {A B : Nat → Int32} (hN : 0 < N) (h1 : M1 = md (vw [] (md M A)) B) : Mrg N [] (md M A) M1 (md M B) := by
  rw [show md M B = md (md M A) B from md_md.symm]
  exact Mrg_e (i := 0) (fun j _ h => h) hN rfl h1
def iwI (v lo hi : Int64) : Int32 := if lg_cmp v lo < 0 then 0 else if 0 < lg_cmp v hi then 0 else 1
def c6 (c f : Nat) : Nat := 15 + 6 * c + f
theorem i64_lt {a b : Int32} : a.toInt64 < b.toInt64 ↔ a < b := by
  rw [Int64.lt_iff_toInt_lt, Int32.lt_iff_toInt_lt, Int32.toInt_toInt64, Int32.toInt_toInt64]
theorem i64_eq {a b : Int32} : a.toInt64 = b.toInt64 ↔ a = b := by
  rw [← Int64.toInt_inj, ← Int32.toInt_inj, Int32.toInt_toInt64, Int32.toInt_toInt64]
theorem lg_lt {a b : Int32} : lg_cmp a.toInt64 b.toInt64 < 0 ↔ a < b := by
  unfold lg_cmp
  by_cases h1 : a.toInt64 > b.toInt64
  · rw [if_pos h1]
    have h2 : b < a := i64_lt.mp h1
    exact ⟨fun h => absurd h (by decide), fun h => absurd h (Int32.not_lt.mpr (Int32.le_of_lt h2))⟩
  · rw [if_neg h1]
    by_cases h2 : a.toInt64 = b.toInt64
    · rw [if_pos h2]
      have h3 := i64_eq.mp h2
      subst h3
      exact ⟨fun h => absurd h (by decide), fun h => absurd h (Int32.not_lt.mpr (Int32.le_refl _))⟩
    · rw [if_neg h2]
      refine ⟨fun _ => ?_, fun _ => by decide⟩
      rcases Int32.lt_or_eq_of_le (Int32.not_lt.mp (fun q => h1 (i64_lt.mpr q))) with h | h
      · exact h
      · exact absurd (i64_eq.mpr h) h2
theorem lg_gt {a b : Int32} : 0 < lg_cmp a.toInt64 b.toInt64 ↔ b < a := by
  unfold lg_cmp
  by_cases h1 : a.toInt64 > b.toInt64
  · rw [if_pos h1]
    exact ⟨fun _ => i64_lt.mp h1, fun _ => by decide⟩
  · rw [if_neg h1]
    have h4 : ¬ b < a := fun q => h1 (i64_lt.mpr q)
    by_cases h2 : a.toInt64 = b.toInt64
    · rw [if_pos h2]
      exact ⟨fun h => absurd h (by decide), fun h => absurd h h4⟩
    · rw [if_neg h2]
      exact ⟨fun h => absurd h (by decide), fun h => absurd h h4⟩
theorem iw_1 {v lo hi : Int32} (h1 : lo ≤ v) (h2 : v ≤ hi) : iwI v.toInt64 lo.toInt64 hi.toInt64 = 1 := by
  unfold iwI
  rw [if_neg (fun q => Int32.not_lt.mpr h1 (lg_lt.mp q)), if_neg (fun q => Int32.not_lt.mpr h2 (lg_gt.mp q))]
theorem iw_0 {v lo hi : Int32} (h : ¬ (lo ≤ v ∧ v ≤ hi)) : iwI v.toInt64 lo.toInt64 hi.toInt64 = 0 := by
  unfold iwI
  by_cases h1 : v < lo
  · rw [if_pos (lg_lt.mpr h1)]
  · rw [if_neg (fun q => h1 (lg_lt.mp q)), if_pos]
    exact lg_gt.mpr (Int32.not_le.mp fun q => h ⟨Int32.not_lt.mp h1, q⟩)
theorem iw_b {v lo hi : Int64} : narrow .boolean (.int (iwI v lo hi)) = .int (iwI v lo hi) := by
  unfold iwI
  split
  · rfl
  · split <;> rfl
set_option maxRecDepth 100000 in
set_option maxHeartbeats 4000000 in
theorem sp_X10_isWithin (l : Launch) (G : GT) (a b d : Int64) (M : Mem)  : MC l G yX10_isWithin cX10_isWithin 6 (some .boolean) ({ frames := 0, cells := 0, slots := 0, locals := 0 } : Room) [] lk0 [.inl (.long a), .inl (.long b), .inl (.long d)] (M) (fun r M2 => r = some (iv (iwI a b d)) ∧ M2 = M) := by
  refine MC.of RX10 [some (.inl (.long a)), none, some (.inl (.long b)), none, some (.inl (.long d)), none] 0 (by decide +kernel) rfl rfl rfl ?_
  intro pp ee ss mm aa bb me cd ad E
  refine r_lload_n E (dat dkX10_isWithin 0 rfl) rfl rfl ?_
  refine r_lload_n E (dat dkX10_isWithin 1 rfl) rfl rfl ?_
  refine r_lcmp E (dat dkX10_isWithin 2 rfl) ?_
  refine r_if_lt (tgt := 17) E (dat dkX10_isWithin 3 rfl) rfl (fun h3 => ?_) (fun h3 => ?_)
  ·
    refine r_iconst (v := 0) E (dat dkX10_isWithin 10 rfl) rfl ?_
    refine r_zreturn E (dat dkX10_isWithin 11 rfl) rfl (by decide) (by decide) ?_
    refine ⟨?_, rfl⟩
    unfold iwI
    first
      | (rw [if_pos h3]; done)
      | (rw [if_neg (by first | exact h3 | exact Int32.not_lt.mpr h3), if_pos (by first | exact h10 | exact Int32.not_le.mp h10)]; done)
      | (rw [if_neg (by first | exact h3 | exact Int32.not_lt.mpr h3), if_neg (by first | exact h10 | exact Int32.not_lt.mpr h10)]; done)
  ·
    refine r_lload_n E (dat dkX10_isWithin 4 rfl) rfl rfl ?_
    refine r_lload E (dat dkX10_isWithin 5 rfl) rfl ?_
    refine r_lcmp E (dat dkX10_isWithin 6 rfl) ?_
    refine r_if_gt (tgt := 17) E (dat dkX10_isWithin 7 rfl) rfl (fun h10 => ?_) (fun h10 => ?_)
    ·
      refine r_iconst (v := 0) E (dat dkX10_isWithin 10 rfl) rfl ?_
      refine r_zreturn E (dat dkX10_isWithin 11 rfl) rfl (by decide) (by decide) ?_
      refine ⟨?_, rfl⟩
      unfold iwI
      first
        | (rw [if_pos h3]; done)
        | (rw [if_neg (by first | exact h3 | exact Int32.not_lt.mpr h3), if_pos (by first | exact h10 | exact Int32.not_le.mp h10)]; done)
        | (rw [if_neg (by first | exact h3 | exact Int32.not_lt.mpr h3), if_neg (by first | exact h10 | exact Int32.not_lt.mpr h10)]; done)
    ·
      refine r_iconst (v := 1) E (dat dkX10_isWithin 8 rfl) rfl ?_
      refine r_goto (tgt := 18) E (dat dkX10_isWithin 9 rfl) rfl ?_
      refine r_zreturn E (dat dkX10_isWithin 11 rfl) rfl (by decide) (by decide) ?_
      refine ⟨?_, rfl⟩
      unfold iwI
      first
        | (rw [if_pos h3]; done)
        | (rw [if_neg (by first | exact h3 | exact Int32.not_lt.mpr h3), if_pos (by first | exact h10 | exact Int32.not_le.mp h10)]; done)
        | (rw [if_neg (by first | exact h3 | exact Int32.not_lt.mpr h3), if_neg (by first | exact h10 | exact Int32.not_lt.mpr h10)]; done)

set_option maxRecDepth 100000 in
set_option maxHeartbeats 4000000 in
theorem sp_X10_one (l : Launch) (G : GT) (a : Int32) (M : Mem)  : MC l G yX10_one cX10_one 1 (some .int) ({ frames := 0, cells := 0, slots := 0, locals := 0 } : Room) [] lk0 [iv a] (M) (fun r M2 => r = some (iv (if a = 0 then 0 else 1)) ∧ M2 = M) := by
  refine MC.of RX10 [some (iv a)] 0 (by decide +kernel) rfl rfl rfl ?_
  intro pp ee ss mm aa bb me cd ad E
  refine r_iload_n E (dat dkX10_one 0 rfl) rfl rfl ?_
  refine r_if_eq (tgt := 8) E (dat dkX10_one 1 rfl) rfl (fun h1 => ?_) (fun h1 => ?_)
  ·
    refine r_iconst (v := 0) E (dat dkX10_one 4 rfl) rfl ?_
    refine r_ireturn E (dat dkX10_one 5 rfl) (by decide) (by decide) ?_
    refine ⟨?_, rfl⟩
    first
      | (rw [if_pos h1]; done)
      | (rw [if_neg h1]; done)
  ·
    refine r_iconst (v := 1) E (dat dkX10_one 2 rfl) rfl ?_
    refine r_goto (tgt := 9) E (dat dkX10_one 3 rfl) rfl ?_
    refine r_ireturn E (dat dkX10_one 5 rfl) (by decide) (by decide) ?_
    refine ⟨?_, rfl⟩
    first
      | (rw [if_pos h1]; done)
      | (rw [if_neg h1]; done)

set_option maxRecDepth 100000 in
set_option maxHeartbeats 4000000 in
theorem sp_X10_c (l : Launch) (G : GT) (c : Nat) (M : Mem)  : MC l G yX10_c cX10_c 1 (some .int) ({ frames := 0, cells := 0, slots := 0, locals := 0 } : Room) [] lk0 [iv (nI c)] (M) (fun r M2 => r = some (iv (nI (c6 c 0))) ∧ M2 = M) := by
  refine MC.of RX10 [some (iv (nI c))] 0 (by decide +kernel) rfl rfl rfl ?_
  intro pp ee ss mm aa bb me cd ad E
  refine r_bipush (v := 15) E (dat dkX10_c 0 rfl) rfl ?_
  refine r_bipush (v := 6) E (dat dkX10_c 1 rfl) rfl ?_
  refine r_iload_n E (dat dkX10_c 2 rfl) rfl rfl ?_
  refine r_imul E (dat dkX10_c 3 rfl) ?_
  refine r_iadd E (dat dkX10_c 4 rfl) ?_
  refine r_ireturn E (dat dkX10_c 5 rfl) (by decide) (by decide) ?_
  refine ⟨?_, rfl⟩
  rw [show (15 : Int32) = nI 15 from rfl, show (6 : Int32) = nI 6 from rfl, pk_mul, nI_add]; rfl

set_option maxRecDepth 100000 in
set_option maxHeartbeats 4000000 in
theorem sp_X10_p (l : Launch) (G : GT) (c : Nat) (M : Mem)  : MC l G yX10_p cX10_p 1 (some .int) ({ frames := 0, cells := 0, slots := 0, locals := 0 } : Room) [] lk0 [iv (nI c)] (M) (fun r M2 => r = some (iv (nI (399 + 11 * c))) ∧ M2 = M) := by
  refine MC.of RX10 [some (iv (nI c))] 0 (by decide +kernel) rfl rfl rfl ?_
  intro pp ee ss mm aa bb me cd ad E
  refine r_sipush (v := 399) E (dat dkX10_p 0 rfl) rfl ?_
  refine r_bipush (v := 11) E (dat dkX10_p 1 rfl) rfl ?_
  refine r_iload_n E (dat dkX10_p 2 rfl) rfl rfl ?_
  refine r_imul E (dat dkX10_p 3 rfl) ?_
  refine r_iadd E (dat dkX10_p 4 rfl) ?_
  refine r_ireturn E (dat dkX10_p 5 rfl) (by decide) (by decide) ?_
  refine ⟨?_, rfl⟩
  rw [show (399 : Int32) = nI 399 from rfl, show (11 : Int32) = nI 11 from rfl, pk_mul, nI_add]

set_option maxRecDepth 100000 in
set_option maxHeartbeats 4000000 in
theorem sp_X10_get (l : Launch) (G : GT) (c f : Nat) (M : Mem) (A : Nat → Int32) (hA : M 0 1 = A) (hc : c < 64) (hf : f < 6) : MC l G yX10_get cX10_get 3 (some .int) ({ frames := 1, cells := 0, slots := 0, locals := 20 } : Room) [9] lk0 [rv 0 0, iv (nI c), iv (nI f)] (M) (fun r M2 => r = some (iv (A (c6 c f))) ∧ M2 = M) := by
  refine MC.of RX10 [some (rv 0 0), some (iv (nI c)), some (iv (nI f))] 0 (by decide +kernel) rfl rfl rfl ?_
  intro pp ee ss mm aa bb me cd ad E
  obtain ⟨M0, rfl⟩ : ∃ M0, M = md M0 A := ⟨M, (md_of hA).symm⟩
  clear hA
  
  refine r_aload_n E (dat dkX10_get 0 rfl) rfl rfl ?_
  refine q_geta E fl_X10_9 (dat dkX10_get 1 rfl) rfl rfl rfl ?_
  refine r_iload_n E (dat dkX10_get 2 rfl) rfl rfl ?_
  refine r_callS (μ := []) E (sp_X10_c l G c _) my_X10_c is_X10_c ml_X10_48 cm_nil rfl rfl (by decide) (Nat.le_of_ble_eq_true rfl) (dat dkX10_get 3 rfl) ?_
  rintro _ _ ⟨rfl, hM⟩
  refine ⟨_, Mrg_z hM, ?_⟩
  clear hM
  refine r_iload_n E (dat dkX10_get 4 rfl) rfl rfl ?_
  refine r_iadd E (dat dkX10_get 5 rfl) ?_
  refine q_iald E (dat dkX10_get 6 rfl) rfl rfl (by decide) md_a (show _ = nI (c6 c f) from nI_add _ _) (by unfold c6; omega) ?_
  refine r_ireturn E (dat dkX10_get 7 rfl) (by decide) (by decide) ?_
  exact ⟨rfl, rfl⟩

set_option maxRecDepth 100000 in
set_option maxHeartbeats 4000000 in
theorem sp_X10_add (l : Launch) (G : GT) (c f : Nat) (v : Int32) (M : Mem) (A : Nat → Int32) (hA : M 0 1 = A) (hc : c < 64) (hf : f < 6) : MC l G yX10_add cX10_add 4 none ({ frames := 1, cells := 0, slots := 0, locals := 20 } : Room) [9] lk0 [rv 0 0, iv (nI c), iv (nI f), iv v] (M) (fun r M2 => r = none ∧ M2 = md M (upd A (c6 c f) (A (c6 c f) + v))) := by
  refine MC.of RX10 [some (rv 0 0), some (iv (nI c)), some (iv (nI f)), some (iv v)] 0 (by decide +kernel) rfl rfl rfl ?_
  intro pp ee ss mm aa bb me cd ad E
  obtain ⟨M0, rfl⟩ : ∃ M0, M = md M0 A := ⟨M, (md_of hA).symm⟩
  clear hA
  
  refine r_aload_n E (dat dkX10_add 0 rfl) rfl rfl ?_
  refine q_geta E fl_X10_9 (dat dkX10_add 1 rfl) rfl rfl rfl ?_
  refine r_iload_n E (dat dkX10_add 2 rfl) rfl rfl ?_
  refine r_callS (μ := []) E (sp_X10_c l G c _) my_X10_c is_X10_c ml_X10_48 cm_nil rfl rfl (by decide) (Nat.le_of_ble_eq_true rfl) (dat dkX10_add 3 rfl) ?_
  rintro _ _ ⟨rfl, hM⟩
  refine ⟨_, Mrg_z hM, ?_⟩
  clear hM
  refine r_iload_n E (dat dkX10_add 4 rfl) rfl rfl ?_
  refine r_iadd E (dat dkX10_add 5 rfl) ?_
  refine r_dup2 E (dat dkX10_add 6 rfl) rfl rfl ?_
  refine q_iald E (dat dkX10_add 7 rfl) rfl rfl (by decide) md_a (show _ = nI (c6 c f) from nI_add _ _) (by unfold c6; omega) ?_
  refine r_iload_n E (dat dkX10_add 8 rfl) rfl rfl ?_
  refine r_iadd E (dat dkX10_add 9 rfl) ?_
  refine q_iast E (dat dkX10_add 10 rfl) rfl rfl (by decide) md_a (fun _ => md_s) (show _ = nI (c6 c f) from nI_add _ _) (by unfold c6; omega) ?_
  refine r_vreturn E (dat dkX10_add 11 rfl) (by decide) (by decide) ?_
  exact ⟨rfl, by rw [md_md]⟩

set_option maxRecDepth 100000 in
set_option maxHeartbeats 4000000 in
theorem sp_X10_cells (l : Launch) (G : GT)  (M : Mem) (A : Nat → Int32) (hA : M 0 1 = A)  : MC l G yX10_cells cX10_cells 1 (some .int) ({ frames := 0, cells := 0, slots := 0, locals := 0 } : Room) [9] lk0 [rv 0 0] (M) (fun r M2 => r = some (iv (A 2 * A 1)) ∧ M2 = M) := by
  refine MC.of RX10 [some (rv 0 0)] 0 (by decide +kernel) rfl rfl rfl ?_
  intro pp ee ss mm aa bb me cd ad E
  obtain ⟨M0, rfl⟩ : ∃ M0, M = md M0 A := ⟨M, (md_of hA).symm⟩
  clear hA
  
  refine r_aload_n E (dat dkX10_cells 0 rfl) rfl rfl ?_
  refine q_geta E fl_X10_9 (dat dkX10_cells 1 rfl) rfl rfl rfl ?_
  refine r_iconst (v := 2) E (dat dkX10_cells 2 rfl) rfl ?_
  refine q_iald E (dat dkX10_cells 3 rfl) rfl rfl (by decide) md_a (show _ = nI 2 from rfl) (by omega) ?_
  refine r_aload_n E (dat dkX10_cells 4 rfl) rfl rfl ?_
  refine q_geta E fl_X10_9 (dat dkX10_cells 5 rfl) rfl rfl rfl ?_
  refine r_iconst (v := 1) E (dat dkX10_cells 6 rfl) rfl ?_
  refine q_iald E (dat dkX10_cells 7 rfl) rfl rfl (by decide) md_a (show _ = nI 1 from rfl) (by omega) ?_
  refine r_imul E (dat dkX10_cells 8 rfl) ?_
  refine r_ireturn E (dat dkX10_cells 9 rfl) (by decide) (by decide) ?_
  exact ⟨rfl, rfl⟩
