/-! changes of a state, in the reference -/
theorem sT_1 {T : Nat → Nat → Int32} {c : Nat} {v : Int32} : sc T 1 c v = (vS T (T 0 7) (T 0 8) (T 0 9) (T 0 10) (T 0 11) (T 0 12) (T 0 13) (T 0 14) (upd (T 1) c v) (T 2) (T 3) (T 4) (T 5) (T 6) (T 7)) := by
  have h := paS_1 (B := T) (a7 := T 0 7) (a8 := T 0 8) (a9 := T 0 9) (a10 := T 0 10) (a11 := T 0 11) (a12 := T 0 12) (a13 := T 0 13) (a14 := T 0 14) (b1 := T 1) (b2 := T 2) (b3 := T 3) (b4 := T 4) (b5 := T 5) (b6 := T 6) (b7 := T 7) (x := upd (T 1) c v)
  rw [evS T] at h
  exact h
theorem sT_2 {T : Nat → Nat → Int32} {c : Nat} {v : Int32} : sc T 2 c v = (vS T (T 0 7) (T 0 8) (T 0 9) (T 0 10) (T 0 11) (T 0 12) (T 0 13) (T 0 14) (T 1) (upd (T 2) c v) (T 3) (T 4) (T 5) (T 6) (T 7)) := by
  have h := paS_2 (B := T) (a7 := T 0 7) (a8 := T 0 8) (a9 := T 0 9) (a10 := T 0 10) (a11 := T 0 11) (a12 := T 0 12) (a13 := T 0 13) (a14 := T 0 14) (b1 := T 1) (b2 := T 2) (b3 := T 3) (b4 := T 4) (b5 := T 5) (b6 := T 6) (b7 := T 7) (x := upd (T 2) c v)
  rw [evS T] at h
  exact h
theorem sT_3 {T : Nat → Nat → Int32} {c : Nat} {v : Int32} : sc T 3 c v = (vS T (T 0 7) (T 0 8) (T 0 9) (T 0 10) (T 0 11) (T 0 12) (T 0 13) (T 0 14) (T 1) (T 2) (upd (T 3) c v) (T 4) (T 5) (T 6) (T 7)) := by
  have h := paS_3 (B := T) (a7 := T 0 7) (a8 := T 0 8) (a9 := T 0 9) (a10 := T 0 10) (a11 := T 0 11) (a12 := T 0 12) (a13 := T 0 13) (a14 := T 0 14) (b1 := T 1) (b2 := T 2) (b3 := T 3) (b4 := T 4) (b5 := T 5) (b6 := T 6) (b7 := T 7) (x := upd (T 3) c v)
  rw [evS T] at h
  exact h
theorem sT_4 {T : Nat → Nat → Int32} {c : Nat} {v : Int32} : sc T 4 c v = (vS T (T 0 7) (T 0 8) (T 0 9) (T 0 10) (T 0 11) (T 0 12) (T 0 13) (T 0 14) (T 1) (T 2) (T 3) (upd (T 4) c v) (T 5) (T 6) (T 7)) := by
  have h := paS_4 (B := T) (a7 := T 0 7) (a8 := T 0 8) (a9 := T 0 9) (a10 := T 0 10) (a11 := T 0 11) (a12 := T 0 12) (a13 := T 0 13) (a14 := T 0 14) (b1 := T 1) (b2 := T 2) (b3 := T 3) (b4 := T 4) (b5 := T 5) (b6 := T 6) (b7 := T 7) (x := upd (T 4) c v)
  rw [evS T] at h
  exact h
theorem sT_5 {T : Nat → Nat → Int32} {c : Nat} {v : Int32} : sc T 5 c v = (vS T (T 0 7) (T 0 8) (T 0 9) (T 0 10) (T 0 11) (T 0 12) (T 0 13) (T 0 14) (T 1) (T 2) (T 3) (T 4) (upd (T 5) c v) (T 6) (T 7)) := by
  have h := paS_5 (B := T) (a7 := T 0 7) (a8 := T 0 8) (a9 := T 0 9) (a10 := T 0 10) (a11 := T 0 11) (a12 := T 0 12) (a13 := T 0 13) (a14 := T 0 14) (b1 := T 1) (b2 := T 2) (b3 := T 3) (b4 := T 4) (b5 := T 5) (b6 := T 6) (b7 := T 7) (x := upd (T 5) c v)
  rw [evS T] at h
  exact h
theorem sT_6 {T : Nat → Nat → Int32} {c : Nat} {v : Int32} : sc T 6 c v = (vS T (T 0 7) (T 0 8) (T 0 9) (T 0 10) (T 0 11) (T 0 12) (T 0 13) (T 0 14) (T 1) (T 2) (T 3) (T 4) (T 5) (upd (T 6) c v) (T 7)) := by
  have h := paS_6 (B := T) (a7 := T 0 7) (a8 := T 0 8) (a9 := T 0 9) (a10 := T 0 10) (a11 := T 0 11) (a12 := T 0 12) (a13 := T 0 13) (a14 := T 0 14) (b1 := T 1) (b2 := T 2) (b3 := T 3) (b4 := T 4) (b5 := T 5) (b6 := T 6) (b7 := T 7) (x := upd (T 6) c v)
  rw [evS T] at h
  exact h
theorem sT_7 {T : Nat → Nat → Int32} {c : Nat} {v : Int32} : sc T 7 c v = (vS T (T 0 7) (T 0 8) (T 0 9) (T 0 10) (T 0 11) (T 0 12) (T 0 13) (T 0 14) (T 1) (T 2) (T 3) (T 4) (T 5) (T 6) (upd (T 7) c v)) := by
  have h := paS_7 (B := T) (a7 := T 0 7) (a8 := T 0 8) (a9 := T 0 9) (a10 := T 0 10) (a11 := T 0 11) (a12 := T 0 12) (a13 := T 0 13) (a14 := T 0 14) (b1 := T 1) (b2 := T 2) (b3 := T 3) (b4 := T 4) (b5 := T 5) (b6 := T 6) (b7 := T 7) (x := upd (T 7) c v)
  rw [evS T] at h
  exact h
theorem sF_8 {T : Nat → Nat → Int32} {v : Int32} : sc T 0 8 v = (vS T (T 0 7) (v) (T 0 9) (T 0 10) (T 0 11) (T 0 12) (T 0 13) (T 0 14) (T 1) (T 2) (T 3) (T 4) (T 5) (T 6) (T 7)) := by
  have h := pfS_8 (B := T) (a7 := T 0 7) (a8 := T 0 8) (a9 := T 0 9) (a10 := T 0 10) (a11 := T 0 11) (a12 := T 0 12) (a13 := T 0 13) (a14 := T 0 14) (b1 := T 1) (b2 := T 2) (b3 := T 3) (b4 := T 4) (b5 := T 5) (b6 := T 6) (b7 := T 7) (x := v)
  rw [evS T] at h
  exact h
theorem sF_9 {T : Nat → Nat → Int32} {v : Int32} : sc T 0 9 v = (vS T (T 0 7) (T 0 8) (v) (T 0 10) (T 0 11) (T 0 12) (T 0 13) (T 0 14) (T 1) (T 2) (T 3) (T 4) (T 5) (T 6) (T 7)) := by
  have h := pfS_9 (B := T) (a7 := T 0 7) (a8 := T 0 8) (a9 := T 0 9) (a10 := T 0 10) (a11 := T 0 11) (a12 := T 0 12) (a13 := T 0 13) (a14 := T 0 14) (b1 := T 1) (b2 := T 2) (b3 := T 3) (b4 := T 4) (b5 := T 5) (b6 := T 6) (b7 := T 7) (x := v)
  rw [evS T] at h
  exact h
theorem sF_10 {T : Nat → Nat → Int32} {v : Int32} : sc T 0 10 v = (vS T (T 0 7) (T 0 8) (T 0 9) (v) (T 0 11) (T 0 12) (T 0 13) (T 0 14) (T 1) (T 2) (T 3) (T 4) (T 5) (T 6) (T 7)) := by
  have h := pfS_10 (B := T) (a7 := T 0 7) (a8 := T 0 8) (a9 := T 0 9) (a10 := T 0 10) (a11 := T 0 11) (a12 := T 0 12) (a13 := T 0 13) (a14 := T 0 14) (b1 := T 1) (b2 := T 2) (b3 := T 3) (b4 := T 4) (b5 := T 5) (b6 := T 6) (b7 := T 7) (x := v)
  rw [evS T] at h
  exact h
theorem sF_11 {T : Nat → Nat → Int32} {v : Int32} : sc T 0 11 v = (vS T (T 0 7) (T 0 8) (T 0 9) (T 0 10) (v) (T 0 12) (T 0 13) (T 0 14) (T 1) (T 2) (T 3) (T 4) (T 5) (T 6) (T 7)) := by
  have h := pfS_11 (B := T) (a7 := T 0 7) (a8 := T 0 8) (a9 := T 0 9) (a10 := T 0 10) (a11 := T 0 11) (a12 := T 0 12) (a13 := T 0 13) (a14 := T 0 14) (b1 := T 1) (b2 := T 2) (b3 := T 3) (b4 := T 4) (b5 := T 5) (b6 := T 6) (b7 := T 7) (x := v)
  rw [evS T] at h
  exact h
theorem sF_12 {T : Nat → Nat → Int32} {v : Int32} : sc T 0 12 v = (vS T (T 0 7) (T 0 8) (T 0 9) (T 0 10) (T 0 11) (v) (T 0 13) (T 0 14) (T 1) (T 2) (T 3) (T 4) (T 5) (T 6) (T 7)) := by
  have h := pfS_12 (B := T) (a7 := T 0 7) (a8 := T 0 8) (a9 := T 0 9) (a10 := T 0 10) (a11 := T 0 11) (a12 := T 0 12) (a13 := T 0 13) (a14 := T 0 14) (b1 := T 1) (b2 := T 2) (b3 := T 3) (b4 := T 4) (b5 := T 5) (b6 := T 6) (b7 := T 7) (x := v)
  rw [evS T] at h
  exact h
theorem sF_13 {T : Nat → Nat → Int32} {v : Int32} : sc T 0 13 v = (vS T (T 0 7) (T 0 8) (T 0 9) (T 0 10) (T 0 11) (T 0 12) (v) (T 0 14) (T 1) (T 2) (T 3) (T 4) (T 5) (T 6) (T 7)) := by
  have h := pfS_13 (B := T) (a7 := T 0 7) (a8 := T 0 8) (a9 := T 0 9) (a10 := T 0 10) (a11 := T 0 11) (a12 := T 0 12) (a13 := T 0 13) (a14 := T 0 14) (b1 := T 1) (b2 := T 2) (b3 := T 3) (b4 := T 4) (b5 := T 5) (b6 := T 6) (b7 := T 7) (x := v)
  rw [evS T] at h
  exact h
theorem sF_14 {T : Nat → Nat → Int32} {v : Int32} : sc T 0 14 v = (vS T (T 0 7) (T 0 8) (T 0 9) (T 0 10) (T 0 11) (T 0 12) (T 0 13) (v) (T 1) (T 2) (T 3) (T 4) (T 5) (T 6) (T 7)) := by
  have h := pfS_14 (B := T) (a7 := T 0 7) (a8 := T 0 8) (a9 := T 0 9) (a10 := T 0 10) (a11 := T 0 11) (a12 := T 0 12) (a13 := T 0 13) (a14 := T 0 14) (b1 := T 1) (b2 := T 2) (b3 := T 3) (b4 := T 4) (b5 := T 5) (b6 := T 6) (b7 := T 7) (x := v)
  rw [evS T] at h
  exact h
theorem op_sc {T : Nat → Nat → Int32} {c : Nat} {u v : Int32} : sc (sc T 3 c u) 4 c v = opT T c u v := (congrArg (fun W => sc W 4 c v) sT_3).trans paS_4
theorem sh_sc {T : Nat → Nat → Int32} {c : Nat} : sc (sc T 3 c 0) 4 c 0 = shT T c := op_sc
theorem lv_sc {T : Nat → Nat → Int32} {c : Nat} {v : Int32} : sc (sc T 2 c (T 2 c + v)) 0 13 (T 0 13 + v) = lvT T c v := (congrArg (fun W => sc W 0 13 (T 0 13 + v)) sT_2).trans pfS_13
theorem sw_sc {T : Nat → Nat → Int32} {c : Nat} : sc (sc T 2 c 0) 0 14 (T 0 14 + T 2 c) = swT T c := (congrArg (fun W => sc W 0 14 (T 0 14 + T 2 c)) sT_2).trans pfS_14
theorem wk_sc {x : PP} {T : Nat → Nat → Int32} {b j : Nat} : soC x (sc T 5 b (nI j)) b j = wkT x.2.2.2.2.2.2.2.1 T b j := by
  unfold soC wkT
  by_cases h : x.2.2.2.2.2.2.2.1 b < T 1 j
  · refine (if_pos h).trans ?_
    rw [if_pos h]
    exact (congrArg (fun W => sc W 7 b 1) sT_5).trans paS_7
  · refine (if_neg h).trans ?_
    rw [if_neg h]
    exact sT_5
/-- another row of water -/
def sw1 (T : Nat → Nat → Int32) (w : Nat → Int32) : Nat → Nat → Int32 := sett T 1 w
theorem sw1_sc {T : Nat → Nat → Int32} {w : Nat → Int32} {o : Nat} {v : Int32} : sc (sw1 T w) 1 o v = sw1 T (upd w o v) := sett_sett
theorem sw1_0 {T : Nat → Nat → Int32} : sw1 T (T 1) = T := by
  funext t
  unfold sw1 sett
  split
  · rename_i h; rw [h]
  · rfl
theorem sw1_v {T : Nat → Nat → Int32} {w : Nat → Int32} : sw1 T w = (vS T (T 0 7) (T 0 8) (T 0 9) (T 0 10) (T 0 11) (T 0 12) (T 0 13) (T 0 14) (w) (T 2) (T 3) (T 4) (T 5) (T 6) (T 7)) := by
  have h := paS_1 (B := T) (a7 := T 0 7) (a8 := T 0 8) (a9 := T 0 9) (a10 := T 0 10) (a11 := T 0 11) (a12 := T 0 12) (a13 := T 0 13) (a14 := T 0 14) (b1 := T 1) (b2 := T 2) (b3 := T 3) (b4 := T 4) (b5 := T 5) (b6 := T 6) (b7 := T 7) (x := w)
  rw [evS T] at h
  exact h
theorem th_sc {x : PP} {T : Nat → Nat → Int32} {b f : Nat} : sc (sw1 T (upd (thW (nbx x) f (T 1 f / 5) (T 1) 4).1 f ((thW (nbx x) f (T 1 f / 5) (T 1) 4).1 f + -(thW (nbx x) f (T 1 f / 5) (T 1) 4).2))) 6 b (T 6 b + 1) = thT x T b f := by
  rw [← Int32.sub_eq_add_neg]
  exact (congrArg (fun W => sc W 6 b (T 6 b + 1)) sw1_v).trans paS_6
theorem i32_tel (a b c : Int32) : a - b + (c - a) = c - b := by
  rw [Int32.sub_eq_add_neg c a, ← Int32.add_assoc, i32_sa, Int32.sub_eq_add_neg (a + c) b, Int32.add_comm a c, Int32.add_assoc c a, Int32.add_comm a (-b), ← Int32.add_assoc c, Int32.add_assoc (c + -b), Int32.add_right_neg, Int32.add_zero, ← Int32.sub_eq_add_neg]
set_option maxRecDepth 100000 in
set_option maxHeartbeats 4000000 in
theorem sp_X10_letPass (l : Launch) (G : GT) (A0 : Nat → Int32) (x : PP) (T : Nat → Nat → Int32) (t : Nat) (B : Int) (M : Mem) (hA : M 0 1 = enc A0 x T) (hx : PIv x) (hv : PVi x) (hpl : PLi x T) (hs : SI x T B) (hB : B + 1856 * t < 2147483648) (ht : t ≤ 999) : MC l G yX10_letPass cX10_letPass 4 (some .int) ({ frames := 7, cells := 0, slots := 0, locals := 154 } : Room) [9] lk0 [rv 0 0, iv (nI t)] (M) (fun r M2 => r = some (iv (mnX x T t 0 11 - T 0 11)) ∧ M2 = md M (enc A0 x (mnX x T t))) := by
  refine MC.of RX10 [some (rv 0 0), some (iv (nI t)), none, none] 2 (by decide +kernel) rfl rfl rfl ?_
  intro pp ee ss mm aa bb me cd ad E
  obtain ⟨M0, rfl⟩ : ∃ M0, M = md M0 (enc A0 x T) := ⟨M, (md_of hA).symm⟩
  clear hA
  have hn64 := (PIv_z hx).1
  
  refine r_iconst (v := 0) E (dat dkX10_letPass 0 rfl) rfl ?_
  refine r_istore_2 E (dat dkX10_letPass 1 rfl) rfl rfl ?_
  refine r_iconst (v := 0) E (dat dkX10_letPass 2 rfl) rfl ?_
  refine r_istore_3 E (dat dkX10_letPass 3 rfl) rfl rfl ?_
  refine r_for (t) (fun _ => True) (fun i => md M0 (enc A0 x (mnX x T i))) (fun i => [some (rv 0 0), some (iv (nI t)), some (iv (mnX x T i 0 11 - T 0 11)), some (iv (nI i))]) trivial rfl (by rw [show mnX x T 0 = T from rfl, Int32.sub_self]; rfl) ?_ ?_
  · intro i hi hI kk
    refine r_iload_n E (dat dkX10_letPass 4 rfl) rfl rfl ?_
    refine r_iload_n E (dat dkX10_letPass 5 rfl) rfl rfl ?_
    refine q_icmp_ge (tgt := 22) E (dat dkX10_letPass 6 rfl) rfl rfl rfl (by omega) (by omega) (fun h6 => ?_) (fun h6 => ?_)
    ·
      omega
    ·
      refine r_iload_n E (dat dkX10_letPass 7 rfl) rfl rfl ?_
      refine r_aload_n E (dat dkX10_letPass 8 rfl) rfl rfl ?_
      refine r_callV (κ := 9) (μ := []) E (sp_X10_letMinutePass l G A0 x (mnX x T i) _ md_a hx hv (by intro b hb; rw [show mnX x T i 5 = T 5 from mnN_5 i]; exact hpl b hb)) my_X10_letMinutePass iv_X10_letMinutePass ml_X10_138 cm_id ⟨by decide, rfl, rfl⟩ rfl rfl rfl rfl (by decide) (Nat.le_of_ble_eq_true rfl) (dat dkX10_letPass 9 rfl) ?_
      rintro _ _ ⟨rfl, rfl⟩
      refine ⟨_, Mrg_md (by decide) rfl, ?_⟩
      have hmm := mm_n hx hv hs hpl i (by omega)
      rw [hmm.1, hmm.2]
      refine r_iadd E (dat dkX10_letPass 10 rfl) ?_
      refine r_istore_2 E (dat dkX10_letPass 11 rfl) rfl rfl ?_
      refine q_iinc_3 E (dat dkX10_letPass 12 rfl) rfl rfl ?_
      refine r_goto (tgt := 4) E (dat dkX10_letPass 13 rfl) rfl ?_
      rw [i32_tel]
      exact kk trivial
  · intro hI
    refine r_iload_n E (dat dkX10_letPass 4 rfl) rfl rfl ?_
    refine r_iload_n E (dat dkX10_letPass 5 rfl) rfl rfl ?_
    refine q_icmp_ge (tgt := 22) E (dat dkX10_letPass 6 rfl) rfl rfl rfl (by omega) (by omega) (fun h6 => ?_) (fun h6 => ?_)
    ·
      refine r_iload_n E (dat dkX10_letPass 14 rfl) rfl rfl ?_
      refine r_ireturn E (dat dkX10_letPass 15 rfl) (by decide) (by decide) ?_
      exact ⟨rfl, by rw [md_md]⟩
    ·
      omega

set_option maxRecDepth 100000 in
set_option maxHeartbeats 4000000 in
theorem sp_X10_canPass (l : Launch) (G : GT) (A0 : Nat → Int32) (x : PP) (T : Nat → Nat → Int32) (a : Int32) (M : Mem) (hA : M 0 1 = enc A0 x T) (hx : PIv x)  : MC l G yX10_canPass cX10_canPass 2 (some .boolean) ({ frames := 0, cells := 0, slots := 0, locals := 0 } : Room) [9] lk0 [rv 0 0, iv a] (M) (fun r M2 => r = some (iv (if 999 < T 0 7 + a then 0 else 1)) ∧ M2 = M) := by
  refine MC.of RX10 [some (rv 0 0), some (iv a)] 0 (by decide +kernel) rfl rfl rfl ?_
  intro pp ee ss mm aa bb me cd ad E
  obtain ⟨M0, rfl⟩ : ∃ M0, M = md M0 (enc A0 x T) := ⟨M, (md_of hA).symm⟩
  clear hA
  have hn64 := (PIv_z hx).1
  
  refine r_aload_n E (dat dkX10_canPass 0 rfl) rfl rfl ?_
  refine q_geta E fl_X10_9 (dat dkX10_canPass 1 rfl) rfl rfl rfl ?_
  refine r_iconst (v := 0) E (dat dkX10_canPass 2 rfl) rfl ?_
  refine q_iald E (dat dkX10_canPass 3 rfl) rfl rfl (by decide) md_a (show _ = nI 0 from rfl) (by omega) ?_
  refine r_iload_n E (dat dkX10_canPass 4 rfl) rfl rfl ?_
  refine r_iadd E (dat dkX10_canPass 5 rfl) ?_
  refine r_sipush (v := 999) E (dat dkX10_canPass 6 rfl) rfl ?_
  refine r_icmp_gt (tgt := 18) E (dat dkX10_canPass 7 rfl) rfl (fun h11 => ?_) (fun h11 => ?_)
  ·
    refine r_iconst (v := 0) E (dat dkX10_canPass 10 rfl) rfl ?_
    refine r_zreturn E (dat dkX10_canPass 11 rfl) rfl (by decide) (by decide) ?_
    refine ⟨?_, rfl⟩
    first
      | (rw [if_pos (show 999 < T 0 7 + a from h11)]; done)
      | (rw [if_neg (show ¬ 999 < T 0 7 + a from by first | exact h11 | exact Int32.not_lt.mpr h11)]; done)
  ·
    refine r_iconst (v := 1) E (dat dkX10_canPass 8 rfl) rfl ?_
    refine r_goto (tgt := 19) E (dat dkX10_canPass 9 rfl) rfl ?_
    refine r_zreturn E (dat dkX10_canPass 11 rfl) rfl (by decide) (by decide) ?_
    refine ⟨?_, rfl⟩
    first
      | (rw [if_pos (show 999 < T 0 7 + a from h11)]; done)
      | (rw [if_neg (show ¬ 999 < T 0 7 + a from by first | exact h11 | exact Int32.not_lt.mpr h11)]; done)

set_option maxRecDepth 100000 in
set_option maxHeartbeats 4000000 in
theorem sp_X10_changeRain (l : Launch) (G : GT) (A0 : Nat → Int32) (x : PP) (T : Nat → Nat → Int32) (a : Int32) (M : Mem) (hA : M 0 1 = enc A0 x T) (hx : PIv x)  : MC l G yX10_changeRain cX10_changeRain 3 (some .int) ({ frames := 0, cells := 0, slots := 0, locals := 0 } : Room) [9] lk0 [rv 0 0, iv a] (M) (fun r M2 => r = some (iv (T 0 8)) ∧ M2 = md M (enc A0 x (raT T a))) := by
  refine MC.of RX10 [some (rv 0 0), some (iv a), none] 1 (by decide +kernel) rfl rfl rfl ?_
  intro pp ee ss mm aa bb me cd ad E
  obtain ⟨M0, rfl⟩ : ∃ M0, M = md M0 (enc A0 x T) := ⟨M, (md_of hA).symm⟩
  clear hA
  have hn64 := (PIv_z hx).1
  
  refine r_aload_n E (dat dkX10_changeRain 0 rfl) rfl rfl ?_
  refine q_geta E fl_X10_9 (dat dkX10_changeRain 1 rfl) rfl rfl rfl ?_
  refine r_iconst (v := 3) E (dat dkX10_changeRain 2 rfl) rfl ?_
  refine q_iald E (dat dkX10_changeRain 3 rfl) rfl rfl (by decide) md_a (show _ = nI 3 from rfl) (by omega) ?_
  refine r_istore_2 E (dat dkX10_changeRain 4 rfl) rfl rfl ?_
  refine r_aload_n E (dat dkX10_changeRain 5 rfl) rfl rfl ?_
  refine q_geta E fl_X10_9 (dat dkX10_changeRain 6 rfl) rfl rfl rfl ?_
  refine r_iconst (v := 3) E (dat dkX10_changeRain 7 rfl) rfl ?_
  refine r_iload_n E (dat dkX10_changeRain 8 rfl) rfl rfl ?_
  refine q_iast E (dat dkX10_changeRain 9 rfl) rfl rfl (by decide) md_a (fun _ => md_s) (show _ = nI 3 from rfl) (by omega) ?_
  refine r_iload_n E (dat dkX10_changeRain 10 rfl) rfl rfl ?_
  refine r_ireturn E (dat dkX10_changeRain 11 rfl) (by decide) (by decide) ?_
  exact ⟨rfl, by rw [md_md, u_ra]; exact congrArg _ (congrArg _ raT_eq)⟩

set_option maxRecDepth 100000 in
set_option maxHeartbeats 4000000 in
theorem sp_X10_countHydrants (l : Launch) (G : GT) (A0 : Nat → Int32) (x : PP) (T : Nat → Nat → Int32)  (M : Mem) (hA : M 0 1 = enc A0 x T) (hx : PIv x)  : MC l G yX10_countHydrants cX10_countHydrants 3 (some .int) ({ frames := 2, cells := 0, slots := 0, locals := 42 } : Room) [9] lk0 [rv 0 0] (M) (fun r M2 => r = some (iv (sm (cO (T 4)) x.1.2.2)) ∧ M2 = M) := by
  refine MC.of RX10 [some (rv 0 0), none, none] 2 (by decide +kernel) rfl rfl rfl ?_
  intro pp ee ss mm aa bb me cd ad E
  obtain ⟨M0, rfl⟩ : ∃ M0, M = md M0 (enc A0 x T) := ⟨M, (md_of hA).symm⟩
  clear hA
  have hn64 := (PIv_z hx).1
  
  refine r_iconst (v := 0) E (dat dkX10_countHydrants 0 rfl) rfl ?_
  refine r_istore_1 E (dat dkX10_countHydrants 1 rfl) rfl rfl ?_
  refine r_iconst (v := 0) E (dat dkX10_countHydrants 2 rfl) rfl ?_
  refine r_istore_2 E (dat dkX10_countHydrants 3 rfl) rfl rfl ?_
  refine r_for (x.1.2.2) (fun _ => True) (fun i => md M0 (enc A0 x T)) (fun i => [some (rv 0 0), some (iv (sm (cO (T 4)) i)), some (iv (nI i))]) trivial rfl rfl ?_ ?_
  · intro i hi hI kk
    refine r_iload_n E (dat dkX10_countHydrants 4 rfl) rfl rfl ?_
    refine r_aload_n E (dat dkX10_countHydrants 5 rfl) rfl rfl ?_
    refine r_callV (κ := 9) (μ := []) E (sp_X10_cells l G _ _ md_a) my_X10_cells iv_X10_cells ml_X10_115 cm_id ⟨by decide, rfl, rfl⟩ rfl rfl rfl rfl (by decide) (Nat.le_of_ble_eq_true rfl) (dat dkX10_countHydrants 6 rfl) ?_
    rintro _ _ ⟨rfl, rfl⟩
    refine ⟨_, Mrg_z rfl, ?_⟩
    rw [ce_x hx]
    refine q_icmp_ge (tgt := 38) E (dat dkX10_countHydrants 7 rfl) rfl rfl rfl (by omega) (by omega) (fun h9 => ?_) (fun h9 => ?_)
    ·
      omega
    ·
      refine r_iload_n E (dat dkX10_countHydrants 8 rfl) rfl rfl ?_
      refine r_aload_n E (dat dkX10_countHydrants 9 rfl) rfl rfl ?_
      refine r_iload_n E (dat dkX10_countHydrants 10 rfl) rfl rfl ?_
      refine r_iconst (v := 5) E (dat dkX10_countHydrants 11 rfl) rfl ?_
      refine r_callV (κ := 9) (μ := []) E (sp_X10_get l G i 5 _ _ md_a (by omega) (by decide)) my_X10_get iv_X10_get ml_X10_76 cm_id ⟨by decide, rfl, rfl⟩ rfl rfl rfl rfl (by decide) (Nat.le_of_ble_eq_true rfl) (dat dkX10_countHydrants 12 rfl) ?_
      rintro _ _ ⟨rfl, rfl⟩
      refine ⟨_, Mrg_z rfl, ?_⟩
      rw [e_t hi hn64]
      refine r_if_le (tgt := 26) E (dat dkX10_countHydrants 13 rfl) rfl (fun h19 => ?_) (fun h19 => ?_)
      ·
        refine r_iconst (v := 0) E (dat dkX10_countHydrants 16 rfl) rfl ?_
        refine r_callS (μ := []) E (sp_X10_one l G _ _) my_X10_one is_X10_one ml_X10_141 cm_nil rfl rfl (by decide) (Nat.le_of_ble_eq_true rfl) (dat dkX10_countHydrants 17 rfl) ?_
        rintro _ _ ⟨rfl, hM⟩
        refine ⟨_, Mrg_z hM, ?_⟩
        clear hM
        refine r_iadd E (dat dkX10_countHydrants 18 rfl) ?_
        refine r_istore_1 E (dat dkX10_countHydrants 19 rfl) rfl rfl ?_
        refine q_iinc_2 E (dat dkX10_countHydrants 20 rfl) rfl rfl ?_
        refine r_goto (tgt := 4) E (dat dkX10_countHydrants 21 rfl) rfl ?_
        rw [show sm (cO (T 4)) (i + 1) = sm (cO (T 4)) i + cO (T 4) i from rfl] at kk
        first
          | (rw [show cO (T 4) i = 0 from if_pos h19] at kk; exact kk trivial)
          | (rw [show cO (T 4) i = 1 from if_neg (by first | exact h19 | exact Int32.not_le.mpr h19)] at kk; exact kk trivial)
      ·
        refine r_iconst (v := 1) E (dat dkX10_countHydrants 14 rfl) rfl ?_
        refine r_goto (tgt := 27) E (dat dkX10_countHydrants 15 rfl) rfl ?_
        refine r_callS (μ := []) E (sp_X10_one l G _ _) my_X10_one is_X10_one ml_X10_141 cm_nil rfl rfl (by decide) (Nat.le_of_ble_eq_true rfl) (dat dkX10_countHydrants 17 rfl) ?_
        rintro _ _ ⟨rfl, hM⟩
        refine ⟨_, Mrg_z hM, ?_⟩
        clear hM
        refine r_iadd E (dat dkX10_countHydrants 18 rfl) ?_
        refine r_istore_1 E (dat dkX10_countHydrants 19 rfl) rfl rfl ?_
        refine q_iinc_2 E (dat dkX10_countHydrants 20 rfl) rfl rfl ?_
        refine r_goto (tgt := 4) E (dat dkX10_countHydrants 21 rfl) rfl ?_
        rw [show sm (cO (T 4)) (i + 1) = sm (cO (T 4)) i + cO (T 4) i from rfl] at kk
        first
          | (rw [show cO (T 4) i = 0 from if_pos h19] at kk; exact kk trivial)
          | (rw [show cO (T 4) i = 1 from if_neg (by first | exact h19 | exact Int32.not_le.mpr h19)] at kk; exact kk trivial)
  · intro hI
    refine r_iload_n E (dat dkX10_countHydrants 4 rfl) rfl rfl ?_
    refine r_aload_n E (dat dkX10_countHydrants 5 rfl) rfl rfl ?_
    refine r_callV (κ := 9) (μ := []) E (sp_X10_cells l G _ _ md_a) my_X10_cells iv_X10_cells ml_X10_115 cm_id ⟨by decide, rfl, rfl⟩ rfl rfl rfl rfl (by decide) (Nat.le_of_ble_eq_true rfl) (dat dkX10_countHydrants 6 rfl) ?_
    rintro _ _ ⟨rfl, rfl⟩
    refine ⟨_, Mrg_z rfl, ?_⟩
    rw [ce_x hx]
    refine q_icmp_ge (tgt := 38) E (dat dkX10_countHydrants 7 rfl) rfl rfl rfl (by omega) (by omega) (fun h9 => ?_) (fun h9 => ?_)
    ·
      refine r_iload_n E (dat dkX10_countHydrants 22 rfl) rfl rfl ?_
      refine r_ireturn E (dat dkX10_countHydrants 23 rfl) (by decide) (by decide) ?_
      exact ⟨rfl, rfl⟩
    ·
      omega

set_option maxRecDepth 100000 in
set_option maxHeartbeats 4000000 in
theorem sp_X10_openHydrant (l : Launch) (G : GT) (A0 : Nat → Int32) (x : PP) (T : Nat → Nat → Int32) (c : Nat) (a b : Int32) (M : Mem) (hA : M 0 1 = enc A0 x T) (hx : PIv x) (hc : c < x.1.2.2) : MC l G yX10_openHydrant cX10_openHydrant 4 (some .int) ({ frames := 3, cells := 0, slots := 0, locals := 64 } : Room) [9] lk0 [rv 0 0, iv (nI c), iv a, iv b] (M) (fun r M2 => r = some (iv (sm (cO (opT T c a b 4)) x.1.2.2)) ∧ M2 = md M (enc A0 x (opT T c a b))) := by
  refine MC.of RX10 [some (rv 0 0), some (iv (nI c)), some (iv a), some (iv b)] 0 (by decide +kernel) rfl rfl rfl ?_
  intro pp ee ss mm aa bb me cd ad E
  obtain ⟨M0, rfl⟩ : ∃ M0, M = md M0 (enc A0 x T) := ⟨M, (md_of hA).symm⟩
  clear hA
  have hn64 := (PIv_z hx).1
  
  refine r_aload_n E (dat dkX10_openHydrant 0 rfl) rfl rfl ?_
  refine q_geta E fl_X10_9 (dat dkX10_openHydrant 1 rfl) rfl rfl rfl ?_
  refine r_iload_n E (dat dkX10_openHydrant 2 rfl) rfl rfl ?_
  refine r_callS (μ := []) E (sp_X10_c l G c _) my_X10_c is_X10_c ml_X10_48 cm_nil rfl rfl (by decide) (Nat.le_of_ble_eq_true rfl) (dat dkX10_openHydrant 3 rfl) ?_
  rintro _ _ ⟨rfl, hM⟩
  refine ⟨_, Mrg_z hM, ?_⟩
  clear hM
  refine r_iconst (v := 4) E (dat dkX10_openHydrant 4 rfl) rfl ?_
  refine r_iadd E (dat dkX10_openHydrant 5 rfl) ?_
  refine r_iload_n E (dat dkX10_openHydrant 6 rfl) rfl rfl ?_
  refine q_iast E (dat dkX10_openHydrant 7 rfl) rfl rfl (by decide) md_a (fun _ => md_s) (show _ = nI (c6 c 4) from nI_add _ _) (by unfold c6; omega) ?_
  refine r_aload_n E (dat dkX10_openHydrant 8 rfl) rfl rfl ?_
  refine q_geta E fl_X10_9 (dat dkX10_openHydrant 9 rfl) rfl rfl rfl ?_
  refine r_iload_n E (dat dkX10_openHydrant 10 rfl) rfl rfl ?_
  refine r_callS (μ := []) E (sp_X10_c l G c _) my_X10_c is_X10_c ml_X10_48 cm_nil rfl rfl (by decide) (Nat.le_of_ble_eq_true rfl) (dat dkX10_openHydrant 11 rfl) ?_
  rintro _ _ ⟨rfl, hM⟩
  refine ⟨_, Mrg_z hM, ?_⟩
  clear hM
  refine r_iconst (v := 5) E (dat dkX10_openHydrant 12 rfl) rfl ?_
  refine r_iadd E (dat dkX10_openHydrant 13 rfl) ?_
  refine r_iload_n E (dat dkX10_openHydrant 14 rfl) rfl rfl ?_
  refine q_iast E (dat dkX10_openHydrant 15 rfl) rfl rfl (by decide) md_a (fun _ => md_s) (show _ = nI (c6 c 5) from nI_add _ _) (by unfold c6; omega) ?_
  rw [u_r hc hn64, u_t hc hn64, op_sc]
  refine r_aload_n E (dat dkX10_openHydrant 16 rfl) rfl rfl ?_
  refine r_callV (κ := 9) (μ := []) E (sp_X10_countHydrants l G A0 x (opT T c a b) _ md_a hx) my_X10_countHydrants iv_X10_countHydrants ml_X10_145 cm_id ⟨by decide, rfl, rfl⟩ rfl rfl rfl rfl (by decide) (Nat.le_of_ble_eq_true rfl) (dat dkX10_openHydrant 17 rfl) ?_
  rintro _ _ ⟨rfl, rfl⟩
  refine ⟨_, Mrg_z rfl, ?_⟩
  refine r_ireturn E (dat dkX10_openHydrant 18 rfl) (by decide) (by decide) ?_
  exact ⟨rfl, by rw [md_md]⟩

set_option maxRecDepth 100000 in
set_option maxHeartbeats 4000000 in
theorem sp_X10_shutHydrant (l : Launch) (G : GT) (A0 : Nat → Int32) (x : PP) (T : Nat → Nat → Int32) (c : Nat) (M : Mem) (hA : M 0 1 = enc A0 x T) (hx : PIv x) (hc : c < x.1.2.2) : MC l G yX10_shutHydrant cX10_shutHydrant 3 (some .int) ({ frames := 2, cells := 0, slots := 0, locals := 42 } : Room) [9] lk0 [rv 0 0, iv (nI c)] (M) (fun r M2 => r = some (iv (T 4 c)) ∧ M2 = md M (enc A0 x (shT T c))) := by
  refine MC.of RX10 [some (rv 0 0), some (iv (nI c)), none] 1 (by decide +kernel) rfl rfl rfl ?_
  intro pp ee ss mm aa bb me cd ad E
  obtain ⟨M0, rfl⟩ : ∃ M0, M = md M0 (enc A0 x T) := ⟨M, (md_of hA).symm⟩
  clear hA
  have hn64 := (PIv_z hx).1
  
  refine r_aload_n E (dat dkX10_shutHydrant 0 rfl) rfl rfl ?_
  refine r_iload_n E (dat dkX10_shutHydrant 1 rfl) rfl rfl ?_
  refine r_iconst (v := 5) E (dat dkX10_shutHydrant 2 rfl) rfl ?_
  refine r_callV (κ := 9) (μ := []) E (sp_X10_get l G c 5 _ _ md_a (by omega) (by decide)) my_X10_get iv_X10_get ml_X10_76 cm_id ⟨by decide, rfl, rfl⟩ rfl rfl rfl rfl (by decide) (Nat.le_of_ble_eq_true rfl) (dat dkX10_shutHydrant 3 rfl) ?_
  rintro _ _ ⟨rfl, rfl⟩
  refine ⟨_, Mrg_z rfl, ?_⟩
  rw [e_t hc hn64]
  refine r_istore_2 E (dat dkX10_shutHydrant 4 rfl) rfl rfl ?_
  refine r_aload_n E (dat dkX10_shutHydrant 5 rfl) rfl rfl ?_
  refine q_geta E fl_X10_9 (dat dkX10_shutHydrant 6 rfl) rfl rfl rfl ?_
  refine r_iload_n E (dat dkX10_shutHydrant 7 rfl) rfl rfl ?_
  refine r_callS (μ := []) E (sp_X10_c l G c _) my_X10_c is_X10_c ml_X10_48 cm_nil rfl rfl (by decide) (Nat.le_of_ble_eq_true rfl) (dat dkX10_shutHydrant 8 rfl) ?_
  rintro _ _ ⟨rfl, hM⟩
  refine ⟨_, Mrg_z hM, ?_⟩
  clear hM
  refine r_iconst (v := 4) E (dat dkX10_shutHydrant 9 rfl) rfl ?_
  refine r_iadd E (dat dkX10_shutHydrant 10 rfl) ?_
  refine r_iconst (v := 0) E (dat dkX10_shutHydrant 11 rfl) rfl ?_
  refine q_iast E (dat dkX10_shutHydrant 12 rfl) rfl rfl (by decide) md_a (fun _ => md_s) (show _ = nI (c6 c 4) from nI_add _ _) (by unfold c6; omega) ?_
  refine r_aload_n E (dat dkX10_shutHydrant 13 rfl) rfl rfl ?_
  refine q_geta E fl_X10_9 (dat dkX10_shutHydrant 14 rfl) rfl rfl rfl ?_
  refine r_iload_n E (dat dkX10_shutHydrant 15 rfl) rfl rfl ?_
  refine r_callS (μ := []) E (sp_X10_c l G c _) my_X10_c is_X10_c ml_X10_48 cm_nil rfl rfl (by decide) (Nat.le_of_ble_eq_true rfl) (dat dkX10_shutHydrant 16 rfl) ?_
  rintro _ _ ⟨rfl, hM⟩
  refine ⟨_, Mrg_z hM, ?_⟩
  clear hM
  refine r_iconst (v := 5) E (dat dkX10_shutHydrant 17 rfl) rfl ?_
  refine r_iadd E (dat dkX10_shutHydrant 18 rfl) ?_
  refine r_iconst (v := 0) E (dat dkX10_shutHydrant 19 rfl) rfl ?_
  refine q_iast E (dat dkX10_shutHydrant 20 rfl) rfl rfl (by decide) md_a (fun _ => md_s) (show _ = nI (c6 c 5) from nI_add _ _) (by unfold c6; omega) ?_
  refine r_iload_n E (dat dkX10_shutHydrant 21 rfl) rfl rfl ?_
  refine r_ireturn E (dat dkX10_shutHydrant 22 rfl) (by decide) (by decide) ?_
  exact ⟨rfl, by rw [md_md, u_r hc hn64, u_t hc hn64, sh_sc]⟩

set_option maxRecDepth 100000 in
set_option maxHeartbeats 4000000 in
theorem sp_X10_dropOn (l : Launch) (G : GT) (A0 : Nat → Int32) (x : PP) (T : Nat → Nat → Int32) (c : Nat) (a : Int32) (M : Mem) (hA : M 0 1 = enc A0 x T) (hx : PIv x) (hc : c < x.1.2.2) : MC l G yX10_dropOn cX10_dropOn 3 (some .int) ({ frames := 2, cells := 0, slots := 0, locals := 43 } : Room) [9] lk0 [rv 0 0, iv (nI c), iv a] (M) (fun r M2 => r = some (iv (lvT T c a 2 c)) ∧ M2 = md M (enc A0 x (lvT T c a))) := by
  refine MC.of RX10 [some (rv 0 0), some (iv (nI c)), some (iv a)] 0 (by decide +kernel) rfl rfl rfl ?_
  intro pp ee ss mm aa bb me cd ad E
  obtain ⟨M0, rfl⟩ : ∃ M0, M = md M0 (enc A0 x T) := ⟨M, (md_of hA).symm⟩
  clear hA
  have hn64 := (PIv_z hx).1
  
  refine r_aload_n E (dat dkX10_dropOn 0 rfl) rfl rfl ?_
  refine r_iload_n E (dat dkX10_dropOn 1 rfl) rfl rfl ?_
  refine r_iconst (v := 2) E (dat dkX10_dropOn 2 rfl) rfl ?_
  refine r_iload_n E (dat dkX10_dropOn 3 rfl) rfl rfl ?_
  refine r_callV (κ := 9) (μ := []) E (sp_X10_add l G c 2 (a) _ _ md_a (by omega) (by decide)) my_X10_add iv_X10_add ml_X10_101 cm_id ⟨by decide, rfl, rfl⟩ rfl rfl rfl rfl (by decide) (Nat.le_of_ble_eq_true rfl) (dat dkX10_dropOn 4 rfl) ?_
  rintro _ _ ⟨rfl, rfl⟩
  refine ⟨_, Mrg_md (by decide) rfl, ?_⟩
  rw [e_l hc hn64, u_l hc hn64]
  refine r_aload_n E (dat dkX10_dropOn 5 rfl) rfl rfl ?_
  refine q_geta E fl_X10_9 (dat dkX10_dropOn 6 rfl) rfl rfl rfl ?_
  refine r_bipush (v := 9) E (dat dkX10_dropOn 7 rfl) rfl ?_
  refine r_dup2 E (dat dkX10_dropOn 8 rfl) rfl rfl ?_
  refine q_iald E (dat dkX10_dropOn 9 rfl) rfl rfl (by decide) md_a (show _ = nI 9 from rfl) (by omega) ?_
  refine r_iload_n E (dat dkX10_dropOn 10 rfl) rfl rfl ?_
  refine r_iadd E (dat dkX10_dropOn 11 rfl) ?_
  refine q_iast E (dat dkX10_dropOn 12 rfl) rfl rfl (by decide) md_a (fun _ => md_s) (show _ = nI 9 from rfl) (by omega) ?_
  rw [u_dp, show enc A0 x (sc T 2 c (T 2 c + a)) 9 = T 0 13 from rfl, lv_sc]
  refine r_aload_n E (dat dkX10_dropOn 13 rfl) rfl rfl ?_
  refine r_iload_n E (dat dkX10_dropOn 14 rfl) rfl rfl ?_
  refine r_iconst (v := 2) E (dat dkX10_dropOn 15 rfl) rfl ?_
  refine r_callV (κ := 9) (μ := []) E (sp_X10_get l G c 2 _ _ md_a (by omega) (by decide)) my_X10_get iv_X10_get ml_X10_76 cm_id ⟨by decide, rfl, rfl⟩ rfl rfl rfl rfl (by decide) (Nat.le_of_ble_eq_true rfl) (dat dkX10_dropOn 16 rfl) ?_
  rintro _ _ ⟨rfl, rfl⟩
  refine ⟨_, Mrg_z rfl, ?_⟩
  rw [e_l hc hn64]
  refine r_ireturn E (dat dkX10_dropOn 17 rfl) (by decide) (by decide) ?_
  exact ⟨rfl, by rw [md_md]⟩

set_option maxRecDepth 100000 in
set_option maxHeartbeats 4000000 in
theorem sp_X10_sweepFrom (l : Launch) (G : GT) (A0 : Nat → Int32) (x : PP) (T : Nat → Nat → Int32) (c : Nat) (M : Mem) (hA : M 0 1 = enc A0 x T) (hx : PIv x) (hc : c < x.1.2.2) : MC l G yX10_sweepFrom cX10_sweepFrom 3 (some .int) ({ frames := 2, cells := 0, slots := 0, locals := 42 } : Room) [9] lk0 [rv 0 0, iv (nI c)] (M) (fun r M2 => r = some (iv (T 2 c)) ∧ M2 = md M (enc A0 x (swT T c))) := by
  refine MC.of RX10 [some (rv 0 0), some (iv (nI c)), none] 1 (by decide +kernel) rfl rfl rfl ?_
  intro pp ee ss mm aa bb me cd ad E
  obtain ⟨M0, rfl⟩ : ∃ M0, M = md M0 (enc A0 x T) := ⟨M, (md_of hA).symm⟩
  clear hA
  have hn64 := (PIv_z hx).1
  
  refine r_aload_n E (dat dkX10_sweepFrom 0 rfl) rfl rfl ?_
  refine r_iload_n E (dat dkX10_sweepFrom 1 rfl) rfl rfl ?_
  refine r_iconst (v := 2) E (dat dkX10_sweepFrom 2 rfl) rfl ?_
  refine r_callV (κ := 9) (μ := []) E (sp_X10_get l G c 2 _ _ md_a (by omega) (by decide)) my_X10_get iv_X10_get ml_X10_76 cm_id ⟨by decide, rfl, rfl⟩ rfl rfl rfl rfl (by decide) (Nat.le_of_ble_eq_true rfl) (dat dkX10_sweepFrom 3 rfl) ?_
  rintro _ _ ⟨rfl, rfl⟩
  refine ⟨_, Mrg_z rfl, ?_⟩
  rw [e_l hc hn64]
  refine r_istore_2 E (dat dkX10_sweepFrom 4 rfl) rfl rfl ?_
  refine r_aload_n E (dat dkX10_sweepFrom 5 rfl) rfl rfl ?_
  refine q_geta E fl_X10_9 (dat dkX10_sweepFrom 6 rfl) rfl rfl rfl ?_
  refine r_iload_n E (dat dkX10_sweepFrom 7 rfl) rfl rfl ?_
  refine r_callS (μ := []) E (sp_X10_c l G c _) my_X10_c is_X10_c ml_X10_48 cm_nil rfl rfl (by decide) (Nat.le_of_ble_eq_true rfl) (dat dkX10_sweepFrom 8 rfl) ?_
  rintro _ _ ⟨rfl, hM⟩
  refine ⟨_, Mrg_z hM, ?_⟩
  clear hM
  refine r_iconst (v := 2) E (dat dkX10_sweepFrom 9 rfl) rfl ?_
  refine r_iadd E (dat dkX10_sweepFrom 10 rfl) ?_
  refine r_iconst (v := 0) E (dat dkX10_sweepFrom 11 rfl) rfl ?_
  refine q_iast E (dat dkX10_sweepFrom 12 rfl) rfl rfl (by decide) md_a (fun _ => md_s) (show _ = nI (c6 c 2) from nI_add _ _) (by unfold c6; omega) ?_
  refine r_aload_n E (dat dkX10_sweepFrom 13 rfl) rfl rfl ?_
  refine q_geta E fl_X10_9 (dat dkX10_sweepFrom 14 rfl) rfl rfl rfl ?_
  refine r_bipush (v := 10) E (dat dkX10_sweepFrom 15 rfl) rfl ?_
  refine r_dup2 E (dat dkX10_sweepFrom 16 rfl) rfl rfl ?_
  refine q_iald E (dat dkX10_sweepFrom 17 rfl) rfl rfl (by decide) md_a (show _ = nI 10 from rfl) (by omega) ?_
  refine r_iload_n E (dat dkX10_sweepFrom 18 rfl) rfl rfl ?_
  refine r_iadd E (dat dkX10_sweepFrom 19 rfl) ?_
  refine q_iast E (dat dkX10_sweepFrom 20 rfl) rfl rfl (by decide) md_a (fun _ => md_s) (show _ = nI 10 from rfl) (by omega) ?_
  rw [u_l hc hn64, u_sp, show enc A0 x (sc T 2 c 0) 10 = T 0 14 from rfl, sw_sc]
  refine r_iload_n E (dat dkX10_sweepFrom 21 rfl) rfl rfl ?_
  refine r_ireturn E (dat dkX10_sweepFrom 22 rfl) (by decide) (by decide) ?_
  exact ⟨rfl, by rw [md_md]⟩

set_option maxRecDepth 100000 in
set_option maxHeartbeats 4000000 in
theorem sp_X10_canWalk (l : Launch) (G : GT) (A0 : Nat → Int32) (x : PP) (T : Nat → Nat → Int32) (b f d : Nat) (M : Mem) (hA : M 0 1 = enc A0 x T) (hx : PIv x) (hb : b < x.2.2.2.2.1) (hq : T 5 b = nI f) (hf : f < x.1.2.2) (hd : d < 4) : MC l G yX10_canWalk cX10_canWalk 3 (some .boolean) ({ frames := 2, cells := 0, slots := 0, locals := 52 } : Room) [9] lk0 [rv 0 0, iv (nI b), iv (nI d)] (M) (fun r M2 => r = some (iv (if oI (nbx x f d) = -1 then 0 else 1)) ∧ M2 = M) := by
  refine MC.of RX10 [some (rv 0 0), some (iv (nI b)), some (iv (nI d))] 0 (by decide +kernel) rfl rfl rfl ?_
  intro pp ee ss mm aa bb me cd ad E
  obtain ⟨M0, rfl⟩ : ∃ M0, M = md M0 (enc A0 x T) := ⟨M, (md_of hA).symm⟩
  clear hA
  have hn64 := (PIv_z hx).1
  have hb4 := hx.2.2.2.2.1
  
  refine r_aload_n E (dat dkX10_canWalk 0 rfl) rfl rfl ?_
  refine r_aload_n E (dat dkX10_canWalk 1 rfl) rfl rfl ?_
  refine q_geta E fl_X10_9 (dat dkX10_canWalk 2 rfl) rfl rfl rfl ?_
  refine r_iload_n E (dat dkX10_canWalk 3 rfl) rfl rfl ?_
  refine r_callS (μ := []) E (sp_X10_p l G b _) my_X10_p is_X10_p ml_X10_73 cm_nil rfl rfl (by decide) (Nat.le_of_ble_eq_true rfl) (dat dkX10_canWalk 4 rfl) ?_
  rintro _ _ ⟨rfl, hM⟩
  refine ⟨_, Mrg_z hM, ?_⟩
  clear hM
  refine r_bipush (v := 7) E (dat dkX10_canWalk 5 rfl) rfl ?_
  refine r_iadd E (dat dkX10_canWalk 6 rfl) ?_
  refine q_iald E (dat dkX10_canWalk 7 rfl) rfl rfl (by decide) md_a (nI_add (399 + 11 * b) 7) (by omega) ?_
  rw [e_pl hb, hq]
  refine r_iload_n E (dat dkX10_canWalk 8 rfl) rfl rfl ?_
  refine r_callV (κ := 9) (μ := []) E (sp_X10_beside l G x.1.1 x.1.2.1 f d _ _ md_a rfl rfl hx.1 hx.2.1 (by have := hx.2.2.1; omega) hd) my_X10_beside iv_X10_beside ml_X10_84 cm_id ⟨by decide, rfl, rfl⟩ rfl rfl rfl rfl (by decide) (Nat.le_of_ble_eq_true rfl) (dat dkX10_canWalk 9 rfl) ?_
  rintro _ _ ⟨rfl, rfl⟩
  refine ⟨_, Mrg_z rfl, ?_⟩
  rw [show gnb x.1.1 x.1.2.1 f d = nbx x f d from rfl]
  refine r_iconst (v := -1) E (dat dkX10_canWalk 10 rfl) rfl ?_
  refine r_icmp_eq (tgt := 25) E (dat dkX10_canWalk 11 rfl) rfl (fun h18 => ?_) (fun h18 => ?_)
  ·
    refine r_iconst (v := 0) E (dat dkX10_canWalk 14 rfl) rfl ?_
    refine r_zreturn E (dat dkX10_canWalk 15 rfl) rfl (by decide) (by decide) ?_
    refine ⟨?_, rfl⟩
    first
      | (rw [if_pos h18]; done)
      | (rw [if_neg h18]; done)
  ·
    refine r_iconst (v := 1) E (dat dkX10_canWalk 12 rfl) rfl ?_
    refine r_goto (tgt := 26) E (dat dkX10_canWalk 13 rfl) rfl ?_
    refine r_zreturn E (dat dkX10_canWalk 15 rfl) rfl (by decide) (by decide) ?_
    refine ⟨?_, rfl⟩
    first
      | (rw [if_pos h18]; done)
      | (rw [if_neg h18]; done)

set_option maxRecDepth 100000 in
set_option maxHeartbeats 4000000 in
theorem sp_X10_canSplash (l : Launch) (G : GT) (A0 : Nat → Int32) (x : PP) (T : Nat → Nat → Int32) (b f : Nat) (M : Mem) (hA : M 0 1 = enc A0 x T) (hx : PIv x) (hb : b < x.2.2.2.2.1) (hq : T 5 b = nI f) (hf : f < x.1.2.2) : MC l G yX10_canSplash cX10_canSplash 2 (some .boolean) ({ frames := 3, cells := 0, slots := 0, locals := 63 } : Room) [9] lk0 [rv 0 0, iv (nI b)] (M) (fun r M2 => r = some (iv (if T 1 f = 0 then 0 else 1)) ∧ M2 = M) := by
  refine MC.of RX10 [some (rv 0 0), some (iv (nI b))] 0 (by decide +kernel) rfl rfl rfl ?_
  intro pp ee ss mm aa bb me cd ad E
  obtain ⟨M0, rfl⟩ : ∃ M0, M = md M0 (enc A0 x T) := ⟨M, (md_of hA).symm⟩
  clear hA
  have hn64 := (PIv_z hx).1
  have hb4 := hx.2.2.2.2.1
  
  refine r_aload_n E (dat dkX10_canSplash 0 rfl) rfl rfl ?_
  refine r_aload_n E (dat dkX10_canSplash 1 rfl) rfl rfl ?_
  refine q_geta E fl_X10_9 (dat dkX10_canSplash 2 rfl) rfl rfl rfl ?_
  refine r_iload_n E (dat dkX10_canSplash 3 rfl) rfl rfl ?_
  refine r_callS (μ := []) E (sp_X10_p l G b _) my_X10_p is_X10_p ml_X10_73 cm_nil rfl rfl (by decide) (Nat.le_of_ble_eq_true rfl) (dat dkX10_canSplash 4 rfl) ?_
  rintro _ _ ⟨rfl, hM⟩
  refine ⟨_, Mrg_z hM, ?_⟩
  clear hM
  refine r_bipush (v := 7) E (dat dkX10_canSplash 5 rfl) rfl ?_
  refine r_iadd E (dat dkX10_canSplash 6 rfl) ?_
  refine q_iald E (dat dkX10_canSplash 7 rfl) rfl rfl (by decide) md_a (nI_add (399 + 11 * b) 7) (by omega) ?_
  rw [e_pl hb, hq]
  refine r_callV (κ := 9) (μ := []) E (sp_X10_isDry l G A0 x T f _ md_a hx hf) my_X10_isDry iv_X10_isDry ml_X10_111 cm_id ⟨by decide, rfl, rfl⟩ rfl rfl rfl rfl (by decide) (Nat.le_of_ble_eq_true rfl) (dat dkX10_canSplash 8 rfl) ?_
  rintro _ _ ⟨rfl, rfl⟩
  refine ⟨_, Mrg_z rfl, ?_⟩
  refine r_if_ne (tgt := 23) E (dat dkX10_canSplash 9 rfl) rfl (fun h16 => ?_) (fun h16 => ?_)
  ·
    refine r_iconst (v := 0) E (dat dkX10_canSplash 12 rfl) rfl ?_
    refine r_zreturn E (dat dkX10_canSplash 13 rfl) rfl (by decide) (by decide) ?_
    refine ⟨?_, rfl⟩
    by_cases hd : T 1 f = 0
    · first
        | (rw [if_pos hd]; done)
        | (rw [if_pos hd] at h16; exact absurd h16 (by decide))
    · first
        | (rw [if_neg hd]; done)
        | (rw [if_neg hd] at h16; exact absurd rfl h16)
  ·
    refine r_iconst (v := 1) E (dat dkX10_canSplash 10 rfl) rfl ?_
    refine r_goto (tgt := 24) E (dat dkX10_canSplash 11 rfl) rfl ?_
    refine r_zreturn E (dat dkX10_canSplash 13 rfl) rfl (by decide) (by decide) ?_
    refine ⟨?_, rfl⟩
    by_cases hd : T 1 f = 0
    · first
        | (rw [if_pos hd]; done)
        | (rw [if_pos hd] at h16; exact absurd h16 (by decide))
    · first
        | (rw [if_neg hd]; done)
        | (rw [if_neg hd] at h16; exact absurd rfl h16)

set_option maxRecDepth 100000 in
set_option maxHeartbeats 4000000 in
theorem sp_X10_walkOn (l : Launch) (G : GT) (A0 : Nat → Int32) (x : PP) (T : Nat → Nat → Int32) (b f d j : Nat) (M : Mem) (hA : M 0 1 = enc A0 x T) (hx : PIv x) (hb : b < x.2.2.2.2.1) (hq : T 5 b = nI f) (hf : f < x.1.2.2) (hd : d < 4) (hj : nbx x f d = some j) : MC l G yX10_walkOn cX10_walkOn 4 (some .int) ({ frames := 3, cells := 0, slots := 0, locals := 64 } : Room) [9] lk0 [rv 0 0, iv (nI b), iv (nI d)] (M) (fun r M2 => r = some (iv (nI j)) ∧ M2 = md M (enc A0 x (wkT x.2.2.2.2.2.2.2.1 T b j))) := by
  refine MC.of RX10 [some (rv 0 0), some (iv (nI b)), some (iv (nI d)), none] 1 (by decide +kernel) rfl rfl rfl ?_
  intro pp ee ss mm aa bb me cd ad E
  obtain ⟨M0, rfl⟩ : ∃ M0, M = md M0 (enc A0 x T) := ⟨M, (md_of hA).symm⟩
  clear hA
  have hn64 := (PIv_z hx).1
  have hb4 := hx.2.2.2.2.1
  have hjn := nbx_lt hx f d j hj
  
  refine r_aload_n E (dat dkX10_walkOn 0 rfl) rfl rfl ?_
  refine r_aload_n E (dat dkX10_walkOn 1 rfl) rfl rfl ?_
  refine q_geta E fl_X10_9 (dat dkX10_walkOn 2 rfl) rfl rfl rfl ?_
  refine r_iload_n E (dat dkX10_walkOn 3 rfl) rfl rfl ?_
  refine r_callS (μ := []) E (sp_X10_p l G b _) my_X10_p is_X10_p ml_X10_73 cm_nil rfl rfl (by decide) (Nat.le_of_ble_eq_true rfl) (dat dkX10_walkOn 4 rfl) ?_
  rintro _ _ ⟨rfl, hM⟩
  refine ⟨_, Mrg_z hM, ?_⟩
  clear hM
  refine r_bipush (v := 7) E (dat dkX10_walkOn 5 rfl) rfl ?_
  refine r_iadd E (dat dkX10_walkOn 6 rfl) ?_
  refine q_iald E (dat dkX10_walkOn 7 rfl) rfl rfl (by decide) md_a (nI_add (399 + 11 * b) 7) (by omega) ?_
  rw [e_pl hb, hq]
  refine r_iload_n E (dat dkX10_walkOn 8 rfl) rfl rfl ?_
  refine r_callV (κ := 9) (μ := []) E (sp_X10_beside l G x.1.1 x.1.2.1 f d _ _ md_a rfl rfl hx.1 hx.2.1 (by have := hx.2.2.1; omega) hd) my_X10_beside iv_X10_beside ml_X10_84 cm_id ⟨by decide, rfl, rfl⟩ rfl rfl rfl rfl (by decide) (Nat.le_of_ble_eq_true rfl) (dat dkX10_walkOn 9 rfl) ?_
  rintro _ _ ⟨rfl, rfl⟩
  refine ⟨_, Mrg_z rfl, ?_⟩
  rw [show gnb x.1.1 x.1.2.1 f d = some j from hj, show oI (some j) = nI j from rfl]
  refine r_istore_3 E (dat dkX10_walkOn 10 rfl) rfl rfl ?_
  refine r_aload_n E (dat dkX10_walkOn 11 rfl) rfl rfl ?_
  refine q_geta E fl_X10_9 (dat dkX10_walkOn 12 rfl) rfl rfl rfl ?_
  refine r_iload_n E (dat dkX10_walkOn 13 rfl) rfl rfl ?_
  refine r_callS (μ := []) E (sp_X10_p l G b _) my_X10_p is_X10_p ml_X10_73 cm_nil rfl rfl (by decide) (Nat.le_of_ble_eq_true rfl) (dat dkX10_walkOn 14 rfl) ?_
  rintro _ _ ⟨rfl, hM⟩
  refine ⟨_, Mrg_z hM, ?_⟩
  clear hM
  refine r_bipush (v := 7) E (dat dkX10_walkOn 15 rfl) rfl ?_
  refine r_iadd E (dat dkX10_walkOn 16 rfl) ?_
  refine r_iload_n E (dat dkX10_walkOn 17 rfl) rfl rfl ?_
  refine q_iast E (dat dkX10_walkOn 18 rfl) rfl rfl (by decide) md_a (fun _ => md_s) (nI_add (399 + 11 * b) 7) (by omega) ?_
  rw [u_pl hb]
  refine r_aload_n E (dat dkX10_walkOn 19 rfl) rfl rfl ?_
  refine r_iload_n E (dat dkX10_walkOn 20 rfl) rfl rfl ?_
  refine r_callV (κ := 9) (μ := []) E (sp_X10_soak l G A0 x (sc T 5 b (nI j)) b j _ md_a hx hb upd_at hjn) my_X10_soak iv_X10_soak ml_X10_135 cm_id ⟨by decide, rfl, rfl⟩ rfl rfl rfl rfl (by decide) (Nat.le_of_ble_eq_true rfl) (dat dkX10_walkOn 21 rfl) ?_
  rintro _ _ ⟨rfl, rfl⟩
  refine ⟨_, Mrg_md (by decide) rfl, ?_⟩
  rw [wk_sc]
  refine r_iload_n E (dat dkX10_walkOn 22 rfl) rfl rfl ?_
  refine r_ireturn E (dat dkX10_walkOn 23 rfl) (by decide) (by decide) ?_
  exact ⟨rfl, by rw [md_md]⟩

set_option maxRecDepth 100000 in
set_option maxHeartbeats 8000000 in
theorem sp_X10_splashBy (l : Launch) (G : GT) (A0 : Nat → Int32) (x : PP) (T : Nat → Nat → Int32) (b f : Nat) (M : Mem) (hA : M 0 1 = enc A0 x T) (hx : PIv x) (hb : b < x.2.2.2.2.1) (hq : T 5 b = nI f) (hf : f < x.1.2.2) : MC l G yX10_splashBy cX10_splashBy 7 (some .int) ({ frames := 2, cells := 0, slots := 0, locals := 52 } : Room) [9] lk0 [rv 0 0, iv (nI b)] (M) (fun r M2 => r = some (iv (thR x T f)) ∧ M2 = md M (enc A0 x (thT x T b f))) := by
  refine MC.of RX10 [some (rv 0 0), some (iv (nI b)), none, none, none, none, none] 5 (by decide +kernel) rfl rfl rfl ?_
  intro pp ee ss mm aa bb me cd ad E
  obtain ⟨M0, rfl⟩ : ∃ M0, M = md M0 (enc A0 x T) := ⟨M, (md_of hA).symm⟩
  clear hA
  have hn64 := (PIv_z hx).1
  have hb4 := hx.2.2.2.2.1
  
  refine r_aload_n E (dat dkX10_splashBy 0 rfl) rfl rfl ?_
  refine q_geta E fl_X10_9 (dat dkX10_splashBy 1 rfl) rfl rfl rfl ?_
  refine r_iload_n E (dat dkX10_splashBy 2 rfl) rfl rfl ?_
  refine r_callS (μ := []) E (sp_X10_p l G b _) my_X10_p is_X10_p ml_X10_73 cm_nil rfl rfl (by decide) (Nat.le_of_ble_eq_true rfl) (dat dkX10_splashBy 3 rfl) ?_
  rintro _ _ ⟨rfl, hM⟩
  refine ⟨_, Mrg_z hM, ?_⟩
  clear hM
  refine r_bipush (v := 7) E (dat dkX10_splashBy 4 rfl) rfl ?_
  refine r_iadd E (dat dkX10_splashBy 5 rfl) ?_
  refine q_iald E (dat dkX10_splashBy 6 rfl) rfl rfl (by decide) md_a (nI_add (399 + 11 * b) 7) (by omega) ?_
  rw [e_pl hb, hq]
  refine r_istore_2 E (dat dkX10_splashBy 7 rfl) rfl rfl ?_
  refine r_aload_n E (dat dkX10_splashBy 8 rfl) rfl rfl ?_
  refine r_iload_n E (dat dkX10_splashBy 9 rfl) rfl rfl ?_
  refine r_iconst (v := 1) E (dat dkX10_splashBy 10 rfl) rfl ?_
  refine r_callV (κ := 9) (μ := []) E (sp_X10_get l G f 1 _ _ md_a (by omega) (by decide)) my_X10_get iv_X10_get ml_X10_76 cm_id ⟨by decide, rfl, rfl⟩ rfl rfl rfl rfl (by decide) (Nat.le_of_ble_eq_true rfl) (dat dkX10_splashBy 11 rfl) ?_
  rintro _ _ ⟨rfl, rfl⟩
  refine ⟨_, Mrg_z rfl, ?_⟩
  rw [e_w hf hn64]
  refine r_iconst (v := 5) E (dat dkX10_splashBy 12 rfl) rfl ?_
  refine r_idiv E (dat dkX10_splashBy 13 rfl) (by decide) ?_
  refine r_istore_3 E (dat dkX10_splashBy 14 rfl) rfl rfl ?_
  refine r_iconst (v := 0) E (dat dkX10_splashBy 15 rfl) rfl ?_
  refine r_istore_4 E (dat dkX10_splashBy 16 rfl) rfl rfl ?_
  refine r_iconst (v := 0) E (dat dkX10_splashBy 17 rfl) rfl ?_
  refine r_istore_5 E (dat dkX10_splashBy 18 rfl) rfl rfl ?_
  refine r_for (4) (fun _ => True) (fun i => md M0 (enc A0 x (sw1 T (thW (nbx x) f (T 1 f / 5) (T 1) i).1))) (fun i => [some (rv 0 0), some (iv (nI b)), some (iv (nI f)), some (iv (T 1 f / 5)), some (iv (thW (nbx x) f (T 1 f / 5) (T 1) i).2), some (iv (nI i)), none]) trivial (by (show md M0 (enc A0 x (sw1 T (T 1))) = _); rw [sw1_0]) rfl ?_ ?_
  · intro i hi hI kk
    refine r_iload E (dat dkX10_splashBy 19 rfl) rfl ?_
    refine r_iconst (v := 4) E (dat dkX10_splashBy 20 rfl) rfl ?_
    refine q_icmp_ge (tgt := 69) E (dat dkX10_splashBy 21 rfl) rfl rfl (b := 4) rfl (by omega) (by omega) (fun h31 => ?_) (fun h31 => ?_)
    ·
      omega
    ·
      refine r_aload_n E (dat dkX10_splashBy 22 rfl) rfl rfl ?_
      refine r_iload_n E (dat dkX10_splashBy 23 rfl) rfl rfl ?_
      refine r_iload E (dat dkX10_splashBy 24 rfl) rfl ?_
      refine r_callV (κ := 9) (μ := []) E (sp_X10_beside l G x.1.1 x.1.2.1 f i _ _ md_a rfl rfl hx.1 hx.2.1 (by have := hx.2.2.1; omega) hi) my_X10_beside iv_X10_beside ml_X10_84 cm_id ⟨by decide, rfl, rfl⟩ rfl rfl rfl rfl (by decide) (Nat.le_of_ble_eq_true rfl) (dat dkX10_splashBy 25 rfl) ?_
      rintro _ _ ⟨rfl, rfl⟩
      refine ⟨_, Mrg_z rfl, ?_⟩
      rw [show gnb x.1.1 x.1.2.1 f i = nbx x f i from rfl]
      rcases hz : nbx x f i with _ | o
      ·
        refine r_istore_6 E (dat dkX10_splashBy 26 rfl) rfl rfl ?_
        refine r_iload E (dat dkX10_splashBy 27 rfl) rfl ?_
        refine r_iconst (v := -1) E (dat dkX10_splashBy 28 rfl) rfl ?_
        refine r_icmp_eq (tgt := 63) E (dat dkX10_splashBy 29 rfl) rfl (fun h46 => ?_) (fun h46 => ?_)
        ·
          refine q_iinc_5 E (dat dkX10_splashBy 39 rfl) rfl rfl ?_
          refine r_goto (tgt := 28) E (dat dkX10_splashBy 40 rfl) rfl ?_
          first
            | (rw [thW_n hz] at kk; refine r_back rfl ?_ (kk trivial); exact (And.intro rfl (And.intro rfl (And.intro rfl (And.intro rfl (And.intro rfl (And.intro rfl trivial)))))))
            | (rw [thW_s hz] at kk; refine r_back rfl ?_ (kk trivial); exact (And.intro rfl (And.intro rfl (And.intro rfl (And.intro rfl (And.intro rfl (And.intro rfl trivial)))))))
        ·
          exact absurd rfl h46
      ·
        have ho := nbx_lt hx f i o hz
        refine r_istore_6 E (dat dkX10_splashBy 26 rfl) rfl rfl ?_
        refine r_iload E (dat dkX10_splashBy 27 rfl) rfl ?_
        refine r_iconst (v := -1) E (dat dkX10_splashBy 28 rfl) rfl ?_
        refine r_icmp_eq (tgt := 63) E (dat dkX10_splashBy 29 rfl) rfl (fun h46 => ?_) (fun h46 => ?_)
        ·
          exact absurd h46 (oI_nm (by omega))
        ·
          refine r_aload_n E (dat dkX10_splashBy 30 rfl) rfl rfl ?_
          refine r_iload E (dat dkX10_splashBy 31 rfl) rfl ?_
          refine r_iconst (v := 1) E (dat dkX10_splashBy 32 rfl) rfl ?_
          refine r_iload_n E (dat dkX10_splashBy 33 rfl) rfl rfl ?_
          refine r_callV (κ := 9) (μ := []) E (sp_X10_add l G o 1 (T 1 f / 5) _ _ md_a (by omega) (by decide)) my_X10_add iv_X10_add ml_X10_101 cm_id ⟨by decide, rfl, rfl⟩ rfl rfl rfl rfl (by decide) (Nat.le_of_ble_eq_true rfl) (dat dkX10_splashBy 34 rfl) ?_
          rintro _ _ ⟨rfl, rfl⟩
          refine ⟨_, Mrg_md (by decide) rfl, ?_⟩
          rw [e_w ho hn64, u_w ho hn64, sw1_sc]
          refine r_iload E (dat dkX10_splashBy 35 rfl) rfl ?_
          refine r_iload_n E (dat dkX10_splashBy 36 rfl) rfl rfl ?_
          refine r_iadd E (dat dkX10_splashBy 37 rfl) ?_
          refine r_istore_4 E (dat dkX10_splashBy 38 rfl) rfl rfl ?_
          refine q_iinc_5 E (dat dkX10_splashBy 39 rfl) rfl rfl ?_
          refine r_goto (tgt := 28) E (dat dkX10_splashBy 40 rfl) rfl ?_
          first
            | (rw [thW_n hz] at kk; refine r_back rfl ?_ (kk trivial); exact (And.intro rfl (And.intro rfl (And.intro rfl (And.intro rfl (And.intro rfl (And.intro rfl trivial)))))))
            | (rw [thW_s hz] at kk; refine r_back rfl ?_ (kk trivial); exact (And.intro rfl (And.intro rfl (And.intro rfl (And.intro rfl (And.intro rfl (And.intro rfl trivial)))))))
  · intro hI
    refine r_iload E (dat dkX10_splashBy 19 rfl) rfl ?_
    refine r_iconst (v := 4) E (dat dkX10_splashBy 20 rfl) rfl ?_
    refine q_icmp_ge (tgt := 69) E (dat dkX10_splashBy 21 rfl) rfl rfl (b := 4) rfl (by omega) (by omega) (fun h31 => ?_) (fun h31 => ?_)
    ·
      refine r_aload_n E (dat dkX10_splashBy 41 rfl) rfl rfl ?_
      refine r_iload_n E (dat dkX10_splashBy 42 rfl) rfl rfl ?_
      refine r_iconst (v := 1) E (dat dkX10_splashBy 43 rfl) rfl ?_
      refine r_iload E (dat dkX10_splashBy 44 rfl) rfl ?_
      refine r_ineg E (dat dkX10_splashBy 45 rfl) ?_
      refine r_callV (κ := 9) (μ := []) E (sp_X10_add l G f 1 (-(thW (nbx x) f (T 1 f / 5) (T 1) 4).2) _ _ md_a (by omega) (by decide)) my_X10_add iv_X10_add ml_X10_101 cm_id ⟨by decide, rfl, rfl⟩ rfl rfl rfl rfl (by decide) (Nat.le_of_ble_eq_true rfl) (dat dkX10_splashBy 46 rfl) ?_
      rintro _ _ ⟨rfl, rfl⟩
      refine ⟨_, Mrg_md (by decide) rfl, ?_⟩
      rw [e_w hf hn64, u_w hf hn64, sw1_sc]
      refine r_aload_n E (dat dkX10_splashBy 47 rfl) rfl rfl ?_
      refine q_geta E fl_X10_9 (dat dkX10_splashBy 48 rfl) rfl rfl rfl ?_
      refine r_iload_n E (dat dkX10_splashBy 49 rfl) rfl rfl ?_
      refine r_callS (μ := []) E (sp_X10_p l G b _) my_X10_p is_X10_p ml_X10_73 cm_nil rfl rfl (by decide) (Nat.le_of_ble_eq_true rfl) (dat dkX10_splashBy 50 rfl) ?_
      rintro _ _ ⟨rfl, hM⟩
      refine ⟨_, Mrg_z hM, ?_⟩
      clear hM
      refine r_bipush (v := 10) E (dat dkX10_splashBy 51 rfl) rfl ?_
      refine r_iadd E (dat dkX10_splashBy 52 rfl) ?_
      refine r_dup2 E (dat dkX10_splashBy 53 rfl) rfl rfl ?_
      refine q_iald E (dat dkX10_splashBy 54 rfl) rfl rfl (by decide) md_a (nI_add (399 + 11 * b) 10) (by omega) ?_
      rw [e_sh hb]
      refine r_iconst (v := 1) E (dat dkX10_splashBy 55 rfl) rfl ?_
      refine r_iadd E (dat dkX10_splashBy 56 rfl) ?_
      refine q_iast E (dat dkX10_splashBy 57 rfl) rfl rfl (by decide) md_a (fun _ => md_s) (nI_add (399 + 11 * b) 10) (by omega) ?_
      refine r_iload E (dat dkX10_splashBy 58 rfl) rfl ?_
      refine r_ireturn E (dat dkX10_splashBy 59 rfl) (by decide) (by decide) ?_
      refine ⟨rfl, ?_⟩
      rw [md_md, u_sh hb]
      exact congrArg _ (congrArg _ th_sc)
    ·
      omega
