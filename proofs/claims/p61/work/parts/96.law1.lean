/-! what the law's helpers answer -/
theorem and_ex (x : Int32) (m : Nat) (hm : m < 2 ^ 32) : ∃ q, q ≤ m ∧ x &&& nI m = nI q := by
  refine ⟨(x &&& nI m).toBitVec.toNat, ?_, Int32.toBitVec_inj.mp (by show _ = BitVec.ofNat 32 _; simp)⟩
  rw [Int32.toBitVec_and, BitVec.toNat_and]
  refine Nat.le_trans Nat.and_le_right ?_
  rw [show (nI m).toBitVec = BitVec.ofNat 32 m from rfl, BitVec.toNat_ofNat]
  exact Nat.mod_le _ _
theorem mk_2 : (1 : Int32) <<< ((nI 2 : Int32) &&& 31) - 1 = nI 3 := by decide
theorem mk_3 : (1 : Int32) <<< ((nI 3 : Int32) &&& 31) - 1 = nI 7 := by decide
theorem mk_4 : (1 : Int32) <<< ((nI 4 : Int32) &&& 31) - 1 = nI 15 := by decide
theorem bits_ex (x : Int32) (b : Nat) (hb : b = 2 ∨ b = 3 ∨ b = 4) : ∃ q, q < 2 ^ b ∧ x &&& ((1 : Int32) <<< ((nI b : Int32) &&& 31) - 1) = nI q := by
  rcases hb with rfl | rfl | rfl
  · obtain ⟨q, h1, h2⟩ := and_ex x 3 (by decide); exact ⟨q, by omega, by rw [mk_2]; exact h2⟩
  · obtain ⟨q, h1, h2⟩ := and_ex x 7 (by decide); exact ⟨q, by omega, by rw [mk_3]; exact h2⟩
  · obtain ⟨q, h1, h2⟩ := and_ex x 15 (by decide); exact ⟨q, by omega, by rw [mk_4]; exact h2⟩
/-- a number of the script -/
def scC (G : GT) (k : Nat) : Int32 := if k < G.2.2.1.1 then G.2.2.1.2 k else 113 * nI k + 67
/-- a place's level -/
def lvL (B : Nat → Nat → Int32) (x : PP) (T : Nat → Nat → Int32) (r c : Nat) : Int32 := LE B x T (20 + 7 * 0 + r) c + LE B x T (20 + 7 * 1 + r) c
theorem lvL_in {B : Nat → Nat → Int32} {x : PP} {T : Nat → Nat → Int32} {r c : Nat} (hr : r < 7) (h : inC x r c) : lvL B x T r c = x.2.1 (clC x r c) + T 1 (clC x r c) := by unfold lvL; rw [LE_h hr h, LE_w hr h]
theorem lvL_out {B : Nat → Nat → Int32} {x : PP} {T : Nat → Nat → Int32} {r c : Nat} (hB : WLi B x) (hr : r < 7) (hc : c < 7) (h : ¬ inC x r c) : lvL B x T r c = 100000 := by
  unfold lvL
  rw [LE_out (by decide) hr h, LE_out (by decide) hr h, (hB r c hr hc h).1, (hB r c hr hc h).2]
  rfl
theorem lwD_y {lev : Nat → Nat → Int32} {r c i : Nat} (h : lev (dR r (i + 1)) (dC c (i + 1)) < lev (dR r (lwD lev r c i)) (dC c (lwD lev r c i))) : lwD lev r c (i + 1) = i + 1 := if_pos h
theorem lwD_n {lev : Nat → Nat → Int32} {r c i : Nat} (h : ¬ lev (dR r (i + 1)) (dC c (i + 1)) < lev (dR r (lwD lev r c i)) (dC c (lwD lev r c i))) : lwD lev r c (i + 1) = lwD lev r c i := if_neg h
/-- heights are digits -/
def HTi (x : PP) : Prop := ∀ k, k < x.1.2.2 → 0 ≤ (x.2.1 k).toInt ∧ (x.2.1 k).toInt ≤ 9
/-- all the water is less than the wall is high -/
def WBi (x : PP) (T : Nat → Nat → Int32) : Prop := NN x.1.2.2 (T 1) 90000
theorem WB_k {x : PP} {T : Nat → Nat → Int32} (h : WBi x T) {k : Nat} (hk : k < x.1.2.2) : 0 ≤ (T 1 k).toInt ∧ (T 1 k).toInt ≤ 90000 := ⟨h.1 k hk, Int.le_trans (ws_le (c := k) _ h.1 hk) h.2⟩
theorem lev_k {x : PP} {T : Nat → Nat → Int32} (hh : HTi x) (h : WBi x T) {k : Nat} (hk : k < x.1.2.2) : (x.2.1 k + T 1 k).toInt = (x.2.1 k).toInt + (T 1 k).toInt := by
  have h1 := hh k hk
  have h2 := WB_k h hk
  exact i_add (by omega) (by omega)
/-- the way to the lowest beside a cell -/
def lwW (B : Nat → Nat → Int32) (x : PP) (T : Nat → Nat → Int32) (r c : Nat) : Nat := lwD (lvL B x T) r c 3
theorem lwW_lt {B : Nat → Nat → Int32} {x : PP} {T : Nat → Nat → Int32} {r c : Nat} : lwW B x T r c < 4 := by have := lwD_le (lev := lvL B x T) (r := r) (c := c) 3; unfold lwW; omega
theorem lwW_of {B : Nat → Nat → Int32} {x : PP} {T : Nat → Nat → Int32} {r c : Nat} (hx : PIv x) (hw : LWi x) (hB : WLi B x) (hh : HTi x) (hT : WBi x T) (hin : inC x r c) : inC x (dR r (lwW B x T r c)) (dC c (lwW B x T r c)) ∧ loF (nbx x) (fun k => x.2.1 k + T 1 k) (clC x r c) 4 = some (clC x (dR r (lwW B x T r c)) (dC c (lwW B x T r c))) := by
  obtain ⟨⟨h1, h2⟩, h3, h4⟩ := LW_r hw hin
  refine lw_of hx (LW_PV hw) hin (fun w _ h => ?_) (fun w _ h => ?_)
  · have b1 := @dR_b r w
    refine ⟨lvL_in (by omega) h, ?_⟩
    have hk := clC_lt hx.2.2.1 h
    have := lev_k hh hT hk
    have := hh _ hk
    have := WB_k hT hk
    exact i_lt.mpr (by rw [show (100000 : Int32).toInt = 100000 from rfl]; show (x.2.1 _ + T 1 _).toInt < _; omega)
  · have b1 := @dR_b r w
    have b2 := @dC_b c w
    exact lvL_out hB (by omega) (by omega) h
/-- what flows, by the law and by the class -/
theorem fl_eq {a b w : Int32} (ha : 0 ≤ a.toInt ∧ a.toInt ≤ 100000) (hb : 0 ≤ b.toInt ∧ b.toInt ≤ 100000) (hw : 0 ≤ w.toInt) {d : Int32} (hd : d = a - b) : (d < 2 → flA d w = 0) ∧ (¬ d < 2 → flA d w = imin w (d / 2)) := by
  subst hd
  have e := i_sub (a := a) (b := b) (by omega) (by omega)
  have e2 : ((a - b) / 2).toInt = ((a - b).toInt).tdiv 2 := by
    rw [Int32.toInt_div_of_ne_left _ _ (by intro q; rw [q] at e; have : (Int32.minValue).toInt = -2147483648 := rfl; omega)]
    rfl
  have e3 : (2 : Int32).toInt = 2 := rfl
  have i0 := i_0
  refine ⟨fun h => ?_, fun h => ?_⟩
  · have h1 := i_lt.mp h
    rw [e3] at h1
    unfold flA
    by_cases h2 : 0 < a - b
    · rw [if_pos h2]
      have h3 := i_lt.mp h2
      have h4 : (a - b).toInt = 1 := by omega
      rw [h4] at e2
      have h5 : (a - b) / 2 = 0 := Int32.toInt_inj.mp (by rw [e2]; rfl)
      rw [h5]
      exact if_neg (fun q => by have := i_lt.mp q; omega)
    · exact if_neg h2
  · have h0 : ¬ (a - b).toInt < 2 := fun q => h (i_lt.mpr (by rw [e3]; exact q))
    have h1 : 2 ≤ (a - b).toInt := by omega
    unfold flA
    rw [if_pos (i_lt.mpr (by omega))]
    unfold imin
    by_cases h2 : w < (a - b) / 2
    · rw [if_pos h2, if_neg (fun q => Int32.lt_irrefl (Int32.lt_trans q h2))]
    · rw [if_neg h2]
      by_cases h3 : (a - b) / 2 < w
      · rw [if_pos h3]
      · rw [if_neg h3]; exact Int32.le_antisymm (Int32.not_lt.mp h2) (Int32.not_lt.mp h3)
section RL2
variable {p : Program} {l : Launch} {e : Env} {R : Room} {s : State} {m : MethodId} {args : Array Value} {below : List Frame} {meth : Method} {c : Code} {G : GT} {Y : LV} {nL : Nat} {Q : State → Prop} {M : Mem} {k n pc : Nat} {L : List (Option AV)} {S : List AV} {cc : ByteArray} {own : String} {ret : Option FieldType}
theorem q_sclen (E : EN p s m args meth c G Y cc own nL ret) (hd : decode cc pc = .ok (.arraylength, 1)) (kk : WM p l e R s m args below meth c G Y nL Q M k n (pc + 1) L (iv (nI G.2.2.1.1) :: S)) : WM p l e R s m args below meth c G Y nL Q M k n pc L (rv 99 103 :: S) := by
  intro H locs ls hP hS hl
  obtain ⟨hx, hb, hml, hown, hts, hr, hlk, ⟨hnw, hK, -, -, h1, h2, h3, h4, h5, h6, h7, h8, h9⟩, hD⟩ := E
  exact va_tlen hx hb h9 hS rfl hd (kk H locs ls hP hS hl)
theorem q_scld (E : EN p s m args meth c G Y cc own nL ret) {i : Nat} {x : Int32} (hN : G.2.2.1.1 ≤ 4096) (hi : i < G.2.2.1.1) (hx : x = nI i) (hd : decode cc pc = .ok (.iaload, 1)) (kk : WM p l e R s m args below meth c G Y nL Q M k n (pc + 1) L (iv (G.2.2.1.2 i) :: S)) : WM p l e R s m args below meth c G Y nL Q M k n pc L (iv x :: rv 99 103 :: S) := by
  intro H locs ls hP hS hl
  obtain ⟨hx0, hb, hml, hown, hts, hr, hlk, ⟨hnw, hK, -, -, h1, h2, h3, h4, h5, h6, h7, h8, h9⟩, hD⟩ := E
  exact va_ti hx0 hb h9 hS (vp_nI hx hi hN) (by rw [cl_nI hx hi hN]; rfl) hd (kk H locs ls hP hS hl)
end RL2
set_option maxRecDepth 100000 in
set_option maxHeartbeats 4000000 in
theorem sp_L_cell (l : Launch) (G : GT) (k9 : Nat) (M : Mem) (hk9 : k9 < 4096) (hN : G.2.2.1.1 ≤ 4096) : MC l G yL_cell cL_cell 2 (some .int) ({ frames := 0, cells := 0, slots := 0, locals := 0 } : Room) [] lk0 [rv 99 103, iv (nI k9)] (M) (fun r M2 => r = some (iv (scC G k9)) ∧ M2 = M) := by
  refine MC.of RL [some (rv 99 103), some (iv (nI k9))] 0 (by decide +kernel) rfl rfl rfl ?_
  intro pp ee ss mm aa bb me cd ad E
  refine r_iload_n E (dat dkL_cell 0 rfl) rfl rfl ?_
  refine r_aload_n E (dat dkL_cell 1 rfl) rfl rfl ?_
  refine q_sclen E (dat dkL_cell 2 rfl) ?_
  refine q_icmp_ge (tgt := 12) E (dat dkL_cell 3 rfl) rfl rfl rfl (by omega) (by omega) (fun h3 => ?_) (fun h3 => ?_)
  ·
    have hs : scC G k9 = 113 * nI k9 + 67 := if_neg (by omega)
    refine r_bipush (v := 113) E (dat dkL_cell 8 rfl) rfl ?_
    refine r_iload_n E (dat dkL_cell 9 rfl) rfl rfl ?_
    refine r_imul E (dat dkL_cell 10 rfl) ?_
    refine r_bipush (v := 67) E (dat dkL_cell 11 rfl) rfl ?_
    refine r_iadd E (dat dkL_cell 12 rfl) ?_
    refine r_ireturn E (dat dkL_cell 13 rfl) (by decide) (by decide) ?_
    exact ⟨by rw [hs], rfl⟩
  ·
    have hs : scC G k9 = G.2.2.1.2 k9 := if_pos h3
    refine r_aload_n E (dat dkL_cell 4 rfl) rfl rfl ?_
    refine r_iload_n E (dat dkL_cell 5 rfl) rfl rfl ?_
    refine q_scld E (by assumption) (by assumption) rfl (dat dkL_cell 6 rfl) ?_
    refine r_goto (tgt := 19) E (dat dkL_cell 7 rfl) rfl ?_
    refine r_ireturn E (dat dkL_cell 13 rfl) (by decide) (by decide) ?_
    exact ⟨by rw [hs], rfl⟩

set_option maxRecDepth 100000 in
set_option maxHeartbeats 4000000 in
theorem sp_L_bits (l : Launch) (G : GT) (v : Int32) (a9 b9 : Nat) (M : Mem) (hb9 : b9 = 2 ∨ b9 = 3 ∨ b9 = 4) : MC l G yL_bits cL_bits 3 (some .int) ({ frames := 0, cells := 0, slots := 0, locals := 0 } : Room) [] lk0 [iv v, iv (nI a9), iv (nI b9)] (M) (fun r M2 => (∃ q, q < 2 ^ b9 ∧ r = some (iv (nI q))) ∧ M2 = M) := by
  refine MC.of RL [some (iv v), some (iv (nI a9)), some (iv (nI b9))] 0 (by decide +kernel) rfl rfl rfl ?_
  intro pp ee ss mm aa bb me cd ad E
  refine r_iload_n E (dat dkL_bits 0 rfl) rfl rfl ?_
  refine r_iload_n E (dat dkL_bits 1 rfl) rfl rfl ?_
  refine r_iushr E (dat dkL_bits 2 rfl) ?_
  refine r_iconst (v := 1) E (dat dkL_bits 3 rfl) rfl ?_
  refine r_iload_n E (dat dkL_bits 4 rfl) rfl rfl ?_
  refine r_ishl E (dat dkL_bits 5 rfl) ?_
  refine r_iconst (v := 1) E (dat dkL_bits 6 rfl) rfl ?_
  refine r_isub E (dat dkL_bits 7 rfl) ?_
  refine r_iand E (dat dkL_bits 8 rfl) ?_
  refine r_ireturn E (dat dkL_bits 9 rfl) (by decide) (by decide) ?_
  obtain ⟨q, h1, h2⟩ := bits_ex _ b9 hb9
  exact ⟨⟨q, h1, by rw [← h2]⟩, rfl⟩

set_option maxRecDepth 100000 in
set_option maxHeartbeats 4000000 in
theorem sp_L_down (l : Launch) (G : GT) (w : Nat) (M : Mem) (hw : w < 4) : MC l G yL_down cL_down 1 (some .int) ({ frames := 0, cells := 0, slots := 0, locals := 0 } : Room) [] lk0 [iv (nI w)] (M) (fun r M2 => r = some (iv (dnI w)) ∧ M2 = M) := by
  refine MC.of RL [some (iv (nI w))] 0 (by decide +kernel) rfl rfl rfl ?_
  intro pp ee ss mm aa bb me cd ad E
  refine r_iload_n E (dat dkL_down 0 rfl) rfl rfl ?_
  refine r_if_ne (tgt := 8) E (dat dkL_down 1 rfl) rfl (fun h1 => ?_) (fun h1 => ?_)
  ·
    refine r_iload_n E (dat dkL_down 4 rfl) rfl rfl ?_
    refine r_iconst (v := 2) E (dat dkL_down 5 rfl) rfl ?_
    refine q_icmp_ne (tgt := 17) E (dat dkL_down 6 rfl) rfl rfl (b := 2) rfl (by omega) (by omega) (fun h10 => ?_) (fun h10 => ?_)
    ·
      refine r_iconst (v := 0) E (dat dkL_down 9 rfl) rfl ?_
      refine r_ireturn E (dat dkL_down 10 rfl) (by decide) (by decide) ?_
      refine ⟨?_, rfl⟩
      rcases (show w = 0 ∨ w = 1 ∨ w = 2 ∨ w = 3 by omega) with rfl | rfl | rfl | rfl <;> first | with_reducible rfl | omega | exact absurd rfl h1 | exact absurd h1 (by decide) | rfl
    ·
      refine r_iconst (v := 1) E (dat dkL_down 7 rfl) rfl ?_
      refine r_goto (tgt := 18) E (dat dkL_down 8 rfl) rfl ?_
      refine r_ireturn E (dat dkL_down 10 rfl) (by decide) (by decide) ?_
      refine ⟨?_, rfl⟩
      rcases (show w = 0 ∨ w = 1 ∨ w = 2 ∨ w = 3 by omega) with rfl | rfl | rfl | rfl <;> first | with_reducible rfl | omega | exact absurd rfl h1 | exact absurd h1 (by decide) | rfl
  ·
    refine r_iconst (v := -1) E (dat dkL_down 2 rfl) rfl ?_
    refine r_goto (tgt := 18) E (dat dkL_down 3 rfl) rfl ?_
    refine r_ireturn E (dat dkL_down 10 rfl) (by decide) (by decide) ?_
    refine ⟨?_, rfl⟩
    rcases (show w = 0 ∨ w = 1 ∨ w = 2 ∨ w = 3 by omega) with rfl | rfl | rfl | rfl <;> first | with_reducible rfl | omega | exact absurd rfl h1 | exact absurd h1 (by decide) | rfl

set_option maxRecDepth 100000 in
set_option maxHeartbeats 4000000 in
theorem sp_L_right (l : Launch) (G : GT) (w : Nat) (M : Mem) (hw : w < 4) : MC l G yL_right cL_right 1 (some .int) ({ frames := 0, cells := 0, slots := 0, locals := 0 } : Room) [] lk0 [iv (nI w)] (M) (fun r M2 => r = some (iv (rtI w)) ∧ M2 = M) := by
  refine MC.of RL [some (iv (nI w))] 0 (by decide +kernel) rfl rfl rfl ?_
  intro pp ee ss mm aa bb me cd ad E
  refine r_iload_n E (dat dkL_right 0 rfl) rfl rfl ?_
  refine r_iconst (v := 1) E (dat dkL_right 1 rfl) rfl ?_
  refine q_icmp_ne (tgt := 9) E (dat dkL_right 2 rfl) rfl rfl (b := 1) rfl (by omega) (by omega) (fun h2 => ?_) (fun h2 => ?_)
  ·
    refine r_iload_n E (dat dkL_right 5 rfl) rfl rfl ?_
    refine r_iconst (v := 3) E (dat dkL_right 6 rfl) rfl ?_
    refine q_icmp_ne (tgt := 18) E (dat dkL_right 7 rfl) rfl rfl (b := 3) rfl (by omega) (by omega) (fun h11 => ?_) (fun h11 => ?_)
    ·
      refine r_iconst (v := 0) E (dat dkL_right 10 rfl) rfl ?_
      refine r_ireturn E (dat dkL_right 11 rfl) (by decide) (by decide) ?_
      refine ⟨?_, rfl⟩
      rcases (show w = 0 ∨ w = 1 ∨ w = 2 ∨ w = 3 by omega) with rfl | rfl | rfl | rfl <;> first | with_reducible rfl | omega | rfl
    ·
      refine r_iconst (v := -1) E (dat dkL_right 8 rfl) rfl ?_
      refine r_goto (tgt := 19) E (dat dkL_right 9 rfl) rfl ?_
      refine r_ireturn E (dat dkL_right 11 rfl) (by decide) (by decide) ?_
      refine ⟨?_, rfl⟩
      rcases (show w = 0 ∨ w = 1 ∨ w = 2 ∨ w = 3 by omega) with rfl | rfl | rfl | rfl <;> first | with_reducible rfl | omega | rfl
  ·
    refine r_iconst (v := 1) E (dat dkL_right 3 rfl) rfl ?_
    refine r_goto (tgt := 19) E (dat dkL_right 4 rfl) rfl ?_
    refine r_ireturn E (dat dkL_right 11 rfl) (by decide) (by decide) ?_
    refine ⟨?_, rfl⟩
    rcases (show w = 0 ∨ w = 1 ∨ w = 2 ∨ w = 3 by omega) with rfl | rfl | rfl | rfl <;> first | with_reducible rfl | omega | rfl

set_option maxRecDepth 100000 in
set_option maxHeartbeats 4000000 in
theorem sp_L_level (l : Launch) (G : GT) (B : Nat → Nat → Int32) (x : PP) (T : Nat → Nat → Int32) (r c : Nat) (M : Mem) (hA0 : M 0 = (LE B x T)) (hr : r < 7) (hc : c < 7) : MC l G yL_level cL_level 3 (some .int) ({ frames := 0, cells := 0, slots := 0, locals := 0 } : Room) [9] lk0 [rv 0 0, iv (nI r), iv (nI c)] (M) (fun r9 M2 => r9 = some (iv (lvL B x T r c)) ∧ M2 = M) := by
  obtain ⟨M0, rfl⟩ : ∃ M0, M = m1 ((LE B x T)) M0 := ⟨M, (m1_of hA0).symm⟩
  clear hA0
  refine MC.of RL [some (rv 0 0), some (iv (nI r)), some (iv (nI c))] 0 (by decide +kernel) rfl rfl rfl ?_
  intro pp ee ss mm aa bb me cd ad E
  refine r_aload_n E (dat dkL_level 0 rfl) rfl rfl ?_
  refine q_geta E fl_L_9 (dat dkL_level 1 rfl) rfl rfl rfl ?_
  refine r_iload_n E (dat dkL_level 2 rfl) rfl rfl ?_
  refine q_laa (a := 0) E (dat dkL_level 3 rfl) rfl rfl rfl (by decide) rfl hr ?_
  refine r_iload_n E (dat dkL_level 4 rfl) rfl rfl ?_
  refine q_ialv E (dat dkL_level 5 rfl) (lae (by decide) hr) (lok (Nat.le_of_ble_eq_true rfl) rfl (by decide) hr) (by decide) rfl (by omega) (gh1_0 rfl) ?_
  refine r_aload_n E (dat dkL_level 6 rfl) rfl rfl ?_
  refine q_geta E fl_L_14 (dat dkL_level 7 rfl) rfl rfl rfl ?_
  refine r_iload_n E (dat dkL_level 8 rfl) rfl rfl ?_
  refine q_laa (a := 1) E (dat dkL_level 9 rfl) rfl rfl rfl (by decide) rfl hr ?_
  refine r_iload_n E (dat dkL_level 10 rfl) rfl rfl ?_
  refine q_ialv E (dat dkL_level 11 rfl) (lae (by decide) hr) (lok (Nat.le_of_ble_eq_true rfl) rfl (by decide) hr) (by decide) rfl (by omega) (gh1_0 rfl) ?_
  refine r_iadd E (dat dkL_level 12 rfl) ?_
  refine r_ireturn E (dat dkL_level 13 rfl) (by decide) (by decide) ?_
  exact ⟨rfl, rfl⟩

set_option maxRecDepth 100000 in
set_option maxHeartbeats 4000000 in
theorem sp_L_lowest (l : Launch) (G : GT) (B : Nat → Nat → Int32) (x : PP) (T : Nat → Nat → Int32) (r c : Nat) (M : Mem) (hA0 : M 0 = (LE B x T)) (hr1 : 1 ≤ r) (hr : r < 6) (hc1 : 1 ≤ c) (hc : c < 6) : MC l G yL_lowest cL_lowest 5 (some .int) ({ frames := 1, cells := 0, slots := 0, locals := 22 } : Room) [9] lk0 [rv 0 0, iv (nI r), iv (nI c)] (M) (fun r9 M2 => r9 = some (iv (nI (lwW B x T r c))) ∧ M2 = M) := by
  obtain ⟨M0, rfl⟩ : ∃ M0, M = m1 ((LE B x T)) M0 := ⟨M, (m1_of hA0).symm⟩
  clear hA0
  refine MC.of RL [some (rv 0 0), some (iv (nI r)), some (iv (nI c)), none, none] 2 (by decide +kernel) rfl rfl rfl ?_
  intro pp ee ss mm aa bb me cd ad E
  refine r_iconst (v := 0) E (dat dkL_lowest 0 rfl) rfl ?_
  refine r_istore_3 E (dat dkL_lowest 1 rfl) rfl rfl ?_
  refine r_iconst (v := 1) E (dat dkL_lowest 2 rfl) rfl ?_
  refine r_istore_4 E (dat dkL_lowest 3 rfl) rfl rfl ?_
  refine r_for (3) (fun _ => True) (fun i => m1 (LE B x T) M0) (fun i => [some (rv 0 0), some (iv (nI r)), some (iv (nI c)), some (iv (nI (lwD (lvL B x T) r c i))), some (iv (nI (i + 1)))]) trivial rfl rfl ?_ ?_
  · intro i hi hI kk
    have hle := lwD_le (lev := lvL B x T) (r := r) (c := c) i
    refine r_iload E (dat dkL_lowest 4 rfl) rfl ?_
    refine r_iconst (v := 4) E (dat dkL_lowest 5 rfl) rfl ?_
    refine q_icmp_ge (tgt := 57) E (dat dkL_lowest 6 rfl) rfl rfl (b := 4) rfl (by omega) (by omega) (fun h8 => ?_) (fun h8 => ?_)
    ·
      omega
    ·
      refine r_aload_n E (dat dkL_lowest 7 rfl) rfl rfl ?_
      refine r_iload_n E (dat dkL_lowest 8 rfl) rfl rfl ?_
      refine r_iload E (dat dkL_lowest 9 rfl) rfl ?_
      refine r_callS (μ := []) E (sp_L_down l G (i + 1) _ (by omega)) my_L_down is_L_down ml_L_69 cm_nil rfl rfl (by decide) (Nat.le_of_ble_eq_true rfl) (dat dkL_lowest 10 rfl) ?_
      rintro _ _ ⟨rfl, rfl⟩
      refine ⟨_, Mrg_z rfl, ?_⟩
      refine r_iadd E (dat dkL_lowest 11 rfl) ?_
      rw [dn_r hr1]
      refine r_iload_n E (dat dkL_lowest 12 rfl) rfl rfl ?_
      refine r_iload E (dat dkL_lowest 13 rfl) rfl ?_
      refine r_callS (μ := []) E (sp_L_right l G (i + 1) _ (by omega)) my_L_right is_L_right ml_L_73 cm_nil rfl rfl (by decide) (Nat.le_of_ble_eq_true rfl) (dat dkL_lowest 14 rfl) ?_
      rintro _ _ ⟨rfl, rfl⟩
      refine ⟨_, Mrg_z rfl, ?_⟩
      refine r_iadd E (dat dkL_lowest 15 rfl) ?_
      rw [rt_c hc1]
      refine r_callV (κ := 9) (μ := [0]) E (sp_L_level l G B x T (dR r (i + 1)) (dC c (i + 1)) _ rfl (by have := @dR_b r (i + 1); omega) (by have := @dC_b c (i + 1); omega)) my_L_level iv_L_level ml_L_76 (cm_of rfl) ⟨by decide, rfl, rfl⟩ rfl rfl rfl rfl (by decide) (Nat.le_of_ble_eq_true rfl) (dat dkL_lowest 16 rfl) ?_
      rintro _ _ ⟨rfl, rfl⟩
      refine ⟨_, Mrg_z rfl, ?_⟩
      refine r_aload_n E (dat dkL_lowest 17 rfl) rfl rfl ?_
      refine r_iload_n E (dat dkL_lowest 18 rfl) rfl rfl ?_
      refine r_iload_n E (dat dkL_lowest 19 rfl) rfl rfl ?_
      refine r_callS (μ := []) E (sp_L_down l G (lwD (lvL B x T) r c i) _ (by omega)) my_L_down is_L_down ml_L_69 cm_nil rfl rfl (by decide) (Nat.le_of_ble_eq_true rfl) (dat dkL_lowest 20 rfl) ?_
      rintro _ _ ⟨rfl, rfl⟩
      refine ⟨_, Mrg_z rfl, ?_⟩
      refine r_iadd E (dat dkL_lowest 21 rfl) ?_
      rw [dn_r hr1]
      refine r_iload_n E (dat dkL_lowest 22 rfl) rfl rfl ?_
      refine r_iload_n E (dat dkL_lowest 23 rfl) rfl rfl ?_
      refine r_callS (μ := []) E (sp_L_right l G (lwD (lvL B x T) r c i) _ (by omega)) my_L_right is_L_right ml_L_73 cm_nil rfl rfl (by decide) (Nat.le_of_ble_eq_true rfl) (dat dkL_lowest 24 rfl) ?_
      rintro _ _ ⟨rfl, rfl⟩
      refine ⟨_, Mrg_z rfl, ?_⟩
      refine r_iadd E (dat dkL_lowest 25 rfl) ?_
      rw [rt_c hc1]
      refine r_callV (κ := 9) (μ := [0]) E (sp_L_level l G B x T (dR r (lwD (lvL B x T) r c i)) (dC c (lwD (lvL B x T) r c i)) _ rfl (by have := @dR_b r (lwD (lvL B x T) r c i); omega) (by have := @dC_b c (lwD (lvL B x T) r c i); omega)) my_L_level iv_L_level ml_L_76 (cm_of rfl) ⟨by decide, rfl, rfl⟩ rfl rfl rfl rfl (by decide) (Nat.le_of_ble_eq_true rfl) (dat dkL_lowest 26 rfl) ?_
      rintro _ _ ⟨rfl, rfl⟩
      refine ⟨_, Mrg_z rfl, ?_⟩
      refine r_icmp_ge (tgt := 51) E (dat dkL_lowest 27 rfl) rfl (fun h45 => ?_) (fun h45 => ?_)
      ·
        have h9 := lwD_n (i32_nlt h45)
        refine q_iinc_4 E (dat dkL_lowest 30 rfl) rfl rfl ?_
        refine r_goto (tgt := 5) E (dat dkL_lowest 31 rfl) rfl ?_
        rw [h9] at kk
        exact kk trivial
      ·
        have h9 := lwD_y (i32_lt h45)
        refine r_iload E (dat dkL_lowest 28 rfl) rfl ?_
        refine r_istore_3 E (dat dkL_lowest 29 rfl) rfl rfl ?_
        refine q_iinc_4 E (dat dkL_lowest 30 rfl) rfl rfl ?_
        refine r_goto (tgt := 5) E (dat dkL_lowest 31 rfl) rfl ?_
        rw [h9] at kk
        exact kk trivial
  · intro hI
    refine r_iload E (dat dkL_lowest 4 rfl) rfl ?_
    refine r_iconst (v := 4) E (dat dkL_lowest 5 rfl) rfl ?_
    refine q_icmp_ge (tgt := 57) E (dat dkL_lowest 6 rfl) rfl rfl (b := 4) rfl (by omega) (by omega) (fun h8 => ?_) (fun h8 => ?_)
    ·
      refine r_iload_n E (dat dkL_lowest 32 rfl) rfl rfl ?_
      refine r_ireturn E (dat dkL_lowest 33 rfl) (by decide) (by decide) ?_
      exact ⟨rfl, rfl⟩
    ·
      omega

set_option maxRecDepth 100000 in
set_option maxHeartbeats 4000000 in
theorem sp_L_flow (l : Launch) (G : GT) (B : Nat → Nat → Int32) (x : PP) (T : Nat → Nat → Int32) (r c : Nat) (M : Mem) (hA0 : M 0 = (LE B x T)) (hx : PIv x) (hw : LWi x) (hB : WLi B x) (hh : HTi x) (hT : WBi x T) (hin : inC x r c) : MC l G yL_flow cL_flow 5 (some .int) ({ frames := 2, cells := 0, slots := 0, locals := 46 } : Room) [9] lk0 [rv 0 0, iv (nI r), iv (nI c)] (M) (fun r9 M2 => r9 = some (iv (flO x.2.1 (T 1) (clC x r c) (loF (nbx x) (fun k => x.2.1 k + T 1 k) (clC x r c) 4))) ∧ M2 = M) := by
  obtain ⟨M0, rfl⟩ : ∃ M0, M = m1 ((LE B x T)) M0 := ⟨M, (m1_of hA0).symm⟩
  clear hA0
  refine MC.of RL [some (rv 0 0), some (iv (nI r)), some (iv (nI c)), none, none] 2 (by decide +kernel) rfl rfl rfl ?_
  intro pp ee ss mm aa bb me cd ad E
  obtain ⟨⟨hr1, hr5⟩, hc1, hc5⟩ := LW_r hw hin
  obtain ⟨hin2, hlo⟩ := lwW_of hx hw hB hh hT hin
  have hw4 := @lwW_lt B x T r c
  have hk := clC_lt hx.2.2.1 hin
  have hk2 := clC_lt hx.2.2.1 hin2
  have hb1 := @dR_b r (lwW B x T r c)
  have hb2 := @dC_b c (lwW B x T r c)
  have e1 := lev_k hh hT hk
  have e2 := lev_k hh hT hk2
  have g1 := hh _ hk
  have g2 := hh _ hk2
  have g3 := WB_k hT hk
  have g4 := WB_k hT hk2
  have hfe := fl_eq (a := x.2.1 (clC x r c) + T 1 (clC x r c)) (b := x.2.1 (clC x (dR r (lwW B x T r c)) (dC c (lwW B x T r c))) + T 1 (clC x (dR r (lwW B x T r c)) (dC c (lwW B x T r c)))) (w := T 1 (clC x r c)) (by omega) (by omega) g3.1 rfl
  rw [hlo]
  refine r_aload_n E (dat dkL_flow 0 rfl) rfl rfl ?_
  refine r_iload_n E (dat dkL_flow 1 rfl) rfl rfl ?_
  refine r_iload_n E (dat dkL_flow 2 rfl) rfl rfl ?_
  refine r_callV (κ := 9) (μ := [0]) E (sp_L_lowest l G B x T r c _ rfl hr1 (by omega) hc1 (by omega)) my_L_lowest iv_L_lowest ml_L_80 (cm_of rfl) ⟨by decide, rfl, rfl⟩ rfl rfl rfl rfl (by decide) (Nat.le_of_ble_eq_true rfl) (dat dkL_flow 3 rfl) ?_
  rintro _ _ ⟨rfl, rfl⟩
  refine ⟨_, Mrg_z rfl, ?_⟩
  refine r_istore_3 E (dat dkL_flow 4 rfl) rfl rfl ?_
  refine r_aload_n E (dat dkL_flow 5 rfl) rfl rfl ?_
  refine r_iload_n E (dat dkL_flow 6 rfl) rfl rfl ?_
  refine r_iload_n E (dat dkL_flow 7 rfl) rfl rfl ?_
  refine r_callV (κ := 9) (μ := [0]) E (sp_L_level l G B x T r c _ rfl (by omega) (by omega)) my_L_level iv_L_level ml_L_76 (cm_of rfl) ⟨by decide, rfl, rfl⟩ rfl rfl rfl rfl (by decide) (Nat.le_of_ble_eq_true rfl) (dat dkL_flow 8 rfl) ?_
  rintro _ _ ⟨rfl, rfl⟩
  refine ⟨_, Mrg_z rfl, ?_⟩
  rw [lvL_in (by omega) hin]
  refine r_aload_n E (dat dkL_flow 9 rfl) rfl rfl ?_
  refine r_iload_n E (dat dkL_flow 10 rfl) rfl rfl ?_
  refine r_iload_n E (dat dkL_flow 11 rfl) rfl rfl ?_
  refine r_callS (μ := []) E (sp_L_down l G (lwW B x T r c) _ (by omega)) my_L_down is_L_down ml_L_69 cm_nil rfl rfl (by decide) (Nat.le_of_ble_eq_true rfl) (dat dkL_flow 12 rfl) ?_
  rintro _ _ ⟨rfl, rfl⟩
  refine ⟨_, Mrg_z rfl, ?_⟩
  refine r_iadd E (dat dkL_flow 13 rfl) ?_
  rw [dn_r hr1]
  refine r_iload_n E (dat dkL_flow 14 rfl) rfl rfl ?_
  refine r_iload_n E (dat dkL_flow 15 rfl) rfl rfl ?_
  refine r_callS (μ := []) E (sp_L_right l G (lwW B x T r c) _ (by omega)) my_L_right is_L_right ml_L_73 cm_nil rfl rfl (by decide) (Nat.le_of_ble_eq_true rfl) (dat dkL_flow 16 rfl) ?_
  rintro _ _ ⟨rfl, rfl⟩
  refine ⟨_, Mrg_z rfl, ?_⟩
  refine r_iadd E (dat dkL_flow 17 rfl) ?_
  rw [rt_c hc1]
  refine r_callV (κ := 9) (μ := [0]) E (sp_L_level l G B x T (dR r (lwW B x T r c)) (dC c (lwW B x T r c)) _ rfl (by omega) (by omega)) my_L_level iv_L_level ml_L_76 (cm_of rfl) ⟨by decide, rfl, rfl⟩ rfl rfl rfl rfl (by decide) (Nat.le_of_ble_eq_true rfl) (dat dkL_flow 18 rfl) ?_
  rintro _ _ ⟨rfl, rfl⟩
  refine ⟨_, Mrg_z rfl, ?_⟩
  rw [lvL_in (by omega) hin2]
  refine r_isub E (dat dkL_flow 19 rfl) ?_
  refine r_istore_4 E (dat dkL_flow 20 rfl) rfl rfl ?_
  refine r_iload E (dat dkL_flow 21 rfl) rfl ?_
  refine r_iconst (v := 2) E (dat dkL_flow 22 rfl) rfl ?_
  refine r_icmp_ge (tgt := 42) E (dat dkL_flow 23 rfl) rfl (fun h35 => ?_) (fun h35 => ?_)
  ·
    refine r_aload_n E (dat dkL_flow 26 rfl) rfl rfl ?_
    refine q_geta E fl_L_14 (dat dkL_flow 27 rfl) rfl rfl rfl ?_
    refine r_iload_n E (dat dkL_flow 28 rfl) rfl rfl ?_
    refine q_laa (a := 1) E (dat dkL_flow 29 rfl) rfl rfl rfl (by decide) rfl (by omega) ?_
    refine r_iload_n E (dat dkL_flow 30 rfl) rfl rfl ?_
    refine q_ialv E (dat dkL_flow 31 rfl) (lae (by decide) (by omega)) (lok (Nat.le_of_ble_eq_true rfl) rfl (by decide) (by omega)) (by decide) rfl (by omega) (gh1_0 (LE_w (by omega) hin)) ?_
    refine r_iload E (dat dkL_flow 32 rfl) rfl ?_
    refine r_iconst (v := 2) E (dat dkL_flow 33 rfl) rfl ?_
    refine r_idiv E (dat dkL_flow 34 rfl) (by decide) ?_
    refine r_mmin E ml_L_83 (by decide) (dat dkL_flow 35 rfl) ?_
    refine r_ireturn E (dat dkL_flow 36 rfl) (by decide) (by decide) ?_
    refine ⟨?_, rfl⟩
    show _ = some (iv (flA (x.2.1 (clC x r c) + T 1 (clC x r c) - x.2.1 _ - T 1 _) (T 1 (clC x r c))))
    rw [i32_sub2]
    first
      | rw [hfe.2 (i32_nlt h35)]
      | rw [hfe.1 (i32_lt h35)]
  ·
    refine r_iconst (v := 0) E (dat dkL_flow 24 rfl) rfl ?_
    refine r_goto (tgt := 57) E (dat dkL_flow 25 rfl) rfl ?_
    refine r_ireturn E (dat dkL_flow 36 rfl) (by decide) (by decide) ?_
    refine ⟨?_, rfl⟩
    show _ = some (iv (flA (x.2.1 (clC x r c) + T 1 (clC x r c) - x.2.1 _ - T 1 _) (T 1 (clC x r c))))
    rw [i32_sub2]
    first
      | rw [hfe.2 (i32_nlt h35)]
      | rw [hfe.1 (i32_lt h35)]
