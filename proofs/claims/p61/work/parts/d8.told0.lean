/-! the told text: a String that the law made; its signs four by four in ints -/
theorem nI_or8 {a c : Nat} (ha : a < 2 ^ 23) (hc : c < 256) : (nI a <<< ((8 : Int32) &&& 31)) ||| nI c = nI (a * 256 + c) := by
  rw [pk_shlN ((8 : Int32) &&& 31) 8 (by decide) (by omega)]
  apply Int32.toBitVec_inj.mp
  apply BitVec.eq_of_toNat_eq
  show ((nI (a * 2 ^ 8)).toBitVec ||| (nI c).toBitVec).toNat = (nI (a * 256 + c)).toBitVec.toNat
  rw [BitVec.toNat_or, pk_tn (by omega), pk_tn (by omega), pk_tn (by omega)]
  have h := Nat.shiftLeft_add_eq_or_of_lt (b := c) (i := 8) hc a
  rw [Nat.shiftLeft_eq] at h
  omega
theorem nI_b8 {m : Nat} (h : m % 256 < 128) : (nI m).toInt8.toInt32 = nI (m % 256) := by
  have e : (nI m).toInt8 = (nI (m % 256)).toInt8 := by
    apply Int8.toBitVec_inj.mp
    show BitVec.signExtend 8 (BitVec.ofNat 32 m) = BitVec.signExtend 8 (BitVec.ofNat 32 (m % 256))
    rw [BitVec.signExtend_eq_setWidth_of_le _ (by decide), BitVec.signExtend_eq_setWidth_of_le _ (by decide)]
    apply BitVec.eq_of_toNat_eq
    simp
  rw [e]
  exact (by decide +kernel : ∀ v, v < 128 → (nI v).toInt8.toInt32 = nI v) _ h
/-- c signs from p on, as one number -/
def chN (ch : Nat → Nat) (p : Nat) : Nat → Nat
  | 0 => 0
  | c + 1 => chN ch p c * 256 + ch (p + c)
theorem chN_lt {ch : Nat → Nat} (h : ∀ j, ch j < 128) {p : Nat} : ∀ c, chN ch p c < 256 ^ c
  | 0 => Nat.one_pos
  | c + 1 => by
    have h1 := chN_lt h (p := p) c
    have h2 := h (p + c)
    show chN ch p c * 256 + ch (p + c) < 256 ^ c * 256
    omega
theorem chN_4 {ch : Nat → Nat} (h : ∀ j, ch j < 128) {p : Nat} : chN ch p 4 = ((ch p * 256 + ch (p + 1)) * 256 + ch (p + 2)) * 256 + ch (p + 3) := by
  show ((((0 * 256 + ch (p + 0)) * 256 + ch (p + 1)) * 256 + ch (p + 2)) * 256 + ch (p + 3)) = _
  rw [Nat.zero_mul, Nat.zero_add, Nat.add_zero]
theorem pf4_at {bs : Nat → Int32} {ch : Nat → Nat} (h : ∀ j, ch j < 128) {n p : Nat} (j : Nat) : pf4 bs n (nI (chN ch p 4)) j = if n ≤ j ∧ j < n + 4 then nI (ch (p + (j - n))) else bs j := by
  have a0 := h p
  have a1 := h (p + 1)
  have a2 := h (p + 2)
  have a3 := h (p + 3)
  have e := chN_4 h (p := p)
  have hl : chN ch p 4 < 2 ^ 31 := by rw [e]; omega
  unfold pf4
  rw [pk_ushrN (by omega) 24 24 (by decide), pk_ushrN (by omega) 16 16 (by decide), pk_ushrN (by omega) 8 8 (by decide)]
  have b0 : chN ch p 4 / 2 ^ 24 = ch p := by rw [e]; omega
  have b1 : chN ch p 4 / 2 ^ 16 % 256 = ch (p + 1) := by rw [e]; omega
  have b2 : chN ch p 4 / 2 ^ 8 % 256 = ch (p + 2) := by rw [e]; omega
  have b3 : chN ch p 4 % 256 = ch (p + 3) := by rw [e]; omega
  rw [nI_b8 (m := chN ch p 4 / 2 ^ 24) (by rw [b0]; omega), nI_b8 (m := chN ch p 4 / 2 ^ 16) (by rw [b1]; omega), nI_b8 (m := chN ch p 4 / 2 ^ 8) (by rw [b2]; omega), nI_b8 (m := chN ch p 4) (by rw [b3]; omega), b1, b2, b3, b0, Nat.mod_eq_of_lt (by omega)]
  by_cases h3 : j = n + 3
  · subst h3; rw [pk_us, if_pos (by omega), Nat.add_sub_cancel_left]
  · rw [pk_un h3]
    by_cases h2 : j = n + 2
    · subst h2; rw [pk_us, if_pos (by omega), Nat.add_sub_cancel_left]
    · rw [pk_un h2]
      by_cases h1 : j = n + 1
      · subst h1; rw [pk_us, if_pos (by omega), Nat.add_sub_cancel_left]
      · rw [pk_un h1]
        by_cases h0 : j = n
        · subst h0; rw [pk_us, if_pos (by omega), Nat.sub_self, Nat.add_zero]
        · rw [pk_un h0, if_neg (by omega)]
theorem ap5_at {bs : Nat → Int32} {ch : Nat → Nat} (h : ∀ j, ch j < 128) {n : Nat} (j : Nat) : ap5 bs n (nI (chN ch n 4)) (nI (chN ch (n + 4) 4)) (nI (chN ch (n + 8) 4)) (nI (chN ch (n + 12) 4)) (nI (chN ch (n + 16) 4)) j = if n ≤ j ∧ j < n + 20 then nI (ch j) else bs j := by
  unfold ap5
  rw [pf4_at h, pf4_at h, pf4_at h, pf4_at h, pf4_at h]
  by_cases h4 : n + 16 ≤ j ∧ j < n + 16 + 4
  · rw [if_pos h4, if_pos (by omega)]; congr 2; omega
  · rw [if_neg h4]
    by_cases h3 : n + 12 ≤ j ∧ j < n + 12 + 4
    · rw [if_pos h3, if_pos (by omega)]; congr 2; omega
    · rw [if_neg h3]
      by_cases h2 : n + 8 ≤ j ∧ j < n + 8 + 4
      · rw [if_pos h2, if_pos (by omega)]; congr 2; omega
      · rw [if_neg h2]
        by_cases h1 : n + 4 ≤ j ∧ j < n + 4 + 4
        · rw [if_pos h1, if_pos (by omega)]; congr 2; omega
        · rw [if_neg h1]
          by_cases h0 : n ≤ j ∧ j < n + 4
          · rw [if_pos h0, if_pos (by omega)]; congr 2; omega
          · rw [if_neg h0, if_neg (by omega)]
section RDY
variable {p : Program} {l : Launch} {e : Env} {R : Room} {s : State} {m : MethodId} {args : Array Value} {below : List Frame} {meth : Method} {c : Code} {G : GT} {Y : LV} {nL : Nat} {Q : State → Prop} {M : Mem} {k n pc : Nat} {L : List (Option AV)} {S : List AV} {cc : ByteArray} {own : String} {ret : Option FieldType}
theorem q_dval (E : EN p s m args meth c G Y cc own nL ret) {idx : Nat} (hlink : Cond.fieldLink own idx "java/lang/String" "value" "[B" ∈ BIG) (hd : decode cc pc = .ok (.getfield idx, 3)) (kk : WM p l e R s m args below meth c G Y nL Q M k n (pc + 3) L (rv 99 14 :: S)) : WM p l e R s m args below meth c G Y nL Q M k n pc L (rv 97 14 :: S) := by
  intro H locs ls hP hS hl
  obtain ⟨hx, hb, hml, hown, hts, hr, hlk, ⟨hnw, hK, hX⟩, hD⟩ := E
  exact vk_getf hx hb hX.2.1.2.2.1 hS hown (hts _ hlink) (fun _ h => h) hd (kk H locs ls hP hS hl)
theorem q_dcod (E : EN p s m args meth c G Y cc own nL ret) {idx : Nat} (hlink : Cond.fieldLink own idx "java/lang/String" "coder" "B" ∈ BIG) (hd : decode cc pc = .ok (.getfield idx, 3)) (kk : WM p l e R s m args below meth c G Y nL Q M k n (pc + 3) L (iv 0 :: S)) : WM p l e R s m args below meth c G Y nL Q M k n pc L (rv 97 14 :: S) := by
  intro H locs ls hP hS hl
  obtain ⟨hx, hb, hml, hown, hts, hr, hlk, ⟨hnw, hK, hX⟩, hD⟩ := E
  exact vk_getf hx hb hX.2.1.2.1 hS hown (hts _ hlink) (fun _ h => h) hd (kk H locs ls hP hS hl)
theorem q_dlen (E : EN p s m args meth c G Y cc own nL ret) (hd : decode cc pc = .ok (.arraylength, 1)) (kk : WM p l e R s m args below meth c G Y nL Q M k n (pc + 1) L (iv (nI G.2.2.2.1) :: S)) : WM p l e R s m args below meth c G Y nL Q M k n pc L (rv 99 14 :: S) := by
  intro H locs ls hP hS hl
  obtain ⟨hx, hb, hml, hown, hts, hr, hlk, ⟨hnw, hK, hX⟩, hD⟩ := E
  exact va_tlen hx hb hX.2.1.2.2.2 hS rfl hd (kk H locs ls hP hS hl)
theorem q_dbld (E : EN p s m args meth c G Y cc own nL ret) {k1 : Nat} {x : Int32} (h14 : G.2.2.2.1 ≤ 142) (hk : k1 < G.2.2.2.1) (hxk : x = nI k1) (hd : decode cc pc = .ok (.baload, 1)) (kk : WM p l e R s m args below meth c G Y nL Q M k n (pc + 1) L (iv (G.2.2.2.2 k1) :: S)) : WM p l e R s m args below meth c G Y nL Q M k n pc L (iv x :: rv 99 14 :: S) := by
  intro H locs ls hP hS hl
  obtain ⟨hx, hb, hml, hown, hts, hr, hlk, ⟨hnw, hK, hX⟩, hD⟩ := E
  exact va_tb hx hb hX.2.1.2.2.2 hS (vp_nI hxk hk (by omega)) (by rw [cl_nI hxk hk (by omega)]; rfl) hd (kk H locs ls hP hS hl)
theorem KRC_d (E : EN p s m args meth c G Y cc own nL ret) : KRC Y s 97 14 "java/lang/String" := by
  intro H locs hS
  obtain ⟨hx, hb, hml, hown, hts, hr, hlk, ⟨hnw, hK, hX⟩, hD⟩ := E
  obtain ⟨cell, h1, h2, h3, -⟩ := hX.2.1.1.kept hS.2.1
  exact ⟨cell, h1, h2, h3⟩
end RDY
theorem ch_d0 : ∀ c, c < 128 → ((nI c &&& 255).toUInt32 % 65536).toInt32 = nI c ∧ narrow .char (.int (nI c)) = .int (nI c) := by decide +kernel
theorem ch_dd {f : Nat → Int32} {n a : Nat} (h : ∀ j, j < n → ∃ c, c < 128 ∧ f j = nI c) (ha : a < n) : ((f a &&& 255).toUInt32 % 65536).toInt32 = f a := by
  obtain ⟨c, hc, e⟩ := h a ha
  rw [e]; exact (ch_d0 c hc).1
theorem ch_dn {f : Nat → Int32} {n a : Nat} (h : ∀ j, j < n → ∃ c, c < 128 ∧ f j = nI c) (ha : a < n) : narrow .char (.int (f a)) = .int (f a) := by
  obtain ⟨c, hc, e⟩ := h a ha
  rw [e]; exact (ch_d0 c hc).2
set_option maxRecDepth 100000 in
set_option maxHeartbeats 4000000 in
theorem dsp_J0_coder_7d493 (l : Launch) (G : GT) (M : Mem) : MC l G yJ0_coder_7d493 cJ0_coder_7d493 1 (some .byte) ({ frames := 0, cells := 0, slots := 0, locals := 0 } : Room) [] lk0 [rv 97 14] (M) (fun r M2 => r = some (iv (0)) ∧ M2 = M) := by
  refine MC.of RJ0 [some (rv 97 14)] 0 (by decide +kernel) rfl rfl rfl ?_
  intro pp ee ss mm aa bb me cd ad E
  refine q_gcs E gs_J0_38 (dat dkJ0_coder_7d493 0 rfl) ?_
  refine r_if_eq (tgt := 13) E (dat dkJ0_coder_7d493 1 rfl) rfl (fun h3 => ?_) (fun h3 => ?_)
  ·
    exact absurd h3 (by decide)
  ·
    refine r_aload_n E (dat dkJ0_coder_7d493 2 rfl) rfl rfl ?_
    refine q_dcod E gs_J0_15 (dat dkJ0_coder_7d493 3 rfl) ?_
    refine r_goto (tgt := 14) E (dat dkJ0_coder_7d493 4 rfl) rfl ?_
    refine r_zreturn E (dat dkJ0_coder_7d493 6 rfl) rfl (by decide) (by decide) ?_
    exact ⟨rfl, rfl⟩
set_option maxRecDepth 100000 in
set_option maxHeartbeats 4000000 in
theorem dsp_J0_length_8abf5 (l : Launch) (G : GT) (M : Mem) : MC l G yJ0_length_8abf5 cJ0_length_8abf5 1 (some .int) ({ frames := 1, cells := 0, slots := 0, locals := 20 } : Room) [] lk0 [rv 97 14] (M) (fun r M2 => r = some (iv (nI (G.2.2.2.1))) ∧ M2 = M) := by
  refine MC.of RJ0 [some (rv 97 14)] 0 (by decide +kernel) rfl rfl rfl ?_
  intro pp ee ss mm aa bb me cd ad E
  refine r_aload_n E (dat dkJ0_length_8abf5 0 rfl) rfl rfl ?_
  refine q_dval E gs_J0_9 (dat dkJ0_length_8abf5 1 rfl) ?_
  refine q_dlen E (dat dkJ0_length_8abf5 2 rfl) ?_
  refine r_aload_n E (dat dkJ0_length_8abf5 3 rfl) rfl rfl ?_
  refine r_callK E (dsp_J0_coder_7d493 l G M) (KRC_d E) my_J0_coder_7d493 iv_J0_coder_7d493 ml_J0_335  rfl rfl (by decide) (Nat.le_of_ble_eq_true rfl) (dat dkJ0_length_8abf5 4 rfl) ?_
  rintro _ _ ⟨rfl, hM⟩
  refine ⟨hM, ?_⟩
  clear hM
  refine r_ishr E (dat dkJ0_length_8abf5 5 rfl) ?_
  refine r_ireturn E (dat dkJ0_length_8abf5 6 rfl) (by decide) (by decide) ?_
  exact ⟨by rw [sh_0], rfl⟩
set_option maxRecDepth 100000 in
set_option maxHeartbeats 4000000 in
theorem dsp_J0_isLatin1_aae02 (l : Launch) (G : GT) (M : Mem) : MC l G yJ0_isLatin1_aae02 cJ0_isLatin1_aae02 1 (some .boolean) ({ frames := 0, cells := 0, slots := 0, locals := 0 } : Room) [] lk0 [rv 97 14] (M) (fun r M2 => r = some (iv (1)) ∧ M2 = M) := by
  refine MC.of RJ0 [some (rv 97 14)] 0 (by decide +kernel) rfl rfl rfl ?_
  intro pp ee ss mm aa bb me cd ad E
  refine q_gcs E gs_J0_38 (dat dkJ0_isLatin1_aae02 0 rfl) ?_
  refine r_if_eq (tgt := 17) E (dat dkJ0_isLatin1_aae02 1 rfl) rfl (fun h3 => ?_) (fun h3 => ?_)
  ·
    exact absurd h3 (by decide)
  ·
    refine r_aload_n E (dat dkJ0_isLatin1_aae02 2 rfl) rfl rfl ?_
    refine q_dcod E gs_J0_15 (dat dkJ0_isLatin1_aae02 3 rfl) ?_
    refine r_if_ne (tgt := 17) E (dat dkJ0_isLatin1_aae02 4 rfl) rfl (fun h10 => ?_) (fun h10 => ?_)
    ·
      exact absurd rfl h10
    ·
      refine r_iconst (v := 1) E (dat dkJ0_isLatin1_aae02 5 rfl) rfl ?_
      refine r_goto (tgt := 18) E (dat dkJ0_isLatin1_aae02 6 rfl) rfl ?_
      refine r_zreturn E (dat dkJ0_isLatin1_aae02 8 rfl) rfl (by decide) (by decide) ?_
      exact ⟨rfl, rfl⟩
set_option maxRecDepth 100000 in
set_option maxHeartbeats 4000000 in
theorem dsp_J1_charAt_3b067 (l : Launch) (G : GT) (a : Nat) (M : Mem) (h14 : G.2.2.2.1 ≤ 142) (hc7 : ∀ j, j < G.2.2.2.1 → ∃ c, c < 128 ∧ G.2.2.2.2 j = nI c) (ha : a < G.2.2.2.1) : MC l G yJ1_charAt_3b067 cJ1_charAt_3b067 2 (some .char) ({ frames := 2, cells := 0, slots := 0, locals := 43 } : Room) [] lk0 [rv 99 14, iv (nI a)] (M) (fun r M2 => r = some (iv (G.2.2.2.2 a)) ∧ M2 = M) := by
  refine MC.of RJ1 [some (rv 99 14), some (iv (nI a))] 0 (by decide +kernel) rfl rfl rfl ?_
  intro pp ee ss mm aa bb me cd ad E
  refine r_iload_n E (dat dkJ1_charAt_3b067 0 rfl) rfl rfl ?_
  refine r_aload_n E (dat dkJ1_charAt_3b067 1 rfl) rfl rfl ?_
  refine q_dlen E (dat dkJ1_charAt_3b067 2 rfl) ?_
  refine r_callS (μ := []) E (sp_J0_checkIndex_df160 l G a (G.2.2.2.1) M ha (by omega)) my_J0_checkIndex_df160 is_J0_checkIndex_df160 ml_J1_9 cm_nil rfl rfl (by decide) (Nat.le_of_ble_eq_true rfl) (dat dkJ1_charAt_3b067 3 rfl) ?_
  rintro _ _ ⟨rfl, hM⟩
  refine ⟨_, Mrg_z hM, ?_⟩
  clear hM
  refine r_aload_n E (dat dkJ1_charAt_3b067 4 rfl) rfl rfl ?_
  refine r_iload_n E (dat dkJ1_charAt_3b067 5 rfl) rfl rfl ?_
  refine q_dbld (k1 := a) E h14 ha rfl (dat dkJ1_charAt_3b067 6 rfl) ?_
  refine r_sipush (v := 255) E (dat dkJ1_charAt_3b067 7 rfl) rfl ?_
  refine r_iand E (dat dkJ1_charAt_3b067 8 rfl) ?_
  refine r_i2c E (dat dkJ1_charAt_3b067 9 rfl) ?_
  rw [ch_dd hc7 ha]
  refine r_zreturn E (dat dkJ1_charAt_3b067 10 rfl) (ch_dn hc7 ha) (by decide) (by decide) ?_
  exact ⟨rfl, rfl⟩
set_option maxRecDepth 100000 in
set_option maxHeartbeats 4000000 in
theorem dsp_J0_charAt_5068e (l : Launch) (G : GT) (a : Nat) (M : Mem) (h14 : G.2.2.2.1 ≤ 142) (hc7 : ∀ j, j < G.2.2.2.1 → ∃ c, c < 128 ∧ G.2.2.2.2 j = nI c) (ha : a < G.2.2.2.1) : MC l G yJ0_charAt_5068e cJ0_charAt_5068e 2 (some .char) ({ frames := 3, cells := 0, slots := 0, locals := 64 } : Room) [] lk0 [rv 97 14, iv (nI a)] (M) (fun r M2 => r = some (iv (G.2.2.2.2 a)) ∧ M2 = M) := by
  refine MC.of RJ0 [some (rv 97 14), some (iv (nI a))] 0 (by decide +kernel) rfl rfl rfl ?_
  intro pp ee ss mm aa bb me cd ad E
  refine r_aload_n E (dat dkJ0_charAt_5068e 0 rfl) rfl rfl ?_
  refine r_callK E (dsp_J0_isLatin1_aae02 l G M) (KRC_d E) my_J0_isLatin1_aae02 iv_J0_isLatin1_aae02 ml_J0_492  rfl rfl (by decide) (Nat.le_of_ble_eq_true rfl) (dat dkJ0_charAt_5068e 1 rfl) ?_
  rintro _ _ ⟨rfl, hM⟩
  refine ⟨hM, ?_⟩
  clear hM
  refine r_if_eq (tgt := 16) E (dat dkJ0_charAt_5068e 2 rfl) rfl (fun h4 => ?_) (fun h4 => ?_)
  ·
    exact absurd h4 (by decide)
  ·
    refine r_aload_n E (dat dkJ0_charAt_5068e 3 rfl) rfl rfl ?_
    refine q_dval E gs_J0_9 (dat dkJ0_charAt_5068e 4 rfl) ?_
    refine r_iload_n E (dat dkJ0_charAt_5068e 5 rfl) rfl rfl ?_
    refine r_callS (μ := []) E (dsp_J1_charAt_3b067 l G a M h14 hc7 ha) my_J1_charAt_3b067 is_J1_charAt_3b067 ml_J0_495 cm_nil rfl rfl (by decide) (Nat.le_of_ble_eq_true rfl) (dat dkJ0_charAt_5068e 6 rfl) ?_
    rintro _ _ ⟨rfl, hM⟩
    refine ⟨_, Mrg_z hM, ?_⟩
    clear hM
    refine r_zreturn E (dat dkJ0_charAt_5068e 7 rfl) (ch_dn hc7 ha) (by decide) (by decide) ?_
    exact ⟨rfl, rfl⟩

