/-! the methods of StringBuilder and String, as the JDK has them -/
set_option maxRecDepth 100000 in
set_option maxHeartbeats 4000000 in
theorem sp_J8_newLength (l : Launch) (G : GT) (cs : Nat → Nat → Nat) (u v w z : Nat) (hz : z = u + max v w) (h0 : 0 < z) (h1 : z < 4096) : NC l G yJ8_newLength_cabcc cJ8_newLength_cabcc 4 (some .int) ({ frames := 1, cells := 0, slots := 0, locals := 16 } : Room) cs [iv (nI u), iv (nI v), iv (nI w)] [] (fun r w2 => r = some (.int (nI z)) ∧ w2 = []) := by
  refine NC.of RJ8 [some (iv (nI u)), some (iv (nI v)), some (iv (nI w)), none] 1 (by decide) rfl rfl rfl (fun p e s m args below meth c E En => ?_)
  refine zr_iload_n E (dat dkJ8_newLength_cabcc 0 rfl) rfl rfl ?_
  refine zr_iload_n E (dat dkJ8_newLength_cabcc 1 rfl) rfl rfl ?_
  refine zr_iload_n E (dat dkJ8_newLength_cabcc 2 rfl) rfl rfl ?_
  refine zr_mmax E ml_J8_194 (by refine ⟨?_, ?_, ?_, ?_⟩ <;> first | decide | exact Nat.le_of_ble_eq_true rfl | (dsimp only; omega)) (dat dkJ8_newLength_cabcc 3 rfl) ?_
  rw [imax_n (z := max v w) rfl (by omega) (by omega)]
  refine zr_iadd E (dat dkJ8_newLength_cabcc 4 rfl) ?_
  rw [nI_add, ← hz]
  refine zr_istore_3 E (dat dkJ8_newLength_cabcc 5 rfl) rfl rfl ?_
  refine zr_iconst E (dat dkJ8_newLength_cabcc 6 rfl) (v := 0) rfl ?_
  refine zr_iload_n E (dat dkJ8_newLength_cabcc 7 rfl) rfl rfl ?_
  refine zr_icmp_ge (tgt := 21) E (dat dkJ8_newLength_cabcc 8 rfl) rfl (fun h => absurd h (nI_nle h0 (by omega))) (fun h => ?_)
  refine zr_iload_n E (dat dkJ8_newLength_cabcc 9 rfl) rfl rfl ?_
  refine zr_ldcI E cn_J8 (dat dkJ8_newLength_cabcc 10 rfl) ?_
  refine zr_icmp_gt (tgt := 21) E (dat dkJ8_newLength_cabcc 11 rfl) rfl (fun h => absurd h (show ¬ nI 2147483639 < _ from nI_nlt (by omega) (by decide))) (fun h => ?_)
  refine zr_iload_n E (dat dkJ8_newLength_cabcc 12 rfl) rfl rfl ?_
  exact z_ireturn E (dat dkJ8_newLength_cabcc 13 rfl) (by decide) (by decide) ⟨rfl, rfl⟩

set_option maxRecDepth 100000 in
set_option maxHeartbeats 4000000 in
theorem sp_J5_newCapacity (l : Launch) (G : GT) (cs : Nat → Nat → Nat) (a b n N q : Nat) (f : Nat → Int32) (h1 : N < q) (h2 : q ≤ 2 * N + 2) (h3 : N ≤ 70) : NC l G yJ5_newCapacity_0f7a4 cJ5_newCapacity_0f7a4 6 (some .int) ({ frames := 2, cells := 0, slots := 0, locals := 40 } : Room) cs [.inl (.ref a), iv (nI q)] [(a, sO b n), (b, bA G N f)] (fun r w2 => r = some (.int (nI (2 * N + 2))) ∧ w2 = [(a, sO b n), (b, bA G N f)]) := by
  refine NC.of RJ5 [some (.inl (.ref a)), some (iv (nI q)), none, none, none, none] 4 (by decide) rfl rfl rfl (fun p e s m args below meth c E En => ?_)
  refine z_alR_n E (dat dkJ5_newCapacity_0f7a4 0 rfl) rfl rfl ?_
  refine z_get E (f := 0) 0 rfl rfl inBJ4 (by decide) gs_J5_15 rfl (dat dkJ5_newCapacity_0f7a4 1 rfl) ?_
  refine z_alen E 1 rfl (dat dkJ5_newCapacity_0f7a4 2 rfl) ?_
  refine zr_istore_2 E (dat dkJ5_newCapacity_0f7a4 3 rfl) rfl rfl ?_
  refine zr_iload_n E (dat dkJ5_newCapacity_0f7a4 4 rfl) rfl rfl ?_
  refine z_alR_n E (dat dkJ5_newCapacity_0f7a4 5 rfl) rfl rfl ?_
  refine z_get E (f := 1) 0 rfl rfl inBJ4 (by decide) gs_J5_22 rfl (dat dkJ5_newCapacity_0f7a4 6 rfl) ?_
  refine zr_ishl E (dat dkJ5_newCapacity_0f7a4 7 rfl) ?_
  rw [shl_0]
  refine zr_istore_3 E (dat dkJ5_newCapacity_0f7a4 8 rfl) rfl rfl ?_
  refine zr_iload_n E (dat dkJ5_newCapacity_0f7a4 9 rfl) rfl rfl ?_
  refine zr_iload_n E (dat dkJ5_newCapacity_0f7a4 10 rfl) rfl rfl ?_
  refine zr_isub E (dat dkJ5_newCapacity_0f7a4 11 rfl) ?_
  rw [pk_sub (by omega)]
  refine zr_istore_4 E (dat dkJ5_newCapacity_0f7a4 12 rfl) rfl rfl ?_
  refine zr_iload_n E (dat dkJ5_newCapacity_0f7a4 13 rfl) rfl rfl ?_
  refine zr_iload E (dat dkJ5_newCapacity_0f7a4 14 rfl) rfl ?_
  refine zr_iload_n E (dat dkJ5_newCapacity_0f7a4 15 rfl) rfl rfl ?_
  refine zr_iconst E (dat dkJ5_newCapacity_0f7a4 16 rfl) (v := 2) rfl ?_
  refine z_alR_n E (dat dkJ5_newCapacity_0f7a4 17 rfl) rfl rfl ?_
  refine z_get E (f := 1) 0 rfl rfl inBJ4 (by decide) gs_J5_22 rfl (dat dkJ5_newCapacity_0f7a4 18 rfl) ?_
  refine zr_ishl E (dat dkJ5_newCapacity_0f7a4 19 rfl) ?_
  rw [shl_0]
  refine zr_iadd E (dat dkJ5_newCapacity_0f7a4 20 rfl) ?_
  rw [nI_2]
  refine z_callS E (sp_J8_newLength l G cs N (q - N) (N + 2) (2 * N + 2) (by omega) (by omega) (by omega)) my_J8_newLength_cabcc is_J8_newLength_cabcc ml_J5_114 (isC := []) (isR := [0, 1]) (wr := [(a, sO b n), (b, bA G N f)]) rfl rfl rfl rfl (by decide) rfl rfl (by refine ⟨?_, ?_, ?_, ?_⟩ <;> first | decide | exact Nat.le_of_ble_eq_true rfl | (dsimp only; omega)) (Nat.le_of_ble_eq_true rfl) (dat dkJ5_newCapacity_0f7a4 21 rfl) ?_
  rintro _ _ ⟨rfl, rfl⟩
  refine zr_istore_5 E (dat dkJ5_newCapacity_0f7a4 22 rfl) rfl rfl ?_
  refine zr_iload E (dat dkJ5_newCapacity_0f7a4 23 rfl) rfl ?_
  refine zr_ldcI E cn_J5 (dat dkJ5_newCapacity_0f7a4 24 rfl) ?_
  refine zr_icmp_ne (tgt := 51) E (dat dkJ5_newCapacity_0f7a4 25 rfl) rfl (fun h => ?_) (fun h => absurd ((nI_eq (by omega) (by decide)).mp (show nI (2 * N + 2) = nI 2147483647 from h)) (by omega))
  refine zr_iload E (dat dkJ5_newCapacity_0f7a4 31 rfl) rfl ?_
  refine z_alR_n E (dat dkJ5_newCapacity_0f7a4 32 rfl) rfl rfl ?_
  refine z_get E (f := 1) 0 rfl rfl inBJ4 (by decide) gs_J5_22 rfl (dat dkJ5_newCapacity_0f7a4 33 rfl) ?_
  refine zr_ishr E (dat dkJ5_newCapacity_0f7a4 34 rfl) ?_
  rw [sh_0]
  exact z_ireturn E (dat dkJ5_newCapacity_0f7a4 35 rfl) (by decide) (by decide) ⟨rfl, rfl⟩

set_option maxRecDepth 100000 in
set_option maxHeartbeats 4000000 in
theorem sp_J7_copyOf (l : Launch) (G : GT) (cs : Nat → Nat → Nat) (b N q : Nat) (f : Nat → Int32) (h1 : N < q) (h2 : q ≤ 142) (hf : Fit8 f) : NC l G yJ7_copyOf_9075b cJ7_copyOf_9075b 3 (some (.array .byte)) ({ frames := 1, cells := 1, slots := 142, locals := 40 } : Room) cs [.inl (.ref b), iv (nI q)] [(b, bA G N f)] (fun r w2 => ∃ (d : Nat) (f2 : Nat → Int32), r = some (.ref d) ∧ w2 = [(b, bA G N f), (d, bA G q f2)] ∧ Fit8 f2 ∧ ∀ j, j < N → f2 j = f j) := by
  refine NC.of RJ7 [some (.inl (.ref b)), some (iv (nI q)), none] 1 (by decide) rfl rfl rfl (fun p e s m args below meth c E En => ?_)
  refine zr_iload_n E (dat dkJ7_copyOf_9075b 0 rfl) rfl rfl ?_
  refine z_alR_n E (dat dkJ7_copyOf_9075b 1 rfl) rfl rfl ?_
  refine z_alen E 0 rfl (dat dkJ7_copyOf_9075b 2 rfl) ?_
  refine zr_icmp_ne (tgt := 14) E (dat dkJ7_copyOf_9075b 3 rfl) rfl (fun h => ?_) (fun h => absurd ((nI_eq (by omega) (by omega)).mp h) (by omega))
  refine zr_iload_n E (dat dkJ7_copyOf_9075b 8 rfl) rfl rfl ?_
  refine z_newB E rfl (by omega) (by decide) (by dsimp only; omega) (dat dkJ7_copyOf_9075b 9 rfl) (fun d => ?_)
  refine z_ws (ws2 := [(b, bA G N f), (d, bA G q (fun _ => 0))]) rfl ?_
  refine z_asR_n (i := 2) E (dat dkJ7_copyOf_9075b 10 rfl) rfl (Nat.le_of_ble_eq_true rfl) rfl (hc_of 1 rfl rfl) rfl ?_
  refine z_alR_n E (dat dkJ7_copyOf_9075b 11 rfl) rfl rfl ?_
  refine zr_iconst E (dat dkJ7_copyOf_9075b 12 rfl) (v := 0) rfl ?_
  refine z_alR_n E (dat dkJ7_copyOf_9075b 13 rfl) rfl rfl ?_
  refine zr_iconst E (dat dkJ7_copyOf_9075b 14 rfl) (v := 0) rfl ?_
  refine z_alR_n E (dat dkJ7_copyOf_9075b 15 rfl) rfl rfl ?_
  refine z_alen E 0 rfl (dat dkJ7_copyOf_9075b 16 rfl) ?_
  refine zr_iload_n E (dat dkJ7_copyOf_9075b 17 rfl) rfl rfl ?_
  refine zr_mmin E ml_J7_304 (by refine ⟨?_, ?_, ?_, ?_⟩ <;> first | decide | exact Nat.le_of_ble_eq_true rfl | (dsimp only; omega)) (dat dkJ7_copyOf_9075b 18 rfl) ?_
  rw [imin_l (by omega) (by omega)]
  refine z_copyC E 0 1 (sp := 0) (dp := 0) (q := N) rfl rfl rfl rfl rfl (by omega) (by omega) (by omega) (by omega) hf ac_J7 (by decide) rfl (dat dkJ7_copyOf_9075b 19 rfl) ?_
  refine z_alR_n E (dat dkJ7_copyOf_9075b 20 rfl) rfl rfl ?_
  exact z_areturn E (Or.inr ⟨_, rfl⟩) (dat dkJ7_copyOf_9075b 21 rfl) (by decide) (by dsimp only; omega) ⟨d, _, rfl, rfl, Fit8_cpy hf Fit8_0, fun j hj => by rw [pk_cpy_in (by omega) (by omega)]; congr 1; omega⟩

set_option maxRecDepth 100000 in
set_option maxHeartbeats 4000000 in
theorem sp_J5_ensure (l : Launch) (G : GT) (cs : Nat → Nat → Nat) (a b n N q : Nat) (f : Nat → Int32) (hq : SBq N q) (hf : Fit8 f) : NC l G yJ5_ensureCapacityInternal_d00df cJ5_ensureCapacityInternal_d00df 3 (none) ({ frames := 3, cells := 1, slots := 142, locals := 66 } : Room) cs [.inl (.ref a), iv (nI q)] [(a, sO b n), (b, bA G N f)] (fun r w2 => r = none ∧ ∃ (b2 : Nat) (f2 : Nat → Int32), w2 = [(a, sO b2 n), (b2, bA G (gr N q) f2)] ∧ Fit8 f2 ∧ ∀ j, j < N → f2 j = f j) := by
  obtain ⟨hq1, hq2, hq3⟩ := hq
  refine NC.of RJ5 [some (.inl (.ref a)), some (iv (nI q)), none] 1 (by decide) rfl rfl rfl (fun p e s m args below meth c E En => ?_)
  refine z_alR_n E (dat dkJ5_ensureCapacityInternal_d00df 0 rfl) rfl rfl ?_
  refine z_get E (f := 0) 0 rfl rfl inBJ4 (by decide) gs_J5_15 rfl (dat dkJ5_ensureCapacityInternal_d00df 1 rfl) ?_
  refine z_alen E 1 rfl (dat dkJ5_ensureCapacityInternal_d00df 2 rfl) ?_
  refine z_alR_n E (dat dkJ5_ensureCapacityInternal_d00df 3 rfl) rfl rfl ?_
  refine z_get E (f := 1) 0 rfl rfl inBJ4 (by decide) gs_J5_22 rfl (dat dkJ5_ensureCapacityInternal_d00df 4 rfl) ?_
  refine zr_ishr E (dat dkJ5_ensureCapacityInternal_d00df 5 rfl) ?_
  rw [sh_0]
  refine zr_istore_2 E (dat dkJ5_ensureCapacityInternal_d00df 6 rfl) rfl rfl ?_
  refine zr_iload_n E (dat dkJ5_ensureCapacityInternal_d00df 7 rfl) rfl rfl ?_
  refine zr_iload_n E (dat dkJ5_ensureCapacityInternal_d00df 8 rfl) rfl rfl ?_
  refine zr_isub E (dat dkJ5_ensureCapacityInternal_d00df 9 rfl) ?_
  rcases Nat.lt_or_ge N q with hlt | hge
  · rw [pk_sub (by omega)]
    refine zr_if_le (tgt := 38) E (dat dkJ5_ensureCapacityInternal_d00df 10 rfl) rfl (fun h => absurd h (nI_nle (by omega) (by omega))) (fun h => ?_)
    refine z_alR_n E (dat dkJ5_ensureCapacityInternal_d00df 11 rfl) rfl rfl ?_
    refine z_alR_n E (dat dkJ5_ensureCapacityInternal_d00df 12 rfl) rfl rfl ?_
    refine z_get E (f := 0) 0 rfl rfl inBJ4 (by decide) gs_J5_15 rfl (dat dkJ5_ensureCapacityInternal_d00df 13 rfl) ?_
    refine z_alR_n E (dat dkJ5_ensureCapacityInternal_d00df 14 rfl) rfl rfl ?_
    refine zr_iload_n E (dat dkJ5_ensureCapacityInternal_d00df 15 rfl) rfl rfl ?_
    refine z_callP E (sp_J5_newCapacity l G cs a b n N q f hlt (by omega) (by omega)) my_J5_newCapacity_0f7a4 pv_0 rfl pr_cap sm_cap ii_J5_newCapacity_0f7a4 ml_J5_104 (q0 := 0) rfl rfl (isC := [0, 1]) (isR := []) (wr := []) rfl rfl rfl rfl (by decide) rfl rfl (by refine ⟨?_, ?_, ?_, ?_⟩ <;> first | decide | exact Nat.le_of_ble_eq_true rfl | (dsimp only; omega)) (Nat.le_of_ble_eq_true rfl) (dat dkJ5_ensureCapacityInternal_d00df 16 rfl) ?_
    rintro _ _ ⟨rfl, rfl⟩
    refine z_alR_n E (dat dkJ5_ensureCapacityInternal_d00df 17 rfl) rfl rfl ?_
    refine z_get E (f := 1) 0 rfl rfl inBJ4 (by decide) gs_J5_22 rfl (dat dkJ5_ensureCapacityInternal_d00df 18 rfl) ?_
    refine zr_ishl E (dat dkJ5_ensureCapacityInternal_d00df 19 rfl) ?_
    rw [shl_0]
    refine z_callS E (sp_J7_copyOf l G cs b N (2 * N + 2) f (by omega) (by omega) hf) my_J7_copyOf_9075b is_J7_copyOf_9075b ml_J5_108 (isC := [1]) (isR := [0]) (wr := [(a, sO b n)]) rfl rfl rfl rfl (by decide) rfl rfl (by refine ⟨?_, ?_, ?_, ?_⟩ <;> first | decide | exact Nat.le_of_ble_eq_true rfl | (dsimp only; omega)) (Nat.le_of_ble_eq_true rfl) (dat dkJ5_ensureCapacityInternal_d00df 20 rfl) ?_
    rintro _ _ ⟨d, f2, rfl, rfl, hf2, hk2⟩
    refine z_put E (f := 0) (ty := .array .byte) 0 rfl rfl inBJ4 tyJ4_ok nmJ4 (by decide) gs_J5_15 rfl (by decide +kernel) rfl rfl (Nat.le_of_ble_eq_true rfl) (ws2 := [(a, sO d n), (b, bA G N f), (d, bA G (2 * N + 2) f2)]) rfl (dat dkJ5_ensureCapacityInternal_d00df 21 rfl) ?_
    refine z_perm [0, 2] (ws2 := [(a, sO d n), (d, bA G (2 * N + 2) f2)]) rfl rfl ?_
    exact z_vreturn E (dat dkJ5_ensureCapacityInternal_d00df 22 rfl) (by decide) (by decide) ⟨rfl, d, f2, by rw [gr, if_neg (by omega)], hf2, hk2⟩
  ·
    refine zr_if_le (tgt := 38) E (dat dkJ5_ensureCapacityInternal_d00df 10 rfl) rfl (fun h => ?_) (fun h => absurd (show nI q - nI N ≤ 0 by rw [Int32.le_iff_toInt_le, pk_sub_toInt (by omega) (by omega), Int32.toInt_zero]; omega) h)
    exact z_vreturn E (dat dkJ5_ensureCapacityInternal_d00df 22 rfl) (by decide) (by decide) ⟨rfl, b, f, by rw [gr, if_pos hge], hf, fun _ _ => rfl⟩

set_option maxRecDepth 100000 in
set_option maxHeartbeats 4000000 in
theorem sp_J5_isLatin1 (l : Launch) (G : GT) (cs : Nat → Nat → Nat) (a b n N : Nat) (f : Nat → Int32) : NC l G yJ5_isLatin1_aae02 cJ5_isLatin1_aae02 1 (some .boolean) ({ frames := 0, cells := 0, slots := 0, locals := 0 } : Room) cs [.inl (.ref a)] [(a, sO b n), (b, bA G N f)] (fun r w2 => r = some (.int 1) ∧ w2 = [(a, sO b n), (b, bA G N f)]) := by
  refine NC.of RJ5 [some (.inl (.ref a))] 0 (by decide) rfl rfl rfl (fun p e s m args below meth c E En => ?_)
  refine zq_gcs E gs_J5_18 (dat dkJ5_isLatin1_aae02 0 rfl) ?_
  refine zr_if_eq (tgt := 17) E (dat dkJ5_isLatin1_aae02 1 rfl) rfl (fun h => absurd h (by decide)) (fun h => ?_)
  refine z_alR_n E (dat dkJ5_isLatin1_aae02 2 rfl) rfl rfl ?_
  refine z_get E (f := 1) 0 rfl rfl inBJ4 (by decide) gs_J5_22 rfl (dat dkJ5_isLatin1_aae02 3 rfl) ?_
  refine zr_if_ne (tgt := 17) E (dat dkJ5_isLatin1_aae02 4 rfl) rfl (fun h => absurd rfl h) (fun h => ?_)
  refine zr_iconst E (dat dkJ5_isLatin1_aae02 5 rfl) (v := 1) rfl ?_
  refine zr_goto (tgt := 18) E (dat dkJ5_isLatin1_aae02 6 rfl) rfl ?_
  exact z_zreturn E rfl (dat dkJ5_isLatin1_aae02 8 rfl) (by decide) (by decide) ⟨rfl, rfl⟩

set_option maxRecDepth 100000 in
set_option maxHeartbeats 4000000 in
theorem sp_J1_canEncode (l : Launch) (G : GT) (cs : Nat → Nat → Nat) (u : Nat) (hu : u < 128) : NC l G yJ1_canEncode_fc78d cJ1_canEncode_fc78d 1 (some .boolean) ({ frames := 0, cells := 0, slots := 0, locals := 0 } : Room) cs [iv (nI u)] [] (fun r w2 => r = some (.int 1) ∧ w2 = []) := by
  refine NC.of RJ1 [some (iv (nI u))] 0 (by decide) rfl rfl rfl (fun p e s m args below meth c E En => ?_)
  refine zr_iload_n E (dat dkJ1_canEncode_fc78d 0 rfl) rfl rfl ?_
  refine zr_sipush E (dat dkJ1_canEncode_fc78d 1 rfl) (v := 255) rfl ?_
  refine zr_icmp_gt (tgt := 11) E (dat dkJ1_canEncode_fc78d 2 rfl) rfl (fun h => absurd h (show ¬ nI 255 < _ from nI_nlt (by omega) (by decide))) (fun h => ?_)
  refine zr_iconst E (dat dkJ1_canEncode_fc78d 3 rfl) (v := 1) rfl ?_
  refine zr_goto (tgt := 12) E (dat dkJ1_canEncode_fc78d 4 rfl) rfl ?_
  exact z_zreturn E rfl (dat dkJ1_canEncode_fc78d 6 rfl) (by decide) (by decide) ⟨rfl, rfl⟩

set_option maxRecDepth 100000 in
set_option maxHeartbeats 4000000 in
theorem sp_J5_appendC (l : Launch) (G : GT) (cs : Nat → Nat → Nat) (a b N u : Nat) (f : Nat → Int32) (tx : List Nat) (hu : u < 128) (hS : SBt N f tx) (hq : SBq N (tx.length + 1)) : NC l G yJ5_append_3fe6f cJ5_append_3fe6f 2 (some (.object "java/lang/AbstractStringBuilder")) ({ frames := 4, cells := 1, slots := 142, locals := 88 } : Room) cs [.inl (.ref a), iv (nI u)] [(a, sO b tx.length), (b, bA G N f)] (SBp G a tx N [u]) := by
  refine NC.of RJ5 [some (.inl (.ref a)), some (iv (nI u))] 0 (by decide) rfl rfl rfl (fun p e s m args below meth c E En => ?_)
  refine z_alR_n E (dat dkJ5_append_3fe6f 0 rfl) rfl rfl ?_
  refine z_alR_n E (dat dkJ5_append_3fe6f 1 rfl) rfl rfl ?_
  refine z_get E (f := 3) 0 rfl rfl inBJ4 (by decide) gs_J5_79 rfl (dat dkJ5_append_3fe6f 2 rfl) ?_
  refine zr_iconst E (dat dkJ5_append_3fe6f 3 rfl) (v := 1) rfl ?_
  refine zr_iadd E (dat dkJ5_append_3fe6f 4 rfl) ?_
  rw [nI_1]
  refine z_callP E (sp_J5_ensure l G cs a b tx.length N (tx.length + 1) f hq hS.2.1) my_J5_ensureCapacityInternal_d00df pv_0 rfl pr_ens sm_ens ii_J5_ensureCapacityInternal_d00df ml_J5_100 (q0 := 0) rfl rfl (isC := [0, 1]) (isR := []) (wr := []) rfl rfl rfl rfl (by decide) rfl rfl (by refine ⟨?_, ?_, ?_, ?_⟩ <;> first | decide | exact Nat.le_of_ble_eq_true rfl | (dsimp only; omega)) (Nat.le_of_ble_eq_true rfl) (dat dkJ5_append_3fe6f 5 rfl) ?_
  rintro _ _ ⟨rfl, b2, f2, rfl, hf2, hk2⟩
  have hg1 := gr_le hq
  have hg2 := gr_big hq
  refine z_alR_n E (dat dkJ5_append_3fe6f 6 rfl) rfl rfl ?_
  refine z_callU E (sp_J5_isLatin1 l G cs a b2 tx.length (gr N (tx.length + 1)) f2) my_J5_isLatin1_aae02 (x := yJ5_isLatin1_aae02) (owner := RJ5) rfl (by decide) sm_lat pv_0 ii_J5_isLatin1_aae02 ml_J5_83 (q0 := 0) rfl rfl (isC := [0, 1]) (isR := []) (wr := []) rfl rfl rfl rfl (by decide) rfl rfl (by refine ⟨?_, ?_, ?_, ?_⟩ <;> first | decide | exact Nat.le_of_ble_eq_true rfl | (dsimp only; omega)) (Nat.le_of_ble_eq_true rfl) (dat dkJ5_append_3fe6f 7 rfl) ?_
  rintro _ _ ⟨rfl, rfl⟩
  refine zr_if_eq (tgt := 45) E (dat dkJ5_append_3fe6f 8 rfl) rfl (fun h => absurd h (by decide)) (fun h => ?_)
  refine zr_iload_n E (dat dkJ5_append_3fe6f 9 rfl) rfl rfl ?_
  refine z_callS E (sp_J1_canEncode l G cs u hu) my_J1_canEncode_fc78d is_J1_canEncode_fc78d ml_J5_191 (isC := []) (isR := [0, 1]) (wr := [(a, sO b2 tx.length), (b2, bA G (gr N (tx.length + 1)) f2)]) rfl rfl rfl rfl (by decide) rfl rfl (by refine ⟨?_, ?_, ?_, ?_⟩ <;> first | decide | exact Nat.le_of_ble_eq_true rfl | (dsimp only; omega)) (Nat.le_of_ble_eq_true rfl) (dat dkJ5_append_3fe6f 10 rfl) ?_
  rintro _ _ ⟨rfl, rfl⟩
  refine zr_if_eq (tgt := 45) E (dat dkJ5_append_3fe6f 11 rfl) rfl (fun h => absurd h (by decide)) (fun h => ?_)
  refine z_alR_n E (dat dkJ5_append_3fe6f 12 rfl) rfl rfl ?_
  refine z_get E (f := 0) 0 rfl rfl inBJ4 (by decide) gs_J5_15 rfl (dat dkJ5_append_3fe6f 13 rfl) ?_
  refine z_alR_n E (dat dkJ5_append_3fe6f 14 rfl) rfl rfl ?_
  refine zr_dup E (dat dkJ5_append_3fe6f 15 rfl) rfl ?_
  refine z_get E (f := 3) 0 rfl rfl inBJ4 (by decide) gs_J5_79 rfl (dat dkJ5_append_3fe6f 16 rfl) ?_
  refine z_dupx1 E (dat dkJ5_append_3fe6f 17 rfl) rfl rfl ?_
  refine zr_iconst E (dat dkJ5_append_3fe6f 18 rfl) (v := 1) rfl ?_
  refine zr_iadd E (dat dkJ5_append_3fe6f 19 rfl) ?_
  rw [nI_1]
  refine z_put E (f := 3) (ty := .int) 0 rfl rfl inBJ4 tyJ4_ok nmJ4 (by decide) gs_J5_79 rfl (by decide +kernel) rfl rfl (Nat.le_of_ble_eq_true rfl) (ws2 := [(a, sO b2 (tx.length + 1)), (b2, bA G (gr N (tx.length + 1)) f2)]) rfl (dat dkJ5_append_3fe6f 20 rfl) ?_
  refine zr_iload_n E (dat dkJ5_append_3fe6f 21 rfl) rfl rfl ?_
  refine zr_i2b E (dat dkJ5_append_3fe6f 22 rfl) ?_
  refine z_bast E 1 (i := tx.length) rfl rfl (by omega) (by omega) (fit_all u hu).2.1 (ws2 := [(a, sO b2 (tx.length + 1)), (b2, bA G (gr N (tx.length + 1)) (upd f2 tx.length (nI u)))]) rfl (dat dkJ5_append_3fe6f 23 rfl) ?_
  refine zr_goto (tgt := 75) E (dat dkJ5_append_3fe6f 24 rfl) rfl ?_
  refine z_alR_n E (dat dkJ5_append_3fe6f 41 rfl) rfl rfl ?_
  exact z_areturn E (Or.inl ⟨_, rfl⟩) (dat dkJ5_append_3fe6f 42 rfl) (by decide) (by decide) ⟨rfl, b2, _, by rw [List.length_append]; rfl, SBt_of hS (by rw [List.length_append]; exact hg1) (Fit8_upd hf2 (fit_all u hu).2.2) (fun j hj => by rw [pk_un (by omega)]; exact hk2 j (Nat.lt_of_lt_of_le hj hS.1)) (fun j hj => by obtain rfl : j = 0 := Nat.lt_one_iff.mp hj; exact pk_us) (fun c hc => by rw [List.mem_singleton.mp hc]; exact hu)⟩

set_option maxRecDepth 100000 in
set_option maxHeartbeats 4000000 in
theorem sp_J6_stringSize (l : Launch) (G : GT) (cs : Nat → Nat → Nat) (v : Nat) (hv : v < 100) : NC l G yJ6_stringSize_0f7a4 cJ6_stringSize_0f7a4 4 (some .int) ({ frames := 0, cells := 0, slots := 0, locals := 0 } : Room) cs [iv (nI v)] [] (fun r w2 => r = some (.int (nI (digs v).length)) ∧ w2 = []) := by
  have hn := neg_all v hv
  refine NC.of RJ6 [some (iv (nI v)), none, none, none] 3 (by decide) rfl rfl rfl (fun p e s m args below meth c E En => ?_)
  refine zr_iconst E (dat dkJ6_stringSize_0f7a4 0 rfl) (v := 1) rfl ?_
  refine zr_istore_1 E (dat dkJ6_stringSize_0f7a4 1 rfl) rfl rfl ?_
  refine zr_iload_n E (dat dkJ6_stringSize_0f7a4 2 rfl) rfl rfl ?_
  refine zr_if_lt (tgt := 11) E (dat dkJ6_stringSize_0f7a4 3 rfl) rfl (fun h => absurd h (nI_pos (by omega))) (fun h => ?_)
  refine zr_iconst E (dat dkJ6_stringSize_0f7a4 4 rfl) (v := 0) rfl ?_
  refine zr_istore_1 E (dat dkJ6_stringSize_0f7a4 5 rfl) rfl rfl ?_
  refine zr_iload_n E (dat dkJ6_stringSize_0f7a4 6 rfl) rfl rfl ?_
  refine zr_ineg E (dat dkJ6_stringSize_0f7a4 7 rfl) ?_
  refine zr_istore_0 E (dat dkJ6_stringSize_0f7a4 8 rfl) rfl ?_
  refine zr_bipush E (dat dkJ6_stringSize_0f7a4 9 rfl) (v := -10) rfl ?_
  refine zr_istore_2 E (dat dkJ6_stringSize_0f7a4 10 rfl) rfl rfl ?_
  refine zr_iconst E (dat dkJ6_stringSize_0f7a4 11 rfl) (v := 1) rfl ?_
  refine zr_istore_3 E (dat dkJ6_stringSize_0f7a4 12 rfl) rfl rfl ?_
  refine zr_iload_n E (dat dkJ6_stringSize_0f7a4 13 rfl) rfl rfl ?_
  refine zr_bipush E (dat dkJ6_stringSize_0f7a4 14 rfl) (v := 10) rfl ?_
  refine zr_icmp_ge (tgt := 42) E (dat dkJ6_stringSize_0f7a4 15 rfl) rfl (fun h => absurd h (by decide)) (fun h => ?_)
  refine zr_iload_n E (dat dkJ6_stringSize_0f7a4 16 rfl) rfl rfl ?_
  refine zr_iload_n E (dat dkJ6_stringSize_0f7a4 17 rfl) rfl rfl ?_
  rcases Nat.lt_or_ge v 10 with h10 | h10
  ·
    refine zr_icmp_le (tgt := 31) E (dat dkJ6_stringSize_0f7a4 18 rfl) rfl (fun h => absurd h (hn.2.1 h10)) (fun h => ?_)
    refine zr_iload_n E (dat dkJ6_stringSize_0f7a4 19 rfl) rfl rfl ?_
    refine zr_iload_n E (dat dkJ6_stringSize_0f7a4 20 rfl) rfl rfl ?_
    refine zr_iadd E (dat dkJ6_stringSize_0f7a4 21 rfl) ?_
    exact z_ireturn E (dat dkJ6_stringSize_0f7a4 22 rfl) (by decide) (by decide) ⟨by rw [digs_1 h10]; rfl, rfl⟩
  ·
    refine zr_icmp_le (tgt := 31) E (dat dkJ6_stringSize_0f7a4 18 rfl) rfl (fun h => ?_) (fun h => absurd (hn.2.2.1 (by omega)) h)
    refine zr_bipush E (dat dkJ6_stringSize_0f7a4 23 rfl) (v := 10) rfl ?_
    refine zr_iload_n E (dat dkJ6_stringSize_0f7a4 24 rfl) rfl rfl ?_
    refine zr_imul E (dat dkJ6_stringSize_0f7a4 25 rfl) ?_
    refine zr_istore_2 E (dat dkJ6_stringSize_0f7a4 26 rfl) rfl rfl ?_
    refine zr_iinc_3 E (dat dkJ6_stringSize_0f7a4 27 rfl) rfl rfl ?_
    refine zr_goto (tgt := 16) E (dat dkJ6_stringSize_0f7a4 28 rfl) rfl ?_
    refine zr_iload_n E (dat dkJ6_stringSize_0f7a4 13 rfl) rfl rfl ?_
    refine zr_bipush E (dat dkJ6_stringSize_0f7a4 14 rfl) (v := 10) rfl ?_
    refine zr_icmp_ge (tgt := 42) E (dat dkJ6_stringSize_0f7a4 15 rfl) rfl (fun h => absurd h (by decide)) (fun h => ?_)
    refine zr_iload_n E (dat dkJ6_stringSize_0f7a4 16 rfl) rfl rfl ?_
    refine zr_iload_n E (dat dkJ6_stringSize_0f7a4 17 rfl) rfl rfl ?_
    refine zr_icmp_le (tgt := 31) E (dat dkJ6_stringSize_0f7a4 18 rfl) rfl (fun h => absurd h (Int32.not_le.mpr (Int32.lt_of_le_of_ne (Int32.le_of_lt (neg_100 v hv)) (Int32.ne_of_lt (neg_100 v hv))))) (fun h => ?_)
    refine zr_iload_n E (dat dkJ6_stringSize_0f7a4 19 rfl) rfl rfl ?_
    refine zr_iload_n E (dat dkJ6_stringSize_0f7a4 20 rfl) rfl rfl ?_
    refine zr_iadd E (dat dkJ6_stringSize_0f7a4 21 rfl) ?_
    exact z_ireturn E (dat dkJ6_stringSize_0f7a4 22 rfl) (by decide) (by decide) ⟨by rw [digs_2 (by omega)]; rfl, rfl⟩

set_option maxRecDepth 100000 in
set_option maxHeartbeats 4000000 in
theorem sp_J6_getChars (l : Launch) (G : GT) (cs : Nat → Nat → Nat) (b N v q : Nat) (f : Nat → Int32) (hv : v < 100) (h1 : (digs v).length ≤ q) (h2 : q ≤ N) (hN : N ≤ 142) : NC l G yJ6_getChars_ba4f3 cJ6_getChars_ba4f3 7 (some .int) ({ frames := 0, cells := 0, slots := 0, locals := 0 } : Room) cs [iv (nI v), iv (nI q), .inl (.ref b)] [(b, bA G N f)] (fun r w2 => (∃ z, r = some (.int z)) ∧ ∃ f2 : Nat → Int32, w2 = [(b, bA G N f2)] ∧ (Fit8 f → Fit8 f2) ∧ (∀ j, j < q - (digs v).length → f2 j = f j) ∧ ∀ i, i < (digs v).length → f2 (q - (digs v).length + i) = nI ((digs v).getD i 0)) := by
  have hn := neg_all v hv
  have ht := ten_all v hv
  have hd0 : 1 ≤ (digs v).length := by unfold digs; split <;> exact Nat.le_of_ble_eq_true rfl
  refine NC.of RJ6 [some (iv (nI v)), some (iv (nI q)), some (.inl (.ref b)), none, none, none, none] 4 (by decide) rfl rfl rfl (fun p e s m args below meth c E En => ?_)
  refine zr_iload_n E (dat dkJ6_getChars_ba4f3 0 rfl) rfl rfl ?_
  refine zr_istore_5 E (dat dkJ6_getChars_ba4f3 1 rfl) rfl rfl ?_
  refine zr_iload_n E (dat dkJ6_getChars_ba4f3 2 rfl) rfl rfl ?_
  refine zr_if_ge (tgt := 11) E (dat dkJ6_getChars_ba4f3 3 rfl) rfl (fun h => ?_) (fun h => absurd (nI_pos' (by omega)) h)
  refine zr_iconst E (dat dkJ6_getChars_ba4f3 6 rfl) (v := 0) rfl ?_
  refine zr_istore_6 E (dat dkJ6_getChars_ba4f3 7 rfl) rfl rfl ?_
  refine zr_iload E (dat dkJ6_getChars_ba4f3 8 rfl) rfl ?_
  refine zr_if_ne (tgt := 22) E (dat dkJ6_getChars_ba4f3 9 rfl) rfl (fun h => absurd rfl h) (fun h => ?_)
  refine zr_iload_n E (dat dkJ6_getChars_ba4f3 10 rfl) rfl rfl ?_
  refine zr_ineg E (dat dkJ6_getChars_ba4f3 11 rfl) ?_
  refine zr_istore_0 E (dat dkJ6_getChars_ba4f3 12 rfl) rfl ?_
  refine zr_iload_n E (dat dkJ6_getChars_ba4f3 13 rfl) rfl rfl ?_
  refine zr_bipush E (dat dkJ6_getChars_ba4f3 14 rfl) (v := -100) rfl ?_
  refine zr_icmp_gt (tgt := 72) E (dat dkJ6_getChars_ba4f3 15 rfl) rfl (fun h => ?_) (fun h => absurd (neg_100 v hv) h)
  refine z_alR_n E (dat dkJ6_getChars_ba4f3 43 rfl) rfl rfl ?_
  refine zr_iinc_5 E (dat dkJ6_getChars_ba4f3 44 rfl) rfl rfl ?_
  rw [nI_dec (by omega)]
  refine zr_iload E (dat dkJ6_getChars_ba4f3 45 rfl) rfl ?_
  refine z_ones E gs_J6_83 (dat dkJ6_getChars_ba4f3 46 rfl) ?_
  refine zr_iload_n E (dat dkJ6_getChars_ba4f3 47 rfl) rfl rfl ?_
  refine zr_ineg E (dat dkJ6_getChars_ba4f3 48 rfl) ?_
  rw [hn.2.2.2.2.2]
  refine z_onesA E (i := v) rfl hv (dat dkJ6_getChars_ba4f3 49 rfl) ?_
  rw [ht.2]
  refine z_bast E 0 (i := q - 1) rfl rfl (by omega) (by omega) (fit_all _ (by omega)).1 (ws2 := [(b, bA G N (upd f (q - 1) (nI (48 + v % 10))))]) rfl (dat dkJ6_getChars_ba4f3 50 rfl) ?_
  refine zr_iload_n E (dat dkJ6_getChars_ba4f3 51 rfl) rfl rfl ?_
  refine zr_bipush E (dat dkJ6_getChars_ba4f3 52 rfl) (v := -9) rfl ?_
  rcases Nat.lt_or_ge v 10 with h10 | h10
  ·
    refine zr_icmp_ge (tgt := 104) E (dat dkJ6_getChars_ba4f3 53 rfl) rfl (fun h => ?_) (fun h => absurd (hn.2.2.2.1 h10) h)
    refine zr_iload E (dat dkJ6_getChars_ba4f3 62 rfl) rfl ?_
    refine zr_if_eq (tgt := 118) E (dat dkJ6_getChars_ba4f3 63 rfl) rfl (fun h => ?_) (fun h => absurd rfl h)
    refine zr_iload E (dat dkJ6_getChars_ba4f3 69 rfl) rfl ?_
    exact z_ireturn E (dat dkJ6_getChars_ba4f3 70 rfl) (by decide) (by decide) ⟨⟨_, rfl⟩, _, rfl, fun hf => Fit8_upd hf (fit_all _ (by omega)).2.2, fun j hj => by rw [digs_1 h10] at hj; exact pk_un (by simp at hj; omega), fun i hi => by rw [digs_1 h10] at hi ⊢; obtain rfl : i = 0 := Nat.lt_one_iff.mp hi; rw [show v % 10 = v by omega]; exact pk_us⟩
  ·
    have hd2 : (digs v).length = 2 := by rw [digs_2 (by omega)]; rfl
    refine zr_icmp_ge (tgt := 104) E (dat dkJ6_getChars_ba4f3 53 rfl) rfl (fun h => absurd h (hn.2.2.2.2.1 (by omega))) (fun h => ?_)
    refine z_alR_n E (dat dkJ6_getChars_ba4f3 54 rfl) rfl rfl ?_
    refine zr_iinc_5 E (dat dkJ6_getChars_ba4f3 55 rfl) rfl rfl ?_
    rw [nI_dec (by omega)]
    refine zr_iload E (dat dkJ6_getChars_ba4f3 56 rfl) rfl ?_
    refine z_tens E gs_J6_87 (dat dkJ6_getChars_ba4f3 57 rfl) ?_
    refine zr_iload_n E (dat dkJ6_getChars_ba4f3 58 rfl) rfl rfl ?_
    refine zr_ineg E (dat dkJ6_getChars_ba4f3 59 rfl) ?_
    rw [hn.2.2.2.2.2]
    refine z_tensA E (i := v) rfl hv (dat dkJ6_getChars_ba4f3 60 rfl) ?_
    rw [ht.1]
    refine z_bast E 0 (i := q - 1 - 1) rfl rfl (by omega) (by omega) (fit_all _ (by omega)).1 (ws2 := [(b, bA G N (upd (upd f (q - 1) (nI (48 + v % 10))) (q - 1 - 1) (nI (48 + v / 10))))]) rfl (dat dkJ6_getChars_ba4f3 61 rfl) ?_
    refine zr_iload E (dat dkJ6_getChars_ba4f3 62 rfl) rfl ?_
    refine zr_if_eq (tgt := 118) E (dat dkJ6_getChars_ba4f3 63 rfl) rfl (fun h => ?_) (fun h => absurd rfl h)
    refine zr_iload E (dat dkJ6_getChars_ba4f3 69 rfl) rfl ?_
    exact z_ireturn E (dat dkJ6_getChars_ba4f3 70 rfl) (by decide) (by decide) ⟨⟨_, rfl⟩, _, rfl, fun hf => Fit8_upd (Fit8_upd hf (fit_all _ (by omega)).2.2) (fit_all _ (by omega)).2.2, fun j hj => by rw [pk_un (by omega), pk_un (by omega)], fun i hi => by rcases (show i = 0 ∨ i = 1 by omega) with rfl | rfl <;> rw [hd2, digs_2 (by omega)] <;> first | (rw [show q - 2 + 0 = q - 1 - 1 by omega]; exact pk_us) | (rw [show q - 2 + 1 = q - 1 by omega, pk_un (by omega)]; exact pk_us)⟩

set_option maxRecDepth 100000 in
set_option maxHeartbeats 4000000 in
theorem sp_J5_appendI (l : Launch) (G : GT) (cs : Nat → Nat → Nat) (a b N v : Nat) (f : Nat → Int32) (tx : List Nat) (hv : v < 100) (hS : SBt N f tx) (hq : SBq N (tx.length + (digs v).length)) : NC l G yJ5_append_c97b9 cJ5_append_c97b9 4 (some (.object "java/lang/AbstractStringBuilder")) ({ frames := 4, cells := 1, slots := 142, locals := 88 } : Room) cs [.inl (.ref a), iv (nI v)] [(a, sO b tx.length), (b, bA G N f)] (SBp G a tx N (digs v)) := by
  refine NC.of RJ5 [some (.inl (.ref a)), some (iv (nI v)), none, none] 2 (by decide) rfl rfl rfl (fun p e s m args below meth c E En => ?_)
  refine z_alR_n E (dat dkJ5_append_c97b9 0 rfl) rfl rfl ?_
  refine z_get E (f := 3) 0 rfl rfl inBJ4 (by decide) gs_J5_79 rfl (dat dkJ5_append_c97b9 1 rfl) ?_
  refine zr_istore_2 E (dat dkJ5_append_c97b9 2 rfl) rfl rfl ?_
  refine zr_iload_n E (dat dkJ5_append_c97b9 3 rfl) rfl rfl ?_
  refine zr_iload_n E (dat dkJ5_append_c97b9 4 rfl) rfl rfl ?_
  refine z_callS E (sp_J6_stringSize l G cs v hv) my_J6_stringSize_0f7a4 is_J6_stringSize_0f7a4 ml_J5_245 (isC := []) (isR := [0, 1]) (wr := [(a, sO b tx.length), (b, bA G N f)]) rfl rfl rfl rfl (by decide) rfl rfl (by refine ⟨?_, ?_, ?_, ?_⟩ <;> first | decide | exact Nat.le_of_ble_eq_true rfl | (dsimp only; omega)) (Nat.le_of_ble_eq_true rfl) (dat dkJ5_append_c97b9 5 rfl) ?_
  rintro _ _ ⟨rfl, rfl⟩
  refine zr_iadd E (dat dkJ5_append_c97b9 6 rfl) ?_
  rw [nI_add]
  refine zr_istore_3 E (dat dkJ5_append_c97b9 7 rfl) rfl rfl ?_
  refine z_alR_n E (dat dkJ5_append_c97b9 8 rfl) rfl rfl ?_
  refine zr_iload_n E (dat dkJ5_append_c97b9 9 rfl) rfl rfl ?_
  refine z_callP E (sp_J5_ensure l G cs a b tx.length N (tx.length + (digs v).length) f hq hS.2.1) my_J5_ensureCapacityInternal_d00df pv_0 rfl pr_ens sm_ens ii_J5_ensureCapacityInternal_d00df ml_J5_100 (q0 := 0) rfl rfl (isC := [0, 1]) (isR := []) (wr := []) rfl rfl rfl rfl (by decide) rfl rfl (by refine ⟨?_, ?_, ?_, ?_⟩ <;> first | decide | exact Nat.le_of_ble_eq_true rfl | (dsimp only; omega)) (Nat.le_of_ble_eq_true rfl) (dat dkJ5_append_c97b9 10 rfl) ?_
  rintro _ _ ⟨rfl, b2, f2, rfl, hf2, hk2⟩
  have hg1 := gr_le hq
  have hg2 := gr_big hq
  refine z_alR_n E (dat dkJ5_append_c97b9 11 rfl) rfl rfl ?_
  refine z_callU E (sp_J5_isLatin1 l G cs a b2 tx.length (gr N (tx.length + (digs v).length)) f2) my_J5_isLatin1_aae02 (x := yJ5_isLatin1_aae02) (owner := RJ5) rfl (by decide) sm_lat pv_0 ii_J5_isLatin1_aae02 ml_J5_83 (q0 := 0) rfl rfl (isC := [0, 1]) (isR := []) (wr := []) rfl rfl rfl rfl (by decide) rfl rfl (by refine ⟨?_, ?_, ?_, ?_⟩ <;> first | decide | exact Nat.le_of_ble_eq_true rfl | (dsimp only; omega)) (Nat.le_of_ble_eq_true rfl) (dat dkJ5_append_c97b9 12 rfl) ?_
  rintro _ _ ⟨rfl, rfl⟩
  refine zr_if_eq (tgt := 37) E (dat dkJ5_append_c97b9 13 rfl) rfl (fun h => absurd h (by decide)) (fun h => ?_)
  refine zr_iload_n E (dat dkJ5_append_c97b9 14 rfl) rfl rfl ?_
  refine zr_iload_n E (dat dkJ5_append_c97b9 15 rfl) rfl rfl ?_
  refine z_alR_n E (dat dkJ5_append_c97b9 16 rfl) rfl rfl ?_
  refine z_get E (f := 0) 0 rfl rfl inBJ4 (by decide) gs_J5_15 rfl (dat dkJ5_append_c97b9 17 rfl) ?_
  refine z_callS E (sp_J6_getChars l G cs b2 (gr N (tx.length + (digs v).length)) v (tx.length + (digs v).length) f2 hv (by omega) hg1 hg2) my_J6_getChars_ba4f3 is_J6_getChars_ba4f3 ml_J5_248 (isC := [1]) (isR := [0]) (wr := [(a, sO b2 tx.length)]) rfl rfl rfl rfl (by decide) rfl rfl (by refine ⟨?_, ?_, ?_, ?_⟩ <;> first | decide | exact Nat.le_of_ble_eq_true rfl | (dsimp only; omega)) (Nat.le_of_ble_eq_true rfl) (dat dkJ5_append_c97b9 18 rfl) ?_
  rintro _ _ ⟨⟨_, rfl⟩, f3, rfl, hf3, hk3, hw3⟩
  refine zr_pop E (dat dkJ5_append_c97b9 19 rfl) rfl ?_
  refine zr_goto (tgt := 48) E (dat dkJ5_append_c97b9 20 rfl) rfl ?_
  refine z_alR_n E (dat dkJ5_append_c97b9 28 rfl) rfl rfl ?_
  refine zr_iload_n E (dat dkJ5_append_c97b9 29 rfl) rfl rfl ?_
  refine z_put E (f := 3) (ty := .int) 0 rfl rfl inBJ4 tyJ4_ok nmJ4 (by decide) gs_J5_79 rfl (by decide +kernel) rfl rfl (Nat.le_of_ble_eq_true rfl) (ws2 := [(a, sO b2 (tx.length + (digs v).length)), (b2, bA G (gr N (tx.length + (digs v).length)) f3)]) rfl (dat dkJ5_append_c97b9 30 rfl) ?_
  refine z_alR_n E (dat dkJ5_append_c97b9 31 rfl) rfl rfl ?_
  exact z_areturn E (Or.inl ⟨_, rfl⟩) (dat dkJ5_append_c97b9 32 rfl) (by decide) (by decide) ⟨rfl, b2, _, by rw [List.length_append], SBt_of hS (by rw [List.length_append]; exact hg1) (hf3 hf2) (fun j hj => by rw [hk3 j (by omega)]; exact hk2 j (Nat.lt_of_lt_of_le hj hS.1)) (fun j hj => by have := hw3 j hj; rwa [show tx.length + (digs v).length - (digs v).length + j = tx.length + j by omega] at this) (digs_lt hv)⟩

set_option maxRecDepth 100000 in
set_option maxHeartbeats 4000000 in
theorem sp_J0_getBytes (l : Launch) (G : GT) (cs : Nat → Nat → Nat) (b N d i : Nat) (f : Nat → Int32) (hi : i < 14) (h1 : d + lenJS.getD i 0 ≤ N) (hN : N ≤ 142) : NC l G yJ0_getBytes_840e7 cJ0_getBytes_840e7 4 (none) ({ frames := 1, cells := 0, slots := 0, locals := 40 } : Room) cs [rv 97 i, .inl (.ref b), iv (nI d), iv 0] [(b, bA G N f)] (fun r w2 => r = none ∧ w2 = [(b, bA G N (va_cpy (bJS i) f 0 d (lenJS.getD i 0)))]) := by
  refine NC.of RJ0 [some (rv 97 i), some (.inl (.ref b)), some (iv (nI d)), some (iv 0)] 0 (by decide) rfl rfl rfl (fun p e s m args below meth c E En => ?_)
  refine zr_aload_n E (dat dkJ0_getBytes_840e7 0 rfl) rfl rfl ?_
  refine z_callK E hi (NC.ofMC (sp_J0_coder_7d493 l G i zM hi)) rfl my_J0_coder_7d493 iv_J0_coder_7d493 ml_J0_335 (isC := []) (isR := [0]) (wr := [(b, bA G N f)]) rfl rfl rfl rfl (by decide) rfl rfl (by refine ⟨?_, ?_, ?_, ?_⟩ <;> first | decide | exact Nat.le_of_ble_eq_true rfl | (dsimp only; omega)) (Nat.le_of_ble_eq_true rfl) (dat dkJ0_getBytes_840e7 1 rfl) ?_
  rintro _ _ ⟨rfl, _, _, rfl, rfl, _⟩
  refine zr_iload_n E (dat dkJ0_getBytes_840e7 2 rfl) rfl rfl ?_
  refine zr_icmp_ne (tgt := 28) E (dat dkJ0_getBytes_840e7 3 rfl) rfl (fun h => absurd rfl h) (fun h => ?_)
  refine zr_aload_n E (dat dkJ0_getBytes_840e7 4 rfl) rfl rfl ?_
  refine zq_sval (i := i) E hi gs_J0_9 (dat dkJ0_getBytes_840e7 5 rfl) ?_
  refine zr_iconst E (dat dkJ0_getBytes_840e7 6 rfl) (v := 0) rfl ?_
  refine z_alR_n E (dat dkJ0_getBytes_840e7 7 rfl) rfl rfl ?_
  refine zr_iload_n E (dat dkJ0_getBytes_840e7 8 rfl) rfl rfl ?_
  refine zr_iload_n E (dat dkJ0_getBytes_840e7 9 rfl) rfl rfl ?_
  refine zr_ishl E (dat dkJ0_getBytes_840e7 10 rfl) ?_
  rw [shl_0]
  refine zr_aload_n E (dat dkJ0_getBytes_840e7 11 rfl) rfl rfl ?_
  refine zq_sval (i := i) E hi gs_J0_9 (dat dkJ0_getBytes_840e7 12 rfl) ?_
  refine zq_slen (i := i) E hi (dat dkJ0_getBytes_840e7 13 rfl) ?_
  refine z_copyS E 0 (i := i) (dp := d) (q := lenJS.getD i 0) hi rfl rfl rfl rfl (Nat.le_refl _) h1 (by omega) (bJS_fit hi) ac_J0 (by decide) rfl (dat dkJ0_getBytes_840e7 14 rfl) ?_
  refine zr_goto (tgt := 43) E (dat dkJ0_getBytes_840e7 15 rfl) rfl ?_
  exact z_vreturn E (dat dkJ0_getBytes_840e7 25 rfl) (by decide) (by decide) ⟨rfl, rfl⟩

set_option maxRecDepth 100000 in
set_option maxHeartbeats 4000000 in
theorem sp_J5_inflateIf (l : Launch) (G : GT) (cs : Nat → Nat → Nat) (a b n N i : Nat) (f : Nat → Int32) (hi : i < 14) : NC l G yJ5_inflateIfNeededFor_a7421 cJ5_inflateIfNeededFor_a7421 2 (none) ({ frames := 1, cells := 0, slots := 0, locals := 20 } : Room) cs [.inl (.ref a), rv 97 i] [(a, sO b n), (b, bA G N f)] (fun r w2 => r = none ∧ w2 = [(a, sO b n), (b, bA G N f)]) := by
  refine NC.of RJ5 [some (.inl (.ref a)), some (rv 97 i)] 0 (by decide) rfl rfl rfl (fun p e s m args below meth c E En => ?_)
  refine zq_gcs E gs_J5_18 (dat dkJ5_inflateIfNeededFor_a7421 0 rfl) ?_
  refine zr_if_eq (tgt := 21) E (dat dkJ5_inflateIfNeededFor_a7421 1 rfl) rfl (fun h => absurd h (by decide)) (fun h => ?_)
  refine z_alR_n E (dat dkJ5_inflateIfNeededFor_a7421 2 rfl) rfl rfl ?_
  refine z_get E (f := 1) 0 rfl rfl inBJ4 (by decide) gs_J5_22 rfl (dat dkJ5_inflateIfNeededFor_a7421 3 rfl) ?_
  refine zr_aload_n E (dat dkJ5_inflateIfNeededFor_a7421 4 rfl) rfl rfl ?_
  refine z_callK E hi (NC.ofMC (sp_J0_coder_7d493 l G i zM hi)) rfl my_J0_coder_7d493 iv_J0_coder_7d493 ml_J5_40 (isC := []) (isR := [0, 1]) (wr := [(a, sO b n), (b, bA G N f)]) rfl rfl rfl rfl (by decide) rfl rfl (by refine ⟨?_, ?_, ?_, ?_⟩ <;> first | decide | exact Nat.le_of_ble_eq_true rfl | (dsimp only; omega)) (Nat.le_of_ble_eq_true rfl) (dat dkJ5_inflateIfNeededFor_a7421 5 rfl) ?_
  rintro _ _ ⟨rfl, _, _, rfl, rfl, _⟩
  refine zr_icmp_eq (tgt := 21) E (dat dkJ5_inflateIfNeededFor_a7421 6 rfl) rfl (fun h => ?_) (fun h => absurd rfl h)
  exact z_vreturn E (dat dkJ5_inflateIfNeededFor_a7421 9 rfl) (by decide) (by decide) ⟨rfl, rfl⟩

set_option maxRecDepth 100000 in
set_option maxHeartbeats 4000000 in
theorem sp_J5_putStringAt (l : Launch) (G : GT) (cs : Nat → Nat → Nat) (a b n N d i : Nat) (f : Nat → Int32) (hi : i < 14) (h1 : d + lenJS.getD i 0 ≤ N) (hN : N ≤ 142) : NC l G yJ5_putStringAt_47b60 cJ5_putStringAt_47b60 3 (none) ({ frames := 2, cells := 0, slots := 0, locals := 63 } : Room) cs [.inl (.ref a), iv (nI d), rv 97 i] [(a, sO b n), (b, bA G N f)] (fun r w2 => r = none ∧ w2 = [(a, sO b n), (b, bA G N (va_cpy (bJS i) f 0 d (lenJS.getD i 0)))]) := by
  refine NC.of RJ5 [some (.inl (.ref a)), some (iv (nI d)), some (rv 97 i)] 0 (by decide) rfl rfl rfl (fun p e s m args below meth c E En => ?_)
  refine z_alR_n E (dat dkJ5_putStringAt_47b60 0 rfl) rfl rfl ?_
  refine zr_aload_n E (dat dkJ5_putStringAt_47b60 1 rfl) rfl rfl ?_
  refine z_callP E (sp_J5_inflateIf l G cs a b n N i f hi) my_J5_inflateIfNeededFor_a7421 pv_0 rfl pr_inf sm_inf ii_J5_inflateIfNeededFor_a7421 ml_J5_397 (q0 := 0) rfl rfl (isC := [0, 1]) (isR := []) (wr := []) rfl rfl rfl rfl (by decide) rfl rfl (by refine ⟨?_, ?_, ?_, ?_⟩ <;> first | decide | exact Nat.le_of_ble_eq_true rfl | (dsimp only; omega)) (Nat.le_of_ble_eq_true rfl) (dat dkJ5_putStringAt_47b60 2 rfl) ?_
  rintro _ _ ⟨rfl, rfl⟩
  refine zr_aload_n E (dat dkJ5_putStringAt_47b60 3 rfl) rfl rfl ?_
  refine z_alR_n E (dat dkJ5_putStringAt_47b60 4 rfl) rfl rfl ?_
  refine z_get E (f := 0) 0 rfl rfl inBJ4 (by decide) gs_J5_15 rfl (dat dkJ5_putStringAt_47b60 5 rfl) ?_
  refine zr_iload_n E (dat dkJ5_putStringAt_47b60 6 rfl) rfl rfl ?_
  refine z_alR_n E (dat dkJ5_putStringAt_47b60 7 rfl) rfl rfl ?_
  refine z_get E (f := 1) 0 rfl rfl inBJ4 (by decide) gs_J5_22 rfl (dat dkJ5_putStringAt_47b60 8 rfl) ?_
  refine z_callK E hi (sp_J0_getBytes l G cs b N d i f hi h1 hN) rfl my_J0_getBytes_840e7 iv_J0_getBytes_840e7 ml_J5_399 (isC := [1]) (isR := [0]) (wr := [(a, sO b n)]) rfl rfl rfl rfl (by decide) rfl rfl (by refine ⟨?_, ?_, ?_, ?_⟩ <;> first | decide | exact Nat.le_of_ble_eq_true rfl | (dsimp only; omega)) (Nat.le_of_ble_eq_true rfl) (dat dkJ5_putStringAt_47b60 9 rfl) ?_
  rintro _ _ ⟨rfl, rfl⟩
  exact z_vreturn E (dat dkJ5_putStringAt_47b60 10 rfl) (by decide) (by decide) ⟨rfl, rfl⟩

set_option maxRecDepth 100000 in
set_option maxHeartbeats 4000000 in
theorem sp_J5_appendS (l : Launch) (G : GT) (cs : Nat → Nat → Nat) (a b N i : Nat) (f : Nat → Int32) (tx : List Nat) (hi : i < 14) (hS : SBt N f tx) (hq : SBq N (tx.length + lenJS.getD i 0)) : NC l G yJ5_append_cf1ce cJ5_append_cf1ce 3 (some (.object "java/lang/AbstractStringBuilder")) ({ frames := 4, cells := 1, slots := 142, locals := 88 } : Room) cs [.inl (.ref a), rv 97 i] [(a, sO b tx.length), (b, bA G N f)] (SBp G a tx N (cS i)) := by
  refine NC.of RJ5 [some (.inl (.ref a)), some (rv 97 i), none] 1 (by decide) rfl rfl rfl (fun p e s m args below meth c E En => ?_)
  refine zr_aload_n E (dat dkJ5_append_cf1ce 0 rfl) rfl rfl ?_
  refine z_nnul (tgt := 9) E (dat dkJ5_append_cf1ce 1 rfl) rfl ?_
  refine zr_aload_n E (dat dkJ5_append_cf1ce 5 rfl) rfl rfl ?_
  refine z_callK E hi (NC.ofMC (sp_J0_length_8abf5 l G i zM hi)) rfl my_J0_length_8abf5 iv_J0_length_8abf5 ml_J5_32 (isC := []) (isR := [0, 1]) (wr := [(a, sO b tx.length), (b, bA G N f)]) rfl rfl rfl rfl (by decide) rfl rfl (by refine ⟨?_, ?_, ?_, ?_⟩ <;> first | decide | exact Nat.le_of_ble_eq_true rfl | (dsimp only; omega)) (Nat.le_of_ble_eq_true rfl) (dat dkJ5_append_cf1ce 6 rfl) ?_
  rintro _ _ ⟨rfl, _, _, rfl, rfl, _⟩
  refine zr_istore_2 E (dat dkJ5_append_cf1ce 7 rfl) rfl rfl ?_
  refine z_alR_n E (dat dkJ5_append_cf1ce 8 rfl) rfl rfl ?_
  refine z_alR_n E (dat dkJ5_append_cf1ce 9 rfl) rfl rfl ?_
  refine z_get E (f := 3) 0 rfl rfl inBJ4 (by decide) gs_J5_79 rfl (dat dkJ5_append_cf1ce 10 rfl) ?_
  refine zr_iload_n E (dat dkJ5_append_cf1ce 11 rfl) rfl rfl ?_
  refine zr_iadd E (dat dkJ5_append_cf1ce 12 rfl) ?_
  rw [nI_add]
  refine z_callP E (sp_J5_ensure l G cs a b tx.length N (tx.length + lenJS.getD i 0) f hq hS.2.1) my_J5_ensureCapacityInternal_d00df pv_0 rfl pr_ens sm_ens ii_J5_ensureCapacityInternal_d00df ml_J5_100 (q0 := 0) rfl rfl (isC := [0, 1]) (isR := []) (wr := []) rfl rfl rfl rfl (by decide) rfl rfl (by refine ⟨?_, ?_, ?_, ?_⟩ <;> first | decide | exact Nat.le_of_ble_eq_true rfl | (dsimp only; omega)) (Nat.le_of_ble_eq_true rfl) (dat dkJ5_append_cf1ce 13 rfl) ?_
  rintro _ _ ⟨rfl, b2, f2, rfl, hf2, hk2⟩
  have hg1 := gr_le hq
  have hg2 := gr_big hq
  refine z_alR_n E (dat dkJ5_append_cf1ce 14 rfl) rfl rfl ?_
  refine z_alR_n E (dat dkJ5_append_cf1ce 15 rfl) rfl rfl ?_
  refine z_get E (f := 3) 0 rfl rfl inBJ4 (by decide) gs_J5_79 rfl (dat dkJ5_append_cf1ce 16 rfl) ?_
  refine zr_aload_n E (dat dkJ5_append_cf1ce 17 rfl) rfl rfl ?_
  refine z_callP E (sp_J5_putStringAt l G cs a b2 tx.length (gr N (tx.length + lenJS.getD i 0)) tx.length i f2 hi hg1 hg2) my_J5_putStringAt_47b60 pv_0 rfl pr_put sm_put ii_J5_putStringAt_47b60 ml_J5_208 (q0 := 0) rfl rfl (isC := [0, 1]) (isR := []) (wr := []) rfl rfl rfl rfl (by decide) rfl rfl (by refine ⟨?_, ?_, ?_, ?_⟩ <;> first | decide | exact Nat.le_of_ble_eq_true rfl | (dsimp only; omega)) (Nat.le_of_ble_eq_true rfl) (dat dkJ5_append_cf1ce 18 rfl) ?_
  rintro _ _ ⟨rfl, rfl⟩
  refine z_alR_n E (dat dkJ5_append_cf1ce 19 rfl) rfl rfl ?_
  refine zr_dup E (dat dkJ5_append_cf1ce 20 rfl) rfl ?_
  refine z_get E (f := 3) 0 rfl rfl inBJ4 (by decide) gs_J5_79 rfl (dat dkJ5_append_cf1ce 21 rfl) ?_
  refine zr_iload_n E (dat dkJ5_append_cf1ce 22 rfl) rfl rfl ?_
  refine zr_iadd E (dat dkJ5_append_cf1ce 23 rfl) ?_
  rw [nI_add]
  refine z_put E (f := 3) (ty := .int) 0 rfl rfl inBJ4 tyJ4_ok nmJ4 (by decide) gs_J5_79 rfl (by decide +kernel) rfl rfl (Nat.le_of_ble_eq_true rfl) (ws2 := [(a, sO b2 (tx.length + lenJS.getD i 0)), (b2, bA G (gr N (tx.length + lenJS.getD i 0)) (va_cpy (bJS i) f2 0 tx.length (lenJS.getD i 0)))]) rfl (dat dkJ5_append_cf1ce 24 rfl) ?_
  refine z_alR_n E (dat dkJ5_append_cf1ce 25 rfl) rfl rfl ?_
  exact z_areturn E (Or.inl ⟨_, rfl⟩) (dat dkJ5_append_cf1ce 26 rfl) (by decide) (by decide) ⟨rfl, b2, _, by rw [List.length_append, cS_len i hi], SBt_of hS (by rw [List.length_append, cS_len i hi]; exact hg1) (Fit8_cpy (fun j => bJS_fit hi j) hf2) (fun j hj => by rw [pk_cpy_out (by omega)]; exact hk2 j (Nat.lt_of_lt_of_le hj hS.1)) (fun j hj => by rw [cS_len i hi] at hj; rw [pk_cpy_in (by omega) (by omega), show 0 + (tx.length + j - tx.length) = j by omega]; exact (cS_at0 i hi j hj).1) (cS_lt hi)⟩

set_option maxRecDepth 100000 in
set_option maxHeartbeats 4000000 in
theorem sp_J4_appendS (l : Launch) (G : GT) (cs : Nat → Nat → Nat) (a b N : Nat) (f : Nat → Int32) (tx : List Nat) (i : Nat) (hi : i < 14) (hS : SBt N f tx) (hq : SBq N (tx.length + lenJS.getD i 0)) : NC l G yJ4_append_15ec4 cJ4_append_15ec4 2 (some (.object "java/lang/StringBuilder")) ({ frames := 5, cells := 1, slots := 142, locals := 112 } : Room) cs [.inl (.ref a), rv 97 i] [(a, sO b tx.length), (b, bA G N f)] (SBp G a tx N (cS i)) := by
  refine NC.of RJ4 [some (.inl (.ref a)), some (rv 97 i)] 0 (by decide) rfl rfl rfl (fun p e s m args below meth c E En => ?_)
  refine z_alR_n E (dat dkJ4_append_15ec4 0 rfl) rfl rfl ?_
  refine zr_aload_n E (dat dkJ4_append_15ec4 1 rfl) rfl rfl ?_
  refine z_callSU E (sp_J5_appendS l G cs a b N i f tx hi hS hq) my_J5_append_cf1ce (by decide) sm_as  su_sb ii_J5_append_cf1ce ml_J4_29 (q0 := 0) rfl rfl (isC := [0, 1]) (isR := []) (wr := []) rfl rfl rfl rfl (by decide) rfl rfl (by refine ⟨?_, ?_, ?_, ?_⟩ <;> first | decide | exact Nat.le_of_ble_eq_true rfl | (dsimp only; omega)) (Nat.le_of_ble_eq_true rfl) (dat dkJ4_append_15ec4 2 rfl) ?_
  rintro _ _ ⟨rfl, b2, f2, rfl, h2⟩
  refine zr_pop E (dat dkJ4_append_15ec4 3 rfl) rfl ?_
  refine z_alR_n E (dat dkJ4_append_15ec4 4 rfl) rfl rfl ?_
  exact z_areturn E (Or.inl ⟨_, rfl⟩) (dat dkJ4_append_15ec4 5 rfl) (by decide) (by decide) ⟨rfl, b2, f2, rfl, h2⟩

set_option maxRecDepth 100000 in
set_option maxHeartbeats 4000000 in
theorem sp_J4_appendC (l : Launch) (G : GT) (cs : Nat → Nat → Nat) (a b N : Nat) (f : Nat → Int32) (tx : List Nat) (u : Nat) (hu : u < 128) (hS : SBt N f tx) (hq : SBq N (tx.length + 1)) : NC l G yJ4_append_cf468 cJ4_append_cf468 2 (some (.object "java/lang/StringBuilder")) ({ frames := 5, cells := 1, slots := 142, locals := 112 } : Room) cs [.inl (.ref a), iv (nI u)] [(a, sO b tx.length), (b, bA G N f)] (SBp G a tx N ([u])) := by
  refine NC.of RJ4 [some (.inl (.ref a)), some (iv (nI u))] 0 (by decide) rfl rfl rfl (fun p e s m args below meth c E En => ?_)
  refine z_alR_n E (dat dkJ4_append_cf468 0 rfl) rfl rfl ?_
  refine zr_iload_n E (dat dkJ4_append_cf468 1 rfl) rfl rfl ?_
  refine z_callSU E (sp_J5_appendC l G cs a b N u f tx hu hS hq) my_J5_append_3fe6f (by decide) sm_ac  su_sb ii_J5_append_3fe6f ml_J4_50 (q0 := 0) rfl rfl (isC := [0, 1]) (isR := []) (wr := []) rfl rfl rfl rfl (by decide) rfl rfl (by refine ⟨?_, ?_, ?_, ?_⟩ <;> first | decide | exact Nat.le_of_ble_eq_true rfl | (dsimp only; omega)) (Nat.le_of_ble_eq_true rfl) (dat dkJ4_append_cf468 2 rfl) ?_
  rintro _ _ ⟨rfl, b2, f2, rfl, h2⟩
  refine zr_pop E (dat dkJ4_append_cf468 3 rfl) rfl ?_
  refine z_alR_n E (dat dkJ4_append_cf468 4 rfl) rfl rfl ?_
  exact z_areturn E (Or.inl ⟨_, rfl⟩) (dat dkJ4_append_cf468 5 rfl) (by decide) (by decide) ⟨rfl, b2, f2, rfl, h2⟩

set_option maxRecDepth 100000 in
set_option maxHeartbeats 4000000 in
theorem sp_J4_appendI (l : Launch) (G : GT) (cs : Nat → Nat → Nat) (a b N : Nat) (f : Nat → Int32) (tx : List Nat) (v : Nat) (hv : v < 100) (hS : SBt N f tx) (hq : SBq N (tx.length + (digs v).length)) : NC l G yJ4_append_bf812 cJ4_append_bf812 2 (some (.object "java/lang/StringBuilder")) ({ frames := 5, cells := 1, slots := 142, locals := 112 } : Room) cs [.inl (.ref a), iv (nI v)] [(a, sO b tx.length), (b, bA G N f)] (SBp G a tx N (digs v)) := by
  refine NC.of RJ4 [some (.inl (.ref a)), some (iv (nI v))] 0 (by decide) rfl rfl rfl (fun p e s m args below meth c E En => ?_)
  refine z_alR_n E (dat dkJ4_append_bf812 0 rfl) rfl rfl ?_
  refine zr_iload_n E (dat dkJ4_append_bf812 1 rfl) rfl rfl ?_
  refine z_callSU E (sp_J5_appendI l G cs a b N v f tx hv hS hq) my_J5_append_c97b9 (by decide) sm_ai  su_sb ii_J5_append_c97b9 ml_J4_53 (q0 := 0) rfl rfl (isC := [0, 1]) (isR := []) (wr := []) rfl rfl rfl rfl (by decide) rfl rfl (by refine ⟨?_, ?_, ?_, ?_⟩ <;> first | decide | exact Nat.le_of_ble_eq_true rfl | (dsimp only; omega)) (Nat.le_of_ble_eq_true rfl) (dat dkJ4_append_bf812 2 rfl) ?_
  rintro _ _ ⟨rfl, b2, f2, rfl, h2⟩
  refine zr_pop E (dat dkJ4_append_bf812 3 rfl) rfl ?_
  refine z_alR_n E (dat dkJ4_append_bf812 4 rfl) rfl rfl ?_
  exact z_areturn E (Or.inl ⟨_, rfl⟩) (dat dkJ4_append_bf812 5 rfl) (by decide) (by decide) ⟨rfl, b2, f2, rfl, h2⟩
