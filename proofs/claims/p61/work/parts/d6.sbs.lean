/-! StringBuilder(), toString() -/
set_option maxRecDepth 100000 in
set_option maxHeartbeats 4000000 in
theorem sp_J5_init (l : Launch) (G : GT) (cs : Nat → Nat → Nat) (a : Nat) : NC l G yJ5_init_d00df cJ5_init_d00df 2 (none) ({ frames := 1, cells := 1, slots := 16, locals := 12 } : Room) cs [.inl (.ref a), iv 16] [(a, .inr (1, [.null, .int 0, .int 0, .int 0]))] (fun r w2 => r = none ∧ ∃ b, w2 = [(a, sO b 0), (b, bA G 16 (fun _ => 0))]) := by
  refine NC.of RJ5 [some (.inl (.ref a)), some (iv 16)] 0 (by decide) rfl rfl rfl (fun p e s m args below meth c E En => ?_)
  refine z_alR_n E (dat dkJ5_init_d00df 0 rfl) rfl rfl ?_
  refine z_obj E (dat dkJ5_init_d00df 1 rfl) (bg_5 63 (by decide +kernel)) (by decide) (by decide) ?_
  refine zq_gcs E gs_J5_18 (dat dkJ5_init_d00df 2 rfl) ?_
  refine zr_if_eq (tgt := 25) E (dat dkJ5_init_d00df 3 rfl) rfl (fun h => absurd h (by decide)) (fun h => ?_)
  refine z_alR_n E (dat dkJ5_init_d00df 4 rfl) rfl rfl ?_
  refine zr_iload_n E (dat dkJ5_init_d00df 5 rfl) rfl rfl ?_
  refine z_newB E (N := 16) rfl (by decide) (by decide) (by decide) (dat dkJ5_init_d00df 6 rfl) (fun b => ?_)
  refine z_put E (f := 0) (ty := .array .byte) 0 rfl rfl inBJ4 tyJ4_ok nmJ4 (by decide) gs_J5_15 rfl (by decide +kernel) rfl rfl (Nat.le_of_ble_eq_true rfl) (ws2 := [(a, .inr (1, [.ref b, .int 0, .int 0, .int 0])), (b, bA G 16 (fun _ => 0))]) rfl (dat dkJ5_init_d00df 7 rfl) ?_
  refine z_alR_n E (dat dkJ5_init_d00df 8 rfl) rfl rfl ?_
  refine zr_iconst E (dat dkJ5_init_d00df 9 rfl) (v := 0) rfl ?_
  refine z_put E (f := 1) (ty := .byte) 0 rfl rfl inBJ4 tyJ4_ok nmJ4 (by decide) gs_J5_22 rfl (by decide +kernel) rfl rfl (Nat.le_of_ble_eq_true rfl) rfl (dat dkJ5_init_d00df 10 rfl) ?_
  refine zr_goto (tgt := 38) E (dat dkJ5_init_d00df 11 rfl) rfl ?_
  exact z_vreturn E (dat dkJ5_init_d00df 19 rfl) (by decide) (by decide) ⟨rfl, b, rfl⟩

set_option maxRecDepth 100000 in
set_option maxHeartbeats 4000000 in
theorem sp_J4_init (l : Launch) (G : GT) (cs : Nat → Nat → Nat) (a : Nat) : NC l G yJ4_init_da8c8 cJ4_init_da8c8 1 (none) ({ frames := 2, cells := 1, slots := 16, locals := 33 } : Room) cs [.inl (.ref a)] [(a, .inr (1, [.null, .int 0, .int 0, .int 0]))] (fun r w2 => r = none ∧ ∃ b, w2 = [(a, sO b 0), (b, bA G 16 (fun _ => 0))]) := by
  refine NC.of RJ4 [some (.inl (.ref a))] 0 (by decide) rfl rfl rfl (fun p e s m args below meth c E En => ?_)
  refine z_alR_n E (dat dkJ4_init_da8c8 0 rfl) rfl rfl ?_
  refine zr_bipush E (dat dkJ4_init_da8c8 1 rfl) (v := 16) rfl ?_
  refine z_callI E (sp_J5_init l G cs a) rfl my_J5_init_d00df ii_J5_init_d00df ml_J4_1 (isC := [0]) (isR := []) (wr := []) rfl rfl rfl rfl (by decide) rfl rfl (by refine ⟨?_, ?_, ?_, ?_⟩ <;> first | decide | exact Nat.le_of_ble_eq_true rfl | (dsimp only; omega)) (Nat.le_of_ble_eq_true rfl) (dat dkJ4_init_da8c8 2 rfl) ?_
  rintro _ _ ⟨rfl, b, rfl⟩
  exact z_vreturn E (dat dkJ4_init_da8c8 3 rfl) (by decide) (by decide) ⟨rfl, b, rfl⟩

set_option maxRecDepth 100000 in
set_option maxHeartbeats 4000000 in
theorem sp_J5_getValue (l : Launch) (G : GT) (cs : Nat → Nat → Nat) (a b n N : Nat) (f : Nat → Int32) : NC l G yJ5_getValue_6d5f1 cJ5_getValue_6d5f1 1 (some (.array .byte)) ({ frames := 0, cells := 0, slots := 0, locals := 0 } : Room) cs [.inl (.ref a)] [(a, sO b n), (b, bA G N f)] (fun r w2 => r = some (.ref b) ∧ w2 = [(a, sO b n), (b, bA G N f)]) := by
  refine NC.of RJ5 [some (.inl (.ref a))] 0 (by decide) rfl rfl rfl (fun p e s m args below meth c E En => ?_)
  refine z_alR_n E (dat dkJ5_getValue_6d5f1 0 rfl) rfl rfl ?_
  refine z_get E (f := 0) 0 rfl rfl inBJ4 (by decide) gs_J5_15 rfl (dat dkJ5_getValue_6d5f1 1 rfl) ?_
  exact z_areturn E (Or.inr ⟨_, rfl⟩) (dat dkJ5_getValue_6d5f1 2 rfl) (by decide) (by decide) ⟨rfl, rfl⟩

set_option maxRecDepth 100000 in
set_option maxHeartbeats 4000000 in
theorem sp_J5_length (l : Launch) (G : GT) (cs : Nat → Nat → Nat) (a b n N : Nat) (f : Nat → Int32) : NC l G yJ5_length_8abf5 cJ5_length_8abf5 1 (some .int) ({ frames := 0, cells := 0, slots := 0, locals := 0 } : Room) cs [.inl (.ref a)] [(a, sO b n), (b, bA G N f)] (fun r w2 => r = some (.int (nI n)) ∧ w2 = [(a, sO b n), (b, bA G N f)]) := by
  refine NC.of RJ5 [some (.inl (.ref a))] 0 (by decide) rfl rfl rfl (fun p e s m args below meth c E En => ?_)
  refine z_alR_n E (dat dkJ5_length_8abf5 0 rfl) rfl rfl ?_
  refine z_get E (f := 3) 0 rfl rfl inBJ4 (by decide) gs_J5_79 rfl (dat dkJ5_length_8abf5 1 rfl) ?_
  exact z_ireturn E (dat dkJ5_length_8abf5 2 rfl) (by decide) (by decide) ⟨rfl, rfl⟩

set_option maxRecDepth 100000 in
set_option maxHeartbeats 4000000 in
theorem sp_J4_length (l : Launch) (G : GT) (cs : Nat → Nat → Nat) (a b n N : Nat) (f : Nat → Int32) : NC l G yJ4_length_8abf5 cJ4_length_8abf5 1 (some .int) ({ frames := 1, cells := 0, slots := 0, locals := 20 } : Room) cs [.inl (.ref a)] [(a, sO b n), (b, bA G N f)] (fun r w2 => r = some (.int (nI n)) ∧ w2 = [(a, sO b n), (b, bA G N f)]) := by
  refine NC.of RJ4 [some (.inl (.ref a))] 0 (by decide) rfl rfl rfl (fun p e s m args below meth c E En => ?_)
  refine z_alR_n E (dat dkJ4_length_8abf5 0 rfl) rfl rfl ?_
  refine z_callSU E (sp_J5_length l G cs a b n N f) my_J5_length_8abf5 (by decide) sm_len su_sb ii_J5_length_8abf5 ml_J4_343 (q0 := 0) rfl rfl (isC := [0, 1]) (isR := []) (wr := []) rfl rfl rfl rfl (by decide) rfl rfl (by refine ⟨?_, ?_, ?_, ?_⟩ <;> first | decide | exact Nat.le_of_ble_eq_true rfl | (dsimp only; omega)) (Nat.le_of_ble_eq_true rfl) (dat dkJ4_length_8abf5 1 rfl) ?_
  rintro _ _ ⟨rfl, rfl⟩
  exact z_ireturn E (dat dkJ4_length_8abf5 2 rfl) (by decide) (by decide) ⟨rfl, rfl⟩

set_option maxRecDepth 100000 in
set_option maxHeartbeats 4000000 in
theorem sp_J7_checkLength (l : Launch) (G : GT) (cs : Nat → Nat → Nat) (n : Nat) (hn : n ≤ 142) : NC l G yJ7_checkLength_df160 cJ7_checkLength_df160 2 (none) ({ frames := 0, cells := 0, slots := 0, locals := 0 } : Room) cs [iv 0, iv (nI n)] [] (fun r w2 => r = none ∧ w2 = []) := by
  refine NC.of RJ7 [some (iv 0), some (iv (nI n))] 0 (by decide) rfl rfl rfl (fun p e s m args below meth c E En => ?_)
  refine zr_iload_n E (dat dkJ7_checkLength_df160 0 rfl) rfl rfl ?_
  refine zr_iload_n E (dat dkJ7_checkLength_df160 1 rfl) rfl rfl ?_
  refine zr_icmp_ge (tgt := 37) E (dat dkJ7_checkLength_df160 2 rfl) rfl (fun h => ?_) (fun h => absurd (nI_pos' (by omega)) h)
  exact z_vreturn E (dat dkJ7_checkLength_df160 17 rfl) (by decide) (by decide) ⟨rfl, rfl⟩

set_option maxRecDepth 100000 in
set_option maxHeartbeats 4000000 in
theorem sp_J7_copyRB (l : Launch) (G : GT) (cs : Nat → Nat → Nat) (b n N : Nat) (f : Nat → Int32) (h1 : n ≤ N) (hN : N ≤ 142) (hf : Fit8 f) : NC l G yJ7_copyOfRangeByte_39247 cJ7_copyOfRangeByte_39247 5 (some (.array .byte)) ({ frames := 1, cells := 1, slots := 142, locals := 40 } : Room) cs [.inl (.ref b), iv 0, iv (nI n)] [(b, bA G N f)] (fun r w2 => ∃ (d : Nat) (f2 : Nat → Int32), r = some (.ref d) ∧ w2 = [(b, bA G N f), (d, bA G n f2)] ∧ Fit8 f2 ∧ ∀ j, j < n → f2 j = f j) := by
  refine NC.of RJ7 [some (.inl (.ref b)), some (iv 0), some (iv (nI n)), none, none] 2 (by decide) rfl rfl rfl (fun p e s m args below meth c E En => ?_)
  refine zr_iload_n E (dat dkJ7_copyOfRangeByte_39247 0 rfl) rfl rfl ?_
  refine zr_iload_n E (dat dkJ7_copyOfRangeByte_39247 1 rfl) rfl rfl ?_
  refine z_callS E (sp_J7_checkLength l G cs n (by omega)) my_J7_checkLength_df160 is_J7_checkLength_df160 ml_J7_343 (isC := []) (isR := [0]) (wr := [(b, bA G N f)]) rfl rfl rfl rfl (by decide) rfl rfl (by refine ⟨?_, ?_, ?_, ?_⟩ <;> first | decide | exact Nat.le_of_ble_eq_true rfl | (dsimp only; omega)) (Nat.le_of_ble_eq_true rfl) (dat dkJ7_copyOfRangeByte_39247 2 rfl) ?_
  rintro _ _ ⟨rfl, rfl⟩
  refine zr_iload_n E (dat dkJ7_copyOfRangeByte_39247 3 rfl) rfl rfl ?_
  refine zr_iload_n E (dat dkJ7_copyOfRangeByte_39247 4 rfl) rfl rfl ?_
  refine zr_isub E (dat dkJ7_copyOfRangeByte_39247 5 rfl) ?_
  rw [sub_00]
  refine zr_istore_3 E (dat dkJ7_copyOfRangeByte_39247 6 rfl) rfl rfl ?_
  refine zr_iload_n E (dat dkJ7_copyOfRangeByte_39247 7 rfl) rfl rfl ?_
  refine z_newB E rfl (by omega) (by decide) (by dsimp only; omega) (dat dkJ7_copyOfRangeByte_39247 8 rfl) (fun d => ?_)
  refine z_ws (ws2 := [(b, bA G N f), (d, bA G n (fun _ => 0))]) rfl ?_
  refine z_asR (i := 4) E (dat dkJ7_copyOfRangeByte_39247 9 rfl) (Nat.le_of_ble_eq_true rfl) rfl (hc_of 3 rfl rfl) rfl ?_
  refine z_alR_n E (dat dkJ7_copyOfRangeByte_39247 10 rfl) rfl rfl ?_
  refine zr_iload_n E (dat dkJ7_copyOfRangeByte_39247 11 rfl) rfl rfl ?_
  refine z_alR E (dat dkJ7_copyOfRangeByte_39247 12 rfl) rfl ?_
  refine zr_iconst E (dat dkJ7_copyOfRangeByte_39247 13 rfl) (v := 0) rfl ?_
  refine z_alR_n E (dat dkJ7_copyOfRangeByte_39247 14 rfl) rfl rfl ?_
  refine z_alen E 0 rfl (dat dkJ7_copyOfRangeByte_39247 15 rfl) ?_
  refine zr_iload_n E (dat dkJ7_copyOfRangeByte_39247 16 rfl) rfl rfl ?_
  refine zr_isub E (dat dkJ7_copyOfRangeByte_39247 17 rfl) ?_
  rw [sub_00]
  refine zr_iload_n E (dat dkJ7_copyOfRangeByte_39247 18 rfl) rfl rfl ?_
  refine zr_mmin E ml_J7_304 (by refine ⟨?_, ?_, ?_, ?_⟩ <;> first | decide | exact Nat.le_of_ble_eq_true rfl | (dsimp only; omega)) (dat dkJ7_copyOfRangeByte_39247 19 rfl) ?_
  rw [imin_r (by omega) (by omega)]
  refine z_copyC E 0 1 (sp := 0) (dp := 0) (q := n) rfl rfl rfl rfl rfl (by omega) (by omega) (by omega) (by omega) hf ac_J7 (by decide) rfl (dat dkJ7_copyOfRangeByte_39247 20 rfl) ?_
  refine z_alR E (dat dkJ7_copyOfRangeByte_39247 21 rfl) rfl ?_
  exact z_areturn E (Or.inr ⟨_, rfl⟩) (dat dkJ7_copyOfRangeByte_39247 22 rfl) (by decide) (by dsimp only; omega) ⟨d, _, rfl, rfl, Fit8_cpy hf Fit8_0, fun j hj => by rw [pk_cpy_in (by omega) (by omega)]; congr 1; omega⟩

set_option maxRecDepth 100000 in
set_option maxHeartbeats 4000000 in
theorem sp_J7_copyR (l : Launch) (G : GT) (cs : Nat → Nat → Nat) (b n N : Nat) (f : Nat → Int32) (h1 : n ≤ N) (hN : N ≤ 142) (hf : Fit8 f) : NC l G yJ7_copyOfRange_39247 cJ7_copyOfRange_39247 3 (some (.array .byte)) ({ frames := 2, cells := 1, slots := 142, locals := 64 } : Room) cs [.inl (.ref b), iv 0, iv (nI n)] [(b, bA G N f)] (fun r w2 => ∃ (d : Nat) (f2 : Nat → Int32), r = some (.ref d) ∧ w2 = [(b, bA G N f), (d, bA G n f2)] ∧ Fit8 f2 ∧ ∀ j, j < n → f2 j = f j) := by
  refine NC.of RJ7 [some (.inl (.ref b)), some (iv 0), some (iv (nI n))] 0 (by decide) rfl rfl rfl (fun p e s m args below meth c E En => ?_)
  refine zr_iload_n E (dat dkJ7_copyOfRange_39247 0 rfl) rfl rfl ?_
  refine zr_if_ne (tgt := 10) E (dat dkJ7_copyOfRange_39247 1 rfl) rfl (fun h => absurd rfl h) (fun h => ?_)
  refine zr_iload_n E (dat dkJ7_copyOfRange_39247 2 rfl) rfl rfl ?_
  refine z_alR_n E (dat dkJ7_copyOfRange_39247 3 rfl) rfl rfl ?_
  refine z_alen E 0 rfl (dat dkJ7_copyOfRange_39247 4 rfl) ?_
  rcases Nat.lt_or_ge n N with hlt | hge
  ·
    refine zr_icmp_eq (tgt := 17) E (dat dkJ7_copyOfRange_39247 5 rfl) rfl (fun h => absurd ((nI_eq (by omega) (by omega)).mp h) (by omega)) (fun h => ?_)
    refine z_alR_n E (dat dkJ7_copyOfRange_39247 6 rfl) rfl rfl ?_
    refine zr_iload_n E (dat dkJ7_copyOfRange_39247 7 rfl) rfl rfl ?_
    refine zr_iload_n E (dat dkJ7_copyOfRange_39247 8 rfl) rfl rfl ?_
    refine z_callS E (sp_J7_copyRB l G cs b n N f h1 hN hf) my_J7_copyOfRangeByte_39247 is_J7_copyOfRangeByte_39247 ml_J7_339 (isC := [0]) (isR := []) (wr := []) rfl rfl rfl rfl (by decide) rfl rfl (by refine ⟨?_, ?_, ?_, ?_⟩ <;> first | decide | exact Nat.le_of_ble_eq_true rfl | (dsimp only; omega)) (Nat.le_of_ble_eq_true rfl) (dat dkJ7_copyOfRange_39247 9 rfl) ?_
    rintro _ _ ⟨d, f2, rfl, rfl, hf2, hk2⟩
    exact z_areturn E (Or.inr ⟨_, rfl⟩) (dat dkJ7_copyOfRange_39247 10 rfl) (by decide) (by decide) ⟨d, f2, rfl, rfl, hf2, hk2⟩
  · obtain rfl : n = N := by omega
    refine zr_icmp_eq (tgt := 17) E (dat dkJ7_copyOfRange_39247 5 rfl) rfl (fun h => ?_) (fun h => absurd rfl h)
    refine z_alR_n E (dat dkJ7_copyOfRange_39247 11 rfl) rfl rfl ?_
    refine z_clone E 0 rfl hf (by decide) (by decide) (by decide) (by dsimp only; omega) (dat dkJ7_copyOfRange_39247 12 rfl) (fun d => ?_)
    refine z_castB E 1 rfl (dat dkJ7_copyOfRange_39247 13 rfl) ?_
    exact z_areturn E (Or.inr ⟨_, rfl⟩) (dat dkJ7_copyOfRange_39247 14 rfl) (by decide) (by dsimp only; omega) ⟨d, f, rfl, rfl, hf, fun _ _ => rfl⟩

set_option maxRecDepth 100000 in
set_option maxHeartbeats 4000000 in
theorem sp_J0_init2 (l : Launch) (G : GT) (cs : Nat → Nat → Nat) (t a b n N : Nat) (f : Nat → Int32) (h1 : n ≤ N) (hN : N ≤ 142) (hf : Fit8 f) : NC l G yJ0_init_db425 cJ0_init_db425 5 (none) ({ frames := 3, cells := 1, slots := 142, locals := 86 } : Room) cs [.inl (.ref t), .inl (.ref a), .inl .null] [(t, .inr (0, [.null, .int 0, .int 0, .int 0])), (a, sO b n), (b, bA G N f)] (fun r w2 => r = none ∧ ∃ (d : Nat) (f2 : Nat → Int32), w2 = [(t, .inr (0, [.ref d, .int 0, .int 0, .int 0])), (a, sO b n), (b, bA G N f), (d, bA G n f2)] ∧ Fit8 f2 ∧ ∀ j, j < n → f2 j = f j) := by
  refine NC.of RJ0 [some (.inl (.ref t)), some (.inl (.ref a)), some (.inl .null), none, none] 2 (by decide) rfl rfl rfl (fun p e s m args below meth c E En => ?_)
  refine z_alR_n E (dat dkJ0_init_db425 0 rfl) rfl rfl ?_
  refine z_obj E (dat dkJ0_init_db425 1 rfl) (bg_5 230 (by decide +kernel)) (by decide) (by decide) ?_
  refine z_alR_n E (dat dkJ0_init_db425 2 rfl) rfl rfl ?_
  refine z_callU E (sp_J5_getValue l G cs a b n N f) my_J5_getValue_6d5f1 (x := yJ5_getValue_6d5f1) (owner := RJ5) rfl (by decide) sm_gv pv_gv ii_J5_getValue_6d5f1 ml_J0_552 (q0 := 1) rfl rfl (isC := [1, 2]) (isR := [0]) (wr := [(t, .inr (0, [.null, .int 0, .int 0, .int 0]))]) rfl rfl rfl rfl (by decide) rfl rfl (by refine ⟨?_, ?_, ?_, ?_⟩ <;> first | decide | exact Nat.le_of_ble_eq_true rfl | (dsimp only; omega)) (Nat.le_of_ble_eq_true rfl) (dat dkJ0_init_db425 3 rfl) ?_
  rintro _ _ ⟨rfl, rfl⟩
  refine z_asR_n (i := 3) E (dat dkJ0_init_db425 4 rfl) rfl (Nat.le_of_ble_eq_true rfl) rfl (hc_of 2 rfl rfl) rfl ?_
  refine z_alR_n E (dat dkJ0_init_db425 5 rfl) rfl rfl ?_
  refine z_callO E (sp_J4_length l G cs a b n N f) my_J4_length_8abf5 (x := yJ5_length_8abf5) (owner := RJ5) (by decide) (by decide +kernel) my_J5_length_8abf5.2.1 ii_J5_length_8abf5 sm_len pv_len ii_J4_length_8abf5 ml_J0_549 (q0 := 1) rfl rfl (isC := [1, 2]) (isR := [0]) (wr := [(t, .inr (0, [.null, .int 0, .int 0, .int 0]))]) rfl rfl rfl rfl (by decide) rfl rfl (by refine ⟨?_, ?_, ?_, ?_⟩ <;> first | decide | exact Nat.le_of_ble_eq_true rfl | (dsimp only; omega)) (Nat.le_of_ble_eq_true rfl) (dat dkJ0_init_db425 6 rfl) ?_
  rintro _ _ ⟨rfl, rfl⟩
  refine zr_istore_4 E (dat dkJ0_init_db425 7 rfl) rfl rfl ?_
  refine z_alR_n E (dat dkJ0_init_db425 8 rfl) rfl rfl ?_
  refine z_callU E (sp_J5_isLatin1 l G cs a b n N f) my_J5_isLatin1_aae02 (x := yJ5_isLatin1_aae02) (owner := RJ5) rfl (by decide) sm_lat pv_0 ii_J5_isLatin1_aae02 ml_J0_1047 (q0 := 1) rfl rfl (isC := [1, 2]) (isR := [0]) (wr := [(t, .inr (0, [.null, .int 0, .int 0, .int 0]))]) rfl rfl rfl rfl (by decide) rfl rfl (by refine ⟨?_, ?_, ?_, ?_⟩ <;> first | decide | exact Nat.le_of_ble_eq_true rfl | (dsimp only; omega)) (Nat.le_of_ble_eq_true rfl) (dat dkJ0_init_db425 9 rfl) ?_
  rintro _ _ ⟨rfl, rfl⟩
  refine zr_if_eq (tgt := 41) E (dat dkJ0_init_db425 10 rfl) rfl (fun h => absurd h (by decide)) (fun h => ?_)
  refine z_alR_n E (dat dkJ0_init_db425 11 rfl) rfl rfl ?_
  refine zr_iconst E (dat dkJ0_init_db425 12 rfl) (v := 0) rfl ?_
  refine z_putF E En (f := 1) (ty := .byte) 0 rfl rfl inBJ0 tyJ0_ok nmJ0 (by decide) gs_J0_15 rfl rfl (by decide +kernel) rfl rfl (Nat.le_of_ble_eq_true rfl) (ws2 := [(t, .inr (0, [.null, .int 0, .int 0, .int 0])), (a, sO b n), (b, bA G N f)]) rfl (dat dkJ0_init_db425 13 rfl) ?_
  refine z_alR_n E (dat dkJ0_init_db425 14 rfl) rfl rfl ?_
  refine z_alR_n E (dat dkJ0_init_db425 15 rfl) rfl rfl ?_
  refine zr_iconst E (dat dkJ0_init_db425 16 rfl) (v := 0) rfl ?_
  refine zr_iload E (dat dkJ0_init_db425 17 rfl) rfl ?_
  refine z_callS E (sp_J7_copyR l G cs b n N f h1 hN hf) my_J7_copyOfRange_39247 is_J7_copyOfRange_39247 ml_J0_54 (isC := [2]) (isR := [0, 1]) (wr := [(t, .inr (0, [.null, .int 0, .int 0, .int 0])), (a, sO b n)]) rfl rfl rfl rfl (by decide) rfl rfl (by refine ⟨?_, ?_, ?_, ?_⟩ <;> first | decide | exact Nat.le_of_ble_eq_true rfl | (dsimp only; omega)) (Nat.le_of_ble_eq_true rfl) (dat dkJ0_init_db425 18 rfl) ?_
  rintro _ _ ⟨d, f2, rfl, rfl, hf2, hk2⟩
  refine z_putF E En (f := 0) (ty := .array .byte) 0 rfl rfl inBJ0 tyJ0_ok nmJ0 (by decide) gs_J0_9 rfl rfl (by decide +kernel) rfl rfl (Nat.le_of_ble_eq_true rfl) (ws2 := [(t, .inr (0, [.ref d, .int 0, .int 0, .int 0])), (a, sO b n), (b, bA G N f), (d, bA G n f2)]) rfl (dat dkJ0_init_db425 19 rfl) ?_
  refine zr_goto (tgt := 97) E (dat dkJ0_init_db425 20 rfl) rfl ?_
  exact z_vreturn E (dat dkJ0_init_db425 50 rfl) (by decide) (by decide) ⟨rfl, d, f2, rfl, hf2, hk2⟩

set_option maxRecDepth 100000 in
set_option maxHeartbeats 4000000 in
theorem sp_J0_init1 (l : Launch) (G : GT) (cs : Nat → Nat → Nat) (t a b n N : Nat) (f : Nat → Int32) (h1 : n ≤ N) (hN : N ≤ 142) (hf : Fit8 f) : NC l G yJ0_init_81219 cJ0_init_81219 2 (none) ({ frames := 4, cells := 1, slots := 142, locals := 110 } : Room) cs [.inl (.ref t), .inl (.ref a)] [(t, .inr (0, [.null, .int 0, .int 0, .int 0])), (a, sO b n), (b, bA G N f)] (fun r w2 => r = none ∧ ∃ (d : Nat) (f2 : Nat → Int32), w2 = [(t, .inr (0, [.ref d, .int 0, .int 0, .int 0])), (a, sO b n), (b, bA G N f), (d, bA G n f2)] ∧ Fit8 f2 ∧ ∀ j, j < n → f2 j = f j) := by
  refine NC.of RJ0 [some (.inl (.ref t)), some (.inl (.ref a))] 0 (by decide) rfl rfl rfl (fun p e s m args below meth c E En => ?_)
  refine z_alR_n E (dat dkJ0_init_81219 0 rfl) rfl rfl ?_
  refine z_alR_n E (dat dkJ0_init_81219 1 rfl) rfl rfl ?_
  refine z_null E (dat dkJ0_init_81219 2 rfl) ?_
  refine z_callI E (sp_J0_init2 l G cs t a b n N f h1 hN hf) rfl my_J0_init_db425 ii_J0_init_db425 ml_J0_489 (isC := [0, 1, 2]) (isR := []) (wr := []) rfl rfl rfl rfl (by decide) rfl rfl (by refine ⟨?_, ?_, ?_, ?_⟩ <;> first | decide | exact Nat.le_of_ble_eq_true rfl | (dsimp only; omega)) (Nat.le_of_ble_eq_true rfl) (dat dkJ0_init_81219 3 rfl) ?_
  rintro _ _ ⟨rfl, d, f2, rfl, hf2, hk2⟩
  exact z_vreturn E (dat dkJ0_init_81219 4 rfl) (by decide) (by decide) ⟨rfl, d, f2, rfl, hf2, hk2⟩

set_option maxRecDepth 100000 in
set_option maxHeartbeats 4000000 in
theorem sp_J4_toString (l : Launch) (G : GT) (cs : Nat → Nat → Nat) (a b n N : Nat) (f : Nat → Int32) (h1 : n ≤ N) (hN : N ≤ 142) (hf : Fit8 f) : NC l G yJ4_toString_0e30d cJ4_toString_0e30d 1 (some (.object "java/lang/String")) ({ frames := 5, cells := 2, slots := 146, locals := 131 } : Room) cs [.inl (.ref a)] [(a, sO b n), (b, bA G N f)] (fun r w2 => ∃ (t d : Nat) (f2 : Nat → Int32), r = some (.ref t) ∧ w2 = [(t, .inr (0, [.ref d, .int 0, .int 0, .int 0])), (a, sO b n), (b, bA G N f), (d, bA G n f2)] ∧ Fit8 f2 ∧ ∀ j, j < n → f2 j = f j) := by
  refine NC.of RJ4 [some (.inl (.ref a))] 0 (by decide) rfl rfl rfl (fun p e s m args below meth c E En => ?_)
  refine z_newO E (ci := 0) (fs := [.null, .int 0, .int 0, .int 0]) rfl inBJ0 tyJ0_ok (bg_5 222 (by decide +kernel)) (bg_5 223 (by decide +kernel)) (bg_1 9 (by decide +kernel)) (by decide) (by decide) (by decide) (dat dkJ4_toString_0e30d 0 rfl) (fun t => ?_)
  refine zr_dup E (dat dkJ4_toString_0e30d 1 rfl) rfl ?_
  refine z_alR_n E (dat dkJ4_toString_0e30d 2 rfl) rfl rfl ?_
  refine z_callI E (sp_J0_init1 l G cs t a b n N f h1 hN hf) rfl my_J0_init_81219 ii_J0_init_81219 ml_J4_137 (isC := [2, 0, 1]) (isR := []) (wr := []) rfl rfl rfl rfl (by decide) rfl rfl (by refine ⟨?_, ?_, ?_, ?_⟩ <;> first | decide | exact Nat.le_of_ble_eq_true rfl | (dsimp only; omega)) (Nat.le_of_ble_eq_true rfl) (dat dkJ4_toString_0e30d 3 rfl) ?_
  rintro _ _ ⟨rfl, d, f2, rfl, hf2, hk2⟩
  exact z_areturn E (Or.inl ⟨_, rfl⟩) (dat dkJ4_toString_0e30d 4 rfl) (by decide) (by decide) ⟨t, d, f2, rfl, rfl, hf2, hk2⟩
