/-! constructors that make arrays only -/
def zT0 : Mem := fun _ t j => if t = 0 ∧ j = 7 then -1 else 0
/-- Puddles() -/
theorem sp_X3_init (l : Launch) (G : GT) : CK l G yX3_init cX3_init 1 ({ frames := 1, cells := 4, slots := 256, locals := 12 } : Room) 4 [.null, .null, .null, .null, .int 0] [5] lk0 zM := by
  refine CK.of RX3 (by decide) rfl rfl (Nat.le_refl _) (fun p e s m args below meth c a E => ?_)
  refine n_aload_n E (dat dkX3_init 0 rfl) rfl rfl ?_
  refine n_objI E (dat dkX3_init 1 rfl) (bg_1 186 (by decide +kernel)) oi_2 oi_3 (Nat.le_refl _) (Nat.le_refl _) ?_
  refine n_aload_n E (dat dkX3_init 2 rfl) rfl rfl ?_
  refine n_bipush E (dat dkX3_init 3 rfl) (v := 64) rfl ?_
  refine n_newa E (atype := .int) (ty := .int) (i := 0) (N := 64) (dat dkX3_init 4 rfl) rfl an_int rfl (fun _ h => h) (fun _ => rfl) (by decide) rfl (Nat.le_of_ble_eq_true rfl) (Nat.le_of_ble_eq_true rfl) (Nat.le_of_ble_eq_true rfl) (fun q1 => ?_)
  refine n_putF E (dat dkX3_init 5 rfl) (ty := .array .int) (j := 0) (q0 := 0) (ci := 4) (C := RX3) (T := TX3) (N := 5) rfl inB3 tyX3_ok nmX3 (by decide) (bg_1 187 (by decide +kernel)) rfl rfl (by decide +kernel) rfl rfl rfl (Nat.le_of_ble_eq_true rfl) ?_
  refine n_ws (ws2 := [(a, .inr (4, [.ref q1, .null, .null, .null, .int 0])), (q1, aN G 0 64)]) rfl ?_
  refine n_aload_n E (dat dkX3_init 6 rfl) rfl rfl ?_
  refine n_bipush E (dat dkX3_init 7 rfl) (v := 64) rfl ?_
  refine n_newa E (atype := .int) (ty := .int) (i := 0) (N := 64) (dat dkX3_init 8 rfl) rfl an_int rfl (fun _ h => h) (fun _ => rfl) (by decide) rfl (Nat.le_of_ble_eq_true rfl) (Nat.le_of_ble_eq_true rfl) (Nat.le_of_ble_eq_true rfl) (fun q2 => ?_)
  refine n_putF E (dat dkX3_init 9 rfl) (ty := .array .int) (j := 1) (q0 := 0) (ci := 4) (C := RX3) (T := TX3) (N := 5) rfl inB3 tyX3_ok nmX3 (by decide) (bg_1 189 (by decide +kernel)) rfl rfl (by decide +kernel) rfl rfl rfl (Nat.le_of_ble_eq_true rfl) ?_
  refine n_ws (ws2 := [(a, .inr (4, [.ref q1, .ref q2, .null, .null, .int 0])), (q1, aN G 0 64), (q2, aN G 0 64)]) rfl ?_
  refine n_aload_n E (dat dkX3_init 10 rfl) rfl rfl ?_
  refine n_bipush E (dat dkX3_init 11 rfl) (v := 64) rfl ?_
  refine n_newa E (atype := .int) (ty := .int) (i := 0) (N := 64) (dat dkX3_init 12 rfl) rfl an_int rfl (fun _ h => h) (fun _ => rfl) (by decide) rfl (Nat.le_of_ble_eq_true rfl) (Nat.le_of_ble_eq_true rfl) (Nat.le_of_ble_eq_true rfl) (fun q3 => ?_)
  refine n_putF E (dat dkX3_init 13 rfl) (ty := .array .int) (j := 2) (q0 := 0) (ci := 4) (C := RX3) (T := TX3) (N := 5) rfl inB3 tyX3_ok nmX3 (by decide) (bg_1 191 (by decide +kernel)) rfl rfl (by decide +kernel) rfl rfl rfl (Nat.le_of_ble_eq_true rfl) ?_
  refine n_ws (ws2 := [(a, .inr (4, [.ref q1, .ref q2, .ref q3, .null, .int 0])), (q1, aN G 0 64), (q2, aN G 0 64), (q3, aN G 0 64)]) rfl ?_
  refine n_aload_n E (dat dkX3_init 14 rfl) rfl rfl ?_
  refine n_bipush E (dat dkX3_init 15 rfl) (v := 64) rfl ?_
  refine n_newa E (atype := .int) (ty := .int) (i := 0) (N := 64) (dat dkX3_init 16 rfl) rfl an_int rfl (fun _ h => h) (fun _ => rfl) (by decide) rfl (Nat.le_of_ble_eq_true rfl) (Nat.le_of_ble_eq_true rfl) (Nat.le_of_ble_eq_true rfl) (fun q4 => ?_)
  refine n_putF E (dat dkX3_init 17 rfl) (ty := .array .int) (j := 3) (q0 := 0) (ci := 4) (C := RX3) (T := TX3) (N := 5) rfl inB3 tyX3_ok nmX3 (by decide) (bg_1 193 (by decide +kernel)) rfl rfl (by decide +kernel) rfl rfl rfl (Nat.le_of_ble_eq_true rfl) ?_
  refine n_ws (ws2 := [(a, .inr (4, [.ref q1, .ref q2, .ref q3, .ref q4, .int 0])), (q1, aN G 0 64), (q2, aN G 0 64), (q3, aN G 0 64), (q4, aN G 0 64)]) rfl ?_
  refine n_aload_n E (dat dkX3_init 18 rfl) rfl rfl ?_
  refine n_iconst E (dat dkX3_init 19 rfl) (v := 0) rfl ?_
  refine n_put E (dat dkX3_init 20 rfl) (ty := .int) (j := 4) (q0 := 0) (ci := 4) (C := RX3) (T := TX3) (N := 5) rfl inB3 tyX3_ok nmX3 (by decide) (bg_1 194 (by decide +kernel)) rfl (by decide +kernel) rfl rfl rfl (Nat.le_of_ble_eq_true rfl) ?_
  refine n_ws (ws2 := [(a, .inr (4, [.ref q1, .ref q2, .ref q3, .ref q4, .int 0])), (q1, aN G 0 64), (q2, aN G 0 64), (q3, aN G 0 64), (q4, aN G 0 64)]) rfl ?_
  refine n_vret E (dat dkX3_init 21 rfl) (Nat.le_of_ble_eq_true rfl) (Nat.le_of_ble_eq_true rfl) (fun t hP hD hF => ⟨⟨fun _ t => if t = 0 then a else if t = 1 then q1 else if t = 2 then q2 else if t = 3 then q3 else q4, rfl, rfl, ?_, ?_⟩, hF⟩)
  · exact hP
  · exact hD
/-- State() -/
theorem sp_X5_init (l : Launch) (G : GT) : CK l G yX5_init cX5_init 1 ({ frames := 1, cells := 7, slots := 268, locals := 12 } : Room) 6 [.null, .null, .null, .null, .null, .null, .null, .int 0, .int 0, .int 0, .int 0, .int 0, .int 0, .int 0, .int 0] [1] lk0 zM := by
  refine CK.of RX5 (by decide) rfl rfl (Nat.le_refl _) (fun p e s m args below meth c a E => ?_)
  refine n_aload_n E (dat dkX5_init 0 rfl) rfl rfl ?_
  refine n_objI E (dat dkX5_init 1 rfl) (bg_1 100 (by decide +kernel)) oi_2 oi_3 (Nat.le_refl _) (Nat.le_refl _) ?_
  refine n_aload_n E (dat dkX5_init 2 rfl) rfl rfl ?_
  refine n_bipush E (dat dkX5_init 3 rfl) (v := 64) rfl ?_
  refine n_newa E (atype := .int) (ty := .int) (i := 0) (N := 64) (dat dkX5_init 4 rfl) rfl an_int rfl (fun _ h => h) (fun _ => rfl) (by decide) rfl (Nat.le_of_ble_eq_true rfl) (Nat.le_of_ble_eq_true rfl) (Nat.le_of_ble_eq_true rfl) (fun q1 => ?_)
  refine n_putF E (dat dkX5_init 5 rfl) (ty := .array .int) (j := 0) (q0 := 0) (ci := 6) (C := RX5) (T := TX5) (N := 15) rfl inB5 tyX5_ok nmX5 (by decide) (bg_1 101 (by decide +kernel)) rfl rfl (by decide +kernel) rfl rfl rfl (Nat.le_of_ble_eq_true rfl) ?_
  refine n_ws (ws2 := [(a, .inr (6, [.ref q1, .null, .null, .null, .null, .null, .null, .int 0, .int 0, .int 0, .int 0, .int 0, .int 0, .int 0, .int 0])), (q1, aN G 0 64)]) rfl ?_
  refine n_aload_n E (dat dkX5_init 6 rfl) rfl rfl ?_
  refine n_bipush E (dat dkX5_init 7 rfl) (v := 64) rfl ?_
  refine n_newa E (atype := .int) (ty := .int) (i := 0) (N := 64) (dat dkX5_init 8 rfl) rfl an_int rfl (fun _ h => h) (fun _ => rfl) (by decide) rfl (Nat.le_of_ble_eq_true rfl) (Nat.le_of_ble_eq_true rfl) (Nat.le_of_ble_eq_true rfl) (fun q2 => ?_)
  refine n_putF E (dat dkX5_init 9 rfl) (ty := .array .int) (j := 1) (q0 := 0) (ci := 6) (C := RX5) (T := TX5) (N := 15) rfl inB5 tyX5_ok nmX5 (by decide) (bg_1 104 (by decide +kernel)) rfl rfl (by decide +kernel) rfl rfl rfl (Nat.le_of_ble_eq_true rfl) ?_
  refine n_ws (ws2 := [(a, .inr (6, [.ref q1, .ref q2, .null, .null, .null, .null, .null, .int 0, .int 0, .int 0, .int 0, .int 0, .int 0, .int 0, .int 0])), (q1, aN G 0 64), (q2, aN G 0 64)]) rfl ?_
  refine n_aload_n E (dat dkX5_init 10 rfl) rfl rfl ?_
  refine n_bipush E (dat dkX5_init 11 rfl) (v := 64) rfl ?_
  refine n_newa E (atype := .int) (ty := .int) (i := 0) (N := 64) (dat dkX5_init 12 rfl) rfl an_int rfl (fun _ h => h) (fun _ => rfl) (by decide) rfl (Nat.le_of_ble_eq_true rfl) (Nat.le_of_ble_eq_true rfl) (Nat.le_of_ble_eq_true rfl) (fun q3 => ?_)
  refine n_putF E (dat dkX5_init 13 rfl) (ty := .array .int) (j := 2) (q0 := 0) (ci := 6) (C := RX5) (T := TX5) (N := 15) rfl inB5 tyX5_ok nmX5 (by decide) (bg_1 106 (by decide +kernel)) rfl rfl (by decide +kernel) rfl rfl rfl (Nat.le_of_ble_eq_true rfl) ?_
  refine n_ws (ws2 := [(a, .inr (6, [.ref q1, .ref q2, .ref q3, .null, .null, .null, .null, .int 0, .int 0, .int 0, .int 0, .int 0, .int 0, .int 0, .int 0])), (q1, aN G 0 64), (q2, aN G 0 64), (q3, aN G 0 64)]) rfl ?_
  refine n_aload_n E (dat dkX5_init 14 rfl) rfl rfl ?_
  refine n_bipush E (dat dkX5_init 15 rfl) (v := 64) rfl ?_
  refine n_newa E (atype := .int) (ty := .int) (i := 0) (N := 64) (dat dkX5_init 16 rfl) rfl an_int rfl (fun _ h => h) (fun _ => rfl) (by decide) rfl (Nat.le_of_ble_eq_true rfl) (Nat.le_of_ble_eq_true rfl) (Nat.le_of_ble_eq_true rfl) (fun q4 => ?_)
  refine n_putF E (dat dkX5_init 17 rfl) (ty := .array .int) (j := 3) (q0 := 0) (ci := 6) (C := RX5) (T := TX5) (N := 15) rfl inB5 tyX5_ok nmX5 (by decide) (bg_1 108 (by decide +kernel)) rfl rfl (by decide +kernel) rfl rfl rfl (Nat.le_of_ble_eq_true rfl) ?_
  refine n_ws (ws2 := [(a, .inr (6, [.ref q1, .ref q2, .ref q3, .ref q4, .null, .null, .null, .int 0, .int 0, .int 0, .int 0, .int 0, .int 0, .int 0, .int 0])), (q1, aN G 0 64), (q2, aN G 0 64), (q3, aN G 0 64), (q4, aN G 0 64)]) rfl ?_
  refine n_aload_n E (dat dkX5_init 18 rfl) rfl rfl ?_
  refine n_iconst E (dat dkX5_init 19 rfl) (v := 4) rfl ?_
  refine n_newa E (atype := .int) (ty := .int) (i := 0) (N := 4) (dat dkX5_init 20 rfl) rfl an_int rfl (fun _ h => h) (fun _ => rfl) (by decide) rfl (Nat.le_of_ble_eq_true rfl) (Nat.le_of_ble_eq_true rfl) (Nat.le_of_ble_eq_true rfl) (fun q5 => ?_)
  refine n_putF E (dat dkX5_init 21 rfl) (ty := .array .int) (j := 4) (q0 := 0) (ci := 6) (C := RX5) (T := TX5) (N := 15) rfl inB5 tyX5_ok nmX5 (by decide) (bg_1 110 (by decide +kernel)) rfl rfl (by decide +kernel) rfl rfl rfl (Nat.le_of_ble_eq_true rfl) ?_
  refine n_ws (ws2 := [(a, .inr (6, [.ref q1, .ref q2, .ref q3, .ref q4, .ref q5, .null, .null, .int 0, .int 0, .int 0, .int 0, .int 0, .int 0, .int 0, .int 0])), (q1, aN G 0 64), (q2, aN G 0 64), (q3, aN G 0 64), (q4, aN G 0 64), (q5, aN G 0 4)]) rfl ?_
  refine n_aload_n E (dat dkX5_init 22 rfl) rfl rfl ?_
  refine n_iconst E (dat dkX5_init 23 rfl) (v := 4) rfl ?_
  refine n_newa E (atype := .int) (ty := .int) (i := 0) (N := 4) (dat dkX5_init 24 rfl) rfl an_int rfl (fun _ h => h) (fun _ => rfl) (by decide) rfl (Nat.le_of_ble_eq_true rfl) (Nat.le_of_ble_eq_true rfl) (Nat.le_of_ble_eq_true rfl) (fun q6 => ?_)
  refine n_putF E (dat dkX5_init 25 rfl) (ty := .array .int) (j := 5) (q0 := 0) (ci := 6) (C := RX5) (T := TX5) (N := 15) rfl inB5 tyX5_ok nmX5 (by decide) (bg_1 112 (by decide +kernel)) rfl rfl (by decide +kernel) rfl rfl rfl (Nat.le_of_ble_eq_true rfl) ?_
  refine n_ws (ws2 := [(a, .inr (6, [.ref q1, .ref q2, .ref q3, .ref q4, .ref q5, .ref q6, .null, .int 0, .int 0, .int 0, .int 0, .int 0, .int 0, .int 0, .int 0])), (q1, aN G 0 64), (q2, aN G 0 64), (q3, aN G 0 64), (q4, aN G 0 64), (q5, aN G 0 4), (q6, aN G 0 4)]) rfl ?_
  refine n_aload_n E (dat dkX5_init 26 rfl) rfl rfl ?_
  refine n_iconst E (dat dkX5_init 27 rfl) (v := 4) rfl ?_
  refine n_newa E (atype := .boolean) (ty := .boolean) (i := 2) (N := 4) (dat dkX5_init 28 rfl) rfl an_bool rfl (fun _ h => h) (fun _ => rfl) (by decide) rfl (Nat.le_of_ble_eq_true rfl) (Nat.le_of_ble_eq_true rfl) (Nat.le_of_ble_eq_true rfl) (fun q7 => ?_)
  refine n_putF E (dat dkX5_init 29 rfl) (ty := .array .boolean) (j := 6) (q0 := 0) (ci := 6) (C := RX5) (T := TX5) (N := 15) rfl inB5 tyX5_ok nmX5 (by decide) (bg_1 114 (by decide +kernel)) rfl rfl (by decide +kernel) rfl rfl rfl (Nat.le_of_ble_eq_true rfl) ?_
  refine n_ws (ws2 := [(a, .inr (6, [.ref q1, .ref q2, .ref q3, .ref q4, .ref q5, .ref q6, .ref q7, .int 0, .int 0, .int 0, .int 0, .int 0, .int 0, .int 0, .int 0])), (q1, aN G 0 64), (q2, aN G 0 64), (q3, aN G 0 64), (q4, aN G 0 64), (q5, aN G 0 4), (q6, aN G 0 4), (q7, aN G 2 4)]) rfl ?_
  refine n_aload_n E (dat dkX5_init 30 rfl) rfl rfl ?_
  refine n_iconst E (dat dkX5_init 31 rfl) (v := 0) rfl ?_
  refine n_put E (dat dkX5_init 32 rfl) (ty := .int) (j := 7) (q0 := 0) (ci := 6) (C := RX5) (T := TX5) (N := 15) rfl inB5 tyX5_ok nmX5 (by decide) (bg_1 116 (by decide +kernel)) rfl (by decide +kernel) rfl rfl rfl (Nat.le_of_ble_eq_true rfl) ?_
  refine n_ws (ws2 := [(a, .inr (6, [.ref q1, .ref q2, .ref q3, .ref q4, .ref q5, .ref q6, .ref q7, .int 0, .int 0, .int 0, .int 0, .int 0, .int 0, .int 0, .int 0])), (q1, aN G 0 64), (q2, aN G 0 64), (q3, aN G 0 64), (q4, aN G 0 64), (q5, aN G 0 4), (q6, aN G 0 4), (q7, aN G 2 4)]) rfl ?_
  refine n_aload_n E (dat dkX5_init 33 rfl) rfl rfl ?_
  refine n_iconst E (dat dkX5_init 34 rfl) (v := 0) rfl ?_
  refine n_put E (dat dkX5_init 35 rfl) (ty := .int) (j := 8) (q0 := 0) (ci := 6) (C := RX5) (T := TX5) (N := 15) rfl inB5 tyX5_ok nmX5 (by decide) (bg_1 118 (by decide +kernel)) rfl (by decide +kernel) rfl rfl rfl (Nat.le_of_ble_eq_true rfl) ?_
  refine n_ws (ws2 := [(a, .inr (6, [.ref q1, .ref q2, .ref q3, .ref q4, .ref q5, .ref q6, .ref q7, .int 0, .int 0, .int 0, .int 0, .int 0, .int 0, .int 0, .int 0])), (q1, aN G 0 64), (q2, aN G 0 64), (q3, aN G 0 64), (q4, aN G 0 64), (q5, aN G 0 4), (q6, aN G 0 4), (q7, aN G 2 4)]) rfl ?_
  refine n_aload_n E (dat dkX5_init 36 rfl) rfl rfl ?_
  refine n_iconst E (dat dkX5_init 37 rfl) (v := 0) rfl ?_
  refine n_put E (dat dkX5_init 38 rfl) (ty := .int) (j := 9) (q0 := 0) (ci := 6) (C := RX5) (T := TX5) (N := 15) rfl inB5 tyX5_ok nmX5 (by decide) (bg_1 120 (by decide +kernel)) rfl (by decide +kernel) rfl rfl rfl (Nat.le_of_ble_eq_true rfl) ?_
  refine n_ws (ws2 := [(a, .inr (6, [.ref q1, .ref q2, .ref q3, .ref q4, .ref q5, .ref q6, .ref q7, .int 0, .int 0, .int 0, .int 0, .int 0, .int 0, .int 0, .int 0])), (q1, aN G 0 64), (q2, aN G 0 64), (q3, aN G 0 64), (q4, aN G 0 64), (q5, aN G 0 4), (q6, aN G 0 4), (q7, aN G 2 4)]) rfl ?_
  refine n_aload_n E (dat dkX5_init 39 rfl) rfl rfl ?_
  refine n_iconst E (dat dkX5_init 40 rfl) (v := 0) rfl ?_
  refine n_put E (dat dkX5_init 41 rfl) (ty := .int) (j := 10) (q0 := 0) (ci := 6) (C := RX5) (T := TX5) (N := 15) rfl inB5 tyX5_ok nmX5 (by decide) (bg_1 122 (by decide +kernel)) rfl (by decide +kernel) rfl rfl rfl (Nat.le_of_ble_eq_true rfl) ?_
  refine n_ws (ws2 := [(a, .inr (6, [.ref q1, .ref q2, .ref q3, .ref q4, .ref q5, .ref q6, .ref q7, .int 0, .int 0, .int 0, .int 0, .int 0, .int 0, .int 0, .int 0])), (q1, aN G 0 64), (q2, aN G 0 64), (q3, aN G 0 64), (q4, aN G 0 64), (q5, aN G 0 4), (q6, aN G 0 4), (q7, aN G 2 4)]) rfl ?_
  refine n_aload_n E (dat dkX5_init 42 rfl) rfl rfl ?_
  refine n_iconst E (dat dkX5_init 43 rfl) (v := 0) rfl ?_
  refine n_put E (dat dkX5_init 44 rfl) (ty := .int) (j := 11) (q0 := 0) (ci := 6) (C := RX5) (T := TX5) (N := 15) rfl inB5 tyX5_ok nmX5 (by decide) (bg_1 124 (by decide +kernel)) rfl (by decide +kernel) rfl rfl rfl (Nat.le_of_ble_eq_true rfl) ?_
  refine n_ws (ws2 := [(a, .inr (6, [.ref q1, .ref q2, .ref q3, .ref q4, .ref q5, .ref q6, .ref q7, .int 0, .int 0, .int 0, .int 0, .int 0, .int 0, .int 0, .int 0])), (q1, aN G 0 64), (q2, aN G 0 64), (q3, aN G 0 64), (q4, aN G 0 64), (q5, aN G 0 4), (q6, aN G 0 4), (q7, aN G 2 4)]) rfl ?_
  refine n_aload_n E (dat dkX5_init 45 rfl) rfl rfl ?_
  refine n_iconst E (dat dkX5_init 46 rfl) (v := 0) rfl ?_
  refine n_put E (dat dkX5_init 47 rfl) (ty := .int) (j := 12) (q0 := 0) (ci := 6) (C := RX5) (T := TX5) (N := 15) rfl inB5 tyX5_ok nmX5 (by decide) (bg_1 126 (by decide +kernel)) rfl (by decide +kernel) rfl rfl rfl (Nat.le_of_ble_eq_true rfl) ?_
  refine n_ws (ws2 := [(a, .inr (6, [.ref q1, .ref q2, .ref q3, .ref q4, .ref q5, .ref q6, .ref q7, .int 0, .int 0, .int 0, .int 0, .int 0, .int 0, .int 0, .int 0])), (q1, aN G 0 64), (q2, aN G 0 64), (q3, aN G 0 64), (q4, aN G 0 64), (q5, aN G 0 4), (q6, aN G 0 4), (q7, aN G 2 4)]) rfl ?_
  refine n_aload_n E (dat dkX5_init 48 rfl) rfl rfl ?_
  refine n_iconst E (dat dkX5_init 49 rfl) (v := 0) rfl ?_
  refine n_put E (dat dkX5_init 50 rfl) (ty := .int) (j := 13) (q0 := 0) (ci := 6) (C := RX5) (T := TX5) (N := 15) rfl inB5 tyX5_ok nmX5 (by decide) (bg_1 128 (by decide +kernel)) rfl (by decide +kernel) rfl rfl rfl (Nat.le_of_ble_eq_true rfl) ?_
  refine n_ws (ws2 := [(a, .inr (6, [.ref q1, .ref q2, .ref q3, .ref q4, .ref q5, .ref q6, .ref q7, .int 0, .int 0, .int 0, .int 0, .int 0, .int 0, .int 0, .int 0])), (q1, aN G 0 64), (q2, aN G 0 64), (q3, aN G 0 64), (q4, aN G 0 64), (q5, aN G 0 4), (q6, aN G 0 4), (q7, aN G 2 4)]) rfl ?_
  refine n_aload_n E (dat dkX5_init 51 rfl) rfl rfl ?_
  refine n_iconst E (dat dkX5_init 52 rfl) (v := 0) rfl ?_
  refine n_put E (dat dkX5_init 53 rfl) (ty := .int) (j := 14) (q0 := 0) (ci := 6) (C := RX5) (T := TX5) (N := 15) rfl inB5 tyX5_ok nmX5 (by decide) (bg_1 129 (by decide +kernel)) rfl (by decide +kernel) rfl rfl rfl (Nat.le_of_ble_eq_true rfl) ?_
  refine n_ws (ws2 := [(a, .inr (6, [.ref q1, .ref q2, .ref q3, .ref q4, .ref q5, .ref q6, .ref q7, .int 0, .int 0, .int 0, .int 0, .int 0, .int 0, .int 0, .int 0])), (q1, aN G 0 64), (q2, aN G 0 64), (q3, aN G 0 64), (q4, aN G 0 64), (q5, aN G 0 4), (q6, aN G 0 4), (q7, aN G 2 4)]) rfl ?_
  refine n_vret E (dat dkX5_init 54 rfl) (Nat.le_of_ble_eq_true rfl) (Nat.le_of_ble_eq_true rfl) (fun t hP hD hF => ⟨⟨fun _ t => if t = 0 then a else if t = 1 then q1 else if t = 2 then q2 else if t = 3 then q3 else if t = 4 then q4 else if t = 5 then q5 else if t = 6 then q6 else q7, rfl, rfl, ?_, ?_⟩, hF⟩)
  · exact hP
  · exact hD
def zS0 : Mem := fun _ t _ => if t = 1 then -1 else 0
/-- Script() -/
theorem sp_X4_init (l : Launch) (G : GT) : CK l G yX4_init cX4_init 1 ({ frames := 1, cells := 4, slots := 120, locals := 12 } : Room) 5 [.null, .null, .null, .null, .int 0] [4] lk0 zS0 := by
  refine CK.of RX4 (by decide) rfl rfl (Nat.le_refl _) (fun p e s m args below meth c a E => ?_)
  refine n_aload_n E (dat dkX4_init 0 rfl) rfl rfl ?_
  refine n_objI E (dat dkX4_init 1 rfl) (bg_1 75 (by decide +kernel)) oi_2 oi_3 (Nat.le_refl _) (Nat.le_refl _) ?_
  refine n_aload_n E (dat dkX4_init 2 rfl) rfl rfl ?_
  refine n_bipush E (dat dkX4_init 3 rfl) (v := 30) rfl ?_
  refine n_newq E (i := 6) (N := 30) (C := "PuddleCity$Verb") (dat dkX4_init 4 rfl) (bg_1 76 (by decide +kernel)) (E.2.2.2.2.2.2.2.2.2.2.1) rfl (by decide) rfl (Nat.le_of_ble_eq_true rfl) (Nat.le_of_ble_eq_true rfl) (Nat.le_of_ble_eq_true rfl) (fun q1 => ?_)
  refine n_putF E (dat dkX4_init 5 rfl) (ty := .array (.object "PuddleCity$Verb")) (j := 0) (q0 := 0) (ci := 5) (C := RX4) (T := TX4) (N := 5) rfl inB4 tyX4_ok nmX4 (by decide) (bg_1 78 (by decide +kernel)) rfl rfl (by decide +kernel) rfl rfl rfl (Nat.le_of_ble_eq_true rfl) ?_
  refine n_ws (ws2 := [(a, .inr (5, [.ref q1, .null, .null, .null, .int 0])), (q1, aO G 6 30)]) rfl ?_
  refine n_aload_n E (dat dkX4_init 6 rfl) rfl rfl ?_
  refine n_bipush E (dat dkX4_init 7 rfl) (v := 30) rfl ?_
  refine n_newa E (atype := .int) (ty := .int) (i := 0) (N := 30) (dat dkX4_init 8 rfl) rfl an_int rfl (fun _ h => h) (fun _ => rfl) (by decide) rfl (Nat.le_of_ble_eq_true rfl) (Nat.le_of_ble_eq_true rfl) (Nat.le_of_ble_eq_true rfl) (fun q2 => ?_)
  refine n_putF E (dat dkX4_init 9 rfl) (ty := .array .int) (j := 1) (q0 := 0) (ci := 5) (C := RX4) (T := TX4) (N := 5) rfl inB4 tyX4_ok nmX4 (by decide) (bg_1 79 (by decide +kernel)) rfl rfl (by decide +kernel) rfl rfl rfl (Nat.le_of_ble_eq_true rfl) ?_
  refine n_ws (ws2 := [(a, .inr (5, [.ref q1, .ref q2, .null, .null, .int 0])), (q1, aO G 6 30), (q2, aN G 0 30)]) rfl ?_
  refine n_aload_n E (dat dkX4_init 10 rfl) rfl rfl ?_
  refine n_bipush E (dat dkX4_init 11 rfl) (v := 30) rfl ?_
  refine n_newa E (atype := .int) (ty := .int) (i := 0) (N := 30) (dat dkX4_init 12 rfl) rfl an_int rfl (fun _ h => h) (fun _ => rfl) (by decide) rfl (Nat.le_of_ble_eq_true rfl) (Nat.le_of_ble_eq_true rfl) (Nat.le_of_ble_eq_true rfl) (fun q3 => ?_)
  refine n_putF E (dat dkX4_init 13 rfl) (ty := .array .int) (j := 2) (q0 := 0) (ci := 5) (C := RX4) (T := TX4) (N := 5) rfl inB4 tyX4_ok nmX4 (by decide) (bg_1 80 (by decide +kernel)) rfl rfl (by decide +kernel) rfl rfl rfl (Nat.le_of_ble_eq_true rfl) ?_
  refine n_ws (ws2 := [(a, .inr (5, [.ref q1, .ref q2, .ref q3, .null, .int 0])), (q1, aO G 6 30), (q2, aN G 0 30), (q3, aN G 0 30)]) rfl ?_
  refine n_aload_n E (dat dkX4_init 14 rfl) rfl rfl ?_
  refine n_bipush E (dat dkX4_init 15 rfl) (v := 30) rfl ?_
  refine n_newa E (atype := .int) (ty := .int) (i := 0) (N := 30) (dat dkX4_init 16 rfl) rfl an_int rfl (fun _ h => h) (fun _ => rfl) (by decide) rfl (Nat.le_of_ble_eq_true rfl) (Nat.le_of_ble_eq_true rfl) (Nat.le_of_ble_eq_true rfl) (fun q4 => ?_)
  refine n_putF E (dat dkX4_init 17 rfl) (ty := .array .int) (j := 3) (q0 := 0) (ci := 5) (C := RX4) (T := TX4) (N := 5) rfl inB4 tyX4_ok nmX4 (by decide) (bg_1 81 (by decide +kernel)) rfl rfl (by decide +kernel) rfl rfl rfl (Nat.le_of_ble_eq_true rfl) ?_
  refine n_ws (ws2 := [(a, .inr (5, [.ref q1, .ref q2, .ref q3, .ref q4, .int 0])), (q1, aO G 6 30), (q2, aN G 0 30), (q3, aN G 0 30), (q4, aN G 0 30)]) rfl ?_
  refine n_aload_n E (dat dkX4_init 18 rfl) rfl rfl ?_
  refine n_iconst E (dat dkX4_init 19 rfl) (v := 0) rfl ?_
  refine n_put E (dat dkX4_init 20 rfl) (ty := .int) (j := 4) (q0 := 0) (ci := 5) (C := RX4) (T := TX4) (N := 5) rfl inB4 tyX4_ok nmX4 (by decide) (bg_1 82 (by decide +kernel)) rfl (by decide +kernel) rfl rfl rfl (Nat.le_of_ble_eq_true rfl) ?_
  refine n_ws (ws2 := [(a, .inr (5, [.ref q1, .ref q2, .ref q3, .ref q4, .int 0])), (q1, aO G 6 30), (q2, aN G 0 30), (q3, aN G 0 30), (q4, aN G 0 30)]) rfl ?_
  refine n_vret E (dat dkX4_init 21 rfl) (Nat.le_of_ble_eq_true rfl) (Nat.le_of_ble_eq_true rfl) (fun t hP hD hF => ⟨⟨fun _ t => if t = 0 then a else if t = 1 then q1 else if t = 2 then q2 else if t = 3 then q3 else q4, rfl, rfl, ?_, ?_⟩, hF⟩)
  · exact hP
  · exact hD
/-- Text() -/
theorem sp_X6_init (l : Launch) (G : GT) : CK l G yX6_init cX6_init 1 ({ frames := 1, cells := 1, slots := 600, locals := 12 } : Room) 7 [.null, .int 0, .int 0, .int 0, .int 0, .int 0, .int 0, .int 0] [3] lk0 zT0 := by
  refine CK.of RX6 (by decide) rfl rfl (Nat.le_refl _) (fun p e s m args below meth c a E => ?_)
  refine n_aload_n E (dat dkX6_init 0 rfl) rfl rfl ?_
  refine n_objI E (dat dkX6_init 1 rfl) (bg_1 40 (by decide +kernel)) oi_2 oi_3 (Nat.le_refl _) (Nat.le_refl _) ?_
  refine n_aload_n E (dat dkX6_init 2 rfl) rfl rfl ?_
  refine n_sipush E (dat dkX6_init 3 rfl) (v := 600) rfl ?_
  refine n_newa E (atype := .byte) (ty := .byte) (i := 1) (N := 600) (dat dkX6_init 4 rfl) rfl an_byte rfl (fun _ h => h) (fun _ => rfl) (by decide) rfl (Nat.le_of_ble_eq_true rfl) (Nat.le_of_ble_eq_true rfl) (Nat.le_of_ble_eq_true rfl) (fun q1 => ?_)
  refine n_putF E (dat dkX6_init 5 rfl) (ty := .array .byte) (j := 0) (q0 := 0) (ci := 7) (C := RX6) (T := TX6) (N := 8) rfl inB6 tyX6_ok nmX6 (by decide) (bg_1 41 (by decide +kernel)) rfl rfl (by decide +kernel) rfl rfl rfl (Nat.le_of_ble_eq_true rfl) ?_
  refine n_ws (ws2 := [(a, .inr (7, [.ref q1, .int 0, .int 0, .int 0, .int 0, .int 0, .int 0, .int 0])), (q1, aN G 1 600)]) rfl ?_
  refine n_aload_n E (dat dkX6_init 6 rfl) rfl rfl ?_
  refine n_iconst E (dat dkX6_init 7 rfl) (v := 0) rfl ?_
  refine n_put E (dat dkX6_init 8 rfl) (ty := .int) (j := 1) (q0 := 0) (ci := 7) (C := RX6) (T := TX6) (N := 8) rfl inB6 tyX6_ok nmX6 (by decide) (bg_1 42 (by decide +kernel)) rfl (by decide +kernel) rfl rfl rfl (Nat.le_of_ble_eq_true rfl) ?_
  refine n_ws (ws2 := [(a, .inr (7, [.ref q1, .int 0, .int 0, .int 0, .int 0, .int 0, .int 0, .int 0])), (q1, aN G 1 600)]) rfl ?_
  refine n_aload_n E (dat dkX6_init 9 rfl) rfl rfl ?_
  refine n_iconst E (dat dkX6_init 10 rfl) (v := 0) rfl ?_
  refine n_put E (dat dkX6_init 11 rfl) (ty := .int) (j := 2) (q0 := 0) (ci := 7) (C := RX6) (T := TX6) (N := 8) rfl inB6 tyX6_ok nmX6 (by decide) (bg_1 44 (by decide +kernel)) rfl (by decide +kernel) rfl rfl rfl (Nat.le_of_ble_eq_true rfl) ?_
  refine n_ws (ws2 := [(a, .inr (7, [.ref q1, .int 0, .int 0, .int 0, .int 0, .int 0, .int 0, .int 0])), (q1, aN G 1 600)]) rfl ?_
  refine n_aload_n E (dat dkX6_init 12 rfl) rfl rfl ?_
  refine n_iconst E (dat dkX6_init 13 rfl) (v := 0) rfl ?_
  refine n_put E (dat dkX6_init 14 rfl) (ty := .int) (j := 3) (q0 := 0) (ci := 7) (C := RX6) (T := TX6) (N := 8) rfl inB6 tyX6_ok nmX6 (by decide) (bg_1 45 (by decide +kernel)) rfl (by decide +kernel) rfl rfl rfl (Nat.le_of_ble_eq_true rfl) ?_
  refine n_ws (ws2 := [(a, .inr (7, [.ref q1, .int 0, .int 0, .int 0, .int 0, .int 0, .int 0, .int 0])), (q1, aN G 1 600)]) rfl ?_
  refine n_aload_n E (dat dkX6_init 15 rfl) rfl rfl ?_
  refine n_iconst E (dat dkX6_init 16 rfl) (v := 0) rfl ?_
  refine n_put E (dat dkX6_init 17 rfl) (ty := .int) (j := 4) (q0 := 0) (ci := 7) (C := RX6) (T := TX6) (N := 8) rfl inB6 tyX6_ok nmX6 (by decide) (bg_1 47 (by decide +kernel)) rfl (by decide +kernel) rfl rfl rfl (Nat.le_of_ble_eq_true rfl) ?_
  refine n_ws (ws2 := [(a, .inr (7, [.ref q1, .int 0, .int 0, .int 0, .int 0, .int 0, .int 0, .int 0])), (q1, aN G 1 600)]) rfl ?_
  refine n_aload_n E (dat dkX6_init 18 rfl) rfl rfl ?_
  refine n_iconst E (dat dkX6_init 19 rfl) (v := 0) rfl ?_
  refine n_put E (dat dkX6_init 20 rfl) (ty := .int) (j := 5) (q0 := 0) (ci := 7) (C := RX6) (T := TX6) (N := 8) rfl inB6 tyX6_ok nmX6 (by decide) (bg_1 48 (by decide +kernel)) rfl (by decide +kernel) rfl rfl rfl (Nat.le_of_ble_eq_true rfl) ?_
  refine n_ws (ws2 := [(a, .inr (7, [.ref q1, .int 0, .int 0, .int 0, .int 0, .int 0, .int 0, .int 0])), (q1, aN G 1 600)]) rfl ?_
  refine n_aload_n E (dat dkX6_init 21 rfl) rfl rfl ?_
  refine n_iconst E (dat dkX6_init 22 rfl) (v := 0) rfl ?_
  refine n_put E (dat dkX6_init 23 rfl) (ty := .int) (j := 6) (q0 := 0) (ci := 7) (C := RX6) (T := TX6) (N := 8) rfl inB6 tyX6_ok nmX6 (by decide) (bg_1 50 (by decide +kernel)) rfl (by decide +kernel) rfl rfl rfl (Nat.le_of_ble_eq_true rfl) ?_
  refine n_ws (ws2 := [(a, .inr (7, [.ref q1, .int 0, .int 0, .int 0, .int 0, .int 0, .int 0, .int 0])), (q1, aN G 1 600)]) rfl ?_
  refine n_aload_n E (dat dkX6_init 24 rfl) rfl rfl ?_
  refine n_iconst E (dat dkX6_init 25 rfl) (v := (-1)) rfl ?_
  refine n_put E (dat dkX6_init 26 rfl) (ty := .int) (j := 7) (q0 := 0) (ci := 7) (C := RX6) (T := TX6) (N := 8) rfl inB6 tyX6_ok nmX6 (by decide) (bg_1 51 (by decide +kernel)) rfl (by decide +kernel) rfl rfl rfl (Nat.le_of_ble_eq_true rfl) ?_
  refine n_ws (ws2 := [(a, .inr (7, [.ref q1, .int 0, .int 0, .int 0, .int 0, .int 0, .int 0, .int (-1)])), (q1, aN G 1 600)]) rfl ?_
  refine n_vret E (dat dkX6_init 27 rfl) (Nat.le_of_ble_eq_true rfl) (Nat.le_of_ble_eq_true rfl) (fun t hP hD hF => ⟨⟨fun _ t => if t = 0 then a else  q1, rfl, rfl, ?_, ?_⟩, hF⟩)
  · exact hP
  · exact hD
