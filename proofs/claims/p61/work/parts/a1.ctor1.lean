/-! constructors that make arrays only -/
def zT0 : Mem := fun _ t j => if t = 0 ∧ j = 7 then -1 else 0
def zS0 : Mem := fun _ t _ => if t = 1 then -1 else 0
/-- Text() -/
theorem sp_X6_init (l : Launch) (G : GT) : CK l G yX6_init cX6_init 1 ({ frames := 1, cells := 1, slots := 600, locals := 12 } : Room) 7 [.null, .int 0, .int 0, .int 0, .int 0, .int 0, .int 0, .int 0] [3] lk0 zT0 := by
  refine CK.of RX6 (by decide) rfl rfl (Nat.le_refl _) (fun p e s m args below meth c a E => ?_)
  refine n_aload_n E (dat dkX6_init 0 rfl) rfl rfl ?_
  refine n_objI E (dat dkX6_init 1 rfl) (bg_1 40 (by decide +kernel)) oi_2 oi_3 (Nat.le_refl _) (Nat.le_refl _) ?_
  refine n_aload_n E (dat dkX6_init 2 rfl) rfl rfl ?_
  refine n_sipush E (dat dkX6_init 3 rfl) (v := 600) rfl ?_
  refine n_newa E (atype := .byte) (ty := .byte) (i := 1) (N := 600) (dat dkX6_init 4 rfl) rfl an_byte rfl (fun _ h => h) (fun _ => rfl) (by decide) rfl (Nat.le_of_ble_eq_true rfl) (Nat.le_of_ble_eq_true rfl) (Nat.le_of_ble_eq_true rfl) (fun q1 => ?_)
  refine n_putF E (dat dkX6_init 5 rfl) (ty := .array .byte) (j := 0) (q0 := 0) (ci := 7) (C := RX6) (T := TX6) (N := 8) rfl inB6 tyX6_ok nmX6 (by decide) (bg_1 41 (by decide +kernel)) rfl rfl (by decide +kernel) rfl rfl rfl (Nat.le_of_ble_eq_true rfl) ?_
  refine n_ws (ws2 := [(a, .inr (7, [.ref q1, .int 0, .int 0, .int 0, .int 0, .int 0, .int 0, .int 0])), (q1, aN G 1 600)]) rfl ?_
  refine n_aload_n E (dat dkX6_init 6 rfl) rfl rfl ?_
  refine n_iconst E (dat dkX6_init 7 rfl) (v := 0) rfl ?_
  refine n_put E (dat dkX6_init 8 rfl) (ty := .int) (j := 1) (q0 := 0) (ci := 7) (C := RX6) (T := TX6) (N := 8) rfl inB6 tyX6_ok nmX6 (by decide) (bg_1 42 (by decide +kernel)) rfl (by decide +kernel) rfl rfl rfl (Nat.le_of_ble_eq_true rfl) ?_
  refine n_ws (ws2 := [(a, .inr (7, [.ref q1, .int 0, .int 0, .int 0, .int 0, .int 0, .int 0, .int 0])), (q1, aN G 1 600)]) rfl ?_
  refine n_aload_n E (dat dkX6_init 9 rfl) rfl rfl ?_
  refine n_iconst E (dat dkX6_init 10 rfl) (v := 0) rfl ?_
  refine n_put E (dat dkX6_init 11 rfl) (ty := .int) (j := 2) (q0 := 0) (ci := 7) (C := RX6) (T := TX6) (N := 8) rfl inB6 tyX6_ok nmX6 (by decide) (bg_1 44 (by decide +kernel)) rfl (by decide +kernel) rfl rfl rfl (Nat.le_of_ble_eq_true rfl) ?_
  refine n_ws (ws2 := [(a, .inr (7, [.ref q1, .int 0, .int 0, .int 0, .int 0, .int 0, .int 0, .int 0])), (q1, aN G 1 600)]) rfl ?_
  refine n_aload_n E (dat dkX6_init 12 rfl) rfl rfl ?_
  refine n_iconst E (dat dkX6_init 13 rfl) (v := 0) rfl ?_
  refine n_put E (dat dkX6_init 14 rfl) (ty := .int) (j := 3) (q0 := 0) (ci := 7) (C := RX6) (T := TX6) (N := 8) rfl inB6 tyX6_ok nmX6 (by decide) (bg_1 45 (by decide +kernel)) rfl (by decide +kernel) rfl rfl rfl (Nat.le_of_ble_eq_true rfl) ?_
  refine n_ws (ws2 := [(a, .inr (7, [.ref q1, .int 0, .int 0, .int 0, .int 0, .int 0, .int 0, .int 0])), (q1, aN G 1 600)]) rfl ?_
  refine n_aload_n E (dat dkX6_init 15 rfl) rfl rfl ?_
  refine n_iconst E (dat dkX6_init 16 rfl) (v := 0) rfl ?_
  refine n_put E (dat dkX6_init 17 rfl) (ty := .int) (j := 4) (q0 := 0) (ci := 7) (C := RX6) (T := TX6) (N := 8) rfl inB6 tyX6_ok nmX6 (by decide) (bg_1 47 (by decide +kernel)) rfl (by decide +kernel) rfl rfl rfl (Nat.le_of_ble_eq_true rfl) ?_
  refine n_ws (ws2 := [(a, .inr (7, [.ref q1, .int 0, .int 0, .int 0, .int 0, .int 0, .int 0, .int 0])), (q1, aN G 1 600)]) rfl ?_
  refine n_aload_n E (dat dkX6_init 18 rfl) rfl rfl ?_
  refine n_iconst E (dat dkX6_init 19 rfl) (v := 0) rfl ?_
  refine n_put E (dat dkX6_init 20 rfl) (ty := .int) (j := 5) (q0 := 0) (ci := 7) (C := RX6) (T := TX6) (N := 8) rfl inB6 tyX6_ok nmX6 (by decide) (bg_1 48 (by decide +kernel)) rfl (by decide +kernel) rfl rfl rfl (Nat.le_of_ble_eq_true rfl) ?_
  refine n_ws (ws2 := [(a, .inr (7, [.ref q1, .int 0, .int 0, .int 0, .int 0, .int 0, .int 0, .int 0])), (q1, aN G 1 600)]) rfl ?_
  refine n_aload_n E (dat dkX6_init 21 rfl) rfl rfl ?_
  refine n_iconst E (dat dkX6_init 22 rfl) (v := 0) rfl ?_
  refine n_put E (dat dkX6_init 23 rfl) (ty := .int) (j := 6) (q0 := 0) (ci := 7) (C := RX6) (T := TX6) (N := 8) rfl inB6 tyX6_ok nmX6 (by decide) (bg_1 50 (by decide +kernel)) rfl (by decide +kernel) rfl rfl rfl (Nat.le_of_ble_eq_true rfl) ?_
  refine n_ws (ws2 := [(a, .inr (7, [.ref q1, .int 0, .int 0, .int 0, .int 0, .int 0, .int 0, .int 0])), (q1, aN G 1 600)]) rfl ?_
  refine n_aload_n E (dat dkX6_init 24 rfl) rfl rfl ?_
  refine n_iconst E (dat dkX6_init 25 rfl) (v := (-1)) rfl ?_
  refine n_put E (dat dkX6_init 26 rfl) (ty := .int) (j := 7) (q0 := 0) (ci := 7) (C := RX6) (T := TX6) (N := 8) rfl inB6 tyX6_ok nmX6 (by decide) (bg_1 51 (by decide +kernel)) rfl (by decide +kernel) rfl rfl rfl (Nat.le_of_ble_eq_true rfl) ?_
  refine n_ws (ws2 := [(a, .inr (7, [.ref q1, .int 0, .int 0, .int 0, .int 0, .int 0, .int 0, .int (-1)])), (q1, aN G 1 600)]) rfl ?_
  refine n_vret E (dat dkX6_init 27 rfl) (Nat.le_of_ble_eq_true rfl) (Nat.le_of_ble_eq_true rfl) (fun t hP hD hF => ⟨⟨fun _ t => if t = 0 then a else  q1, rfl, rfl, ?_, ?_⟩, hF⟩)
  · exact hP
  · exact hD
