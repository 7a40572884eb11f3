/-! Plan() -/
theorem P_fnp {D : va_G} {cl : List vw_C} {w : va_W} {p q N : Nat} {cA : ClassId} {f g : Nat → Option Nat} {H : Heap} (hp : w[p]? = some (q, .inl (cA, N, .inr (.inr (.inr (.inr f)))))) (h : ∀ j, j < N → f j = g j) (hP : va_P D cl w H) : va_P D cl (w.set p (q, .inl (cA, N, .inr (.inr (.inr (.inr g)))))) H := by
  intro i z hz
  by_cases hi : p = i
  · subst hi
    rw [List.getElem?_set_self (List.getElem?_eq_some_iff.mp hp).1] at hz
    have hz2 : (q, Sum.inl (cA, N, Sum.inr (Sum.inr (Sum.inr (Sum.inr g))))) = z := Option.some.inj hz
    subst hz2
    have h1 : H[q]? = some (arrV cA N (fun j => va_rf (f j))) := hP p _ hp
    show H[q]? = some (arrV cA N (fun j => va_rf (g j)))
    rw [h1]
    exact congrArg some (arr_congr (fun j hj => by rw [h j hj]))
  · rw [List.getElem?_set_ne hi] at hz
    exact hP i z hz
def zP0 : Mem := zM

theorem sp_X2_init (l : Launch) (G : GT) : CK l G yX2_init cX2_init 1 ({ frames := 1, cells := 11, slots := 424, locals := 12 } : Room) 3 [.null, .null, .null, .null, .null, .null, .null, .int 0, .int 0, .int 0, .int 0, .int 0] [2] lk0 zM := by
  refine CK.of RX2 (by decide) rfl rfl (Nat.le_refl _) (fun p e s m args below meth c a E => ?_)
  refine n_aload_n E (dat dkX2_init 0 rfl) rfl rfl ?_
  refine n_objI E (dat dkX2_init 1 rfl) (bg_1 225 (by decide +kernel)) oi_2 oi_3 (Nat.le_refl _) (Nat.le_refl _) ?_
  refine n_aload_n E (dat dkX2_init 2 rfl) rfl rfl ?_
  refine n_bipush E (dat dkX2_init 3 rfl) (v := 64) rfl ?_
  refine n_newa E (atype := .int) (ty := .int) (i := 0) (N := 64) (dat dkX2_init 4 rfl) rfl an_int rfl (fun _ h => h) (fun _ => rfl) (by decide) rfl (Nat.le_of_ble_eq_true rfl) (Nat.le_of_ble_eq_true rfl) (Nat.le_of_ble_eq_true rfl) (fun q1 => ?_)
  refine n_putF E (dat dkX2_init 5 rfl) (ty := .array .int) (j := 0) (q0 := 0) (ci := 3) (C := RX2) (T := TX2) (N := 12) rfl inB2 tyX2_ok nmX2 (by decide) (bg_1 228 (by decide +kernel)) rfl rfl (by decide +kernel) rfl rfl rfl (Nat.le_of_ble_eq_true rfl) ?_
  refine n_ws (ws2 := [(a, .inr (3, [.ref q1, .null, .null, .null, .null, .null, .null, .int 0, .int 0, .int 0, .int 0, .int 0])), (q1, aN G 0 64)]) rfl ?_
  refine n_aload_n E (dat dkX2_init 6 rfl) rfl rfl ?_
  refine n_bipush E (dat dkX2_init 7 rfl) (v := 64) rfl ?_
  refine n_newa E (atype := .int) (ty := .int) (i := 0) (N := 64) (dat dkX2_init 8 rfl) rfl an_int rfl (fun _ h => h) (fun _ => rfl) (by decide) rfl (Nat.le_of_ble_eq_true rfl) (Nat.le_of_ble_eq_true rfl) (Nat.le_of_ble_eq_true rfl) (fun q2 => ?_)
  refine n_putF E (dat dkX2_init 9 rfl) (ty := .array .int) (j := 1) (q0 := 0) (ci := 3) (C := RX2) (T := TX2) (N := 12) rfl inB2 tyX2_ok nmX2 (by decide) (bg_1 231 (by decide +kernel)) rfl rfl (by decide +kernel) rfl rfl rfl (Nat.le_of_ble_eq_true rfl) ?_
  refine n_ws (ws2 := [(a, .inr (3, [.ref q1, .ref q2, .null, .null, .null, .null, .null, .int 0, .int 0, .int 0, .int 0, .int 0])), (q1, aN G 0 64), (q2, aN G 0 64)]) rfl ?_
  refine n_aload_n E (dat dkX2_init 10 rfl) rfl rfl ?_
  refine n_sipush E (dat dkX2_init 11 rfl) (v := 256) rfl ?_
  refine n_newa E (atype := .int) (ty := .int) (i := 0) (N := 256) (dat dkX2_init 12 rfl) rfl an_int rfl (fun _ h => h) (fun _ => rfl) (by decide) rfl (Nat.le_of_ble_eq_true rfl) (Nat.le_of_ble_eq_true rfl) (Nat.le_of_ble_eq_true rfl) (fun q3 => ?_)
  refine n_putF E (dat dkX2_init 13 rfl) (ty := .array .int) (j := 2) (q0 := 0) (ci := 3) (C := RX2) (T := TX2) (N := 12) rfl inB2 tyX2_ok nmX2 (by decide) (bg_1 233 (by decide +kernel)) rfl rfl (by decide +kernel) rfl rfl rfl (Nat.le_of_ble_eq_true rfl) ?_
  refine n_ws (ws2 := [(a, .inr (3, [.ref q1, .ref q2, .ref q3, .null, .null, .null, .null, .int 0, .int 0, .int 0, .int 0, .int 0])), (q1, aN G 0 64), (q2, aN G 0 64), (q3, aN G 0 256)]) rfl ?_
  refine n_aload_n E (dat dkX2_init 14 rfl) rfl rfl ?_
  refine n_iconst E (dat dkX2_init 15 rfl) (v := 4) rfl ?_
  refine n_bipush E (dat dkX2_init 16 rfl) (v := 6) rfl ?_
  refine n_mna E (dat dkX2_init 17 rfl) (bg_1 226 (by decide +kernel)) (Nat.le_of_ble_eq_true rfl) (Nat.le_of_ble_eq_true rfl) (fun q4 r => ?_)
  refine n_putF E (dat dkX2_init 18 rfl) (ty := .array (.array .byte)) (j := 3) (q0 := 0) (ci := 3) (C := RX2) (T := TX2) (N := 12) rfl inB2 tyX2_ok nmX2 (by decide) (bg_1 234 (by decide +kernel)) rfl rfl (by decide +kernel) rfl rfl rfl (Nat.le_of_ble_eq_true rfl) ?_
  refine n_ws (ws2 := [(a, .inr (3, [.ref q1, .ref q2, .ref q3, .ref q4, .null, .null, .null, .int 0, .int 0, .int 0, .int 0, .int 0])), (q1, aN G 0 64), (q2, aN G 0 64), (q3, aN G 0 256), (q4, .inl (G.2.1 5, (4, .inr (.inr (.inr (.inr (fun i => if i < 4 then some (r i) else none))))))), (r 0, aN G 1 6), (r 1, aN G 1 6), (r 2, aN G 1 6), (r 3, aN G 1 6)]) rfl ?_
  refine n_aload_n E (dat dkX2_init 19 rfl) rfl rfl ?_
  refine n_iconst E (dat dkX2_init 20 rfl) (v := 4) rfl ?_
  refine n_newa E (atype := .int) (ty := .int) (i := 0) (N := 4) (dat dkX2_init 21 rfl) rfl an_int rfl (fun _ h => h) (fun _ => rfl) (by decide) rfl (Nat.le_of_ble_eq_true rfl) (Nat.le_of_ble_eq_true rfl) (Nat.le_of_ble_eq_true rfl) (fun q5 => ?_)
  refine n_putF E (dat dkX2_init 22 rfl) (ty := .array .int) (j := 4) (q0 := 0) (ci := 3) (C := RX2) (T := TX2) (N := 12) rfl inB2 tyX2_ok nmX2 (by decide) (bg_1 235 (by decide +kernel)) rfl rfl (by decide +kernel) rfl rfl rfl (Nat.le_of_ble_eq_true rfl) ?_
  refine n_ws (ws2 := [(a, .inr (3, [.ref q1, .ref q2, .ref q3, .ref q4, .ref q5, .null, .null, .int 0, .int 0, .int 0, .int 0, .int 0])), (q1, aN G 0 64), (q2, aN G 0 64), (q3, aN G 0 256), (q4, .inl (G.2.1 5, (4, .inr (.inr (.inr (.inr (fun i => if i < 4 then some (r i) else none))))))), (r 0, aN G 1 6), (r 1, aN G 1 6), (r 2, aN G 1 6), (r 3, aN G 1 6), (q5, aN G 0 4)]) rfl ?_
  refine n_aload_n E (dat dkX2_init 23 rfl) rfl rfl ?_
  refine n_iconst E (dat dkX2_init 24 rfl) (v := 4) rfl ?_
  refine n_newa E (atype := .int) (ty := .int) (i := 0) (N := 4) (dat dkX2_init 25 rfl) rfl an_int rfl (fun _ h => h) (fun _ => rfl) (by decide) rfl (Nat.le_of_ble_eq_true rfl) (Nat.le_of_ble_eq_true rfl) (Nat.le_of_ble_eq_true rfl) (fun q6 => ?_)
  refine n_putF E (dat dkX2_init 26 rfl) (ty := .array .int) (j := 5) (q0 := 0) (ci := 3) (C := RX2) (T := TX2) (N := 12) rfl inB2 tyX2_ok nmX2 (by decide) (bg_1 236 (by decide +kernel)) rfl rfl (by decide +kernel) rfl rfl rfl (Nat.le_of_ble_eq_true rfl) ?_
  refine n_ws (ws2 := [(a, .inr (3, [.ref q1, .ref q2, .ref q3, .ref q4, .ref q5, .ref q6, .null, .int 0, .int 0, .int 0, .int 0, .int 0])), (q1, aN G 0 64), (q2, aN G 0 64), (q3, aN G 0 256), (q4, .inl (G.2.1 5, (4, .inr (.inr (.inr (.inr (fun i => if i < 4 then some (r i) else none))))))), (r 0, aN G 1 6), (r 1, aN G 1 6), (r 2, aN G 1 6), (r 3, aN G 1 6), (q5, aN G 0 4), (q6, aN G 0 4)]) rfl ?_
  refine n_aload_n E (dat dkX2_init 27 rfl) rfl rfl ?_
  refine n_iconst E (dat dkX2_init 28 rfl) (v := 4) rfl ?_
  refine n_newa E (atype := .int) (ty := .int) (i := 0) (N := 4) (dat dkX2_init 29 rfl) rfl an_int rfl (fun _ h => h) (fun _ => rfl) (by decide) rfl (Nat.le_of_ble_eq_true rfl) (Nat.le_of_ble_eq_true rfl) (Nat.le_of_ble_eq_true rfl) (fun q7 => ?_)
  refine n_putF E (dat dkX2_init 30 rfl) (ty := .array .int) (j := 6) (q0 := 0) (ci := 3) (C := RX2) (T := TX2) (N := 12) rfl inB2 tyX2_ok nmX2 (by decide) (bg_1 238 (by decide +kernel)) rfl rfl (by decide +kernel) rfl rfl rfl (Nat.le_of_ble_eq_true rfl) ?_
  refine n_ws (ws2 := [(a, .inr (3, [.ref q1, .ref q2, .ref q3, .ref q4, .ref q5, .ref q6, .ref q7, .int 0, .int 0, .int 0, .int 0, .int 0])), (q1, aN G 0 64), (q2, aN G 0 64), (q3, aN G 0 256), (q4, .inl (G.2.1 5, (4, .inr (.inr (.inr (.inr (fun i => if i < 4 then some (r i) else none))))))), (r 0, aN G 1 6), (r 1, aN G 1 6), (r 2, aN G 1 6), (r 3, aN G 1 6), (q5, aN G 0 4), (q6, aN G 0 4), (q7, aN G 0 4)]) rfl ?_
  refine n_aload_n E (dat dkX2_init 31 rfl) rfl rfl ?_
  refine n_iconst E (dat dkX2_init 32 rfl) (v := 0) rfl ?_
  refine n_put E (dat dkX2_init 33 rfl) (ty := .int) (j := 7) (q0 := 0) (ci := 3) (C := RX2) (T := TX2) (N := 12) rfl inB2 tyX2_ok nmX2 (by decide) (bg_2 0 (by decide +kernel)) rfl (by decide +kernel) rfl rfl rfl (Nat.le_of_ble_eq_true rfl) ?_
  refine n_ws (ws2 := [(a, .inr (3, [.ref q1, .ref q2, .ref q3, .ref q4, .ref q5, .ref q6, .ref q7, .int 0, .int 0, .int 0, .int 0, .int 0])), (q1, aN G 0 64), (q2, aN G 0 64), (q3, aN G 0 256), (q4, .inl (G.2.1 5, (4, .inr (.inr (.inr (.inr (fun i => if i < 4 then some (r i) else none))))))), (r 0, aN G 1 6), (r 1, aN G 1 6), (r 2, aN G 1 6), (r 3, aN G 1 6), (q5, aN G 0 4), (q6, aN G 0 4), (q7, aN G 0 4)]) rfl ?_
  refine n_aload_n E (dat dkX2_init 34 rfl) rfl rfl ?_
  refine n_iconst E (dat dkX2_init 35 rfl) (v := 0) rfl ?_
  refine n_put E (dat dkX2_init 36 rfl) (ty := .int) (j := 8) (q0 := 0) (ci := 3) (C := RX2) (T := TX2) (N := 12) rfl inB2 tyX2_ok nmX2 (by decide) (bg_2 1 (by decide +kernel)) rfl (by decide +kernel) rfl rfl rfl (Nat.le_of_ble_eq_true rfl) ?_
  refine n_ws (ws2 := [(a, .inr (3, [.ref q1, .ref q2, .ref q3, .ref q4, .ref q5, .ref q6, .ref q7, .int 0, .int 0, .int 0, .int 0, .int 0])), (q1, aN G 0 64), (q2, aN G 0 64), (q3, aN G 0 256), (q4, .inl (G.2.1 5, (4, .inr (.inr (.inr (.inr (fun i => if i < 4 then some (r i) else none))))))), (r 0, aN G 1 6), (r 1, aN G 1 6), (r 2, aN G 1 6), (r 3, aN G 1 6), (q5, aN G 0 4), (q6, aN G 0 4), (q7, aN G 0 4)]) rfl ?_
  refine n_aload_n E (dat dkX2_init 37 rfl) rfl rfl ?_
  refine n_iconst E (dat dkX2_init 38 rfl) (v := 0) rfl ?_
  refine n_put E (dat dkX2_init 39 rfl) (ty := .int) (j := 9) (q0 := 0) (ci := 3) (C := RX2) (T := TX2) (N := 12) rfl inB2 tyX2_ok nmX2 (by decide) (bg_2 2 (by decide +kernel)) rfl (by decide +kernel) rfl rfl rfl (Nat.le_of_ble_eq_true rfl) ?_
  refine n_ws (ws2 := [(a, .inr (3, [.ref q1, .ref q2, .ref q3, .ref q4, .ref q5, .ref q6, .ref q7, .int 0, .int 0, .int 0, .int 0, .int 0])), (q1, aN G 0 64), (q2, aN G 0 64), (q3, aN G 0 256), (q4, .inl (G.2.1 5, (4, .inr (.inr (.inr (.inr (fun i => if i < 4 then some (r i) else none))))))), (r 0, aN G 1 6), (r 1, aN G 1 6), (r 2, aN G 1 6), (r 3, aN G 1 6), (q5, aN G 0 4), (q6, aN G 0 4), (q7, aN G 0 4)]) rfl ?_
  refine n_aload_n E (dat dkX2_init 40 rfl) rfl rfl ?_
  refine n_iconst E (dat dkX2_init 41 rfl) (v := 0) rfl ?_
  refine n_put E (dat dkX2_init 42 rfl) (ty := .int) (j := 10) (q0 := 0) (ci := 3) (C := RX2) (T := TX2) (N := 12) rfl inB2 tyX2_ok nmX2 (by decide) (bg_2 6 (by decide +kernel)) rfl (by decide +kernel) rfl rfl rfl (Nat.le_of_ble_eq_true rfl) ?_
  refine n_ws (ws2 := [(a, .inr (3, [.ref q1, .ref q2, .ref q3, .ref q4, .ref q5, .ref q6, .ref q7, .int 0, .int 0, .int 0, .int 0, .int 0])), (q1, aN G 0 64), (q2, aN G 0 64), (q3, aN G 0 256), (q4, .inl (G.2.1 5, (4, .inr (.inr (.inr (.inr (fun i => if i < 4 then some (r i) else none))))))), (r 0, aN G 1 6), (r 1, aN G 1 6), (r 2, aN G 1 6), (r 3, aN G 1 6), (q5, aN G 0 4), (q6, aN G 0 4), (q7, aN G 0 4)]) rfl ?_
  refine n_aload_n E (dat dkX2_init 43 rfl) rfl rfl ?_
  refine n_iconst E (dat dkX2_init 44 rfl) (v := 0) rfl ?_
  refine n_put E (dat dkX2_init 45 rfl) (ty := .int) (j := 11) (q0 := 0) (ci := 3) (C := RX2) (T := TX2) (N := 12) rfl inB2 tyX2_ok nmX2 (by decide) (bg_2 9 (by decide +kernel)) rfl (by decide +kernel) rfl rfl rfl (Nat.le_of_ble_eq_true rfl) ?_
  refine n_ws (ws2 := [(a, .inr (3, [.ref q1, .ref q2, .ref q3, .ref q4, .ref q5, .ref q6, .ref q7, .int 0, .int 0, .int 0, .int 0, .int 0])), (q1, aN G 0 64), (q2, aN G 0 64), (q3, aN G 0 256), (q4, .inl (G.2.1 5, (4, .inr (.inr (.inr (.inr (fun i => if i < 4 then some (r i) else none))))))), (r 0, aN G 1 6), (r 1, aN G 1 6), (r 2, aN G 1 6), (r 3, aN G 1 6), (q5, aN G 0 4), (q6, aN G 0 4), (q7, aN G 0 4)]) rfl ?_
  refine n_vret E (dat dkX2_init 46 rfl) (Nat.le_of_ble_eq_true rfl) (Nat.le_of_ble_eq_true rfl) (fun t hP hD hF => ⟨⟨fun _ t => match t with | 0 => a | 1 => q1 | 2 => q2 | 3 => q3 | 4 => q4 | 5 => q5 | 6 => q6 | 7 => q7 | 8 => r 0 | 9 => r 1 | 10 => r 2 | _ => r 3, rfl, rfl, ?_, ?_⟩, hF⟩)
  · refine P_fnp (w := [(a, .inr (3, [.ref q1, .ref q2, .ref q3, .ref q4, .ref q5, .ref q6, .ref q7, .int 0, .int 0, .int 0, .int 0, .int 0])), (q1, aN G 0 64), (q2, aN G 0 64), (q3, aN G 0 256), (q4, .inl (G.2.1 5, (4, .inr (.inr (.inr (.inr (fun i => if i < 4 then some (r i) else none))))))), (q5, aN G 0 4), (q6, aN G 0 4), (q7, aN G 0 4), (r 0, aN G 1 6), (r 1, aN G 1 6), (r 2, aN G 1 6), (r 3, aN G 1 6)]) (p := 4) rfl ?_ (hP.sub [0, 1, 2, 3, 4, 9, 10, 11, 5, 6, 7, 8] rfl)
    intro j hj
    rcases (show j = 0 ∨ j = 1 ∨ j = 2 ∨ j = 3 by omega) with rfl | rfl | rfl | rfl <;> rfl
  · exact va_D.set (ws := [(a, .inr (3, [.ref q1, .ref q2, .ref q3, .ref q4, .ref q5, .ref q6, .ref q7, .int 0, .int 0, .int 0, .int 0, .int 0])), (q1, aN G 0 64), (q2, aN G 0 64), (q3, aN G 0 256), (q4, .inl (G.2.1 5, (4, .inr (.inr (.inr (.inr (fun i => if i < 4 then some (r i) else none))))))), (q5, aN G 0 4), (q6, aN G 0 4), (q7, aN G 0 4), (r 0, aN G 1 6), (r 1, aN G 1 6), (r 2, aN G 1 6), (r 3, aN G 1 6)]) (p := 4) (hD.sub [0, 1, 2, 3, 4, 9, 10, 11, 5, 6, 7, 8] rfl rfl) rfl
