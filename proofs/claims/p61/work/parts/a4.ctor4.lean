/-! History() -/
theorem arr_congr {cI : ClassId} {N : Nat} {f g : Nat → Value} (h : ∀ j, j < N → f j = g j) : arrV cI N f = arrV cI N g := by
  have hs : (arrV cI N f).slots = (arrV cI N g).slots := by
    apply Array.ext_getElem?
    intro i
    rcases Nat.lt_or_ge i N with hi | hi
    · rw [arrV_read cI f hi, arrV_read cI g hi, h i hi]
    · rw [Array.getElem?_eq_none (by rw [arrV_size]; exact hi), Array.getElem?_eq_none (by rw [arrV_size]; exact hi)]
  show ({ arrV cI N f with slots := (arrV cI N f).slots } : Cell) = _
  rw [hs]
  rfl
theorem P_fn {D : va_G} {cl : List vw_C} {w : va_W} {x : Nat × va_E} {q N : Nat} {cA : ClassId} {f g : Nat → Option Nat} {H : Heap} (h : ∀ j, j < N → f j = g j) (hP : va_P D cl (x :: (q, .inl (cA, N, .inr (.inr (.inr (.inr f))))) :: w) H) : va_P D cl (x :: (q, .inl (cA, N, .inr (.inr (.inr (.inr g))))) :: w) H := by
  intro i z hz
  match i with
  | 0 => exact hP 0 z hz
  | 1 =>
    have hz2 : (q, Sum.inl (cA, N, Sum.inr (Sum.inr (Sum.inr (Sum.inr g))))) = z := Option.some.inj hz
    subst hz2
    have h1 : H[q]? = some (arrV cA N (fun j => va_rf (f j))) := hP 1 _ rfl
    show H[q]? = some (arrV cA N (fun j => va_rf (g j)))
    rw [h1]
    exact congrArg some (arr_congr (fun j hj => by rw [h j hj]))
  | i + 2 => exact hP (i + 2) z hz
theorem D_fn {A : Nat → Prop} {w : va_W} {x : Nat × va_E} {q : Nat} {e e2 : va_E} (hD : va_D A (x :: (q, e) :: w)) : va_D A (x :: (q, e2) :: w) := hD.set (p := 1) rfl
def lkN : Nat → Nat → Nat := fun _ i => i + 1

theorem sp_X1_init (l : Launch) (G : GT) : CK l G yX1_init cX1_init 2 ({ frames := 2, cells := 65, slots := 2272, locals := 32 } : Room) 2 [.null, .int 0, .int 0] [7, 1, 1, 1, 1, 1, 1, 1, 1] lkN zM := by
  refine CK.of RX1 (by decide) rfl rfl (Nat.le_of_ble_eq_true rfl) (fun p e s m args below meth c a E => ?_)
  refine n_aload_n E (dat dkX1_init 0 rfl) rfl rfl ?_
  refine n_objI E (dat dkX1_init 1 rfl) (bg_1 167 (by decide +kernel)) oi_2 oi_3 (Nat.le_of_ble_eq_true rfl) (Nat.le_of_ble_eq_true rfl) ?_
  refine n_aload_n E (dat dkX1_init 2 rfl) rfl rfl ?_
  refine n_bipush E (dat dkX1_init 3 rfl) (v := 8) rfl ?_
  refine n_newq E (i := 4) (N := 8) (C := "PuddleCity$State") (dat dkX1_init 4 rfl) (bg_1 168 (by decide +kernel)) E.2.2.2.2.2.2.2.2.2.2.2.1 rfl (by decide) rfl (Nat.le_of_ble_eq_true rfl) (Nat.le_of_ble_eq_true rfl) (Nat.le_of_ble_eq_true rfl) (fun q => ?_)
  refine n_putF E (dat dkX1_init 5 rfl) (ty := .array (.object "PuddleCity$State")) (j := 0) (q0 := 0) (ci := 2) (C := RX1) (T := TX1) (N := 3) rfl inB1 tyX1_ok nmX1 (by decide) (bg_1 171 (by decide +kernel)) rfl rfl (by decide +kernel) rfl rfl rfl (Nat.le_of_ble_eq_true rfl) ?_
  refine n_aload_n E (dat dkX1_init 6 rfl) rfl rfl ?_
  refine n_iconst E (dat dkX1_init 7 rfl) (v := 0) rfl ?_
  refine n_put E (dat dkX1_init 8 rfl) (ty := .int) (j := 1) (q0 := 0) (ci := 2) (C := RX1) (T := TX1) (N := 3) rfl inB1 tyX1_ok nmX1 (by decide) (bg_1 172 (by decide +kernel)) rfl (by decide +kernel) rfl rfl rfl (Nat.le_of_ble_eq_true rfl) ?_
  refine n_aload_n E (dat dkX1_init 9 rfl) rfl rfl ?_
  refine n_iconst E (dat dkX1_init 10 rfl) (v := 0) rfl ?_
  refine n_put E (dat dkX1_init 11 rfl) (ty := .int) (j := 2) (q0 := 0) (ci := 2) (C := RX1) (T := TX1) (N := 3) rfl inB1 tyX1_ok nmX1 (by decide) (bg_1 173 (by decide +kernel)) rfl (by decide +kernel) rfl rfl rfl (Nat.le_of_ble_eq_true rfl) ?_
  refine n_iconst E (dat dkX1_init 12 rfl) (v := 0) rfl ?_
  refine n_istore_n E (i := 1) (L2 := [some (.inl (.ref a)), some (iv 0)]) (dat dkX1_init 13 rfl) rfl (Nat.le_of_ble_eq_true rfl) rfl (hc_of 0 rfl rfl) rfl ?_
  refine n_ws (ws2 := [(a, .inr (2, [.ref q, .int 0, .int 0])), (q, .inl (G.2.1 4, 8, .inr (.inr (.inr (.inr (fun _ => none))))))]) rfl ?_
  refine n_iload_n E (dat dkX1_init 14 rfl) (i := 1) (x := 0) rfl rfl ?_
  refine n_bipush E (dat dkX1_init 15 rfl) (v := 8) rfl ?_
  refine n_icmp_ge E (dat dkX1_init 16 rfl) (tgt := 50) rfl (fun h => absurd h (by decide)) (fun _ => ?_)
  refine n_aload_n E (dat dkX1_init 17 rfl) rfl rfl ?_
  refine n_getf E (dat dkX1_init 18 rfl) (j := 0) (q0 := 0) (ci := 2) (C := RX1) (T := TX1) (N := 3) rfl inB1 (by decide) (bg_1 171 (by decide +kernel)) rfl rfl ?_
  refine n_iload_n E (dat dkX1_init 19 rfl) (i := 1) (x := 0) rfl rfl ?_
  refine n_new E (dat dkX1_init 20 rfl) (ci := 6) (C := RX5) (T := TX5) (N := 15) (ty0 := tyX5) (fs := [.null, .null, .null, .null, .null, .null, .null, .int 0, .int 0, .int 0, .int 0, .int 0, .int 0, .int 0, .int 0]) rfl inB5 tyX5_ok (bg_1 168 (by decide +kernel)) (bg_1 96 (by decide +kernel)) (bg_1 4 (by decide +kernel)) (by decide +kernel) (Nat.le_of_ble_eq_true rfl) (Nat.le_of_ble_eq_true rfl) (fun b0 => ?_)
  refine n_dup E (dat dkX1_init 21 rfl) rfl ?_
  refine n_callKN E (host := "PuddleCity") (sp_X5_init l G) my_X5_init rfl ii_X5_init (nw_1 170 (by decide +kernel)) ⟨Nat.le_of_ble_eq_true rfl, Nat.le_of_ble_eq_true rfl, Nat.le_of_ble_eq_true rfl, Nat.le_of_ble_eq_true rfl⟩ (Nat.le_of_ble_eq_true rfl) (dat dkX1_init 22 rfl) (fun d0 hd0 => ?_)
  subst hd0
  refine n_aast E (dat dkX1_init 23 rfl) (q0 := 1) (t0 := 4) (qk := 2) (ci := 6) (r := (RX5, TX5, 15)) rfl rfl rfl rfl (by unfold vp_in; decide) ?_
  refine n_ws (ws2 := ([(a, .inr (2, [.ref q, .int 0, .int 0])), (q, .inl (G.2.1 4, 8, .inr (.inr (.inr (.inr (va_up (fun _ => none) 0 (some (d0 0 0))))))))] ++ wl G ([1], lk0, d0) zM)) rfl ?_
  refine n_iinc E (i := 1) (x := 0) (L2 := [some (.inl (.ref a)), some (iv 1)]) (dat dkX1_init 24 rfl) rfl rfl (hc_of 0 rfl rfl) rfl ?_
  refine n_goto E (dat dkX1_init 25 rfl) (tgt := 25) rfl ?_
  refine n_iload_n E (dat dkX1_init 14 rfl) (i := 1) (x := 1) rfl rfl ?_
  refine n_bipush E (dat dkX1_init 15 rfl) (v := 8) rfl ?_
  refine n_icmp_ge E (dat dkX1_init 16 rfl) (tgt := 50) rfl (fun h => absurd h (by decide)) (fun _ => ?_)
  refine n_aload_n E (dat dkX1_init 17 rfl) rfl rfl ?_
  refine n_getf E (dat dkX1_init 18 rfl) (j := 0) (q0 := 0) (ci := 2) (C := RX1) (T := TX1) (N := 3) rfl inB1 (by decide) (bg_1 171 (by decide +kernel)) rfl rfl ?_
  refine n_iload_n E (dat dkX1_init 19 rfl) (i := 1) (x := 1) rfl rfl ?_
  refine n_new E (dat dkX1_init 20 rfl) (ci := 6) (C := RX5) (T := TX5) (N := 15) (ty0 := tyX5) (fs := [.null, .null, .null, .null, .null, .null, .null, .int 0, .int 0, .int 0, .int 0, .int 0, .int 0, .int 0, .int 0]) rfl inB5 tyX5_ok (bg_1 168 (by decide +kernel)) (bg_1 96 (by decide +kernel)) (bg_1 4 (by decide +kernel)) (by decide +kernel) (Nat.le_of_ble_eq_true rfl) (Nat.le_of_ble_eq_true rfl) (fun b1 => ?_)
  refine n_dup E (dat dkX1_init 21 rfl) rfl ?_
  refine n_callKN E (host := "PuddleCity") (sp_X5_init l G) my_X5_init rfl ii_X5_init (nw_1 170 (by decide +kernel)) ⟨Nat.le_of_ble_eq_true rfl, Nat.le_of_ble_eq_true rfl, Nat.le_of_ble_eq_true rfl, Nat.le_of_ble_eq_true rfl⟩ (Nat.le_of_ble_eq_true rfl) (dat dkX1_init 22 rfl) (fun d1 hd1 => ?_)
  subst hd1
  refine n_aast E (dat dkX1_init 23 rfl) (q0 := 1) (t0 := 4) (qk := 10) (ci := 6) (r := (RX5, TX5, 15)) rfl rfl rfl rfl (by unfold vp_in; decide) ?_
  refine n_ws (ws2 := (([(a, .inr (2, [.ref q, .int 0, .int 0])), (q, .inl (G.2.1 4, 8, .inr (.inr (.inr (.inr (va_up (va_up (fun _ => none) 0 (some (d0 0 0))) 1 (some (d1 0 0))))))))] ++ wl G ([1], lk0, d0) zM) ++ wl G ([1], lk0, d1) zM)) rfl ?_
  refine n_iinc E (i := 1) (x := 1) (L2 := [some (.inl (.ref a)), some (iv 2)]) (dat dkX1_init 24 rfl) rfl rfl (hc_of 0 rfl rfl) rfl ?_
  refine n_goto E (dat dkX1_init 25 rfl) (tgt := 25) rfl ?_
  refine n_iload_n E (dat dkX1_init 14 rfl) (i := 1) (x := 2) rfl rfl ?_
  refine n_bipush E (dat dkX1_init 15 rfl) (v := 8) rfl ?_
  refine n_icmp_ge E (dat dkX1_init 16 rfl) (tgt := 50) rfl (fun h => absurd h (by decide)) (fun _ => ?_)
  refine n_aload_n E (dat dkX1_init 17 rfl) rfl rfl ?_
  refine n_getf E (dat dkX1_init 18 rfl) (j := 0) (q0 := 0) (ci := 2) (C := RX1) (T := TX1) (N := 3) rfl inB1 (by decide) (bg_1 171 (by decide +kernel)) rfl rfl ?_
  refine n_iload_n E (dat dkX1_init 19 rfl) (i := 1) (x := 2) rfl rfl ?_
  refine n_new E (dat dkX1_init 20 rfl) (ci := 6) (C := RX5) (T := TX5) (N := 15) (ty0 := tyX5) (fs := [.null, .null, .null, .null, .null, .null, .null, .int 0, .int 0, .int 0, .int 0, .int 0, .int 0, .int 0, .int 0]) rfl inB5 tyX5_ok (bg_1 168 (by decide +kernel)) (bg_1 96 (by decide +kernel)) (bg_1 4 (by decide +kernel)) (by decide +kernel) (Nat.le_of_ble_eq_true rfl) (Nat.le_of_ble_eq_true rfl) (fun b2 => ?_)
  refine n_dup E (dat dkX1_init 21 rfl) rfl ?_
  refine n_callKN E (host := "PuddleCity") (sp_X5_init l G) my_X5_init rfl ii_X5_init (nw_1 170 (by decide +kernel)) ⟨Nat.le_of_ble_eq_true rfl, Nat.le_of_ble_eq_true rfl, Nat.le_of_ble_eq_true rfl, Nat.le_of_ble_eq_true rfl⟩ (Nat.le_of_ble_eq_true rfl) (dat dkX1_init 22 rfl) (fun d2 hd2 => ?_)
  subst hd2
  refine n_aast E (dat dkX1_init 23 rfl) (q0 := 1) (t0 := 4) (qk := 18) (ci := 6) (r := (RX5, TX5, 15)) rfl rfl rfl rfl (by unfold vp_in; decide) ?_
  refine n_ws (ws2 := ((([(a, .inr (2, [.ref q, .int 0, .int 0])), (q, .inl (G.2.1 4, 8, .inr (.inr (.inr (.inr (va_up (va_up (va_up (fun _ => none) 0 (some (d0 0 0))) 1 (some (d1 0 0))) 2 (some (d2 0 0))))))))] ++ wl G ([1], lk0, d0) zM) ++ wl G ([1], lk0, d1) zM) ++ wl G ([1], lk0, d2) zM)) rfl ?_
  refine n_iinc E (i := 1) (x := 2) (L2 := [some (.inl (.ref a)), some (iv 3)]) (dat dkX1_init 24 rfl) rfl rfl (hc_of 0 rfl rfl) rfl ?_
  refine n_goto E (dat dkX1_init 25 rfl) (tgt := 25) rfl ?_
  refine n_iload_n E (dat dkX1_init 14 rfl) (i := 1) (x := 3) rfl rfl ?_
  refine n_bipush E (dat dkX1_init 15 rfl) (v := 8) rfl ?_
  refine n_icmp_ge E (dat dkX1_init 16 rfl) (tgt := 50) rfl (fun h => absurd h (by decide)) (fun _ => ?_)
  refine n_aload_n E (dat dkX1_init 17 rfl) rfl rfl ?_
  refine n_getf E (dat dkX1_init 18 rfl) (j := 0) (q0 := 0) (ci := 2) (C := RX1) (T := TX1) (N := 3) rfl inB1 (by decide) (bg_1 171 (by decide +kernel)) rfl rfl ?_
  refine n_iload_n E (dat dkX1_init 19 rfl) (i := 1) (x := 3) rfl rfl ?_
  refine n_new E (dat dkX1_init 20 rfl) (ci := 6) (C := RX5) (T := TX5) (N := 15) (ty0 := tyX5) (fs := [.null, .null, .null, .null, .null, .null, .null, .int 0, .int 0, .int 0, .int 0, .int 0, .int 0, .int 0, .int 0]) rfl inB5 tyX5_ok (bg_1 168 (by decide +kernel)) (bg_1 96 (by decide +kernel)) (bg_1 4 (by decide +kernel)) (by decide +kernel) (Nat.le_of_ble_eq_true rfl) (Nat.le_of_ble_eq_true rfl) (fun b3 => ?_)
  refine n_dup E (dat dkX1_init 21 rfl) rfl ?_
  refine n_callKN E (host := "PuddleCity") (sp_X5_init l G) my_X5_init rfl ii_X5_init (nw_1 170 (by decide +kernel)) ⟨Nat.le_of_ble_eq_true rfl, Nat.le_of_ble_eq_true rfl, Nat.le_of_ble_eq_true rfl, Nat.le_of_ble_eq_true rfl⟩ (Nat.le_of_ble_eq_true rfl) (dat dkX1_init 22 rfl) (fun d3 hd3 => ?_)
  subst hd3
  refine n_aast E (dat dkX1_init 23 rfl) (q0 := 1) (t0 := 4) (qk := 26) (ci := 6) (r := (RX5, TX5, 15)) rfl rfl rfl rfl (by unfold vp_in; decide) ?_
  refine n_ws (ws2 := (((([(a, .inr (2, [.ref q, .int 0, .int 0])), (q, .inl (G.2.1 4, 8, .inr (.inr (.inr (.inr (va_up (va_up (va_up (va_up (fun _ => none) 0 (some (d0 0 0))) 1 (some (d1 0 0))) 2 (some (d2 0 0))) 3 (some (d3 0 0))))))))] ++ wl G ([1], lk0, d0) zM) ++ wl G ([1], lk0, d1) zM) ++ wl G ([1], lk0, d2) zM) ++ wl G ([1], lk0, d3) zM)) rfl ?_
  refine n_iinc E (i := 1) (x := 3) (L2 := [some (.inl (.ref a)), some (iv 4)]) (dat dkX1_init 24 rfl) rfl rfl (hc_of 0 rfl rfl) rfl ?_
  refine n_goto E (dat dkX1_init 25 rfl) (tgt := 25) rfl ?_
  refine n_iload_n E (dat dkX1_init 14 rfl) (i := 1) (x := 4) rfl rfl ?_
  refine n_bipush E (dat dkX1_init 15 rfl) (v := 8) rfl ?_
  refine n_icmp_ge E (dat dkX1_init 16 rfl) (tgt := 50) rfl (fun h => absurd h (by decide)) (fun _ => ?_)
  refine n_aload_n E (dat dkX1_init 17 rfl) rfl rfl ?_
  refine n_getf E (dat dkX1_init 18 rfl) (j := 0) (q0 := 0) (ci := 2) (C := RX1) (T := TX1) (N := 3) rfl inB1 (by decide) (bg_1 171 (by decide +kernel)) rfl rfl ?_
  refine n_iload_n E (dat dkX1_init 19 rfl) (i := 1) (x := 4) rfl rfl ?_
  refine n_new E (dat dkX1_init 20 rfl) (ci := 6) (C := RX5) (T := TX5) (N := 15) (ty0 := tyX5) (fs := [.null, .null, .null, .null, .null, .null, .null, .int 0, .int 0, .int 0, .int 0, .int 0, .int 0, .int 0, .int 0]) rfl inB5 tyX5_ok (bg_1 168 (by decide +kernel)) (bg_1 96 (by decide +kernel)) (bg_1 4 (by decide +kernel)) (by decide +kernel) (Nat.le_of_ble_eq_true rfl) (Nat.le_of_ble_eq_true rfl) (fun b4 => ?_)
  refine n_dup E (dat dkX1_init 21 rfl) rfl ?_
  refine n_callKN E (host := "PuddleCity") (sp_X5_init l G) my_X5_init rfl ii_X5_init (nw_1 170 (by decide +kernel)) ⟨Nat.le_of_ble_eq_true rfl, Nat.le_of_ble_eq_true rfl, Nat.le_of_ble_eq_true rfl, Nat.le_of_ble_eq_true rfl⟩ (Nat.le_of_ble_eq_true rfl) (dat dkX1_init 22 rfl) (fun d4 hd4 => ?_)
  subst hd4
  refine n_aast E (dat dkX1_init 23 rfl) (q0 := 1) (t0 := 4) (qk := 34) (ci := 6) (r := (RX5, TX5, 15)) rfl rfl rfl rfl (by unfold vp_in; decide) ?_
  refine n_ws (ws2 := ((((([(a, .inr (2, [.ref q, .int 0, .int 0])), (q, .inl (G.2.1 4, 8, .inr (.inr (.inr (.inr (va_up (va_up (va_up (va_up (va_up (fun _ => none) 0 (some (d0 0 0))) 1 (some (d1 0 0))) 2 (some (d2 0 0))) 3 (some (d3 0 0))) 4 (some (d4 0 0))))))))] ++ wl G ([1], lk0, d0) zM) ++ wl G ([1], lk0, d1) zM) ++ wl G ([1], lk0, d2) zM) ++ wl G ([1], lk0, d3) zM) ++ wl G ([1], lk0, d4) zM)) rfl ?_
  refine n_iinc E (i := 1) (x := 4) (L2 := [some (.inl (.ref a)), some (iv 5)]) (dat dkX1_init 24 rfl) rfl rfl (hc_of 0 rfl rfl) rfl ?_
  refine n_goto E (dat dkX1_init 25 rfl) (tgt := 25) rfl ?_
  refine n_iload_n E (dat dkX1_init 14 rfl) (i := 1) (x := 5) rfl rfl ?_
  refine n_bipush E (dat dkX1_init 15 rfl) (v := 8) rfl ?_
  refine n_icmp_ge E (dat dkX1_init 16 rfl) (tgt := 50) rfl (fun h => absurd h (by decide)) (fun _ => ?_)
  refine n_aload_n E (dat dkX1_init 17 rfl) rfl rfl ?_
  refine n_getf E (dat dkX1_init 18 rfl) (j := 0) (q0 := 0) (ci := 2) (C := RX1) (T := TX1) (N := 3) rfl inB1 (by decide) (bg_1 171 (by decide +kernel)) rfl rfl ?_
  refine n_iload_n E (dat dkX1_init 19 rfl) (i := 1) (x := 5) rfl rfl ?_
  refine n_new E (dat dkX1_init 20 rfl) (ci := 6) (C := RX5) (T := TX5) (N := 15) (ty0 := tyX5) (fs := [.null, .null, .null, .null, .null, .null, .null, .int 0, .int 0, .int 0, .int 0, .int 0, .int 0, .int 0, .int 0]) rfl inB5 tyX5_ok (bg_1 168 (by decide +kernel)) (bg_1 96 (by decide +kernel)) (bg_1 4 (by decide +kernel)) (by decide +kernel) (Nat.le_of_ble_eq_true rfl) (Nat.le_of_ble_eq_true rfl) (fun b5 => ?_)
  refine n_dup E (dat dkX1_init 21 rfl) rfl ?_
  refine n_callKN E (host := "PuddleCity") (sp_X5_init l G) my_X5_init rfl ii_X5_init (nw_1 170 (by decide +kernel)) ⟨Nat.le_of_ble_eq_true rfl, Nat.le_of_ble_eq_true rfl, Nat.le_of_ble_eq_true rfl, Nat.le_of_ble_eq_true rfl⟩ (Nat.le_of_ble_eq_true rfl) (dat dkX1_init 22 rfl) (fun d5 hd5 => ?_)
  subst hd5
  refine n_aast E (dat dkX1_init 23 rfl) (q0 := 1) (t0 := 4) (qk := 42) (ci := 6) (r := (RX5, TX5, 15)) rfl rfl rfl rfl (by unfold vp_in; decide) ?_
  refine n_ws (ws2 := (((((([(a, .inr (2, [.ref q, .int 0, .int 0])), (q, .inl (G.2.1 4, 8, .inr (.inr (.inr (.inr (va_up (va_up (va_up (va_up (va_up (va_up (fun _ => none) 0 (some (d0 0 0))) 1 (some (d1 0 0))) 2 (some (d2 0 0))) 3 (some (d3 0 0))) 4 (some (d4 0 0))) 5 (some (d5 0 0))))))))] ++ wl G ([1], lk0, d0) zM) ++ wl G ([1], lk0, d1) zM) ++ wl G ([1], lk0, d2) zM) ++ wl G ([1], lk0, d3) zM) ++ wl G ([1], lk0, d4) zM) ++ wl G ([1], lk0, d5) zM)) rfl ?_
  refine n_iinc E (i := 1) (x := 5) (L2 := [some (.inl (.ref a)), some (iv 6)]) (dat dkX1_init 24 rfl) rfl rfl (hc_of 0 rfl rfl) rfl ?_
  refine n_goto E (dat dkX1_init 25 rfl) (tgt := 25) rfl ?_
  refine n_iload_n E (dat dkX1_init 14 rfl) (i := 1) (x := 6) rfl rfl ?_
  refine n_bipush E (dat dkX1_init 15 rfl) (v := 8) rfl ?_
  refine n_icmp_ge E (dat dkX1_init 16 rfl) (tgt := 50) rfl (fun h => absurd h (by decide)) (fun _ => ?_)
  refine n_aload_n E (dat dkX1_init 17 rfl) rfl rfl ?_
  refine n_getf E (dat dkX1_init 18 rfl) (j := 0) (q0 := 0) (ci := 2) (C := RX1) (T := TX1) (N := 3) rfl inB1 (by decide) (bg_1 171 (by decide +kernel)) rfl rfl ?_
  refine n_iload_n E (dat dkX1_init 19 rfl) (i := 1) (x := 6) rfl rfl ?_
  refine n_new E (dat dkX1_init 20 rfl) (ci := 6) (C := RX5) (T := TX5) (N := 15) (ty0 := tyX5) (fs := [.null, .null, .null, .null, .null, .null, .null, .int 0, .int 0, .int 0, .int 0, .int 0, .int 0, .int 0, .int 0]) rfl inB5 tyX5_ok (bg_1 168 (by decide +kernel)) (bg_1 96 (by decide +kernel)) (bg_1 4 (by decide +kernel)) (by decide +kernel) (Nat.le_of_ble_eq_true rfl) (Nat.le_of_ble_eq_true rfl) (fun b6 => ?_)
  refine n_dup E (dat dkX1_init 21 rfl) rfl ?_
  refine n_callKN E (host := "PuddleCity") (sp_X5_init l G) my_X5_init rfl ii_X5_init (nw_1 170 (by decide +kernel)) ⟨Nat.le_of_ble_eq_true rfl, Nat.le_of_ble_eq_true rfl, Nat.le_of_ble_eq_true rfl, Nat.le_of_ble_eq_true rfl⟩ (Nat.le_of_ble_eq_true rfl) (dat dkX1_init 22 rfl) (fun d6 hd6 => ?_)
  subst hd6
  refine n_aast E (dat dkX1_init 23 rfl) (q0 := 1) (t0 := 4) (qk := 50) (ci := 6) (r := (RX5, TX5, 15)) rfl rfl rfl rfl (by unfold vp_in; decide) ?_
  refine n_ws (ws2 := ((((((([(a, .inr (2, [.ref q, .int 0, .int 0])), (q, .inl (G.2.1 4, 8, .inr (.inr (.inr (.inr (va_up (va_up (va_up (va_up (va_up (va_up (va_up (fun _ => none) 0 (some (d0 0 0))) 1 (some (d1 0 0))) 2 (some (d2 0 0))) 3 (some (d3 0 0))) 4 (some (d4 0 0))) 5 (some (d5 0 0))) 6 (some (d6 0 0))))))))] ++ wl G ([1], lk0, d0) zM) ++ wl G ([1], lk0, d1) zM) ++ wl G ([1], lk0, d2) zM) ++ wl G ([1], lk0, d3) zM) ++ wl G ([1], lk0, d4) zM) ++ wl G ([1], lk0, d5) zM) ++ wl G ([1], lk0, d6) zM)) rfl ?_
  refine n_iinc E (i := 1) (x := 6) (L2 := [some (.inl (.ref a)), some (iv 7)]) (dat dkX1_init 24 rfl) rfl rfl (hc_of 0 rfl rfl) rfl ?_
  refine n_goto E (dat dkX1_init 25 rfl) (tgt := 25) rfl ?_
  refine n_iload_n E (dat dkX1_init 14 rfl) (i := 1) (x := 7) rfl rfl ?_
  refine n_bipush E (dat dkX1_init 15 rfl) (v := 8) rfl ?_
  refine n_icmp_ge E (dat dkX1_init 16 rfl) (tgt := 50) rfl (fun h => absurd h (by decide)) (fun _ => ?_)
  refine n_aload_n E (dat dkX1_init 17 rfl) rfl rfl ?_
  refine n_getf E (dat dkX1_init 18 rfl) (j := 0) (q0 := 0) (ci := 2) (C := RX1) (T := TX1) (N := 3) rfl inB1 (by decide) (bg_1 171 (by decide +kernel)) rfl rfl ?_
  refine n_iload_n E (dat dkX1_init 19 rfl) (i := 1) (x := 7) rfl rfl ?_
  refine n_new E (dat dkX1_init 20 rfl) (ci := 6) (C := RX5) (T := TX5) (N := 15) (ty0 := tyX5) (fs := [.null, .null, .null, .null, .null, .null, .null, .int 0, .int 0, .int 0, .int 0, .int 0, .int 0, .int 0, .int 0]) rfl inB5 tyX5_ok (bg_1 168 (by decide +kernel)) (bg_1 96 (by decide +kernel)) (bg_1 4 (by decide +kernel)) (by decide +kernel) (Nat.le_of_ble_eq_true rfl) (Nat.le_of_ble_eq_true rfl) (fun b7 => ?_)
  refine n_dup E (dat dkX1_init 21 rfl) rfl ?_
  refine n_callKN E (host := "PuddleCity") (sp_X5_init l G) my_X5_init rfl ii_X5_init (nw_1 170 (by decide +kernel)) ⟨Nat.le_of_ble_eq_true rfl, Nat.le_of_ble_eq_true rfl, Nat.le_of_ble_eq_true rfl, Nat.le_of_ble_eq_true rfl⟩ (Nat.le_of_ble_eq_true rfl) (dat dkX1_init 22 rfl) (fun d7 hd7 => ?_)
  subst hd7
  refine n_aast E (dat dkX1_init 23 rfl) (q0 := 1) (t0 := 4) (qk := 58) (ci := 6) (r := (RX5, TX5, 15)) rfl rfl rfl rfl (by unfold vp_in; decide) ?_
  refine n_ws (ws2 := (((((((([(a, .inr (2, [.ref q, .int 0, .int 0])), (q, .inl (G.2.1 4, 8, .inr (.inr (.inr (.inr (va_up (va_up (va_up (va_up (va_up (va_up (va_up (va_up (fun _ => none) 0 (some (d0 0 0))) 1 (some (d1 0 0))) 2 (some (d2 0 0))) 3 (some (d3 0 0))) 4 (some (d4 0 0))) 5 (some (d5 0 0))) 6 (some (d6 0 0))) 7 (some (d7 0 0))))))))] ++ wl G ([1], lk0, d0) zM) ++ wl G ([1], lk0, d1) zM) ++ wl G ([1], lk0, d2) zM) ++ wl G ([1], lk0, d3) zM) ++ wl G ([1], lk0, d4) zM) ++ wl G ([1], lk0, d5) zM) ++ wl G ([1], lk0, d6) zM) ++ wl G ([1], lk0, d7) zM)) rfl ?_
  refine n_iinc E (i := 1) (x := 7) (L2 := [some (.inl (.ref a)), some (iv 8)]) (dat dkX1_init 24 rfl) rfl rfl (hc_of 0 rfl rfl) rfl ?_
  refine n_goto E (dat dkX1_init 25 rfl) (tgt := 25) rfl ?_
  refine n_iload_n E (dat dkX1_init 14 rfl) (i := 1) (x := 8) rfl rfl ?_
  refine n_bipush E (dat dkX1_init 15 rfl) (v := 8) rfl ?_
  refine n_icmp_ge E (dat dkX1_init 16 rfl) (tgt := 50) rfl (fun _ => ?_) (fun h => absurd (by decide) h)
  refine n_vret E (dat dkX1_init 26 rfl) (Nat.le_of_ble_eq_true rfl) (Nat.le_of_ble_eq_true rfl) (fun t hP hD hF => ⟨⟨fun j t => match j with | 0 => (if t = 0 then a else q) | 1 => d0 0 t | 2 => d1 0 t | 3 => d2 0 t | 4 => d3 0 t | 5 => d4 0 t | 6 => d5 0 t | 7 => d6 0 t | _ => d7 0 t, rfl, rfl, ?_, ?_⟩, hF⟩)
  · exact P_fn (fun j hj => by rcases (show j = 0 ∨ j = 1 ∨ j = 2 ∨ j = 3 ∨ j = 4 ∨ j = 5 ∨ j = 6 ∨ j = 7 by omega) with rfl | rfl | rfl | rfl | rfl | rfl | rfl | rfl <;> rfl) hP
  · exact D_fn hD
