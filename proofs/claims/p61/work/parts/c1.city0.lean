/-! PuddleCity() -/
theorem D_iff {A : Nat → Prop} {ws : va_W} : va_D A ws ↔ (ws.map (fun x => x.1)).Nodup ∧ ∀ x ∈ ws, A x.1 := by
  unfold List.Nodup
  rw [List.pairwise_map, List.pairwise_iff_getElem]
  constructor
  · rintro ⟨h1, h2⟩
    refine ⟨fun i j hi hj hij he => ?_, fun x hx => ?_⟩
    · have := h1 i j _ _ (List.getElem?_eq_getElem hi) (List.getElem?_eq_getElem hj) he
      omega
    · obtain ⟨i, hi⟩ := List.getElem?_of_mem hx
      exact h2 i x hi
  · rintro ⟨h1, h2⟩
    refine ⟨fun i j x z hx hz he => ?_, fun i x hx => h2 x (List.mem_of_getElem? hx)⟩
    obtain ⟨hi, ei⟩ := List.getElem?_eq_some_iff.mp hx
    obtain ⟨hj, ej⟩ := List.getElem?_eq_some_iff.mp hz
    rcases Nat.lt_trichotomy i j with h | h | h
    · exact absurd (by rw [ei, ej]; exact he) (h1 i j hi hj h)
    · exact h
    · exact absurd (by rw [ei, ej]; exact he.symm) (h1 j i hj hi h)
theorem P_perm {D : va_G} {cl : List vw_C} {w w2 : va_W} {H : Heap} (h : w.Perm w2) (hP : va_P D cl w H) : va_P D cl w2 H := va_P_of (fun x hx => va_P_at hP (h.mem_iff.mpr hx))
theorem D_perm {A : Nat → Prop} {w w2 : va_W} (h : w.Perm w2) (hD : va_D A w) : va_D A w2 := by
  rw [D_iff] at hD ⊢
  exact ⟨(h.map _).nodup_iff.mp hD.1, fun x hx => hD.2 x (h.mem_iff.mpr hx)⟩
def iniM : Mem := fun j => match j with
  | 0 => (fun t k => if t = 0 ∧ k = 9 then 17 else if t = 0 ∧ k = 10 then 18 else 0)
  | 1 => zT0 0
  | 2 => zS0 0
  | _ => fun _ _ => 0
abbrev z1 : Nat → Int32 := fun _ => 0
abbrev z2 : Nat → Nat → Int32 := fun _ _ => 0
/-- the first setup's bytes, and its reading -/
def fsB : Nat → Int32 := paF (fun _ => 0) 0 0 76
def fsR : (Int32 × TT) × PP := rFr fsB 76 ((0, 0, 0, 0, 0, -1) : TT) ((0, z1, z1, z1, rw4 z1 z1 z1 z1) : BB) z1
def ctyM : Mem := setm (setm (setm (setm (setm iniM 1 (vTx (zT0 0) 76 fsB (0, 0, 0, 0, 0, -1))) 17 (vPx z2 (rFb fsR z1) z1 fsR.2)) 1 (vTx (zT0 0) 76 fsB fsR.1.2)) 1 (vTx (zT0 0) 0 fsB fsR.1.2)) 3 (stT fsR.2 z2)
theorem fsB_lt : ∀ i, i < 76 → fits .byte (.int (fsB i)) = true := by decide +kernel
theorem fsB_fit (i : Nat) : fits .byte (.int (fsB i)) = true := by
  by_cases h : i < 76
  · exact fsB_lt i h
  · have e : fsB i = 0 := if_neg (by omega)
    rw [e]; rfl
set_option maxRecDepth 100000 in
set_option maxHeartbeats 40000000 in
theorem sp_X9_init1 (l : Launch) (G : GT) : CG l G yX9_init cX9_init 1 ({ frames := 7, cells := 130, slots := 5136, locals := 150 } : Room) 9 [.null, .null, .null, .null, .null, .null, .null, .null, .null, .null, .null, .int 0, .int 0] KC lkC (fun M2 => M2 = ctyM) := by
  refine CG.of RX9 (by decide) rfl rfl (Nat.le_refl _) (fun p e s m args below meth c a cs hret E hG => ?_)
  refine n_aload_n E (dat dkX9_init 0 rfl) rfl rfl ?_
  refine n_objI E (dat dkX9_init 1 rfl) (bg_1 32 (by decide +kernel)) oi_2 oi_3 (Nat.le_of_ble_eq_true rfl) (Nat.le_of_ble_eq_true rfl) ?_
  refine n_aload_n E (dat dkX9_init 2 rfl) rfl rfl ?_
  refine n_new E (dat dkX9_init 3 rfl) (ci := 7) (C := RX6) (T := TX6) (N := 8) (ty0 := tyX6) (fs := [.null, .int 0, .int 0, .int 0, .int 0, .int 0, .int 0, .int 0]) rfl inB6 tyX6_ok (bg_1 35 (by decide +kernel)) (bg_1 36 (by decide +kernel)) (bg_1 2 (by decide +kernel)) (by decide +kernel) (Nat.le_of_ble_eq_true rfl) (Nat.le_of_ble_eq_true rfl) (fun b0 => ?_)
  refine n_dup E (dat dkX9_init 4 rfl) rfl ?_
  refine n_callKN E (host := "PuddleCity") (sp_X6_init l G) my_X6_init rfl ii_X6_init (nw_1 37 (by decide +kernel)) ⟨Nat.le_of_ble_eq_true rfl, Nat.le_of_ble_eq_true rfl, Nat.le_of_ble_eq_true rfl, Nat.le_of_ble_eq_true rfl⟩ (Nat.le_of_ble_eq_true rfl) (dat dkX9_init 5 rfl) (fun d1 hd1 => ?_)
  subst hd1
  refine n_putF E (dat dkX9_init 6 rfl) (ty := .object "PuddleCity$Text") (j := 0) (q0 := 0) (ci := 9) (C := RX9) (T := TX9) (N := 13) rfl inB9 tyX9_ok nmX9 (by decide) (bg_2 210 (by decide +kernel)) rfl rfl (by decide +kernel) rfl rfl rfl (Nat.le_of_ble_eq_true rfl) ?_
  refine n_ws (ws2 := ([(a, .inr (9, [.ref (d1 0 0), .null, .null, .null, .null, .null, .null, .null, .null, .null, .null, .int 0, .int 0]))] ++ wl G ([3], lk0, d1) zT0)) rfl ?_
  refine n_aload_n E (dat dkX9_init 7 rfl) rfl rfl ?_
  refine n_new E (dat dkX9_init 8 rfl) (ci := 5) (C := RX4) (T := TX4) (N := 5) (ty0 := tyX4) (fs := [.null, .null, .null, .null, .int 0]) rfl inB4 tyX4_ok (bg_1 70 (by decide +kernel)) (bg_1 71 (by decide +kernel)) (bg_1 3 (by decide +kernel)) (by decide +kernel) (Nat.le_of_ble_eq_true rfl) (Nat.le_of_ble_eq_true rfl) (fun b1 => ?_)
  refine n_dup E (dat dkX9_init 9 rfl) rfl ?_
  refine n_callKN E (host := "PuddleCity") (sp_X4_init l G) my_X4_init rfl ii_X4_init (nw_1 72 (by decide +kernel)) ⟨Nat.le_of_ble_eq_true rfl, Nat.le_of_ble_eq_true rfl, Nat.le_of_ble_eq_true rfl, Nat.le_of_ble_eq_true rfl⟩ (Nat.le_of_ble_eq_true rfl) (dat dkX9_init 10 rfl) (fun d2 hd2 => ?_)
  subst hd2
  refine n_putF E (dat dkX9_init 11 rfl) (ty := .object "PuddleCity$Script") (j := 1) (q0 := 0) (ci := 9) (C := RX9) (T := TX9) (N := 13) rfl inB9 tyX9_ok nmX9 (by decide) (bg_2 211 (by decide +kernel)) rfl rfl (by decide +kernel) rfl rfl rfl (Nat.le_of_ble_eq_true rfl) ?_
  refine n_ws (ws2 := (([(a, .inr (9, [.ref (d1 0 0), .ref (d2 0 0), .null, .null, .null, .null, .null, .null, .null, .null, .null, .int 0, .int 0]))] ++ wl G ([3], lk0, d1) zT0) ++ wl G ([4], lk0, d2) zS0)) rfl ?_
  refine n_aload_n E (dat dkX9_init 12 rfl) rfl rfl ?_
  refine n_new E (dat dkX9_init 13 rfl) (ci := 6) (C := RX5) (T := TX5) (N := 15) (ty0 := tyX5) (fs := [.null, .null, .null, .null, .null, .null, .null, .int 0, .int 0, .int 0, .int 0, .int 0, .int 0, .int 0, .int 0]) rfl inB5 tyX5_ok (bg_1 95 (by decide +kernel)) (bg_1 96 (by decide +kernel)) (bg_1 4 (by decide +kernel)) (by decide +kernel) (Nat.le_of_ble_eq_true rfl) (Nat.le_of_ble_eq_true rfl) (fun b2 => ?_)
  refine n_dup E (dat dkX9_init 14 rfl) rfl ?_
  refine n_callKN E (host := "PuddleCity") (sp_X5_init l G) my_X5_init rfl ii_X5_init (nw_1 97 (by decide +kernel)) ⟨Nat.le_of_ble_eq_true rfl, Nat.le_of_ble_eq_true rfl, Nat.le_of_ble_eq_true rfl, Nat.le_of_ble_eq_true rfl⟩ (Nat.le_of_ble_eq_true rfl) (dat dkX9_init 15 rfl) (fun d3 hd3 => ?_)
  subst hd3
  refine n_putF E (dat dkX9_init 16 rfl) (ty := .object "PuddleCity$State") (j := 2) (q0 := 0) (ci := 9) (C := RX9) (T := TX9) (N := 13) rfl inB9 tyX9_ok nmX9 (by decide) (bg_2 212 (by decide +kernel)) rfl rfl (by decide +kernel) rfl rfl rfl (Nat.le_of_ble_eq_true rfl) ?_
  refine n_ws (ws2 := ((([(a, .inr (9, [.ref (d1 0 0), .ref (d2 0 0), .ref (d3 0 0), .null, .null, .null, .null, .null, .null, .null, .null, .int 0, .int 0]))] ++ wl G ([3], lk0, d1) zT0) ++ wl G ([4], lk0, d2) zS0) ++ wl G ([1], lk0, d3) zM)) rfl ?_
  refine n_aload_n E (dat dkX9_init 17 rfl) rfl rfl ?_
  refine n_new E (dat dkX9_init 18 rfl) (ci := 6) (C := RX5) (T := TX5) (N := 15) (ty0 := tyX5) (fs := [.null, .null, .null, .null, .null, .null, .null, .int 0, .int 0, .int 0, .int 0, .int 0, .int 0, .int 0, .int 0]) rfl inB5 tyX5_ok (bg_1 95 (by decide +kernel)) (bg_1 96 (by decide +kernel)) (bg_1 4 (by decide +kernel)) (by decide +kernel) (Nat.le_of_ble_eq_true rfl) (Nat.le_of_ble_eq_true rfl) (fun b3 => ?_)
  refine n_dup E (dat dkX9_init 19 rfl) rfl ?_
  refine n_callKN E (host := "PuddleCity") (sp_X5_init l G) my_X5_init rfl ii_X5_init (nw_1 97 (by decide +kernel)) ⟨Nat.le_of_ble_eq_true rfl, Nat.le_of_ble_eq_true rfl, Nat.le_of_ble_eq_true rfl, Nat.le_of_ble_eq_true rfl⟩ (Nat.le_of_ble_eq_true rfl) (dat dkX9_init 20 rfl) (fun d4 hd4 => ?_)
  subst hd4
  refine n_putF E (dat dkX9_init 21 rfl) (ty := .object "PuddleCity$State") (j := 3) (q0 := 0) (ci := 9) (C := RX9) (T := TX9) (N := 13) rfl inB9 tyX9_ok nmX9 (by decide) (bg_2 213 (by decide +kernel)) rfl rfl (by decide +kernel) rfl rfl rfl (Nat.le_of_ble_eq_true rfl) ?_
  refine n_ws (ws2 := (((([(a, .inr (9, [.ref (d1 0 0), .ref (d2 0 0), .ref (d3 0 0), .ref (d4 0 0), .null, .null, .null, .null, .null, .null, .null, .int 0, .int 0]))] ++ wl G ([3], lk0, d1) zT0) ++ wl G ([4], lk0, d2) zS0) ++ wl G ([1], lk0, d3) zM) ++ wl G ([1], lk0, d4) zM)) rfl ?_
  refine n_aload_n E (dat dkX9_init 22 rfl) rfl rfl ?_
  refine n_new E (dat dkX9_init 23 rfl) (ci := 6) (C := RX5) (T := TX5) (N := 15) (ty0 := tyX5) (fs := [.null, .null, .null, .null, .null, .null, .null, .int 0, .int 0, .int 0, .int 0, .int 0, .int 0, .int 0, .int 0]) rfl inB5 tyX5_ok (bg_1 95 (by decide +kernel)) (bg_1 96 (by decide +kernel)) (bg_1 4 (by decide +kernel)) (by decide +kernel) (Nat.le_of_ble_eq_true rfl) (Nat.le_of_ble_eq_true rfl) (fun b4 => ?_)
  refine n_dup E (dat dkX9_init 24 rfl) rfl ?_
  refine n_callKN E (host := "PuddleCity") (sp_X5_init l G) my_X5_init rfl ii_X5_init (nw_1 97 (by decide +kernel)) ⟨Nat.le_of_ble_eq_true rfl, Nat.le_of_ble_eq_true rfl, Nat.le_of_ble_eq_true rfl, Nat.le_of_ble_eq_true rfl⟩ (Nat.le_of_ble_eq_true rfl) (dat dkX9_init 25 rfl) (fun d5 hd5 => ?_)
  subst hd5
  refine n_putF E (dat dkX9_init 26 rfl) (ty := .object "PuddleCity$State") (j := 4) (q0 := 0) (ci := 9) (C := RX9) (T := TX9) (N := 13) rfl inB9 tyX9_ok nmX9 (by decide) (bg_2 214 (by decide +kernel)) rfl rfl (by decide +kernel) rfl rfl rfl (Nat.le_of_ble_eq_true rfl) ?_
  refine n_ws (ws2 := ((((([(a, .inr (9, [.ref (d1 0 0), .ref (d2 0 0), .ref (d3 0 0), .ref (d4 0 0), .ref (d5 0 0), .null, .null, .null, .null, .null, .null, .int 0, .int 0]))] ++ wl G ([3], lk0, d1) zT0) ++ wl G ([4], lk0, d2) zS0) ++ wl G ([1], lk0, d3) zM) ++ wl G ([1], lk0, d4) zM) ++ wl G ([1], lk0, d5) zM)) rfl ?_
  refine n_aload_n E (dat dkX9_init 27 rfl) rfl rfl ?_
  refine n_new E (dat dkX9_init 28 rfl) (ci := 2) (C := RX1) (T := TX1) (N := 3) (ty0 := tyX1) (fs := [.null, .int 0, .int 0]) rfl inB1 tyX1_ok (bg_1 162 (by decide +kernel)) (bg_1 163 (by decide +kernel)) (bg_1 5 (by decide +kernel)) (by decide +kernel) (Nat.le_of_ble_eq_true rfl) (Nat.le_of_ble_eq_true rfl) (fun b5 => ?_)
  refine n_dup E (dat dkX9_init 29 rfl) rfl ?_
  refine n_callK E (sp_X1_init l G) my_X1_init rfl ii_X1_init ml_X9_38 ⟨Nat.le_of_ble_eq_true rfl, Nat.le_of_ble_eq_true rfl, Nat.le_of_ble_eq_true rfl, Nat.le_of_ble_eq_true rfl⟩ (Nat.le_of_ble_eq_true rfl) (dat dkX9_init 30 rfl) (fun d6 hd6 => ?_)
  subst hd6
  refine n_putF E (dat dkX9_init 31 rfl) (ty := .object "PuddleCity$History") (j := 5) (q0 := 0) (ci := 9) (C := RX9) (T := TX9) (N := 13) rfl inB9 tyX9_ok nmX9 (by decide) (bg_2 215 (by decide +kernel)) rfl rfl (by decide +kernel) rfl rfl rfl (Nat.le_of_ble_eq_true rfl) ?_
  refine n_ws (ws2 := (((((([(a, .inr (9, [.ref (d1 0 0), .ref (d2 0 0), .ref (d3 0 0), .ref (d4 0 0), .ref (d5 0 0), .ref (d6 0 0), .null, .null, .null, .null, .null, .int 0, .int 0]))] ++ wl G ([3], lk0, d1) zT0) ++ wl G ([4], lk0, d2) zS0) ++ wl G ([1], lk0, d3) zM) ++ wl G ([1], lk0, d4) zM) ++ wl G ([1], lk0, d5) zM) ++ wl G ([7, 1, 1, 1, 1, 1, 1, 1, 1], lkN, d6) zM)) rfl ?_
  refine n_aload_n E (dat dkX9_init 32 rfl) rfl rfl ?_
  refine n_new E (dat dkX9_init 33 rfl) (ci := 4) (C := RX3) (T := TX3) (N := 5) (ty0 := tyX3) (fs := [.null, .null, .null, .null, .int 0]) rfl inB3 tyX3_ok (bg_1 181 (by decide +kernel)) (bg_1 182 (by decide +kernel)) (bg_1 6 (by decide +kernel)) (by decide +kernel) (Nat.le_of_ble_eq_true rfl) (Nat.le_of_ble_eq_true rfl) (fun b6 => ?_)
  refine n_dup E (dat dkX9_init 34 rfl) rfl ?_
  refine n_callKN E (host := "PuddleCity") (sp_X3_init l G) my_X3_init rfl ii_X3_init (nw_1 183 (by decide +kernel)) ⟨Nat.le_of_ble_eq_true rfl, Nat.le_of_ble_eq_true rfl, Nat.le_of_ble_eq_true rfl, Nat.le_of_ble_eq_true rfl⟩ (Nat.le_of_ble_eq_true rfl) (dat dkX9_init 35 rfl) (fun d7 hd7 => ?_)
  subst hd7
  refine n_putF E (dat dkX9_init 36 rfl) (ty := .object "PuddleCity$Puddles") (j := 6) (q0 := 0) (ci := 9) (C := RX9) (T := TX9) (N := 13) rfl inB9 tyX9_ok nmX9 (by decide) (bg_2 216 (by decide +kernel)) rfl rfl (by decide +kernel) rfl rfl rfl (Nat.le_of_ble_eq_true rfl) ?_
  refine n_ws (ws2 := ((((((([(a, .inr (9, [.ref (d1 0 0), .ref (d2 0 0), .ref (d3 0 0), .ref (d4 0 0), .ref (d5 0 0), .ref (d6 0 0), .ref (d7 0 0), .null, .null, .null, .null, .int 0, .int 0]))] ++ wl G ([3], lk0, d1) zT0) ++ wl G ([4], lk0, d2) zS0) ++ wl G ([1], lk0, d3) zM) ++ wl G ([1], lk0, d4) zM) ++ wl G ([1], lk0, d5) zM) ++ wl G ([7, 1, 1, 1, 1, 1, 1, 1, 1], lkN, d6) zM) ++ wl G ([5], lk0, d7) zM)) rfl ?_
  refine n_aload_n E (dat dkX9_init 37 rfl) rfl rfl ?_
  refine n_new E (dat dkX9_init 38 rfl) (ci := 8) (C := RX8) (T := TX8) (N := 2) (ty0 := tyX8) (fs := [.null, .null]) rfl inB8 tyX8_ok (bg_1 207 (by decide +kernel)) (bg_1 208 (by decide +kernel)) (bg_1 7 (by decide +kernel)) (by decide +kernel) (Nat.le_of_ble_eq_true rfl) (Nat.le_of_ble_eq_true rfl) (fun b7 => ?_)
  refine n_dup E (dat dkX9_init 39 rfl) rfl ?_
  refine n_callKN E (host := "PuddleCity") (sp_X8_init l G) my_X8_init rfl ii_X8_init (nw_1 209 (by decide +kernel)) ⟨Nat.le_of_ble_eq_true rfl, Nat.le_of_ble_eq_true rfl, Nat.le_of_ble_eq_true rfl, Nat.le_of_ble_eq_true rfl⟩ (Nat.le_of_ble_eq_true rfl) (dat dkX9_init 40 rfl) (fun d8 hd8 => ?_)
  subst hd8
  refine n_putF E (dat dkX9_init 41 rfl) (ty := .object "PuddleCity$Ways") (j := 7) (q0 := 0) (ci := 9) (C := RX9) (T := TX9) (N := 13) rfl inB9 tyX9_ok nmX9 (by decide) (bg_2 217 (by decide +kernel)) rfl rfl (by decide +kernel) rfl rfl rfl (Nat.le_of_ble_eq_true rfl) ?_
  refine n_ws (ws2 := (((((((([(a, .inr (9, [.ref (d1 0 0), .ref (d2 0 0), .ref (d3 0 0), .ref (d4 0 0), .ref (d5 0 0), .ref (d6 0 0), .ref (d7 0 0), .ref (d8 0 0), .null, .null, .null, .int 0, .int 0]))] ++ wl G ([3], lk0, d1) zT0) ++ wl G ([4], lk0, d2) zS0) ++ wl G ([1], lk0, d3) zM) ++ wl G ([1], lk0, d4) zM) ++ wl G ([1], lk0, d5) zM) ++ wl G ([7, 1, 1, 1, 1, 1, 1, 1, 1], lkN, d6) zM) ++ wl G ([5], lk0, d7) zM) ++ wl G ([6], lk0, d8) zM)) rfl ?_
  refine n_aload_n E (dat dkX9_init 42 rfl) rfl rfl ?_
  refine n_bipush E (dat dkX9_init 43 rfl) (v := 16) rfl ?_
  refine n_newa E (atype := .byte) (ty := .byte) (i := 1) (N := 16) (dat dkX9_init 44 rfl) rfl an_byte rfl (fun _ h => h) (fun _ => rfl) (by decide) rfl (Nat.le_of_ble_eq_true rfl) (Nat.le_of_ble_eq_true rfl) (Nat.le_of_ble_eq_true rfl) (fun q9 => ?_)
  refine n_putF E (dat dkX9_init 45 rfl) (ty := .array .byte) (j := 8) (q0 := 0) (ci := 9) (C := RX9) (T := TX9) (N := 13) rfl inB9 tyX9_ok nmX9 (by decide) (bg_2 218 (by decide +kernel)) rfl rfl (by decide +kernel) rfl rfl rfl (Nat.le_of_ble_eq_true rfl) ?_
  refine n_ws (ws2 := ((((((((([(a, .inr (9, [.ref (d1 0 0), .ref (d2 0 0), .ref (d3 0 0), .ref (d4 0 0), .ref (d5 0 0), .ref (d6 0 0), .ref (d7 0 0), .ref (d8 0 0), .ref q9, .null, .null, .int 0, .int 0]))] ++ wl G ([3], lk0, d1) zT0) ++ wl G ([4], lk0, d2) zS0) ++ wl G ([1], lk0, d3) zM) ++ wl G ([1], lk0, d4) zM) ++ wl G ([1], lk0, d5) zM) ++ wl G ([7, 1, 1, 1, 1, 1, 1, 1, 1], lkN, d6) zM) ++ wl G ([5], lk0, d7) zM) ++ wl G ([6], lk0, d8) zM) ++ [(q9, aN G 1 16)])) rfl ?_
  refine n_aload_n E (dat dkX9_init 46 rfl) rfl rfl ?_
  refine n_new E (dat dkX9_init 47 rfl) (ci := 3) (C := RX2) (T := TX2) (N := 12) (ty0 := tyX2) (fs := [.null, .null, .null, .null, .null, .null, .null, .int 0, .int 0, .int 0, .int 0, .int 0]) rfl inB2 tyX2_ok (bg_1 220 (by decide +kernel)) (bg_1 221 (by decide +kernel)) (bg_1 8 (by decide +kernel)) (by decide +kernel) (Nat.le_of_ble_eq_true rfl) (Nat.le_of_ble_eq_true rfl) (fun b8 => ?_)
  refine n_dup E (dat dkX9_init 48 rfl) rfl ?_
  refine n_callKN E (host := "PuddleCity") (sp_X2_init l G) my_X2_init rfl ii_X2_init (nw_1 222 (by decide +kernel)) ⟨Nat.le_of_ble_eq_true rfl, Nat.le_of_ble_eq_true rfl, Nat.le_of_ble_eq_true rfl, Nat.le_of_ble_eq_true rfl⟩ (Nat.le_of_ble_eq_true rfl) (dat dkX9_init 49 rfl) (fun p1 hp1 => ?_)
  subst hp1
  refine n_put E (dat dkX9_init 50 rfl) (ty := .object "PuddleCity$Plan") (j := 9) (q0 := 0) (ci := 9) (C := RX9) (T := TX9) (N := 13) rfl inB9 tyX9_ok nmX9 (by decide) (bg_2 219 (by decide +kernel)) rfl (by decide +kernel) rfl rfl rfl (Nat.le_of_ble_eq_true rfl) ?_
  refine n_ws (ws2 := (((((((((([(a, .inr (9, [.ref (d1 0 0), .ref (d2 0 0), .ref (d3 0 0), .ref (d4 0 0), .ref (d5 0 0), .ref (d6 0 0), .ref (d7 0 0), .ref (d8 0 0), .ref q9, .ref (p1 0 0), .null, .int 0, .int 0]))] ++ wl G ([3], lk0, d1) zT0) ++ wl G ([4], lk0, d2) zS0) ++ wl G ([1], lk0, d3) zM) ++ wl G ([1], lk0, d4) zM) ++ wl G ([1], lk0, d5) zM) ++ wl G ([7, 1, 1, 1, 1, 1, 1, 1, 1], lkN, d6) zM) ++ wl G ([5], lk0, d7) zM) ++ wl G ([6], lk0, d8) zM) ++ [(q9, aN G 1 16)]) ++ wl G ([2], lk0, p1) zM)) rfl ?_
  refine n_aload_n E (dat dkX9_init 51 rfl) rfl rfl ?_
  refine n_new E (dat dkX9_init 52 rfl) (ci := 3) (C := RX2) (T := TX2) (N := 12) (ty0 := tyX2) (fs := [.null, .null, .null, .null, .null, .null, .null, .int 0, .int 0, .int 0, .int 0, .int 0]) rfl inB2 tyX2_ok (bg_1 220 (by decide +kernel)) (bg_1 221 (by decide +kernel)) (bg_1 8 (by decide +kernel)) (by decide +kernel) (Nat.le_of_ble_eq_true rfl) (Nat.le_of_ble_eq_true rfl) (fun b9 => ?_)
  refine n_dup E (dat dkX9_init 53 rfl) rfl ?_
  refine n_callKN E (host := "PuddleCity") (sp_X2_init l G) my_X2_init rfl ii_X2_init (nw_1 222 (by decide +kernel)) ⟨Nat.le_of_ble_eq_true rfl, Nat.le_of_ble_eq_true rfl, Nat.le_of_ble_eq_true rfl, Nat.le_of_ble_eq_true rfl⟩ (Nat.le_of_ble_eq_true rfl) (dat dkX9_init 54 rfl) (fun p2 hp2 => ?_)
  subst hp2
  refine n_put E (dat dkX9_init 55 rfl) (ty := .object "PuddleCity$Plan") (j := 10) (q0 := 0) (ci := 9) (C := RX9) (T := TX9) (N := 13) rfl inB9 tyX9_ok nmX9 (by decide) (bg_2 220 (by decide +kernel)) rfl (by decide +kernel) rfl rfl rfl (Nat.le_of_ble_eq_true rfl) ?_
  refine n_ws (ws2 := ((((((((((([(a, .inr (9, [.ref (d1 0 0), .ref (d2 0 0), .ref (d3 0 0), .ref (d4 0 0), .ref (d5 0 0), .ref (d6 0 0), .ref (d7 0 0), .ref (d8 0 0), .ref q9, .ref (p1 0 0), .ref (p2 0 0), .int 0, .int 0]))] ++ wl G ([3], lk0, d1) zT0) ++ wl G ([4], lk0, d2) zS0) ++ wl G ([1], lk0, d3) zM) ++ wl G ([1], lk0, d4) zM) ++ wl G ([1], lk0, d5) zM) ++ wl G ([7, 1, 1, 1, 1, 1, 1, 1, 1], lkN, d6) zM) ++ wl G ([5], lk0, d7) zM) ++ wl G ([6], lk0, d8) zM) ++ [(q9, aN G 1 16)]) ++ wl G ([2], lk0, p1) zM) ++ wl G ([2], lk0, p2) zM)) rfl ?_
  refine n_aload_n E (dat dkX9_init 56 rfl) rfl rfl ?_
  refine n_iconst E (dat dkX9_init 57 rfl) (v := 0) rfl ?_
  refine n_put E (dat dkX9_init 58 rfl) (ty := .boolean) (j := 11) (q0 := 0) (ci := 9) (C := RX9) (T := TX9) (N := 13) rfl inB9 tyX9_ok nmX9 (by decide) (bg_2 221 (by decide +kernel)) rfl (by decide +kernel) rfl rfl rfl (Nat.le_of_ble_eq_true rfl) ?_
  refine n_ws (ws2 := ((((((((((([(a, .inr (9, [.ref (d1 0 0), .ref (d2 0 0), .ref (d3 0 0), .ref (d4 0 0), .ref (d5 0 0), .ref (d6 0 0), .ref (d7 0 0), .ref (d8 0 0), .ref q9, .ref (p1 0 0), .ref (p2 0 0), .int 0, .int 0]))] ++ wl G ([3], lk0, d1) zT0) ++ wl G ([4], lk0, d2) zS0) ++ wl G ([1], lk0, d3) zM) ++ wl G ([1], lk0, d4) zM) ++ wl G ([1], lk0, d5) zM) ++ wl G ([7, 1, 1, 1, 1, 1, 1, 1, 1], lkN, d6) zM) ++ wl G ([5], lk0, d7) zM) ++ wl G ([6], lk0, d8) zM) ++ [(q9, aN G 1 16)]) ++ wl G ([2], lk0, p1) zM) ++ wl G ([2], lk0, p2) zM)) rfl ?_
  refine n_aload_n E (dat dkX9_init 59 rfl) rfl rfl ?_
  refine n_iconst E (dat dkX9_init 60 rfl) (v := 0) rfl ?_
  refine n_put E (dat dkX9_init 61 rfl) (ty := .int) (j := 12) (q0 := 0) (ci := 9) (C := RX9) (T := TX9) (N := 13) rfl inB9 tyX9_ok nmX9 (by decide) (bg_2 222 (by decide +kernel)) rfl (by decide +kernel) rfl rfl rfl (Nat.le_of_ble_eq_true rfl) ?_
  refine n_ws (ws2 := ((((((((((([(a, .inr (9, [.ref (d1 0 0), .ref (d2 0 0), .ref (d3 0 0), .ref (d4 0 0), .ref (d5 0 0), .ref (d6 0 0), .ref (d7 0 0), .ref (d8 0 0), .ref q9, .ref (p1 0 0), .ref (p2 0 0), .int 0, .int 0]))] ++ wl G ([3], lk0, d1) zT0) ++ wl G ([4], lk0, d2) zS0) ++ wl G ([1], lk0, d3) zM) ++ wl G ([1], lk0, d4) zM) ++ wl G ([1], lk0, d5) zM) ++ wl G ([7, 1, 1, 1, 1, 1, 1, 1, 1], lkN, d6) zM) ++ wl G ([5], lk0, d7) zM) ++ wl G ([6], lk0, d8) zM) ++ [(q9, aN G 1 16)]) ++ wl G ([2], lk0, p1) zM) ++ wl G ([2], lk0, p2) zM)) rfl ?_
  refine n_ws (ws2 := [(a, .inr (9, [.ref (d1 0 0), .ref (d2 0 0), .ref (d3 0 0), .ref (d4 0 0), .ref (d5 0 0), .ref (d6 0 0), .ref (d7 0 0), .ref (d8 0 0), .ref q9, .ref (p1 0 0), .ref (p2 0 0), .int 0, .int 0]))] ++ (wl G ([3], lk0, d1) zT0 ++ (wl G ([4], lk0, d2) zS0 ++ (wl G ([1], lk0, d3) zM ++ (wl G ([1], lk0, d4) zM ++ (wl G ([1], lk0, d5) zM ++ (wl G ([7, 1, 1, 1, 1, 1, 1, 1, 1], lkN, d6) zM ++ (wl G ([5], lk0, d7) zM ++ (wl G ([6], lk0, d8) zM ++ ([(q9, aN G 1 16)] ++ (wl G ([2], lk0, p1) zM ++ (wl G ([2], lk0, p2) zM)))))))))))) (by simp only [List.append_assoc]) ?_
  have hperm : ([(a, .inr (9, [.ref (d1 0 0), .ref (d2 0 0), .ref (d3 0 0), .ref (d4 0 0), .ref (d5 0 0), .ref (d6 0 0), .ref (d7 0 0), .ref (d8 0 0), .ref q9, .ref (p1 0 0), .ref (p2 0 0), .int 0, .int 0]))] ++ (wl G ([3], lk0, d1) zT0 ++ (wl G ([4], lk0, d2) zS0 ++ (wl G ([1], lk0, d3) zM ++ (wl G ([1], lk0, d4) zM ++ (wl G ([1], lk0, d5) zM ++ (wl G ([7, 1, 1, 1, 1, 1, 1, 1, 1], lkN, d6) zM ++ (wl G ([5], lk0, d7) zM ++ (wl G ([6], lk0, d8) zM ++ ([(q9, aN G 1 16)] ++ (wl G ([2], lk0, p1) zM ++ (wl G ([2], lk0, p2) zM))))))))))) : va_W).Perm ([(a, .inr (9, [.ref (d1 0 0), .ref (d2 0 0), .ref (d3 0 0), .ref (d4 0 0), .ref (d5 0 0), .ref (d6 0 0), .ref (d7 0 0), .ref (d8 0 0), .ref q9, .ref (p1 0 0), .ref (p2 0 0), .int 0, .int 0]))] ++ ([(q9, aN G 1 16)] ++ (wl G ([3], lk0, d1) zT0 ++ (wl G ([4], lk0, d2) zS0 ++ (wl G ([1], lk0, d3) zM ++ (wl G ([1], lk0, d4) zM ++ (wl G ([1], lk0, d5) zM ++ (wl G ([7, 1, 1, 1, 1, 1, 1, 1, 1], lkN, d6) zM ++ (wl G ([5], lk0, d7) zM ++ (wl G ([6], lk0, d8) zM ++ (wl G ([2], lk0, p1) zM ++ (wl G ([2], lk0, p2) zM))))))))))) : va_W) := (((((((((((((((List.perm_append_comm_assoc _ _ _).append_left _).trans (List.perm_append_comm_assoc _ _ _)).append_left _).trans (List.perm_append_comm_assoc _ _ _)).append_left _).trans (List.perm_append_comm_assoc _ _ _)).append_left _).trans (List.perm_append_comm_assoc _ _ _)).append_left _).trans (List.perm_append_comm_assoc _ _ _)).append_left _).trans (List.perm_append_comm_assoc _ _ _)).append_left _).trans (List.perm_append_comm_assoc _ _ _)).append_left _
  obtain ⟨ad, had⟩ : ∃ ad : Nat → Nat → Nat, ad = (fun j t => match j with | 0 => (if t = 0 then a else q9) | 1 => d1 0 t | 2 => d2 0 t | 3 => d3 0 t | 4 => d4 0 t | 5 => d5 0 t | 6 => d6 0 t | 7 => d6 1 t | 8 => d6 2 t | 9 => d6 3 t | 10 => d6 4 t | 11 => d6 5 t | 12 => d6 6 t | 13 => d6 7 t | 14 => d6 8 t | 15 => d7 0 t | 16 => d8 0 t | 17 => p1 0 t | 18 => p2 0 t | _ => cs j t) := ⟨_, rfl⟩
  have hwl : ([(a, .inr (9, [.ref (d1 0 0), .ref (d2 0 0), .ref (d3 0 0), .ref (d4 0 0), .ref (d5 0 0), .ref (d6 0 0), .ref (d7 0 0), .ref (d8 0 0), .ref q9, .ref (p1 0 0), .ref (p2 0 0), .int 0, .int 0]))] ++ ([(q9, aN G 1 16)] ++ (wl G ([3], lk0, d1) zT0 ++ (wl G ([4], lk0, d2) zS0 ++ (wl G ([1], lk0, d3) zM ++ (wl G ([1], lk0, d4) zM ++ (wl G ([1], lk0, d5) zM ++ (wl G ([7, 1, 1, 1, 1, 1, 1, 1, 1], lkN, d6) zM ++ (wl G ([5], lk0, d7) zM ++ (wl G ([6], lk0, d8) zM ++ (wl G ([2], lk0, p1) zM ++ (wl G ([2], lk0, p2) zM))))))))))) : va_W).set 34 (d6 0 1, .inl (G.2.1 4, (8, .inr (.inr (.inr (.inr (fun i => some (ad (7 + min i 7) 0)))))))) = wl G (KC, lkC, ad) iniM := by
    subst had; rfl
  refine n_wm E hG hret (Y := (KC, lkC, ad)) (M := iniM) (L' := [some (rv 0 0)]) (S' := []) (ws2 := wl G (KC, lkC, ad) iniM) ?_ (fun H h => ?_) (fun h => ?_) rfl ?_ (by subst had; rfl) rfl (fun E hAS => ?_)
  · subst had; intro i hi; rcases (show i = 0 ∨ i = 1 ∨ i = 2 by omega) with rfl | rfl | rfl <;> rfl
  · rw [← hwl]
    refine P_fnp (p := 34) (g := fun i => some (ad (7 + min i 7) 0)) rfl ?_ (P_perm hperm h)
    subst had; intro j hj
    rcases (show j = 0 ∨ j = 1 ∨ j = 2 ∨ j = 3 ∨ j = 4 ∨ j = 5 ∨ j = 6 ∨ j = 7 by omega) with rfl | rfl | rfl | rfl | rfl | rfl | rfl | rfl <;> rfl
  · rw [← hwl]; exact (D_perm hperm h).set (p := 34) rfl
  · subst had; rintro q (rfl | h)
    · exact Or.inl ⟨(0, 0), KY_mem.mpr ⟨show 0 < 19 by decide, show 0 ∈ KT 8 by decide⟩, rfl⟩
    · exact Or.inr h
  have hA2 : ∀ q, AS (KC, lkC, ad) s.heap.size q → AK a s.heap.size q := hAS
  have ha0 : ad 0 0 = a := by subst had; rfl
  have h97 : ∀ i, i < 3 → ad (97 + i) = cs (97 + i) := by subst had; intro i hi; rcases (show i = 0 ∨ i = 1 ∨ i = 2 by omega) with rfl | rfl | rfl <;> rfl
  clear hwl hperm had hAS
  refine r_aload_n E (dat dkX9_init 62 rfl) rfl rfl ?_
  refine q_getl E fl_X9_10 (dat dkX9_init 63 rfl) rfl rfl rfl ?_
  refine q_ldc (i := 0) E (by decide) rfl rfl (dat dkX9_init 64 rfl) ?_
  refine r_callV (κ := 3) (μ := [1]) E (sp_X6_putAll l G (zT0 0) 0 0 0 0 0 0 (-1) (fun _ => 0) 0 _ (evT (zT0 0)).symm (by decide) (by decide)) my_X6_putAll iv_X6_putAll ml_X9_81 (cm_of rfl) ⟨by decide, rfl, rfl⟩ rfl rfl rfl rfl (by decide) (Nat.le_of_ble_eq_true rfl) (dat dkX9_init 65 rfl) ?_
  rintro _ _ ⟨rfl, rfl⟩
  refine ⟨_, (show Mrg _ _ iniM _ (setm iniM 1 (vTx (zT0 0) 76 fsB (0, 0, 0, 0, 0, -1))) from Mrg_e (i := 0) (by decide) (by decide) rfl rfl), ?_⟩
  refine r_aload_n E (dat dkX9_init 66 rfl) rfl rfl ?_
  refine q_getd E fl_X9_64 (q := 17) (dat dkX9_init 67 rfl) rfl rfl rfl rfl ?_
  refine r_aload_n E (dat dkX9_init 68 rfl) rfl rfl ?_
  refine q_getl E fl_X9_10 (dat dkX9_init 69 rfl) rfl rfl rfl ?_
  refine r_callV (κ := 2) (μ := [17, 1]) E (sp_X2_readFrom l G z2 0 0 0 0 0 z1 z1 z1 z1 z1 z1 z1 z1 z1 z1 z1 (zT0 0) 76 fsB 0 0 0 0 0 (-1) _ (evP z2).symm rfl (by decide) (fun i _ => fsB_fit i)) my_X2_readFrom iv_X2_readFrom ml_X9_85 (cm_of rfl) ⟨by decide, rfl, rfl⟩ rfl rfl rfl rfl (by decide) (Nat.le_of_ble_eq_true rfl) (dat dkX9_init 70 rfl) ?_
  rintro _ _ ⟨rfl, rfl⟩
  refine ⟨_, (show Mrg _ _ (setm iniM 1 (vTx (zT0 0) 76 fsB (0, 0, 0, 0, 0, -1))) _ (setm (setm (setm iniM 1 (vTx (zT0 0) 76 fsB (0, 0, 0, 0, 0, -1))) 17 (vPx z2 (rFb fsR z1) z1 fsR.2)) 1 (vTx (zT0 0) 76 fsB fsR.1.2)) from Mrg_ee (i := 0) (j := 1) (by decide) (by decide) (by decide) rfl rfl), ?_⟩
  refine r_pop E (dat dkX9_init 71 rfl) rfl ?_
  refine r_aload_n E (dat dkX9_init 72 rfl) rfl rfl ?_
  refine q_getl E fl_X9_10 (dat dkX9_init 73 rfl) rfl rfl rfl ?_
  refine r_callV (κ := 3) (μ := [1]) E (sp_X6_clear l G (zT0 0) 76 (nI fsR.1.2.1) fsR.1.2.2.1 fsR.1.2.2.2.1 fsR.1.2.2.2.2.1 fsR.1.2.2.2.2.2.1 fsR.1.2.2.2.2.2.2 fsB _ rfl) my_X6_clear iv_X6_clear ml_X9_89 (cm_of rfl) ⟨by decide, rfl, rfl⟩ rfl rfl rfl rfl (by decide) (Nat.le_of_ble_eq_true rfl) (dat dkX9_init 74 rfl) ?_
  rintro _ _ ⟨rfl, rfl⟩
  refine ⟨_, (show Mrg _ _ (setm (setm (setm iniM 1 (vTx (zT0 0) 76 fsB (0, 0, 0, 0, 0, -1))) 17 (vPx z2 (rFb fsR z1) z1 fsR.2)) 1 (vTx (zT0 0) 76 fsB fsR.1.2)) _ (setm (setm (setm (setm iniM 1 (vTx (zT0 0) 76 fsB (0, 0, 0, 0, 0, -1))) 17 (vPx z2 (rFb fsR z1) z1 fsR.2)) 1 (vTx (zT0 0) 76 fsB fsR.1.2)) 1 (vTx (zT0 0) 0 fsB fsR.1.2)) from Mrg_e (i := 0) (by decide) (by decide) rfl rfl), ?_⟩
  refine r_aload_n E (dat dkX9_init 75 rfl) rfl rfl ?_
  refine q_getl E fl_X9_26 (dat dkX9_init 76 rfl) rfl rfl rfl ?_
  refine r_aload_n E (dat dkX9_init 77 rfl) rfl rfl ?_
  refine q_getd E fl_X9_64 (q := 17) (dat dkX9_init 78 rfl) rfl rfl rfl rfl ?_
  refine r_callV (κ := 1) (μ := [3, 17]) E (tp_X5_startOver l G z2 z2 (rFb fsR z1) z1 fsR.2 _ rfl rfl) my_X5_startOver iv_X5_startOver ml_X9_92 (cm_of rfl) ⟨by decide, rfl, rfl⟩ rfl rfl rfl rfl (by decide) (Nat.le_of_ble_eq_true rfl) (dat dkX9_init 79 rfl) ?_
  rintro _ _ ⟨rfl, rfl⟩
  refine ⟨_, (show Mrg _ _ _ _ ctyM from Mrg_e (i := 0) (by decide) (by decide) rfl rfl), ?_⟩
  exact r_vretG E (dat dkX9_init 80 rfl) (Nat.le_of_ble_eq_true rfl) (Nat.le_of_ble_eq_true rfl) ha0 h97 hA2 rfl
