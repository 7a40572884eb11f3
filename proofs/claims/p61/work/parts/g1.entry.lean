/-! the law, from its entry -/
theorem ao_prim {args : Array Value} {s : State} {ty : FieldType} (h : (Cond.arrayClass ty).before args s = true) : ∃ cA : ClassId, ArrOfT s cA ty ∧ s.vm.findClass ("[" ++ ty.toString) = some cA := by
  obtain ⟨c, k, comp, h1, h2, h3⟩ := Cond.arrayClass_spec h
  exact ⟨c, fun n z => ⟨fun k h => (by cases h), k, h2, comp, h3⟩, h1⟩
theorem ao_obj {s : State} {C : String} (h : va_AO C s) : ∃ cA : ClassId, ArrOfT s cA (.object C) ∧ va_RA s cA (.object C) := by
  obtain ⟨comp, c, k, h1, h2, h3, h4, h5⟩ := Cond.arrayOver_spec h
  exact ⟨c, fun n z => ⟨fun k h => (by cases h), k, h3, comp, h4⟩, k, comp, h3, h4, h1, h5⟩
theorem ao_arr {s : State} {et : FieldType} (h : tAO et s) : ∃ cA : ClassId, ArrOfT s cA (.array et) ∧ va_RA s cA (.array et) := by
  obtain ⟨comp, c, k, h1, h2, h3, h4, h5⟩ := arrayOver_specB h
  exact ⟨c, fun n z => ⟨fun k h => (by cases h), k, h3, comp, h4⟩, h5⟩
set_option maxHeartbeats 4000000 in
theorem K_start {args : Array Value} {s : State} (hts : ∀ w ∈ BIG, w.before args s = true) (h1 : va_AO "PuddleCity$Verb" s) (h2 : va_AO "PuddleCity$State" s) (h3 : bAO s) : ∃ (D : va_G) (ca : Nat → ClassId), ∀ z w, va_K D vwCl (tyG (D, ca, z, w)) s := by
  obtain ⟨c0, i0, k0⟩ := u_known (C := RJ0) (T := TJ0) (N := 4) (n := 4) hts inBJ0 (hts _ (bg_5 223 (by decide +kernel)))
  obtain ⟨c1, i1, k1⟩ := u_known (C := RJ4) (T := TJ4) (N := 4) (n := 4) hts inBJ4 (hts _ (bg_5 56 (by decide +kernel)))
  obtain ⟨c2, i2, k2⟩ := u_known (C := RX1) (T := TX1) (N := 3) (n := 3) hts inB1 (hts _ (bg_1 163 (by decide +kernel)))
  obtain ⟨c3, i3, k3⟩ := u_known (C := RX2) (T := TX2) (N := 12) (n := 12) hts inB2 (hts _ (bg_1 221 (by decide +kernel)))
  obtain ⟨c4, i4, k4⟩ := u_known (C := RX3) (T := TX3) (N := 5) (n := 5) hts inB3 (hts _ (bg_1 182 (by decide +kernel)))
  obtain ⟨c5, i5, k5⟩ := u_known (C := RX4) (T := TX4) (N := 5) (n := 5) hts inB4 (hts _ (bg_1 71 (by decide +kernel)))
  obtain ⟨c6, i6, k6⟩ := u_known (C := RX5) (T := TX5) (N := 15) (n := 15) hts inB5 (hts _ (bg_1 96 (by decide +kernel)))
  obtain ⟨c7, i7, k7⟩ := u_known (C := RX6) (T := TX6) (N := 8) (n := 8) hts inB6 (hts _ (bg_1 36 (by decide +kernel)))
  obtain ⟨c8, i8, k8⟩ := u_known (C := RX8) (T := TX8) (N := 2) (n := 2) hts inB8 (hts _ (bg_1 208 (by decide +kernel)))
  obtain ⟨c9, i9, k9⟩ := u_known (C := RX9) (T := TX9) (N := 13) (n := 13) hts inB9 (hts _ (bg_1 28 (by decide +kernel)))
  obtain ⟨c10, i10, k10⟩ := u_known (C := RL) (T := TL) (N := 21) (n := 21) hts inBL (hts _ (bg_3 19 (by decide +kernel)))
  obtain ⟨a0, p0, q0⟩ := ao_prim (hts _ an_int)
  obtain ⟨a1, p1, q1⟩ := ao_prim (hts _ an_byte)
  obtain ⟨a2, p2, q2⟩ := ao_prim (hts _ an_bool)
  obtain ⟨a3, p3, q3⟩ := ao_arr h3.2.1
  obtain ⟨a4, p4, q4⟩ := ao_obj h2
  obtain ⟨a5, p5, q5⟩ := ao_arr h3.1
  obtain ⟨a6, p6, q6⟩ := ao_obj h1
  refine ⟨(fun k => match k with | 0 => c0 | 1 => c1 | 2 => c2 | 3 => c3 | 4 => c4 | 5 => c5 | 6 => c6 | 7 => c7 | 8 => c8 | 9 => c9 | _ => c10, fun k => match k with | 0 => i0 | 1 => i1 | 2 => i2 | 3 => i3 | 4 => i4 | 5 => i5 | 6 => i6 | 7 => i7 | 8 => i8 | 9 => i9 | _ => i10), fun k => match k with | 0 => a0 | 1 => a1 | 2 => a2 | 3 => a3 | 4 => a4 | 5 => a5 | 6 => a6 | _ => a3, fun z w => ⟨fun k q hq => ?_, fun k q hq => ?_⟩⟩
  · match k, hq with
    | 0, hq => cases hq; exact k0
    | 1, hq => cases hq; exact k1
    | 2, hq => cases hq; exact k2
    | 3, hq => cases hq; exact k3
    | 4, hq => cases hq; exact k4
    | 5, hq => cases hq; exact k5
    | 6, hq => cases hq; exact k6
    | 7, hq => cases hq; exact k7
    | 8, hq => cases hq; exact k8
    | 9, hq => cases hq; exact k9
    | 10, hq => cases hq; exact k10
    | k + 11, hq => simp [vwCl] at hq
  · match k, hq with
    | 0, hq => cases hq; exact ⟨p0, q0⟩
    | 1, hq => cases hq; exact ⟨p1, q1⟩
    | 2, hq => cases hq; exact ⟨p2, q2⟩
    | 3, hq => cases hq; exact ⟨p3, q3⟩
    | 4, hq => cases hq; exact ⟨p4, q4⟩
    | 5, hq => cases hq; exact ⟨p5, q5⟩
    | 6, hq => cases hq; exact ⟨p6, q6⟩
    | 7, hq => cases hq; exact ⟨p3, q3⟩
    | 8, hq => cases hq; exact ⟨p3, q3⟩
    | 9, hq => cases hq; exact ⟨p3, q3⟩
    | 10, hq => cases hq; exact ⟨p3, q3⟩
    | 11, hq => cases hq; exact ⟨p3, q3⟩
    | 12, hq => cases hq; exact ⟨p3, q3⟩
    | 13, hq => cases hq; exact ⟨p3, q3⟩
    | k + 14, hq => simp at hq
/-- the law's module by other names -/
theorem ceY_9 {G : GT} {Y Y' : LV} {S : Nat → Nat → Int32} {j j' t : Nat} (hk : kdY Y j = 9) (hk' : kdY Y' j' = 9) (hj : Y.2.2 j = Y'.2.2 j') : ceY G Y S j t = ceY G Y' S j' t := by
  unfold ceY
  rw [hk, hk']
  cases ha : ae 9 t with
  | some q =>
    have hq : q.1 < 4 ∨ 7 ≤ q.1 := by
      have h12 : ∀ z ∈ AE.getD 9 [], z.2.1 < 4 ∨ 7 ≤ z.2.1 := by decide +kernel
      unfold ae at ha
      obtain ⟨l1, l2, he, -⟩ := List.lookup_eq_some_iff.mp ha
      exact h12 (t, q) (by rw [he]; simp)
    have : ∀ f, arC Y q.1 j f = arC Y' q.1 j' f := by
      intro f
      obtain ⟨c, n⟩ := q
      rcases (show c = 0 ∨ c = 1 ∨ c = 2 ∨ c = 3 ∨ 7 ≤ c by have : c < 4 ∨ 7 ≤ c := hq; omega) with rfl | rfl | rfl | rfl | hc
      · rfl
      · rfl
      · rfl
      · rfl
      · obtain ⟨c, rfl⟩ : ∃ c', c = c' + 7 := ⟨c - 7, by omega⟩
        show Sum.inr (Sum.inr (Sum.inr (Sum.inr _))) = Sum.inr (Sum.inr (Sum.inr (Sum.inr _)))
        congr 4
        funext i
        show some (Y.2.2 j (20 + 7 * (c + 7 - 7) + i)) = some (Y'.2.2 j' (20 + 7 * (c + 7 - 7) + i))
        rw [hj]
    simp only [this]
  | none =>
    refine congrArg Sum.inr (congrArg (Prod.mk _) (List.map_congr_left (fun k hkm => ?_)))
    unfold fv
    rw [hk, hk']
    rcases fk_small 9 k (by decide) with h | h
    · rw [h]; rfl
    · rw [h]
      show Value.ref (Y.2.2 j (k + 1)) = Value.ref (Y'.2.2 j' (k + 1))
      rw [hj]
/-- the law's memory at its first int -/
def lawM : Mem := fun j => if j < 19 then ctyM j else fun _ _ => 0
def adL (d1 d2 : Nat → Nat → Nat) : Nat → Nat → Nat := fun j t => if j = 19 then d2 0 t else d1 j t
theorem adL_o {d1 d2 : Nat → Nat → Nat} {j : Nat} (h1 : j ≠ 19) : adL d1 d2 j = d1 j := by
  funext t; unfold adL; rw [if_neg h1]
set_option maxRecDepth 100000 in
theorem KY_L {lk lk1 lk2 : Nat → Nat → Nat} {ad d1 d2 : Nat → Nat → Nat} : KY (KL, lk, ad) = KY (KC, lk1, d1) ++ (KY ([9], lk2, d2)).map (fun q => (19, q.2)) := rfl
theorem law_P {G : GT} {d1 d2 : Nat → Nat → Nat} {H : Heap} (hP1 : va_P G.1 vwCl (wl G (KC, lkC, d1) ctyM) H) (hP2 : va_P G.1 vwCl (wl G ([9], lk0, d2) zM) H) : va_P G.1 vwCl (wl G (KL, lkC, adL d1 d2) lawM) H := by
  have d7 : ∀ j, j < 19 → KC.getD j 0 = 7 → ∀ i, i < 8 → lkC j i < 19 := by decide +kernel
  have d8 : ∀ j, j < 19 → KC.getD j 0 = 8 → j = 0 ∧ ∀ k, k < 30 → fk 8 k = 2 → lkC j k < 19 := by decide +kernel
  refine va_P_of ?_
  intro x hx
  obtain ⟨⟨j, t⟩, hk, rfl⟩ := List.mem_map.mp hx
  rw [KY_L (lk1 := lkC) (d1 := d1) (lk2 := lk0) (d2 := d2)] at hk
  rcases List.mem_append.mp hk with hk | hk
  · have hj : j < 19 := (KY_mem.mp hk).1
    have h1 := va_P_at hP1 (wl_in (G := G) (M := ctyM) hk)
    have e1 : ceY G (KL, lkC, adL d1 d2) (ctyM j) j t = ceY G (KC, lkC, d1) (ctyM j) j t := by
      have q1 := ceY_ren (G := G) (Y := (KL, lkC, adL d1 d2)) cm_KL (S := ctyM j) (j := j) (t := t) hj
      have q2 : ceY G (KL, lkC, adL d1 d2) (ctyM j) (mu [] j) t = ceY G (KC, lkC, adL d1 d2) (ctyM j) j t := q1.symm
      have q3 : ceY G (KL, lkC, adL d1 d2) (ctyM j) j t = ceY G (KC, lkC, adL d1 d2) (ctyM j) j t := q2
      rw [q3]
      refine ceY_ad (adL_o (by omega)) (adL_o (by decide)) (fun h7 i hi => adL_o (by have := d7 j hj h7 i hi; omega)) (fun h8 => ?_)
      obtain ⟨rfl, g⟩ := d8 j hj h8
      refine ⟨fun k hk2 hf => adL_o (by have := g k hk2 hf; omega), adL_o ?_, adL_o ?_⟩
      · show (17 : Nat) ≠ 19; decide
      · show (18 : Nat) ≠ 19; decide
    show va_at _ _ (adL d1 d2 j t, ceY G (KL, lkC, adL d1 d2) (lawM j) j t) H
    rw [adL_o (by omega), show lawM j = ctyM j from if_pos hj, e1]
    exact h1
  · obtain ⟨⟨j2, t2⟩, hk2, he⟩ := List.mem_map.mp hk
    cases he
    have hj2 : j2 = 0 := by have := (KY_mem.mp hk2).1; exact Nat.lt_one_iff.mp this
    subst hj2
    have h1 := va_P_at hP2 (wl_in (G := G) (M := zM) hk2)
    show va_at _ _ (d2 0 t2, ceY G (KL, lkC, adL d1 d2) (fun _ _ => 0) 19 t2) H
    rw [ceY_9 (Y := (KL, lkC, adL d1 d2)) (Y' := ([9], lk0, d2)) (j := 19) (j' := 0) rfl rfl rfl]
    exact h1
theorem law_D {G : GT} {A : Nat → Prop} {d1 d2 : Nat → Nat → Nat} (hD : va_D A (wl G (KC, lkC, d1) ctyM ++ wl G ([9], lk0, d2) zM)) : va_D A (wl G (KL, lkC, adL d1 d2) lawM) := by
  rw [D_iff] at hD ⊢
  have e : (wl G (KL, lkC, adL d1 d2) lawM).map (fun x => x.1) = (wl G (KC, lkC, d1) ctyM ++ wl G ([9], lk0, d2) zM).map (fun x => x.1) := by
    rw [List.map_append]
    unfold wl
    rw [List.map_map, List.map_map, List.map_map, KY_L (lk1 := lkC) (d1 := d1) (lk2 := lk0) (d2 := d2), List.map_append, List.map_map]
    congr 1
  refine ⟨by rw [e]; exact hD.1, fun x hx => ?_⟩
  have hm : x.1 ∈ (wl G (KL, lkC, adL d1 d2) lawM).map (fun x => x.1) := List.mem_map.mpr ⟨x, hx, rfl⟩
  rw [e] at hm
  obtain ⟨z, hz, hz2⟩ := List.mem_map.mp hm
  rw [← hz2]
  exact hD.2 z hz
section RNL
variable {p : Program} {l : Launch} {e : Env} {R : Room} {s : State} {m : MethodId} {args : Array Value} {below : List Frame} {meth : Method} {c : Code} {G : GT} {A : Nat → Prop} {nL : Nat} {Q : State → Prop} {ws : va_W} {k n pc : Nat} {L : List (Option AV)} {S : List Value} {cc : ByteArray} {own : String} {ct : Bool}
theorem n_astore_n (E : EX p s m args meth c G A cc own nL ct) {a : Fin 4} {i q : Nat} {L2 : List (Option AV)} (hd : decode cc pc = .ok (.astore_n a, 1)) (ha : (a : Nat) = i) (hi : i < L.length) (hn : L.length = nL) (hc : ∀ z, z + 1 = i → ac2 ((L[z]?).getD none) = false) (hL : L.set i (some (.inl (.ref q))) = L2) (kk : NM p l e R s m args below meth c G A nL Q ws k n (pc + 1) L2 S) : NM p l e R s m args below meth c G A nL Q ws k n pc L (.ref q :: S) := fun H locs ls hP hD hS hl => lv_astore_n E.1 E.2.1 hd ha hl (hn ▸ hi) rfl (fun ls2 hl2 => kk H locs ls2 hP hD hS (hL ▸ lvl_set rfl hi hc hl2))
end RNL
