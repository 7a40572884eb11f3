/-! the law, from its entry -/
theorem ao_prim {args : Array Value} {s : State} {ty : FieldType} (h : (Cond.arrayClass ty).before args s = true) : ∃ cA : ClassId, ArrOfT s cA ty ∧ s.vm.findClass ("[" ++ ty.toString) = some cA := by
  obtain ⟨c, k, comp, h1, h2, h3⟩ := Cond.arrayClass_spec h
  exact ⟨c, fun n z => ⟨fun k h => (by cases h), k, h2, comp, h3⟩, h1⟩
theorem ao_obj {s : State} {C : String} (h : va_AO C s) : ∃ cA : ClassId, ArrOfT s cA (.object C) ∧ va_RA s cA (.object C) := by
  obtain ⟨comp, c, k, h1, h2, h3, h4, h5⟩ := Cond.arrayOver_spec h
  exact ⟨c, fun n z => ⟨fun k h => (by cases h), k, h3, comp, h4⟩, k, comp, h3, h4, h1, h5⟩
theorem ao_arr {s : State} (h : bAO s) : ∃ cA : ClassId, ArrOfT s cA (.array .byte) ∧ va_RA s cA (.array .byte) := by
  obtain ⟨comp, c, k, h1, h2, h3, h4, h5⟩ := arrayOver_specB h
  exact ⟨c, fun n z => ⟨fun k h => (by cases h), k, h3, comp, h4⟩, h5⟩
theorem an_long : Cond.arrayClass .long ∈ BIG := bg_8 210 (by decide +kernel)
set_option maxHeartbeats 4000000 in
theorem K_start {args : Array Value} {s : State} (hts : ∀ w ∈ BIG, w.before args s = true) (h1 : va_AO "PuddleCity$Verb" s) (h2 : va_AO "PuddleCity$State" s) (h3 : bAO s) : ∃ G : GT, va_K G.1 vwCl (tyL G) s := by
  obtain ⟨c0, i0, k0⟩ := u_known (C := RX1) (T := TX1) (N := 3) (n := 3) hts inB1 (hts _ (bg_1 168 (by decide +kernel)))
  obtain ⟨c1, i1, k1⟩ := u_known (C := RX2) (T := TX2) (N := 12) (n := 12) hts inB2 (hts _ (bg_1 228 (by decide +kernel)))
  obtain ⟨c2, i2, k2⟩ := u_known (C := RX3) (T := TX3) (N := 5) (n := 5) hts inB3 (hts _ (bg_1 188 (by decide +kernel)))
  obtain ⟨c3, i3, k3⟩ := u_known (C := RX4) (T := TX4) (N := 5) (n := 5) hts inB4 (hts _ (bg_1 73 (by decide +kernel)))
  obtain ⟨c4, i4, k4⟩ := u_known (C := RX5) (T := TX5) (N := 15) (n := 15) hts inB5 (hts _ (bg_1 99 (by decide +kernel)))
  obtain ⟨c5, i5, k5⟩ := u_known (C := RX6) (T := TX6) (N := 8) (n := 8) hts inB6 (hts _ (bg_1 34 (by decide +kernel)))
  obtain ⟨c6, i6, k6⟩ := u_known (C := RX8) (T := TX8) (N := 2) (n := 2) hts inB8 (hts _ (bg_1 214 (by decide +kernel)))
  obtain ⟨c7, i7, k7⟩ := u_known (C := RX9) (T := TX9) (N := 13) (n := 13) hts inB9 (hts _ (bg_1 26 (by decide +kernel)))
  obtain ⟨c8, i8, k8⟩ := u_known (C := RX10) (T := TX10) (N := 26) (n := 26) hts inB10 (hts _ (bg_6 21 (by decide +kernel)))
  obtain ⟨a0, p0, q0⟩ := ao_prim (hts _ an_int)
  obtain ⟨a1, p1, q1⟩ := ao_prim (hts _ an_byte)
  obtain ⟨a2, p2, q2⟩ := ao_prim (hts _ an_bool)
  obtain ⟨a3, p3, q3⟩ := ao_prim (hts _ an_long)
  obtain ⟨a4, p4, q4⟩ := ao_obj h2
  obtain ⟨a5, p5, q5⟩ := ao_arr h3
  obtain ⟨a6, p6, q6⟩ := ao_obj h1
  refine ⟨((fun k => match k with | 0 => c0 | 1 => c1 | 2 => c2 | 3 => c3 | 4 => c4 | 5 => c5 | 6 => c6 | 7 => c7 | _ => c8, fun k => match k with | 0 => i0 | 1 => i1 | 2 => i2 | 3 => i3 | 4 => i4 | 5 => i5 | 6 => i6 | 7 => i7 | _ => i8), fun k => match k with | 0 => a0 | 1 => a1 | 2 => a2 | 3 => a3 | 4 => a4 | 5 => a5 | _ => a6), fun k q hq => ?_, fun k q hq => ?_⟩
  · match k, hq with
    | 0, hq => cases hq; exact k0
    | 1, hq => cases hq; exact k1
    | 2, hq => cases hq; exact k2
    | 3, hq => cases hq; exact k3
    | 4, hq => cases hq; exact k4
    | 5, hq => cases hq; exact k5
    | 6, hq => cases hq; exact k6
    | 7, hq => cases hq; exact k7
    | 8, hq => cases hq; exact k8
    | k + 9, hq => simp [vwCl] at hq
  · match k, hq with
    | 0, hq => cases hq; exact ⟨p0, q0⟩
    | 1, hq => cases hq; exact ⟨p1, q1⟩
    | 2, hq => cases hq; exact ⟨p2, q2⟩
    | 3, hq => cases hq; exact ⟨p3, q3⟩
    | 4, hq => cases hq; exact ⟨p4, q4⟩
    | 5, hq => cases hq; exact ⟨p5, q5⟩
    | 6, hq => cases hq; exact ⟨p6, q6⟩
    | k + 7, hq => simp at hq
/-- a module's cells by other names of the addresses -/
theorem ceY_c {G : GT} {ks ks' : List Nat} {lk lk' : Nat → Nat → Nat} {ad ad' : Nat → Nat → Nat} {S : Nat → Nat → Int32} {j j' t : Nat} (hk : ks.getD j 0 = ks'.getD j' 0) (hj : ad j = ad' j') (h98 : ad 98 = ad' 98) (hl : ks'.getD j' 0 = 7 ∨ ks'.getD j' 0 = 8 → ∀ i, i < 8 → ad (lk j i) = ad' (lk' j' i)) (h8 : ks'.getD j' 0 = 8 → ∀ k, k = 9 ∨ k = 10 → ad (S 0 k).toNatClampNeg = ad' (S 0 k).toNatClampNeg) : ceY G (ks, lk, ad) S j t = ceY G (ks', lk', ad') S j' t := by
  have hkk : kdY (ks, lk, ad) j = kdY (ks', lk', ad') j' := hk
  unfold ceY
  rw [hkk]
  cases ha : ae (kdY (ks', lk', ad') j') t with
  | some q =>
    have : ∀ f, arC (ks, lk, ad) q.1 j f = arC (ks', lk', ad') q.1 j' f := by
      intro f
      obtain ⟨c, n⟩ := q
      rcases (show c = 0 ∨ c = 1 ∨ c = 2 ∨ c = 3 ∨ c = 4 ∨ c = 5 ∨ 6 ≤ c by omega) with rfl | rfl | rfl | rfl | rfl | rfl | hc
      · rfl
      · rfl
      · rfl
      · rfl
      · show Sum.inr (Sum.inr (Sum.inr (Sum.inr _))) = Sum.inr (Sum.inr (Sum.inr (Sum.inr _)))
        congr 4
        funext i
        show some (ad (lk j (min i 7)) 0) = some (ad' (lk' j' (min i 7)) 0)
        have h7 : kdY (ks', lk', ad') j' = 7 := by
          have h12 : ∀ κ, κ < 12 → ∀ q ∈ AE.getD κ [], q.2.1 = 4 → κ = 7 := by decide +kernel
          have hlt : kdY (ks', lk', ad') j' < 12 := by
            rcases Nat.lt_or_ge (kdY (ks', lk', ad') j') 12 with h | h
            · exact h
            · exfalso
              unfold ae at ha
              rw [List.getD_eq_getElem?_getD, List.getElem?_eq_none (show AE.length ≤ kdY (ks', lk', ad') j' from h)] at ha
              cases ha
          unfold ae at ha
          obtain ⟨l1, l2, he, -⟩ := List.lookup_eq_some_iff.mp ha
          exact h12 _ hlt (t, 4, n) (by rw [he]; simp) rfl
        rw [hl (Or.inl h7) (min i 7) (by omega)]
      · show Sum.inr (Sum.inr (Sum.inr (Sum.inr _))) = Sum.inr (Sum.inr (Sum.inr (Sum.inr _)))
        congr 4
        funext i
        show some (ad j (8 + i)) = some (ad' j' (8 + i))
        rw [hj]
      · obtain ⟨c, rfl⟩ : ∃ c', c = c' + 6 := ⟨c - 6, by omega⟩
        show Sum.inr (Sum.inr (Sum.inr (Sum.inr _))) = Sum.inr (Sum.inr (Sum.inr (Sum.inr _)))
        congr 4
        funext i
        show (if f i < 0 then none else some (ad 98 (f i).toNatClampNeg)) = (if f i < 0 then none else some (ad' 98 (f i).toNatClampNeg))
        rw [h98]
    simp only [this]
  | none =>
    refine congrArg Sum.inr (congrArg (Prod.mk _) (List.map_congr_left (fun k hkm => ?_)))
    have hkn := List.mem_range.mp hkm
    unfold fv
    rw [hkk]
    by_cases h1 : fk (kdY (ks', lk', ad') j') k = 0
    · rw [h1]; rfl
    · by_cases h2 : fk (kdY (ks', lk', ad') j') k = 1
      · rw [h2]
        show Value.ref (ad j (k + 1)) = Value.ref (ad' j' (k + 1))
        rw [hj]
      · have h8k : kdY (ks', lk', ad') j' = 8 := by
          by_cases h9 : kdY (ks', lk', ad') j' = 8
          · exact h9
          · exact absurd (fk_small _ k h9) (by rintro (h | h) <;> contradiction)
        rw [h8k] at hkn h1 h2 ⊢
        have h3 : ∀ k, k < fn 8 → ¬ fk 8 k = 0 → ¬ fk 8 k = 1 → (fk 8 k = 2 ∧ k < 8) ∨ (fk 8 k = 3 ∧ (k = 9 ∨ k = 10)) := by decide +kernel
        rcases h3 k hkn h1 h2 with ⟨h4, h5⟩ | ⟨h4, h5⟩
        · rw [h4]
          show Value.ref (ad (lk j k) 0) = Value.ref (ad' (lk' j' k) 0)
          rw [hl (Or.inr h8k) k h5]
        · rw [h4]
          show Value.ref (ad (S 0 k).toNatClampNeg 0) = Value.ref (ad' (S 0 k).toNatClampNeg 0)
          rw [h8 h8k k h5]
section RNL
variable {p : Program} {l : Launch} {e : Env} {R : Room} {s : State} {m : MethodId} {args : Array Value} {below : List Frame} {meth : Method} {c : Code} {G : GT} {A : Nat → Prop} {nL : Nat} {Q : State → Prop} {ws : va_W} {k n pc : Nat} {L : List (Option AV)} {S : List Value} {cc : ByteArray} {own : String}
theorem n_astore_n (E : EX p s m args meth c G A cc own nL) {a : Fin 4} {i q : Nat} {L2 : List (Option AV)} (hd : decode cc pc = .ok (.astore_n a, 1)) (ha : (a : Nat) = i) (hi : i < L.length) (hn : L.length = nL) (hc : ∀ z, z + 1 = i → ac2 ((L[z]?).getD none) = false) (hL : L.set i (some (.inl (.ref q))) = L2) (kk : NM p l e R s m args below meth c G A nL Q ws k n (pc + 1) L2 S) : NM p l e R s m args below meth c G A nL Q ws k n pc L (.ref q :: S) := fun H locs ls hP hD hS hl => lv_astore_n E.1 E.2.1 hd ha hl (hn ▸ hi) rfl (fun ls2 hl2 => kk H locs ls2 hP hD hS (hL ▸ lvl_set rfl hi hc hl2))
end RNL
/-- the law's memory at its loop's start -/
def lawM : Mem := fun j => if j < 19 then ctyM j else if j = 20 then mdlM 0 else fun _ _ => 0
theorem lawM_R : RLe lawM (vw [20] lawM) 0 := RLe_tr RL_start (fun j hj => if_pos hj) rfl
set_option maxRecDepth 100000 in
theorem KY_L {lk lk1 lk2 : Nat → Nat → Nat} {ad d1 d2 : Nat → Nat → Nat} : KY (KL, lk, ad) = KY (KC, lk1, d1) ++ ((19, 0) :: (KY ([9], lk2, d2)).map (fun q => (20, q.2))) := rfl
def adL (qo : Nat) (d1 d2 : Nat → Nat → Nat) : Nat → Nat → Nat := fun j t => if j = 19 then qo else if j = 20 then d2 0 t else d1 j t
theorem adL_lt {qo : Nat} {d1 d2 : Nat → Nat → Nat} {j : Nat} (h1 : j ≠ 19) (h2 : j ≠ 20) : adL qo d1 d2 j = d1 j := by
  funext t; unfold adL; rw [if_neg h1, if_neg h2]
theorem adL_20 {qo : Nat} {d1 d2 : Nat → Nat → Nat} : adL qo d1 d2 20 = d2 0 := rfl
theorem lkC_lt (j i : Nat) (hi : i < 12) : lkC j i < 19 := by
  unfold lkC
  by_cases h : j = 0
  · rw [if_pos h]
    exact (show ∀ i, i < 12 → [1, 2, 3, 4, 5, 6, 15, 16].getD i 0 < 19 by decide) i hi
  · rw [if_neg h]; omega
theorem law_P {G : GT} {qo : Nat} {d1 d2 cs : Nat → Nat → Nat} {H : Heap} (h1 : ∀ i, i < 3 → d1 (97 + i) = cs (97 + i)) (h2 : ∀ i, i < 3 → d2 (97 + i) = cs (97 + i)) (hP1 : va_P G.1 vwCl (wl G (KC, lkC, d1) ctyM) H) (hP2 : va_P G.1 vwCl (wl G ([9], lk0, d2) mdlM) H) (hP3 : va_P G.1 vwCl [(qo, aN G 3 1)] H) : va_P G.1 vwCl (wl G (KL, lkC, adL qo d1 d2) lawM) H := by
  refine va_P_of ?_
  intro x hx
  obtain ⟨⟨j, t⟩, hk, rfl⟩ := List.mem_map.mp hx
  rw [KY_L (lk1 := lkC) (d1 := d1) (lk2 := lk0) (d2 := d2)] at hk
  rcases List.mem_append.mp hk with hk | hk
  · have hj : j < 19 := (KY_mem.mp hk).1
    have := va_P_at hP1 (wl_in (G := G) (M := ctyM) hk)
    show va_at _ _ (adL qo d1 d2 j t, ceY G (KL, lkC, adL qo d1 d2) (lawM j) j t) H
    rw [adL_lt (by omega) (by omega), show lawM j = ctyM j from if_pos hj, ceY_c (ks' := KC) (lk' := lkC) (ad' := d1) (j' := j) ?_ (adL_lt (by omega) (by omega)) (adL_lt (by decide) (by decide)) ?_ ?_]
    · exact this
    · exact (show ∀ j, j < 19 → KL.getD j 0 = KC.getD j 0 by decide) j hj
    · intro _ i hi
      have := lkC_lt j i (by omega)
      exact adL_lt (by omega) (by omega)
    · intro h8 k hk9
      have hj0 : j = 0 := (show ∀ j, j < 19 → KC.getD j 0 = 8 → j = 0 by decide) j hj h8
      subst hj0
      rcases hk9 with rfl | rfl
      · exact adL_lt (j := (ctyM 0 0 9).toNatClampNeg) (show (17 : Nat) ≠ 19 by decide) (show (17 : Nat) ≠ 20 by decide)
      · exact adL_lt (j := (ctyM 0 0 10).toNatClampNeg) (show (18 : Nat) ≠ 19 by decide) (show (18 : Nat) ≠ 20 by decide)
  · rcases List.mem_cons.mp hk with hk | hk
    · cases hk
      exact hP3 0 _ rfl
    · obtain ⟨⟨j2, t2⟩, hk2, he⟩ := List.mem_map.mp hk
      cases he
      have hj2 : j2 = 0 := by have := (KY_mem.mp hk2).1; exact Nat.lt_one_iff.mp this
      subst hj2
      have := va_P_at hP2 (wl_in (G := G) (M := mdlM) hk2)
      show va_at _ _ (d2 0 t2, ceY G (KL, lkC, adL qo d1 d2) (mdlM 0) 20 t2) H
      rw [ceY_c (ks' := [9]) (lk' := lk0) (ad' := d2) (j' := 0) ?_ ?_ ?_ (fun h => absurd h (by decide)) (fun h => absurd h (by decide))]
      · exact this
      · rfl
      · rfl
      · exact (adL_lt (by decide) (by decide)).trans ((h1 1 (by decide)).trans (h2 1 (by decide)).symm)
theorem law_D {G : GT} {A : Nat → Prop} {qo : Nat} {d1 d2 : Nat → Nat → Nat} (hD : va_D A (wl G (KC, lkC, d1) ctyM ++ (wl G ([9], lk0, d2) mdlM ++ [(qo, aN G 3 1)]))) : va_D A (wl G (KL, lkC, adL qo d1 d2) lawM) := by
  rw [D_iff] at hD ⊢
  have e : (wl G (KL, lkC, adL qo d1 d2) lawM).map (fun x => x.1) = (wl G (KC, lkC, d1) ctyM).map (fun x => x.1) ++ (qo :: (wl G ([9], lk0, d2) mdlM).map (fun x => x.1)) := by
    unfold wl
    rw [List.map_map, List.map_map, List.map_map, KY_L (lk1 := lkC) (d1 := d1) (lk2 := lk0) (d2 := d2), List.map_append, List.map_cons, List.map_map]
    congr 1
  have hp : ((wl G (KC, lkC, d1) ctyM ++ (wl G ([9], lk0, d2) mdlM ++ [(qo, aN G 3 1)])).map (fun x => x.1)).Perm ((wl G (KL, lkC, adL qo d1 d2) lawM).map (fun x => x.1)) := by
    rw [e, List.map_append, List.map_append]
    exact (List.perm_append_singleton _ _).append_left _
  refine ⟨hp.nodup_iff.mp hD.1, fun x hx => ?_⟩
  have hm : x.1 ∈ (wl G (KL, lkC, adL qo d1 d2) lawM).map (fun x => x.1) := List.mem_map.mpr ⟨x, hx, rfl⟩
  obtain ⟨z, hz, hz2⟩ := List.mem_map.mp (hp.mem_iff.mpr hm)
  rw [← hz2]
  exact hD.2 z hz
