/-! the reference: one puddle, what is consistent, dry ways -/
theorem Mrg_mtar {N t : Nat} {M M1 : Mem} {S : Nat → Int32} {k : Int32} (hN : 0 < N) (h1 : M1 = mt (ar t (vw [] M) S) k) : Mrg N [] M M1 (mt (ar t M S) k) := by
  subst h1
  refine ⟨fun j hj => rfl, fun g hg => ?_⟩
  have h0 : g ≠ 0 := fun q => hg 0 hN q.symm
  show setm (ar t M S) 0 _ g = M g
  rw [setm_n h0]
  exact setm_n h0
theorem ite_n {P : Prop} [Decidable P] (h : ¬ (if P then (1 : Int32) else 0) = 0) : P := by
  by_cases hp : P
  · exact hp
  · rw [if_neg hp] at h; exact absurd rfl h
theorem ite_e {P : Prop} [Decidable P] (h : (if P then (1 : Int32) else 0) = 0) : ¬ P := by
  intro hp
  rw [if_pos hp] at h
  exact absurd h (by decide)
theorem ite_bn {P : Prop} [Decidable P] : narrow .boolean (.int (if P then (1 : Int32) else 0)) = .int (if P then (1 : Int32) else 0) := by split <;> rfl
def gW (f c : Nat) : Int32 := if c = f then 0 else -1
theorem gW_lay {nb : Nat → Nat → Option Nat} {w ls se : Nat → Int32} {h : Int32} {n f : Nat} (hZ : wZ nb w h n f se) : ∀ k, k < n → fil (gW f) ls n k = lay se 0 k := by
  intro k hk
  rw [show fil (gW f) ls n k = gW f k from if_pos hk]
  by_cases he : k = f
  · subst he
    rw [lay_n hZ.2.1 (by decide) (by decide), if_pos (Nat.le_refl 0)]
    exact if_pos rfl
  · rw [show gW f k = -1 from if_neg he]
    rcases hZ.1 k hk with q | ⟨s, s1, s2, s3, _⟩
    · rw [lay_m q]
    · rw [lay_n s2 (by omega) (by decide), if_neg (fun q => he (s3 (by omega)))]
set_option maxRecDepth 100000 in
set_option maxHeartbeats 4000000 in
theorem sp_X10_checkPuddle (l : Launch) (G : GT) (A0 : Nat → Int32) (x : PP) (T : Nat → Nat → Int32) (M : Mem) (a : Int32) (hA : M 0 1 = enc A0 x T) (hx : PIv x) (hw0 : ∀ c, c < x.1.2.2 → 0 ≤ T 1 c) : MC l G yX10_checkPuddle cX10_checkPuddle 2 (some .boolean) ({ frames := 5, cells := 0, slots := 0, locals := 120 } : Room) [9] lk0 [rv 0 0, iv a] (M) (fun r M2 => ∃ L, PL (nbx x) (T 1) x.1.2.2 L ∧ ((∃ k, k < (kN (rp L) x.1.2.2) ∧ a = nI k ∧ r = some (iv 1) ∧ M2 = mt (ar 23 M L) 0) ∨ ((¬ ∃ k, k < (kN (rp L) x.1.2.2) ∧ a = nI k) ∧ r = some (iv 0) ∧ M2 = mt (ar 23 M L) 1))) := by
  refine MC.of RX10 [some (rv 0 0), some (iv a)] 0 (by decide +kernel) rfl rfl rfl ?_
  intro pp ee ss mm aa bb me cd ad E
  have hn64 := (PIv_z hx).1
  
  refine r_aload_n E (dat dkX10_checkPuddle 0 rfl) rfl rfl ?_
  refine r_iload_n E (dat dkX10_checkPuddle 1 rfl) rfl rfl ?_
  refine r_i2l E (dat dkX10_checkPuddle 2 rfl) ?_
  refine r_lconst E (dat dkX10_checkPuddle 3 rfl) rfl ?_
  refine r_aload_n E (dat dkX10_checkPuddle 4 rfl) rfl rfl ?_
  refine r_callV (κ := 9) (μ := []) E (sp_X10_countPuddles l G A0 x T _ hA hx hw0) my_X10_countPuddles iv_X10_countPuddles ml_X10_353 cm_id ⟨by decide, rfl, rfl⟩ rfl rfl rfl rfl (by decide) (Nat.le_of_ble_eq_true rfl) (dat dkX10_checkPuddle 5 rfl) ?_
  rintro _ M9 ⟨L, hPL, hM9, rfl⟩
  rcases wI_any (a := a) (u := (kN (rp L) x.1.2.2)) (by have := kN64 (L := L) hn64; omega) with ⟨hi1, k, hk, rfl⟩ | ⟨hi0, hk⟩
  ·
    refine ⟨_, Mrg_ar (by decide) hM9, ?_⟩
    refine r_iconst (v := 1) E (dat dkX10_checkPuddle 6 rfl) rfl ?_
    refine r_isub E (dat dkX10_checkPuddle 7 rfl) ?_
    refine r_i2l E (dat dkX10_checkPuddle 8 rfl) ?_
    refine r_callS (μ := []) E (sp_X10_isWithin l G (nI k).toInt64 0 (nI (kN (rp L) x.1.2.2) - 1).toInt64 _) my_X10_isWithin is_X10_isWithin ml_X10_80 cm_nil rfl rfl (by decide) (Nat.le_of_ble_eq_true rfl) (dat dkX10_checkPuddle 9 rfl) ?_
    rintro _ _ ⟨rfl, hM⟩
    refine ⟨_, Mrg_z hM, ?_⟩
    clear hM
    rw [hi1]
    refine r_iconst (v := 1) E (dat dkX10_checkPuddle 10 rfl) rfl ?_
    refine r_iconst (v := 1) E (dat dkX10_checkPuddle 11 rfl) rfl ?_
    refine r_callV (κ := 9) (μ := []) E (sp_X10_check l G (1) (1) (1) _) my_X10_check iv_X10_check ml_X10_329 cm_id ⟨by decide, rfl, rfl⟩ rfl rfl rfl rfl (by decide) (Nat.le_of_ble_eq_true rfl) (dat dkX10_checkPuddle 12 rfl) ?_
    rintro _ _ ⟨rfl, rfl⟩
    refine ⟨_, Mrg_mt (by decide) rfl, ?_⟩
    rw [show ckI (1) (1) (1) = 0 from rfl, if_pos rfl]
    refine r_zreturn E (dat dkX10_checkPuddle 13 rfl) rfl (by decide) (by decide) ?_
    exact ⟨L, hPL, Or.inl ⟨k, hk, rfl, rfl, rfl⟩⟩
  ·
    refine ⟨_, Mrg_ar (by decide) hM9, ?_⟩
    refine r_iconst (v := 1) E (dat dkX10_checkPuddle 6 rfl) rfl ?_
    refine r_isub E (dat dkX10_checkPuddle 7 rfl) ?_
    refine r_i2l E (dat dkX10_checkPuddle 8 rfl) ?_
    refine r_callS (μ := []) E (sp_X10_isWithin l G a.toInt64 0 (nI (kN (rp L) x.1.2.2) - 1).toInt64 _) my_X10_isWithin is_X10_isWithin ml_X10_80 cm_nil rfl rfl (by decide) (Nat.le_of_ble_eq_true rfl) (dat dkX10_checkPuddle 9 rfl) ?_
    rintro _ _ ⟨rfl, hM⟩
    refine ⟨_, Mrg_z hM, ?_⟩
    clear hM
    rw [hi0]
    refine r_iconst (v := 1) E (dat dkX10_checkPuddle 10 rfl) rfl ?_
    refine r_iconst (v := 1) E (dat dkX10_checkPuddle 11 rfl) rfl ?_
    refine r_callV (κ := 9) (μ := []) E (sp_X10_check l G (0) (1) (1) _) my_X10_check iv_X10_check ml_X10_329 cm_id ⟨by decide, rfl, rfl⟩ rfl rfl rfl rfl (by decide) (Nat.le_of_ble_eq_true rfl) (dat dkX10_checkPuddle 12 rfl) ?_
    rintro _ _ ⟨rfl, rfl⟩
    refine ⟨_, Mrg_mt (by decide) rfl, ?_⟩
    rw [show ckI (0) (1) (1) = 1 from if_pos rfl, if_neg (by decide)]
    refine r_zreturn E (dat dkX10_checkPuddle 13 rfl) rfl (by decide) (by decide) ?_
    exact ⟨L, hPL, Or.inr ⟨hk, rfl, rfl⟩⟩

set_option maxRecDepth 100000 in
set_option maxHeartbeats 8000000 in
theorem sp_X10_puddleSize (l : Launch) (G : GT) (A0 : Nat → Int32) (x : PP) (T : Nat → Nat → Int32) (M : Mem) (sz wa qu : Nat → Int32) (a : Int32) (hA : M 0 1 = enc A0 x T) (hx : PIv x) (hw0 : ∀ c, c < x.1.2.2 → 0 ≤ T 1 c) : MC l G yX10_puddleSize cX10_puddleSize 2 (some .int) ({ frames := 6, cells := 0, slots := 0, locals := 141 } : Room) [9] lk0 [rv 0 0, iv a] (M) (fun r M2 => (∃ k, k < (pN (nbx x) (T 1) (0, (fun _ => -1), sz, wa, qu) x.1.2.2).1 ∧ a = nI k ∧ (∃ L, M2 = mt (ar 23 M L) 0) ∧ r = some (iv ((pN (nbx x) (T 1) (0, (fun _ => -1), sz, wa, qu) x.1.2.2).2.2.1 k))) ∨ ((¬ ∃ k, k < (pN (nbx x) (T 1) (0, (fun _ => -1), sz, wa, qu) x.1.2.2).1 ∧ a = nI k) ∧ (∃ L, M2 = mt (ar 23 M L) 1) ∧ r = some (iv 0))) := by
  refine MC.of RX10 [some (rv 0 0), some (iv a)] 0 (by decide +kernel) rfl rfl rfl ?_
  intro pp ee ss mm aa bb me cd ad E
  have hn64 := (PIv_z hx).1
  
  refine r_aload_n E (dat dkX10_puddleSize 0 rfl) rfl rfl ?_
  refine r_iload_n E (dat dkX10_puddleSize 1 rfl) rfl rfl ?_
  refine r_callV (κ := 9) (μ := []) E (sp_X10_checkPuddle l G A0 x T _ a hA hx hw0) my_X10_checkPuddle iv_X10_checkPuddle ml_X10_359 cm_id ⟨by decide, rfl, rfl⟩ rfl rfl rfl rfl (by decide) (Nat.le_of_ble_eq_true rfl) (dat dkX10_puddleSize 2 rfl) ?_
  rintro r9 M9 ⟨L, hPL, h9⟩
  have hPR := PR_of (sz := sz) (wa := wa) (qu := qu) hn64 (nbx_lt hx) hPL
  rcases h9 with ⟨k, hk, rfl, rfl, hM9⟩ | ⟨hk, rfl, hM9⟩
  ·
    refine ⟨_, Mrg_mtar (by decide) hM9, ?_⟩
    refine r_if_eq (tgt := 17) E (dat dkX10_puddleSize 3 rfl) rfl (fun h5 => ?_) (fun h5 => ?_)
    ·
      exact absurd h5 (by decide)
    ·
      refine r_aload_n E (dat dkX10_puddleSize 4 rfl) rfl rfl ?_
      refine r_iload_n E (dat dkX10_puddleSize 5 rfl) rfl rfl ?_
      refine r_iconst (v := 0) E (dat dkX10_puddleSize 6 rfl) rfl ?_
      refine r_callV (κ := 9) (μ := []) E (sp_X10_sumOfPuddle l G A0 x T L k 0 _ hA hx rfl hk (Or.inl rfl)) my_X10_sumOfPuddle iv_X10_sumOfPuddle ml_X10_362 cm_id ⟨by decide, rfl, rfl⟩ rfl rfl rfl rfl (by decide) (Nat.le_of_ble_eq_true rfl) (dat dkX10_puddleSize 7 rfl) ?_
      rintro _ M8 ⟨⟨m, hm, hr, hkm, rfl⟩, hM8⟩
      refine ⟨_, Mrg_z hM8, ?_⟩
      refine r_goto (tgt := 18) E (dat dkX10_puddleSize 8 rfl) rfl ?_
      refine r_ireturn E (dat dkX10_puddleSize 10 rfl) (by decide) (by decide) ?_
      exact Or.inl ⟨k, by rw [hPR.1]; exact hk, rfl, ⟨L, rfl⟩, by rw [if_pos rfl, ← (hPR.2.2 m hm hr).1, hkm]⟩
  ·
    refine ⟨_, Mrg_mtar (by decide) hM9, ?_⟩
    refine r_if_eq (tgt := 17) E (dat dkX10_puddleSize 3 rfl) rfl (fun h5 => ?_) (fun h5 => ?_)
    ·
      refine r_iconst (v := 0) E (dat dkX10_puddleSize 9 rfl) rfl ?_
      refine r_ireturn E (dat dkX10_puddleSize 10 rfl) (by decide) (by decide) ?_
      exact Or.inr ⟨by rw [hPR.1]; exact hk, ⟨L, rfl⟩, rfl⟩
    ·
      exact absurd rfl h5

set_option maxRecDepth 100000 in
set_option maxHeartbeats 8000000 in
theorem sp_X10_puddleWater (l : Launch) (G : GT) (A0 : Nat → Int32) (x : PP) (T : Nat → Nat → Int32) (M : Mem) (sz wa qu : Nat → Int32) (a : Int32) (hA : M 0 1 = enc A0 x T) (hx : PIv x) (hw0 : ∀ c, c < x.1.2.2 → 0 ≤ T 1 c) : MC l G yX10_puddleWater cX10_puddleWater 2 (some .int) ({ frames := 6, cells := 0, slots := 0, locals := 141 } : Room) [9] lk0 [rv 0 0, iv a] (M) (fun r M2 => (∃ k, k < (pN (nbx x) (T 1) (0, (fun _ => -1), sz, wa, qu) x.1.2.2).1 ∧ a = nI k ∧ (∃ L, M2 = mt (ar 23 M L) 0) ∧ r = some (iv ((pN (nbx x) (T 1) (0, (fun _ => -1), sz, wa, qu) x.1.2.2).2.2.2.1 k))) ∨ ((¬ ∃ k, k < (pN (nbx x) (T 1) (0, (fun _ => -1), sz, wa, qu) x.1.2.2).1 ∧ a = nI k) ∧ (∃ L, M2 = mt (ar 23 M L) 1) ∧ r = some (iv 0))) := by
  refine MC.of RX10 [some (rv 0 0), some (iv a)] 0 (by decide +kernel) rfl rfl rfl ?_
  intro pp ee ss mm aa bb me cd ad E
  have hn64 := (PIv_z hx).1
  
  refine r_aload_n E (dat dkX10_puddleWater 0 rfl) rfl rfl ?_
  refine r_iload_n E (dat dkX10_puddleWater 1 rfl) rfl rfl ?_
  refine r_callV (κ := 9) (μ := []) E (sp_X10_checkPuddle l G A0 x T _ a hA hx hw0) my_X10_checkPuddle iv_X10_checkPuddle ml_X10_359 cm_id ⟨by decide, rfl, rfl⟩ rfl rfl rfl rfl (by decide) (Nat.le_of_ble_eq_true rfl) (dat dkX10_puddleWater 2 rfl) ?_
  rintro r9 M9 ⟨L, hPL, h9⟩
  have hPR := PR_of (sz := sz) (wa := wa) (qu := qu) hn64 (nbx_lt hx) hPL
  rcases h9 with ⟨k, hk, rfl, rfl, hM9⟩ | ⟨hk, rfl, hM9⟩
  ·
    refine ⟨_, Mrg_mtar (by decide) hM9, ?_⟩
    refine r_if_eq (tgt := 17) E (dat dkX10_puddleWater 3 rfl) rfl (fun h5 => ?_) (fun h5 => ?_)
    ·
      exact absurd h5 (by decide)
    ·
      refine r_aload_n E (dat dkX10_puddleWater 4 rfl) rfl rfl ?_
      refine r_iload_n E (dat dkX10_puddleWater 5 rfl) rfl rfl ?_
      refine r_iconst (v := 1) E (dat dkX10_puddleWater 6 rfl) rfl ?_
      refine r_callV (κ := 9) (μ := []) E (sp_X10_sumOfPuddle l G A0 x T L k 1 _ hA hx rfl hk (Or.inr rfl)) my_X10_sumOfPuddle iv_X10_sumOfPuddle ml_X10_362 cm_id ⟨by decide, rfl, rfl⟩ rfl rfl rfl rfl (by decide) (Nat.le_of_ble_eq_true rfl) (dat dkX10_puddleWater 7 rfl) ?_
      rintro _ M8 ⟨⟨m, hm, hr, hkm, rfl⟩, hM8⟩
      refine ⟨_, Mrg_z hM8, ?_⟩
      refine r_goto (tgt := 18) E (dat dkX10_puddleWater 8 rfl) rfl ?_
      refine r_ireturn E (dat dkX10_puddleWater 10 rfl) (by decide) (by decide) ?_
      exact Or.inl ⟨k, by rw [hPR.1]; exact hk, rfl, ⟨L, rfl⟩, by rw [if_neg (show ¬ (1 : Int32) = 0 by decide), ← (hPR.2.2 m hm hr).2, hkm]⟩
  ·
    refine ⟨_, Mrg_mtar (by decide) hM9, ?_⟩
    refine r_if_eq (tgt := 17) E (dat dkX10_puddleWater 3 rfl) rfl (fun h5 => ?_) (fun h5 => ?_)
    ·
      refine r_iconst (v := 0) E (dat dkX10_puddleWater 9 rfl) rfl ?_
      refine r_ireturn E (dat dkX10_puddleWater 10 rfl) (by decide) (by decide) ?_
      exact Or.inr ⟨by rw [hPR.1]; exact hk, ⟨L, rfl⟩, rfl⟩
    ·
      exact absurd rfl h5

set_option maxRecDepth 100000 in
set_option maxHeartbeats 8000000 in
theorem sp_X10_arePuddlesKept (l : Launch) (G : GT) (A0 : Nat → Int32) (x : PP) (T : Nat → Nat → Int32) (M : Mem) (sz wa qu : Nat → Int32) (hA : M 0 1 = enc A0 x T) (hx : PIv x) (hw0 : ∀ c, c < x.1.2.2 → 0 ≤ T 1 c) : MC l G yX10_arePuddlesKept cX10_arePuddlesKept 4 (some .boolean) ({ frames := 5, cells := 0, slots := 0, locals := 120 } : Room) [9] lk0 [rv 0 0] (M) (fun r M2 => (∃ L, M2 = ar 23 M L) ∧ r = some (iv (if sm (pN (nbx x) (T 1) (0, (fun _ => -1), sz, wa, qu) x.1.2.2).2.2.2.1 (pN (nbx x) (T 1) (0, (fun _ => -1), sz, wa, qu) x.1.2.2).1 = sm (T 1) x.1.2.2 then 1 else 0))) := by
  refine MC.of RX10 [some (rv 0 0), none, none, none] 3 (by decide +kernel) rfl rfl rfl ?_
  intro pp ee ss mm aa bb me cd ad E
  have hn64 := (PIv_z hx).1
  
  refine r_iconst (v := 0) E (dat dkX10_arePuddlesKept 0 rfl) rfl ?_
  refine r_istore_1 E (dat dkX10_arePuddlesKept 1 rfl) rfl rfl ?_
  refine r_aload_n E (dat dkX10_arePuddlesKept 2 rfl) rfl rfl ?_
  refine r_callV (κ := 9) (μ := []) E (sp_X10_countPuddles l G A0 x T _ hA hx hw0) my_X10_countPuddles iv_X10_countPuddles ml_X10_353 cm_id ⟨by decide, rfl, rfl⟩ rfl rfl rfl rfl (by decide) (Nat.le_of_ble_eq_true rfl) (dat dkX10_arePuddlesKept 3 rfl) ?_
  rintro _ M9 ⟨L, hPL, hM9, rfl⟩
  have hPR := PR_of (sz := sz) (wa := wa) (qu := qu) hn64 (nbx_lt hx) hPL
  have hk64 := kN64 (L := L) hn64
  refine ⟨_, Mrg_ar (by decide) hM9, ?_⟩
  refine r_istore_2 E (dat dkX10_arePuddlesKept 4 rfl) rfl rfl ?_
  refine r_iconst (v := 0) E (dat dkX10_arePuddlesKept 5 rfl) rfl ?_
  refine r_istore_3 E (dat dkX10_arePuddlesKept 6 rfl) rfl rfl ?_
  refine r_for ((kN (rp L) x.1.2.2)) (fun _ => True) (fun i => ar 23 M L) (fun i => [some (rv 0 0), some (iv (sm (pN (nbx x) (T 1) (0, (fun _ => -1), sz, wa, qu) x.1.2.2).2.2.2.1 i)), some (iv (nI (kN (rp L) x.1.2.2))), some (iv (nI i))]) trivial rfl rfl ?_ ?_
  · intro i hi hI kk
    refine r_iload_n E (dat dkX10_arePuddlesKept 7 rfl) rfl rfl ?_
    refine r_iload_n E (dat dkX10_arePuddlesKept 8 rfl) rfl rfl ?_
    refine q_icmp_ge (tgt := 29) E (dat dkX10_arePuddlesKept 9 rfl) rfl rfl rfl (by omega) (by omega) (fun h11 => ?_) (fun h11 => ?_)
    ·
      omega
    ·
      refine r_iload_n E (dat dkX10_arePuddlesKept 10 rfl) rfl rfl ?_
      refine r_aload_n E (dat dkX10_arePuddlesKept 11 rfl) rfl rfl ?_
      refine r_iload_n E (dat dkX10_arePuddlesKept 12 rfl) rfl rfl ?_
      refine r_iconst (v := 1) E (dat dkX10_arePuddlesKept 13 rfl) rfl ?_
      refine r_callV (κ := 9) (μ := []) E (sp_X10_sumOfPuddle l G A0 x T L i 1 _ hA hx rfl hi (Or.inr rfl)) my_X10_sumOfPuddle iv_X10_sumOfPuddle ml_X10_362 cm_id ⟨by decide, rfl, rfl⟩ rfl rfl rfl rfl (by decide) (Nat.le_of_ble_eq_true rfl) (dat dkX10_arePuddlesKept 14 rfl) ?_
      rintro _ M8 ⟨⟨m, hm, hr, hkm, rfl⟩, hM8⟩
      refine ⟨_, Mrg_z hM8, ?_⟩
      rw [if_neg (show ¬ (1 : Int32) = 0 by decide), ← (hPR.2.2 m hm hr).2, hkm]
      refine r_iadd E (dat dkX10_arePuddlesKept 15 rfl) ?_
      refine r_istore_1 E (dat dkX10_arePuddlesKept 16 rfl) rfl rfl ?_
      refine q_iinc_3 E (dat dkX10_arePuddlesKept 17 rfl) rfl rfl ?_
      refine r_goto (tgt := 9) E (dat dkX10_arePuddlesKept 18 rfl) rfl ?_
      exact kk trivial
  · intro hI
    refine r_iload_n E (dat dkX10_arePuddlesKept 7 rfl) rfl rfl ?_
    refine r_iload_n E (dat dkX10_arePuddlesKept 8 rfl) rfl rfl ?_
    refine q_icmp_ge (tgt := 29) E (dat dkX10_arePuddlesKept 9 rfl) rfl rfl rfl (by omega) (by omega) (fun h11 => ?_) (fun h11 => ?_)
    ·
      refine r_iload_n E (dat dkX10_arePuddlesKept 19 rfl) rfl rfl ?_
      refine r_aload_n E (dat dkX10_arePuddlesKept 20 rfl) rfl rfl ?_
      refine r_callV (κ := 9) (μ := []) E (sp_X10_allWater l G A0 x T _ hA hx) my_X10_allWater iv_X10_allWater ml_X10_366 cm_id ⟨by decide, rfl, rfl⟩ rfl rfl rfl rfl (by decide) (Nat.le_of_ble_eq_true rfl) (dat dkX10_arePuddlesKept 21 rfl) ?_
      rintro _ _ ⟨rfl, rfl⟩
      refine ⟨_, Mrg_z rfl, ?_⟩
      refine r_icmp_ne (tgt := 41) E (dat dkX10_arePuddlesKept 22 rfl) rfl (fun h34 => ?_) (fun h34 => ?_)
      ·
        refine r_iconst (v := 0) E (dat dkX10_arePuddlesKept 25 rfl) rfl ?_
        refine r_zreturn E (dat dkX10_arePuddlesKept 26 rfl) rfl (by decide) (by decide) ?_
        refine ⟨⟨L, rfl⟩, ?_⟩
        rw [hPR.1]
        first
          | (rw [if_neg h34]; done)
          | (rw [if_pos (by first | exact h34 | exact Decidable.not_not.mp h34)]; done)
      ·
        refine r_iconst (v := 1) E (dat dkX10_arePuddlesKept 23 rfl) rfl ?_
        refine r_goto (tgt := 42) E (dat dkX10_arePuddlesKept 24 rfl) rfl ?_
        refine r_zreturn E (dat dkX10_arePuddlesKept 26 rfl) rfl (by decide) (by decide) ?_
        refine ⟨⟨L, rfl⟩, ?_⟩
        rw [hPR.1]
        first
          | (rw [if_neg h34]; done)
          | (rw [if_pos (by first | exact h34 | exact Decidable.not_not.mp h34)]; done)
    ·
      omega

set_option maxRecDepth 100000 in
set_option maxHeartbeats 8000000 in
theorem sp_X10_isConsistent (l : Launch) (G : GT) (A0 : Nat → Int32) (x : PP) (T : Nat → Nat → Int32) (M : Mem) (sz wa qu : Nat → Int32) (B : Int) (hA : M 0 1 = enc A0 x T) (hx : PIv x) (hs : SI x T B) (hpl : PLi x T) : MC l G yX10_isConsistent cX10_isConsistent 1 (some .boolean) ({ frames := 6, cells := 0, slots := 0, locals := 143 } : Room) [9] lk0 [rv 0 0] (M) (fun r M2 => (∃ L, M2 = ar 23 (mt M 0) L) ∧ r = some (iv (if (T 0 9 + T 0 10 = sm (T 1) x.1.2.2 + T 0 11 + T 0 12) then (if (sm (pN (nbx x) (T 1) (0, (fun _ => -1), sz, wa, qu) x.1.2.2).2.2.2.1 (pN (nbx x) (T 1) (0, (fun _ => -1), sz, wa, qu) x.1.2.2).1 = sm (T 1) x.1.2.2) then (if (sm (T 2) x.1.2.2 + T 0 14 = T 0 13) then 1 else 0) else 0) else 0))) := by
  refine MC.of RX10 [some (rv 0 0)] 0 (by decide +kernel) rfl rfl rfl ?_
  intro pp ee ss mm aa bb me cd ad E
  have hn64 := (PIv_z hx).1
  have hw0 : ∀ c, c < x.1.2.2 → 0 ≤ T 1 c := fun c hc => i_le.mpr (hs.2.2.2.2.1 c hc)
  
  refine r_aload_n E (dat dkX10_isConsistent 0 rfl) rfl rfl ?_
  refine r_iconst (v := 0) E (dat dkX10_isConsistent 1 rfl) rfl ?_
  refine q_putn E ft_X10_67 (dat dkX10_isConsistent 2 rfl) rfl rfl rfl rfl ?_
  refine r_aload_n E (dat dkX10_isConsistent 3 rfl) rfl rfl ?_
  refine r_callV (κ := 9) (μ := []) E (sp_X10_isWaterKept l G A0 x T _ hA hx) my_X10_isWaterKept iv_X10_isWaterKept ml_X10_383 cm_id ⟨by decide, rfl, rfl⟩ rfl rfl rfl rfl (by decide) (Nat.le_of_ble_eq_true rfl) (dat dkX10_isConsistent 4 rfl) ?_
  rintro _ _ ⟨rfl, rfl⟩
  refine ⟨_, Mrg_z rfl, ?_⟩
  refine r_if_eq (tgt := 37) E (dat dkX10_isConsistent 5 rfl) rfl (fun h9 => ?_) (fun h9 => ?_)
  ·
    refine r_iconst (v := 0) E (dat dkX10_isConsistent 17 rfl) rfl ?_
    refine r_zreturn E (dat dkX10_isConsistent 18 rfl) rfl (by decide) (by decide) ?_
    refine ⟨?_, ?_⟩
    · first
        | exact ⟨L, rfl⟩
        | exact ⟨M 0 23, (ar_of rfl).symm⟩
    · first
        | (rw [if_neg (ite_e (by first | exact h9 | exact Decidable.not_not.mp h9))]; done)
        | (rw [if_pos (ite_n h9), if_neg (ite_e (by first | exact h16 | exact Decidable.not_not.mp h16))]; done)
        | (rw [if_pos (ite_n h9), if_pos (ite_n h16), if_neg (ite_e (by first | exact h23 | exact Decidable.not_not.mp h23))]; done)
        | (rw [if_pos (ite_n h9), if_pos (ite_n h16), if_pos (ite_n h23)]; done)
  ·
    refine r_aload_n E (dat dkX10_isConsistent 6 rfl) rfl rfl ?_
    refine r_callV (κ := 9) (μ := []) E (sp_X10_arePuddlesKept l G A0 x T _ sz wa qu hA hx hw0) my_X10_arePuddlesKept iv_X10_arePuddlesKept ml_X10_387 cm_id ⟨by decide, rfl, rfl⟩ rfl rfl rfl rfl (by decide) (Nat.le_of_ble_eq_true rfl) (dat dkX10_isConsistent 7 rfl) ?_
    rintro _ M9 ⟨⟨L, hM9⟩, rfl⟩
    refine ⟨_, Mrg_ar (by decide) hM9, ?_⟩
    refine r_if_eq (tgt := 37) E (dat dkX10_isConsistent 8 rfl) rfl (fun h16 => ?_) (fun h16 => ?_)
    ·
      refine r_iconst (v := 0) E (dat dkX10_isConsistent 17 rfl) rfl ?_
      refine r_zreturn E (dat dkX10_isConsistent 18 rfl) rfl (by decide) (by decide) ?_
      refine ⟨?_, ?_⟩
      · first
          | exact ⟨L, rfl⟩
          | exact ⟨M 0 23, (ar_of rfl).symm⟩
      · first
          | (rw [if_neg (ite_e (by first | exact h9 | exact Decidable.not_not.mp h9))]; done)
          | (rw [if_pos (ite_n h9), if_neg (ite_e (by first | exact h16 | exact Decidable.not_not.mp h16))]; done)
          | (rw [if_pos (ite_n h9), if_pos (ite_n h16), if_neg (ite_e (by first | exact h23 | exact Decidable.not_not.mp h23))]; done)
          | (rw [if_pos (ite_n h9), if_pos (ite_n h16), if_pos (ite_n h23)]; done)
    ·
      refine r_aload_n E (dat dkX10_isConsistent 9 rfl) rfl rfl ?_
      refine r_callV (κ := 9) (μ := []) E (sp_X10_areCellsConsistent l G A0 x T B _ hA hx hs) my_X10_areCellsConsistent iv_X10_areCellsConsistent ml_X10_390 cm_id ⟨by decide, rfl, rfl⟩ rfl rfl rfl rfl (by decide) (Nat.le_of_ble_eq_true rfl) (dat dkX10_isConsistent 10 rfl) ?_
      rintro _ _ ⟨rfl, rfl⟩
      refine ⟨_, Mrg_z rfl, ?_⟩
      refine r_if_eq (tgt := 37) E (dat dkX10_isConsistent 11 rfl) rfl (fun h23 => ?_) (fun h23 => ?_)
      ·
        refine r_iconst (v := 0) E (dat dkX10_isConsistent 17 rfl) rfl ?_
        refine r_zreturn E (dat dkX10_isConsistent 18 rfl) rfl (by decide) (by decide) ?_
        refine ⟨?_, ?_⟩
        · first
            | exact ⟨L, rfl⟩
            | exact ⟨M 0 23, (ar_of rfl).symm⟩
        · first
            | (rw [if_neg (ite_e (by first | exact h9 | exact Decidable.not_not.mp h9))]; done)
            | (rw [if_pos (ite_n h9), if_neg (ite_e (by first | exact h16 | exact Decidable.not_not.mp h16))]; done)
            | (rw [if_pos (ite_n h9), if_pos (ite_n h16), if_neg (ite_e (by first | exact h23 | exact Decidable.not_not.mp h23))]; done)
            | (rw [if_pos (ite_n h9), if_pos (ite_n h16), if_pos (ite_n h23)]; done)
      ·
        refine r_aload_n E (dat dkX10_isConsistent 12 rfl) rfl rfl ?_
        refine r_callV (κ := 9) (μ := []) E (sp_X10_areBootsConsistent l G A0 x T _ hA hx hpl) my_X10_areBootsConsistent iv_X10_areBootsConsistent ml_X10_393 cm_id ⟨by decide, rfl, rfl⟩ rfl rfl rfl rfl (by decide) (Nat.le_of_ble_eq_true rfl) (dat dkX10_isConsistent 13 rfl) ?_
        rintro _ _ ⟨rfl, rfl⟩
        refine ⟨_, Mrg_z rfl, ?_⟩
        refine r_if_eq (tgt := 37) E (dat dkX10_isConsistent 14 rfl) rfl (fun h30 => ?_) (fun h30 => ?_)
        ·
          exact absurd h30 (by decide)
        ·
          refine r_iconst (v := 1) E (dat dkX10_isConsistent 15 rfl) rfl ?_
          refine r_goto (tgt := 38) E (dat dkX10_isConsistent 16 rfl) rfl ?_
          refine r_zreturn E (dat dkX10_isConsistent 18 rfl) rfl (by decide) (by decide) ?_
          refine ⟨?_, ?_⟩
          · first
              | exact ⟨L, rfl⟩
              | exact ⟨M 0 23, (ar_of rfl).symm⟩
          · first
              | (rw [if_neg (ite_e (by first | exact h9 | exact Decidable.not_not.mp h9))]; done)
              | (rw [if_pos (ite_n h9), if_neg (ite_e (by first | exact h16 | exact Decidable.not_not.mp h16))]; done)
              | (rw [if_pos (ite_n h9), if_pos (ite_n h16), if_neg (ite_e (by first | exact h23 | exact Decidable.not_not.mp h23))]; done)
              | (rw [if_pos (ite_n h9), if_pos (ite_n h16), if_pos (ite_n h23)]; done)

set_option maxRecDepth 100000 in
set_option maxHeartbeats 16000000 in
theorem sp_X10_dryWay (l : Launch) (G : GT) (A0 : Nat → Int32) (x : PP) (T : Nat → Nat → Int32) (M : Mem) (qu : Nat → Int32) (a d : Int32) (hA : M 0 1 = enc A0 x T) (hx : PIv x) (hpl : PLi x T) : MC l G yX10_dryWay cX10_dryWay 6 (some .int) ({ frames := 3, cells := 0, slots := 0, locals := 78 } : Room) [9] lk0 [rv 0 0, iv a, iv d] (M) (fun r M2 => (∃ b, b < x.2.2.2.2.1 ∧ a = nI b ∧ ∃ c, c < x.1.2.2 ∧ d = nI c ∧ ∃ f, f < x.1.2.2 ∧ T 5 b = nI f ∧ (∃ S, M2 = ar 24 (mt M 0) S) ∧ r = some (iv ((wF (nbx x) (T 1) (x.2.2.2.2.2.2.2.1 b) 64 0 ((upd (fun _ => -1) f 0, upd qu 0 (nI f), 1) : BT)).1 c))) ∨ (¬ (okb4 x a ∧ okc x d) ∧ M2 = mt M 1 ∧ r = some (iv 0))) := by
  refine MC.of RX10 [some (rv 0 0), some (iv a), some (iv d), none, none, none] 3 (by decide +kernel) rfl rfl rfl ?_
  intro pp ee ss mm aa bb me cd ad E
  have hn64 := (PIv_z hx).1
  have hb4 := hx.2.2.2.2.1
  
  rcases tri (okb4 x a) (okc x d) with ⟨hko, hr⟩ | hko | ⟨hko, hr⟩
  ·
    obtain ⟨b, hb, rfl⟩ := hko
    obtain ⟨c, hc, rfl⟩ := hr
    obtain ⟨f, hf, hfe⟩ := hpl b hb
    obtain ⟨SE, hSE⟩ : ∃ SE, (wF (nbx x) (T 1) (x.2.2.2.2.2.2.2.1 b) 64 0 ((upd (fun _ => -1) f 0, upd qu 0 (nI f), 1) : BT)).1 = SE := ⟨_, rfl⟩
    have hZ : wZ (nbx x) (T 1) (x.2.2.2.2.2.2.2.1 b) x.1.2.2 f SE := by
      rw [← hSE]
      exact wZ_of hn64 (nbx_lt hx) hf
    obtain ⟨ls, hls⟩ : ∃ ls, M 0 24 = ls := ⟨_, rfl⟩
    refine r_aload_n E (dat dkX10_dryWay 0 rfl) rfl rfl ?_
    refine r_aload_n E (dat dkX10_dryWay 1 rfl) rfl rfl ?_
    refine r_iload_n E (dat dkX10_dryWay 2 rfl) rfl rfl ?_
    refine r_callV (κ := 9) (μ := []) E (sp_X10_isBoots l G A0 x T (nI b) _ hA hx) my_X10_isBoots iv_X10_isBoots ml_X10_369 cm_id ⟨by decide, rfl, rfl⟩ rfl rfl rfl rfl (by decide) (Nat.le_of_ble_eq_true rfl) (dat dkX10_dryWay 3 rfl) ?_
    rintro _ _ ⟨rfl, rfl⟩
    refine ⟨_, Mrg_z rfl, ?_⟩
    rw [ib_1 hx ⟨b, hb, rfl⟩]
    refine r_if_eq (tgt := 21) E (dat dkX10_dryWay 4 rfl) rfl (fun h6 => ?_) (fun h6 => ?_)
    ·
      exact absurd h6 (by decide)
    ·
      refine r_aload_n E (dat dkX10_dryWay 5 rfl) rfl rfl ?_
      refine r_iload_n E (dat dkX10_dryWay 6 rfl) rfl rfl ?_
      refine r_callV (κ := 9) (μ := []) E (sp_X10_isCell l G A0 x T (nI c) _ hA hx) my_X10_isCell iv_X10_isCell ml_X10_326 cm_id ⟨by decide, rfl, rfl⟩ rfl rfl rfl rfl (by decide) (Nat.le_of_ble_eq_true rfl) (dat dkX10_dryWay 7 rfl) ?_
      rintro _ _ ⟨rfl, rfl⟩
      refine ⟨_, Mrg_z rfl, ?_⟩
      rw [ic_1 hx ⟨c, hc, rfl⟩]
      refine r_if_eq (tgt := 21) E (dat dkX10_dryWay 8 rfl) rfl (fun h14 => ?_) (fun h14 => ?_)
      ·
        exact absurd h14 (by decide)
      ·
        refine r_iconst (v := 1) E (dat dkX10_dryWay 9 rfl) rfl ?_
        refine r_goto (tgt := 22) E (dat dkX10_dryWay 10 rfl) rfl ?_
        refine r_iconst (v := 1) E (dat dkX10_dryWay 12 rfl) rfl ?_
        refine r_iconst (v := 1) E (dat dkX10_dryWay 13 rfl) rfl ?_
        refine r_callV (κ := 9) (μ := []) E (sp_X10_check l G (1) (1) (1) _) my_X10_check iv_X10_check ml_X10_329 cm_id ⟨by decide, rfl, rfl⟩ rfl rfl rfl rfl (by decide) (Nat.le_of_ble_eq_true rfl) (dat dkX10_dryWay 14 rfl) ?_
        rintro _ _ ⟨rfl, rfl⟩
        refine ⟨_, Mrg_mt (by decide) rfl, ?_⟩
        rw [show ckI (1) (1) (1) = 0 from rfl, if_pos rfl]
        refine r_if_ne (tgt := 32) E (dat dkX10_dryWay 15 rfl) rfl (fun h27 => ?_) (fun h27 => ?_)
        ·
          refine r_iconst (v := 0) E (dat dkX10_dryWay 18 rfl) rfl ?_
          refine r_istore_3 E (dat dkX10_dryWay 19 rfl) rfl rfl ?_
          refine r_for (x.1.2.2) (fun _ => True) (fun i => ar 24 (mt M 0) (fil (gW f) ls i)) (fun i => [some (rv 0 0), some (iv (nI b)), some (iv (nI c)), some (iv (nI i)), none, none]) trivial (by rw [fil_0]; exact ar_of hls) rfl ?_ ?_
          · intro i hi hI kk
            refine r_iload_n E (dat dkX10_dryWay 20 rfl) rfl rfl ?_
            refine r_aload_n E (dat dkX10_dryWay 21 rfl) rfl rfl ?_
            refine r_callV (κ := 9) (μ := []) E (sp_X10_cells l G _ (enc A0 x T) hA) my_X10_cells iv_X10_cells ml_X10_115 cm_id ⟨by decide, rfl, rfl⟩ rfl rfl rfl rfl (by decide) (Nat.le_of_ble_eq_true rfl) (dat dkX10_dryWay 22 rfl) ?_
            rintro _ _ ⟨rfl, rfl⟩
            refine ⟨_, Mrg_z rfl, ?_⟩
            rw [ce_x hx]
            refine q_icmp_ge (tgt := 75) E (dat dkX10_dryWay 23 rfl) rfl rfl rfl (by omega) (by omega) (fun h39 => ?_) (fun h39 => ?_)
            ·
              omega
            ·
              refine r_aload_n E (dat dkX10_dryWay 24 rfl) rfl rfl ?_
              refine q_geta E fl_X10_42 (dat dkX10_dryWay 25 rfl) rfl rfl rfl ?_
              refine r_iload_n E (dat dkX10_dryWay 26 rfl) rfl rfl ?_
              refine r_iload_n E (dat dkX10_dryWay 27 rfl) rfl rfl ?_
              refine r_aload_n E (dat dkX10_dryWay 28 rfl) rfl rfl ?_
              refine q_geta E fl_X10_9 (dat dkX10_dryWay 29 rfl) rfl rfl rfl ?_
              refine r_iload_n E (dat dkX10_dryWay 30 rfl) rfl rfl ?_
              refine r_callS (μ := []) E (sp_X10_p l G b _) my_X10_p is_X10_p ml_X10_73 cm_nil rfl rfl (by decide) (Nat.le_of_ble_eq_true rfl) (dat dkX10_dryWay 31 rfl) ?_
              rintro _ _ ⟨rfl, hM⟩
              refine ⟨_, Mrg_z hM, ?_⟩
              clear hM
              refine r_bipush (v := 7) E (dat dkX10_dryWay 32 rfl) rfl ?_
              refine r_iadd E (dat dkX10_dryWay 33 rfl) ?_
              refine q_iald E (dat dkX10_dryWay 34 rfl) rfl rfl (by decide) (show (_ : Nat → Int32) = enc A0 x T from hA) (nI_add (399 + 11 * b) 7) (by omega) ?_
              rw [e_pl hb, hfe]
              refine q_icmp_ne (tgt := 67) E (dat dkX10_dryWay 35 rfl) rfl rfl rfl (by omega) (by omega) (fun h60 => ?_) (fun h60 => ?_)
              ·
                refine r_iconst (v := -1) E (dat dkX10_dryWay 38 rfl) rfl ?_
                refine q_iast E (dat dkX10_dryWay 39 rfl) rfl rfl (by decide) rfl (fun _ => ar_s) rfl (by omega) ?_
                refine q_iinc_3 E (dat dkX10_dryWay 40 rfl) rfl rfl ?_
                refine r_goto (tgt := 34) E (dat dkX10_dryWay 41 rfl) rfl ?_
                first
                  | (rw [← fil_upd (f := ls) (g := gW f) (i := i) (v := 0) (by unfold gW; rw [if_pos (by omega)])] at kk; exact kk trivial)
                  | (rw [← fil_upd (f := ls) (g := gW f) (i := i) (v := -1) (by unfold gW; rw [if_neg (by omega)])] at kk; exact kk trivial)
              ·
                refine r_iconst (v := 0) E (dat dkX10_dryWay 36 rfl) rfl ?_
                refine r_goto (tgt := 68) E (dat dkX10_dryWay 37 rfl) rfl ?_
                refine q_iast E (dat dkX10_dryWay 39 rfl) rfl rfl (by decide) rfl (fun _ => ar_s) rfl (by omega) ?_
                refine q_iinc_3 E (dat dkX10_dryWay 40 rfl) rfl rfl ?_
                refine r_goto (tgt := 34) E (dat dkX10_dryWay 41 rfl) rfl ?_
                first
                  | (rw [← fil_upd (f := ls) (g := gW f) (i := i) (v := 0) (by unfold gW; rw [if_pos (by omega)])] at kk; exact kk trivial)
                  | (rw [← fil_upd (f := ls) (g := gW f) (i := i) (v := -1) (by unfold gW; rw [if_neg (by omega)])] at kk; exact kk trivial)
          · intro hI
            refine r_iload_n E (dat dkX10_dryWay 20 rfl) rfl rfl ?_
            refine r_aload_n E (dat dkX10_dryWay 21 rfl) rfl rfl ?_
            refine r_callV (κ := 9) (μ := []) E (sp_X10_cells l G _ (enc A0 x T) hA) my_X10_cells iv_X10_cells ml_X10_115 cm_id ⟨by decide, rfl, rfl⟩ rfl rfl rfl rfl (by decide) (Nat.le_of_ble_eq_true rfl) (dat dkX10_dryWay 22 rfl) ?_
            rintro _ _ ⟨rfl, rfl⟩
            refine ⟨_, Mrg_z rfl, ?_⟩
            rw [ce_x hx]
            refine q_icmp_ge (tgt := 75) E (dat dkX10_dryWay 23 rfl) rfl rfl rfl (by omega) (by omega) (fun h39 => ?_) (fun h39 => ?_)
            ·
              refine r_iconst (v := 1) E (dat dkX10_dryWay 42 rfl) rfl ?_
              refine r_istore_3 E (dat dkX10_dryWay 43 rfl) rfl rfl ?_
              refine r_iconst (v := 0) E (dat dkX10_dryWay 44 rfl) rfl ?_
              refine r_istore_4 E (dat dkX10_dryWay 45 rfl) rfl rfl ?_
              refine r_while (β := LC × Nat) (fun y => 64 - y.2) (fun y => y.2 ≤ 64 ∧ (∀ k, k < x.1.2.2 → y.1.1 k = lay SE y.2 k) ∧ (y.1.2 = 0 → ∀ k, k < x.1.2.2 → y.1.1 k = SE k) ∧ (¬ y.1.2 = 0 → y.2 < 64)) (fun y => ar 24 (mt M 0) y.1.1) (fun y => [some (rv 0 0), some (iv (nI b)), some (iv (nI c)), some (iv y.1.2), some (iv (nI y.2)), none]) (((fil (gW f) ls x.1.2.2, 1), 0)) ⟨Nat.zero_le _, gW_lay hZ, fun h => absurd (show (1 : Int32) = 0 from h) (by decide), fun _ => (by show 0 < 64; decide)⟩ rfl rfl ?_
              intro y hI kk0
              refine r_iload_n E (dat dkX10_dryWay 46 rfl) rfl rfl ?_
              refine r_if_eq (tgt := 155) E (dat dkX10_dryWay 47 rfl) rfl (fun h81 => ?_) (fun h81 => ?_)
              ·
                refine r_aload_n E (dat dkX10_dryWay 85 rfl) rfl rfl ?_
                refine q_geta E fl_X10_42 (dat dkX10_dryWay 86 rfl) rfl rfl rfl ?_
                refine r_iload_n E (dat dkX10_dryWay 87 rfl) rfl rfl ?_
                refine q_iald E (dat dkX10_dryWay 88 rfl) rfl rfl (by decide) rfl rfl (by omega) ?_
                refine r_ireturn E (dat dkX10_dryWay 89 rfl) (by decide) (by decide) ?_
                refine Or.inl ⟨b, hb, rfl, c, hc, rfl, f, hf, hfe, ⟨y.1.1, rfl⟩, ?_⟩
                rw [hSE]
                show some (iv (y.1.1 c)) = _
                first
                  | (rw [hI.2.2.1 (by first | exact h81 | exact Decidable.not_not.mp h81) c hc]; done)
                  | (rcases lay_or SE y.2 c with q | q
                     · rw [hI.2.1 c hc, q]
                     · exact absurd ((hI.2.1 c hc).trans q) h91)
              ·
                refine r_aload_n E (dat dkX10_dryWay 48 rfl) rfl rfl ?_
                refine q_geta E fl_X10_42 (dat dkX10_dryWay 49 rfl) rfl rfl rfl ?_
                refine r_iload_n E (dat dkX10_dryWay 50 rfl) rfl rfl ?_
                refine q_iald E (dat dkX10_dryWay 51 rfl) rfl rfl (by decide) rfl rfl (by omega) ?_
                refine r_iconst (v := -1) E (dat dkX10_dryWay 52 rfl) rfl ?_
                refine r_icmp_ne (tgt := 155) E (dat dkX10_dryWay 53 rfl) rfl (fun h91 => ?_) (fun h91 => ?_)
                ·
                  refine r_aload_n E (dat dkX10_dryWay 85 rfl) rfl rfl ?_
                  refine q_geta E fl_X10_42 (dat dkX10_dryWay 86 rfl) rfl rfl rfl ?_
                  refine r_iload_n E (dat dkX10_dryWay 87 rfl) rfl rfl ?_
                  refine q_iald E (dat dkX10_dryWay 88 rfl) rfl rfl (by decide) rfl rfl (by omega) ?_
                  refine r_ireturn E (dat dkX10_dryWay 89 rfl) (by decide) (by decide) ?_
                  refine Or.inl ⟨b, hb, rfl, c, hc, rfl, f, hf, hfe, ⟨y.1.1, rfl⟩, ?_⟩
                  rw [hSE]
                  show some (iv (y.1.1 c)) = _
                  first
                    | (rw [hI.2.2.1 (by first | exact h81 | exact Decidable.not_not.mp h81) c hc]; done)
                    | (rcases lay_or SE y.2 c with q | q
                       · rw [hI.2.1 c hc, q]
                       · exact absurd ((hI.2.1 c hc).trans q) h91)
                ·
                  refine r_iconst (v := 0) E (dat dkX10_dryWay 54 rfl) rfl ?_
                  refine r_istore_3 E (dat dkX10_dryWay 55 rfl) rfl rfl ?_
                  refine r_iconst (v := 0) E (dat dkX10_dryWay 56 rfl) rfl ?_
                  refine r_istore_5 E (dat dkX10_dryWay 57 rfl) rfl rfl ?_
                  refine r_for (x.1.2.2) (fun _ => True) (fun i => ar 24 (mt M 0) (lyN (nbx x) (T 1) (x.2.2.2.2.2.2.2.1 b) y.2 y.1.1 i).1) (fun i => [some (rv 0 0), some (iv (nI b)), some (iv (nI c)), some (iv (lyN (nbx x) (T 1) (x.2.2.2.2.2.2.2.1 b) y.2 y.1.1 i).2), some (iv (nI y.2)), some (iv (nI i))]) trivial rfl rfl ?_ ?_
                  · intro i hi hI9 kk
                    have ht64 := hI.2.2.2 h81
                    refine r_iload E (dat dkX10_dryWay 58 rfl) rfl ?_
                    refine r_aload_n E (dat dkX10_dryWay 59 rfl) rfl rfl ?_
                    refine r_callV (κ := 9) (μ := []) E (sp_X10_cells l G _ (enc A0 x T) hA) my_X10_cells iv_X10_cells ml_X10_115 cm_id ⟨by decide, rfl, rfl⟩ rfl rfl rfl rfl (by decide) (Nat.le_of_ble_eq_true rfl) (dat dkX10_dryWay 60 rfl) ?_
                    rintro _ _ ⟨rfl, rfl⟩
                    refine ⟨_, Mrg_z rfl, ?_⟩
                    rw [ce_x hx]
                    refine q_icmp_ge (tgt := 149) E (dat dkX10_dryWay 61 rfl) rfl rfl rfl (by omega) (by omega) (fun h105 => ?_) (fun h105 => ?_)
                    ·
                      omega
                    ·
                      refine r_aload_n E (dat dkX10_dryWay 62 rfl) rfl rfl ?_
                      refine q_geta E fl_X10_42 (dat dkX10_dryWay 63 rfl) rfl rfl rfl ?_
                      refine r_iload E (dat dkX10_dryWay 64 rfl) rfl ?_
                      refine q_iald E (dat dkX10_dryWay 65 rfl) rfl rfl (by decide) rfl rfl (by omega) ?_
                      refine r_iload E (dat dkX10_dryWay 66 rfl) rfl ?_
                      refine r_icmp_ne (tgt := 143) E (dat dkX10_dryWay 67 rfl) rfl (fun h117 => ?_) (fun h117 => ?_)
                      ·
                        refine q_iinc_5 E (dat dkX10_dryWay 81 rfl) rfl rfl ?_
                        refine r_goto (tgt := 99) E (dat dkX10_dryWay 82 rfl) rfl ?_
                        first
                          | (rw [lyN_0 h117] at kk; exact kk trivial)
                          | (rw [lyN_1 (by first | exact h117 | exact Decidable.not_not.mp h117) (by first | exact h138 | exact Decidable.not_not.mp h138)] at kk; exact kk trivial)
                          | (rw [lyN_2 (by first | exact h117 | exact Decidable.not_not.mp h117) h138] at kk; exact kk trivial)
                      ·
                        refine r_aload_n E (dat dkX10_dryWay 68 rfl) rfl rfl ?_
                        refine r_iload E (dat dkX10_dryWay 69 rfl) rfl ?_
                        refine r_aload_n E (dat dkX10_dryWay 70 rfl) rfl rfl ?_
                        refine q_geta E fl_X10_9 (dat dkX10_dryWay 71 rfl) rfl rfl rfl ?_
                        refine r_iload_n E (dat dkX10_dryWay 72 rfl) rfl rfl ?_
                        refine r_callS (μ := []) E (sp_X10_p l G b _) my_X10_p is_X10_p ml_X10_73 cm_nil rfl rfl (by decide) (Nat.le_of_ble_eq_true rfl) (dat dkX10_dryWay 73 rfl) ?_
                        rintro _ _ ⟨rfl, hM⟩
                        refine ⟨_, Mrg_z hM, ?_⟩
                        clear hM
                        refine r_bipush (v := 8) E (dat dkX10_dryWay 74 rfl) rfl ?_
                        refine r_iadd E (dat dkX10_dryWay 75 rfl) ?_
                        refine q_iald E (dat dkX10_dryWay 76 rfl) rfl rfl (by decide) (show (_ : Nat → Int32) = enc A0 x T from hA) (nI_add (399 + 11 * b) 8) (by omega) ?_
                        rw [e_bh hb]
                        refine r_callV (κ := 9) (μ := []) E (sp_X10_stepsOn l G A0 x T i (x.2.2.2.2.2.2.2.1 b) (lyN (nbx x) (T 1) (x.2.2.2.2.2.2.2.1 b) y.2 y.1.1 i).1 _ hA hx hi rfl) my_X10_stepsOn iv_X10_stepsOn ml_X10_378 cm_id ⟨by decide, rfl, rfl⟩ rfl rfl rfl rfl (by decide) (Nat.le_of_ble_eq_true rfl) (dat dkX10_dryWay 77 rfl) ?_
                        rintro _ _ ⟨rfl, rfl⟩
                        refine ⟨_, Mrg_ar (by decide) rfl, ?_⟩
                        rw [ar_ar]
                        refine r_if_eq (tgt := 143) E (dat dkX10_dryWay 78 rfl) rfl (fun h138 => ?_) (fun h138 => ?_)
                        ·
                          refine q_iinc_5 E (dat dkX10_dryWay 81 rfl) rfl rfl ?_
                          refine r_goto (tgt := 99) E (dat dkX10_dryWay 82 rfl) rfl ?_
                          first
                            | (rw [lyN_0 h117] at kk; exact kk trivial)
                            | (rw [lyN_1 (by first | exact h117 | exact Decidable.not_not.mp h117) (by first | exact h138 | exact Decidable.not_not.mp h138)] at kk; exact kk trivial)
                            | (rw [lyN_2 (by first | exact h117 | exact Decidable.not_not.mp h117) h138] at kk; exact kk trivial)
                        ·
                          refine r_iconst (v := 1) E (dat dkX10_dryWay 79 rfl) rfl ?_
                          refine r_istore_3 E (dat dkX10_dryWay 80 rfl) rfl rfl ?_
                          refine q_iinc_5 E (dat dkX10_dryWay 81 rfl) rfl rfl ?_
                          refine r_goto (tgt := 99) E (dat dkX10_dryWay 82 rfl) rfl ?_
                          first
                            | (rw [lyN_0 h117] at kk; exact kk trivial)
                            | (rw [lyN_1 (by first | exact h117 | exact Decidable.not_not.mp h117) (by first | exact h138 | exact Decidable.not_not.mp h138)] at kk; exact kk trivial)
                            | (rw [lyN_2 (by first | exact h117 | exact Decidable.not_not.mp h117) h138] at kk; exact kk trivial)
                  · intro hI9
                    refine r_iload E (dat dkX10_dryWay 58 rfl) rfl ?_
                    refine r_aload_n E (dat dkX10_dryWay 59 rfl) rfl rfl ?_
                    refine r_callV (κ := 9) (μ := []) E (sp_X10_cells l G _ (enc A0 x T) hA) my_X10_cells iv_X10_cells ml_X10_115 cm_id ⟨by decide, rfl, rfl⟩ rfl rfl rfl rfl (by decide) (Nat.le_of_ble_eq_true rfl) (dat dkX10_dryWay 60 rfl) ?_
                    rintro _ _ ⟨rfl, rfl⟩
                    refine ⟨_, Mrg_z rfl, ?_⟩
                    rw [ce_x hx]
                    refine q_icmp_ge (tgt := 149) E (dat dkX10_dryWay 61 rfl) rfl rfl rfl (by omega) (by omega) (fun h105 => ?_) (fun h105 => ?_)
                    ·
                      refine q_iinc_4 E (dat dkX10_dryWay 83 rfl) rfl rfl ?_
                      refine r_goto (tgt := 80) E (dat dkX10_dryWay 84 rfl) rfl ?_
                      have hly := lyN_z hn64 (nbx_lt hx) hZ (hI.2.2.2 h81) hI.2.1
                      have ht64 := hI.2.2.2 h81
                      refine r_back rfl ?_ (kk0 ((lyN (nbx x) (T 1) (x.2.2.2.2.2.2.2.1 b) y.2 y.1.1 x.1.2.2), y.2 + 1) ⟨?_, hly.1, ?_, ?_⟩ ?_)
                      · exact (And.intro rfl (And.intro rfl (And.intro rfl (And.intro rfl (And.intro rfl trivial)))))
                      · show y.2 + 1 ≤ 64; omega
                      · intro h0
                        rcases hly.2 with q | q
                        · exact q.2
                        · exact absurd (q.1.symm.trans h0) (by decide)
                      · intro h0
                        rcases hly.2 with q | q
                        · exact absurd q.1 h0
                        · exact q.2
                      · show 64 - (y.2 + 1) < 64 - y.2; omega
                    ·
                      omega
            ·
              omega
        ·
          exact absurd h27 (by decide)
  ·
    refine r_aload_n E (dat dkX10_dryWay 0 rfl) rfl rfl ?_
    refine r_aload_n E (dat dkX10_dryWay 1 rfl) rfl rfl ?_
    refine r_iload_n E (dat dkX10_dryWay 2 rfl) rfl rfl ?_
    refine r_callV (κ := 9) (μ := []) E (sp_X10_isBoots l G A0 x T a _ hA hx) my_X10_isBoots iv_X10_isBoots ml_X10_369 cm_id ⟨by decide, rfl, rfl⟩ rfl rfl rfl rfl (by decide) (Nat.le_of_ble_eq_true rfl) (dat dkX10_dryWay 3 rfl) ?_
    rintro _ _ ⟨rfl, rfl⟩
    refine ⟨_, Mrg_z rfl, ?_⟩
    rw [ib_0 hx hko]
    refine r_if_eq (tgt := 21) E (dat dkX10_dryWay 4 rfl) rfl (fun h6 => ?_) (fun h6 => ?_)
    ·
      refine r_iconst (v := 0) E (dat dkX10_dryWay 11 rfl) rfl ?_
      refine r_iconst (v := 1) E (dat dkX10_dryWay 12 rfl) rfl ?_
      refine r_iconst (v := 1) E (dat dkX10_dryWay 13 rfl) rfl ?_
      refine r_callV (κ := 9) (μ := []) E (sp_X10_check l G (0) (1) (1) _) my_X10_check iv_X10_check ml_X10_329 cm_id ⟨by decide, rfl, rfl⟩ rfl rfl rfl rfl (by decide) (Nat.le_of_ble_eq_true rfl) (dat dkX10_dryWay 14 rfl) ?_
      rintro _ _ ⟨rfl, rfl⟩
      refine ⟨_, Mrg_mt (by decide) rfl, ?_⟩
      rw [show ckI (0) (1) (1) = 1 from if_pos rfl, if_neg (by decide)]
      refine r_if_ne (tgt := 32) E (dat dkX10_dryWay 15 rfl) rfl (fun h27 => ?_) (fun h27 => ?_)
      ·
        exact absurd rfl h27
      ·
        refine r_iconst (v := 0) E (dat dkX10_dryWay 16 rfl) rfl ?_
        refine r_ireturn E (dat dkX10_dryWay 17 rfl) (by decide) (by decide) ?_
        exact Or.inr ⟨fun q => hko q.1, rfl, rfl⟩
    ·
      exact absurd rfl h6
  ·
    have hko2 := hko
    obtain ⟨b, hb, rfl⟩ := hko
    refine r_aload_n E (dat dkX10_dryWay 0 rfl) rfl rfl ?_
    refine r_aload_n E (dat dkX10_dryWay 1 rfl) rfl rfl ?_
    refine r_iload_n E (dat dkX10_dryWay 2 rfl) rfl rfl ?_
    refine r_callV (κ := 9) (μ := []) E (sp_X10_isBoots l G A0 x T (nI b) _ hA hx) my_X10_isBoots iv_X10_isBoots ml_X10_369 cm_id ⟨by decide, rfl, rfl⟩ rfl rfl rfl rfl (by decide) (Nat.le_of_ble_eq_true rfl) (dat dkX10_dryWay 3 rfl) ?_
    rintro _ _ ⟨rfl, rfl⟩
    refine ⟨_, Mrg_z rfl, ?_⟩
    rw [ib_1 hx ⟨b, hb, rfl⟩]
    refine r_if_eq (tgt := 21) E (dat dkX10_dryWay 4 rfl) rfl (fun h6 => ?_) (fun h6 => ?_)
    ·
      exact absurd h6 (by decide)
    ·
      refine r_aload_n E (dat dkX10_dryWay 5 rfl) rfl rfl ?_
      refine r_iload_n E (dat dkX10_dryWay 6 rfl) rfl rfl ?_
      refine r_callV (κ := 9) (μ := []) E (sp_X10_isCell l G A0 x T d _ hA hx) my_X10_isCell iv_X10_isCell ml_X10_326 cm_id ⟨by decide, rfl, rfl⟩ rfl rfl rfl rfl (by decide) (Nat.le_of_ble_eq_true rfl) (dat dkX10_dryWay 7 rfl) ?_
      rintro _ _ ⟨rfl, rfl⟩
      refine ⟨_, Mrg_z rfl, ?_⟩
      rw [ic_0 hx hr]
      refine r_if_eq (tgt := 21) E (dat dkX10_dryWay 8 rfl) rfl (fun h14 => ?_) (fun h14 => ?_)
      ·
        refine r_iconst (v := 0) E (dat dkX10_dryWay 11 rfl) rfl ?_
        refine r_iconst (v := 1) E (dat dkX10_dryWay 12 rfl) rfl ?_
        refine r_iconst (v := 1) E (dat dkX10_dryWay 13 rfl) rfl ?_
        refine r_callV (κ := 9) (μ := []) E (sp_X10_check l G (0) (1) (1) _) my_X10_check iv_X10_check ml_X10_329 cm_id ⟨by decide, rfl, rfl⟩ rfl rfl rfl rfl (by decide) (Nat.le_of_ble_eq_true rfl) (dat dkX10_dryWay 14 rfl) ?_
        rintro _ _ ⟨rfl, rfl⟩
        refine ⟨_, Mrg_mt (by decide) rfl, ?_⟩
        rw [show ckI (0) (1) (1) = 1 from if_pos rfl, if_neg (by decide)]
        refine r_if_ne (tgt := 32) E (dat dkX10_dryWay 15 rfl) rfl (fun h27 => ?_) (fun h27 => ?_)
        ·
          exact absurd rfl h27
        ·
          refine r_iconst (v := 0) E (dat dkX10_dryWay 16 rfl) rfl ?_
          refine r_ireturn E (dat dkX10_dryWay 17 rfl) (by decide) (by decide) ?_
          exact Or.inr ⟨fun q => hr q.2, rfl, rfl⟩
      ·
        exact absurd rfl h14
