/-! the law, to the text and the plan that it spells -/
section LS3
variable {p : Program} {l : Launch} {e : Env} {s : State} {m : MethodId} {args : Array Value} {below : List Frame} {meth : Method} {c : Code} {G : GT} {ad : Nat → Nat → Nat} {Q : State → Prop} {M0 : Mem}
/-- rows, columns, boots, rain -/
def flF (u v b r : Nat) : Nat → Int32 := upd (upd (upd (upd (fun _ => 0) 12 (nI u)) 13 (nI v)) 14 (nI b)) 15 (nI r)
set_option maxRecDepth 100000 in
set_option maxHeartbeats 4000000 in
theorem law_fields (C0 : LCx p s m args meth c G ad cL_law RL 9 (some .boolean) M0) (hN : G.2.2.1.1 ≤ 4096) {M : Mem} {k n : Nat} (hk : k ≤ 500000) (hn : n ≤ 7000000) (h19 : M 19 = ZF (fun _ => 0) (fun _ _ => 0) (fun _ _ => 0) (fun _ => 0) (fun _ => 0) (fun _ => 0)) (hj : ∀ j, j < 19 → M j = M0 j) (kk : ∀ (u v b r : Nat) (v9 : Int32) (M : Mem), (2 ≤ u ∧ u ≤ 5) → (2 ≤ v ∧ v ≤ 5) → b ≤ 2 → r ≤ 2 → M 19 = ZF (flF u v b r) (fun _ _ => 0) (fun _ _ => 0) (fun _ => 0) (fun _ => 0) (fun _ => 0) → (∀ j, j < 19 → M j = M0 j) → WM p l e room_1 s m args below meth c G (YK ad) 9 Q M k n 76 [some (rv 99 103), some (rv 0 0), some (rv 19 0), some (iv v9), none, none, none, none, none] []) : WM p l e room_1 s m args below meth c G (YK ad) 9 Q M k n 16 [some (rv 99 103), some (rv 0 0), some (rv 19 0), none, none, none, none, none, none] [] := by
  refine r_aload_n C0.1 (dat dkL_law_k0 8 rfl) rfl rfl ?_
  refine r_iconst C0.1 (dat dkL_law_k0 9 rfl) (v := nI 0) rfl ?_
  refine r_callS (μ := []) C0.1 (sp_L_cell l G (0) _ (by omega) hN) my_L_cell is_L_cell ml_L_236 cm_nil rfl rfl ⟨by decide, by decide, by show _ ≤ 600086; dsimp only; omega, by show _ ≤ 7301442; dsimp only; omega⟩ (Nat.le_of_ble_eq_true rfl) (dat dkL_law_k0 10 rfl) ?_
  rintro _ _ ⟨rfl, rfl⟩
  refine ⟨_, Mrg_z rfl, ?_⟩
  generalize scC G (0) = w18
  refine r_wide (k2 := k) (n2 := n) (Nat.le_refl _) (Nat.le_refl _) ?_
  refine r_istore_3 C0.1 (dat dkL_law_k0 11 rfl) rfl rfl ?_
  refine r_aload_n C0.1 (dat dkL_law_k0 12 rfl) rfl rfl ?_
  refine r_iconst C0.1 (dat dkL_law_k0 13 rfl) (v := nI 2) rfl ?_
  refine r_iload_n C0.1 (dat dkL_law_k0 14 rfl) rfl rfl ?_
  refine r_iconst C0.1 (dat dkL_law_k0 15 rfl) (v := nI 0) rfl ?_
  refine r_iconst C0.1 (dat dkL_law_k0 16 rfl) (v := nI 4) rfl ?_
  refine r_callS (μ := []) C0.1 (sp_L_bits l G _ (0) 4 _ (by decide)) my_L_bits is_L_bits ml_L_143 cm_nil rfl rfl ⟨by decide, by decide, by show _ ≤ 600086; dsimp only; omega, by show _ ≤ 7301442; dsimp only; omega⟩ (Nat.le_of_ble_eq_true rfl) (dat dkL_law_k0 17 rfl) ?_
  rintro _ _ ⟨⟨q27, hq27, rfl⟩, rfl⟩
  refine ⟨_, Mrg_z rfl, ?_⟩
  replace hq27 : q27 < 16 := hq27
  refine r_wide (k2 := k) (n2 := n) (Nat.le_refl _) (Nat.le_refl _) ?_
  refine r_iconst C0.1 (dat dkL_law_k0 18 rfl) (v := nI 4) rfl ?_
  refine l_irem C0.1 (by omega) (by omega) (by omega) (dat dkL_law_k0 19 rfl) ?_
  refine l_iadd C0.1 (dat dkL_law_k0 20 rfl) ?_
  refine q_putn C0.1 ft_L_95 (dat dkL_law_k0 21 rfl) rfl rfl rfl (by rw [h19, ZF_s0]) ?_
  have h19 := setm_s (M := M) (j := 19) (S := ZF (upd (fun _ => 0) 12 (nI (2 + q27 % 4))) (fun _ _ => 0) (fun _ _ => 0) (fun _ => 0) (fun _ => 0) (fun _ => 0))
  have hj : ∀ j, j < 19 → setm M 19 (ZF (upd (fun _ => 0) 12 (nI (2 + q27 % 4))) (fun _ _ => 0) (fun _ _ => 0) (fun _ => 0) (fun _ => 0) (fun _ => 0)) j = M0 j := fun j h => by rw [setm_n (by omega)]; exact hj j h
  generalize setm M 19 _ = M at h19 hj ⊢
  refine r_aload_n C0.1 (dat dkL_law_k0 22 rfl) rfl rfl ?_
  refine r_iconst C0.1 (dat dkL_law_k0 23 rfl) (v := nI 2) rfl ?_
  refine r_iload_n C0.1 (dat dkL_law_k0 24 rfl) rfl rfl ?_
  refine r_iconst C0.1 (dat dkL_law_k0 25 rfl) (v := nI 4) rfl ?_
  refine r_iconst C0.1 (dat dkL_law_k0 26 rfl) (v := nI 4) rfl ?_
  refine r_callS (μ := []) C0.1 (sp_L_bits l G _ (4) 4 _ (by decide)) my_L_bits is_L_bits ml_L_143 cm_nil rfl rfl ⟨by decide, by decide, by show _ ≤ 600086; dsimp only; omega, by show _ ≤ 7301442; dsimp only; omega⟩ (Nat.le_of_ble_eq_true rfl) (dat dkL_law_k0 27 rfl) ?_
  rintro _ _ ⟨⟨q41, hq41, rfl⟩, rfl⟩
  refine ⟨_, Mrg_z rfl, ?_⟩
  replace hq41 : q41 < 16 := hq41
  refine r_wide (k2 := k) (n2 := n) (Nat.le_refl _) (Nat.le_refl _) ?_
  refine r_iconst C0.1 (dat dkL_law_k0 28 rfl) (v := nI 4) rfl ?_
  refine l_irem C0.1 (by omega) (by omega) (by omega) (dat dkL_law_k0 29 rfl) ?_
  refine l_iadd C0.1 (dat dkL_law_k0 30 rfl) ?_
  refine q_putn C0.1 ft_L_98 (dat dkL_law_k0 31 rfl) rfl rfl rfl (by rw [h19, ZF_s0]) ?_
  have h19 := setm_s (M := M) (j := 19) (S := ZF (upd (upd (fun _ => 0) 12 (nI (2 + q27 % 4))) 13 (nI (2 + q41 % 4))) (fun _ _ => 0) (fun _ _ => 0) (fun _ => 0) (fun _ => 0) (fun _ => 0))
  have hj : ∀ j, j < 19 → setm M 19 (ZF (upd (upd (fun _ => 0) 12 (nI (2 + q27 % 4))) 13 (nI (2 + q41 % 4))) (fun _ _ => 0) (fun _ _ => 0) (fun _ => 0) (fun _ => 0) (fun _ => 0)) j = M0 j := fun j h => by rw [setm_n (by omega)]; exact hj j h
  generalize setm M 19 _ = M at h19 hj ⊢
  refine r_aload_n C0.1 (dat dkL_law_k0 32 rfl) rfl rfl ?_
  refine r_iload_n C0.1 (dat dkL_law_k0 33 rfl) rfl rfl ?_
  refine r_bipush C0.1 (dat dkL_law_k0 34 rfl) (v := nI 8) rfl ?_
  refine r_iconst C0.1 (dat dkL_law_k0 35 rfl) (v := nI 4) rfl ?_
  refine r_callS (μ := []) C0.1 (sp_L_bits l G _ (8) 4 _ (by decide)) my_L_bits is_L_bits ml_L_143 cm_nil rfl rfl ⟨by decide, by decide, by show _ ≤ 600086; dsimp only; omega, by show _ ≤ 7301442; dsimp only; omega⟩ (Nat.le_of_ble_eq_true rfl) (dat dkL_law_k0 36 rfl) ?_
  rintro _ _ ⟨⟨q55, hq55, rfl⟩, rfl⟩
  refine ⟨_, Mrg_z rfl, ?_⟩
  replace hq55 : q55 < 16 := hq55
  refine r_wide (k2 := k) (n2 := n) (Nat.le_refl _) (Nat.le_refl _) ?_
  refine r_iconst C0.1 (dat dkL_law_k0 37 rfl) (v := nI 3) rfl ?_
  refine l_irem C0.1 (by omega) (by omega) (by omega) (dat dkL_law_k0 38 rfl) ?_
  refine q_putn C0.1 ft_L_116 (dat dkL_law_k0 39 rfl) rfl rfl rfl (by rw [h19, ZF_s0]) ?_
  have h19 := setm_s (M := M) (j := 19) (S := ZF (upd (upd (upd (fun _ => 0) 12 (nI (2 + q27 % 4))) 13 (nI (2 + q41 % 4))) 14 (nI (q55 % 3))) (fun _ _ => 0) (fun _ _ => 0) (fun _ => 0) (fun _ => 0) (fun _ => 0))
  have hj : ∀ j, j < 19 → setm M 19 (ZF (upd (upd (upd (fun _ => 0) 12 (nI (2 + q27 % 4))) 13 (nI (2 + q41 % 4))) 14 (nI (q55 % 3))) (fun _ _ => 0) (fun _ _ => 0) (fun _ => 0) (fun _ => 0) (fun _ => 0)) j = M0 j := fun j h => by rw [setm_n (by omega)]; exact hj j h
  generalize setm M 19 _ = M at h19 hj ⊢
  refine r_aload_n C0.1 (dat dkL_law_k0 40 rfl) rfl rfl ?_
  refine r_iload_n C0.1 (dat dkL_law_k0 41 rfl) rfl rfl ?_
  refine r_bipush C0.1 (dat dkL_law_k0 42 rfl) (v := nI 12) rfl ?_
  refine r_iconst C0.1 (dat dkL_law_k0 43 rfl) (v := nI 2) rfl ?_
  refine r_callS (μ := []) C0.1 (sp_L_bits l G _ (12) 2 _ (by decide)) my_L_bits is_L_bits ml_L_143 cm_nil rfl rfl ⟨by decide, by decide, by show _ ≤ 600086; dsimp only; omega, by show _ ≤ 7301442; dsimp only; omega⟩ (Nat.le_of_ble_eq_true rfl) (dat dkL_law_k0 44 rfl) ?_
  rintro _ _ ⟨⟨q68, hq68, rfl⟩, rfl⟩
  refine ⟨_, Mrg_z rfl, ?_⟩
  replace hq68 : q68 < 4 := hq68
  refine r_wide (k2 := k) (n2 := n) (Nat.le_refl _) (Nat.le_refl _) ?_
  refine r_iconst C0.1 (dat dkL_law_k0 45 rfl) (v := nI 3) rfl ?_
  refine l_irem C0.1 (by omega) (by omega) (by omega) (dat dkL_law_k0 46 rfl) ?_
  refine q_putn C0.1 ft_L_101 (dat dkL_law_k0 47 rfl) rfl rfl rfl (by rw [h19, ZF_s0]) ?_
  have h19 := setm_s (M := M) (j := 19) (S := ZF (upd (upd (upd (upd (fun _ => 0) 12 (nI (2 + q27 % 4))) 13 (nI (2 + q41 % 4))) 14 (nI (q55 % 3))) 15 (nI (q68 % 3))) (fun _ _ => 0) (fun _ _ => 0) (fun _ => 0) (fun _ => 0) (fun _ => 0))
  have hj : ∀ j, j < 19 → setm M 19 (ZF (upd (upd (upd (upd (fun _ => 0) 12 (nI (2 + q27 % 4))) 13 (nI (2 + q41 % 4))) 14 (nI (q55 % 3))) 15 (nI (q68 % 3))) (fun _ _ => 0) (fun _ _ => 0) (fun _ => 0) (fun _ => 0) (fun _ => 0)) j = M0 j := fun j h => by rw [setm_n (by omega)]; exact hj j h
  generalize setm M 19 _ = M at h19 hj ⊢
  exact kk (2 + q27 % 4) (2 + q41 % 4) (q55 % 3) (q68 % 3) w18 M (by omega) (by omega) (by omega) (by omega) h19 hj
/-- the wall up to row i, and in it up to place k -/
def wlH (i k : Nat) : Nat → Nat → Int32 := fun r c => if (r < i ∧ c < 7) ∨ (r = i ∧ c < k) then 100000 else 0
theorem wlH_u {i k : Nat} (hk : k < 7) : upd2 (wlH i k) i k 100000 = wlH i (k + 1) := by
  funext r c
  unfold upd2 wlH
  by_cases h : r = i ∧ c = k
  · rw [if_pos h, if_pos (by omega)]
  · rw [if_neg h]
    by_cases h2 : (r < i ∧ c < 7) ∨ (r = i ∧ c < k)
    · rw [if_pos h2, if_pos (by omega)]
    · rw [if_neg h2, if_neg (by omega)]
theorem wlH_n {i : Nat} : wlH i 7 = wlH (i + 1) 0 := by
  funext r c
  unfold wlH
  by_cases h : (r < i ∧ c < 7) ∨ (r = i ∧ c < 7)
  · rw [if_pos h, if_pos (by omega)]
  · rw [if_neg h, if_neg (by omega)]

set_option maxRecDepth 100000 in
set_option maxHeartbeats 4000000 in
theorem law_wall_in (C0 : LCx p s m args meth c G ad cL_law RL 9 (some .boolean) M0) (hN : G.2.2.1.1 ≤ 4096) {fl : Nat → Int32} {v9 : Int32} {k n i : Nat} (hi : i < 7) : ∀ (d q : Nat) (M : Mem), q + d = 7 → M 19 = ZF fl (wlH i q) (fun _ _ => 0) (fun _ => 0) (fun _ => 0) (fun _ => 0) → (∀ j, j < 19 → M j = M0 j) → (∀ M : Mem, M 19 = ZF fl (wlH i 7) (fun _ _ => 0) (fun _ => 0) (fun _ => 0) (fun _ => 0) → (∀ j, j < 19 → M j = M0 j) → WM p l e room_1 s m args below meth c G (YK ad) 9 Q M k n 127 [some (rv 99 103), some (rv 0 0), some (rv 19 0), some (iv v9), some (rv 19 1), some (iv (nI 7)), some (iv (nI i)), some (rv 19 (20 + 7 * 0 + i)), some (iv (nI 7))] []) → WM p l e room_1 s m args below meth c G (YK ad) 9 Q M k n 107 [some (rv 99 103), some (rv 0 0), some (rv 19 0), some (iv v9), some (rv 19 1), some (iv (nI 7)), some (iv (nI i)), some (rv 19 (20 + 7 * 0 + i)), some (iv (nI q))] [] := by
  intro d
  induction d with
  | zero =>
    intro q M hq h19 hj kk
    obtain rfl : q = 7 := by omega
    refine r_iload C0.1 (dat dkL_law_k1 15 rfl) rfl ?_
    refine r_bipush C0.1 (dat dkL_law_k1 16 rfl) (v := nI 7) rfl ?_
    refine q_icmp_ge (tgt := 127) C0.1 (dat dkL_law_k1 17 rfl) rfl rfl rfl (by omega) (by omega) (fun h => ?_) (fun h => absurd h (by omega))
    exact kk M h19 hj
  | succ d ih =>
    intro q M hq h19 hj kk
    refine r_iload C0.1 (dat dkL_law_k1 15 rfl) rfl ?_
    refine r_bipush C0.1 (dat dkL_law_k1 16 rfl) (v := nI 7) rfl ?_
    refine q_icmp_ge (tgt := 127) C0.1 (dat dkL_law_k1 17 rfl) rfl rfl rfl (by omega) (by omega) (fun h => absurd h (by omega)) (fun h => ?_)
    refine r_aload C0.1 (dat dkL_law_k1 18 rfl) rfl ?_
    refine r_iload C0.1 (dat dkL_law_k1 19 rfl) rfl ?_
    refine r_ldcI C0.1 cn_L_123 (dat dkL_law_k1 20 rfl) ?_
    refine q_iasv C0.1 (dat dkL_law_k1 21 rfl) (lae (by decide) hi) (lok (Nat.le_of_ble_eq_true rfl) rfl (by decide) hi) (by decide) rfl (by omega) (by rw [h19, ZF_sh hi, wlH_u (by omega)]) ?_
    have h19 := setm_s (M := M) (j := 19) (S := ZF fl (wlH i (q + 1)) (fun _ _ => 0) (fun _ => 0) (fun _ => 0) (fun _ => 0))
    have hj : ∀ j, j < 19 → setm M 19 (ZF fl (wlH i (q + 1)) (fun _ _ => 0) (fun _ => 0) (fun _ => 0) (fun _ => 0)) j = M0 j := fun j h => by rw [setm_n (by omega)]; exact hj j h
    generalize setm M 19 _ = M at h19 hj ⊢
    refine q_iinc_8 C0.1 (dat dkL_law_k1 22 rfl) rfl rfl ?_
    refine r_goto (tgt := 107) C0.1 (dat dkL_law_k1 23 rfl) rfl ?_
    exact ih (q + 1) M (by omega) h19 hj kk
set_option maxRecDepth 100000 in
set_option maxHeartbeats 4000000 in
theorem law_wall_out (C0 : LCx p s m args meth c G ad cL_law RL 9 (some .boolean) M0) (hN : G.2.2.1.1 ≤ 4096) {fl : Nat → Int32} {v9 : Int32} {k n : Nat} : ∀ (d i : Nat) (a7 a8 : Option AV) (M : Mem), i + d = 7 → ac2 a7 = false → M 19 = ZF fl (wlH i 0) (fun _ _ => 0) (fun _ => 0) (fun _ => 0) (fun _ => 0) → (∀ j, j < 19 → M j = M0 j) → (∀ M : Mem, M 19 = ZF fl (wlH 7 0) (fun _ _ => 0) (fun _ => 0) (fun _ => 0) (fun _ => 0) → (∀ j, j < 19 → M j = M0 j) → WM p l e room_1 s m args below meth c G (YK ad) 9 Q M k n 133 [some (rv 99 103), some (rv 0 0), some (rv 19 0), some (iv v9), none, none, none, none, none] []) → WM p l e room_1 s m args below meth c G (YK ad) 9 Q M k n 90 [some (rv 99 103), some (rv 0 0), some (rv 19 0), some (iv v9), some (rv 19 1), some (iv (nI 7)), some (iv (nI i)), a7, a8] [] := by
  intro d
  induction d with
  | zero =>
    intro i a7 a8 M hq h7 h19 hj kk
    obtain rfl : i = 7 := by omega
    refine r_iload C0.1 (dat dkL_law_k1 6 rfl) rfl ?_
    refine r_iload C0.1 (dat dkL_law_k1 7 rfl) rfl ?_
    refine q_icmp_ge (tgt := 133) C0.1 (dat dkL_law_k1 8 rfl) rfl rfl rfl (by omega) (by omega) (fun h => ?_) (fun h => absurd h (by omega))
    exact r_back (L2 := [some (rv 99 103), some (rv 0 0), some (rv 19 0), some (iv v9), none, none, none, none, none]) rfl ⟨rfl, rfl, rfl, rfl, trivial⟩ (kk M h19 hj)
  | succ d ih =>
    intro i a7 a8 M hq h7 h19 hj kk
    refine r_iload C0.1 (dat dkL_law_k1 6 rfl) rfl ?_
    refine r_iload C0.1 (dat dkL_law_k1 7 rfl) rfl ?_
    refine q_icmp_ge (tgt := 133) C0.1 (dat dkL_law_k1 8 rfl) rfl rfl rfl (by omega) (by omega) (fun h => absurd h (by omega)) (fun h => ?_)
    refine r_aload C0.1 (dat dkL_law_k1 9 rfl) rfl ?_
    refine r_iload C0.1 (dat dkL_law_k1 10 rfl) rfl ?_
    refine q_laa (a := 0) C0.1 (dat dkL_law_k1 11 rfl) rfl rfl rfl (by decide) rfl (by omega) ?_
    refine r_astore_7 C0.1 (dat dkL_law_k1 12 rfl) rfl rfl ?_
    refine r_iconst C0.1 (dat dkL_law_k1 13 rfl) (v := nI 0) rfl ?_
    refine r_istore_8 C0.1 (dat dkL_law_k1 14 rfl) rfl rfl ?_
    refine law_wall_in C0 hN (by omega) 7 0 M (by omega) h19 hj (fun M h19 hj => ?_)
    refine q_iinc_6 C0.1 (dat dkL_law_k1 24 rfl) rfl rfl ?_
    refine r_goto (tgt := 90) C0.1 (dat dkL_law_k1 25 rfl) rfl ?_
    refine ih (i + 1) _ _ M (by omega) rfl ?_ hj kk
    rw [h19, wlH_n]
end LS3
