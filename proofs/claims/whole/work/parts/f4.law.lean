set_option maxRecDepth 100000 in
set_option maxHeartbeats 8000000 in
theorem lb_45 {p : Program} {l : Launch} {e : Env} {s : State} {m : MethodId} {args : Array Value} {below : List Frame} {meth : Method} {c : Code} {G : GT} {ad : Nat → Nat → Nat} {Q : State → Prop} {k n : Nat} (hst : l.stackTraces = false) (E : EN p s m args meth c G (KL, lkC, ad) cL_law RL 9 (some .boolean)) {b Ls : Nat} {xs : Nat → Int32} (hX : va_X b Ls xs s s.heap) (hb : b < s.heap.size) (hA : ¬ AS (KL, lkC, ad) s.heap.size b) (hL : Ls ≤ 3072) {i : Nat} (hi : i + 6 ≤ Ls) {N : Mem} {B : Int} (H : RLe N (vw [20] N) B) (h0 : 0 ≤ B) (h1 : B + 300 < 2147483648) (hk : k + 100 ≤ room_1.cells) (hn : n + 1000 ≤ room_1.slots)
    (kk : ∀ N2 : Mem, RLe N2 (vw [20] N2) (B + 279) → WM p l e room_1 s m args below meth c G (KL, lkC, ad) 9 Q N2 (k + 100) (n + 1000) 2775 [some (.inl (.ref b)), some (rv 0 0), some (rv 20 0), some (rv 19 0), some (iv (nI i)), none, none, none, none] []) :
    WM p l e room_1 s m args below meth c G (KL, lkC, ad) 9 Q N k n 2097 [some (.inl (.ref b)), some (rv 0 0), some (rv 20 0), some (rv 19 0), some (iv (nI i)), none, none, none, none] [] := by
  obtain ⟨post, XP, post2, hM, hR, hr, hE, P1, P2⟩ := pa_setRain l hst G H h0 h1 (xs (i + 1))
  refine r_aload_n E (dat dkW_c45 0 rfl) rfl rfl ?_
  refine r_aldX E (dat dkW_c45 1 rfl) rfl rfl ?_
  refine r_iload E (dat dkW_c45 2 rfl) rfl ?_
  refine r_iconst (v := 1) E (dat dkW_c45 3 rfl) rfl ?_
  refine r_iadd E (dat dkW_c45 4 rfl) ?_
  refine r_sld E hX hb hA hL (nI_add i 1) (show i + 1 < Ls by omega) (dat dkW_c45 5 rfl) ?_
  refine r_aload_n E (dat dkW_c45 6 rfl) rfl rfl ?_
  refine r_callSW (N := 3) (μ := []) E (sp_L_setRain l G (xs (i + 1)) N post XP hM hr (fun Ex M' h => by simpa using hE Ex M' h)) ini_L (bg_5 121 (by decide +kernel)) ⟨by decide +kernel, by decide +kernel, by decide +kernel⟩ (bg_5 120 (by decide +kernel)) ml_L_298 cm_LO rfl rfl ⟨Nat.le_of_ble_eq_true rfl, Nat.le_of_ble_eq_true rfl, Nat.le_trans (Nat.add_le_add_left (Nat.le_of_ble_eq_true rfl) k) hk, Nat.le_trans (Nat.add_le_add_left (Nat.le_of_ble_eq_true rfl) n) hn⟩ (Nat.le_of_ble_eq_true rfl) (dat dkW_c45 7 rfl) ?_
  rintro r M9 (⟨v, M', hp, rfl, rfl⟩ | ⟨M', hp, rfl, rfl⟩)
  ·
    refine ⟨_, loV_m, ?_⟩
    refine r_istore_5 E (dat dkW_c45 8 rfl) rfl rfl ?_
    refine r_aload_n E (dat dkW_c45 9 rfl) rfl rfl ?_
    refine r_aldX E (dat dkW_c45 10 rfl) rfl rfl ?_
    refine r_iload E (dat dkW_c45 11 rfl) rfl ?_
    refine r_iconst (v := 1) E (dat dkW_c45 12 rfl) rfl ?_
    refine r_iadd E (dat dkW_c45 13 rfl) ?_
    refine r_sld E hX hb hA hL (nI_add i 1) (show i + 1 < Ls by omega) (dat dkW_c45 14 rfl) ?_
    refine r_callV (κ := 9) (μ := [20]) E (hR (vw [20] (loV N M' v)) rfl) my_X10_setRain iv_X10_setRain ml_L_300 cm_LR ⟨by decide, rfl, rfl⟩ rfl rfl rfl rfl ⟨Nat.le_of_ble_eq_true rfl, Nat.le_of_ble_eq_true rfl, Nat.le_trans (show k + 4 + 0 ≤ k + 100 by omega) hk, Nat.le_trans (show n + 24 + 0 ≤ n + 1000 by omega) hn⟩ (Nat.le_of_ble_eq_true rfl) (dat dkW_c45 15 rfl) ?_
    rintro r R' hp2
    obtain ⟨rfl, ht, hrel⟩ := P1 v M' hp _ rfl r R' hp2
    refine ⟨_, Mrg_R, ?_⟩
    refine r_istore_6 E (dat dkW_c45 16 rfl) rfl rfl ?_
    refine r_aload_n E (dat dkW_c45 17 rfl) rfl rfl ?_
    refine r_callV (κ := 9) (μ := [20]) E (sp_X10_thrown l G _) my_X10_thrown iv_X10_thrown ml_L_178 cm_LR ⟨by decide, rfl, rfl⟩ rfl rfl rfl rfl ⟨Nat.le_of_ble_eq_true rfl, Nat.le_of_ble_eq_true rfl, Nat.le_trans (show k + 4 + 0 + 0 ≤ k + 100 by omega) hk, Nat.le_trans (show n + 24 + 0 + 0 ≤ n + 1000 by omega) hn⟩ (Nat.le_of_ble_eq_true rfl) (dat dkW_c45 18 rfl) ?_
    rintro _ _ ⟨rfl, rfl⟩
    refine ⟨_, Mrg_T, ?_⟩
    refine r_topE (show vw [20] (setm (loV N M' v) 20 (R' 0)) 0 0 6 = 0 from ht) ?_
    refine r_iload E (dat dkW_c45 19 rfl) rfl ?_
    refine r_icmp_eq (tgt := 2133) E (dat dkW_c45 20 rfl) rfl (fun _ => ?_) (fun h => absurd rfl h)
    refine r_iload E (dat dkW_c45 23 rfl) rfl ?_
    refine r_if_ne (tgt := 2150) E (dat dkW_c45 24 rfl) rfl (fun h => absurd rfl h) (fun _ => ?_)
    refine r_aload_n E (dat dkW_c45 25 rfl) rfl rfl ?_
    refine r_iconst (v := 0) E (dat dkW_c45 26 rfl) rfl ?_
    refine r_lald (N := 1) E (dat dkW_c45 27 rfl) rfl rfl (by unfold vp_in; decide) ?_
    refine r_iload E (dat dkW_c45 28 rfl) rfl ?_
    refine r_i2l E (dat dkW_c45 29 rfl) ?_
    refine r_lcmp E (dat dkW_c45 30 rfl) ?_
    refine r_if_eq (tgt := 2150) E (dat dkW_c45 31 rfl) rfl (fun _ => ?_) (fun h9 => absurd (lg_self v.toInt64) h9)
    refine r_goto (tgt := 2775) E (dat dkW_c45 34 rfl) rfl ?_
    refine r_wid (k2 := k + 100) (n2 := n + 1000) (by show k + 4 + 0 + 0 ≤ _; omega) (by show n + 24 + 0 + 0 ≤ _; omega) ?_
    refine r_back rfl (by simp [LW]) (kk _ (RLe_tr hrel (fun j hj => loV_lt hj) rfl))
  ·
    refine ⟨_, loX_m2, ?_⟩
    refine r_istore_5 E (dat dkW_c45 8 rfl) rfl rfl ?_
    refine r_aload_n E (dat dkW_c45 9 rfl) rfl rfl ?_
    refine r_aldX E (dat dkW_c45 10 rfl) rfl rfl ?_
    refine r_iload E (dat dkW_c45 11 rfl) rfl ?_
    refine r_iconst (v := 1) E (dat dkW_c45 12 rfl) rfl ?_
    refine r_iadd E (dat dkW_c45 13 rfl) ?_
    refine r_sld E hX hb hA hL (nI_add i 1) (show i + 1 < Ls by omega) (dat dkW_c45 14 rfl) ?_
    refine r_callV (κ := 9) (μ := [20]) E (hR (vw [20] (loX N M')) rfl) my_X10_setRain iv_X10_setRain ml_L_300 cm_LR ⟨by decide, rfl, rfl⟩ rfl rfl rfl rfl ⟨Nat.le_of_ble_eq_true rfl, Nat.le_of_ble_eq_true rfl, Nat.le_trans (show k + 4 + 0 ≤ k + 100 by omega) hk, Nat.le_trans (show n + 24 + 0 ≤ n + 1000 by omega) hn⟩ (Nat.le_of_ble_eq_true rfl) (dat dkW_c45 15 rfl) ?_
    rintro r R' hp2
    obtain ⟨⟨bv, rfl⟩, ht, hrel⟩ := P2 0 argN M' rfl hp _ rfl r R' hp2
    refine ⟨_, Mrg_R, ?_⟩
    refine r_istore_6 E (dat dkW_c45 16 rfl) rfl rfl ?_
    refine r_aload_n E (dat dkW_c45 17 rfl) rfl rfl ?_
    refine r_callV (κ := 9) (μ := [20]) E (sp_X10_thrown l G _) my_X10_thrown iv_X10_thrown ml_L_178 cm_LR ⟨by decide, rfl, rfl⟩ rfl rfl rfl rfl ⟨Nat.le_of_ble_eq_true rfl, Nat.le_of_ble_eq_true rfl, Nat.le_trans (show k + 4 + 0 + 0 ≤ k + 100 by omega) hk, Nat.le_trans (show n + 24 + 0 + 0 ≤ n + 1000 by omega) hn⟩ (Nat.le_of_ble_eq_true rfl) (dat dkW_c45 18 rfl) ?_
    rintro _ _ ⟨rfl, rfl⟩
    refine ⟨_, Mrg_T, ?_⟩
    refine r_topE (show vw [20] (setm (loX N M') 20 (R' 0)) 0 0 6 = nI (0 + 1) from ht) ?_
    refine r_iload E (dat dkW_c45 19 rfl) rfl ?_
    refine r_icmp_eq (tgt := 2133) E (dat dkW_c45 20 rfl) rfl (fun _ => ?_) (fun h => absurd rfl h)
    refine r_iload E (dat dkW_c45 23 rfl) rfl ?_
    refine r_if_ne (tgt := 2150) E (dat dkW_c45 24 rfl) rfl (fun _ => ?_) (fun h => absurd h (by decide))
    refine r_goto (tgt := 2775) E (dat dkW_c45 34 rfl) rfl ?_
    refine r_wid (k2 := k + 100) (n2 := n + 1000) (by show k + 4 + 0 + 0 ≤ _; omega) (by show n + 24 + 0 + 0 ≤ _; omega) ?_
    refine r_back rfl (by simp [LW]) (kk _ (RLe_tr hrel (fun j hj => loX_lt hj) rfl))
set_option maxRecDepth 100000 in
set_option maxHeartbeats 8000000 in
theorem lb_46 {p : Program} {l : Launch} {e : Env} {s : State} {m : MethodId} {args : Array Value} {below : List Frame} {meth : Method} {c : Code} {G : GT} {ad : Nat → Nat → Nat} {Q : State → Prop} {k n : Nat} (hst : l.stackTraces = false) (E : EN p s m args meth c G (KL, lkC, ad) cL_law RL 9 (some .boolean)) {b Ls : Nat} {xs : Nat → Int32} (hX : va_X b Ls xs s s.heap) (hb : b < s.heap.size) (hA : ¬ AS (KL, lkC, ad) s.heap.size b) (hL : Ls ≤ 3072) {i : Nat} (hi : i + 6 ≤ Ls) {N : Mem} {B : Int} (H : RLe N (vw [20] N) B) (h0 : 0 ≤ B) (h1 : B + 300 < 2147483648) (hk : k + 100 ≤ room_1.cells) (hn : n + 1000 ≤ room_1.slots)
    (kk : ∀ N2 : Mem, RLe N2 (vw [20] N2) (B + 279) → WM p l e room_1 s m args below meth c G (KL, lkC, ad) 9 Q N2 (k + 100) (n + 1000) 2775 [some (.inl (.ref b)), some (rv 0 0), some (rv 20 0), some (rv 19 0), some (iv (nI i)), none, none, none, none] []) :
    WM p l e room_1 s m args below meth c G (KL, lkC, ad) 9 Q N k n 2153 [some (.inl (.ref b)), some (rv 0 0), some (rv 20 0), some (rv 19 0), some (iv (nI i)), none, none, none, none] [] := by
  obtain ⟨post, XP, post2, hM, hR, hr, hE, P1, P2⟩ := pa_burst l hst G H h0 h1 (xs (i + 1)) (xs (i + 2)) (xs (i + 3))
  refine r_aload_n E (dat dkW_c46 0 rfl) rfl rfl ?_
  refine r_aldX E (dat dkW_c46 1 rfl) rfl rfl ?_
  refine r_iload E (dat dkW_c46 2 rfl) rfl ?_
  refine r_iconst (v := 1) E (dat dkW_c46 3 rfl) rfl ?_
  refine r_iadd E (dat dkW_c46 4 rfl) ?_
  refine r_sld E hX hb hA hL (nI_add i 1) (show i + 1 < Ls by omega) (dat dkW_c46 5 rfl) ?_
  refine r_aldX E (dat dkW_c46 6 rfl) rfl rfl ?_
  refine r_iload E (dat dkW_c46 7 rfl) rfl ?_
  refine r_iconst (v := 2) E (dat dkW_c46 8 rfl) rfl ?_
  refine r_iadd E (dat dkW_c46 9 rfl) ?_
  refine r_sld E hX hb hA hL (nI_add i 2) (show i + 2 < Ls by omega) (dat dkW_c46 10 rfl) ?_
  refine r_aldX E (dat dkW_c46 11 rfl) rfl rfl ?_
  refine r_iload E (dat dkW_c46 12 rfl) rfl ?_
  refine r_iconst (v := 3) E (dat dkW_c46 13 rfl) rfl ?_
  refine r_iadd E (dat dkW_c46 14 rfl) ?_
  refine r_sld E hX hb hA hL (nI_add i 3) (show i + 3 < Ls by omega) (dat dkW_c46 15 rfl) ?_
  refine r_aload_n E (dat dkW_c46 16 rfl) rfl rfl ?_
  refine r_callSW (N := 5) (μ := []) E (sp_L_burst l G (xs (i + 1)) (xs (i + 2)) (xs (i + 3)) N post XP hM hr (fun Ex M' h => by simpa using hE Ex M' h)) ini_L (bg_5 128 (by decide +kernel)) ⟨by decide +kernel, by decide +kernel, by decide +kernel⟩ (bg_5 127 (by decide +kernel)) ml_L_301 cm_LO rfl rfl ⟨Nat.le_of_ble_eq_true rfl, Nat.le_of_ble_eq_true rfl, Nat.le_trans (Nat.add_le_add_left (Nat.le_of_ble_eq_true rfl) k) hk, Nat.le_trans (Nat.add_le_add_left (Nat.le_of_ble_eq_true rfl) n) hn⟩ (Nat.le_of_ble_eq_true rfl) (dat dkW_c46 17 rfl) ?_
  rintro r M9 (⟨v, M', hp, rfl, rfl⟩ | ⟨M', hp, rfl, rfl⟩ | ⟨M', hp, rfl, rfl⟩ | ⟨M', hp, rfl, rfl⟩)
  ·
    refine ⟨_, loV_m, ?_⟩
    refine r_istore_5 E (dat dkW_c46 18 rfl) rfl rfl ?_
    refine r_aload_n E (dat dkW_c46 19 rfl) rfl rfl ?_
    refine r_aldX E (dat dkW_c46 20 rfl) rfl rfl ?_
    refine r_iload E (dat dkW_c46 21 rfl) rfl ?_
    refine r_iconst (v := 1) E (dat dkW_c46 22 rfl) rfl ?_
    refine r_iadd E (dat dkW_c46 23 rfl) ?_
    refine r_sld E hX hb hA hL (nI_add i 1) (show i + 1 < Ls by omega) (dat dkW_c46 24 rfl) ?_
    refine r_aldX E (dat dkW_c46 25 rfl) rfl rfl ?_
    refine r_iload E (dat dkW_c46 26 rfl) rfl ?_
    refine r_iconst (v := 2) E (dat dkW_c46 27 rfl) rfl ?_
    refine r_iadd E (dat dkW_c46 28 rfl) ?_
    refine r_sld E hX hb hA hL (nI_add i 2) (show i + 2 < Ls by omega) (dat dkW_c46 29 rfl) ?_
    refine r_aldX E (dat dkW_c46 30 rfl) rfl rfl ?_
    refine r_iload E (dat dkW_c46 31 rfl) rfl ?_
    refine r_iconst (v := 3) E (dat dkW_c46 32 rfl) rfl ?_
    refine r_iadd E (dat dkW_c46 33 rfl) ?_
    refine r_sld E hX hb hA hL (nI_add i 3) (show i + 3 < Ls by omega) (dat dkW_c46 34 rfl) ?_
    refine r_callV (κ := 9) (μ := [20]) E (hR (vw [20] (loV N M' v)) rfl) my_X10_burst iv_X10_burst ml_L_304 cm_LR ⟨by decide, rfl, rfl⟩ rfl rfl rfl rfl ⟨Nat.le_of_ble_eq_true rfl, Nat.le_of_ble_eq_true rfl, Nat.le_trans (show k + 16 + 0 ≤ k + 100 by omega) hk, Nat.le_trans (show n + 96 + 0 ≤ n + 1000 by omega) hn⟩ (Nat.le_of_ble_eq_true rfl) (dat dkW_c46 35 rfl) ?_
    rintro r R' hp2
    obtain ⟨rfl, ht, hrel⟩ := P1 v M' hp _ rfl r R' hp2
    refine ⟨_, Mrg_R, ?_⟩
    refine r_istore_6 E (dat dkW_c46 36 rfl) rfl rfl ?_
    refine r_aload_n E (dat dkW_c46 37 rfl) rfl rfl ?_
    refine r_callV (κ := 9) (μ := [20]) E (sp_X10_thrown l G _) my_X10_thrown iv_X10_thrown ml_L_178 cm_LR ⟨by decide, rfl, rfl⟩ rfl rfl rfl rfl ⟨Nat.le_of_ble_eq_true rfl, Nat.le_of_ble_eq_true rfl, Nat.le_trans (show k + 16 + 0 + 0 ≤ k + 100 by omega) hk, Nat.le_trans (show n + 96 + 0 + 0 ≤ n + 1000 by omega) hn⟩ (Nat.le_of_ble_eq_true rfl) (dat dkW_c46 38 rfl) ?_
    rintro _ _ ⟨rfl, rfl⟩
    refine ⟨_, Mrg_T, ?_⟩
    refine r_topE (show vw [20] (setm (loV N M' v) 20 (R' 0)) 0 0 6 = 0 from ht) ?_
    refine r_iload E (dat dkW_c46 39 rfl) rfl ?_
    refine r_icmp_eq (tgt := 2213) E (dat dkW_c46 40 rfl) rfl (fun _ => ?_) (fun h => absurd rfl h)
    refine r_iload E (dat dkW_c46 43 rfl) rfl ?_
    refine r_if_ne (tgt := 2230) E (dat dkW_c46 44 rfl) rfl (fun h => absurd rfl h) (fun _ => ?_)
    refine r_aload_n E (dat dkW_c46 45 rfl) rfl rfl ?_
    refine r_iconst (v := 0) E (dat dkW_c46 46 rfl) rfl ?_
    refine r_lald (N := 1) E (dat dkW_c46 47 rfl) rfl rfl (by unfold vp_in; decide) ?_
    refine r_iload E (dat dkW_c46 48 rfl) rfl ?_
    refine r_i2l E (dat dkW_c46 49 rfl) ?_
    refine r_lcmp E (dat dkW_c46 50 rfl) ?_
    refine r_if_eq (tgt := 2230) E (dat dkW_c46 51 rfl) rfl (fun _ => ?_) (fun h9 => absurd (lg_self v.toInt64) h9)
    refine r_goto (tgt := 2775) E (dat dkW_c46 54 rfl) rfl ?_
    refine r_wid (k2 := k + 100) (n2 := n + 1000) (by show k + 16 + 0 + 0 ≤ _; omega) (by show n + 96 + 0 + 0 ≤ _; omega) ?_
    refine r_back rfl (by simp [LW]) (kk _ (RLe_tr hrel (fun j hj => loV_lt hj) rfl))
  ·
    refine ⟨_, loX_m2, ?_⟩
    refine r_istore_5 E (dat dkW_c46 18 rfl) rfl rfl ?_
    refine r_aload_n E (dat dkW_c46 19 rfl) rfl rfl ?_
    refine r_aldX E (dat dkW_c46 20 rfl) rfl rfl ?_
    refine r_iload E (dat dkW_c46 21 rfl) rfl ?_
    refine r_iconst (v := 1) E (dat dkW_c46 22 rfl) rfl ?_
    refine r_iadd E (dat dkW_c46 23 rfl) ?_
    refine r_sld E hX hb hA hL (nI_add i 1) (show i + 1 < Ls by omega) (dat dkW_c46 24 rfl) ?_
    refine r_aldX E (dat dkW_c46 25 rfl) rfl rfl ?_
    refine r_iload E (dat dkW_c46 26 rfl) rfl ?_
    refine r_iconst (v := 2) E (dat dkW_c46 27 rfl) rfl ?_
    refine r_iadd E (dat dkW_c46 28 rfl) ?_
    refine r_sld E hX hb hA hL (nI_add i 2) (show i + 2 < Ls by omega) (dat dkW_c46 29 rfl) ?_
    refine r_aldX E (dat dkW_c46 30 rfl) rfl rfl ?_
    refine r_iload E (dat dkW_c46 31 rfl) rfl ?_
    refine r_iconst (v := 3) E (dat dkW_c46 32 rfl) rfl ?_
    refine r_iadd E (dat dkW_c46 33 rfl) ?_
    refine r_sld E hX hb hA hL (nI_add i 3) (show i + 3 < Ls by omega) (dat dkW_c46 34 rfl) ?_
    refine r_callV (κ := 9) (μ := [20]) E (hR (vw [20] (loX N M')) rfl) my_X10_burst iv_X10_burst ml_L_304 cm_LR ⟨by decide, rfl, rfl⟩ rfl rfl rfl rfl ⟨Nat.le_of_ble_eq_true rfl, Nat.le_of_ble_eq_true rfl, Nat.le_trans (show k + 16 + 0 ≤ k + 100 by omega) hk, Nat.le_trans (show n + 96 + 0 ≤ n + 1000 by omega) hn⟩ (Nat.le_of_ble_eq_true rfl) (dat dkW_c46 35 rfl) ?_
    rintro r R' hp2
    obtain ⟨⟨bv, rfl⟩, ht, hrel⟩ := P2 0 oobN M' rfl hp _ rfl r R' hp2
    refine ⟨_, Mrg_R, ?_⟩
    refine r_istore_6 E (dat dkW_c46 36 rfl) rfl rfl ?_
    refine r_aload_n E (dat dkW_c46 37 rfl) rfl rfl ?_
    refine r_callV (κ := 9) (μ := [20]) E (sp_X10_thrown l G _) my_X10_thrown iv_X10_thrown ml_L_178 cm_LR ⟨by decide, rfl, rfl⟩ rfl rfl rfl rfl ⟨Nat.le_of_ble_eq_true rfl, Nat.le_of_ble_eq_true rfl, Nat.le_trans (show k + 16 + 0 + 0 ≤ k + 100 by omega) hk, Nat.le_trans (show n + 96 + 0 + 0 ≤ n + 1000 by omega) hn⟩ (Nat.le_of_ble_eq_true rfl) (dat dkW_c46 38 rfl) ?_
    rintro _ _ ⟨rfl, rfl⟩
    refine ⟨_, Mrg_T, ?_⟩
    refine r_topE (show vw [20] (setm (loX N M') 20 (R' 0)) 0 0 6 = nI (0 + 1) from ht) ?_
    refine r_iload E (dat dkW_c46 39 rfl) rfl ?_
    refine r_icmp_eq (tgt := 2213) E (dat dkW_c46 40 rfl) rfl (fun _ => ?_) (fun h => absurd rfl h)
    refine r_iload E (dat dkW_c46 43 rfl) rfl ?_
    refine r_if_ne (tgt := 2230) E (dat dkW_c46 44 rfl) rfl (fun _ => ?_) (fun h => absurd h (by decide))
    refine r_goto (tgt := 2775) E (dat dkW_c46 54 rfl) rfl ?_
    refine r_wid (k2 := k + 100) (n2 := n + 1000) (by show k + 16 + 0 + 0 ≤ _; omega) (by show n + 96 + 0 + 0 ≤ _; omega) ?_
    refine r_back rfl (by simp [LW]) (kk _ (RLe_tr hrel (fun j hj => loX_lt hj) rfl))
  ·
    refine ⟨_, loX_m2, ?_⟩
    refine r_istore_5 E (dat dkW_c46 18 rfl) rfl rfl ?_
    refine r_aload_n E (dat dkW_c46 19 rfl) rfl rfl ?_
    refine r_aldX E (dat dkW_c46 20 rfl) rfl rfl ?_
    refine r_iload E (dat dkW_c46 21 rfl) rfl ?_
    refine r_iconst (v := 1) E (dat dkW_c46 22 rfl) rfl ?_
    refine r_iadd E (dat dkW_c46 23 rfl) ?_
    refine r_sld E hX hb hA hL (nI_add i 1) (show i + 1 < Ls by omega) (dat dkW_c46 24 rfl) ?_
    refine r_aldX E (dat dkW_c46 25 rfl) rfl rfl ?_
    refine r_iload E (dat dkW_c46 26 rfl) rfl ?_
    refine r_iconst (v := 2) E (dat dkW_c46 27 rfl) rfl ?_
    refine r_iadd E (dat dkW_c46 28 rfl) ?_
    refine r_sld E hX hb hA hL (nI_add i 2) (show i + 2 < Ls by omega) (dat dkW_c46 29 rfl) ?_
    refine r_aldX E (dat dkW_c46 30 rfl) rfl rfl ?_
    refine r_iload E (dat dkW_c46 31 rfl) rfl ?_
    refine r_iconst (v := 3) E (dat dkW_c46 32 rfl) rfl ?_
    refine r_iadd E (dat dkW_c46 33 rfl) ?_
    refine r_sld E hX hb hA hL (nI_add i 3) (show i + 3 < Ls by omega) (dat dkW_c46 34 rfl) ?_
    refine r_callV (κ := 9) (μ := [20]) E (hR (vw [20] (loX N M')) rfl) my_X10_burst iv_X10_burst ml_L_304 cm_LR ⟨by decide, rfl, rfl⟩ rfl rfl rfl rfl ⟨Nat.le_of_ble_eq_true rfl, Nat.le_of_ble_eq_true rfl, Nat.le_trans (show k + 16 + 0 ≤ k + 100 by omega) hk, Nat.le_trans (show n + 96 + 0 ≤ n + 1000 by omega) hn⟩ (Nat.le_of_ble_eq_true rfl) (dat dkW_c46 35 rfl) ?_
    rintro r R' hp2
    obtain ⟨⟨bv, rfl⟩, ht, hrel⟩ := P2 1 argN M' rfl hp _ rfl r R' hp2
    refine ⟨_, Mrg_R, ?_⟩
    refine r_istore_6 E (dat dkW_c46 36 rfl) rfl rfl ?_
    refine r_aload_n E (dat dkW_c46 37 rfl) rfl rfl ?_
    refine r_callV (κ := 9) (μ := [20]) E (sp_X10_thrown l G _) my_X10_thrown iv_X10_thrown ml_L_178 cm_LR ⟨by decide, rfl, rfl⟩ rfl rfl rfl rfl ⟨Nat.le_of_ble_eq_true rfl, Nat.le_of_ble_eq_true rfl, Nat.le_trans (show k + 16 + 0 + 0 ≤ k + 100 by omega) hk, Nat.le_trans (show n + 96 + 0 + 0 ≤ n + 1000 by omega) hn⟩ (Nat.le_of_ble_eq_true rfl) (dat dkW_c46 38 rfl) ?_
    rintro _ _ ⟨rfl, rfl⟩
    refine ⟨_, Mrg_T, ?_⟩
    refine r_topE (show vw [20] (setm (loX N M') 20 (R' 0)) 0 0 6 = nI (1 + 1) from ht) ?_
    refine r_iload E (dat dkW_c46 39 rfl) rfl ?_
    refine r_icmp_eq (tgt := 2213) E (dat dkW_c46 40 rfl) rfl (fun _ => ?_) (fun h => absurd rfl h)
    refine r_iload E (dat dkW_c46 43 rfl) rfl ?_
    refine r_if_ne (tgt := 2230) E (dat dkW_c46 44 rfl) rfl (fun _ => ?_) (fun h => absurd h (by decide))
    refine r_goto (tgt := 2775) E (dat dkW_c46 54 rfl) rfl ?_
    refine r_wid (k2 := k + 100) (n2 := n + 1000) (by show k + 16 + 0 + 0 ≤ _; omega) (by show n + 96 + 0 + 0 ≤ _; omega) ?_
    refine r_back rfl (by simp [LW]) (kk _ (RLe_tr hrel (fun j hj => loX_lt hj) rfl))
  ·
    refine ⟨_, loX_m2, ?_⟩
    refine r_istore_5 E (dat dkW_c46 18 rfl) rfl rfl ?_
    refine r_aload_n E (dat dkW_c46 19 rfl) rfl rfl ?_
    refine r_aldX E (dat dkW_c46 20 rfl) rfl rfl ?_
    refine r_iload E (dat dkW_c46 21 rfl) rfl ?_
    refine r_iconst (v := 1) E (dat dkW_c46 22 rfl) rfl ?_
    refine r_iadd E (dat dkW_c46 23 rfl) ?_
    refine r_sld E hX hb hA hL (nI_add i 1) (show i + 1 < Ls by omega) (dat dkW_c46 24 rfl) ?_
    refine r_aldX E (dat dkW_c46 25 rfl) rfl rfl ?_
    refine r_iload E (dat dkW_c46 26 rfl) rfl ?_
    refine r_iconst (v := 2) E (dat dkW_c46 27 rfl) rfl ?_
    refine r_iadd E (dat dkW_c46 28 rfl) ?_
    refine r_sld E hX hb hA hL (nI_add i 2) (show i + 2 < Ls by omega) (dat dkW_c46 29 rfl) ?_
    refine r_aldX E (dat dkW_c46 30 rfl) rfl rfl ?_
    refine r_iload E (dat dkW_c46 31 rfl) rfl ?_
    refine r_iconst (v := 3) E (dat dkW_c46 32 rfl) rfl ?_
    refine r_iadd E (dat dkW_c46 33 rfl) ?_
    refine r_sld E hX hb hA hL (nI_add i 3) (show i + 3 < Ls by omega) (dat dkW_c46 34 rfl) ?_
    refine r_callV (κ := 9) (μ := [20]) E (hR (vw [20] (loX N M')) rfl) my_X10_burst iv_X10_burst ml_L_304 cm_LR ⟨by decide, rfl, rfl⟩ rfl rfl rfl rfl ⟨Nat.le_of_ble_eq_true rfl, Nat.le_of_ble_eq_true rfl, Nat.le_trans (show k + 16 + 0 ≤ k + 100 by omega) hk, Nat.le_trans (show n + 96 + 0 ≤ n + 1000 by omega) hn⟩ (Nat.le_of_ble_eq_true rfl) (dat dkW_c46 35 rfl) ?_
    rintro r R' hp2
    obtain ⟨⟨bv, rfl⟩, ht, hrel⟩ := P2 2 steN M' rfl hp _ rfl r R' hp2
    refine ⟨_, Mrg_R, ?_⟩
    refine r_istore_6 E (dat dkW_c46 36 rfl) rfl rfl ?_
    refine r_aload_n E (dat dkW_c46 37 rfl) rfl rfl ?_
    refine r_callV (κ := 9) (μ := [20]) E (sp_X10_thrown l G _) my_X10_thrown iv_X10_thrown ml_L_178 cm_LR ⟨by decide, rfl, rfl⟩ rfl rfl rfl rfl ⟨Nat.le_of_ble_eq_true rfl, Nat.le_of_ble_eq_true rfl, Nat.le_trans (show k + 16 + 0 + 0 ≤ k + 100 by omega) hk, Nat.le_trans (show n + 96 + 0 + 0 ≤ n + 1000 by omega) hn⟩ (Nat.le_of_ble_eq_true rfl) (dat dkW_c46 38 rfl) ?_
    rintro _ _ ⟨rfl, rfl⟩
    refine ⟨_, Mrg_T, ?_⟩
    refine r_topE (show vw [20] (setm (loX N M') 20 (R' 0)) 0 0 6 = nI (2 + 1) from ht) ?_
    refine r_iload E (dat dkW_c46 39 rfl) rfl ?_
    refine r_icmp_eq (tgt := 2213) E (dat dkW_c46 40 rfl) rfl (fun _ => ?_) (fun h => absurd rfl h)
    refine r_iload E (dat dkW_c46 43 rfl) rfl ?_
    refine r_if_ne (tgt := 2230) E (dat dkW_c46 44 rfl) rfl (fun _ => ?_) (fun h => absurd h (by decide))
    refine r_goto (tgt := 2775) E (dat dkW_c46 54 rfl) rfl ?_
    refine r_wid (k2 := k + 100) (n2 := n + 1000) (by show k + 16 + 0 + 0 ≤ _; omega) (by show n + 96 + 0 + 0 ≤ _; omega) ?_
    refine r_back rfl (by simp [LW]) (kk _ (RLe_tr hrel (fun j hj => loX_lt hj) rfl))
set_option maxRecDepth 100000 in
set_option maxHeartbeats 8000000 in
theorem lb_47 {p : Program} {l : Launch} {e : Env} {s : State} {m : MethodId} {args : Array Value} {below : List Frame} {meth : Method} {c : Code} {G : GT} {ad : Nat → Nat → Nat} {Q : State → Prop} {k n : Nat} (hst : l.stackTraces = false) (E : EN p s m args meth c G (KL, lkC, ad) cL_law RL 9 (some .boolean)) {b Ls : Nat} {xs : Nat → Int32} (hX : va_X b Ls xs s s.heap) (hb : b < s.heap.size) (hA : ¬ AS (KL, lkC, ad) s.heap.size b) (hL : Ls ≤ 3072) {i : Nat} (hi : i + 6 ≤ Ls) {N : Mem} {B : Int} (H : RLe N (vw [20] N) B) (h0 : 0 ≤ B) (h1 : B + 300 < 2147483648) (hk : k + 100 ≤ room_1.cells) (hn : n + 1000 ≤ room_1.slots)
    (kk : ∀ N2 : Mem, RLe N2 (vw [20] N2) (B + 279) → WM p l e room_1 s m args below meth c G (KL, lkC, ad) 9 Q N2 (k + 100) (n + 1000) 2775 [some (.inl (.ref b)), some (rv 0 0), some (rv 20 0), some (rv 19 0), some (iv (nI i)), none, none, none, none] []) :
    WM p l e room_1 s m args below meth c G (KL, lkC, ad) 9 Q N k n 2233 [some (.inl (.ref b)), some (rv 0 0), some (rv 20 0), some (rv 19 0), some (iv (nI i)), none, none, none, none] [] := by
  obtain ⟨post, XP, post2, hM, hR, hr, hE, P1, P2⟩ := pa_shut l hst G H h0 h1 (xs (i + 1))
  refine r_aload_n E (dat dkW_c47 0 rfl) rfl rfl ?_
  refine r_aldX E (dat dkW_c47 1 rfl) rfl rfl ?_
  refine r_iload E (dat dkW_c47 2 rfl) rfl ?_
  refine r_iconst (v := 1) E (dat dkW_c47 3 rfl) rfl ?_
  refine r_iadd E (dat dkW_c47 4 rfl) ?_
  refine r_sld E hX hb hA hL (nI_add i 1) (show i + 1 < Ls by omega) (dat dkW_c47 5 rfl) ?_
  refine r_aload_n E (dat dkW_c47 6 rfl) rfl rfl ?_
  refine r_callSW (N := 3) (μ := []) E (sp_L_shut l G (xs (i + 1)) N post XP hM hr (fun Ex M' h => by simpa using hE Ex M' h)) ini_L (bg_5 161 (by decide +kernel)) ⟨by decide +kernel, by decide +kernel, by decide +kernel⟩ (bg_5 160 (by decide +kernel)) ml_L_305 cm_LO rfl rfl ⟨Nat.le_of_ble_eq_true rfl, Nat.le_of_ble_eq_true rfl, Nat.le_trans (Nat.add_le_add_left (Nat.le_of_ble_eq_true rfl) k) hk, Nat.le_trans (Nat.add_le_add_left (Nat.le_of_ble_eq_true rfl) n) hn⟩ (Nat.le_of_ble_eq_true rfl) (dat dkW_c47 7 rfl) ?_
  rintro r M9 (⟨v, M', hp, rfl, rfl⟩ | ⟨M', hp, rfl, rfl⟩ | ⟨M', hp, rfl, rfl⟩)
  ·
    refine ⟨_, loV_m, ?_⟩
    refine r_istore_5 E (dat dkW_c47 8 rfl) rfl rfl ?_
    refine r_aload_n E (dat dkW_c47 9 rfl) rfl rfl ?_
    refine r_aldX E (dat dkW_c47 10 rfl) rfl rfl ?_
    refine r_iload E (dat dkW_c47 11 rfl) rfl ?_
    refine r_iconst (v := 1) E (dat dkW_c47 12 rfl) rfl ?_
    refine r_iadd E (dat dkW_c47 13 rfl) ?_
    refine r_sld E hX hb hA hL (nI_add i 1) (show i + 1 < Ls by omega) (dat dkW_c47 14 rfl) ?_
    refine r_callV (κ := 9) (μ := [20]) E (hR (vw [20] (loV N M' v)) rfl) my_X10_shut iv_X10_shut ml_L_307 cm_LR ⟨by decide, rfl, rfl⟩ rfl rfl rfl rfl ⟨Nat.le_of_ble_eq_true rfl, Nat.le_of_ble_eq_true rfl, Nat.le_trans (show k + 6 + 0 ≤ k + 100 by omega) hk, Nat.le_trans (show n + 36 + 0 ≤ n + 1000 by omega) hn⟩ (Nat.le_of_ble_eq_true rfl) (dat dkW_c47 15 rfl) ?_
    rintro r R' hp2
    obtain ⟨rfl, ht, hrel⟩ := P1 v M' hp _ rfl r R' hp2
    refine ⟨_, Mrg_R, ?_⟩
    refine r_istore_6 E (dat dkW_c47 16 rfl) rfl rfl ?_
    refine r_aload_n E (dat dkW_c47 17 rfl) rfl rfl ?_
    refine r_callV (κ := 9) (μ := [20]) E (sp_X10_thrown l G _) my_X10_thrown iv_X10_thrown ml_L_178 cm_LR ⟨by decide, rfl, rfl⟩ rfl rfl rfl rfl ⟨Nat.le_of_ble_eq_true rfl, Nat.le_of_ble_eq_true rfl, Nat.le_trans (show k + 6 + 0 + 0 ≤ k + 100 by omega) hk, Nat.le_trans (show n + 36 + 0 + 0 ≤ n + 1000 by omega) hn⟩ (Nat.le_of_ble_eq_true rfl) (dat dkW_c47 18 rfl) ?_
    rintro _ _ ⟨rfl, rfl⟩
    refine ⟨_, Mrg_T, ?_⟩
    refine r_topE (show vw [20] (setm (loV N M' v) 20 (R' 0)) 0 0 6 = 0 from ht) ?_
    refine r_iload E (dat dkW_c47 19 rfl) rfl ?_
    refine r_icmp_eq (tgt := 2269) E (dat dkW_c47 20 rfl) rfl (fun _ => ?_) (fun h => absurd rfl h)
    refine r_iload E (dat dkW_c47 23 rfl) rfl ?_
    refine r_if_ne (tgt := 2286) E (dat dkW_c47 24 rfl) rfl (fun h => absurd rfl h) (fun _ => ?_)
    refine r_aload_n E (dat dkW_c47 25 rfl) rfl rfl ?_
    refine r_iconst (v := 0) E (dat dkW_c47 26 rfl) rfl ?_
    refine r_lald (N := 1) E (dat dkW_c47 27 rfl) rfl rfl (by unfold vp_in; decide) ?_
    refine r_iload E (dat dkW_c47 28 rfl) rfl ?_
    refine r_i2l E (dat dkW_c47 29 rfl) ?_
    refine r_lcmp E (dat dkW_c47 30 rfl) ?_
    refine r_if_eq (tgt := 2286) E (dat dkW_c47 31 rfl) rfl (fun _ => ?_) (fun h9 => absurd (lg_self v.toInt64) h9)
    refine r_goto (tgt := 2775) E (dat dkW_c47 34 rfl) rfl ?_
    refine r_wid (k2 := k + 100) (n2 := n + 1000) (by show k + 6 + 0 + 0 ≤ _; omega) (by show n + 36 + 0 + 0 ≤ _; omega) ?_
    refine r_back rfl (by simp [LW]) (kk _ (RLe_tr hrel (fun j hj => loV_lt hj) rfl))
  ·
    refine ⟨_, loX_m2, ?_⟩
    refine r_istore_5 E (dat dkW_c47 8 rfl) rfl rfl ?_
    refine r_aload_n E (dat dkW_c47 9 rfl) rfl rfl ?_
    refine r_aldX E (dat dkW_c47 10 rfl) rfl rfl ?_
    refine r_iload E (dat dkW_c47 11 rfl) rfl ?_
    refine r_iconst (v := 1) E (dat dkW_c47 12 rfl) rfl ?_
    refine r_iadd E (dat dkW_c47 13 rfl) ?_
    refine r_sld E hX hb hA hL (nI_add i 1) (show i + 1 < Ls by omega) (dat dkW_c47 14 rfl) ?_
    refine r_callV (κ := 9) (μ := [20]) E (hR (vw [20] (loX N M')) rfl) my_X10_shut iv_X10_shut ml_L_307 cm_LR ⟨by decide, rfl, rfl⟩ rfl rfl rfl rfl ⟨Nat.le_of_ble_eq_true rfl, Nat.le_of_ble_eq_true rfl, Nat.le_trans (show k + 6 + 0 ≤ k + 100 by omega) hk, Nat.le_trans (show n + 36 + 0 ≤ n + 1000 by omega) hn⟩ (Nat.le_of_ble_eq_true rfl) (dat dkW_c47 15 rfl) ?_
    rintro r R' hp2
    obtain ⟨⟨bv, rfl⟩, ht, hrel⟩ := P2 0 oobN M' rfl hp _ rfl r R' hp2
    refine ⟨_, Mrg_R, ?_⟩
    refine r_istore_6 E (dat dkW_c47 16 rfl) rfl rfl ?_
    refine r_aload_n E (dat dkW_c47 17 rfl) rfl rfl ?_
    refine r_callV (κ := 9) (μ := [20]) E (sp_X10_thrown l G _) my_X10_thrown iv_X10_thrown ml_L_178 cm_LR ⟨by decide, rfl, rfl⟩ rfl rfl rfl rfl ⟨Nat.le_of_ble_eq_true rfl, Nat.le_of_ble_eq_true rfl, Nat.le_trans (show k + 6 + 0 + 0 ≤ k + 100 by omega) hk, Nat.le_trans (show n + 36 + 0 + 0 ≤ n + 1000 by omega) hn⟩ (Nat.le_of_ble_eq_true rfl) (dat dkW_c47 18 rfl) ?_
    rintro _ _ ⟨rfl, rfl⟩
    refine ⟨_, Mrg_T, ?_⟩
    refine r_topE (show vw [20] (setm (loX N M') 20 (R' 0)) 0 0 6 = nI (0 + 1) from ht) ?_
    refine r_iload E (dat dkW_c47 19 rfl) rfl ?_
    refine r_icmp_eq (tgt := 2269) E (dat dkW_c47 20 rfl) rfl (fun _ => ?_) (fun h => absurd rfl h)
    refine r_iload E (dat dkW_c47 23 rfl) rfl ?_
    refine r_if_ne (tgt := 2286) E (dat dkW_c47 24 rfl) rfl (fun _ => ?_) (fun h => absurd h (by decide))
    refine r_goto (tgt := 2775) E (dat dkW_c47 34 rfl) rfl ?_
    refine r_wid (k2 := k + 100) (n2 := n + 1000) (by show k + 6 + 0 + 0 ≤ _; omega) (by show n + 36 + 0 + 0 ≤ _; omega) ?_
    refine r_back rfl (by simp [LW]) (kk _ (RLe_tr hrel (fun j hj => loX_lt hj) rfl))
  ·
    refine ⟨_, loX_m2, ?_⟩
    refine r_istore_5 E (dat dkW_c47 8 rfl) rfl rfl ?_
    refine r_aload_n E (dat dkW_c47 9 rfl) rfl rfl ?_
    refine r_aldX E (dat dkW_c47 10 rfl) rfl rfl ?_
    refine r_iload E (dat dkW_c47 11 rfl) rfl ?_
    refine r_iconst (v := 1) E (dat dkW_c47 12 rfl) rfl ?_
    refine r_iadd E (dat dkW_c47 13 rfl) ?_
    refine r_sld E hX hb hA hL (nI_add i 1) (show i + 1 < Ls by omega) (dat dkW_c47 14 rfl) ?_
    refine r_callV (κ := 9) (μ := [20]) E (hR (vw [20] (loX N M')) rfl) my_X10_shut iv_X10_shut ml_L_307 cm_LR ⟨by decide, rfl, rfl⟩ rfl rfl rfl rfl ⟨Nat.le_of_ble_eq_true rfl, Nat.le_of_ble_eq_true rfl, Nat.le_trans (show k + 6 + 0 ≤ k + 100 by omega) hk, Nat.le_trans (show n + 36 + 0 ≤ n + 1000 by omega) hn⟩ (Nat.le_of_ble_eq_true rfl) (dat dkW_c47 15 rfl) ?_
    rintro r R' hp2
    obtain ⟨⟨bv, rfl⟩, ht, hrel⟩ := P2 1 steN M' rfl hp _ rfl r R' hp2
    refine ⟨_, Mrg_R, ?_⟩
    refine r_istore_6 E (dat dkW_c47 16 rfl) rfl rfl ?_
    refine r_aload_n E (dat dkW_c47 17 rfl) rfl rfl ?_
    refine r_callV (κ := 9) (μ := [20]) E (sp_X10_thrown l G _) my_X10_thrown iv_X10_thrown ml_L_178 cm_LR ⟨by decide, rfl, rfl⟩ rfl rfl rfl rfl ⟨Nat.le_of_ble_eq_true rfl, Nat.le_of_ble_eq_true rfl, Nat.le_trans (show k + 6 + 0 + 0 ≤ k + 100 by omega) hk, Nat.le_trans (show n + 36 + 0 + 0 ≤ n + 1000 by omega) hn⟩ (Nat.le_of_ble_eq_true rfl) (dat dkW_c47 18 rfl) ?_
    rintro _ _ ⟨rfl, rfl⟩
    refine ⟨_, Mrg_T, ?_⟩
    refine r_topE (show vw [20] (setm (loX N M') 20 (R' 0)) 0 0 6 = nI (1 + 1) from ht) ?_
    refine r_iload E (dat dkW_c47 19 rfl) rfl ?_
    refine r_icmp_eq (tgt := 2269) E (dat dkW_c47 20 rfl) rfl (fun _ => ?_) (fun h => absurd rfl h)
    refine r_iload E (dat dkW_c47 23 rfl) rfl ?_
    refine r_if_ne (tgt := 2286) E (dat dkW_c47 24 rfl) rfl (fun _ => ?_) (fun h => absurd h (by decide))
    refine r_goto (tgt := 2775) E (dat dkW_c47 34 rfl) rfl ?_
    refine r_wid (k2 := k + 100) (n2 := n + 1000) (by show k + 6 + 0 + 0 ≤ _; omega) (by show n + 36 + 0 + 0 ≤ _; omega) ?_
    refine r_back rfl (by simp [LW]) (kk _ (RLe_tr hrel (fun j hj => loX_lt hj) rfl))
set_option maxRecDepth 100000 in
set_option maxHeartbeats 8000000 in
theorem lb_48 {p : Program} {l : Launch} {e : Env} {s : State} {m : MethodId} {args : Array Value} {below : List Frame} {meth : Method} {c : Code} {G : GT} {ad : Nat → Nat → Nat} {Q : State → Prop} {k n : Nat} (hst : l.stackTraces = false) (E : EN p s m args meth c G (KL, lkC, ad) cL_law RL 9 (some .boolean)) {b Ls : Nat} {xs : Nat → Int32} (hX : va_X b Ls xs s s.heap) (hb : b < s.heap.size) (hA : ¬ AS (KL, lkC, ad) s.heap.size b) (hL : Ls ≤ 3072) {i : Nat} (hi : i + 6 ≤ Ls) {N : Mem} {B : Int} (H : RLe N (vw [20] N) B) (h0 : 0 ≤ B) (h1 : B + 300 < 2147483648) (hk : k + 100 ≤ room_1.cells) (hn : n + 1000 ≤ room_1.slots)
    (kk : ∀ N2 : Mem, RLe N2 (vw [20] N2) (B + 279) → WM p l e room_1 s m args below meth c G (KL, lkC, ad) 9 Q N2 (k + 100) (n + 1000) 2775 [some (.inl (.ref b)), some (rv 0 0), some (rv 20 0), some (rv 19 0), some (iv (nI i)), none, none, none, none] []) :
    WM p l e room_1 s m args below meth c G (KL, lkC, ad) 9 Q N k n 2289 [some (.inl (.ref b)), some (rv 0 0), some (rv 20 0), some (rv 19 0), some (iv (nI i)), none, none, none, none] [] := by
  obtain ⟨post, XP, post2, hM, hR, hr, hE, P1, P2⟩ := pa_dropLeaves l hst G H h0 h1 (xs (i + 1)) (xs (i + 2))
  refine r_aload_n E (dat dkW_c48 0 rfl) rfl rfl ?_
  refine r_aldX E (dat dkW_c48 1 rfl) rfl rfl ?_
  refine r_iload E (dat dkW_c48 2 rfl) rfl ?_
  refine r_iconst (v := 1) E (dat dkW_c48 3 rfl) rfl ?_
  refine r_iadd E (dat dkW_c48 4 rfl) ?_
  refine r_sld E hX hb hA hL (nI_add i 1) (show i + 1 < Ls by omega) (dat dkW_c48 5 rfl) ?_
  refine r_aldX E (dat dkW_c48 6 rfl) rfl rfl ?_
  refine r_iload E (dat dkW_c48 7 rfl) rfl ?_
  refine r_iconst (v := 2) E (dat dkW_c48 8 rfl) rfl ?_
  refine r_iadd E (dat dkW_c48 9 rfl) ?_
  refine r_sld E hX hb hA hL (nI_add i 2) (show i + 2 < Ls by omega) (dat dkW_c48 10 rfl) ?_
  refine r_aload_n E (dat dkW_c48 11 rfl) rfl rfl ?_
  refine r_callSW (N := 4) (μ := []) E (sp_L_dropLeaves l G (xs (i + 1)) (xs (i + 2)) N post XP hM hr (fun Ex M' h => by simpa using hE Ex M' h)) ini_L (bg_5 169 (by decide +kernel)) ⟨by decide +kernel, by decide +kernel, by decide +kernel⟩ (bg_5 168 (by decide +kernel)) ml_L_308 cm_LO rfl rfl ⟨Nat.le_of_ble_eq_true rfl, Nat.le_of_ble_eq_true rfl, Nat.le_trans (Nat.add_le_add_left (Nat.le_of_ble_eq_true rfl) k) hk, Nat.le_trans (Nat.add_le_add_left (Nat.le_of_ble_eq_true rfl) n) hn⟩ (Nat.le_of_ble_eq_true rfl) (dat dkW_c48 12 rfl) ?_
  rintro r M9 (⟨v, M', hp, rfl, rfl⟩ | ⟨M', hp, rfl, rfl⟩ | ⟨M', hp, rfl, rfl⟩)
  ·
    refine ⟨_, loV_m, ?_⟩
    refine r_istore_5 E (dat dkW_c48 13 rfl) rfl rfl ?_
    refine r_aload_n E (dat dkW_c48 14 rfl) rfl rfl ?_
    refine r_aldX E (dat dkW_c48 15 rfl) rfl rfl ?_
    refine r_iload E (dat dkW_c48 16 rfl) rfl ?_
    refine r_iconst (v := 1) E (dat dkW_c48 17 rfl) rfl ?_
    refine r_iadd E (dat dkW_c48 18 rfl) ?_
    refine r_sld E hX hb hA hL (nI_add i 1) (show i + 1 < Ls by omega) (dat dkW_c48 19 rfl) ?_
    refine r_aldX E (dat dkW_c48 20 rfl) rfl rfl ?_
    refine r_iload E (dat dkW_c48 21 rfl) rfl ?_
    refine r_iconst (v := 2) E (dat dkW_c48 22 rfl) rfl ?_
    refine r_iadd E (dat dkW_c48 23 rfl) ?_
    refine r_sld E hX hb hA hL (nI_add i 2) (show i + 2 < Ls by omega) (dat dkW_c48 24 rfl) ?_
    refine r_callV (κ := 9) (μ := [20]) E (hR (vw [20] (loV N M' v)) rfl) my_X10_dropLeaves iv_X10_dropLeaves ml_L_310 cm_LR ⟨by decide, rfl, rfl⟩ rfl rfl rfl rfl ⟨Nat.le_of_ble_eq_true rfl, Nat.le_of_ble_eq_true rfl, Nat.le_trans (show k + 8 + 0 ≤ k + 100 by omega) hk, Nat.le_trans (show n + 48 + 0 ≤ n + 1000 by omega) hn⟩ (Nat.le_of_ble_eq_true rfl) (dat dkW_c48 25 rfl) ?_
    rintro r R' hp2
    obtain ⟨rfl, ht, hrel⟩ := P1 v M' hp _ rfl r R' hp2
    refine ⟨_, Mrg_R, ?_⟩
    refine r_istore_6 E (dat dkW_c48 26 rfl) rfl rfl ?_
    refine r_aload_n E (dat dkW_c48 27 rfl) rfl rfl ?_
    refine r_callV (κ := 9) (μ := [20]) E (sp_X10_thrown l G _) my_X10_thrown iv_X10_thrown ml_L_178 cm_LR ⟨by decide, rfl, rfl⟩ rfl rfl rfl rfl ⟨Nat.le_of_ble_eq_true rfl, Nat.le_of_ble_eq_true rfl, Nat.le_trans (show k + 8 + 0 + 0 ≤ k + 100 by omega) hk, Nat.le_trans (show n + 48 + 0 + 0 ≤ n + 1000 by omega) hn⟩ (Nat.le_of_ble_eq_true rfl) (dat dkW_c48 28 rfl) ?_
    rintro _ _ ⟨rfl, rfl⟩
    refine ⟨_, Mrg_T, ?_⟩
    refine r_topE (show vw [20] (setm (loV N M' v) 20 (R' 0)) 0 0 6 = 0 from ht) ?_
    refine r_iload E (dat dkW_c48 29 rfl) rfl ?_
    refine r_icmp_eq (tgt := 2337) E (dat dkW_c48 30 rfl) rfl (fun _ => ?_) (fun h => absurd rfl h)
    refine r_iload E (dat dkW_c48 33 rfl) rfl ?_
    refine r_if_ne (tgt := 2354) E (dat dkW_c48 34 rfl) rfl (fun h => absurd rfl h) (fun _ => ?_)
    refine r_aload_n E (dat dkW_c48 35 rfl) rfl rfl ?_
    refine r_iconst (v := 0) E (dat dkW_c48 36 rfl) rfl ?_
    refine r_lald (N := 1) E (dat dkW_c48 37 rfl) rfl rfl (by unfold vp_in; decide) ?_
    refine r_iload E (dat dkW_c48 38 rfl) rfl ?_
    refine r_i2l E (dat dkW_c48 39 rfl) ?_
    refine r_lcmp E (dat dkW_c48 40 rfl) ?_
    refine r_if_eq (tgt := 2354) E (dat dkW_c48 41 rfl) rfl (fun _ => ?_) (fun h9 => absurd (lg_self v.toInt64) h9)
    refine r_goto (tgt := 2775) E (dat dkW_c48 44 rfl) rfl ?_
    refine r_wid (k2 := k + 100) (n2 := n + 1000) (by show k + 8 + 0 + 0 ≤ _; omega) (by show n + 48 + 0 + 0 ≤ _; omega) ?_
    refine r_back rfl (by simp [LW]) (kk _ (RLe_tr hrel (fun j hj => loV_lt hj) rfl))
  ·
    refine ⟨_, loX_m2, ?_⟩
    refine r_istore_5 E (dat dkW_c48 13 rfl) rfl rfl ?_
    refine r_aload_n E (dat dkW_c48 14 rfl) rfl rfl ?_
    refine r_aldX E (dat dkW_c48 15 rfl) rfl rfl ?_
    refine r_iload E (dat dkW_c48 16 rfl) rfl ?_
    refine r_iconst (v := 1) E (dat dkW_c48 17 rfl) rfl ?_
    refine r_iadd E (dat dkW_c48 18 rfl) ?_
    refine r_sld E hX hb hA hL (nI_add i 1) (show i + 1 < Ls by omega) (dat dkW_c48 19 rfl) ?_
    refine r_aldX E (dat dkW_c48 20 rfl) rfl rfl ?_
    refine r_iload E (dat dkW_c48 21 rfl) rfl ?_
    refine r_iconst (v := 2) E (dat dkW_c48 22 rfl) rfl ?_
    refine r_iadd E (dat dkW_c48 23 rfl) ?_
    refine r_sld E hX hb hA hL (nI_add i 2) (show i + 2 < Ls by omega) (dat dkW_c48 24 rfl) ?_
    refine r_callV (κ := 9) (μ := [20]) E (hR (vw [20] (loX N M')) rfl) my_X10_dropLeaves iv_X10_dropLeaves ml_L_310 cm_LR ⟨by decide, rfl, rfl⟩ rfl rfl rfl rfl ⟨Nat.le_of_ble_eq_true rfl, Nat.le_of_ble_eq_true rfl, Nat.le_trans (show k + 8 + 0 ≤ k + 100 by omega) hk, Nat.le_trans (show n + 48 + 0 ≤ n + 1000 by omega) hn⟩ (Nat.le_of_ble_eq_true rfl) (dat dkW_c48 25 rfl) ?_
    rintro r R' hp2
    obtain ⟨⟨bv, rfl⟩, ht, hrel⟩ := P2 0 oobN M' rfl hp _ rfl r R' hp2
    refine ⟨_, Mrg_R, ?_⟩
    refine r_istore_6 E (dat dkW_c48 26 rfl) rfl rfl ?_
    refine r_aload_n E (dat dkW_c48 27 rfl) rfl rfl ?_
    refine r_callV (κ := 9) (μ := [20]) E (sp_X10_thrown l G _) my_X10_thrown iv_X10_thrown ml_L_178 cm_LR ⟨by decide, rfl, rfl⟩ rfl rfl rfl rfl ⟨Nat.le_of_ble_eq_true rfl, Nat.le_of_ble_eq_true rfl, Nat.le_trans (show k + 8 + 0 + 0 ≤ k + 100 by omega) hk, Nat.le_trans (show n + 48 + 0 + 0 ≤ n + 1000 by omega) hn⟩ (Nat.le_of_ble_eq_true rfl) (dat dkW_c48 28 rfl) ?_
    rintro _ _ ⟨rfl, rfl⟩
    refine ⟨_, Mrg_T, ?_⟩
    refine r_topE (show vw [20] (setm (loX N M') 20 (R' 0)) 0 0 6 = nI (0 + 1) from ht) ?_
    refine r_iload E (dat dkW_c48 29 rfl) rfl ?_
    refine r_icmp_eq (tgt := 2337) E (dat dkW_c48 30 rfl) rfl (fun _ => ?_) (fun h => absurd rfl h)
    refine r_iload E (dat dkW_c48 33 rfl) rfl ?_
    refine r_if_ne (tgt := 2354) E (dat dkW_c48 34 rfl) rfl (fun _ => ?_) (fun h => absurd h (by decide))
    refine r_goto (tgt := 2775) E (dat dkW_c48 44 rfl) rfl ?_
    refine r_wid (k2 := k + 100) (n2 := n + 1000) (by show k + 8 + 0 + 0 ≤ _; omega) (by show n + 48 + 0 + 0 ≤ _; omega) ?_
    refine r_back rfl (by simp [LW]) (kk _ (RLe_tr hrel (fun j hj => loX_lt hj) rfl))
  ·
    refine ⟨_, loX_m2, ?_⟩
    refine r_istore_5 E (dat dkW_c48 13 rfl) rfl rfl ?_
    refine r_aload_n E (dat dkW_c48 14 rfl) rfl rfl ?_
    refine r_aldX E (dat dkW_c48 15 rfl) rfl rfl ?_
    refine r_iload E (dat dkW_c48 16 rfl) rfl ?_
    refine r_iconst (v := 1) E (dat dkW_c48 17 rfl) rfl ?_
    refine r_iadd E (dat dkW_c48 18 rfl) ?_
    refine r_sld E hX hb hA hL (nI_add i 1) (show i + 1 < Ls by omega) (dat dkW_c48 19 rfl) ?_
    refine r_aldX E (dat dkW_c48 20 rfl) rfl rfl ?_
    refine r_iload E (dat dkW_c48 21 rfl) rfl ?_
    refine r_iconst (v := 2) E (dat dkW_c48 22 rfl) rfl ?_
    refine r_iadd E (dat dkW_c48 23 rfl) ?_
    refine r_sld E hX hb hA hL (nI_add i 2) (show i + 2 < Ls by omega) (dat dkW_c48 24 rfl) ?_
    refine r_callV (κ := 9) (μ := [20]) E (hR (vw [20] (loX N M')) rfl) my_X10_dropLeaves iv_X10_dropLeaves ml_L_310 cm_LR ⟨by decide, rfl, rfl⟩ rfl rfl rfl rfl ⟨Nat.le_of_ble_eq_true rfl, Nat.le_of_ble_eq_true rfl, Nat.le_trans (show k + 8 + 0 ≤ k + 100 by omega) hk, Nat.le_trans (show n + 48 + 0 ≤ n + 1000 by omega) hn⟩ (Nat.le_of_ble_eq_true rfl) (dat dkW_c48 25 rfl) ?_
    rintro r R' hp2
    obtain ⟨⟨bv, rfl⟩, ht, hrel⟩ := P2 1 argN M' rfl hp _ rfl r R' hp2
    refine ⟨_, Mrg_R, ?_⟩
    refine r_istore_6 E (dat dkW_c48 26 rfl) rfl rfl ?_
    refine r_aload_n E (dat dkW_c48 27 rfl) rfl rfl ?_
    refine r_callV (κ := 9) (μ := [20]) E (sp_X10_thrown l G _) my_X10_thrown iv_X10_thrown ml_L_178 cm_LR ⟨by decide, rfl, rfl⟩ rfl rfl rfl rfl ⟨Nat.le_of_ble_eq_true rfl, Nat.le_of_ble_eq_true rfl, Nat.le_trans (show k + 8 + 0 + 0 ≤ k + 100 by omega) hk, Nat.le_trans (show n + 48 + 0 + 0 ≤ n + 1000 by omega) hn⟩ (Nat.le_of_ble_eq_true rfl) (dat dkW_c48 28 rfl) ?_
    rintro _ _ ⟨rfl, rfl⟩
    refine ⟨_, Mrg_T, ?_⟩
    refine r_topE (show vw [20] (setm (loX N M') 20 (R' 0)) 0 0 6 = nI (1 + 1) from ht) ?_
    refine r_iload E (dat dkW_c48 29 rfl) rfl ?_
    refine r_icmp_eq (tgt := 2337) E (dat dkW_c48 30 rfl) rfl (fun _ => ?_) (fun h => absurd rfl h)
    refine r_iload E (dat dkW_c48 33 rfl) rfl ?_
    refine r_if_ne (tgt := 2354) E (dat dkW_c48 34 rfl) rfl (fun _ => ?_) (fun h => absurd h (by decide))
    refine r_goto (tgt := 2775) E (dat dkW_c48 44 rfl) rfl ?_
    refine r_wid (k2 := k + 100) (n2 := n + 1000) (by show k + 8 + 0 + 0 ≤ _; omega) (by show n + 48 + 0 + 0 ≤ _; omega) ?_
    refine r_back rfl (by simp [LW]) (kk _ (RLe_tr hrel (fun j hj => loX_lt hj) rfl))
set_option maxRecDepth 100000 in
set_option maxHeartbeats 8000000 in
theorem lb_49 {p : Program} {l : Launch} {e : Env} {s : State} {m : MethodId} {args : Array Value} {below : List Frame} {meth : Method} {c : Code} {G : GT} {ad : Nat → Nat → Nat} {Q : State → Prop} {k n : Nat} (hst : l.stackTraces = false) (E : EN p s m args meth c G (KL, lkC, ad) cL_law RL 9 (some .boolean)) {b Ls : Nat} {xs : Nat → Int32} (hX : va_X b Ls xs s s.heap) (hb : b < s.heap.size) (hA : ¬ AS (KL, lkC, ad) s.heap.size b) (hL : Ls ≤ 3072) {i : Nat} (hi : i + 6 ≤ Ls) {N : Mem} {B : Int} (H : RLe N (vw [20] N) B) (h0 : 0 ≤ B) (h1 : B + 300 < 2147483648) (hk : k + 100 ≤ room_1.cells) (hn : n + 1000 ≤ room_1.slots)
    (kk : ∀ N2 : Mem, RLe N2 (vw [20] N2) (B + 279) → WM p l e room_1 s m args below meth c G (KL, lkC, ad) 9 Q N2 (k + 100) (n + 1000) 2775 [some (.inl (.ref b)), some (rv 0 0), some (rv 20 0), some (rv 19 0), some (iv (nI i)), none, none, none, none] []) :
    WM p l e room_1 s m args below meth c G (KL, lkC, ad) 9 Q N k n 2357 [some (.inl (.ref b)), some (rv 0 0), some (rv 20 0), some (rv 19 0), some (iv (nI i)), none, none, none, none] [] := by
  obtain ⟨post, XP, post2, hM, hR, hr, hE, P1, P2⟩ := pa_sweep l hst G H h0 h1 (xs (i + 1))
  refine r_aload_n E (dat dkW_c49 0 rfl) rfl rfl ?_
  refine r_aldX E (dat dkW_c49 1 rfl) rfl rfl ?_
  refine r_iload E (dat dkW_c49 2 rfl) rfl ?_
  refine r_iconst (v := 1) E (dat dkW_c49 3 rfl) rfl ?_
  refine r_iadd E (dat dkW_c49 4 rfl) ?_
  refine r_sld E hX hb hA hL (nI_add i 1) (show i + 1 < Ls by omega) (dat dkW_c49 5 rfl) ?_
  refine r_aload_n E (dat dkW_c49 6 rfl) rfl rfl ?_
  refine r_callSW (N := 3) (μ := []) E (sp_L_sweep l G (xs (i + 1)) N post XP hM hr (fun Ex M' h => by simpa using hE Ex M' h)) ini_L (bg_5 177 (by decide +kernel)) ⟨by decide +kernel, by decide +kernel, by decide +kernel⟩ (bg_5 176 (by decide +kernel)) ml_L_311 cm_LO rfl rfl ⟨Nat.le_of_ble_eq_true rfl, Nat.le_of_ble_eq_true rfl, Nat.le_trans (Nat.add_le_add_left (Nat.le_of_ble_eq_true rfl) k) hk, Nat.le_trans (Nat.add_le_add_left (Nat.le_of_ble_eq_true rfl) n) hn⟩ (Nat.le_of_ble_eq_true rfl) (dat dkW_c49 7 rfl) ?_
  rintro r M9 (⟨v, M', hp, rfl, rfl⟩ | ⟨M', hp, rfl, rfl⟩)
  ·
    refine ⟨_, loV_m, ?_⟩
    refine r_istore_5 E (dat dkW_c49 8 rfl) rfl rfl ?_
    refine r_aload_n E (dat dkW_c49 9 rfl) rfl rfl ?_
    refine r_aldX E (dat dkW_c49 10 rfl) rfl rfl ?_
    refine r_iload E (dat dkW_c49 11 rfl) rfl ?_
    refine r_iconst (v := 1) E (dat dkW_c49 12 rfl) rfl ?_
    refine r_iadd E (dat dkW_c49 13 rfl) ?_
    refine r_sld E hX hb hA hL (nI_add i 1) (show i + 1 < Ls by omega) (dat dkW_c49 14 rfl) ?_
    refine r_callV (κ := 9) (μ := [20]) E (hR (vw [20] (loV N M' v)) rfl) my_X10_sweep iv_X10_sweep ml_L_313 cm_LR ⟨by decide, rfl, rfl⟩ rfl rfl rfl rfl ⟨Nat.le_of_ble_eq_true rfl, Nat.le_of_ble_eq_true rfl, Nat.le_trans (show k + 4 + 0 ≤ k + 100 by omega) hk, Nat.le_trans (show n + 24 + 0 ≤ n + 1000 by omega) hn⟩ (Nat.le_of_ble_eq_true rfl) (dat dkW_c49 15 rfl) ?_
    rintro r R' hp2
    obtain ⟨rfl, ht, hrel⟩ := P1 v M' hp _ rfl r R' hp2
    refine ⟨_, Mrg_R, ?_⟩
    refine r_istore_6 E (dat dkW_c49 16 rfl) rfl rfl ?_
    refine r_aload_n E (dat dkW_c49 17 rfl) rfl rfl ?_
    refine r_callV (κ := 9) (μ := [20]) E (sp_X10_thrown l G _) my_X10_thrown iv_X10_thrown ml_L_178 cm_LR ⟨by decide, rfl, rfl⟩ rfl rfl rfl rfl ⟨Nat.le_of_ble_eq_true rfl, Nat.le_of_ble_eq_true rfl, Nat.le_trans (show k + 4 + 0 + 0 ≤ k + 100 by omega) hk, Nat.le_trans (show n + 24 + 0 + 0 ≤ n + 1000 by omega) hn⟩ (Nat.le_of_ble_eq_true rfl) (dat dkW_c49 18 rfl) ?_
    rintro _ _ ⟨rfl, rfl⟩
    refine ⟨_, Mrg_T, ?_⟩
    refine r_topE (show vw [20] (setm (loV N M' v) 20 (R' 0)) 0 0 6 = 0 from ht) ?_
    refine r_iload E (dat dkW_c49 19 rfl) rfl ?_
    refine r_icmp_eq (tgt := 2393) E (dat dkW_c49 20 rfl) rfl (fun _ => ?_) (fun h => absurd rfl h)
    refine r_iload E (dat dkW_c49 23 rfl) rfl ?_
    refine r_if_ne (tgt := 2410) E (dat dkW_c49 24 rfl) rfl (fun h => absurd rfl h) (fun _ => ?_)
    refine r_aload_n E (dat dkW_c49 25 rfl) rfl rfl ?_
    refine r_iconst (v := 0) E (dat dkW_c49 26 rfl) rfl ?_
    refine r_lald (N := 1) E (dat dkW_c49 27 rfl) rfl rfl (by unfold vp_in; decide) ?_
    refine r_iload E (dat dkW_c49 28 rfl) rfl ?_
    refine r_i2l E (dat dkW_c49 29 rfl) ?_
    refine r_lcmp E (dat dkW_c49 30 rfl) ?_
    refine r_if_eq (tgt := 2410) E (dat dkW_c49 31 rfl) rfl (fun _ => ?_) (fun h9 => absurd (lg_self v.toInt64) h9)
    refine r_goto (tgt := 2775) E (dat dkW_c49 34 rfl) rfl ?_
    refine r_wid (k2 := k + 100) (n2 := n + 1000) (by show k + 4 + 0 + 0 ≤ _; omega) (by show n + 24 + 0 + 0 ≤ _; omega) ?_
    refine r_back rfl (by simp [LW]) (kk _ (RLe_tr hrel (fun j hj => loV_lt hj) rfl))
  ·
    refine ⟨_, loX_m2, ?_⟩
    refine r_istore_5 E (dat dkW_c49 8 rfl) rfl rfl ?_
    refine r_aload_n E (dat dkW_c49 9 rfl) rfl rfl ?_
    refine r_aldX E (dat dkW_c49 10 rfl) rfl rfl ?_
    refine r_iload E (dat dkW_c49 11 rfl) rfl ?_
    refine r_iconst (v := 1) E (dat dkW_c49 12 rfl) rfl ?_
    refine r_iadd E (dat dkW_c49 13 rfl) ?_
    refine r_sld E hX hb hA hL (nI_add i 1) (show i + 1 < Ls by omega) (dat dkW_c49 14 rfl) ?_
    refine r_callV (κ := 9) (μ := [20]) E (hR (vw [20] (loX N M')) rfl) my_X10_sweep iv_X10_sweep ml_L_313 cm_LR ⟨by decide, rfl, rfl⟩ rfl rfl rfl rfl ⟨Nat.le_of_ble_eq_true rfl, Nat.le_of_ble_eq_true rfl, Nat.le_trans (show k + 4 + 0 ≤ k + 100 by omega) hk, Nat.le_trans (show n + 24 + 0 ≤ n + 1000 by omega) hn⟩ (Nat.le_of_ble_eq_true rfl) (dat dkW_c49 15 rfl) ?_
    rintro r R' hp2
    obtain ⟨⟨bv, rfl⟩, ht, hrel⟩ := P2 0 oobN M' rfl hp _ rfl r R' hp2
    refine ⟨_, Mrg_R, ?_⟩
    refine r_istore_6 E (dat dkW_c49 16 rfl) rfl rfl ?_
    refine r_aload_n E (dat dkW_c49 17 rfl) rfl rfl ?_
    refine r_callV (κ := 9) (μ := [20]) E (sp_X10_thrown l G _) my_X10_thrown iv_X10_thrown ml_L_178 cm_LR ⟨by decide, rfl, rfl⟩ rfl rfl rfl rfl ⟨Nat.le_of_ble_eq_true rfl, Nat.le_of_ble_eq_true rfl, Nat.le_trans (show k + 4 + 0 + 0 ≤ k + 100 by omega) hk, Nat.le_trans (show n + 24 + 0 + 0 ≤ n + 1000 by omega) hn⟩ (Nat.le_of_ble_eq_true rfl) (dat dkW_c49 18 rfl) ?_
    rintro _ _ ⟨rfl, rfl⟩
    refine ⟨_, Mrg_T, ?_⟩
    refine r_topE (show vw [20] (setm (loX N M') 20 (R' 0)) 0 0 6 = nI (0 + 1) from ht) ?_
    refine r_iload E (dat dkW_c49 19 rfl) rfl ?_
    refine r_icmp_eq (tgt := 2393) E (dat dkW_c49 20 rfl) rfl (fun _ => ?_) (fun h => absurd rfl h)
    refine r_iload E (dat dkW_c49 23 rfl) rfl ?_
    refine r_if_ne (tgt := 2410) E (dat dkW_c49 24 rfl) rfl (fun _ => ?_) (fun h => absurd h (by decide))
    refine r_goto (tgt := 2775) E (dat dkW_c49 34 rfl) rfl ?_
    refine r_wid (k2 := k + 100) (n2 := n + 1000) (by show k + 4 + 0 + 0 ≤ _; omega) (by show n + 24 + 0 + 0 ≤ _; omega) ?_
    refine r_back rfl (by simp [LW]) (kk _ (RLe_tr hrel (fun j hj => loX_lt hj) rfl))
set_option maxRecDepth 100000 in
set_option maxHeartbeats 8000000 in
theorem lb_50 {p : Program} {l : Launch} {e : Env} {s : State} {m : MethodId} {args : Array Value} {below : List Frame} {meth : Method} {c : Code} {G : GT} {ad : Nat → Nat → Nat} {Q : State → Prop} {k n : Nat} (hst : l.stackTraces = false) (E : EN p s m args meth c G (KL, lkC, ad) cL_law RL 9 (some .boolean)) {b Ls : Nat} {xs : Nat → Int32} (hX : va_X b Ls xs s s.heap) (hb : b < s.heap.size) (hA : ¬ AS (KL, lkC, ad) s.heap.size b) (hL : Ls ≤ 3072) {i : Nat} (hi : i + 6 ≤ Ls) {N : Mem} {B : Int} (H : RLe N (vw [20] N) B) (h0 : 0 ≤ B) (h1 : B + 300 < 2147483648) (hk : k + 100 ≤ room_1.cells) (hn : n + 1000 ≤ room_1.slots)
    (kk : ∀ N2 : Mem, RLe N2 (vw [20] N2) (B + 279) → WM p l e room_1 s m args below meth c G (KL, lkC, ad) 9 Q N2 (k + 100) (n + 1000) 2775 [some (.inl (.ref b)), some (rv 0 0), some (rv 20 0), some (rv 19 0), some (iv (nI i)), none, none, none, none] []) :
    WM p l e room_1 s m args below meth c G (KL, lkC, ad) 9 Q N k n 2413 [some (.inl (.ref b)), some (rv 0 0), some (rv 20 0), some (rv 19 0), some (iv (nI i)), none, none, none, none] [] := by
  obtain ⟨post, XP, post2, hM, hR, hr, hE, P1, P2⟩ := pa_walk l hst G H h0 h1 (xs (i + 1)) (xs (i + 2))
  refine r_aload_n E (dat dkW_c50 0 rfl) rfl rfl ?_
  refine r_aldX E (dat dkW_c50 1 rfl) rfl rfl ?_
  refine r_iload E (dat dkW_c50 2 rfl) rfl ?_
  refine r_iconst (v := 1) E (dat dkW_c50 3 rfl) rfl ?_
  refine r_iadd E (dat dkW_c50 4 rfl) ?_
  refine r_sld E hX hb hA hL (nI_add i 1) (show i + 1 < Ls by omega) (dat dkW_c50 5 rfl) ?_
  refine r_aldX E (dat dkW_c50 6 rfl) rfl rfl ?_
  refine r_iload E (dat dkW_c50 7 rfl) rfl ?_
  refine r_iconst (v := 2) E (dat dkW_c50 8 rfl) rfl ?_
  refine r_iadd E (dat dkW_c50 9 rfl) ?_
  refine r_sld E hX hb hA hL (nI_add i 2) (show i + 2 < Ls by omega) (dat dkW_c50 10 rfl) ?_
  refine r_aload_n E (dat dkW_c50 11 rfl) rfl rfl ?_
  refine r_callSW (N := 4) (μ := []) E (sp_L_walk l G (xs (i + 1)) (xs (i + 2)) N post XP hM hr (fun Ex M' h => by simpa using hE Ex M' h)) ini_L (bg_5 185 (by decide +kernel)) ⟨by decide +kernel, by decide +kernel, by decide +kernel⟩ (bg_5 184 (by decide +kernel)) ml_L_314 cm_LO rfl rfl ⟨Nat.le_of_ble_eq_true rfl, Nat.le_of_ble_eq_true rfl, Nat.le_trans (Nat.add_le_add_left (Nat.le_of_ble_eq_true rfl) k) hk, Nat.le_trans (Nat.add_le_add_left (Nat.le_of_ble_eq_true rfl) n) hn⟩ (Nat.le_of_ble_eq_true rfl) (dat dkW_c50 12 rfl) ?_
  rintro r M9 (⟨v, M', hp, rfl, rfl⟩ | ⟨M', hp, rfl, rfl⟩ | ⟨M', hp, rfl, rfl⟩ | ⟨M', hp, rfl, rfl⟩)
  ·
    refine ⟨_, loV_m, ?_⟩
    refine r_istore_5 E (dat dkW_c50 13 rfl) rfl rfl ?_
    refine r_aload_n E (dat dkW_c50 14 rfl) rfl rfl ?_
    refine r_aldX E (dat dkW_c50 15 rfl) rfl rfl ?_
    refine r_iload E (dat dkW_c50 16 rfl) rfl ?_
    refine r_iconst (v := 1) E (dat dkW_c50 17 rfl) rfl ?_
    refine r_iadd E (dat dkW_c50 18 rfl) ?_
    refine r_sld E hX hb hA hL (nI_add i 1) (show i + 1 < Ls by omega) (dat dkW_c50 19 rfl) ?_
    refine r_aldX E (dat dkW_c50 20 rfl) rfl rfl ?_
    refine r_iload E (dat dkW_c50 21 rfl) rfl ?_
    refine r_iconst (v := 2) E (dat dkW_c50 22 rfl) rfl ?_
    refine r_iadd E (dat dkW_c50 23 rfl) ?_
    refine r_sld E hX hb hA hL (nI_add i 2) (show i + 2 < Ls by omega) (dat dkW_c50 24 rfl) ?_
    refine r_callV (κ := 9) (μ := [20]) E (hR (vw [20] (loV N M' v)) rfl) my_X10_walk iv_X10_walk ml_L_316 cm_LR ⟨by decide, rfl, rfl⟩ rfl rfl rfl rfl ⟨Nat.le_of_ble_eq_true rfl, Nat.le_of_ble_eq_true rfl, Nat.le_trans (show k + 14 + 0 ≤ k + 100 by omega) hk, Nat.le_trans (show n + 84 + 0 ≤ n + 1000 by omega) hn⟩ (Nat.le_of_ble_eq_true rfl) (dat dkW_c50 25 rfl) ?_
    rintro r R' hp2
    obtain ⟨rfl, ht, hrel⟩ := P1 v M' hp _ rfl r R' hp2
    refine ⟨_, Mrg_R, ?_⟩
    refine r_istore_6 E (dat dkW_c50 26 rfl) rfl rfl ?_
    refine r_aload_n E (dat dkW_c50 27 rfl) rfl rfl ?_
    refine r_callV (κ := 9) (μ := [20]) E (sp_X10_thrown l G _) my_X10_thrown iv_X10_thrown ml_L_178 cm_LR ⟨by decide, rfl, rfl⟩ rfl rfl rfl rfl ⟨Nat.le_of_ble_eq_true rfl, Nat.le_of_ble_eq_true rfl, Nat.le_trans (show k + 14 + 0 + 0 ≤ k + 100 by omega) hk, Nat.le_trans (show n + 84 + 0 + 0 ≤ n + 1000 by omega) hn⟩ (Nat.le_of_ble_eq_true rfl) (dat dkW_c50 28 rfl) ?_
    rintro _ _ ⟨rfl, rfl⟩
    refine ⟨_, Mrg_T, ?_⟩
    refine r_topE (show vw [20] (setm (loV N M' v) 20 (R' 0)) 0 0 6 = 0 from ht) ?_
    refine r_iload E (dat dkW_c50 29 rfl) rfl ?_
    refine r_icmp_eq (tgt := 2461) E (dat dkW_c50 30 rfl) rfl (fun _ => ?_) (fun h => absurd rfl h)
    refine r_iload E (dat dkW_c50 33 rfl) rfl ?_
    refine r_if_ne (tgt := 2478) E (dat dkW_c50 34 rfl) rfl (fun h => absurd rfl h) (fun _ => ?_)
    refine r_aload_n E (dat dkW_c50 35 rfl) rfl rfl ?_
    refine r_iconst (v := 0) E (dat dkW_c50 36 rfl) rfl ?_
    refine r_lald (N := 1) E (dat dkW_c50 37 rfl) rfl rfl (by unfold vp_in; decide) ?_
    refine r_iload E (dat dkW_c50 38 rfl) rfl ?_
    refine r_i2l E (dat dkW_c50 39 rfl) ?_
    refine r_lcmp E (dat dkW_c50 40 rfl) ?_
    refine r_if_eq (tgt := 2478) E (dat dkW_c50 41 rfl) rfl (fun _ => ?_) (fun h9 => absurd (lg_self v.toInt64) h9)
    refine r_goto (tgt := 2775) E (dat dkW_c50 44 rfl) rfl ?_
    refine r_wid (k2 := k + 100) (n2 := n + 1000) (by show k + 14 + 0 + 0 ≤ _; omega) (by show n + 84 + 0 + 0 ≤ _; omega) ?_
    refine r_back rfl (by simp [LW]) (kk _ (RLe_tr hrel (fun j hj => loV_lt hj) rfl))
  ·
    refine ⟨_, loX_m2, ?_⟩
    refine r_istore_5 E (dat dkW_c50 13 rfl) rfl rfl ?_
    refine r_aload_n E (dat dkW_c50 14 rfl) rfl rfl ?_
    refine r_aldX E (dat dkW_c50 15 rfl) rfl rfl ?_
    refine r_iload E (dat dkW_c50 16 rfl) rfl ?_
    refine r_iconst (v := 1) E (dat dkW_c50 17 rfl) rfl ?_
    refine r_iadd E (dat dkW_c50 18 rfl) ?_
    refine r_sld E hX hb hA hL (nI_add i 1) (show i + 1 < Ls by omega) (dat dkW_c50 19 rfl) ?_
    refine r_aldX E (dat dkW_c50 20 rfl) rfl rfl ?_
    refine r_iload E (dat dkW_c50 21 rfl) rfl ?_
    refine r_iconst (v := 2) E (dat dkW_c50 22 rfl) rfl ?_
    refine r_iadd E (dat dkW_c50 23 rfl) ?_
    refine r_sld E hX hb hA hL (nI_add i 2) (show i + 2 < Ls by omega) (dat dkW_c50 24 rfl) ?_
    refine r_callV (κ := 9) (μ := [20]) E (hR (vw [20] (loX N M')) rfl) my_X10_walk iv_X10_walk ml_L_316 cm_LR ⟨by decide, rfl, rfl⟩ rfl rfl rfl rfl ⟨Nat.le_of_ble_eq_true rfl, Nat.le_of_ble_eq_true rfl, Nat.le_trans (show k + 14 + 0 ≤ k + 100 by omega) hk, Nat.le_trans (show n + 84 + 0 ≤ n + 1000 by omega) hn⟩ (Nat.le_of_ble_eq_true rfl) (dat dkW_c50 25 rfl) ?_
    rintro r R' hp2
    obtain ⟨⟨bv, rfl⟩, ht, hrel⟩ := P2 0 oobN M' rfl hp _ rfl r R' hp2
    refine ⟨_, Mrg_R, ?_⟩
    refine r_istore_6 E (dat dkW_c50 26 rfl) rfl rfl ?_
    refine r_aload_n E (dat dkW_c50 27 rfl) rfl rfl ?_
    refine r_callV (κ := 9) (μ := [20]) E (sp_X10_thrown l G _) my_X10_thrown iv_X10_thrown ml_L_178 cm_LR ⟨by decide, rfl, rfl⟩ rfl rfl rfl rfl ⟨Nat.le_of_ble_eq_true rfl, Nat.le_of_ble_eq_true rfl, Nat.le_trans (show k + 14 + 0 + 0 ≤ k + 100 by omega) hk, Nat.le_trans (show n + 84 + 0 + 0 ≤ n + 1000 by omega) hn⟩ (Nat.le_of_ble_eq_true rfl) (dat dkW_c50 28 rfl) ?_
    rintro _ _ ⟨rfl, rfl⟩
    refine ⟨_, Mrg_T, ?_⟩
    refine r_topE (show vw [20] (setm (loX N M') 20 (R' 0)) 0 0 6 = nI (0 + 1) from ht) ?_
    refine r_iload E (dat dkW_c50 29 rfl) rfl ?_
    refine r_icmp_eq (tgt := 2461) E (dat dkW_c50 30 rfl) rfl (fun _ => ?_) (fun h => absurd rfl h)
    refine r_iload E (dat dkW_c50 33 rfl) rfl ?_
    refine r_if_ne (tgt := 2478) E (dat dkW_c50 34 rfl) rfl (fun _ => ?_) (fun h => absurd h (by decide))
    refine r_goto (tgt := 2775) E (dat dkW_c50 44 rfl) rfl ?_
    refine r_wid (k2 := k + 100) (n2 := n + 1000) (by show k + 14 + 0 + 0 ≤ _; omega) (by show n + 84 + 0 + 0 ≤ _; omega) ?_
    refine r_back rfl (by simp [LW]) (kk _ (RLe_tr hrel (fun j hj => loX_lt hj) rfl))
  ·
    refine ⟨_, loX_m2, ?_⟩
    refine r_istore_5 E (dat dkW_c50 13 rfl) rfl rfl ?_
    refine r_aload_n E (dat dkW_c50 14 rfl) rfl rfl ?_
    refine r_aldX E (dat dkW_c50 15 rfl) rfl rfl ?_
    refine r_iload E (dat dkW_c50 16 rfl) rfl ?_
    refine r_iconst (v := 1) E (dat dkW_c50 17 rfl) rfl ?_
    refine r_iadd E (dat dkW_c50 18 rfl) ?_
    refine r_sld E hX hb hA hL (nI_add i 1) (show i + 1 < Ls by omega) (dat dkW_c50 19 rfl) ?_
    refine r_aldX E (dat dkW_c50 20 rfl) rfl rfl ?_
    refine r_iload E (dat dkW_c50 21 rfl) rfl ?_
    refine r_iconst (v := 2) E (dat dkW_c50 22 rfl) rfl ?_
    refine r_iadd E (dat dkW_c50 23 rfl) ?_
    refine r_sld E hX hb hA hL (nI_add i 2) (show i + 2 < Ls by omega) (dat dkW_c50 24 rfl) ?_
    refine r_callV (κ := 9) (μ := [20]) E (hR (vw [20] (loX N M')) rfl) my_X10_walk iv_X10_walk ml_L_316 cm_LR ⟨by decide, rfl, rfl⟩ rfl rfl rfl rfl ⟨Nat.le_of_ble_eq_true rfl, Nat.le_of_ble_eq_true rfl, Nat.le_trans (show k + 14 + 0 ≤ k + 100 by omega) hk, Nat.le_trans (show n + 84 + 0 ≤ n + 1000 by omega) hn⟩ (Nat.le_of_ble_eq_true rfl) (dat dkW_c50 25 rfl) ?_
    rintro r R' hp2
    obtain ⟨⟨bv, rfl⟩, ht, hrel⟩ := P2 1 argN M' rfl hp _ rfl r R' hp2
    refine ⟨_, Mrg_R, ?_⟩
    refine r_istore_6 E (dat dkW_c50 26 rfl) rfl rfl ?_
    refine r_aload_n E (dat dkW_c50 27 rfl) rfl rfl ?_
    refine r_callV (κ := 9) (μ := [20]) E (sp_X10_thrown l G _) my_X10_thrown iv_X10_thrown ml_L_178 cm_LR ⟨by decide, rfl, rfl⟩ rfl rfl rfl rfl ⟨Nat.le_of_ble_eq_true rfl, Nat.le_of_ble_eq_true rfl, Nat.le_trans (show k + 14 + 0 + 0 ≤ k + 100 by omega) hk, Nat.le_trans (show n + 84 + 0 + 0 ≤ n + 1000 by omega) hn⟩ (Nat.le_of_ble_eq_true rfl) (dat dkW_c50 28 rfl) ?_
    rintro _ _ ⟨rfl, rfl⟩
    refine ⟨_, Mrg_T, ?_⟩
    refine r_topE (show vw [20] (setm (loX N M') 20 (R' 0)) 0 0 6 = nI (1 + 1) from ht) ?_
    refine r_iload E (dat dkW_c50 29 rfl) rfl ?_
    refine r_icmp_eq (tgt := 2461) E (dat dkW_c50 30 rfl) rfl (fun _ => ?_) (fun h => absurd rfl h)
    refine r_iload E (dat dkW_c50 33 rfl) rfl ?_
    refine r_if_ne (tgt := 2478) E (dat dkW_c50 34 rfl) rfl (fun _ => ?_) (fun h => absurd h (by decide))
    refine r_goto (tgt := 2775) E (dat dkW_c50 44 rfl) rfl ?_
    refine r_wid (k2 := k + 100) (n2 := n + 1000) (by show k + 14 + 0 + 0 ≤ _; omega) (by show n + 84 + 0 + 0 ≤ _; omega) ?_
    refine r_back rfl (by simp [LW]) (kk _ (RLe_tr hrel (fun j hj => loX_lt hj) rfl))
  ·
    refine ⟨_, loX_m2, ?_⟩
    refine r_istore_5 E (dat dkW_c50 13 rfl) rfl rfl ?_
    refine r_aload_n E (dat dkW_c50 14 rfl) rfl rfl ?_
    refine r_aldX E (dat dkW_c50 15 rfl) rfl rfl ?_
    refine r_iload E (dat dkW_c50 16 rfl) rfl ?_
    refine r_iconst (v := 1) E (dat dkW_c50 17 rfl) rfl ?_
    refine r_iadd E (dat dkW_c50 18 rfl) ?_
    refine r_sld E hX hb hA hL (nI_add i 1) (show i + 1 < Ls by omega) (dat dkW_c50 19 rfl) ?_
    refine r_aldX E (dat dkW_c50 20 rfl) rfl rfl ?_
    refine r_iload E (dat dkW_c50 21 rfl) rfl ?_
    refine r_iconst (v := 2) E (dat dkW_c50 22 rfl) rfl ?_
    refine r_iadd E (dat dkW_c50 23 rfl) ?_
    refine r_sld E hX hb hA hL (nI_add i 2) (show i + 2 < Ls by omega) (dat dkW_c50 24 rfl) ?_
    refine r_callV (κ := 9) (μ := [20]) E (hR (vw [20] (loX N M')) rfl) my_X10_walk iv_X10_walk ml_L_316 cm_LR ⟨by decide, rfl, rfl⟩ rfl rfl rfl rfl ⟨Nat.le_of_ble_eq_true rfl, Nat.le_of_ble_eq_true rfl, Nat.le_trans (show k + 14 + 0 ≤ k + 100 by omega) hk, Nat.le_trans (show n + 84 + 0 ≤ n + 1000 by omega) hn⟩ (Nat.le_of_ble_eq_true rfl) (dat dkW_c50 25 rfl) ?_
    rintro r R' hp2
    obtain ⟨⟨bv, rfl⟩, ht, hrel⟩ := P2 2 steN M' rfl hp _ rfl r R' hp2
    refine ⟨_, Mrg_R, ?_⟩
    refine r_istore_6 E (dat dkW_c50 26 rfl) rfl rfl ?_
    refine r_aload_n E (dat dkW_c50 27 rfl) rfl rfl ?_
    refine r_callV (κ := 9) (μ := [20]) E (sp_X10_thrown l G _) my_X10_thrown iv_X10_thrown ml_L_178 cm_LR ⟨by decide, rfl, rfl⟩ rfl rfl rfl rfl ⟨Nat.le_of_ble_eq_true rfl, Nat.le_of_ble_eq_true rfl, Nat.le_trans (show k + 14 + 0 + 0 ≤ k + 100 by omega) hk, Nat.le_trans (show n + 84 + 0 + 0 ≤ n + 1000 by omega) hn⟩ (Nat.le_of_ble_eq_true rfl) (dat dkW_c50 28 rfl) ?_
    rintro _ _ ⟨rfl, rfl⟩
    refine ⟨_, Mrg_T, ?_⟩
    refine r_topE (show vw [20] (setm (loX N M') 20 (R' 0)) 0 0 6 = nI (2 + 1) from ht) ?_
    refine r_iload E (dat dkW_c50 29 rfl) rfl ?_
    refine r_icmp_eq (tgt := 2461) E (dat dkW_c50 30 rfl) rfl (fun _ => ?_) (fun h => absurd rfl h)
    refine r_iload E (dat dkW_c50 33 rfl) rfl ?_
    refine r_if_ne (tgt := 2478) E (dat dkW_c50 34 rfl) rfl (fun _ => ?_) (fun h => absurd h (by decide))
    refine r_goto (tgt := 2775) E (dat dkW_c50 44 rfl) rfl ?_
    refine r_wid (k2 := k + 100) (n2 := n + 1000) (by show k + 14 + 0 + 0 ≤ _; omega) (by show n + 84 + 0 + 0 ≤ _; omega) ?_
    refine r_back rfl (by simp [LW]) (kk _ (RLe_tr hrel (fun j hj => loX_lt hj) rfl))
set_option maxRecDepth 100000 in
set_option maxHeartbeats 8000000 in
theorem lb_51 {p : Program} {l : Launch} {e : Env} {s : State} {m : MethodId} {args : Array Value} {below : List Frame} {meth : Method} {c : Code} {G : GT} {ad : Nat → Nat → Nat} {Q : State → Prop} {k n : Nat} (hst : l.stackTraces = false) (E : EN p s m args meth c G (KL, lkC, ad) cL_law RL 9 (some .boolean)) {b Ls : Nat} {xs : Nat → Int32} (hX : va_X b Ls xs s s.heap) (hb : b < s.heap.size) (hA : ¬ AS (KL, lkC, ad) s.heap.size b) (hL : Ls ≤ 3072) {i : Nat} (hi : i + 6 ≤ Ls) {N : Mem} {B : Int} (H : RLe N (vw [20] N) B) (h0 : 0 ≤ B) (h1 : B + 300 < 2147483648) (hk : k + 100 ≤ room_1.cells) (hn : n + 1000 ≤ room_1.slots)
    (kk : ∀ N2 : Mem, RLe N2 (vw [20] N2) (B + 279) → WM p l e room_1 s m args below meth c G (KL, lkC, ad) 9 Q N2 (k + 100) (n + 1000) 2775 [some (.inl (.ref b)), some (rv 0 0), some (rv 20 0), some (rv 19 0), some (iv (nI i)), none, none, none, none] []) :
    WM p l e room_1 s m args below meth c G (KL, lkC, ad) 9 Q N k n 2481 [some (.inl (.ref b)), some (rv 0 0), some (rv 20 0), some (rv 19 0), some (iv (nI i)), none, none, none, none] [] := by
  obtain ⟨post, XP, post2, hM, hR, hr, hE, P1, P2⟩ := pa_splash l hst G H h0 h1 (xs (i + 1))
  refine r_aload_n E (dat dkW_c51 0 rfl) rfl rfl ?_
  refine r_aldX E (dat dkW_c51 1 rfl) rfl rfl ?_
  refine r_iload E (dat dkW_c51 2 rfl) rfl ?_
  refine r_iconst (v := 1) E (dat dkW_c51 3 rfl) rfl ?_
  refine r_iadd E (dat dkW_c51 4 rfl) ?_
  refine r_sld E hX hb hA hL (nI_add i 1) (show i + 1 < Ls by omega) (dat dkW_c51 5 rfl) ?_
  refine r_aload_n E (dat dkW_c51 6 rfl) rfl rfl ?_
  refine r_callSW (N := 3) (μ := []) E (sp_L_splash l G (xs (i + 1)) N post XP hM hr (fun Ex M' h => by simpa using hE Ex M' h)) ini_L (bg_5 194 (by decide +kernel)) ⟨by decide +kernel, by decide +kernel, by decide +kernel⟩ (bg_5 193 (by decide +kernel)) ml_L_317 cm_LO rfl rfl ⟨Nat.le_of_ble_eq_true rfl, Nat.le_of_ble_eq_true rfl, Nat.le_trans (Nat.add_le_add_left (Nat.le_of_ble_eq_true rfl) k) hk, Nat.le_trans (Nat.add_le_add_left (Nat.le_of_ble_eq_true rfl) n) hn⟩ (Nat.le_of_ble_eq_true rfl) (dat dkW_c51 7 rfl) ?_
  rintro r M9 (⟨v, M', hp, rfl, rfl⟩ | ⟨M', hp, rfl, rfl⟩ | ⟨M', hp, rfl, rfl⟩)
  ·
    refine ⟨_, loV_m, ?_⟩
    refine r_istore_5 E (dat dkW_c51 8 rfl) rfl rfl ?_
    refine r_aload_n E (dat dkW_c51 9 rfl) rfl rfl ?_
    refine r_aldX E (dat dkW_c51 10 rfl) rfl rfl ?_
    refine r_iload E (dat dkW_c51 11 rfl) rfl ?_
    refine r_iconst (v := 1) E (dat dkW_c51 12 rfl) rfl ?_
    refine r_iadd E (dat dkW_c51 13 rfl) ?_
    refine r_sld E hX hb hA hL (nI_add i 1) (show i + 1 < Ls by omega) (dat dkW_c51 14 rfl) ?_
    refine r_callV (κ := 9) (μ := [20]) E (hR (vw [20] (loV N M' v)) rfl) my_X10_splash iv_X10_splash ml_L_319 cm_LR ⟨by decide, rfl, rfl⟩ rfl rfl rfl rfl ⟨Nat.le_of_ble_eq_true rfl, Nat.le_of_ble_eq_true rfl, Nat.le_trans (show k + 10 + 0 ≤ k + 100 by omega) hk, Nat.le_trans (show n + 60 + 0 ≤ n + 1000 by omega) hn⟩ (Nat.le_of_ble_eq_true rfl) (dat dkW_c51 15 rfl) ?_
    rintro r R' hp2
    obtain ⟨rfl, ht, hrel⟩ := P1 v M' hp _ rfl r R' hp2
    refine ⟨_, Mrg_R, ?_⟩
    refine r_istore_6 E (dat dkW_c51 16 rfl) rfl rfl ?_
    refine r_aload_n E (dat dkW_c51 17 rfl) rfl rfl ?_
    refine r_callV (κ := 9) (μ := [20]) E (sp_X10_thrown l G _) my_X10_thrown iv_X10_thrown ml_L_178 cm_LR ⟨by decide, rfl, rfl⟩ rfl rfl rfl rfl ⟨Nat.le_of_ble_eq_true rfl, Nat.le_of_ble_eq_true rfl, Nat.le_trans (show k + 10 + 0 + 0 ≤ k + 100 by omega) hk, Nat.le_trans (show n + 60 + 0 + 0 ≤ n + 1000 by omega) hn⟩ (Nat.le_of_ble_eq_true rfl) (dat dkW_c51 18 rfl) ?_
    rintro _ _ ⟨rfl, rfl⟩
    refine ⟨_, Mrg_T, ?_⟩
    refine r_topE (show vw [20] (setm (loV N M' v) 20 (R' 0)) 0 0 6 = 0 from ht) ?_
    refine r_iload E (dat dkW_c51 19 rfl) rfl ?_
    refine r_icmp_eq (tgt := 2517) E (dat dkW_c51 20 rfl) rfl (fun _ => ?_) (fun h => absurd rfl h)
    refine r_iload E (dat dkW_c51 23 rfl) rfl ?_
    refine r_if_ne (tgt := 2534) E (dat dkW_c51 24 rfl) rfl (fun h => absurd rfl h) (fun _ => ?_)
    refine r_aload_n E (dat dkW_c51 25 rfl) rfl rfl ?_
    refine r_iconst (v := 0) E (dat dkW_c51 26 rfl) rfl ?_
    refine r_lald (N := 1) E (dat dkW_c51 27 rfl) rfl rfl (by unfold vp_in; decide) ?_
    refine r_iload E (dat dkW_c51 28 rfl) rfl ?_
    refine r_i2l E (dat dkW_c51 29 rfl) ?_
    refine r_lcmp E (dat dkW_c51 30 rfl) ?_
    refine r_if_eq (tgt := 2534) E (dat dkW_c51 31 rfl) rfl (fun _ => ?_) (fun h9 => absurd (lg_self v.toInt64) h9)
    refine r_goto (tgt := 2775) E (dat dkW_c51 34 rfl) rfl ?_
    refine r_wid (k2 := k + 100) (n2 := n + 1000) (by show k + 10 + 0 + 0 ≤ _; omega) (by show n + 60 + 0 + 0 ≤ _; omega) ?_
    refine r_back rfl (by simp [LW]) (kk _ (RLe_tr hrel (fun j hj => loV_lt hj) rfl))
  ·
    refine ⟨_, loX_m2, ?_⟩
    refine r_istore_5 E (dat dkW_c51 8 rfl) rfl rfl ?_
    refine r_aload_n E (dat dkW_c51 9 rfl) rfl rfl ?_
    refine r_aldX E (dat dkW_c51 10 rfl) rfl rfl ?_
    refine r_iload E (dat dkW_c51 11 rfl) rfl ?_
    refine r_iconst (v := 1) E (dat dkW_c51 12 rfl) rfl ?_
    refine r_iadd E (dat dkW_c51 13 rfl) ?_
    refine r_sld E hX hb hA hL (nI_add i 1) (show i + 1 < Ls by omega) (dat dkW_c51 14 rfl) ?_
    refine r_callV (κ := 9) (μ := [20]) E (hR (vw [20] (loX N M')) rfl) my_X10_splash iv_X10_splash ml_L_319 cm_LR ⟨by decide, rfl, rfl⟩ rfl rfl rfl rfl ⟨Nat.le_of_ble_eq_true rfl, Nat.le_of_ble_eq_true rfl, Nat.le_trans (show k + 10 + 0 ≤ k + 100 by omega) hk, Nat.le_trans (show n + 60 + 0 ≤ n + 1000 by omega) hn⟩ (Nat.le_of_ble_eq_true rfl) (dat dkW_c51 15 rfl) ?_
    rintro r R' hp2
    obtain ⟨⟨bv, rfl⟩, ht, hrel⟩ := P2 0 oobN M' rfl hp _ rfl r R' hp2
    refine ⟨_, Mrg_R, ?_⟩
    refine r_istore_6 E (dat dkW_c51 16 rfl) rfl rfl ?_
    refine r_aload_n E (dat dkW_c51 17 rfl) rfl rfl ?_
    refine r_callV (κ := 9) (μ := [20]) E (sp_X10_thrown l G _) my_X10_thrown iv_X10_thrown ml_L_178 cm_LR ⟨by decide, rfl, rfl⟩ rfl rfl rfl rfl ⟨Nat.le_of_ble_eq_true rfl, Nat.le_of_ble_eq_true rfl, Nat.le_trans (show k + 10 + 0 + 0 ≤ k + 100 by omega) hk, Nat.le_trans (show n + 60 + 0 + 0 ≤ n + 1000 by omega) hn⟩ (Nat.le_of_ble_eq_true rfl) (dat dkW_c51 18 rfl) ?_
    rintro _ _ ⟨rfl, rfl⟩
    refine ⟨_, Mrg_T, ?_⟩
    refine r_topE (show vw [20] (setm (loX N M') 20 (R' 0)) 0 0 6 = nI (0 + 1) from ht) ?_
    refine r_iload E (dat dkW_c51 19 rfl) rfl ?_
    refine r_icmp_eq (tgt := 2517) E (dat dkW_c51 20 rfl) rfl (fun _ => ?_) (fun h => absurd rfl h)
    refine r_iload E (dat dkW_c51 23 rfl) rfl ?_
    refine r_if_ne (tgt := 2534) E (dat dkW_c51 24 rfl) rfl (fun _ => ?_) (fun h => absurd h (by decide))
    refine r_goto (tgt := 2775) E (dat dkW_c51 34 rfl) rfl ?_
    refine r_wid (k2 := k + 100) (n2 := n + 1000) (by show k + 10 + 0 + 0 ≤ _; omega) (by show n + 60 + 0 + 0 ≤ _; omega) ?_
    refine r_back rfl (by simp [LW]) (kk _ (RLe_tr hrel (fun j hj => loX_lt hj) rfl))
  ·
    refine ⟨_, loX_m2, ?_⟩
    refine r_istore_5 E (dat dkW_c51 8 rfl) rfl rfl ?_
    refine r_aload_n E (dat dkW_c51 9 rfl) rfl rfl ?_
    refine r_aldX E (dat dkW_c51 10 rfl) rfl rfl ?_
    refine r_iload E (dat dkW_c51 11 rfl) rfl ?_
    refine r_iconst (v := 1) E (dat dkW_c51 12 rfl) rfl ?_
    refine r_iadd E (dat dkW_c51 13 rfl) ?_
    refine r_sld E hX hb hA hL (nI_add i 1) (show i + 1 < Ls by omega) (dat dkW_c51 14 rfl) ?_
    refine r_callV (κ := 9) (μ := [20]) E (hR (vw [20] (loX N M')) rfl) my_X10_splash iv_X10_splash ml_L_319 cm_LR ⟨by decide, rfl, rfl⟩ rfl rfl rfl rfl ⟨Nat.le_of_ble_eq_true rfl, Nat.le_of_ble_eq_true rfl, Nat.le_trans (show k + 10 + 0 ≤ k + 100 by omega) hk, Nat.le_trans (show n + 60 + 0 ≤ n + 1000 by omega) hn⟩ (Nat.le_of_ble_eq_true rfl) (dat dkW_c51 15 rfl) ?_
    rintro r R' hp2
    obtain ⟨⟨bv, rfl⟩, ht, hrel⟩ := P2 1 steN M' rfl hp _ rfl r R' hp2
    refine ⟨_, Mrg_R, ?_⟩
    refine r_istore_6 E (dat dkW_c51 16 rfl) rfl rfl ?_
    refine r_aload_n E (dat dkW_c51 17 rfl) rfl rfl ?_
    refine r_callV (κ := 9) (μ := [20]) E (sp_X10_thrown l G _) my_X10_thrown iv_X10_thrown ml_L_178 cm_LR ⟨by decide, rfl, rfl⟩ rfl rfl rfl rfl ⟨Nat.le_of_ble_eq_true rfl, Nat.le_of_ble_eq_true rfl, Nat.le_trans (show k + 10 + 0 + 0 ≤ k + 100 by omega) hk, Nat.le_trans (show n + 60 + 0 + 0 ≤ n + 1000 by omega) hn⟩ (Nat.le_of_ble_eq_true rfl) (dat dkW_c51 18 rfl) ?_
    rintro _ _ ⟨rfl, rfl⟩
    refine ⟨_, Mrg_T, ?_⟩
    refine r_topE (show vw [20] (setm (loX N M') 20 (R' 0)) 0 0 6 = nI (1 + 1) from ht) ?_
    refine r_iload E (dat dkW_c51 19 rfl) rfl ?_
    refine r_icmp_eq (tgt := 2517) E (dat dkW_c51 20 rfl) rfl (fun _ => ?_) (fun h => absurd rfl h)
    refine r_iload E (dat dkW_c51 23 rfl) rfl ?_
    refine r_if_ne (tgt := 2534) E (dat dkW_c51 24 rfl) rfl (fun _ => ?_) (fun h => absurd h (by decide))
    refine r_goto (tgt := 2775) E (dat dkW_c51 34 rfl) rfl ?_
    refine r_wid (k2 := k + 100) (n2 := n + 1000) (by show k + 10 + 0 + 0 ≤ _; omega) (by show n + 60 + 0 + 0 ≤ _; omega) ?_
    refine r_back rfl (by simp [LW]) (kk _ (RLe_tr hrel (fun j hj => loX_lt hj) rfl))
set_option maxRecDepth 100000 in
set_option maxHeartbeats 8000000 in
theorem lb_52 {p : Program} {l : Launch} {e : Env} {s : State} {m : MethodId} {args : Array Value} {below : List Frame} {meth : Method} {c : Code} {G : GT} {ad : Nat → Nat → Nat} {Q : State → Prop} {k n : Nat} (hst : l.stackTraces = false) (E : EN p s m args meth c G (KL, lkC, ad) cL_law RL 9 (some .boolean)) {b Ls : Nat} {xs : Nat → Int32} (hX : va_X b Ls xs s s.heap) (hb : b < s.heap.size) (hA : ¬ AS (KL, lkC, ad) s.heap.size b) (hL : Ls ≤ 3072) {i : Nat} (hi : i + 6 ≤ Ls) {N : Mem} {B : Int} (H : RLe N (vw [20] N) B) (h0 : 0 ≤ B) (h1 : B + 300 < 2147483648) (hk : k + 100 ≤ room_1.cells) (hn : n + 1000 ≤ room_1.slots)
    (kk : ∀ N2 : Mem, RLe N2 (vw [20] N2) (B + 279) → WM p l e room_1 s m args below meth c G (KL, lkC, ad) 9 Q N2 (k + 100) (n + 1000) 2775 [some (.inl (.ref b)), some (rv 0 0), some (rv 20 0), some (rv 19 0), some (iv (nI i)), none, none, none, none] []) :
    WM p l e room_1 s m args below meth c G (KL, lkC, ad) 9 Q N k n 2537 [some (.inl (.ref b)), some (rv 0 0), some (rv 20 0), some (rv 19 0), some (iv (nI i)), none, none, none, none] [] := by
  obtain ⟨post, XP, post2, hM, hR, hr, hE, P1, P2⟩ := pa_passMinutes l hst G H h0 h1 (xs (i + 1))
  refine r_aload_n E (dat dkW_c52 0 rfl) rfl rfl ?_
  refine r_aldX E (dat dkW_c52 1 rfl) rfl rfl ?_
  refine r_iload E (dat dkW_c52 2 rfl) rfl ?_
  refine r_iconst (v := 1) E (dat dkW_c52 3 rfl) rfl ?_
  refine r_iadd E (dat dkW_c52 4 rfl) ?_
  refine r_sld E hX hb hA hL (nI_add i 1) (show i + 1 < Ls by omega) (dat dkW_c52 5 rfl) ?_
  refine r_aload_n E (dat dkW_c52 6 rfl) rfl rfl ?_
  refine r_callSW (N := 3) (μ := []) E (sp_L_passMinutes l G (xs (i + 1)) N post XP hM hr (fun Ex M' h => by simpa using hE Ex M' h)) ini_L (bg_5 203 (by decide +kernel)) ⟨by decide +kernel, by decide +kernel, by decide +kernel⟩ (bg_5 202 (by decide +kernel)) ml_L_320 cm_LO rfl rfl ⟨Nat.le_of_ble_eq_true rfl, Nat.le_of_ble_eq_true rfl, Nat.le_trans (Nat.add_le_add_left (Nat.le_of_ble_eq_true rfl) k) hk, Nat.le_trans (Nat.add_le_add_left (Nat.le_of_ble_eq_true rfl) n) hn⟩ (Nat.le_of_ble_eq_true rfl) (dat dkW_c52 7 rfl) ?_
  rintro r M9 (⟨v, M', hp, rfl, rfl⟩ | ⟨M', hp, rfl, rfl⟩ | ⟨M', hp, rfl, rfl⟩)
  ·
    refine ⟨_, loV_m, ?_⟩
    refine r_istore_5 E (dat dkW_c52 8 rfl) rfl rfl ?_
    refine r_aload_n E (dat dkW_c52 9 rfl) rfl rfl ?_
    refine r_aldX E (dat dkW_c52 10 rfl) rfl rfl ?_
    refine r_iload E (dat dkW_c52 11 rfl) rfl ?_
    refine r_iconst (v := 1) E (dat dkW_c52 12 rfl) rfl ?_
    refine r_iadd E (dat dkW_c52 13 rfl) ?_
    refine r_sld E hX hb hA hL (nI_add i 1) (show i + 1 < Ls by omega) (dat dkW_c52 14 rfl) ?_
    refine r_callV (κ := 9) (μ := [20]) E (hR (vw [20] (loV N M' v)) rfl) my_X10_passMinutes iv_X10_passMinutes ml_L_322 cm_LR ⟨by decide, rfl, rfl⟩ rfl rfl rfl rfl ⟨Nat.le_of_ble_eq_true rfl, Nat.le_of_ble_eq_true rfl, Nat.le_trans (show k + 6 + 0 ≤ k + 100 by omega) hk, Nat.le_trans (show n + 36 + 0 ≤ n + 1000 by omega) hn⟩ (Nat.le_of_ble_eq_true rfl) (dat dkW_c52 15 rfl) ?_
    rintro r R' hp2
    obtain ⟨rfl, ht, hrel⟩ := P1 v M' hp _ rfl r R' hp2
    refine ⟨_, Mrg_R, ?_⟩
    refine r_istore_6 E (dat dkW_c52 16 rfl) rfl rfl ?_
    refine r_aload_n E (dat dkW_c52 17 rfl) rfl rfl ?_
    refine r_callV (κ := 9) (μ := [20]) E (sp_X10_thrown l G _) my_X10_thrown iv_X10_thrown ml_L_178 cm_LR ⟨by decide, rfl, rfl⟩ rfl rfl rfl rfl ⟨Nat.le_of_ble_eq_true rfl, Nat.le_of_ble_eq_true rfl, Nat.le_trans (show k + 6 + 0 + 0 ≤ k + 100 by omega) hk, Nat.le_trans (show n + 36 + 0 + 0 ≤ n + 1000 by omega) hn⟩ (Nat.le_of_ble_eq_true rfl) (dat dkW_c52 18 rfl) ?_
    rintro _ _ ⟨rfl, rfl⟩
    refine ⟨_, Mrg_T, ?_⟩
    refine r_topE (show vw [20] (setm (loV N M' v) 20 (R' 0)) 0 0 6 = 0 from ht) ?_
    refine r_iload E (dat dkW_c52 19 rfl) rfl ?_
    refine r_icmp_eq (tgt := 2573) E (dat dkW_c52 20 rfl) rfl (fun _ => ?_) (fun h => absurd rfl h)
    refine r_iload E (dat dkW_c52 23 rfl) rfl ?_
    refine r_if_ne (tgt := 2590) E (dat dkW_c52 24 rfl) rfl (fun h => absurd rfl h) (fun _ => ?_)
    refine r_aload_n E (dat dkW_c52 25 rfl) rfl rfl ?_
    refine r_iconst (v := 0) E (dat dkW_c52 26 rfl) rfl ?_
    refine r_lald (N := 1) E (dat dkW_c52 27 rfl) rfl rfl (by unfold vp_in; decide) ?_
    refine r_iload E (dat dkW_c52 28 rfl) rfl ?_
    refine r_i2l E (dat dkW_c52 29 rfl) ?_
    refine r_lcmp E (dat dkW_c52 30 rfl) ?_
    refine r_if_eq (tgt := 2590) E (dat dkW_c52 31 rfl) rfl (fun _ => ?_) (fun h9 => absurd (lg_self v.toInt64) h9)
    refine r_goto (tgt := 2775) E (dat dkW_c52 34 rfl) rfl ?_
    refine r_wid (k2 := k + 100) (n2 := n + 1000) (by show k + 6 + 0 + 0 ≤ _; omega) (by show n + 36 + 0 + 0 ≤ _; omega) ?_
    refine r_back rfl (by simp [LW]) (kk _ (RLe_tr hrel (fun j hj => loV_lt hj) rfl))
  ·
    refine ⟨_, loX_m2, ?_⟩
    refine r_istore_5 E (dat dkW_c52 8 rfl) rfl rfl ?_
    refine r_aload_n E (dat dkW_c52 9 rfl) rfl rfl ?_
    refine r_aldX E (dat dkW_c52 10 rfl) rfl rfl ?_
    refine r_iload E (dat dkW_c52 11 rfl) rfl ?_
    refine r_iconst (v := 1) E (dat dkW_c52 12 rfl) rfl ?_
    refine r_iadd E (dat dkW_c52 13 rfl) ?_
    refine r_sld E hX hb hA hL (nI_add i 1) (show i + 1 < Ls by omega) (dat dkW_c52 14 rfl) ?_
    refine r_callV (κ := 9) (μ := [20]) E (hR (vw [20] (loX N M')) rfl) my_X10_passMinutes iv_X10_passMinutes ml_L_322 cm_LR ⟨by decide, rfl, rfl⟩ rfl rfl rfl rfl ⟨Nat.le_of_ble_eq_true rfl, Nat.le_of_ble_eq_true rfl, Nat.le_trans (show k + 6 + 0 ≤ k + 100 by omega) hk, Nat.le_trans (show n + 36 + 0 ≤ n + 1000 by omega) hn⟩ (Nat.le_of_ble_eq_true rfl) (dat dkW_c52 15 rfl) ?_
    rintro r R' hp2
    obtain ⟨⟨bv, rfl⟩, ht, hrel⟩ := P2 0 argN M' rfl hp _ rfl r R' hp2
    refine ⟨_, Mrg_R, ?_⟩
    refine r_istore_6 E (dat dkW_c52 16 rfl) rfl rfl ?_
    refine r_aload_n E (dat dkW_c52 17 rfl) rfl rfl ?_
    refine r_callV (κ := 9) (μ := [20]) E (sp_X10_thrown l G _) my_X10_thrown iv_X10_thrown ml_L_178 cm_LR ⟨by decide, rfl, rfl⟩ rfl rfl rfl rfl ⟨Nat.le_of_ble_eq_true rfl, Nat.le_of_ble_eq_true rfl, Nat.le_trans (show k + 6 + 0 + 0 ≤ k + 100 by omega) hk, Nat.le_trans (show n + 36 + 0 + 0 ≤ n + 1000 by omega) hn⟩ (Nat.le_of_ble_eq_true rfl) (dat dkW_c52 18 rfl) ?_
    rintro _ _ ⟨rfl, rfl⟩
    refine ⟨_, Mrg_T, ?_⟩
    refine r_topE (show vw [20] (setm (loX N M') 20 (R' 0)) 0 0 6 = nI (0 + 1) from ht) ?_
    refine r_iload E (dat dkW_c52 19 rfl) rfl ?_
    refine r_icmp_eq (tgt := 2573) E (dat dkW_c52 20 rfl) rfl (fun _ => ?_) (fun h => absurd rfl h)
    refine r_iload E (dat dkW_c52 23 rfl) rfl ?_
    refine r_if_ne (tgt := 2590) E (dat dkW_c52 24 rfl) rfl (fun _ => ?_) (fun h => absurd h (by decide))
    refine r_goto (tgt := 2775) E (dat dkW_c52 34 rfl) rfl ?_
    refine r_wid (k2 := k + 100) (n2 := n + 1000) (by show k + 6 + 0 + 0 ≤ _; omega) (by show n + 36 + 0 + 0 ≤ _; omega) ?_
    refine r_back rfl (by simp [LW]) (kk _ (RLe_tr hrel (fun j hj => loX_lt hj) rfl))
  ·
    refine ⟨_, loX_m2, ?_⟩
    refine r_istore_5 E (dat dkW_c52 8 rfl) rfl rfl ?_
    refine r_aload_n E (dat dkW_c52 9 rfl) rfl rfl ?_
    refine r_aldX E (dat dkW_c52 10 rfl) rfl rfl ?_
    refine r_iload E (dat dkW_c52 11 rfl) rfl ?_
    refine r_iconst (v := 1) E (dat dkW_c52 12 rfl) rfl ?_
    refine r_iadd E (dat dkW_c52 13 rfl) ?_
    refine r_sld E hX hb hA hL (nI_add i 1) (show i + 1 < Ls by omega) (dat dkW_c52 14 rfl) ?_
    refine r_callV (κ := 9) (μ := [20]) E (hR (vw [20] (loX N M')) rfl) my_X10_passMinutes iv_X10_passMinutes ml_L_322 cm_LR ⟨by decide, rfl, rfl⟩ rfl rfl rfl rfl ⟨Nat.le_of_ble_eq_true rfl, Nat.le_of_ble_eq_true rfl, Nat.le_trans (show k + 6 + 0 ≤ k + 100 by omega) hk, Nat.le_trans (show n + 36 + 0 ≤ n + 1000 by omega) hn⟩ (Nat.le_of_ble_eq_true rfl) (dat dkW_c52 15 rfl) ?_
    rintro r R' hp2
    obtain ⟨⟨bv, rfl⟩, ht, hrel⟩ := P2 1 steN M' rfl hp _ rfl r R' hp2
    refine ⟨_, Mrg_R, ?_⟩
    refine r_istore_6 E (dat dkW_c52 16 rfl) rfl rfl ?_
    refine r_aload_n E (dat dkW_c52 17 rfl) rfl rfl ?_
    refine r_callV (κ := 9) (μ := [20]) E (sp_X10_thrown l G _) my_X10_thrown iv_X10_thrown ml_L_178 cm_LR ⟨by decide, rfl, rfl⟩ rfl rfl rfl rfl ⟨Nat.le_of_ble_eq_true rfl, Nat.le_of_ble_eq_true rfl, Nat.le_trans (show k + 6 + 0 + 0 ≤ k + 100 by omega) hk, Nat.le_trans (show n + 36 + 0 + 0 ≤ n + 1000 by omega) hn⟩ (Nat.le_of_ble_eq_true rfl) (dat dkW_c52 18 rfl) ?_
    rintro _ _ ⟨rfl, rfl⟩
    refine ⟨_, Mrg_T, ?_⟩
    refine r_topE (show vw [20] (setm (loX N M') 20 (R' 0)) 0 0 6 = nI (1 + 1) from ht) ?_
    refine r_iload E (dat dkW_c52 19 rfl) rfl ?_
    refine r_icmp_eq (tgt := 2573) E (dat dkW_c52 20 rfl) rfl (fun _ => ?_) (fun h => absurd rfl h)
    refine r_iload E (dat dkW_c52 23 rfl) rfl ?_
    refine r_if_ne (tgt := 2590) E (dat dkW_c52 24 rfl) rfl (fun _ => ?_) (fun h => absurd h (by decide))
    refine r_goto (tgt := 2775) E (dat dkW_c52 34 rfl) rfl ?_
    refine r_wid (k2 := k + 100) (n2 := n + 1000) (by show k + 6 + 0 + 0 ≤ _; omega) (by show n + 36 + 0 + 0 ≤ _; omega) ?_
    refine r_back rfl (by simp [LW]) (kk _ (RLe_tr hrel (fun j hj => loX_lt hj) rfl))
set_option maxRecDepth 100000 in
set_option maxHeartbeats 8000000 in
theorem lb_53 {p : Program} {l : Launch} {e : Env} {s : State} {m : MethodId} {args : Array Value} {below : List Frame} {meth : Method} {c : Code} {G : GT} {ad : Nat → Nat → Nat} {Q : State → Prop} {k n : Nat} (hst : l.stackTraces = false) (E : EN p s m args meth c G (KL, lkC, ad) cL_law RL 9 (some .boolean)) {b Ls : Nat} {xs : Nat → Int32} (hX : va_X b Ls xs s s.heap) (hb : b < s.heap.size) (hA : ¬ AS (KL, lkC, ad) s.heap.size b) (hL : Ls ≤ 3072) {i : Nat} (hi : i + 6 ≤ Ls) {N : Mem} {B : Int} (H : RLe N (vw [20] N) B) (h0 : 0 ≤ B) (h1 : B + 300 < 2147483648) (hk : k + 100 ≤ room_1.cells) (hn : n + 1000 ≤ room_1.slots)
    (kk : ∀ N2 : Mem, RLe N2 (vw [20] N2) (B + 279) → WM p l e room_1 s m args below meth c G (KL, lkC, ad) 9 Q N2 (k + 100) (n + 1000) 2775 [some (.inl (.ref b)), some (rv 0 0), some (rv 20 0), some (rv 19 0), some (iv (nI i)), none, none, none, none] []) :
    WM p l e room_1 s m args below meth c G (KL, lkC, ad) 9 Q N k n 2593 [some (.inl (.ref b)), some (rv 0 0), some (rv 20 0), some (rv 19 0), some (iv (nI i)), none, none, none, none] [] := by
  obtain ⟨post, XP, post2, hM, hR, hr, hE, P1, P2⟩ := pa_undo l hst G H h0 h1
  refine r_aload_n E (dat dkW_c53 0 rfl) rfl rfl ?_
  refine r_aload_n E (dat dkW_c53 1 rfl) rfl rfl ?_
  refine r_callSW (N := 2) (μ := []) E (sp_L_undo l G N post XP hM hr (fun Ex M' h => by simpa using hE Ex M' h)) ini_L (bg_5 211 (by decide +kernel)) ⟨by decide +kernel, by decide +kernel, by decide +kernel⟩ (bg_5 210 (by decide +kernel)) ml_L_323 cm_LO rfl rfl ⟨Nat.le_of_ble_eq_true rfl, Nat.le_of_ble_eq_true rfl, Nat.le_trans (Nat.add_le_add_left (Nat.le_of_ble_eq_true rfl) k) hk, Nat.le_trans (Nat.add_le_add_left (Nat.le_of_ble_eq_true rfl) n) hn⟩ (Nat.le_of_ble_eq_true rfl) (dat dkW_c53 2 rfl) ?_
  rintro r M9 (⟨v, M', hp, rfl, rfl⟩ | ⟨M', hp, rfl, rfl⟩)
  ·
    refine ⟨_, loV_m, ?_⟩
    refine r_istore_5 E (dat dkW_c53 3 rfl) rfl rfl ?_
    refine r_aload_n E (dat dkW_c53 4 rfl) rfl rfl ?_
    refine r_callV (κ := 9) (μ := [20]) E (hR (vw [20] (loV N M' v)) rfl) my_X10_undo iv_X10_undo ml_L_326 cm_LR ⟨by decide, rfl, rfl⟩ rfl rfl rfl rfl ⟨Nat.le_of_ble_eq_true rfl, Nat.le_of_ble_eq_true rfl, Nat.le_trans (show k + 1 + 0 ≤ k + 100 by omega) hk, Nat.le_trans (show n + 6 + 0 ≤ n + 1000 by omega) hn⟩ (Nat.le_of_ble_eq_true rfl) (dat dkW_c53 5 rfl) ?_
    rintro r R' hp2
    obtain ⟨rfl, ht, hrel⟩ := P1 v M' hp _ rfl r R' hp2
    refine ⟨_, Mrg_R, ?_⟩
    refine r_istore_6 E (dat dkW_c53 6 rfl) rfl rfl ?_
    refine r_aload_n E (dat dkW_c53 7 rfl) rfl rfl ?_
    refine r_callV (κ := 9) (μ := [20]) E (sp_X10_thrown l G _) my_X10_thrown iv_X10_thrown ml_L_178 cm_LR ⟨by decide, rfl, rfl⟩ rfl rfl rfl rfl ⟨Nat.le_of_ble_eq_true rfl, Nat.le_of_ble_eq_true rfl, Nat.le_trans (show k + 1 + 0 + 0 ≤ k + 100 by omega) hk, Nat.le_trans (show n + 6 + 0 + 0 ≤ n + 1000 by omega) hn⟩ (Nat.le_of_ble_eq_true rfl) (dat dkW_c53 8 rfl) ?_
    rintro _ _ ⟨rfl, rfl⟩
    refine ⟨_, Mrg_T, ?_⟩
    refine r_topE (show vw [20] (setm (loV N M' v) 20 (R' 0)) 0 0 6 = 0 from ht) ?_
    refine r_iload E (dat dkW_c53 9 rfl) rfl ?_
    refine r_icmp_eq (tgt := 2617) E (dat dkW_c53 10 rfl) rfl (fun _ => ?_) (fun h => absurd rfl h)
    refine r_iload E (dat dkW_c53 13 rfl) rfl ?_
    refine r_if_ne (tgt := 2634) E (dat dkW_c53 14 rfl) rfl (fun h => absurd rfl h) (fun _ => ?_)
    refine r_aload_n E (dat dkW_c53 15 rfl) rfl rfl ?_
    refine r_iconst (v := 0) E (dat dkW_c53 16 rfl) rfl ?_
    refine r_lald (N := 1) E (dat dkW_c53 17 rfl) rfl rfl (by unfold vp_in; decide) ?_
    refine r_iload E (dat dkW_c53 18 rfl) rfl ?_
    refine r_i2l E (dat dkW_c53 19 rfl) ?_
    refine r_lcmp E (dat dkW_c53 20 rfl) ?_
    refine r_if_eq (tgt := 2634) E (dat dkW_c53 21 rfl) rfl (fun _ => ?_) (fun h9 => absurd (lg_self v.toInt64) h9)
    refine r_goto (tgt := 2775) E (dat dkW_c53 24 rfl) rfl ?_
    refine r_wid (k2 := k + 100) (n2 := n + 1000) (by show k + 1 + 0 + 0 ≤ _; omega) (by show n + 6 + 0 + 0 ≤ _; omega) ?_
    refine r_back rfl (by simp [LW]) (kk _ (RLe_tr hrel (fun j hj => loV_lt hj) rfl))
  ·
    refine ⟨_, loX_m2, ?_⟩
    refine r_istore_5 E (dat dkW_c53 3 rfl) rfl rfl ?_
    refine r_aload_n E (dat dkW_c53 4 rfl) rfl rfl ?_
    refine r_callV (κ := 9) (μ := [20]) E (hR (vw [20] (loX N M')) rfl) my_X10_undo iv_X10_undo ml_L_326 cm_LR ⟨by decide, rfl, rfl⟩ rfl rfl rfl rfl ⟨Nat.le_of_ble_eq_true rfl, Nat.le_of_ble_eq_true rfl, Nat.le_trans (show k + 1 + 0 ≤ k + 100 by omega) hk, Nat.le_trans (show n + 6 + 0 ≤ n + 1000 by omega) hn⟩ (Nat.le_of_ble_eq_true rfl) (dat dkW_c53 5 rfl) ?_
    rintro r R' hp2
    obtain ⟨⟨bv, rfl⟩, ht, hrel⟩ := P2 0 nseN M' rfl hp _ rfl r R' hp2
    refine ⟨_, Mrg_R, ?_⟩
    refine r_istore_6 E (dat dkW_c53 6 rfl) rfl rfl ?_
    refine r_aload_n E (dat dkW_c53 7 rfl) rfl rfl ?_
    refine r_callV (κ := 9) (μ := [20]) E (sp_X10_thrown l G _) my_X10_thrown iv_X10_thrown ml_L_178 cm_LR ⟨by decide, rfl, rfl⟩ rfl rfl rfl rfl ⟨Nat.le_of_ble_eq_true rfl, Nat.le_of_ble_eq_true rfl, Nat.le_trans (show k + 1 + 0 + 0 ≤ k + 100 by omega) hk, Nat.le_trans (show n + 6 + 0 + 0 ≤ n + 1000 by omega) hn⟩ (Nat.le_of_ble_eq_true rfl) (dat dkW_c53 8 rfl) ?_
    rintro _ _ ⟨rfl, rfl⟩
    refine ⟨_, Mrg_T, ?_⟩
    refine r_topE (show vw [20] (setm (loX N M') 20 (R' 0)) 0 0 6 = nI (0 + 1) from ht) ?_
    refine r_iload E (dat dkW_c53 9 rfl) rfl ?_
    refine r_icmp_eq (tgt := 2617) E (dat dkW_c53 10 rfl) rfl (fun _ => ?_) (fun h => absurd rfl h)
    refine r_iload E (dat dkW_c53 13 rfl) rfl ?_
    refine r_if_ne (tgt := 2634) E (dat dkW_c53 14 rfl) rfl (fun _ => ?_) (fun h => absurd h (by decide))
    refine r_goto (tgt := 2775) E (dat dkW_c53 24 rfl) rfl ?_
    refine r_wid (k2 := k + 100) (n2 := n + 1000) (by show k + 1 + 0 + 0 ≤ _; omega) (by show n + 6 + 0 + 0 ≤ _; omega) ?_
    refine r_back rfl (by simp [LW]) (kk _ (RLe_tr hrel (fun j hj => loX_lt hj) rfl))
set_option maxRecDepth 100000 in
set_option maxHeartbeats 8000000 in
theorem lb_54 {p : Program} {l : Launch} {e : Env} {s : State} {m : MethodId} {args : Array Value} {below : List Frame} {meth : Method} {c : Code} {G : GT} {ad : Nat → Nat → Nat} {Q : State → Prop} {k n : Nat} (hst : l.stackTraces = false) (E : EN p s m args meth c G (KL, lkC, ad) cL_law RL 9 (some .boolean)) {b Ls : Nat} {xs : Nat → Int32} (hX : va_X b Ls xs s s.heap) (hb : b < s.heap.size) (hA : ¬ AS (KL, lkC, ad) s.heap.size b) (hL : Ls ≤ 3072) {i : Nat} (hi : i + 6 ≤ Ls) {N : Mem} {B : Int} (H : RLe N (vw [20] N) B) (h0 : 0 ≤ B) (h1 : B + 300 < 2147483648) (hk : k + 100 ≤ room_1.cells) (hn : n + 1000 ≤ room_1.slots)
    (kk : ∀ N2 : Mem, RLe N2 (vw [20] N2) (B + 279) → WM p l e room_1 s m args below meth c G (KL, lkC, ad) 9 Q N2 (k + 100) (n + 1000) 2775 [some (.inl (.ref b)), some (rv 0 0), some (rv 20 0), some (rv 19 0), some (iv (nI i)), none, none, none, none] []) :
    WM p l e room_1 s m args below meth c G (KL, lkC, ad) 9 Q N k n 2637 [some (.inl (.ref b)), some (rv 0 0), some (rv 20 0), some (rv 19 0), some (iv (nI i)), none, none, none, none] [] := by
  obtain ⟨post, XP, post2, hM, hR, hr, hE, P1, P2⟩ := pa_writeRow l hst G H h0 h1 (xs (i + 1))
  refine r_aload_n E (dat dkW_c54 0 rfl) rfl rfl ?_
  refine r_aldX E (dat dkW_c54 1 rfl) rfl rfl ?_
  refine r_iload E (dat dkW_c54 2 rfl) rfl ?_
  refine r_iconst (v := 1) E (dat dkW_c54 3 rfl) rfl ?_
  refine r_iadd E (dat dkW_c54 4 rfl) ?_
  refine r_sld E hX hb hA hL (nI_add i 1) (show i + 1 < Ls by omega) (dat dkW_c54 5 rfl) ?_
  refine r_aload_n E (dat dkW_c54 6 rfl) rfl rfl ?_
  refine r_callSW (N := 3) (μ := []) E (sp_L_writeRow l G (xs (i + 1)) N post XP hM hr (fun Ex M' h => by simpa using hE Ex M' h)) ini_L (bg_5 239 (by decide +kernel)) ⟨by decide +kernel, by decide +kernel, by decide +kernel⟩ (bg_5 238 (by decide +kernel)) ml_L_327 cm_LO rfl rfl ⟨Nat.le_of_ble_eq_true rfl, Nat.le_of_ble_eq_true rfl, Nat.le_trans (Nat.add_le_add_left (Nat.le_of_ble_eq_true rfl) k) hk, Nat.le_trans (Nat.add_le_add_left (Nat.le_of_ble_eq_true rfl) n) hn⟩ (Nat.le_of_ble_eq_true rfl) (dat dkW_c54 7 rfl) ?_
  rintro r M9 (⟨v, M', hp, rfl, rfl⟩ | ⟨M', hp, rfl, rfl⟩)
  ·
    refine ⟨_, loV_m, ?_⟩
    refine r_istore_5 E (dat dkW_c54 8 rfl) rfl rfl ?_
    refine r_aload_n E (dat dkW_c54 9 rfl) rfl rfl ?_
    refine r_aldX E (dat dkW_c54 10 rfl) rfl rfl ?_
    refine r_iload E (dat dkW_c54 11 rfl) rfl ?_
    refine r_iconst (v := 1) E (dat dkW_c54 12 rfl) rfl ?_
    refine r_iadd E (dat dkW_c54 13 rfl) ?_
    refine r_sld E hX hb hA hL (nI_add i 1) (show i + 1 < Ls by omega) (dat dkW_c54 14 rfl) ?_
    refine r_callV (κ := 9) (μ := [20]) E (hR (vw [20] (loV N M' v)) rfl) my_X10_writeRow iv_X10_writeRow ml_L_329 cm_LR ⟨by decide, rfl, rfl⟩ rfl rfl rfl rfl ⟨Nat.le_of_ble_eq_true rfl, Nat.le_of_ble_eq_true rfl, Nat.le_trans (show k + 4 + 0 ≤ k + 100 by omega) hk, Nat.le_trans (show n + 24 + 0 ≤ n + 1000 by omega) hn⟩ (Nat.le_of_ble_eq_true rfl) (dat dkW_c54 15 rfl) ?_
    rintro r R' hp2
    obtain ⟨rfl, ht, hrel⟩ := P1 v M' hp _ rfl r R' hp2
    refine ⟨_, Mrg_R, ?_⟩
    refine r_istore_6 E (dat dkW_c54 16 rfl) rfl rfl ?_
    refine r_aload_n E (dat dkW_c54 17 rfl) rfl rfl ?_
    refine r_callV (κ := 9) (μ := [20]) E (sp_X10_thrown l G _) my_X10_thrown iv_X10_thrown ml_L_178 cm_LR ⟨by decide, rfl, rfl⟩ rfl rfl rfl rfl ⟨Nat.le_of_ble_eq_true rfl, Nat.le_of_ble_eq_true rfl, Nat.le_trans (show k + 4 + 0 + 0 ≤ k + 100 by omega) hk, Nat.le_trans (show n + 24 + 0 + 0 ≤ n + 1000 by omega) hn⟩ (Nat.le_of_ble_eq_true rfl) (dat dkW_c54 18 rfl) ?_
    rintro _ _ ⟨rfl, rfl⟩
    refine ⟨_, Mrg_T, ?_⟩
    refine r_topE (show vw [20] (setm (loV N M' v) 20 (R' 0)) 0 0 6 = 0 from ht) ?_
    refine r_iload E (dat dkW_c54 19 rfl) rfl ?_
    refine r_icmp_eq (tgt := 2673) E (dat dkW_c54 20 rfl) rfl (fun _ => ?_) (fun h => absurd rfl h)
    refine r_iload E (dat dkW_c54 23 rfl) rfl ?_
    refine r_if_ne (tgt := 2690) E (dat dkW_c54 24 rfl) rfl (fun h => absurd rfl h) (fun _ => ?_)
    refine r_aload_n E (dat dkW_c54 25 rfl) rfl rfl ?_
    refine r_iconst (v := 0) E (dat dkW_c54 26 rfl) rfl ?_
    refine r_lald (N := 1) E (dat dkW_c54 27 rfl) rfl rfl (by unfold vp_in; decide) ?_
    refine r_iload E (dat dkW_c54 28 rfl) rfl ?_
    refine r_i2l E (dat dkW_c54 29 rfl) ?_
    refine r_lcmp E (dat dkW_c54 30 rfl) ?_
    refine r_if_eq (tgt := 2690) E (dat dkW_c54 31 rfl) rfl (fun _ => ?_) (fun h9 => absurd (lg_self v.toInt64) h9)
    refine r_goto (tgt := 2775) E (dat dkW_c54 34 rfl) rfl ?_
    refine r_wid (k2 := k + 100) (n2 := n + 1000) (by show k + 4 + 0 + 0 ≤ _; omega) (by show n + 24 + 0 + 0 ≤ _; omega) ?_
    refine r_back rfl (by simp [LW]) (kk _ (RLe_tr hrel (fun j hj => loV_lt hj) rfl))
  ·
    refine ⟨_, loX_m2, ?_⟩
    refine r_istore_5 E (dat dkW_c54 8 rfl) rfl rfl ?_
    refine r_aload_n E (dat dkW_c54 9 rfl) rfl rfl ?_
    refine r_aldX E (dat dkW_c54 10 rfl) rfl rfl ?_
    refine r_iload E (dat dkW_c54 11 rfl) rfl ?_
    refine r_iconst (v := 1) E (dat dkW_c54 12 rfl) rfl ?_
    refine r_iadd E (dat dkW_c54 13 rfl) ?_
    refine r_sld E hX hb hA hL (nI_add i 1) (show i + 1 < Ls by omega) (dat dkW_c54 14 rfl) ?_
    refine r_callV (κ := 9) (μ := [20]) E (hR (vw [20] (loX N M')) rfl) my_X10_writeRow iv_X10_writeRow ml_L_329 cm_LR ⟨by decide, rfl, rfl⟩ rfl rfl rfl rfl ⟨Nat.le_of_ble_eq_true rfl, Nat.le_of_ble_eq_true rfl, Nat.le_trans (show k + 4 + 0 ≤ k + 100 by omega) hk, Nat.le_trans (show n + 24 + 0 ≤ n + 1000 by omega) hn⟩ (Nat.le_of_ble_eq_true rfl) (dat dkW_c54 15 rfl) ?_
    rintro r R' hp2
    obtain ⟨⟨bv, rfl⟩, ht, hrel⟩ := P2 0 oobN M' rfl hp _ rfl r R' hp2
    refine ⟨_, Mrg_R, ?_⟩
    refine r_istore_6 E (dat dkW_c54 16 rfl) rfl rfl ?_
    refine r_aload_n E (dat dkW_c54 17 rfl) rfl rfl ?_
    refine r_callV (κ := 9) (μ := [20]) E (sp_X10_thrown l G _) my_X10_thrown iv_X10_thrown ml_L_178 cm_LR ⟨by decide, rfl, rfl⟩ rfl rfl rfl rfl ⟨Nat.le_of_ble_eq_true rfl, Nat.le_of_ble_eq_true rfl, Nat.le_trans (show k + 4 + 0 + 0 ≤ k + 100 by omega) hk, Nat.le_trans (show n + 24 + 0 + 0 ≤ n + 1000 by omega) hn⟩ (Nat.le_of_ble_eq_true rfl) (dat dkW_c54 18 rfl) ?_
    rintro _ _ ⟨rfl, rfl⟩
    refine ⟨_, Mrg_T, ?_⟩
    refine r_topE (show vw [20] (setm (loX N M') 20 (R' 0)) 0 0 6 = nI (0 + 1) from ht) ?_
    refine r_iload E (dat dkW_c54 19 rfl) rfl ?_
    refine r_icmp_eq (tgt := 2673) E (dat dkW_c54 20 rfl) rfl (fun _ => ?_) (fun h => absurd rfl h)
    refine r_iload E (dat dkW_c54 23 rfl) rfl ?_
    refine r_if_ne (tgt := 2690) E (dat dkW_c54 24 rfl) rfl (fun _ => ?_) (fun h => absurd h (by decide))
    refine r_goto (tgt := 2775) E (dat dkW_c54 34 rfl) rfl ?_
    refine r_wid (k2 := k + 100) (n2 := n + 1000) (by show k + 4 + 0 + 0 ≤ _; omega) (by show n + 24 + 0 + 0 ≤ _; omega) ?_
    refine r_back rfl (by simp [LW]) (kk _ (RLe_tr hrel (fun j hj => loX_lt hj) rfl))
set_option maxRecDepth 100000 in
set_option maxHeartbeats 8000000 in
theorem lb_55 {p : Program} {l : Launch} {e : Env} {s : State} {m : MethodId} {args : Array Value} {below : List Frame} {meth : Method} {c : Code} {G : GT} {ad : Nat → Nat → Nat} {Q : State → Prop} {k n : Nat} (hst : l.stackTraces = false) (E : EN p s m args meth c G (KL, lkC, ad) cL_law RL 9 (some .boolean)) {b Ls : Nat} {xs : Nat → Int32} (hX : va_X b Ls xs s s.heap) (hb : b < s.heap.size) (hA : ¬ AS (KL, lkC, ad) s.heap.size b) (hL : Ls ≤ 3072) {i : Nat} (hi : i + 6 ≤ Ls) {N : Mem} {B : Int} (H : RLe N (vw [20] N) B) (h0 : 0 ≤ B) (h1 : B + 300 < 2147483648) (hk : k + 100 ≤ room_1.cells) (hn : n + 1000 ≤ room_1.slots)
    (kk : ∀ N2 : Mem, RLe N2 (vw [20] N2) (B + 279) → WM p l e room_1 s m args below meth c G (KL, lkC, ad) 9 Q N2 (k + 100) (n + 1000) 2775 [some (.inl (.ref b)), some (rv 0 0), some (rv 20 0), some (rv 19 0), some (iv (nI i)), none, none, none, none] []) :
    WM p l e room_1 s m args below meth c G (KL, lkC, ad) 9 Q N k n 2693 [some (.inl (.ref b)), some (rv 0 0), some (rv 20 0), some (rv 19 0), some (iv (nI i)), none, none, none, none] [] := by
  obtain ⟨post, post2, hM, hR, P⟩ := pa_outputByte l hst G H h0 h1 (xs (i + 1))
  refine r_aload_n E (dat dkW_c55 0 rfl) rfl rfl ?_
  refine r_aldX E (dat dkW_c55 1 rfl) rfl rfl ?_
  refine r_iload E (dat dkW_c55 2 rfl) rfl ?_
  refine r_iconst (v := 1) E (dat dkW_c55 3 rfl) rfl ?_
  refine r_iadd E (dat dkW_c55 4 rfl) ?_
  refine r_sld E hX hb hA hL (nI_add i 1) (show i + 1 < Ls by omega) (dat dkW_c55 5 rfl) ?_
  refine r_callV (κ := 8) (μ := []) E hM my_X9_outputByte iv_X9_outputByte ml_L_330 cm_LC ⟨by decide, rfl, rfl⟩ rfl rfl rfl rfl ⟨Nat.le_of_ble_eq_true rfl, Nat.le_of_ble_eq_true rfl, Nat.le_trans (Nat.add_le_add_left (Nat.le_of_ble_eq_true rfl) k) hk, Nat.le_trans (Nat.add_le_add_left (Nat.le_of_ble_eq_true rfl) n) hn⟩ (Nat.le_of_ble_eq_true rfl) (dat dkW_c55 6 rfl) ?_
  rintro r M' hp
  obtain ⟨⟨v, rfl⟩, P2⟩ := P r M' hp
  refine ⟨_, loX_m, ?_⟩
  refine r_aload_n E (dat dkW_c55 7 rfl) rfl rfl ?_
  refine r_aldX E (dat dkW_c55 8 rfl) rfl rfl ?_
  refine r_iload E (dat dkW_c55 9 rfl) rfl ?_
  refine r_iconst (v := 1) E (dat dkW_c55 10 rfl) rfl ?_
  refine r_iadd E (dat dkW_c55 11 rfl) ?_
  refine r_sld E hX hb hA hL (nI_add i 1) (show i + 1 < Ls by omega) (dat dkW_c55 12 rfl) ?_
  refine r_callV (κ := 9) (μ := [20]) E (hR (vw [20] (loX N M')) rfl) my_X10_outputByte iv_X10_outputByte ml_L_333 cm_LR ⟨by decide, rfl, rfl⟩ rfl rfl rfl rfl ⟨Nat.le_of_ble_eq_true rfl, Nat.le_of_ble_eq_true rfl, Nat.le_trans (show k + 0 + 0 ≤ k + 100 by omega) hk, Nat.le_trans (show n + 0 + 0 ≤ n + 1000 by omega) hn⟩ (Nat.le_of_ble_eq_true rfl) (dat dkW_c55 13 rfl) ?_
  rintro r R' hp2
  obtain ⟨rfl, hrel⟩ := P2 _ rfl r R' hp2
  refine ⟨_, Mrg_R, ?_⟩
  refine r_icmp_eq (tgt := 2775) E (dat dkW_c55 14 rfl) rfl (fun _ => ?_) (fun h => absurd rfl h)
  refine r_wid (k2 := k + 100) (n2 := n + 1000) (by show k + 0 + 0 ≤ _; omega) (by show n + 0 + 0 ≤ _; omega) ?_
  refine r_back rfl (by simp [LW]) (kk _ (RLe_tr hrel (fun j hj => loX_lt hj) rfl))
set_option maxRecDepth 100000 in
set_option maxHeartbeats 8000000 in
theorem lb_56 {p : Program} {l : Launch} {e : Env} {s : State} {m : MethodId} {args : Array Value} {below : List Frame} {meth : Method} {c : Code} {G : GT} {ad : Nat → Nat → Nat} {Q : State → Prop} {k n : Nat} (hst : l.stackTraces = false) (E : EN p s m args meth c G (KL, lkC, ad) cL_law RL 9 (some .boolean)) {b Ls : Nat} {xs : Nat → Int32} (hX : va_X b Ls xs s s.heap) (hb : b < s.heap.size) (hA : ¬ AS (KL, lkC, ad) s.heap.size b) (hL : Ls ≤ 3072) {i : Nat} (hi : i + 6 ≤ Ls) {N : Mem} {B : Int} (H : RLe N (vw [20] N) B) (h0 : 0 ≤ B) (h1 : B + 300 < 2147483648) (hk : k + 100 ≤ room_1.cells) (hn : n + 1000 ≤ room_1.slots)
    (kk : ∀ N2 : Mem, RLe N2 (vw [20] N2) (B + 279) → WM p l e room_1 s m args below meth c G (KL, lkC, ad) 9 Q N2 (k + 100) (n + 1000) 2775 [some (.inl (.ref b)), some (rv 0 0), some (rv 20 0), some (rv 19 0), some (iv (nI i)), none, none, none, none] []) :
    WM p l e room_1 s m args below meth c G (KL, lkC, ad) 9 Q N k n 2718 [some (.inl (.ref b)), some (rv 0 0), some (rv 20 0), some (rv 19 0), some (iv (nI i)), none, none, none, none] [] := by
  obtain ⟨post, post2, hM, hR, P⟩ := pa_saveState l hst G H h0 h1
  refine r_aload_n E (dat dkW_c56 0 rfl) rfl rfl ?_
  refine r_callV (κ := 8) (μ := []) E hM my_X9_saveState iv_X9_saveState ml_L_334 cm_LC ⟨by decide, rfl, rfl⟩ rfl rfl rfl rfl ⟨Nat.le_of_ble_eq_true rfl, Nat.le_of_ble_eq_true rfl, Nat.le_trans (Nat.add_le_add_left (Nat.le_of_ble_eq_true rfl) k) hk, Nat.le_trans (Nat.add_le_add_left (Nat.le_of_ble_eq_true rfl) n) hn⟩ (Nat.le_of_ble_eq_true rfl) (dat dkW_c56 1 rfl) ?_
  rintro r M' hp
  obtain ⟨⟨v, rfl⟩, P2⟩ := P r M' hp
  refine ⟨_, loX_m, ?_⟩
  refine r_aload_n E (dat dkW_c56 2 rfl) rfl rfl ?_
  refine r_callV (κ := 9) (μ := [20]) E (hR (vw [20] (loX N M')) rfl) my_X10_saveState iv_X10_saveState ml_L_337 cm_LR ⟨by decide, rfl, rfl⟩ rfl rfl rfl rfl ⟨Nat.le_of_ble_eq_true rfl, Nat.le_of_ble_eq_true rfl, Nat.le_trans (show k + 0 + 0 ≤ k + 100 by omega) hk, Nat.le_trans (show n + 0 + 0 ≤ n + 1000 by omega) hn⟩ (Nat.le_of_ble_eq_true rfl) (dat dkW_c56 3 rfl) ?_
  rintro r R' hp2
  obtain ⟨rfl, hrel⟩ := P2 _ rfl r R' hp2
  refine ⟨_, Mrg_R, ?_⟩
  refine r_icmp_eq (tgt := 2775) E (dat dkW_c56 4 rfl) rfl (fun _ => ?_) (fun h => absurd rfl h)
  refine r_wid (k2 := k + 100) (n2 := n + 1000) (by show k + 0 + 0 ≤ _; omega) (by show n + 0 + 0 ≤ _; omega) ?_
  refine r_back rfl (by simp [LW]) (kk _ (RLe_tr hrel (fun j hj => loX_lt hj) rfl))
set_option maxRecDepth 100000 in
set_option maxHeartbeats 8000000 in
theorem lb_57 {p : Program} {l : Launch} {e : Env} {s : State} {m : MethodId} {args : Array Value} {below : List Frame} {meth : Method} {c : Code} {G : GT} {ad : Nat → Nat → Nat} {Q : State → Prop} {k n : Nat} (hst : l.stackTraces = false) (E : EN p s m args meth c G (KL, lkC, ad) cL_law RL 9 (some .boolean)) {b Ls : Nat} {xs : Nat → Int32} (hX : va_X b Ls xs s s.heap) (hb : b < s.heap.size) (hA : ¬ AS (KL, lkC, ad) s.heap.size b) (hL : Ls ≤ 3072) {i : Nat} (hi : i + 6 ≤ Ls) {N : Mem} {B : Int} (H : RLe N (vw [20] N) B) (h0 : 0 ≤ B) (h1 : B + 300 < 2147483648) (hk : k + 100 ≤ room_1.cells) (hn : n + 1000 ≤ room_1.slots)
    (kk : ∀ N2 : Mem, RLe N2 (vw [20] N2) (B + 279) → WM p l e room_1 s m args below meth c G (KL, lkC, ad) 9 Q N2 (k + 100) (n + 1000) 2775 [some (.inl (.ref b)), some (rv 0 0), some (rv 20 0), some (rv 19 0), some (iv (nI i)), none, none, none, none] []) :
    WM p l e room_1 s m args below meth c G (KL, lkC, ad) 9 Q N k n 2731 [some (.inl (.ref b)), some (rv 0 0), some (rv 20 0), some (rv 19 0), some (iv (nI i)), none, none, none, none] [] := by
  obtain ⟨post, XP, post2, hM, hR, hr, hE, P1, P2⟩ := pa_restoreState l hst G H h0 h1
  refine r_aload_n E (dat dkW_c57 0 rfl) rfl rfl ?_
  refine r_aload_n E (dat dkW_c57 1 rfl) rfl rfl ?_
  refine r_callSW (N := 2) (μ := []) E (sp_L_restoreState l G N post XP hM hr (fun Ex M' h => by simpa using hE Ex M' h)) ini_L (bg_6 14 (by decide +kernel)) ⟨by decide +kernel, by decide +kernel, by decide +kernel⟩ (bg_6 13 (by decide +kernel)) ml_L_338 cm_LO rfl rfl ⟨Nat.le_of_ble_eq_true rfl, Nat.le_of_ble_eq_true rfl, Nat.le_trans (Nat.add_le_add_left (Nat.le_of_ble_eq_true rfl) k) hk, Nat.le_trans (Nat.add_le_add_left (Nat.le_of_ble_eq_true rfl) n) hn⟩ (Nat.le_of_ble_eq_true rfl) (dat dkW_c57 2 rfl) ?_
  rintro r M9 (⟨v, M', hp, rfl, rfl⟩ | ⟨M', hp, rfl, rfl⟩)
  ·
    refine ⟨_, loV_m, ?_⟩
    refine r_istore_5 E (dat dkW_c57 3 rfl) rfl rfl ?_
    refine r_aload_n E (dat dkW_c57 4 rfl) rfl rfl ?_
    refine r_callV (κ := 9) (μ := [20]) E (hR (vw [20] (loV N M' v)) rfl) my_X10_restoreState iv_X10_restoreState ml_L_340 cm_LR ⟨by decide, rfl, rfl⟩ rfl rfl rfl rfl ⟨Nat.le_of_ble_eq_true rfl, Nat.le_of_ble_eq_true rfl, Nat.le_trans (show k + 1 + 0 ≤ k + 100 by omega) hk, Nat.le_trans (show n + 6 + 0 ≤ n + 1000 by omega) hn⟩ (Nat.le_of_ble_eq_true rfl) (dat dkW_c57 5 rfl) ?_
    rintro r R' hp2
    obtain ⟨rfl, ht, hrel⟩ := P1 v M' hp _ rfl r R' hp2
    refine ⟨_, Mrg_R, ?_⟩
    refine r_istore_6 E (dat dkW_c57 6 rfl) rfl rfl ?_
    refine r_aload_n E (dat dkW_c57 7 rfl) rfl rfl ?_
    refine r_callV (κ := 9) (μ := [20]) E (sp_X10_thrown l G _) my_X10_thrown iv_X10_thrown ml_L_178 cm_LR ⟨by decide, rfl, rfl⟩ rfl rfl rfl rfl ⟨Nat.le_of_ble_eq_true rfl, Nat.le_of_ble_eq_true rfl, Nat.le_trans (show k + 1 + 0 + 0 ≤ k + 100 by omega) hk, Nat.le_trans (show n + 6 + 0 + 0 ≤ n + 1000 by omega) hn⟩ (Nat.le_of_ble_eq_true rfl) (dat dkW_c57 8 rfl) ?_
    rintro _ _ ⟨rfl, rfl⟩
    refine ⟨_, Mrg_T, ?_⟩
    refine r_topE (show vw [20] (setm (loV N M' v) 20 (R' 0)) 0 0 6 = 0 from ht) ?_
    refine r_iload E (dat dkW_c57 9 rfl) rfl ?_
    refine r_icmp_eq (tgt := 2755) E (dat dkW_c57 10 rfl) rfl (fun _ => ?_) (fun h => absurd rfl h)
    refine r_iload E (dat dkW_c57 13 rfl) rfl ?_
    refine r_if_ne (tgt := 2772) E (dat dkW_c57 14 rfl) rfl (fun h => absurd rfl h) (fun _ => ?_)
    refine r_aload_n E (dat dkW_c57 15 rfl) rfl rfl ?_
    refine r_iconst (v := 0) E (dat dkW_c57 16 rfl) rfl ?_
    refine r_lald (N := 1) E (dat dkW_c57 17 rfl) rfl rfl (by unfold vp_in; decide) ?_
    refine r_iload E (dat dkW_c57 18 rfl) rfl ?_
    refine r_i2l E (dat dkW_c57 19 rfl) ?_
    refine r_lcmp E (dat dkW_c57 20 rfl) ?_
    refine r_if_eq (tgt := 2772) E (dat dkW_c57 21 rfl) rfl (fun _ => ?_) (fun h9 => absurd (lg_self v.toInt64) h9)
    refine r_goto (tgt := 2775) E (dat dkW_c57 24 rfl) rfl ?_
    refine r_wid (k2 := k + 100) (n2 := n + 1000) (by show k + 1 + 0 + 0 ≤ _; omega) (by show n + 6 + 0 + 0 ≤ _; omega) ?_
    refine r_back rfl (by simp [LW]) (kk _ (RLe_tr hrel (fun j hj => loV_lt hj) rfl))
  ·
    refine ⟨_, loX_m2, ?_⟩
    refine r_istore_5 E (dat dkW_c57 3 rfl) rfl rfl ?_
    refine r_aload_n E (dat dkW_c57 4 rfl) rfl rfl ?_
    refine r_callV (κ := 9) (μ := [20]) E (hR (vw [20] (loX N M')) rfl) my_X10_restoreState iv_X10_restoreState ml_L_340 cm_LR ⟨by decide, rfl, rfl⟩ rfl rfl rfl rfl ⟨Nat.le_of_ble_eq_true rfl, Nat.le_of_ble_eq_true rfl, Nat.le_trans (show k + 1 + 0 ≤ k + 100 by omega) hk, Nat.le_trans (show n + 6 + 0 ≤ n + 1000 by omega) hn⟩ (Nat.le_of_ble_eq_true rfl) (dat dkW_c57 5 rfl) ?_
    rintro r R' hp2
    obtain ⟨⟨bv, rfl⟩, ht, hrel⟩ := P2 0 nseN M' rfl hp _ rfl r R' hp2
    refine ⟨_, Mrg_R, ?_⟩
    refine r_istore_6 E (dat dkW_c57 6 rfl) rfl rfl ?_
    refine r_aload_n E (dat dkW_c57 7 rfl) rfl rfl ?_
    refine r_callV (κ := 9) (μ := [20]) E (sp_X10_thrown l G _) my_X10_thrown iv_X10_thrown ml_L_178 cm_LR ⟨by decide, rfl, rfl⟩ rfl rfl rfl rfl ⟨Nat.le_of_ble_eq_true rfl, Nat.le_of_ble_eq_true rfl, Nat.le_trans (show k + 1 + 0 + 0 ≤ k + 100 by omega) hk, Nat.le_trans (show n + 6 + 0 + 0 ≤ n + 1000 by omega) hn⟩ (Nat.le_of_ble_eq_true rfl) (dat dkW_c57 8 rfl) ?_
    rintro _ _ ⟨rfl, rfl⟩
    refine ⟨_, Mrg_T, ?_⟩
    refine r_topE (show vw [20] (setm (loX N M') 20 (R' 0)) 0 0 6 = nI (0 + 1) from ht) ?_
    refine r_iload E (dat dkW_c57 9 rfl) rfl ?_
    refine r_icmp_eq (tgt := 2755) E (dat dkW_c57 10 rfl) rfl (fun _ => ?_) (fun h => absurd rfl h)
    refine r_iload E (dat dkW_c57 13 rfl) rfl ?_
    refine r_if_ne (tgt := 2772) E (dat dkW_c57 14 rfl) rfl (fun _ => ?_) (fun h => absurd h (by decide))
    refine r_goto (tgt := 2775) E (dat dkW_c57 24 rfl) rfl ?_
    refine r_wid (k2 := k + 100) (n2 := n + 1000) (by show k + 1 + 0 + 0 ≤ _; omega) (by show n + 6 + 0 + 0 ≤ _; omega) ?_
    refine r_back rfl (by simp [LW]) (kk _ (RLe_tr hrel (fun j hj => loX_lt hj) rfl))
