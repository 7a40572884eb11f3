set_option maxRecDepth 100000 in
set_option maxHeartbeats 8000000 in
theorem lb_15 {p : Program} {l : Launch} {e : Env} {s : State} {m : MethodId} {args : Array Value} {below : List Frame} {meth : Method} {c : Code} {G : GT} {ad : Nat → Nat → Nat} {Q : State → Prop} {k n : Nat} (hst : l.stackTraces = false) (E : EN p s m args meth c G (KL, lkC, ad) cL_law RL 9 (some .boolean)) {b Ls : Nat} {xs : Nat → Int32} (hX : va_X b Ls xs s s.heap) (hb : b < s.heap.size) (hA : ¬ AS (KL, lkC, ad) s.heap.size b) (hL : Ls ≤ 3072) {i : Nat} (hi : i + 6 ≤ Ls) {N : Mem} {B : Int} (H : RLe N (vw [20] N) B) (h0 : 0 ≤ B) (h1 : B + 300 < 2147483648) (hk : k + 100 ≤ room_1.cells) (hn : n + 1000 ≤ room_1.slots)
    (kk : ∀ N2 : Mem, RLe N2 (vw [20] N2) (B + 279) → WM p l e room_1 s m args below meth c G (KL, lkC, ad) 9 Q N2 (k + 100) (n + 1000) 2775 [some (.inl (.ref b)), some (rv 0 0), some (rv 20 0), some (rv 19 0), some (iv (nI i)), none, none, none, none] []) :
    WM p l e room_1 s m args below meth c G (KL, lkC, ad) 9 Q N k n 770 [some (.inl (.ref b)), some (rv 0 0), some (rv 20 0), some (rv 19 0), some (iv (nI i)), none, none, none, none] [] := by
  obtain ⟨post, XP, post2, hM, hR, hr, hE, P1, P2⟩ := pa_gutterFlow l hst G H h0 h1 (xs (i + 1))
  refine r_aload_n E (dat dkW_c15 0 rfl) rfl rfl ?_
  refine r_aldX E (dat dkW_c15 1 rfl) rfl rfl ?_
  refine r_iload E (dat dkW_c15 2 rfl) rfl ?_
  refine r_iconst (v := 1) E (dat dkW_c15 3 rfl) rfl ?_
  refine r_iadd E (dat dkW_c15 4 rfl) ?_
  refine r_sld E hX hb hA hL (nI_add i 1) (show i + 1 < Ls by omega) (dat dkW_c15 5 rfl) ?_
  refine r_aload_n E (dat dkW_c15 6 rfl) rfl rfl ?_
  refine r_callSW (N := 3) (μ := []) E (sp_L_gutterFlow l G (xs (i + 1)) N post XP hM hr (fun Ex M' h => by simpa using hE Ex M' h)) ini_L (bg_4 186 (by decide +kernel)) ⟨by decide +kernel, by decide +kernel, by decide +kernel⟩ (bg_4 185 (by decide +kernel)) ml_L_193 cm_LO rfl rfl ⟨Nat.le_of_ble_eq_true rfl, Nat.le_of_ble_eq_true rfl, Nat.le_trans (Nat.add_le_add_left (Nat.le_of_ble_eq_true rfl) k) hk, Nat.le_trans (Nat.add_le_add_left (Nat.le_of_ble_eq_true rfl) n) hn⟩ (Nat.le_of_ble_eq_true rfl) (dat dkW_c15 7 rfl) ?_
  rintro r M9 (⟨v, M', hp, rfl, rfl⟩ | ⟨M', hp, rfl, rfl⟩)
  ·
    refine ⟨_, loV_m, ?_⟩
    refine r_istore_5 E (dat dkW_c15 8 rfl) rfl rfl ?_
    refine r_aload_n E (dat dkW_c15 9 rfl) rfl rfl ?_
    refine r_aldX E (dat dkW_c15 10 rfl) rfl rfl ?_
    refine r_iload E (dat dkW_c15 11 rfl) rfl ?_
    refine r_iconst (v := 1) E (dat dkW_c15 12 rfl) rfl ?_
    refine r_iadd E (dat dkW_c15 13 rfl) ?_
    refine r_sld E hX hb hA hL (nI_add i 1) (show i + 1 < Ls by omega) (dat dkW_c15 14 rfl) ?_
    refine r_callV (κ := 9) (μ := [20]) E (hR (vw [20] (loV N M' v)) rfl) my_X10_gutterFlow iv_X10_gutterFlow ml_L_195 cm_LR ⟨by decide, rfl, rfl⟩ rfl rfl rfl rfl ⟨Nat.le_of_ble_eq_true rfl, Nat.le_of_ble_eq_true rfl, Nat.le_trans (show k + 4 + 0 ≤ k + 100 by omega) hk, Nat.le_trans (show n + 24 + 0 ≤ n + 1000 by omega) hn⟩ (Nat.le_of_ble_eq_true rfl) (dat dkW_c15 15 rfl) ?_
    rintro r R' hp2
    obtain ⟨rfl, ht, hrel⟩ := P1 v M' hp _ rfl r R' hp2
    refine ⟨_, Mrg_R, ?_⟩
    refine r_istore_6 E (dat dkW_c15 16 rfl) rfl rfl ?_
    refine r_aload_n E (dat dkW_c15 17 rfl) rfl rfl ?_
    refine r_callV (κ := 9) (μ := [20]) E (sp_X10_thrown l G _) my_X10_thrown iv_X10_thrown ml_L_178 cm_LR ⟨by decide, rfl, rfl⟩ rfl rfl rfl rfl ⟨Nat.le_of_ble_eq_true rfl, Nat.le_of_ble_eq_true rfl, Nat.le_trans (show k + 4 + 0 + 0 ≤ k + 100 by omega) hk, Nat.le_trans (show n + 24 + 0 + 0 ≤ n + 1000 by omega) hn⟩ (Nat.le_of_ble_eq_true rfl) (dat dkW_c15 18 rfl) ?_
    rintro _ _ ⟨rfl, rfl⟩
    refine ⟨_, Mrg_T, ?_⟩
    refine r_topE (show vw [20] (setm (loV N M' v) 20 (R' 0)) 0 0 6 = 0 from ht) ?_
    refine r_iload E (dat dkW_c15 19 rfl) rfl ?_
    refine r_icmp_eq (tgt := 806) E (dat dkW_c15 20 rfl) rfl (fun _ => ?_) (fun h => absurd rfl h)
    refine r_iload E (dat dkW_c15 23 rfl) rfl ?_
    refine r_if_ne (tgt := 823) E (dat dkW_c15 24 rfl) rfl (fun h => absurd rfl h) (fun _ => ?_)
    refine r_aload_n E (dat dkW_c15 25 rfl) rfl rfl ?_
    refine r_iconst (v := 0) E (dat dkW_c15 26 rfl) rfl ?_
    refine r_lald (N := 1) E (dat dkW_c15 27 rfl) rfl rfl (by unfold vp_in; decide) ?_
    refine r_iload E (dat dkW_c15 28 rfl) rfl ?_
    refine r_i2l E (dat dkW_c15 29 rfl) ?_
    refine r_lcmp E (dat dkW_c15 30 rfl) ?_
    refine r_if_eq (tgt := 823) E (dat dkW_c15 31 rfl) rfl (fun _ => ?_) (fun h9 => absurd (lg_self v.toInt64) h9)
    refine r_goto (tgt := 2775) E (dat dkW_c15 34 rfl) rfl ?_
    refine r_wid (k2 := k + 100) (n2 := n + 1000) (by show k + 4 + 0 + 0 ≤ _; omega) (by show n + 24 + 0 + 0 ≤ _; omega) ?_
    refine r_back rfl (by simp [LW]) (kk _ (RLe_tr hrel (fun j hj => loV_lt hj) rfl))
  ·
    refine ⟨_, loX_m2, ?_⟩
    refine r_istore_5 E (dat dkW_c15 8 rfl) rfl rfl ?_
    refine r_aload_n E (dat dkW_c15 9 rfl) rfl rfl ?_
    refine r_aldX E (dat dkW_c15 10 rfl) rfl rfl ?_
    refine r_iload E (dat dkW_c15 11 rfl) rfl ?_
    refine r_iconst (v := 1) E (dat dkW_c15 12 rfl) rfl ?_
    refine r_iadd E (dat dkW_c15 13 rfl) ?_
    refine r_sld E hX hb hA hL (nI_add i 1) (show i + 1 < Ls by omega) (dat dkW_c15 14 rfl) ?_
    refine r_callV (κ := 9) (μ := [20]) E (hR (vw [20] (loX N M')) rfl) my_X10_gutterFlow iv_X10_gutterFlow ml_L_195 cm_LR ⟨by decide, rfl, rfl⟩ rfl rfl rfl rfl ⟨Nat.le_of_ble_eq_true rfl, Nat.le_of_ble_eq_true rfl, Nat.le_trans (show k + 4 + 0 ≤ k + 100 by omega) hk, Nat.le_trans (show n + 24 + 0 ≤ n + 1000 by omega) hn⟩ (Nat.le_of_ble_eq_true rfl) (dat dkW_c15 15 rfl) ?_
    rintro r R' hp2
    obtain ⟨⟨bv, rfl⟩, ht, hrel⟩ := P2 0 oobN M' rfl hp _ rfl r R' hp2
    refine ⟨_, Mrg_R, ?_⟩
    refine r_istore_6 E (dat dkW_c15 16 rfl) rfl rfl ?_
    refine r_aload_n E (dat dkW_c15 17 rfl) rfl rfl ?_
    refine r_callV (κ := 9) (μ := [20]) E (sp_X10_thrown l G _) my_X10_thrown iv_X10_thrown ml_L_178 cm_LR ⟨by decide, rfl, rfl⟩ rfl rfl rfl rfl ⟨Nat.le_of_ble_eq_true rfl, Nat.le_of_ble_eq_true rfl, Nat.le_trans (show k + 4 + 0 + 0 ≤ k + 100 by omega) hk, Nat.le_trans (show n + 24 + 0 + 0 ≤ n + 1000 by omega) hn⟩ (Nat.le_of_ble_eq_true rfl) (dat dkW_c15 18 rfl) ?_
    rintro _ _ ⟨rfl, rfl⟩
    refine ⟨_, Mrg_T, ?_⟩
    refine r_topE (show vw [20] (setm (loX N M') 20 (R' 0)) 0 0 6 = nI (0 + 1) from ht) ?_
    refine r_iload E (dat dkW_c15 19 rfl) rfl ?_
    refine r_icmp_eq (tgt := 806) E (dat dkW_c15 20 rfl) rfl (fun _ => ?_) (fun h => absurd rfl h)
    refine r_iload E (dat dkW_c15 23 rfl) rfl ?_
    refine r_if_ne (tgt := 823) E (dat dkW_c15 24 rfl) rfl (fun _ => ?_) (fun h => absurd h (by decide))
    refine r_goto (tgt := 2775) E (dat dkW_c15 34 rfl) rfl ?_
    refine r_wid (k2 := k + 100) (n2 := n + 1000) (by show k + 4 + 0 + 0 ≤ _; omega) (by show n + 24 + 0 + 0 ≤ _; omega) ?_
    refine r_back rfl (by simp [LW]) (kk _ (RLe_tr hrel (fun j hj => loX_lt hj) rfl))
set_option maxRecDepth 100000 in
set_option maxHeartbeats 8000000 in
theorem lb_16 {p : Program} {l : Launch} {e : Env} {s : State} {m : MethodId} {args : Array Value} {below : List Frame} {meth : Method} {c : Code} {G : GT} {ad : Nat → Nat → Nat} {Q : State → Prop} {k n : Nat} (hst : l.stackTraces = false) (E : EN p s m args meth c G (KL, lkC, ad) cL_law RL 9 (some .boolean)) {b Ls : Nat} {xs : Nat → Int32} (hX : va_X b Ls xs s s.heap) (hb : b < s.heap.size) (hA : ¬ AS (KL, lkC, ad) s.heap.size b) (hL : Ls ≤ 3072) {i : Nat} (hi : i + 6 ≤ Ls) {N : Mem} {B : Int} (H : RLe N (vw [20] N) B) (h0 : 0 ≤ B) (h1 : B + 300 < 2147483648) (hk : k + 100 ≤ room_1.cells) (hn : n + 1000 ≤ room_1.slots)
    (kk : ∀ N2 : Mem, RLe N2 (vw [20] N2) (B + 279) → WM p l e room_1 s m args below meth c G (KL, lkC, ad) 9 Q N2 (k + 100) (n + 1000) 2775 [some (.inl (.ref b)), some (rv 0 0), some (rv 20 0), some (rv 19 0), some (iv (nI i)), none, none, none, none] []) :
    WM p l e room_1 s m args below meth c G (KL, lkC, ad) 9 Q N k n 826 [some (.inl (.ref b)), some (rv 0 0), some (rv 20 0), some (rv 19 0), some (iv (nI i)), none, none, none, none] [] := by
  obtain ⟨post, XP, post2, hM, hR, hr, hE, P1, P2⟩ := pa_isPlugged l hst G H h0 h1 (xs (i + 1))
  refine r_aload_n E (dat dkW_c16 0 rfl) rfl rfl ?_
  refine r_aldX E (dat dkW_c16 1 rfl) rfl rfl ?_
  refine r_iload E (dat dkW_c16 2 rfl) rfl ?_
  refine r_iconst (v := 1) E (dat dkW_c16 3 rfl) rfl ?_
  refine r_iadd E (dat dkW_c16 4 rfl) ?_
  refine r_sld E hX hb hA hL (nI_add i 1) (show i + 1 < Ls by omega) (dat dkW_c16 5 rfl) ?_
  refine r_aload_n E (dat dkW_c16 6 rfl) rfl rfl ?_
  refine r_callSW (N := 3) (μ := []) E (sp_L_isPlugged l G (xs (i + 1)) N post XP hM hr (fun Ex M' h => by simpa using hE Ex M' h)) ini_L (bg_4 194 (by decide +kernel)) ⟨by decide +kernel, by decide +kernel, by decide +kernel⟩ (bg_4 193 (by decide +kernel)) ml_L_196 cm_LO rfl rfl ⟨Nat.le_of_ble_eq_true rfl, Nat.le_of_ble_eq_true rfl, Nat.le_trans (Nat.add_le_add_left (Nat.le_of_ble_eq_true rfl) k) hk, Nat.le_trans (Nat.add_le_add_left (Nat.le_of_ble_eq_true rfl) n) hn⟩ (Nat.le_of_ble_eq_true rfl) (dat dkW_c16 7 rfl) ?_
  rintro r M9 (⟨v, M', hp, rfl, rfl⟩ | ⟨M', hp, rfl, rfl⟩)
  ·
    refine ⟨_, loV_m, ?_⟩
    refine r_istore_5 E (dat dkW_c16 8 rfl) rfl rfl ?_
    refine r_aload_n E (dat dkW_c16 9 rfl) rfl rfl ?_
    refine r_aldX E (dat dkW_c16 10 rfl) rfl rfl ?_
    refine r_iload E (dat dkW_c16 11 rfl) rfl ?_
    refine r_iconst (v := 1) E (dat dkW_c16 12 rfl) rfl ?_
    refine r_iadd E (dat dkW_c16 13 rfl) ?_
    refine r_sld E hX hb hA hL (nI_add i 1) (show i + 1 < Ls by omega) (dat dkW_c16 14 rfl) ?_
    refine r_callV (κ := 9) (μ := [20]) E (hR (vw [20] (loV N M' (if v = 0 then 0 else 1))) rfl) my_X10_isPlugged iv_X10_isPlugged ml_L_198 cm_LR ⟨by decide, rfl, rfl⟩ rfl rfl rfl rfl ⟨Nat.le_of_ble_eq_true rfl, Nat.le_of_ble_eq_true rfl, Nat.le_trans (show k + 4 + 0 ≤ k + 100 by omega) hk, Nat.le_trans (show n + 24 + 0 ≤ n + 1000 by omega) hn⟩ (Nat.le_of_ble_eq_true rfl) (dat dkW_c16 15 rfl) ?_
    rintro r R' hp2
    obtain ⟨rfl, ht, hrel⟩ := P1 v M' hp _ rfl r R' hp2
    refine ⟨_, Mrg_R, ?_⟩
    refine r_istore_6 E (dat dkW_c16 16 rfl) rfl rfl ?_
    refine r_aload_n E (dat dkW_c16 17 rfl) rfl rfl ?_
    refine r_callV (κ := 9) (μ := [20]) E (sp_X10_thrown l G _) my_X10_thrown iv_X10_thrown ml_L_178 cm_LR ⟨by decide, rfl, rfl⟩ rfl rfl rfl rfl ⟨Nat.le_of_ble_eq_true rfl, Nat.le_of_ble_eq_true rfl, Nat.le_trans (show k + 4 + 0 + 0 ≤ k + 100 by omega) hk, Nat.le_trans (show n + 24 + 0 + 0 ≤ n + 1000 by omega) hn⟩ (Nat.le_of_ble_eq_true rfl) (dat dkW_c16 18 rfl) ?_
    rintro _ _ ⟨rfl, rfl⟩
    refine ⟨_, Mrg_T, ?_⟩
    refine r_topE (show vw [20] (setm (loV N M' (if v = 0 then 0 else 1)) 20 (R' 0)) 0 0 6 = 0 from ht) ?_
    refine r_iload E (dat dkW_c16 19 rfl) rfl ?_
    refine r_icmp_eq (tgt := 862) E (dat dkW_c16 20 rfl) rfl (fun _ => ?_) (fun h => absurd rfl h)
    refine r_iload E (dat dkW_c16 23 rfl) rfl ?_
    refine r_if_ne (tgt := 886) E (dat dkW_c16 24 rfl) rfl (fun h => absurd rfl h) (fun _ => ?_)
    refine r_aload_n E (dat dkW_c16 25 rfl) rfl rfl ?_
    refine r_iconst (v := 0) E (dat dkW_c16 26 rfl) rfl ?_
    refine r_lald (N := 1) E (dat dkW_c16 27 rfl) rfl rfl (by unfold vp_in; decide) ?_
    refine r_iload E (dat dkW_c16 28 rfl) rfl ?_
    refine r_if_eq (tgt := 879) E (dat dkW_c16 29 rfl) rfl (fun hv => ?_) (fun hv => ?_)
    ·
      refine r_lconst (v := 0) E (dat dkW_c16 32 rfl) rfl ?_
      refine r_lcmp E (dat dkW_c16 33 rfl) ?_
      refine r_if_eq (tgt := 886) E (dat dkW_c16 34 rfl) rfl (fun _ => ?_) (fun h9 => absurd (by show lg_cmp (Int32.toInt64 (if v = 0 then 0 else 1)) 0 = 0; rw [if_pos hv]; rfl) h9)
      refine r_goto (tgt := 2775) E (dat dkW_c16 37 rfl) rfl ?_
      refine r_wid (k2 := k + 100) (n2 := n + 1000) (by show k + 4 + 0 + 0 ≤ _; omega) (by show n + 24 + 0 + 0 ≤ _; omega) ?_
      refine r_back rfl (by simp [LW]) (kk _ (RLe_tr hrel (fun j hj => loV_lt hj) rfl))
    ·
      refine r_lconst (v := 1) E (dat dkW_c16 30 rfl) rfl ?_
      refine r_goto (tgt := 880) E (dat dkW_c16 31 rfl) rfl ?_
      refine r_lcmp E (dat dkW_c16 33 rfl) ?_
      refine r_if_eq (tgt := 886) E (dat dkW_c16 34 rfl) rfl (fun _ => ?_) (fun h9 => absurd (by show lg_cmp (Int32.toInt64 (if v = 0 then 0 else 1)) 1 = 0; rw [if_neg hv]; rfl) h9)
      refine r_goto (tgt := 2775) E (dat dkW_c16 37 rfl) rfl ?_
      refine r_wid (k2 := k + 100) (n2 := n + 1000) (by show k + 4 + 0 + 0 ≤ _; omega) (by show n + 24 + 0 + 0 ≤ _; omega) ?_
      refine r_back rfl (by simp [LW]) (kk _ (RLe_tr hrel (fun j hj => loV_lt hj) rfl))
  ·
    refine ⟨_, loX_m2, ?_⟩
    refine r_istore_5 E (dat dkW_c16 8 rfl) rfl rfl ?_
    refine r_aload_n E (dat dkW_c16 9 rfl) rfl rfl ?_
    refine r_aldX E (dat dkW_c16 10 rfl) rfl rfl ?_
    refine r_iload E (dat dkW_c16 11 rfl) rfl ?_
    refine r_iconst (v := 1) E (dat dkW_c16 12 rfl) rfl ?_
    refine r_iadd E (dat dkW_c16 13 rfl) ?_
    refine r_sld E hX hb hA hL (nI_add i 1) (show i + 1 < Ls by omega) (dat dkW_c16 14 rfl) ?_
    refine r_callV (κ := 9) (μ := [20]) E (hR (vw [20] (loX N M')) rfl) my_X10_isPlugged iv_X10_isPlugged ml_L_198 cm_LR ⟨by decide, rfl, rfl⟩ rfl rfl rfl rfl ⟨Nat.le_of_ble_eq_true rfl, Nat.le_of_ble_eq_true rfl, Nat.le_trans (show k + 4 + 0 ≤ k + 100 by omega) hk, Nat.le_trans (show n + 24 + 0 ≤ n + 1000 by omega) hn⟩ (Nat.le_of_ble_eq_true rfl) (dat dkW_c16 15 rfl) ?_
    rintro r R' hp2
    obtain ⟨⟨bv, rfl⟩, ht, hrel⟩ := P2 0 oobN M' rfl hp _ rfl r R' hp2
    refine ⟨_, Mrg_R, ?_⟩
    refine r_istore_6 E (dat dkW_c16 16 rfl) rfl rfl ?_
    refine r_aload_n E (dat dkW_c16 17 rfl) rfl rfl ?_
    refine r_callV (κ := 9) (μ := [20]) E (sp_X10_thrown l G _) my_X10_thrown iv_X10_thrown ml_L_178 cm_LR ⟨by decide, rfl, rfl⟩ rfl rfl rfl rfl ⟨Nat.le_of_ble_eq_true rfl, Nat.le_of_ble_eq_true rfl, Nat.le_trans (show k + 4 + 0 + 0 ≤ k + 100 by omega) hk, Nat.le_trans (show n + 24 + 0 + 0 ≤ n + 1000 by omega) hn⟩ (Nat.le_of_ble_eq_true rfl) (dat dkW_c16 18 rfl) ?_
    rintro _ _ ⟨rfl, rfl⟩
    refine ⟨_, Mrg_T, ?_⟩
    refine r_topE (show vw [20] (setm (loX N M') 20 (R' 0)) 0 0 6 = nI (0 + 1) from ht) ?_
    refine r_iload E (dat dkW_c16 19 rfl) rfl ?_
    refine r_icmp_eq (tgt := 862) E (dat dkW_c16 20 rfl) rfl (fun _ => ?_) (fun h => absurd rfl h)
    refine r_iload E (dat dkW_c16 23 rfl) rfl ?_
    refine r_if_ne (tgt := 886) E (dat dkW_c16 24 rfl) rfl (fun _ => ?_) (fun h => absurd h (by decide))
    refine r_goto (tgt := 2775) E (dat dkW_c16 37 rfl) rfl ?_
    refine r_wid (k2 := k + 100) (n2 := n + 1000) (by show k + 4 + 0 + 0 ≤ _; omega) (by show n + 24 + 0 + 0 ≤ _; omega) ?_
    refine r_back rfl (by simp [LW]) (kk _ (RLe_tr hrel (fun j hj => loX_lt hj) rfl))
set_option maxRecDepth 100000 in
set_option maxHeartbeats 8000000 in
theorem lb_17 {p : Program} {l : Launch} {e : Env} {s : State} {m : MethodId} {args : Array Value} {below : List Frame} {meth : Method} {c : Code} {G : GT} {ad : Nat → Nat → Nat} {Q : State → Prop} {k n : Nat} (hst : l.stackTraces = false) (E : EN p s m args meth c G (KL, lkC, ad) cL_law RL 9 (some .boolean)) {b Ls : Nat} {xs : Nat → Int32} (hX : va_X b Ls xs s s.heap) (hb : b < s.heap.size) (hA : ¬ AS (KL, lkC, ad) s.heap.size b) (hL : Ls ≤ 3072) {i : Nat} (hi : i + 6 ≤ Ls) {N : Mem} {B : Int} (H : RLe N (vw [20] N) B) (h0 : 0 ≤ B) (h1 : B + 300 < 2147483648) (hk : k + 100 ≤ room_1.cells) (hn : n + 1000 ≤ room_1.slots)
    (kk : ∀ N2 : Mem, RLe N2 (vw [20] N2) (B + 279) → WM p l e room_1 s m args below meth c G (KL, lkC, ad) 9 Q N2 (k + 100) (n + 1000) 2775 [some (.inl (.ref b)), some (rv 0 0), some (rv 20 0), some (rv 19 0), some (iv (nI i)), none, none, none, none] []) :
    WM p l e room_1 s m args below meth c G (KL, lkC, ad) 9 Q N k n 889 [some (.inl (.ref b)), some (rv 0 0), some (rv 20 0), some (rv 19 0), some (iv (nI i)), none, none, none, none] [] := by
  obtain ⟨post, XP, post2, hM, hR, hr, hE, P1, P2⟩ := pa_hydrantRate l hst G H h0 h1 (xs (i + 1))
  refine r_aload_n E (dat dkW_c17 0 rfl) rfl rfl ?_
  refine r_aldX E (dat dkW_c17 1 rfl) rfl rfl ?_
  refine r_iload E (dat dkW_c17 2 rfl) rfl ?_
  refine r_iconst (v := 1) E (dat dkW_c17 3 rfl) rfl ?_
  refine r_iadd E (dat dkW_c17 4 rfl) ?_
  refine r_sld E hX hb hA hL (nI_add i 1) (show i + 1 < Ls by omega) (dat dkW_c17 5 rfl) ?_
  refine r_aload_n E (dat dkW_c17 6 rfl) rfl rfl ?_
  refine r_callSW (N := 3) (μ := []) E (sp_L_hydrantRate l G (xs (i + 1)) N post XP hM hr (fun Ex M' h => by simpa using hE Ex M' h)) ini_L (bg_4 201 (by decide +kernel)) ⟨by decide +kernel, by decide +kernel, by decide +kernel⟩ (bg_4 200 (by decide +kernel)) ml_L_199 cm_LO rfl rfl ⟨Nat.le_of_ble_eq_true rfl, Nat.le_of_ble_eq_true rfl, Nat.le_trans (Nat.add_le_add_left (Nat.le_of_ble_eq_true rfl) k) hk, Nat.le_trans (Nat.add_le_add_left (Nat.le_of_ble_eq_true rfl) n) hn⟩ (Nat.le_of_ble_eq_true rfl) (dat dkW_c17 7 rfl) ?_
  rintro r M9 (⟨v, M', hp, rfl, rfl⟩ | ⟨M', hp, rfl, rfl⟩)
  ·
    refine ⟨_, loV_m, ?_⟩
    refine r_istore_5 E (dat dkW_c17 8 rfl) rfl rfl ?_
    refine r_aload_n E (dat dkW_c17 9 rfl) rfl rfl ?_
    refine r_aldX E (dat dkW_c17 10 rfl) rfl rfl ?_
    refine r_iload E (dat dkW_c17 11 rfl) rfl ?_
    refine r_iconst (v := 1) E (dat dkW_c17 12 rfl) rfl ?_
    refine r_iadd E (dat dkW_c17 13 rfl) ?_
    refine r_sld E hX hb hA hL (nI_add i 1) (show i + 1 < Ls by omega) (dat dkW_c17 14 rfl) ?_
    refine r_callV (κ := 9) (μ := [20]) E (hR (vw [20] (loV N M' v)) rfl) my_X10_hydrantRate iv_X10_hydrantRate ml_L_201 cm_LR ⟨by decide, rfl, rfl⟩ rfl rfl rfl rfl ⟨Nat.le_of_ble_eq_true rfl, Nat.le_of_ble_eq_true rfl, Nat.le_trans (show k + 4 + 0 ≤ k + 100 by omega) hk, Nat.le_trans (show n + 24 + 0 ≤ n + 1000 by omega) hn⟩ (Nat.le_of_ble_eq_true rfl) (dat dkW_c17 15 rfl) ?_
    rintro r R' hp2
    obtain ⟨rfl, ht, hrel⟩ := P1 v M' hp _ rfl r R' hp2
    refine ⟨_, Mrg_R, ?_⟩
    refine r_istore_6 E (dat dkW_c17 16 rfl) rfl rfl ?_
    refine r_aload_n E (dat dkW_c17 17 rfl) rfl rfl ?_
    refine r_callV (κ := 9) (μ := [20]) E (sp_X10_thrown l G _) my_X10_thrown iv_X10_thrown ml_L_178 cm_LR ⟨by decide, rfl, rfl⟩ rfl rfl rfl rfl ⟨Nat.le_of_ble_eq_true rfl, Nat.le_of_ble_eq_true rfl, Nat.le_trans (show k + 4 + 0 + 0 ≤ k + 100 by omega) hk, Nat.le_trans (show n + 24 + 0 + 0 ≤ n + 1000 by omega) hn⟩ (Nat.le_of_ble_eq_true rfl) (dat dkW_c17 18 rfl) ?_
    rintro _ _ ⟨rfl, rfl⟩
    refine ⟨_, Mrg_T, ?_⟩
    refine r_topE (show vw [20] (setm (loV N M' v) 20 (R' 0)) 0 0 6 = 0 from ht) ?_
    refine r_iload E (dat dkW_c17 19 rfl) rfl ?_
    refine r_icmp_eq (tgt := 925) E (dat dkW_c17 20 rfl) rfl (fun _ => ?_) (fun h => absurd rfl h)
    refine r_iload E (dat dkW_c17 23 rfl) rfl ?_
    refine r_if_ne (tgt := 942) E (dat dkW_c17 24 rfl) rfl (fun h => absurd rfl h) (fun _ => ?_)
    refine r_aload_n E (dat dkW_c17 25 rfl) rfl rfl ?_
    refine r_iconst (v := 0) E (dat dkW_c17 26 rfl) rfl ?_
    refine r_lald (N := 1) E (dat dkW_c17 27 rfl) rfl rfl (by unfold vp_in; decide) ?_
    refine r_iload E (dat dkW_c17 28 rfl) rfl ?_
    refine r_i2l E (dat dkW_c17 29 rfl) ?_
    refine r_lcmp E (dat dkW_c17 30 rfl) ?_
    refine r_if_eq (tgt := 942) E (dat dkW_c17 31 rfl) rfl (fun _ => ?_) (fun h9 => absurd (lg_self v.toInt64) h9)
    refine r_goto (tgt := 2775) E (dat dkW_c17 34 rfl) rfl ?_
    refine r_wid (k2 := k + 100) (n2 := n + 1000) (by show k + 4 + 0 + 0 ≤ _; omega) (by show n + 24 + 0 + 0 ≤ _; omega) ?_
    refine r_back rfl (by simp [LW]) (kk _ (RLe_tr hrel (fun j hj => loV_lt hj) rfl))
  ·
    refine ⟨_, loX_m2, ?_⟩
    refine r_istore_5 E (dat dkW_c17 8 rfl) rfl rfl ?_
    refine r_aload_n E (dat dkW_c17 9 rfl) rfl rfl ?_
    refine r_aldX E (dat dkW_c17 10 rfl) rfl rfl ?_
    refine r_iload E (dat dkW_c17 11 rfl) rfl ?_
    refine r_iconst (v := 1) E (dat dkW_c17 12 rfl) rfl ?_
    refine r_iadd E (dat dkW_c17 13 rfl) ?_
    refine r_sld E hX hb hA hL (nI_add i 1) (show i + 1 < Ls by omega) (dat dkW_c17 14 rfl) ?_
    refine r_callV (κ := 9) (μ := [20]) E (hR (vw [20] (loX N M')) rfl) my_X10_hydrantRate iv_X10_hydrantRate ml_L_201 cm_LR ⟨by decide, rfl, rfl⟩ rfl rfl rfl rfl ⟨Nat.le_of_ble_eq_true rfl, Nat.le_of_ble_eq_true rfl, Nat.le_trans (show k + 4 + 0 ≤ k + 100 by omega) hk, Nat.le_trans (show n + 24 + 0 ≤ n + 1000 by omega) hn⟩ (Nat.le_of_ble_eq_true rfl) (dat dkW_c17 15 rfl) ?_
    rintro r R' hp2
    obtain ⟨⟨bv, rfl⟩, ht, hrel⟩ := P2 0 oobN M' rfl hp _ rfl r R' hp2
    refine ⟨_, Mrg_R, ?_⟩
    refine r_istore_6 E (dat dkW_c17 16 rfl) rfl rfl ?_
    refine r_aload_n E (dat dkW_c17 17 rfl) rfl rfl ?_
    refine r_callV (κ := 9) (μ := [20]) E (sp_X10_thrown l G _) my_X10_thrown iv_X10_thrown ml_L_178 cm_LR ⟨by decide, rfl, rfl⟩ rfl rfl rfl rfl ⟨Nat.le_of_ble_eq_true rfl, Nat.le_of_ble_eq_true rfl, Nat.le_trans (show k + 4 + 0 + 0 ≤ k + 100 by omega) hk, Nat.le_trans (show n + 24 + 0 + 0 ≤ n + 1000 by omega) hn⟩ (Nat.le_of_ble_eq_true rfl) (dat dkW_c17 18 rfl) ?_
    rintro _ _ ⟨rfl, rfl⟩
    refine ⟨_, Mrg_T, ?_⟩
    refine r_topE (show vw [20] (setm (loX N M') 20 (R' 0)) 0 0 6 = nI (0 + 1) from ht) ?_
    refine r_iload E (dat dkW_c17 19 rfl) rfl ?_
    refine r_icmp_eq (tgt := 925) E (dat dkW_c17 20 rfl) rfl (fun _ => ?_) (fun h => absurd rfl h)
    refine r_iload E (dat dkW_c17 23 rfl) rfl ?_
    refine r_if_ne (tgt := 942) E (dat dkW_c17 24 rfl) rfl (fun _ => ?_) (fun h => absurd h (by decide))
    refine r_goto (tgt := 2775) E (dat dkW_c17 34 rfl) rfl ?_
    refine r_wid (k2 := k + 100) (n2 := n + 1000) (by show k + 4 + 0 + 0 ≤ _; omega) (by show n + 24 + 0 + 0 ≤ _; omega) ?_
    refine r_back rfl (by simp [LW]) (kk _ (RLe_tr hrel (fun j hj => loX_lt hj) rfl))
set_option maxRecDepth 100000 in
set_option maxHeartbeats 8000000 in
theorem lb_18 {p : Program} {l : Launch} {e : Env} {s : State} {m : MethodId} {args : Array Value} {below : List Frame} {meth : Method} {c : Code} {G : GT} {ad : Nat → Nat → Nat} {Q : State → Prop} {k n : Nat} (hst : l.stackTraces = false) (E : EN p s m args meth c G (KL, lkC, ad) cL_law RL 9 (some .boolean)) {b Ls : Nat} {xs : Nat → Int32} (hX : va_X b Ls xs s s.heap) (hb : b < s.heap.size) (hA : ¬ AS (KL, lkC, ad) s.heap.size b) (hL : Ls ≤ 3072) {i : Nat} (hi : i + 6 ≤ Ls) {N : Mem} {B : Int} (H : RLe N (vw [20] N) B) (h0 : 0 ≤ B) (h1 : B + 300 < 2147483648) (hk : k + 100 ≤ room_1.cells) (hn : n + 1000 ≤ room_1.slots)
    (kk : ∀ N2 : Mem, RLe N2 (vw [20] N2) (B + 279) → WM p l e room_1 s m args below meth c G (KL, lkC, ad) 9 Q N2 (k + 100) (n + 1000) 2775 [some (.inl (.ref b)), some (rv 0 0), some (rv 20 0), some (rv 19 0), some (iv (nI i)), none, none, none, none] []) :
    WM p l e room_1 s m args below meth c G (KL, lkC, ad) 9 Q N k n 945 [some (.inl (.ref b)), some (rv 0 0), some (rv 20 0), some (rv 19 0), some (iv (nI i)), none, none, none, none] [] := by
  obtain ⟨post, XP, post2, hM, hR, hr, hE, P1, P2⟩ := pa_hydrantMinutes l hst G H h0 h1 (xs (i + 1))
  refine r_aload_n E (dat dkW_c18 0 rfl) rfl rfl ?_
  refine r_aldX E (dat dkW_c18 1 rfl) rfl rfl ?_
  refine r_iload E (dat dkW_c18 2 rfl) rfl ?_
  refine r_iconst (v := 1) E (dat dkW_c18 3 rfl) rfl ?_
  refine r_iadd E (dat dkW_c18 4 rfl) ?_
  refine r_sld E hX hb hA hL (nI_add i 1) (show i + 1 < Ls by omega) (dat dkW_c18 5 rfl) ?_
  refine r_aload_n E (dat dkW_c18 6 rfl) rfl rfl ?_
  refine r_callSW (N := 3) (μ := []) E (sp_L_hydrantMinutes l G (xs (i + 1)) N post XP hM hr (fun Ex M' h => by simpa using hE Ex M' h)) ini_L (bg_4 208 (by decide +kernel)) ⟨by decide +kernel, by decide +kernel, by decide +kernel⟩ (bg_4 207 (by decide +kernel)) ml_L_202 cm_LO rfl rfl ⟨Nat.le_of_ble_eq_true rfl, Nat.le_of_ble_eq_true rfl, Nat.le_trans (Nat.add_le_add_left (Nat.le_of_ble_eq_true rfl) k) hk, Nat.le_trans (Nat.add_le_add_left (Nat.le_of_ble_eq_true rfl) n) hn⟩ (Nat.le_of_ble_eq_true rfl) (dat dkW_c18 7 rfl) ?_
  rintro r M9 (⟨v, M', hp, rfl, rfl⟩ | ⟨M', hp, rfl, rfl⟩)
  ·
    refine ⟨_, loV_m, ?_⟩
    refine r_istore_5 E (dat dkW_c18 8 rfl) rfl rfl ?_
    refine r_aload_n E (dat dkW_c18 9 rfl) rfl rfl ?_
    refine r_aldX E (dat dkW_c18 10 rfl) rfl rfl ?_
    refine r_iload E (dat dkW_c18 11 rfl) rfl ?_
    refine r_iconst (v := 1) E (dat dkW_c18 12 rfl) rfl ?_
    refine r_iadd E (dat dkW_c18 13 rfl) ?_
    refine r_sld E hX hb hA hL (nI_add i 1) (show i + 1 < Ls by omega) (dat dkW_c18 14 rfl) ?_
    refine r_callV (κ := 9) (μ := [20]) E (hR (vw [20] (loV N M' v)) rfl) my_X10_hydrantMinutes iv_X10_hydrantMinutes ml_L_204 cm_LR ⟨by decide, rfl, rfl⟩ rfl rfl rfl rfl ⟨Nat.le_of_ble_eq_true rfl, Nat.le_of_ble_eq_true rfl, Nat.le_trans (show k + 4 + 0 ≤ k + 100 by omega) hk, Nat.le_trans (show n + 24 + 0 ≤ n + 1000 by omega) hn⟩ (Nat.le_of_ble_eq_true rfl) (dat dkW_c18 15 rfl) ?_
    rintro r R' hp2
    obtain ⟨rfl, ht, hrel⟩ := P1 v M' hp _ rfl r R' hp2
    refine ⟨_, Mrg_R, ?_⟩
    refine r_istore_6 E (dat dkW_c18 16 rfl) rfl rfl ?_
    refine r_aload_n E (dat dkW_c18 17 rfl) rfl rfl ?_
    refine r_callV (κ := 9) (μ := [20]) E (sp_X10_thrown l G _) my_X10_thrown iv_X10_thrown ml_L_178 cm_LR ⟨by decide, rfl, rfl⟩ rfl rfl rfl rfl ⟨Nat.le_of_ble_eq_true rfl, Nat.le_of_ble_eq_true rfl, Nat.le_trans (show k + 4 + 0 + 0 ≤ k + 100 by omega) hk, Nat.le_trans (show n + 24 + 0 + 0 ≤ n + 1000 by omega) hn⟩ (Nat.le_of_ble_eq_true rfl) (dat dkW_c18 18 rfl) ?_
    rintro _ _ ⟨rfl, rfl⟩
    refine ⟨_, Mrg_T, ?_⟩
    refine r_topE (show vw [20] (setm (loV N M' v) 20 (R' 0)) 0 0 6 = 0 from ht) ?_
    refine r_iload E (dat dkW_c18 19 rfl) rfl ?_
    refine r_icmp_eq (tgt := 981) E (dat dkW_c18 20 rfl) rfl (fun _ => ?_) (fun h => absurd rfl h)
    refine r_iload E (dat dkW_c18 23 rfl) rfl ?_
    refine r_if_ne (tgt := 998) E (dat dkW_c18 24 rfl) rfl (fun h => absurd rfl h) (fun _ => ?_)
    refine r_aload_n E (dat dkW_c18 25 rfl) rfl rfl ?_
    refine r_iconst (v := 0) E (dat dkW_c18 26 rfl) rfl ?_
    refine r_lald (N := 1) E (dat dkW_c18 27 rfl) rfl rfl (by unfold vp_in; decide) ?_
    refine r_iload E (dat dkW_c18 28 rfl) rfl ?_
    refine r_i2l E (dat dkW_c18 29 rfl) ?_
    refine r_lcmp E (dat dkW_c18 30 rfl) ?_
    refine r_if_eq (tgt := 998) E (dat dkW_c18 31 rfl) rfl (fun _ => ?_) (fun h9 => absurd (lg_self v.toInt64) h9)
    refine r_goto (tgt := 2775) E (dat dkW_c18 34 rfl) rfl ?_
    refine r_wid (k2 := k + 100) (n2 := n + 1000) (by show k + 4 + 0 + 0 ≤ _; omega) (by show n + 24 + 0 + 0 ≤ _; omega) ?_
    refine r_back rfl (by simp [LW]) (kk _ (RLe_tr hrel (fun j hj => loV_lt hj) rfl))
  ·
    refine ⟨_, loX_m2, ?_⟩
    refine r_istore_5 E (dat dkW_c18 8 rfl) rfl rfl ?_
    refine r_aload_n E (dat dkW_c18 9 rfl) rfl rfl ?_
    refine r_aldX E (dat dkW_c18 10 rfl) rfl rfl ?_
    refine r_iload E (dat dkW_c18 11 rfl) rfl ?_
    refine r_iconst (v := 1) E (dat dkW_c18 12 rfl) rfl ?_
    refine r_iadd E (dat dkW_c18 13 rfl) ?_
    refine r_sld E hX hb hA hL (nI_add i 1) (show i + 1 < Ls by omega) (dat dkW_c18 14 rfl) ?_
    refine r_callV (κ := 9) (μ := [20]) E (hR (vw [20] (loX N M')) rfl) my_X10_hydrantMinutes iv_X10_hydrantMinutes ml_L_204 cm_LR ⟨by decide, rfl, rfl⟩ rfl rfl rfl rfl ⟨Nat.le_of_ble_eq_true rfl, Nat.le_of_ble_eq_true rfl, Nat.le_trans (show k + 4 + 0 ≤ k + 100 by omega) hk, Nat.le_trans (show n + 24 + 0 ≤ n + 1000 by omega) hn⟩ (Nat.le_of_ble_eq_true rfl) (dat dkW_c18 15 rfl) ?_
    rintro r R' hp2
    obtain ⟨⟨bv, rfl⟩, ht, hrel⟩ := P2 0 oobN M' rfl hp _ rfl r R' hp2
    refine ⟨_, Mrg_R, ?_⟩
    refine r_istore_6 E (dat dkW_c18 16 rfl) rfl rfl ?_
    refine r_aload_n E (dat dkW_c18 17 rfl) rfl rfl ?_
    refine r_callV (κ := 9) (μ := [20]) E (sp_X10_thrown l G _) my_X10_thrown iv_X10_thrown ml_L_178 cm_LR ⟨by decide, rfl, rfl⟩ rfl rfl rfl rfl ⟨Nat.le_of_ble_eq_true rfl, Nat.le_of_ble_eq_true rfl, Nat.le_trans (show k + 4 + 0 + 0 ≤ k + 100 by omega) hk, Nat.le_trans (show n + 24 + 0 + 0 ≤ n + 1000 by omega) hn⟩ (Nat.le_of_ble_eq_true rfl) (dat dkW_c18 18 rfl) ?_
    rintro _ _ ⟨rfl, rfl⟩
    refine ⟨_, Mrg_T, ?_⟩
    refine r_topE (show vw [20] (setm (loX N M') 20 (R' 0)) 0 0 6 = nI (0 + 1) from ht) ?_
    refine r_iload E (dat dkW_c18 19 rfl) rfl ?_
    refine r_icmp_eq (tgt := 981) E (dat dkW_c18 20 rfl) rfl (fun _ => ?_) (fun h => absurd rfl h)
    refine r_iload E (dat dkW_c18 23 rfl) rfl ?_
    refine r_if_ne (tgt := 998) E (dat dkW_c18 24 rfl) rfl (fun _ => ?_) (fun h => absurd h (by decide))
    refine r_goto (tgt := 2775) E (dat dkW_c18 34 rfl) rfl ?_
    refine r_wid (k2 := k + 100) (n2 := n + 1000) (by show k + 4 + 0 + 0 ≤ _; omega) (by show n + 24 + 0 + 0 ≤ _; omega) ?_
    refine r_back rfl (by simp [LW]) (kk _ (RLe_tr hrel (fun j hj => loX_lt hj) rfl))
set_option maxRecDepth 100000 in
set_option maxHeartbeats 8000000 in
theorem lb_19 {p : Program} {l : Launch} {e : Env} {s : State} {m : MethodId} {args : Array Value} {below : List Frame} {meth : Method} {c : Code} {G : GT} {ad : Nat → Nat → Nat} {Q : State → Prop} {k n : Nat} (hst : l.stackTraces = false) (E : EN p s m args meth c G (KL, lkC, ad) cL_law RL 9 (some .boolean)) {b Ls : Nat} {xs : Nat → Int32} (hX : va_X b Ls xs s s.heap) (hb : b < s.heap.size) (hA : ¬ AS (KL, lkC, ad) s.heap.size b) (hL : Ls ≤ 3072) {i : Nat} (hi : i + 6 ≤ Ls) {N : Mem} {B : Int} (H : RLe N (vw [20] N) B) (h0 : 0 ≤ B) (h1 : B + 300 < 2147483648) (hk : k + 100 ≤ room_1.cells) (hn : n + 1000 ≤ room_1.slots)
    (kk : ∀ N2 : Mem, RLe N2 (vw [20] N2) (B + 279) → WM p l e room_1 s m args below meth c G (KL, lkC, ad) 9 Q N2 (k + 100) (n + 1000) 2775 [some (.inl (.ref b)), some (rv 0 0), some (rv 20 0), some (rv 19 0), some (iv (nI i)), none, none, none, none] []) :
    WM p l e room_1 s m args below meth c G (KL, lkC, ad) 9 Q N k n 1001 [some (.inl (.ref b)), some (rv 0 0), some (rv 20 0), some (rv 19 0), some (iv (nI i)), none, none, none, none] [] := by
  obtain ⟨post, XP, post2, hM, hR, hr, hE, P1, P2⟩ := pa_flowsTo l hst G H h0 h1 (xs (i + 1))
  refine r_aload_n E (dat dkW_c19 0 rfl) rfl rfl ?_
  refine r_aldX E (dat dkW_c19 1 rfl) rfl rfl ?_
  refine r_iload E (dat dkW_c19 2 rfl) rfl ?_
  refine r_iconst (v := 1) E (dat dkW_c19 3 rfl) rfl ?_
  refine r_iadd E (dat dkW_c19 4 rfl) ?_
  refine r_sld E hX hb hA hL (nI_add i 1) (show i + 1 < Ls by omega) (dat dkW_c19 5 rfl) ?_
  refine r_aload_n E (dat dkW_c19 6 rfl) rfl rfl ?_
  refine r_callSW (N := 3) (μ := []) E (sp_L_flowsTo l G (xs (i + 1)) N post XP hM hr (fun Ex M' h => by simpa using hE Ex M' h)) ini_L (bg_4 215 (by decide +kernel)) ⟨by decide +kernel, by decide +kernel, by decide +kernel⟩ (bg_4 214 (by decide +kernel)) ml_L_205 cm_LO rfl rfl ⟨Nat.le_of_ble_eq_true rfl, Nat.le_of_ble_eq_true rfl, Nat.le_trans (Nat.add_le_add_left (Nat.le_of_ble_eq_true rfl) k) hk, Nat.le_trans (Nat.add_le_add_left (Nat.le_of_ble_eq_true rfl) n) hn⟩ (Nat.le_of_ble_eq_true rfl) (dat dkW_c19 7 rfl) ?_
  rintro r M9 (⟨v, M', hp, rfl, rfl⟩ | ⟨M', hp, rfl, rfl⟩)
  ·
    refine ⟨_, loV_m, ?_⟩
    refine r_istore_5 E (dat dkW_c19 8 rfl) rfl rfl ?_
    refine r_aload_n E (dat dkW_c19 9 rfl) rfl rfl ?_
    refine r_aldX E (dat dkW_c19 10 rfl) rfl rfl ?_
    refine r_iload E (dat dkW_c19 11 rfl) rfl ?_
    refine r_iconst (v := 1) E (dat dkW_c19 12 rfl) rfl ?_
    refine r_iadd E (dat dkW_c19 13 rfl) ?_
    refine r_sld E hX hb hA hL (nI_add i 1) (show i + 1 < Ls by omega) (dat dkW_c19 14 rfl) ?_
    refine r_callV (κ := 9) (μ := [20]) E (hR (vw [20] (loV N M' v)) rfl) my_X10_flowsTo iv_X10_flowsTo ml_L_207 cm_LR ⟨by decide, rfl, rfl⟩ rfl rfl rfl rfl ⟨Nat.le_of_ble_eq_true rfl, Nat.le_of_ble_eq_true rfl, Nat.le_trans (show k + 4 + 0 ≤ k + 100 by omega) hk, Nat.le_trans (show n + 24 + 0 ≤ n + 1000 by omega) hn⟩ (Nat.le_of_ble_eq_true rfl) (dat dkW_c19 15 rfl) ?_
    rintro r R' hp2
    obtain ⟨rfl, ht, hrel⟩ := P1 v M' hp _ rfl r R' hp2
    refine ⟨_, Mrg_R, ?_⟩
    refine r_istore_6 E (dat dkW_c19 16 rfl) rfl rfl ?_
    refine r_aload_n E (dat dkW_c19 17 rfl) rfl rfl ?_
    refine r_callV (κ := 9) (μ := [20]) E (sp_X10_thrown l G _) my_X10_thrown iv_X10_thrown ml_L_178 cm_LR ⟨by decide, rfl, rfl⟩ rfl rfl rfl rfl ⟨Nat.le_of_ble_eq_true rfl, Nat.le_of_ble_eq_true rfl, Nat.le_trans (show k + 4 + 0 + 0 ≤ k + 100 by omega) hk, Nat.le_trans (show n + 24 + 0 + 0 ≤ n + 1000 by omega) hn⟩ (Nat.le_of_ble_eq_true rfl) (dat dkW_c19 18 rfl) ?_
    rintro _ _ ⟨rfl, rfl⟩
    refine ⟨_, Mrg_T, ?_⟩
    refine r_topE (show vw [20] (setm (loV N M' v) 20 (R' 0)) 0 0 6 = 0 from ht) ?_
    refine r_iload E (dat dkW_c19 19 rfl) rfl ?_
    refine r_icmp_eq (tgt := 1037) E (dat dkW_c19 20 rfl) rfl (fun _ => ?_) (fun h => absurd rfl h)
    refine r_iload E (dat dkW_c19 23 rfl) rfl ?_
    refine r_if_ne (tgt := 1054) E (dat dkW_c19 24 rfl) rfl (fun h => absurd rfl h) (fun _ => ?_)
    refine r_aload_n E (dat dkW_c19 25 rfl) rfl rfl ?_
    refine r_iconst (v := 0) E (dat dkW_c19 26 rfl) rfl ?_
    refine r_lald (N := 1) E (dat dkW_c19 27 rfl) rfl rfl (by unfold vp_in; decide) ?_
    refine r_iload E (dat dkW_c19 28 rfl) rfl ?_
    refine r_i2l E (dat dkW_c19 29 rfl) ?_
    refine r_lcmp E (dat dkW_c19 30 rfl) ?_
    refine r_if_eq (tgt := 1054) E (dat dkW_c19 31 rfl) rfl (fun _ => ?_) (fun h9 => absurd (lg_self v.toInt64) h9)
    refine r_goto (tgt := 2775) E (dat dkW_c19 34 rfl) rfl ?_
    refine r_wid (k2 := k + 100) (n2 := n + 1000) (by show k + 4 + 0 + 0 ≤ _; omega) (by show n + 24 + 0 + 0 ≤ _; omega) ?_
    refine r_back rfl (by simp [LW]) (kk _ (RLe_tr hrel (fun j hj => loV_lt hj) rfl))
  ·
    refine ⟨_, loX_m2, ?_⟩
    refine r_istore_5 E (dat dkW_c19 8 rfl) rfl rfl ?_
    refine r_aload_n E (dat dkW_c19 9 rfl) rfl rfl ?_
    refine r_aldX E (dat dkW_c19 10 rfl) rfl rfl ?_
    refine r_iload E (dat dkW_c19 11 rfl) rfl ?_
    refine r_iconst (v := 1) E (dat dkW_c19 12 rfl) rfl ?_
    refine r_iadd E (dat dkW_c19 13 rfl) ?_
    refine r_sld E hX hb hA hL (nI_add i 1) (show i + 1 < Ls by omega) (dat dkW_c19 14 rfl) ?_
    refine r_callV (κ := 9) (μ := [20]) E (hR (vw [20] (loX N M')) rfl) my_X10_flowsTo iv_X10_flowsTo ml_L_207 cm_LR ⟨by decide, rfl, rfl⟩ rfl rfl rfl rfl ⟨Nat.le_of_ble_eq_true rfl, Nat.le_of_ble_eq_true rfl, Nat.le_trans (show k + 4 + 0 ≤ k + 100 by omega) hk, Nat.le_trans (show n + 24 + 0 ≤ n + 1000 by omega) hn⟩ (Nat.le_of_ble_eq_true rfl) (dat dkW_c19 15 rfl) ?_
    rintro r R' hp2
    obtain ⟨⟨bv, rfl⟩, ht, hrel⟩ := P2 0 oobN M' rfl hp _ rfl r R' hp2
    refine ⟨_, Mrg_R, ?_⟩
    refine r_istore_6 E (dat dkW_c19 16 rfl) rfl rfl ?_
    refine r_aload_n E (dat dkW_c19 17 rfl) rfl rfl ?_
    refine r_callV (κ := 9) (μ := [20]) E (sp_X10_thrown l G _) my_X10_thrown iv_X10_thrown ml_L_178 cm_LR ⟨by decide, rfl, rfl⟩ rfl rfl rfl rfl ⟨Nat.le_of_ble_eq_true rfl, Nat.le_of_ble_eq_true rfl, Nat.le_trans (show k + 4 + 0 + 0 ≤ k + 100 by omega) hk, Nat.le_trans (show n + 24 + 0 + 0 ≤ n + 1000 by omega) hn⟩ (Nat.le_of_ble_eq_true rfl) (dat dkW_c19 18 rfl) ?_
    rintro _ _ ⟨rfl, rfl⟩
    refine ⟨_, Mrg_T, ?_⟩
    refine r_topE (show vw [20] (setm (loX N M') 20 (R' 0)) 0 0 6 = nI (0 + 1) from ht) ?_
    refine r_iload E (dat dkW_c19 19 rfl) rfl ?_
    refine r_icmp_eq (tgt := 1037) E (dat dkW_c19 20 rfl) rfl (fun _ => ?_) (fun h => absurd rfl h)
    refine r_iload E (dat dkW_c19 23 rfl) rfl ?_
    refine r_if_ne (tgt := 1054) E (dat dkW_c19 24 rfl) rfl (fun _ => ?_) (fun h => absurd h (by decide))
    refine r_goto (tgt := 2775) E (dat dkW_c19 34 rfl) rfl ?_
    refine r_wid (k2 := k + 100) (n2 := n + 1000) (by show k + 4 + 0 + 0 ≤ _; omega) (by show n + 24 + 0 + 0 ≤ _; omega) ?_
    refine r_back rfl (by simp [LW]) (kk _ (RLe_tr hrel (fun j hj => loX_lt hj) rfl))
set_option maxRecDepth 100000 in
set_option maxHeartbeats 8000000 in
theorem lb_20 {p : Program} {l : Launch} {e : Env} {s : State} {m : MethodId} {args : Array Value} {below : List Frame} {meth : Method} {c : Code} {G : GT} {ad : Nat → Nat → Nat} {Q : State → Prop} {k n : Nat} (hst : l.stackTraces = false) (E : EN p s m args meth c G (KL, lkC, ad) cL_law RL 9 (some .boolean)) {b Ls : Nat} {xs : Nat → Int32} (hX : va_X b Ls xs s s.heap) (hb : b < s.heap.size) (hA : ¬ AS (KL, lkC, ad) s.heap.size b) (hL : Ls ≤ 3072) {i : Nat} (hi : i + 6 ≤ Ls) {N : Mem} {B : Int} (H : RLe N (vw [20] N) B) (h0 : 0 ≤ B) (h1 : B + 300 < 2147483648) (hk : k + 100 ≤ room_1.cells) (hn : n + 1000 ≤ room_1.slots)
    (kk : ∀ N2 : Mem, RLe N2 (vw [20] N2) (B + 279) → WM p l e room_1 s m args below meth c G (KL, lkC, ad) 9 Q N2 (k + 100) (n + 1000) 2775 [some (.inl (.ref b)), some (rv 0 0), some (rv 20 0), some (rv 19 0), some (iv (nI i)), none, none, none, none] []) :
    WM p l e room_1 s m args below meth c G (KL, lkC, ad) 9 Q N k n 1057 [some (.inl (.ref b)), some (rv 0 0), some (rv 20 0), some (rv 19 0), some (iv (nI i)), none, none, none, none] [] := by
  obtain ⟨post, XP, post2, hM, hR, hr, hE, P1, P2⟩ := pa_flowFrom l hst G H h0 h1 (xs (i + 1))
  refine r_aload_n E (dat dkW_c20 0 rfl) rfl rfl ?_
  refine r_aldX E (dat dkW_c20 1 rfl) rfl rfl ?_
  refine r_iload E (dat dkW_c20 2 rfl) rfl ?_
  refine r_iconst (v := 1) E (dat dkW_c20 3 rfl) rfl ?_
  refine r_iadd E (dat dkW_c20 4 rfl) ?_
  refine r_sld E hX hb hA hL (nI_add i 1) (show i + 1 < Ls by omega) (dat dkW_c20 5 rfl) ?_
  refine r_aload_n E (dat dkW_c20 6 rfl) rfl rfl ?_
  refine r_callSW (N := 3) (μ := []) E (sp_L_flowFrom l G (xs (i + 1)) N post XP hM hr (fun Ex M' h => by simpa using hE Ex M' h)) ini_L (bg_4 224 (by decide +kernel)) ⟨by decide +kernel, by decide +kernel, by decide +kernel⟩ (bg_4 223 (by decide +kernel)) ml_L_208 cm_LO rfl rfl ⟨Nat.le_of_ble_eq_true rfl, Nat.le_of_ble_eq_true rfl, Nat.le_trans (Nat.add_le_add_left (Nat.le_of_ble_eq_true rfl) k) hk, Nat.le_trans (Nat.add_le_add_left (Nat.le_of_ble_eq_true rfl) n) hn⟩ (Nat.le_of_ble_eq_true rfl) (dat dkW_c20 7 rfl) ?_
  rintro r M9 (⟨v, M', hp, rfl, rfl⟩ | ⟨M', hp, rfl, rfl⟩)
  ·
    refine ⟨_, loV_m, ?_⟩
    refine r_istore_5 E (dat dkW_c20 8 rfl) rfl rfl ?_
    refine r_aload_n E (dat dkW_c20 9 rfl) rfl rfl ?_
    refine r_aldX E (dat dkW_c20 10 rfl) rfl rfl ?_
    refine r_iload E (dat dkW_c20 11 rfl) rfl ?_
    refine r_iconst (v := 1) E (dat dkW_c20 12 rfl) rfl ?_
    refine r_iadd E (dat dkW_c20 13 rfl) ?_
    refine r_sld E hX hb hA hL (nI_add i 1) (show i + 1 < Ls by omega) (dat dkW_c20 14 rfl) ?_
    refine r_callV (κ := 9) (μ := [20]) E (hR (vw [20] (loV N M' v)) rfl) my_X10_flowFrom iv_X10_flowFrom ml_L_210 cm_LR ⟨by decide, rfl, rfl⟩ rfl rfl rfl rfl ⟨Nat.le_of_ble_eq_true rfl, Nat.le_of_ble_eq_true rfl, Nat.le_trans (show k + 4 + 0 ≤ k + 100 by omega) hk, Nat.le_trans (show n + 24 + 0 ≤ n + 1000 by omega) hn⟩ (Nat.le_of_ble_eq_true rfl) (dat dkW_c20 15 rfl) ?_
    rintro r R' hp2
    obtain ⟨rfl, ht, hrel⟩ := P1 v M' hp _ rfl r R' hp2
    refine ⟨_, Mrg_R, ?_⟩
    refine r_istore_6 E (dat dkW_c20 16 rfl) rfl rfl ?_
    refine r_aload_n E (dat dkW_c20 17 rfl) rfl rfl ?_
    refine r_callV (κ := 9) (μ := [20]) E (sp_X10_thrown l G _) my_X10_thrown iv_X10_thrown ml_L_178 cm_LR ⟨by decide, rfl, rfl⟩ rfl rfl rfl rfl ⟨Nat.le_of_ble_eq_true rfl, Nat.le_of_ble_eq_true rfl, Nat.le_trans (show k + 4 + 0 + 0 ≤ k + 100 by omega) hk, Nat.le_trans (show n + 24 + 0 + 0 ≤ n + 1000 by omega) hn⟩ (Nat.le_of_ble_eq_true rfl) (dat dkW_c20 18 rfl) ?_
    rintro _ _ ⟨rfl, rfl⟩
    refine ⟨_, Mrg_T, ?_⟩
    refine r_topE (show vw [20] (setm (loV N M' v) 20 (R' 0)) 0 0 6 = 0 from ht) ?_
    refine r_iload E (dat dkW_c20 19 rfl) rfl ?_
    refine r_icmp_eq (tgt := 1093) E (dat dkW_c20 20 rfl) rfl (fun _ => ?_) (fun h => absurd rfl h)
    refine r_iload E (dat dkW_c20 23 rfl) rfl ?_
    refine r_if_ne (tgt := 1110) E (dat dkW_c20 24 rfl) rfl (fun h => absurd rfl h) (fun _ => ?_)
    refine r_aload_n E (dat dkW_c20 25 rfl) rfl rfl ?_
    refine r_iconst (v := 0) E (dat dkW_c20 26 rfl) rfl ?_
    refine r_lald (N := 1) E (dat dkW_c20 27 rfl) rfl rfl (by unfold vp_in; decide) ?_
    refine r_iload E (dat dkW_c20 28 rfl) rfl ?_
    refine r_i2l E (dat dkW_c20 29 rfl) ?_
    refine r_lcmp E (dat dkW_c20 30 rfl) ?_
    refine r_if_eq (tgt := 1110) E (dat dkW_c20 31 rfl) rfl (fun _ => ?_) (fun h9 => absurd (lg_self v.toInt64) h9)
    refine r_goto (tgt := 2775) E (dat dkW_c20 34 rfl) rfl ?_
    refine r_wid (k2 := k + 100) (n2 := n + 1000) (by show k + 4 + 0 + 0 ≤ _; omega) (by show n + 24 + 0 + 0 ≤ _; omega) ?_
    refine r_back rfl (by simp [LW]) (kk _ (RLe_tr hrel (fun j hj => loV_lt hj) rfl))
  ·
    refine ⟨_, loX_m2, ?_⟩
    refine r_istore_5 E (dat dkW_c20 8 rfl) rfl rfl ?_
    refine r_aload_n E (dat dkW_c20 9 rfl) rfl rfl ?_
    refine r_aldX E (dat dkW_c20 10 rfl) rfl rfl ?_
    refine r_iload E (dat dkW_c20 11 rfl) rfl ?_
    refine r_iconst (v := 1) E (dat dkW_c20 12 rfl) rfl ?_
    refine r_iadd E (dat dkW_c20 13 rfl) ?_
    refine r_sld E hX hb hA hL (nI_add i 1) (show i + 1 < Ls by omega) (dat dkW_c20 14 rfl) ?_
    refine r_callV (κ := 9) (μ := [20]) E (hR (vw [20] (loX N M')) rfl) my_X10_flowFrom iv_X10_flowFrom ml_L_210 cm_LR ⟨by decide, rfl, rfl⟩ rfl rfl rfl rfl ⟨Nat.le_of_ble_eq_true rfl, Nat.le_of_ble_eq_true rfl, Nat.le_trans (show k + 4 + 0 ≤ k + 100 by omega) hk, Nat.le_trans (show n + 24 + 0 ≤ n + 1000 by omega) hn⟩ (Nat.le_of_ble_eq_true rfl) (dat dkW_c20 15 rfl) ?_
    rintro r R' hp2
    obtain ⟨⟨bv, rfl⟩, ht, hrel⟩ := P2 0 oobN M' rfl hp _ rfl r R' hp2
    refine ⟨_, Mrg_R, ?_⟩
    refine r_istore_6 E (dat dkW_c20 16 rfl) rfl rfl ?_
    refine r_aload_n E (dat dkW_c20 17 rfl) rfl rfl ?_
    refine r_callV (κ := 9) (μ := [20]) E (sp_X10_thrown l G _) my_X10_thrown iv_X10_thrown ml_L_178 cm_LR ⟨by decide, rfl, rfl⟩ rfl rfl rfl rfl ⟨Nat.le_of_ble_eq_true rfl, Nat.le_of_ble_eq_true rfl, Nat.le_trans (show k + 4 + 0 + 0 ≤ k + 100 by omega) hk, Nat.le_trans (show n + 24 + 0 + 0 ≤ n + 1000 by omega) hn⟩ (Nat.le_of_ble_eq_true rfl) (dat dkW_c20 18 rfl) ?_
    rintro _ _ ⟨rfl, rfl⟩
    refine ⟨_, Mrg_T, ?_⟩
    refine r_topE (show vw [20] (setm (loX N M') 20 (R' 0)) 0 0 6 = nI (0 + 1) from ht) ?_
    refine r_iload E (dat dkW_c20 19 rfl) rfl ?_
    refine r_icmp_eq (tgt := 1093) E (dat dkW_c20 20 rfl) rfl (fun _ => ?_) (fun h => absurd rfl h)
    refine r_iload E (dat dkW_c20 23 rfl) rfl ?_
    refine r_if_ne (tgt := 1110) E (dat dkW_c20 24 rfl) rfl (fun _ => ?_) (fun h => absurd h (by decide))
    refine r_goto (tgt := 2775) E (dat dkW_c20 34 rfl) rfl ?_
    refine r_wid (k2 := k + 100) (n2 := n + 1000) (by show k + 4 + 0 + 0 ≤ _; omega) (by show n + 24 + 0 + 0 ≤ _; omega) ?_
    refine r_back rfl (by simp [LW]) (kk _ (RLe_tr hrel (fun j hj => loX_lt hj) rfl))
set_option maxRecDepth 100000 in
set_option maxHeartbeats 8000000 in
theorem lb_21 {p : Program} {l : Launch} {e : Env} {s : State} {m : MethodId} {args : Array Value} {below : List Frame} {meth : Method} {c : Code} {G : GT} {ad : Nat → Nat → Nat} {Q : State → Prop} {k n : Nat} (hst : l.stackTraces = false) (E : EN p s m args meth c G (KL, lkC, ad) cL_law RL 9 (some .boolean)) {b Ls : Nat} {xs : Nat → Int32} (hX : va_X b Ls xs s s.heap) (hb : b < s.heap.size) (hA : ¬ AS (KL, lkC, ad) s.heap.size b) (hL : Ls ≤ 3072) {i : Nat} (hi : i + 6 ≤ Ls) {N : Mem} {B : Int} (H : RLe N (vw [20] N) B) (h0 : 0 ≤ B) (h1 : B + 300 < 2147483648) (hk : k + 100 ≤ room_1.cells) (hn : n + 1000 ≤ room_1.slots)
    (kk : ∀ N2 : Mem, RLe N2 (vw [20] N2) (B + 279) → WM p l e room_1 s m args below meth c G (KL, lkC, ad) 9 Q N2 (k + 100) (n + 1000) 2775 [some (.inl (.ref b)), some (rv 0 0), some (rv 20 0), some (rv 19 0), some (iv (nI i)), none, none, none, none] []) :
    WM p l e room_1 s m args below meth c G (KL, lkC, ad) 9 Q N k n 1113 [some (.inl (.ref b)), some (rv 0 0), some (rv 20 0), some (rv 19 0), some (iv (nI i)), none, none, none, none] [] := by
  obtain ⟨post, XP, post2, hM, hR, hr, hE, P1, P2⟩ := pa_neighbour l hst G H h0 h1 (xs (i + 1)) (xs (i + 2))
  refine r_aload_n E (dat dkW_c21 0 rfl) rfl rfl ?_
  refine r_aldX E (dat dkW_c21 1 rfl) rfl rfl ?_
  refine r_iload E (dat dkW_c21 2 rfl) rfl ?_
  refine r_iconst (v := 1) E (dat dkW_c21 3 rfl) rfl ?_
  refine r_iadd E (dat dkW_c21 4 rfl) ?_
  refine r_sld E hX hb hA hL (nI_add i 1) (show i + 1 < Ls by omega) (dat dkW_c21 5 rfl) ?_
  refine r_aldX E (dat dkW_c21 6 rfl) rfl rfl ?_
  refine r_iload E (dat dkW_c21 7 rfl) rfl ?_
  refine r_iconst (v := 2) E (dat dkW_c21 8 rfl) rfl ?_
  refine r_iadd E (dat dkW_c21 9 rfl) ?_
  refine r_sld E hX hb hA hL (nI_add i 2) (show i + 2 < Ls by omega) (dat dkW_c21 10 rfl) ?_
  refine r_aload_n E (dat dkW_c21 11 rfl) rfl rfl ?_
  refine r_callSW (N := 4) (μ := []) E (sp_L_neighbour l G (xs (i + 1)) (xs (i + 2)) N post XP hM hr (fun Ex M' h => by simpa using hE Ex M' h)) ini_L (bg_4 231 (by decide +kernel)) ⟨by decide +kernel, by decide +kernel, by decide +kernel⟩ (bg_4 230 (by decide +kernel)) ml_L_211 cm_LO rfl rfl ⟨Nat.le_of_ble_eq_true rfl, Nat.le_of_ble_eq_true rfl, Nat.le_trans (Nat.add_le_add_left (Nat.le_of_ble_eq_true rfl) k) hk, Nat.le_trans (Nat.add_le_add_left (Nat.le_of_ble_eq_true rfl) n) hn⟩ (Nat.le_of_ble_eq_true rfl) (dat dkW_c21 12 rfl) ?_
  rintro r M9 (⟨v, M', hp, rfl, rfl⟩ | ⟨M', hp, rfl, rfl⟩ | ⟨M', hp, rfl, rfl⟩)
  ·
    refine ⟨_, loV_m, ?_⟩
    refine r_istore_5 E (dat dkW_c21 13 rfl) rfl rfl ?_
    refine r_aload_n E (dat dkW_c21 14 rfl) rfl rfl ?_
    refine r_aldX E (dat dkW_c21 15 rfl) rfl rfl ?_
    refine r_iload E (dat dkW_c21 16 rfl) rfl ?_
    refine r_iconst (v := 1) E (dat dkW_c21 17 rfl) rfl ?_
    refine r_iadd E (dat dkW_c21 18 rfl) ?_
    refine r_sld E hX hb hA hL (nI_add i 1) (show i + 1 < Ls by omega) (dat dkW_c21 19 rfl) ?_
    refine r_aldX E (dat dkW_c21 20 rfl) rfl rfl ?_
    refine r_iload E (dat dkW_c21 21 rfl) rfl ?_
    refine r_iconst (v := 2) E (dat dkW_c21 22 rfl) rfl ?_
    refine r_iadd E (dat dkW_c21 23 rfl) ?_
    refine r_sld E hX hb hA hL (nI_add i 2) (show i + 2 < Ls by omega) (dat dkW_c21 24 rfl) ?_
    refine r_callV (κ := 9) (μ := [20]) E (hR (vw [20] (loV N M' v)) rfl) my_X10_neighbour iv_X10_neighbour ml_L_214 cm_LR ⟨by decide, rfl, rfl⟩ rfl rfl rfl rfl ⟨Nat.le_of_ble_eq_true rfl, Nat.le_of_ble_eq_true rfl, Nat.le_trans (show k + 8 + 0 ≤ k + 100 by omega) hk, Nat.le_trans (show n + 48 + 0 ≤ n + 1000 by omega) hn⟩ (Nat.le_of_ble_eq_true rfl) (dat dkW_c21 25 rfl) ?_
    rintro r R' hp2
    obtain ⟨rfl, ht, hrel⟩ := P1 v M' hp _ rfl r R' hp2
    refine ⟨_, Mrg_R, ?_⟩
    refine r_istore_6 E (dat dkW_c21 26 rfl) rfl rfl ?_
    refine r_aload_n E (dat dkW_c21 27 rfl) rfl rfl ?_
    refine r_callV (κ := 9) (μ := [20]) E (sp_X10_thrown l G _) my_X10_thrown iv_X10_thrown ml_L_178 cm_LR ⟨by decide, rfl, rfl⟩ rfl rfl rfl rfl ⟨Nat.le_of_ble_eq_true rfl, Nat.le_of_ble_eq_true rfl, Nat.le_trans (show k + 8 + 0 + 0 ≤ k + 100 by omega) hk, Nat.le_trans (show n + 48 + 0 + 0 ≤ n + 1000 by omega) hn⟩ (Nat.le_of_ble_eq_true rfl) (dat dkW_c21 28 rfl) ?_
    rintro _ _ ⟨rfl, rfl⟩
    refine ⟨_, Mrg_T, ?_⟩
    refine r_topE (show vw [20] (setm (loV N M' v) 20 (R' 0)) 0 0 6 = 0 from ht) ?_
    refine r_iload E (dat dkW_c21 29 rfl) rfl ?_
    refine r_icmp_eq (tgt := 1161) E (dat dkW_c21 30 rfl) rfl (fun _ => ?_) (fun h => absurd rfl h)
    refine r_iload E (dat dkW_c21 33 rfl) rfl ?_
    refine r_if_ne (tgt := 1178) E (dat dkW_c21 34 rfl) rfl (fun h => absurd rfl h) (fun _ => ?_)
    refine r_aload_n E (dat dkW_c21 35 rfl) rfl rfl ?_
    refine r_iconst (v := 0) E (dat dkW_c21 36 rfl) rfl ?_
    refine r_lald (N := 1) E (dat dkW_c21 37 rfl) rfl rfl (by unfold vp_in; decide) ?_
    refine r_iload E (dat dkW_c21 38 rfl) rfl ?_
    refine r_i2l E (dat dkW_c21 39 rfl) ?_
    refine r_lcmp E (dat dkW_c21 40 rfl) ?_
    refine r_if_eq (tgt := 1178) E (dat dkW_c21 41 rfl) rfl (fun _ => ?_) (fun h9 => absurd (lg_self v.toInt64) h9)
    refine r_goto (tgt := 2775) E (dat dkW_c21 44 rfl) rfl ?_
    refine r_wid (k2 := k + 100) (n2 := n + 1000) (by show k + 8 + 0 + 0 ≤ _; omega) (by show n + 48 + 0 + 0 ≤ _; omega) ?_
    refine r_back rfl (by simp [LW]) (kk _ (RLe_tr hrel (fun j hj => loV_lt hj) rfl))
  ·
    refine ⟨_, loX_m2, ?_⟩
    refine r_istore_5 E (dat dkW_c21 13 rfl) rfl rfl ?_
    refine r_aload_n E (dat dkW_c21 14 rfl) rfl rfl ?_
    refine r_aldX E (dat dkW_c21 15 rfl) rfl rfl ?_
    refine r_iload E (dat dkW_c21 16 rfl) rfl ?_
    refine r_iconst (v := 1) E (dat dkW_c21 17 rfl) rfl ?_
    refine r_iadd E (dat dkW_c21 18 rfl) ?_
    refine r_sld E hX hb hA hL (nI_add i 1) (show i + 1 < Ls by omega) (dat dkW_c21 19 rfl) ?_
    refine r_aldX E (dat dkW_c21 20 rfl) rfl rfl ?_
    refine r_iload E (dat dkW_c21 21 rfl) rfl ?_
    refine r_iconst (v := 2) E (dat dkW_c21 22 rfl) rfl ?_
    refine r_iadd E (dat dkW_c21 23 rfl) ?_
    refine r_sld E hX hb hA hL (nI_add i 2) (show i + 2 < Ls by omega) (dat dkW_c21 24 rfl) ?_
    refine r_callV (κ := 9) (μ := [20]) E (hR (vw [20] (loX N M')) rfl) my_X10_neighbour iv_X10_neighbour ml_L_214 cm_LR ⟨by decide, rfl, rfl⟩ rfl rfl rfl rfl ⟨Nat.le_of_ble_eq_true rfl, Nat.le_of_ble_eq_true rfl, Nat.le_trans (show k + 8 + 0 ≤ k + 100 by omega) hk, Nat.le_trans (show n + 48 + 0 ≤ n + 1000 by omega) hn⟩ (Nat.le_of_ble_eq_true rfl) (dat dkW_c21 25 rfl) ?_
    rintro r R' hp2
    obtain ⟨⟨bv, rfl⟩, ht, hrel⟩ := P2 0 oobN M' rfl hp _ rfl r R' hp2
    refine ⟨_, Mrg_R, ?_⟩
    refine r_istore_6 E (dat dkW_c21 26 rfl) rfl rfl ?_
    refine r_aload_n E (dat dkW_c21 27 rfl) rfl rfl ?_
    refine r_callV (κ := 9) (μ := [20]) E (sp_X10_thrown l G _) my_X10_thrown iv_X10_thrown ml_L_178 cm_LR ⟨by decide, rfl, rfl⟩ rfl rfl rfl rfl ⟨Nat.le_of_ble_eq_true rfl, Nat.le_of_ble_eq_true rfl, Nat.le_trans (show k + 8 + 0 + 0 ≤ k + 100 by omega) hk, Nat.le_trans (show n + 48 + 0 + 0 ≤ n + 1000 by omega) hn⟩ (Nat.le_of_ble_eq_true rfl) (dat dkW_c21 28 rfl) ?_
    rintro _ _ ⟨rfl, rfl⟩
    refine ⟨_, Mrg_T, ?_⟩
    refine r_topE (show vw [20] (setm (loX N M') 20 (R' 0)) 0 0 6 = nI (0 + 1) from ht) ?_
    refine r_iload E (dat dkW_c21 29 rfl) rfl ?_
    refine r_icmp_eq (tgt := 1161) E (dat dkW_c21 30 rfl) rfl (fun _ => ?_) (fun h => absurd rfl h)
    refine r_iload E (dat dkW_c21 33 rfl) rfl ?_
    refine r_if_ne (tgt := 1178) E (dat dkW_c21 34 rfl) rfl (fun _ => ?_) (fun h => absurd h (by decide))
    refine r_goto (tgt := 2775) E (dat dkW_c21 44 rfl) rfl ?_
    refine r_wid (k2 := k + 100) (n2 := n + 1000) (by show k + 8 + 0 + 0 ≤ _; omega) (by show n + 48 + 0 + 0 ≤ _; omega) ?_
    refine r_back rfl (by simp [LW]) (kk _ (RLe_tr hrel (fun j hj => loX_lt hj) rfl))
  ·
    refine ⟨_, loX_m2, ?_⟩
    refine r_istore_5 E (dat dkW_c21 13 rfl) rfl rfl ?_
    refine r_aload_n E (dat dkW_c21 14 rfl) rfl rfl ?_
    refine r_aldX E (dat dkW_c21 15 rfl) rfl rfl ?_
    refine r_iload E (dat dkW_c21 16 rfl) rfl ?_
    refine r_iconst (v := 1) E (dat dkW_c21 17 rfl) rfl ?_
    refine r_iadd E (dat dkW_c21 18 rfl) ?_
    refine r_sld E hX hb hA hL (nI_add i 1) (show i + 1 < Ls by omega) (dat dkW_c21 19 rfl) ?_
    refine r_aldX E (dat dkW_c21 20 rfl) rfl rfl ?_
    refine r_iload E (dat dkW_c21 21 rfl) rfl ?_
    refine r_iconst (v := 2) E (dat dkW_c21 22 rfl) rfl ?_
    refine r_iadd E (dat dkW_c21 23 rfl) ?_
    refine r_sld E hX hb hA hL (nI_add i 2) (show i + 2 < Ls by omega) (dat dkW_c21 24 rfl) ?_
    refine r_callV (κ := 9) (μ := [20]) E (hR (vw [20] (loX N M')) rfl) my_X10_neighbour iv_X10_neighbour ml_L_214 cm_LR ⟨by decide, rfl, rfl⟩ rfl rfl rfl rfl ⟨Nat.le_of_ble_eq_true rfl, Nat.le_of_ble_eq_true rfl, Nat.le_trans (show k + 8 + 0 ≤ k + 100 by omega) hk, Nat.le_trans (show n + 48 + 0 ≤ n + 1000 by omega) hn⟩ (Nat.le_of_ble_eq_true rfl) (dat dkW_c21 25 rfl) ?_
    rintro r R' hp2
    obtain ⟨⟨bv, rfl⟩, ht, hrel⟩ := P2 1 argN M' rfl hp _ rfl r R' hp2
    refine ⟨_, Mrg_R, ?_⟩
    refine r_istore_6 E (dat dkW_c21 26 rfl) rfl rfl ?_
    refine r_aload_n E (dat dkW_c21 27 rfl) rfl rfl ?_
    refine r_callV (κ := 9) (μ := [20]) E (sp_X10_thrown l G _) my_X10_thrown iv_X10_thrown ml_L_178 cm_LR ⟨by decide, rfl, rfl⟩ rfl rfl rfl rfl ⟨Nat.le_of_ble_eq_true rfl, Nat.le_of_ble_eq_true rfl, Nat.le_trans (show k + 8 + 0 + 0 ≤ k + 100 by omega) hk, Nat.le_trans (show n + 48 + 0 + 0 ≤ n + 1000 by omega) hn⟩ (Nat.le_of_ble_eq_true rfl) (dat dkW_c21 28 rfl) ?_
    rintro _ _ ⟨rfl, rfl⟩
    refine ⟨_, Mrg_T, ?_⟩
    refine r_topE (show vw [20] (setm (loX N M') 20 (R' 0)) 0 0 6 = nI (1 + 1) from ht) ?_
    refine r_iload E (dat dkW_c21 29 rfl) rfl ?_
    refine r_icmp_eq (tgt := 1161) E (dat dkW_c21 30 rfl) rfl (fun _ => ?_) (fun h => absurd rfl h)
    refine r_iload E (dat dkW_c21 33 rfl) rfl ?_
    refine r_if_ne (tgt := 1178) E (dat dkW_c21 34 rfl) rfl (fun _ => ?_) (fun h => absurd h (by decide))
    refine r_goto (tgt := 2775) E (dat dkW_c21 44 rfl) rfl ?_
    refine r_wid (k2 := k + 100) (n2 := n + 1000) (by show k + 8 + 0 + 0 ≤ _; omega) (by show n + 48 + 0 + 0 ≤ _; omega) ?_
    refine r_back rfl (by simp [LW]) (kk _ (RLe_tr hrel (fun j hj => loX_lt hj) rfl))
set_option maxRecDepth 100000 in
set_option maxHeartbeats 8000000 in
theorem lb_22 {p : Program} {l : Launch} {e : Env} {s : State} {m : MethodId} {args : Array Value} {below : List Frame} {meth : Method} {c : Code} {G : GT} {ad : Nat → Nat → Nat} {Q : State → Prop} {k n : Nat} (hst : l.stackTraces = false) (E : EN p s m args meth c G (KL, lkC, ad) cL_law RL 9 (some .boolean)) {b Ls : Nat} {xs : Nat → Int32} (hX : va_X b Ls xs s s.heap) (hb : b < s.heap.size) (hA : ¬ AS (KL, lkC, ad) s.heap.size b) (hL : Ls ≤ 3072) {i : Nat} (hi : i + 6 ≤ Ls) {N : Mem} {B : Int} (H : RLe N (vw [20] N) B) (h0 : 0 ≤ B) (h1 : B + 300 < 2147483648) (hk : k + 100 ≤ room_1.cells) (hn : n + 1000 ≤ room_1.slots)
    (kk : ∀ N2 : Mem, RLe N2 (vw [20] N2) (B + 279) → WM p l e room_1 s m args below meth c G (KL, lkC, ad) 9 Q N2 (k + 100) (n + 1000) 2775 [some (.inl (.ref b)), some (rv 0 0), some (rv 20 0), some (rv 19 0), some (iv (nI i)), none, none, none, none] []) :
    WM p l e room_1 s m args below meth c G (KL, lkC, ad) 9 Q N k n 1181 [some (.inl (.ref b)), some (rv 0 0), some (rv 20 0), some (rv 19 0), some (iv (nI i)), none, none, none, none] [] := by
  obtain ⟨post, post2, hM, hR, P⟩ := pa_puddleCount l hst G H h0 h1
  refine r_aload_n E (dat dkW_c22 0 rfl) rfl rfl ?_
  refine r_callV (κ := 8) (μ := []) E hM my_X9_puddleCount iv_X9_puddleCount ml_L_215 cm_LC ⟨by decide, rfl, rfl⟩ rfl rfl rfl rfl ⟨Nat.le_of_ble_eq_true rfl, Nat.le_of_ble_eq_true rfl, Nat.le_trans (Nat.add_le_add_left (Nat.le_of_ble_eq_true rfl) k) hk, Nat.le_trans (Nat.add_le_add_left (Nat.le_of_ble_eq_true rfl) n) hn⟩ (Nat.le_of_ble_eq_true rfl) (dat dkW_c22 1 rfl) ?_
  rintro r M' hp
  obtain ⟨⟨v, rfl⟩, P2⟩ := P r M' hp
  refine ⟨_, loX_m, ?_⟩
  refine r_aload_n E (dat dkW_c22 2 rfl) rfl rfl ?_
  refine r_callV (κ := 9) (μ := [20]) E (hR (vw [20] (loX N M')) rfl) my_X10_puddleCount iv_X10_puddleCount ml_L_218 cm_LR ⟨by decide, rfl, rfl⟩ rfl rfl rfl rfl ⟨Nat.le_of_ble_eq_true rfl, Nat.le_of_ble_eq_true rfl, Nat.le_trans (show k + 0 + 0 ≤ k + 100 by omega) hk, Nat.le_trans (show n + 0 + 0 ≤ n + 1000 by omega) hn⟩ (Nat.le_of_ble_eq_true rfl) (dat dkW_c22 3 rfl) ?_
  rintro r R' hp2
  obtain ⟨rfl, hrel⟩ := P2 _ rfl r R' hp2
  refine ⟨_, Mrg_R, ?_⟩
  refine r_icmp_eq (tgt := 2775) E (dat dkW_c22 4 rfl) rfl (fun _ => ?_) (fun h => absurd rfl h)
  refine r_wid (k2 := k + 100) (n2 := n + 1000) (by show k + 0 + 0 ≤ _; omega) (by show n + 0 + 0 ≤ _; omega) ?_
  refine r_back rfl (by simp [LW]) (kk _ (RLe_tr hrel (fun j hj => loX_lt hj) rfl))
set_option maxRecDepth 100000 in
set_option maxHeartbeats 8000000 in
theorem lb_23 {p : Program} {l : Launch} {e : Env} {s : State} {m : MethodId} {args : Array Value} {below : List Frame} {meth : Method} {c : Code} {G : GT} {ad : Nat → Nat → Nat} {Q : State → Prop} {k n : Nat} (hst : l.stackTraces = false) (E : EN p s m args meth c G (KL, lkC, ad) cL_law RL 9 (some .boolean)) {b Ls : Nat} {xs : Nat → Int32} (hX : va_X b Ls xs s s.heap) (hb : b < s.heap.size) (hA : ¬ AS (KL, lkC, ad) s.heap.size b) (hL : Ls ≤ 3072) {i : Nat} (hi : i + 6 ≤ Ls) {N : Mem} {B : Int} (H : RLe N (vw [20] N) B) (h0 : 0 ≤ B) (h1 : B + 300 < 2147483648) (hk : k + 100 ≤ room_1.cells) (hn : n + 1000 ≤ room_1.slots)
    (kk : ∀ N2 : Mem, RLe N2 (vw [20] N2) (B + 279) → WM p l e room_1 s m args below meth c G (KL, lkC, ad) 9 Q N2 (k + 100) (n + 1000) 2775 [some (.inl (.ref b)), some (rv 0 0), some (rv 20 0), some (rv 19 0), some (iv (nI i)), none, none, none, none] []) :
    WM p l e room_1 s m args below meth c G (KL, lkC, ad) 9 Q N k n 1194 [some (.inl (.ref b)), some (rv 0 0), some (rv 20 0), some (rv 19 0), some (iv (nI i)), none, none, none, none] [] := by
  obtain ⟨post, XP, post2, hM, hR, hr, hE, P1, P2⟩ := pa_puddleOf l hst G H h0 h1 (xs (i + 1))
  refine r_aload_n E (dat dkW_c23 0 rfl) rfl rfl ?_
  refine r_aldX E (dat dkW_c23 1 rfl) rfl rfl ?_
  refine r_iload E (dat dkW_c23 2 rfl) rfl ?_
  refine r_iconst (v := 1) E (dat dkW_c23 3 rfl) rfl ?_
  refine r_iadd E (dat dkW_c23 4 rfl) ?_
  refine r_sld E hX hb hA hL (nI_add i 1) (show i + 1 < Ls by omega) (dat dkW_c23 5 rfl) ?_
  refine r_aload_n E (dat dkW_c23 6 rfl) rfl rfl ?_
  refine r_callSW (N := 3) (μ := []) E (sp_L_puddleOf l G (xs (i + 1)) N post XP hM hr (fun Ex M' h => by simpa using hE Ex M' h)) ini_L (bg_5 19 (by decide +kernel)) ⟨by decide +kernel, by decide +kernel, by decide +kernel⟩ (bg_5 18 (by decide +kernel)) ml_L_219 cm_LO rfl rfl ⟨Nat.le_of_ble_eq_true rfl, Nat.le_of_ble_eq_true rfl, Nat.le_trans (Nat.add_le_add_left (Nat.le_of_ble_eq_true rfl) k) hk, Nat.le_trans (Nat.add_le_add_left (Nat.le_of_ble_eq_true rfl) n) hn⟩ (Nat.le_of_ble_eq_true rfl) (dat dkW_c23 7 rfl) ?_
  rintro r M9 (⟨v, M', hp, rfl, rfl⟩ | ⟨M', hp, rfl, rfl⟩)
  ·
    refine ⟨_, loV_m, ?_⟩
    refine r_istore_5 E (dat dkW_c23 8 rfl) rfl rfl ?_
    refine r_aload_n E (dat dkW_c23 9 rfl) rfl rfl ?_
    refine r_aldX E (dat dkW_c23 10 rfl) rfl rfl ?_
    refine r_iload E (dat dkW_c23 11 rfl) rfl ?_
    refine r_iconst (v := 1) E (dat dkW_c23 12 rfl) rfl ?_
    refine r_iadd E (dat dkW_c23 13 rfl) ?_
    refine r_sld E hX hb hA hL (nI_add i 1) (show i + 1 < Ls by omega) (dat dkW_c23 14 rfl) ?_
    refine r_callV (κ := 9) (μ := [20]) E (hR (vw [20] (loV N M' v)) rfl) my_X10_puddleOf iv_X10_puddleOf ml_L_221 cm_LR ⟨by decide, rfl, rfl⟩ rfl rfl rfl rfl ⟨Nat.le_of_ble_eq_true rfl, Nat.le_of_ble_eq_true rfl, Nat.le_trans (show k + 4 + 0 ≤ k + 100 by omega) hk, Nat.le_trans (show n + 24 + 0 ≤ n + 1000 by omega) hn⟩ (Nat.le_of_ble_eq_true rfl) (dat dkW_c23 15 rfl) ?_
    rintro r R' hp2
    obtain ⟨rfl, ht, hrel⟩ := P1 v M' hp _ rfl r R' hp2
    refine ⟨_, Mrg_R, ?_⟩
    refine r_istore_6 E (dat dkW_c23 16 rfl) rfl rfl ?_
    refine r_aload_n E (dat dkW_c23 17 rfl) rfl rfl ?_
    refine r_callV (κ := 9) (μ := [20]) E (sp_X10_thrown l G _) my_X10_thrown iv_X10_thrown ml_L_178 cm_LR ⟨by decide, rfl, rfl⟩ rfl rfl rfl rfl ⟨Nat.le_of_ble_eq_true rfl, Nat.le_of_ble_eq_true rfl, Nat.le_trans (show k + 4 + 0 + 0 ≤ k + 100 by omega) hk, Nat.le_trans (show n + 24 + 0 + 0 ≤ n + 1000 by omega) hn⟩ (Nat.le_of_ble_eq_true rfl) (dat dkW_c23 18 rfl) ?_
    rintro _ _ ⟨rfl, rfl⟩
    refine ⟨_, Mrg_T, ?_⟩
    refine r_topE (show vw [20] (setm (loV N M' v) 20 (R' 0)) 0 0 6 = 0 from ht) ?_
    refine r_iload E (dat dkW_c23 19 rfl) rfl ?_
    refine r_icmp_eq (tgt := 1230) E (dat dkW_c23 20 rfl) rfl (fun _ => ?_) (fun h => absurd rfl h)
    refine r_iload E (dat dkW_c23 23 rfl) rfl ?_
    refine r_if_ne (tgt := 1247) E (dat dkW_c23 24 rfl) rfl (fun h => absurd rfl h) (fun _ => ?_)
    refine r_aload_n E (dat dkW_c23 25 rfl) rfl rfl ?_
    refine r_iconst (v := 0) E (dat dkW_c23 26 rfl) rfl ?_
    refine r_lald (N := 1) E (dat dkW_c23 27 rfl) rfl rfl (by unfold vp_in; decide) ?_
    refine r_iload E (dat dkW_c23 28 rfl) rfl ?_
    refine r_i2l E (dat dkW_c23 29 rfl) ?_
    refine r_lcmp E (dat dkW_c23 30 rfl) ?_
    refine r_if_eq (tgt := 1247) E (dat dkW_c23 31 rfl) rfl (fun _ => ?_) (fun h9 => absurd (lg_self v.toInt64) h9)
    refine r_goto (tgt := 2775) E (dat dkW_c23 34 rfl) rfl ?_
    refine r_wid (k2 := k + 100) (n2 := n + 1000) (by show k + 4 + 0 + 0 ≤ _; omega) (by show n + 24 + 0 + 0 ≤ _; omega) ?_
    refine r_back rfl (by simp [LW]) (kk _ (RLe_tr hrel (fun j hj => loV_lt hj) rfl))
  ·
    refine ⟨_, loX_m2, ?_⟩
    refine r_istore_5 E (dat dkW_c23 8 rfl) rfl rfl ?_
    refine r_aload_n E (dat dkW_c23 9 rfl) rfl rfl ?_
    refine r_aldX E (dat dkW_c23 10 rfl) rfl rfl ?_
    refine r_iload E (dat dkW_c23 11 rfl) rfl ?_
    refine r_iconst (v := 1) E (dat dkW_c23 12 rfl) rfl ?_
    refine r_iadd E (dat dkW_c23 13 rfl) ?_
    refine r_sld E hX hb hA hL (nI_add i 1) (show i + 1 < Ls by omega) (dat dkW_c23 14 rfl) ?_
    refine r_callV (κ := 9) (μ := [20]) E (hR (vw [20] (loX N M')) rfl) my_X10_puddleOf iv_X10_puddleOf ml_L_221 cm_LR ⟨by decide, rfl, rfl⟩ rfl rfl rfl rfl ⟨Nat.le_of_ble_eq_true rfl, Nat.le_of_ble_eq_true rfl, Nat.le_trans (show k + 4 + 0 ≤ k + 100 by omega) hk, Nat.le_trans (show n + 24 + 0 ≤ n + 1000 by omega) hn⟩ (Nat.le_of_ble_eq_true rfl) (dat dkW_c23 15 rfl) ?_
    rintro r R' hp2
    obtain ⟨⟨bv, rfl⟩, ht, hrel⟩ := P2 0 oobN M' rfl hp _ rfl r R' hp2
    refine ⟨_, Mrg_R, ?_⟩
    refine r_istore_6 E (dat dkW_c23 16 rfl) rfl rfl ?_
    refine r_aload_n E (dat dkW_c23 17 rfl) rfl rfl ?_
    refine r_callV (κ := 9) (μ := [20]) E (sp_X10_thrown l G _) my_X10_thrown iv_X10_thrown ml_L_178 cm_LR ⟨by decide, rfl, rfl⟩ rfl rfl rfl rfl ⟨Nat.le_of_ble_eq_true rfl, Nat.le_of_ble_eq_true rfl, Nat.le_trans (show k + 4 + 0 + 0 ≤ k + 100 by omega) hk, Nat.le_trans (show n + 24 + 0 + 0 ≤ n + 1000 by omega) hn⟩ (Nat.le_of_ble_eq_true rfl) (dat dkW_c23 18 rfl) ?_
    rintro _ _ ⟨rfl, rfl⟩
    refine ⟨_, Mrg_T, ?_⟩
    refine r_topE (show vw [20] (setm (loX N M') 20 (R' 0)) 0 0 6 = nI (0 + 1) from ht) ?_
    refine r_iload E (dat dkW_c23 19 rfl) rfl ?_
    refine r_icmp_eq (tgt := 1230) E (dat dkW_c23 20 rfl) rfl (fun _ => ?_) (fun h => absurd rfl h)
    refine r_iload E (dat dkW_c23 23 rfl) rfl ?_
    refine r_if_ne (tgt := 1247) E (dat dkW_c23 24 rfl) rfl (fun _ => ?_) (fun h => absurd h (by decide))
    refine r_goto (tgt := 2775) E (dat dkW_c23 34 rfl) rfl ?_
    refine r_wid (k2 := k + 100) (n2 := n + 1000) (by show k + 4 + 0 + 0 ≤ _; omega) (by show n + 24 + 0 + 0 ≤ _; omega) ?_
    refine r_back rfl (by simp [LW]) (kk _ (RLe_tr hrel (fun j hj => loX_lt hj) rfl))
set_option maxRecDepth 100000 in
set_option maxHeartbeats 8000000 in
theorem lb_24 {p : Program} {l : Launch} {e : Env} {s : State} {m : MethodId} {args : Array Value} {below : List Frame} {meth : Method} {c : Code} {G : GT} {ad : Nat → Nat → Nat} {Q : State → Prop} {k n : Nat} (hst : l.stackTraces = false) (E : EN p s m args meth c G (KL, lkC, ad) cL_law RL 9 (some .boolean)) {b Ls : Nat} {xs : Nat → Int32} (hX : va_X b Ls xs s s.heap) (hb : b < s.heap.size) (hA : ¬ AS (KL, lkC, ad) s.heap.size b) (hL : Ls ≤ 3072) {i : Nat} (hi : i + 6 ≤ Ls) {N : Mem} {B : Int} (H : RLe N (vw [20] N) B) (h0 : 0 ≤ B) (h1 : B + 300 < 2147483648) (hk : k + 100 ≤ room_1.cells) (hn : n + 1000 ≤ room_1.slots)
    (kk : ∀ N2 : Mem, RLe N2 (vw [20] N2) (B + 279) → WM p l e room_1 s m args below meth c G (KL, lkC, ad) 9 Q N2 (k + 100) (n + 1000) 2775 [some (.inl (.ref b)), some (rv 0 0), some (rv 20 0), some (rv 19 0), some (iv (nI i)), none, none, none, none] []) :
    WM p l e room_1 s m args below meth c G (KL, lkC, ad) 9 Q N k n 1250 [some (.inl (.ref b)), some (rv 0 0), some (rv 20 0), some (rv 19 0), some (iv (nI i)), none, none, none, none] [] := by
  obtain ⟨post, XP, post2, hM, hR, hr, hE, P1, P2⟩ := pa_puddleSize l hst G H h0 h1 (xs (i + 1))
  refine r_aload_n E (dat dkW_c24 0 rfl) rfl rfl ?_
  refine r_aldX E (dat dkW_c24 1 rfl) rfl rfl ?_
  refine r_iload E (dat dkW_c24 2 rfl) rfl ?_
  refine r_iconst (v := 1) E (dat dkW_c24 3 rfl) rfl ?_
  refine r_iadd E (dat dkW_c24 4 rfl) ?_
  refine r_sld E hX hb hA hL (nI_add i 1) (show i + 1 < Ls by omega) (dat dkW_c24 5 rfl) ?_
  refine r_aload_n E (dat dkW_c24 6 rfl) rfl rfl ?_
  refine r_callSW (N := 3) (μ := []) E (sp_L_puddleSize l G (xs (i + 1)) N post XP hM hr (fun Ex M' h => by simpa using hE Ex M' h)) ini_L (bg_5 26 (by decide +kernel)) ⟨by decide +kernel, by decide +kernel, by decide +kernel⟩ (bg_5 25 (by decide +kernel)) ml_L_222 cm_LO rfl rfl ⟨Nat.le_of_ble_eq_true rfl, Nat.le_of_ble_eq_true rfl, Nat.le_trans (Nat.add_le_add_left (Nat.le_of_ble_eq_true rfl) k) hk, Nat.le_trans (Nat.add_le_add_left (Nat.le_of_ble_eq_true rfl) n) hn⟩ (Nat.le_of_ble_eq_true rfl) (dat dkW_c24 7 rfl) ?_
  rintro r M9 (⟨v, M', hp, rfl, rfl⟩ | ⟨M', hp, rfl, rfl⟩)
  ·
    refine ⟨_, loV_m, ?_⟩
    refine r_istore_5 E (dat dkW_c24 8 rfl) rfl rfl ?_
    refine r_aload_n E (dat dkW_c24 9 rfl) rfl rfl ?_
    refine r_aldX E (dat dkW_c24 10 rfl) rfl rfl ?_
    refine r_iload E (dat dkW_c24 11 rfl) rfl ?_
    refine r_iconst (v := 1) E (dat dkW_c24 12 rfl) rfl ?_
    refine r_iadd E (dat dkW_c24 13 rfl) ?_
    refine r_sld E hX hb hA hL (nI_add i 1) (show i + 1 < Ls by omega) (dat dkW_c24 14 rfl) ?_
    refine r_callV (κ := 9) (μ := [20]) E (hR (vw [20] (loV N M' v)) rfl) my_X10_puddleSize iv_X10_puddleSize ml_L_224 cm_LR ⟨by decide, rfl, rfl⟩ rfl rfl rfl rfl ⟨Nat.le_of_ble_eq_true rfl, Nat.le_of_ble_eq_true rfl, Nat.le_trans (show k + 8 + 0 ≤ k + 100 by omega) hk, Nat.le_trans (show n + 48 + 0 ≤ n + 1000 by omega) hn⟩ (Nat.le_of_ble_eq_true rfl) (dat dkW_c24 15 rfl) ?_
    rintro r R' hp2
    obtain ⟨rfl, ht, hrel⟩ := P1 v M' hp _ rfl r R' hp2
    refine ⟨_, Mrg_R, ?_⟩
    refine r_istore_6 E (dat dkW_c24 16 rfl) rfl rfl ?_
    refine r_aload_n E (dat dkW_c24 17 rfl) rfl rfl ?_
    refine r_callV (κ := 9) (μ := [20]) E (sp_X10_thrown l G _) my_X10_thrown iv_X10_thrown ml_L_178 cm_LR ⟨by decide, rfl, rfl⟩ rfl rfl rfl rfl ⟨Nat.le_of_ble_eq_true rfl, Nat.le_of_ble_eq_true rfl, Nat.le_trans (show k + 8 + 0 + 0 ≤ k + 100 by omega) hk, Nat.le_trans (show n + 48 + 0 + 0 ≤ n + 1000 by omega) hn⟩ (Nat.le_of_ble_eq_true rfl) (dat dkW_c24 18 rfl) ?_
    rintro _ _ ⟨rfl, rfl⟩
    refine ⟨_, Mrg_T, ?_⟩
    refine r_topE (show vw [20] (setm (loV N M' v) 20 (R' 0)) 0 0 6 = 0 from ht) ?_
    refine r_iload E (dat dkW_c24 19 rfl) rfl ?_
    refine r_icmp_eq (tgt := 1286) E (dat dkW_c24 20 rfl) rfl (fun _ => ?_) (fun h => absurd rfl h)
    refine r_iload E (dat dkW_c24 23 rfl) rfl ?_
    refine r_if_ne (tgt := 1303) E (dat dkW_c24 24 rfl) rfl (fun h => absurd rfl h) (fun _ => ?_)
    refine r_aload_n E (dat dkW_c24 25 rfl) rfl rfl ?_
    refine r_iconst (v := 0) E (dat dkW_c24 26 rfl) rfl ?_
    refine r_lald (N := 1) E (dat dkW_c24 27 rfl) rfl rfl (by unfold vp_in; decide) ?_
    refine r_iload E (dat dkW_c24 28 rfl) rfl ?_
    refine r_i2l E (dat dkW_c24 29 rfl) ?_
    refine r_lcmp E (dat dkW_c24 30 rfl) ?_
    refine r_if_eq (tgt := 1303) E (dat dkW_c24 31 rfl) rfl (fun _ => ?_) (fun h9 => absurd (lg_self v.toInt64) h9)
    refine r_goto (tgt := 2775) E (dat dkW_c24 34 rfl) rfl ?_
    refine r_wid (k2 := k + 100) (n2 := n + 1000) (by show k + 8 + 0 + 0 ≤ _; omega) (by show n + 48 + 0 + 0 ≤ _; omega) ?_
    refine r_back rfl (by simp [LW]) (kk _ (RLe_tr hrel (fun j hj => loV_lt hj) rfl))
  ·
    refine ⟨_, loX_m2, ?_⟩
    refine r_istore_5 E (dat dkW_c24 8 rfl) rfl rfl ?_
    refine r_aload_n E (dat dkW_c24 9 rfl) rfl rfl ?_
    refine r_aldX E (dat dkW_c24 10 rfl) rfl rfl ?_
    refine r_iload E (dat dkW_c24 11 rfl) rfl ?_
    refine r_iconst (v := 1) E (dat dkW_c24 12 rfl) rfl ?_
    refine r_iadd E (dat dkW_c24 13 rfl) ?_
    refine r_sld E hX hb hA hL (nI_add i 1) (show i + 1 < Ls by omega) (dat dkW_c24 14 rfl) ?_
    refine r_callV (κ := 9) (μ := [20]) E (hR (vw [20] (loX N M')) rfl) my_X10_puddleSize iv_X10_puddleSize ml_L_224 cm_LR ⟨by decide, rfl, rfl⟩ rfl rfl rfl rfl ⟨Nat.le_of_ble_eq_true rfl, Nat.le_of_ble_eq_true rfl, Nat.le_trans (show k + 8 + 0 ≤ k + 100 by omega) hk, Nat.le_trans (show n + 48 + 0 ≤ n + 1000 by omega) hn⟩ (Nat.le_of_ble_eq_true rfl) (dat dkW_c24 15 rfl) ?_
    rintro r R' hp2
    obtain ⟨⟨bv, rfl⟩, ht, hrel⟩ := P2 0 oobN M' rfl hp _ rfl r R' hp2
    refine ⟨_, Mrg_R, ?_⟩
    refine r_istore_6 E (dat dkW_c24 16 rfl) rfl rfl ?_
    refine r_aload_n E (dat dkW_c24 17 rfl) rfl rfl ?_
    refine r_callV (κ := 9) (μ := [20]) E (sp_X10_thrown l G _) my_X10_thrown iv_X10_thrown ml_L_178 cm_LR ⟨by decide, rfl, rfl⟩ rfl rfl rfl rfl ⟨Nat.le_of_ble_eq_true rfl, Nat.le_of_ble_eq_true rfl, Nat.le_trans (show k + 8 + 0 + 0 ≤ k + 100 by omega) hk, Nat.le_trans (show n + 48 + 0 + 0 ≤ n + 1000 by omega) hn⟩ (Nat.le_of_ble_eq_true rfl) (dat dkW_c24 18 rfl) ?_
    rintro _ _ ⟨rfl, rfl⟩
    refine ⟨_, Mrg_T, ?_⟩
    refine r_topE (show vw [20] (setm (loX N M') 20 (R' 0)) 0 0 6 = nI (0 + 1) from ht) ?_
    refine r_iload E (dat dkW_c24 19 rfl) rfl ?_
    refine r_icmp_eq (tgt := 1286) E (dat dkW_c24 20 rfl) rfl (fun _ => ?_) (fun h => absurd rfl h)
    refine r_iload E (dat dkW_c24 23 rfl) rfl ?_
    refine r_if_ne (tgt := 1303) E (dat dkW_c24 24 rfl) rfl (fun _ => ?_) (fun h => absurd h (by decide))
    refine r_goto (tgt := 2775) E (dat dkW_c24 34 rfl) rfl ?_
    refine r_wid (k2 := k + 100) (n2 := n + 1000) (by show k + 8 + 0 + 0 ≤ _; omega) (by show n + 48 + 0 + 0 ≤ _; omega) ?_
    refine r_back rfl (by simp [LW]) (kk _ (RLe_tr hrel (fun j hj => loX_lt hj) rfl))
set_option maxRecDepth 100000 in
set_option maxHeartbeats 8000000 in
theorem lb_25 {p : Program} {l : Launch} {e : Env} {s : State} {m : MethodId} {args : Array Value} {below : List Frame} {meth : Method} {c : Code} {G : GT} {ad : Nat → Nat → Nat} {Q : State → Prop} {k n : Nat} (hst : l.stackTraces = false) (E : EN p s m args meth c G (KL, lkC, ad) cL_law RL 9 (some .boolean)) {b Ls : Nat} {xs : Nat → Int32} (hX : va_X b Ls xs s s.heap) (hb : b < s.heap.size) (hA : ¬ AS (KL, lkC, ad) s.heap.size b) (hL : Ls ≤ 3072) {i : Nat} (hi : i + 6 ≤ Ls) {N : Mem} {B : Int} (H : RLe N (vw [20] N) B) (h0 : 0 ≤ B) (h1 : B + 300 < 2147483648) (hk : k + 100 ≤ room_1.cells) (hn : n + 1000 ≤ room_1.slots)
    (kk : ∀ N2 : Mem, RLe N2 (vw [20] N2) (B + 279) → WM p l e room_1 s m args below meth c G (KL, lkC, ad) 9 Q N2 (k + 100) (n + 1000) 2775 [some (.inl (.ref b)), some (rv 0 0), some (rv 20 0), some (rv 19 0), some (iv (nI i)), none, none, none, none] []) :
    WM p l e room_1 s m args below meth c G (KL, lkC, ad) 9 Q N k n 1306 [some (.inl (.ref b)), some (rv 0 0), some (rv 20 0), some (rv 19 0), some (iv (nI i)), none, none, none, none] [] := by
  obtain ⟨post, XP, post2, hM, hR, hr, hE, P1, P2⟩ := pa_puddleWater l hst G H h0 h1 (xs (i + 1))
  refine r_aload_n E (dat dkW_c25 0 rfl) rfl rfl ?_
  refine r_aldX E (dat dkW_c25 1 rfl) rfl rfl ?_
  refine r_iload E (dat dkW_c25 2 rfl) rfl ?_
  refine r_iconst (v := 1) E (dat dkW_c25 3 rfl) rfl ?_
  refine r_iadd E (dat dkW_c25 4 rfl) ?_
  refine r_sld E hX hb hA hL (nI_add i 1) (show i + 1 < Ls by omega) (dat dkW_c25 5 rfl) ?_
  refine r_aload_n E (dat dkW_c25 6 rfl) rfl rfl ?_
  refine r_callSW (N := 3) (μ := []) E (sp_L_puddleWater l G (xs (i + 1)) N post XP hM hr (fun Ex M' h => by simpa using hE Ex M' h)) ini_L (bg_5 38 (by decide +kernel)) ⟨by decide +kernel, by decide +kernel, by decide +kernel⟩ (bg_5 37 (by decide +kernel)) ml_L_225 cm_LO rfl rfl ⟨Nat.le_of_ble_eq_true rfl, Nat.le_of_ble_eq_true rfl, Nat.le_trans (Nat.add_le_add_left (Nat.le_of_ble_eq_true rfl) k) hk, Nat.le_trans (Nat.add_le_add_left (Nat.le_of_ble_eq_true rfl) n) hn⟩ (Nat.le_of_ble_eq_true rfl) (dat dkW_c25 7 rfl) ?_
  rintro r M9 (⟨v, M', hp, rfl, rfl⟩ | ⟨M', hp, rfl, rfl⟩)
  ·
    refine ⟨_, loV_m, ?_⟩
    refine r_istore_5 E (dat dkW_c25 8 rfl) rfl rfl ?_
    refine r_aload_n E (dat dkW_c25 9 rfl) rfl rfl ?_
    refine r_aldX E (dat dkW_c25 10 rfl) rfl rfl ?_
    refine r_iload E (dat dkW_c25 11 rfl) rfl ?_
    refine r_iconst (v := 1) E (dat dkW_c25 12 rfl) rfl ?_
    refine r_iadd E (dat dkW_c25 13 rfl) ?_
    refine r_sld E hX hb hA hL (nI_add i 1) (show i + 1 < Ls by omega) (dat dkW_c25 14 rfl) ?_
    refine r_callV (κ := 9) (μ := [20]) E (hR (vw [20] (loV N M' v)) rfl) my_X10_puddleWater iv_X10_puddleWater ml_L_227 cm_LR ⟨by decide, rfl, rfl⟩ rfl rfl rfl rfl ⟨Nat.le_of_ble_eq_true rfl, Nat.le_of_ble_eq_true rfl, Nat.le_trans (show k + 8 + 0 ≤ k + 100 by omega) hk, Nat.le_trans (show n + 48 + 0 ≤ n + 1000 by omega) hn⟩ (Nat.le_of_ble_eq_true rfl) (dat dkW_c25 15 rfl) ?_
    rintro r R' hp2
    obtain ⟨rfl, ht, hrel⟩ := P1 v M' hp _ rfl r R' hp2
    refine ⟨_, Mrg_R, ?_⟩
    refine r_istore_6 E (dat dkW_c25 16 rfl) rfl rfl ?_
    refine r_aload_n E (dat dkW_c25 17 rfl) rfl rfl ?_
    refine r_callV (κ := 9) (μ := [20]) E (sp_X10_thrown l G _) my_X10_thrown iv_X10_thrown ml_L_178 cm_LR ⟨by decide, rfl, rfl⟩ rfl rfl rfl rfl ⟨Nat.le_of_ble_eq_true rfl, Nat.le_of_ble_eq_true rfl, Nat.le_trans (show k + 8 + 0 + 0 ≤ k + 100 by omega) hk, Nat.le_trans (show n + 48 + 0 + 0 ≤ n + 1000 by omega) hn⟩ (Nat.le_of_ble_eq_true rfl) (dat dkW_c25 18 rfl) ?_
    rintro _ _ ⟨rfl, rfl⟩
    refine ⟨_, Mrg_T, ?_⟩
    refine r_topE (show vw [20] (setm (loV N M' v) 20 (R' 0)) 0 0 6 = 0 from ht) ?_
    refine r_iload E (dat dkW_c25 19 rfl) rfl ?_
    refine r_icmp_eq (tgt := 1342) E (dat dkW_c25 20 rfl) rfl (fun _ => ?_) (fun h => absurd rfl h)
    refine r_iload E (dat dkW_c25 23 rfl) rfl ?_
    refine r_if_ne (tgt := 1359) E (dat dkW_c25 24 rfl) rfl (fun h => absurd rfl h) (fun _ => ?_)
    refine r_aload_n E (dat dkW_c25 25 rfl) rfl rfl ?_
    refine r_iconst (v := 0) E (dat dkW_c25 26 rfl) rfl ?_
    refine r_lald (N := 1) E (dat dkW_c25 27 rfl) rfl rfl (by unfold vp_in; decide) ?_
    refine r_iload E (dat dkW_c25 28 rfl) rfl ?_
    refine r_i2l E (dat dkW_c25 29 rfl) ?_
    refine r_lcmp E (dat dkW_c25 30 rfl) ?_
    refine r_if_eq (tgt := 1359) E (dat dkW_c25 31 rfl) rfl (fun _ => ?_) (fun h9 => absurd (lg_self v.toInt64) h9)
    refine r_goto (tgt := 2775) E (dat dkW_c25 34 rfl) rfl ?_
    refine r_wid (k2 := k + 100) (n2 := n + 1000) (by show k + 8 + 0 + 0 ≤ _; omega) (by show n + 48 + 0 + 0 ≤ _; omega) ?_
    refine r_back rfl (by simp [LW]) (kk _ (RLe_tr hrel (fun j hj => loV_lt hj) rfl))
  ·
    refine ⟨_, loX_m2, ?_⟩
    refine r_istore_5 E (dat dkW_c25 8 rfl) rfl rfl ?_
    refine r_aload_n E (dat dkW_c25 9 rfl) rfl rfl ?_
    refine r_aldX E (dat dkW_c25 10 rfl) rfl rfl ?_
    refine r_iload E (dat dkW_c25 11 rfl) rfl ?_
    refine r_iconst (v := 1) E (dat dkW_c25 12 rfl) rfl ?_
    refine r_iadd E (dat dkW_c25 13 rfl) ?_
    refine r_sld E hX hb hA hL (nI_add i 1) (show i + 1 < Ls by omega) (dat dkW_c25 14 rfl) ?_
    refine r_callV (κ := 9) (μ := [20]) E (hR (vw [20] (loX N M')) rfl) my_X10_puddleWater iv_X10_puddleWater ml_L_227 cm_LR ⟨by decide, rfl, rfl⟩ rfl rfl rfl rfl ⟨Nat.le_of_ble_eq_true rfl, Nat.le_of_ble_eq_true rfl, Nat.le_trans (show k + 8 + 0 ≤ k + 100 by omega) hk, Nat.le_trans (show n + 48 + 0 ≤ n + 1000 by omega) hn⟩ (Nat.le_of_ble_eq_true rfl) (dat dkW_c25 15 rfl) ?_
    rintro r R' hp2
    obtain ⟨⟨bv, rfl⟩, ht, hrel⟩ := P2 0 oobN M' rfl hp _ rfl r R' hp2
    refine ⟨_, Mrg_R, ?_⟩
    refine r_istore_6 E (dat dkW_c25 16 rfl) rfl rfl ?_
    refine r_aload_n E (dat dkW_c25 17 rfl) rfl rfl ?_
    refine r_callV (κ := 9) (μ := [20]) E (sp_X10_thrown l G _) my_X10_thrown iv_X10_thrown ml_L_178 cm_LR ⟨by decide, rfl, rfl⟩ rfl rfl rfl rfl ⟨Nat.le_of_ble_eq_true rfl, Nat.le_of_ble_eq_true rfl, Nat.le_trans (show k + 8 + 0 + 0 ≤ k + 100 by omega) hk, Nat.le_trans (show n + 48 + 0 + 0 ≤ n + 1000 by omega) hn⟩ (Nat.le_of_ble_eq_true rfl) (dat dkW_c25 18 rfl) ?_
    rintro _ _ ⟨rfl, rfl⟩
    refine ⟨_, Mrg_T, ?_⟩
    refine r_topE (show vw [20] (setm (loX N M') 20 (R' 0)) 0 0 6 = nI (0 + 1) from ht) ?_
    refine r_iload E (dat dkW_c25 19 rfl) rfl ?_
    refine r_icmp_eq (tgt := 1342) E (dat dkW_c25 20 rfl) rfl (fun _ => ?_) (fun h => absurd rfl h)
    refine r_iload E (dat dkW_c25 23 rfl) rfl ?_
    refine r_if_ne (tgt := 1359) E (dat dkW_c25 24 rfl) rfl (fun _ => ?_) (fun h => absurd h (by decide))
    refine r_goto (tgt := 2775) E (dat dkW_c25 34 rfl) rfl ?_
    refine r_wid (k2 := k + 100) (n2 := n + 1000) (by show k + 8 + 0 + 0 ≤ _; omega) (by show n + 48 + 0 + 0 ≤ _; omega) ?_
    refine r_back rfl (by simp [LW]) (kk _ (RLe_tr hrel (fun j hj => loX_lt hj) rfl))
set_option maxRecDepth 100000 in
set_option maxHeartbeats 8000000 in
theorem lb_26 {p : Program} {l : Launch} {e : Env} {s : State} {m : MethodId} {args : Array Value} {below : List Frame} {meth : Method} {c : Code} {G : GT} {ad : Nat → Nat → Nat} {Q : State → Prop} {k n : Nat} (hst : l.stackTraces = false) (E : EN p s m args meth c G (KL, lkC, ad) cL_law RL 9 (some .boolean)) {b Ls : Nat} {xs : Nat → Int32} (hX : va_X b Ls xs s s.heap) (hb : b < s.heap.size) (hA : ¬ AS (KL, lkC, ad) s.heap.size b) (hL : Ls ≤ 3072) {i : Nat} (hi : i + 6 ≤ Ls) {N : Mem} {B : Int} (H : RLe N (vw [20] N) B) (h0 : 0 ≤ B) (h1 : B + 300 < 2147483648) (hk : k + 100 ≤ room_1.cells) (hn : n + 1000 ≤ room_1.slots)
    (kk : ∀ N2 : Mem, RLe N2 (vw [20] N2) (B + 279) → WM p l e room_1 s m args below meth c G (KL, lkC, ad) 9 Q N2 (k + 100) (n + 1000) 2775 [some (.inl (.ref b)), some (rv 0 0), some (rv 20 0), some (rv 19 0), some (iv (nI i)), none, none, none, none] []) :
    WM p l e room_1 s m args below meth c G (KL, lkC, ad) 9 Q N k n 1362 [some (.inl (.ref b)), some (rv 0 0), some (rv 20 0), some (rv 19 0), some (iv (nI i)), none, none, none, none] [] := by
  obtain ⟨post, post2, hM, hR, P⟩ := pa_deepestCell l hst G H h0 h1
  refine r_aload_n E (dat dkW_c26 0 rfl) rfl rfl ?_
  refine r_callV (κ := 8) (μ := []) E hM my_X9_deepestCell iv_X9_deepestCell ml_L_228 cm_LC ⟨by decide, rfl, rfl⟩ rfl rfl rfl rfl ⟨Nat.le_of_ble_eq_true rfl, Nat.le_of_ble_eq_true rfl, Nat.le_trans (Nat.add_le_add_left (Nat.le_of_ble_eq_true rfl) k) hk, Nat.le_trans (Nat.add_le_add_left (Nat.le_of_ble_eq_true rfl) n) hn⟩ (Nat.le_of_ble_eq_true rfl) (dat dkW_c26 1 rfl) ?_
  rintro r M' hp
  obtain ⟨⟨v, rfl⟩, P2⟩ := P r M' hp
  refine ⟨_, loX_m, ?_⟩
  refine r_aload_n E (dat dkW_c26 2 rfl) rfl rfl ?_
  refine r_callV (κ := 9) (μ := [20]) E (hR (vw [20] (loX N M')) rfl) my_X10_deepestCell iv_X10_deepestCell ml_L_231 cm_LR ⟨by decide, rfl, rfl⟩ rfl rfl rfl rfl ⟨Nat.le_of_ble_eq_true rfl, Nat.le_of_ble_eq_true rfl, Nat.le_trans (show k + 0 + 0 ≤ k + 100 by omega) hk, Nat.le_trans (show n + 0 + 0 ≤ n + 1000 by omega) hn⟩ (Nat.le_of_ble_eq_true rfl) (dat dkW_c26 3 rfl) ?_
  rintro r R' hp2
  obtain ⟨rfl, hrel⟩ := P2 _ rfl r R' hp2
  refine ⟨_, Mrg_R, ?_⟩
  refine r_icmp_eq (tgt := 2775) E (dat dkW_c26 4 rfl) rfl (fun _ => ?_) (fun h => absurd rfl h)
  refine r_wid (k2 := k + 100) (n2 := n + 1000) (by show k + 0 + 0 ≤ _; omega) (by show n + 0 + 0 ≤ _; omega) ?_
  refine r_back rfl (by simp [LW]) (kk _ (RLe_tr hrel (fun j hj => loX_lt hj) rfl))
set_option maxRecDepth 100000 in
set_option maxHeartbeats 8000000 in
theorem lb_27 {p : Program} {l : Launch} {e : Env} {s : State} {m : MethodId} {args : Array Value} {below : List Frame} {meth : Method} {c : Code} {G : GT} {ad : Nat → Nat → Nat} {Q : State → Prop} {k n : Nat} (hst : l.stackTraces = false) (E : EN p s m args meth c G (KL, lkC, ad) cL_law RL 9 (some .boolean)) {b Ls : Nat} {xs : Nat → Int32} (hX : va_X b Ls xs s s.heap) (hb : b < s.heap.size) (hA : ¬ AS (KL, lkC, ad) s.heap.size b) (hL : Ls ≤ 3072) {i : Nat} (hi : i + 6 ≤ Ls) {N : Mem} {B : Int} (H : RLe N (vw [20] N) B) (h0 : 0 ≤ B) (h1 : B + 300 < 2147483648) (hk : k + 100 ≤ room_1.cells) (hn : n + 1000 ≤ room_1.slots)
    (kk : ∀ N2 : Mem, RLe N2 (vw [20] N2) (B + 279) → WM p l e room_1 s m args below meth c G (KL, lkC, ad) 9 Q N2 (k + 100) (n + 1000) 2775 [some (.inl (.ref b)), some (rv 0 0), some (rv 20 0), some (rv 19 0), some (iv (nI i)), none, none, none, none] []) :
    WM p l e room_1 s m args below meth c G (KL, lkC, ad) 9 Q N k n 1375 [some (.inl (.ref b)), some (rv 0 0), some (rv 20 0), some (rv 19 0), some (iv (nI i)), none, none, none, none] [] := by
  obtain ⟨post, post2, hM, hR, P⟩ := pa_waterTotal l hst G H h0 h1
  refine r_aload_n E (dat dkW_c27 0 rfl) rfl rfl ?_
  refine r_callV (κ := 8) (μ := []) E hM my_X9_waterTotal iv_X9_waterTotal ml_L_232 cm_LC ⟨by decide, rfl, rfl⟩ rfl rfl rfl rfl ⟨Nat.le_of_ble_eq_true rfl, Nat.le_of_ble_eq_true rfl, Nat.le_trans (Nat.add_le_add_left (Nat.le_of_ble_eq_true rfl) k) hk, Nat.le_trans (Nat.add_le_add_left (Nat.le_of_ble_eq_true rfl) n) hn⟩ (Nat.le_of_ble_eq_true rfl) (dat dkW_c27 1 rfl) ?_
  rintro r M' hp
  obtain ⟨⟨v, rfl⟩, P2⟩ := P r M' hp
  refine ⟨_, loX_m, ?_⟩
  refine r_aload_n E (dat dkW_c27 2 rfl) rfl rfl ?_
  refine r_callV (κ := 9) (μ := [20]) E (hR (vw [20] (loX N M')) rfl) my_X10_waterTotal iv_X10_waterTotal ml_L_235 cm_LR ⟨by decide, rfl, rfl⟩ rfl rfl rfl rfl ⟨Nat.le_of_ble_eq_true rfl, Nat.le_of_ble_eq_true rfl, Nat.le_trans (show k + 0 + 0 ≤ k + 100 by omega) hk, Nat.le_trans (show n + 0 + 0 ≤ n + 1000 by omega) hn⟩ (Nat.le_of_ble_eq_true rfl) (dat dkW_c27 3 rfl) ?_
  rintro r R' hp2
  obtain ⟨rfl, hrel⟩ := P2 _ rfl r R' hp2
  refine ⟨_, Mrg_R, ?_⟩
  refine r_icmp_eq (tgt := 2775) E (dat dkW_c27 4 rfl) rfl (fun _ => ?_) (fun h => absurd rfl h)
  refine r_wid (k2 := k + 100) (n2 := n + 1000) (by show k + 0 + 0 ≤ _; omega) (by show n + 0 + 0 ≤ _; omega) ?_
  refine r_back rfl (by simp [LW]) (kk _ (RLe_tr hrel (fun j hj => loX_lt hj) rfl))
set_option maxRecDepth 100000 in
set_option maxHeartbeats 8000000 in
theorem lb_28 {p : Program} {l : Launch} {e : Env} {s : State} {m : MethodId} {args : Array Value} {below : List Frame} {meth : Method} {c : Code} {G : GT} {ad : Nat → Nat → Nat} {Q : State → Prop} {k n : Nat} (hst : l.stackTraces = false) (E : EN p s m args meth c G (KL, lkC, ad) cL_law RL 9 (some .boolean)) {b Ls : Nat} {xs : Nat → Int32} (hX : va_X b Ls xs s s.heap) (hb : b < s.heap.size) (hA : ¬ AS (KL, lkC, ad) s.heap.size b) (hL : Ls ≤ 3072) {i : Nat} (hi : i + 6 ≤ Ls) {N : Mem} {B : Int} (H : RLe N (vw [20] N) B) (h0 : 0 ≤ B) (h1 : B + 300 < 2147483648) (hk : k + 100 ≤ room_1.cells) (hn : n + 1000 ≤ room_1.slots)
    (kk : ∀ N2 : Mem, RLe N2 (vw [20] N2) (B + 279) → WM p l e room_1 s m args below meth c G (KL, lkC, ad) 9 Q N2 (k + 100) (n + 1000) 2775 [some (.inl (.ref b)), some (rv 0 0), some (rv 20 0), some (rv 19 0), some (iv (nI i)), none, none, none, none] []) :
    WM p l e room_1 s m args below meth c G (KL, lkC, ad) 9 Q N k n 1388 [some (.inl (.ref b)), some (rv 0 0), some (rv 20 0), some (rv 19 0), some (iv (nI i)), none, none, none, none] [] := by
  obtain ⟨post, post2, hM, hR, P⟩ := pa_rained l hst G H h0 h1
  refine r_aload_n E (dat dkW_c28 0 rfl) rfl rfl ?_
  refine r_callV (κ := 8) (μ := []) E hM my_X9_rained iv_X9_rained ml_L_236 cm_LC ⟨by decide, rfl, rfl⟩ rfl rfl rfl rfl ⟨Nat.le_of_ble_eq_true rfl, Nat.le_of_ble_eq_true rfl, Nat.le_trans (Nat.add_le_add_left (Nat.le_of_ble_eq_true rfl) k) hk, Nat.le_trans (Nat.add_le_add_left (Nat.le_of_ble_eq_true rfl) n) hn⟩ (Nat.le_of_ble_eq_true rfl) (dat dkW_c28 1 rfl) ?_
  rintro r M' hp
  obtain ⟨⟨v, rfl⟩, P2⟩ := P r M' hp
  refine ⟨_, loX_m, ?_⟩
  refine r_aload_n E (dat dkW_c28 2 rfl) rfl rfl ?_
  refine r_callV (κ := 9) (μ := [20]) E (hR (vw [20] (loX N M')) rfl) my_X10_rained iv_X10_rained ml_L_239 cm_LR ⟨by decide, rfl, rfl⟩ rfl rfl rfl rfl ⟨Nat.le_of_ble_eq_true rfl, Nat.le_of_ble_eq_true rfl, Nat.le_trans (show k + 0 + 0 ≤ k + 100 by omega) hk, Nat.le_trans (show n + 0 + 0 ≤ n + 1000 by omega) hn⟩ (Nat.le_of_ble_eq_true rfl) (dat dkW_c28 3 rfl) ?_
  rintro r R' hp2
  obtain ⟨rfl, hrel⟩ := P2 _ rfl r R' hp2
  refine ⟨_, Mrg_R, ?_⟩
  refine r_icmp_eq (tgt := 2775) E (dat dkW_c28 4 rfl) rfl (fun _ => ?_) (fun h => absurd rfl h)
  refine r_wid (k2 := k + 100) (n2 := n + 1000) (by show k + 0 + 0 ≤ _; omega) (by show n + 0 + 0 ≤ _; omega) ?_
  refine r_back rfl (by simp [LW]) (kk _ (RLe_tr hrel (fun j hj => loX_lt hj) rfl))
set_option maxRecDepth 100000 in
set_option maxHeartbeats 8000000 in
theorem lb_29 {p : Program} {l : Launch} {e : Env} {s : State} {m : MethodId} {args : Array Value} {below : List Frame} {meth : Method} {c : Code} {G : GT} {ad : Nat → Nat → Nat} {Q : State → Prop} {k n : Nat} (hst : l.stackTraces = false) (E : EN p s m args meth c G (KL, lkC, ad) cL_law RL 9 (some .boolean)) {b Ls : Nat} {xs : Nat → Int32} (hX : va_X b Ls xs s s.heap) (hb : b < s.heap.size) (hA : ¬ AS (KL, lkC, ad) s.heap.size b) (hL : Ls ≤ 3072) {i : Nat} (hi : i + 6 ≤ Ls) {N : Mem} {B : Int} (H : RLe N (vw [20] N) B) (h0 : 0 ≤ B) (h1 : B + 300 < 2147483648) (hk : k + 100 ≤ room_1.cells) (hn : n + 1000 ≤ room_1.slots)
    (kk : ∀ N2 : Mem, RLe N2 (vw [20] N2) (B + 279) → WM p l e room_1 s m args below meth c G (KL, lkC, ad) 9 Q N2 (k + 100) (n + 1000) 2775 [some (.inl (.ref b)), some (rv 0 0), some (rv 20 0), some (rv 19 0), some (iv (nI i)), none, none, none, none] []) :
    WM p l e room_1 s m args below meth c G (KL, lkC, ad) 9 Q N k n 1401 [some (.inl (.ref b)), some (rv 0 0), some (rv 20 0), some (rv 19 0), some (iv (nI i)), none, none, none, none] [] := by
  obtain ⟨post, post2, hM, hR, P⟩ := pa_fromHydrants l hst G H h0 h1
  refine r_aload_n E (dat dkW_c29 0 rfl) rfl rfl ?_
  refine r_callV (κ := 8) (μ := []) E hM my_X9_fromHydrants iv_X9_fromHydrants ml_L_240 cm_LC ⟨by decide, rfl, rfl⟩ rfl rfl rfl rfl ⟨Nat.le_of_ble_eq_true rfl, Nat.le_of_ble_eq_true rfl, Nat.le_trans (Nat.add_le_add_left (Nat.le_of_ble_eq_true rfl) k) hk, Nat.le_trans (Nat.add_le_add_left (Nat.le_of_ble_eq_true rfl) n) hn⟩ (Nat.le_of_ble_eq_true rfl) (dat dkW_c29 1 rfl) ?_
  rintro r M' hp
  obtain ⟨⟨v, rfl⟩, P2⟩ := P r M' hp
  refine ⟨_, loX_m, ?_⟩
  refine r_aload_n E (dat dkW_c29 2 rfl) rfl rfl ?_
  refine r_callV (κ := 9) (μ := [20]) E (hR (vw [20] (loX N M')) rfl) my_X10_fromHydrants iv_X10_fromHydrants ml_L_243 cm_LR ⟨by decide, rfl, rfl⟩ rfl rfl rfl rfl ⟨Nat.le_of_ble_eq_true rfl, Nat.le_of_ble_eq_true rfl, Nat.le_trans (show k + 0 + 0 ≤ k + 100 by omega) hk, Nat.le_trans (show n + 0 + 0 ≤ n + 1000 by omega) hn⟩ (Nat.le_of_ble_eq_true rfl) (dat dkW_c29 3 rfl) ?_
  rintro r R' hp2
  obtain ⟨rfl, hrel⟩ := P2 _ rfl r R' hp2
  refine ⟨_, Mrg_R, ?_⟩
  refine r_icmp_eq (tgt := 2775) E (dat dkW_c29 4 rfl) rfl (fun _ => ?_) (fun h => absurd rfl h)
  refine r_wid (k2 := k + 100) (n2 := n + 1000) (by show k + 0 + 0 ≤ _; omega) (by show n + 0 + 0 ≤ _; omega) ?_
  refine r_back rfl (by simp [LW]) (kk _ (RLe_tr hrel (fun j hj => loX_lt hj) rfl))
