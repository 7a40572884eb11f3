set_option maxRecDepth 100000 in
set_option maxHeartbeats 8000000 in
theorem lb_30 {p : Program} {l : Launch} {e : Env} {s : State} {m : MethodId} {args : Array Value} {below : List Frame} {meth : Method} {c : Code} {G : GT} {ad : Nat → Nat → Nat} {Q : State → Prop} {k n : Nat} (hst : l.stackTraces = false) (E : EN p s m args meth c G (KL, lkC, ad) cL_law RL 9 (some .boolean)) {b Ls : Nat} {xs : Nat → Int32} (hX : va_X b Ls xs s s.heap) (hb : b < s.heap.size) (hA : ¬ AS (KL, lkC, ad) s.heap.size b) (hL : Ls ≤ 3072) {i : Nat} (hi : i + 6 ≤ Ls) {N : Mem} {B : Int} (H : RLe N (vw [20] N) B) (h0 : 0 ≤ B) (h1 : B + 300 < 2147483648) (hk : k + 100 ≤ room_1.cells) (hn : n + 1000 ≤ room_1.slots)
    (kk : ∀ N2 : Mem, RLe N2 (vw [20] N2) (B + 279) → WM p l e room_1 s m args below meth c G (KL, lkC, ad) 9 Q N2 (k + 100) (n + 1000) 2775 [some (.inl (.ref b)), some (rv 0 0), some (rv 20 0), some (rv 19 0), some (iv (nI i)), none, none, none, none] []) :
    WM p l e room_1 s m args below meth c G (KL, lkC, ad) 9 Q N k n 1414 [some (.inl (.ref b)), some (rv 0 0), some (rv 20 0), some (rv 19 0), some (iv (nI i)), none, none, none, none] [] := by
  obtain ⟨post, post2, hM, hR, P⟩ := pa_drained l hst G H h0 h1
  refine r_aload_n E (dat dkW_c30 0 rfl) rfl rfl ?_
  refine r_callV (κ := 8) (μ := []) E hM my_X9_drained iv_X9_drained ml_L_244 cm_LC ⟨by decide, rfl, rfl⟩ rfl rfl rfl rfl ⟨Nat.le_of_ble_eq_true rfl, Nat.le_of_ble_eq_true rfl, Nat.le_trans (Nat.add_le_add_left (Nat.le_of_ble_eq_true rfl) k) hk, Nat.le_trans (Nat.add_le_add_left (Nat.le_of_ble_eq_true rfl) n) hn⟩ (Nat.le_of_ble_eq_true rfl) (dat dkW_c30 1 rfl) ?_
  rintro r M' hp
  obtain ⟨⟨v, rfl⟩, P2⟩ := P r M' hp
  refine ⟨_, loX_m, ?_⟩
  refine r_aload_n E (dat dkW_c30 2 rfl) rfl rfl ?_
  refine r_callV (κ := 9) (μ := [20]) E (hR (vw [20] (loX N M')) rfl) my_X10_drained iv_X10_drained ml_L_247 cm_LR ⟨by decide, rfl, rfl⟩ rfl rfl rfl rfl ⟨Nat.le_of_ble_eq_true rfl, Nat.le_of_ble_eq_true rfl, Nat.le_trans (show k + 0 + 0 ≤ k + 100 by omega) hk, Nat.le_trans (show n + 0 + 0 ≤ n + 1000 by omega) hn⟩ (Nat.le_of_ble_eq_true rfl) (dat dkW_c30 3 rfl) ?_
  rintro r R' hp2
  obtain ⟨rfl, hrel⟩ := P2 _ rfl r R' hp2
  refine ⟨_, Mrg_R, ?_⟩
  refine r_icmp_eq (tgt := 2775) E (dat dkW_c30 4 rfl) rfl (fun _ => ?_) (fun h => absurd rfl h)
  refine r_wid (k2 := k + 100) (n2 := n + 1000) (by show k + 0 + 0 ≤ _; omega) (by show n + 0 + 0 ≤ _; omega) ?_
  refine r_back rfl (by simp [LW]) (kk _ (RLe_tr hrel (fun j hj => loX_lt hj) rfl))
set_option maxRecDepth 100000 in
set_option maxHeartbeats 8000000 in
theorem lb_31 {p : Program} {l : Launch} {e : Env} {s : State} {m : MethodId} {args : Array Value} {below : List Frame} {meth : Method} {c : Code} {G : GT} {ad : Nat → Nat → Nat} {Q : State → Prop} {k n : Nat} (hst : l.stackTraces = false) (E : EN p s m args meth c G (KL, lkC, ad) cL_law RL 9 (some .boolean)) {b Ls : Nat} {xs : Nat → Int32} (hX : va_X b Ls xs s s.heap) (hb : b < s.heap.size) (hA : ¬ AS (KL, lkC, ad) s.heap.size b) (hL : Ls ≤ 3072) {i : Nat} (hi : i + 6 ≤ Ls) {N : Mem} {B : Int} (H : RLe N (vw [20] N) B) (h0 : 0 ≤ B) (h1 : B + 300 < 2147483648) (hk : k + 100 ≤ room_1.cells) (hn : n + 1000 ≤ room_1.slots)
    (kk : ∀ N2 : Mem, RLe N2 (vw [20] N2) (B + 279) → WM p l e room_1 s m args below meth c G (KL, lkC, ad) 9 Q N2 (k + 100) (n + 1000) 2775 [some (.inl (.ref b)), some (rv 0 0), some (rv 20 0), some (rv 19 0), some (iv (nI i)), none, none, none, none] []) :
    WM p l e room_1 s m args below meth c G (KL, lkC, ad) 9 Q N k n 1427 [some (.inl (.ref b)), some (rv 0 0), some (rv 20 0), some (rv 19 0), some (iv (nI i)), none, none, none, none] [] := by
  obtain ⟨post, post2, hM, hR, P⟩ := pa_evaporated l hst G H h0 h1
  refine r_aload_n E (dat dkW_c31 0 rfl) rfl rfl ?_
  refine r_callV (κ := 8) (μ := []) E hM my_X9_evaporated iv_X9_evaporated ml_L_248 cm_LC ⟨by decide, rfl, rfl⟩ rfl rfl rfl rfl ⟨Nat.le_of_ble_eq_true rfl, Nat.le_of_ble_eq_true rfl, Nat.le_trans (Nat.add_le_add_left (Nat.le_of_ble_eq_true rfl) k) hk, Nat.le_trans (Nat.add_le_add_left (Nat.le_of_ble_eq_true rfl) n) hn⟩ (Nat.le_of_ble_eq_true rfl) (dat dkW_c31 1 rfl) ?_
  rintro r M' hp
  obtain ⟨⟨v, rfl⟩, P2⟩ := P r M' hp
  refine ⟨_, loX_m, ?_⟩
  refine r_aload_n E (dat dkW_c31 2 rfl) rfl rfl ?_
  refine r_callV (κ := 9) (μ := [20]) E (hR (vw [20] (loX N M')) rfl) my_X10_evaporated iv_X10_evaporated ml_L_251 cm_LR ⟨by decide, rfl, rfl⟩ rfl rfl rfl rfl ⟨Nat.le_of_ble_eq_true rfl, Nat.le_of_ble_eq_true rfl, Nat.le_trans (show k + 0 + 0 ≤ k + 100 by omega) hk, Nat.le_trans (show n + 0 + 0 ≤ n + 1000 by omega) hn⟩ (Nat.le_of_ble_eq_true rfl) (dat dkW_c31 3 rfl) ?_
  rintro r R' hp2
  obtain ⟨rfl, hrel⟩ := P2 _ rfl r R' hp2
  refine ⟨_, Mrg_R, ?_⟩
  refine r_icmp_eq (tgt := 2775) E (dat dkW_c31 4 rfl) rfl (fun _ => ?_) (fun h => absurd rfl h)
  refine r_wid (k2 := k + 100) (n2 := n + 1000) (by show k + 0 + 0 ≤ _; omega) (by show n + 0 + 0 ≤ _; omega) ?_
  refine r_back rfl (by simp [LW]) (kk _ (RLe_tr hrel (fun j hj => loX_lt hj) rfl))
set_option maxRecDepth 100000 in
set_option maxHeartbeats 8000000 in
theorem lb_32 {p : Program} {l : Launch} {e : Env} {s : State} {m : MethodId} {args : Array Value} {below : List Frame} {meth : Method} {c : Code} {G : GT} {ad : Nat → Nat → Nat} {Q : State → Prop} {k n : Nat} (hst : l.stackTraces = false) (E : EN p s m args meth c G (KL, lkC, ad) cL_law RL 9 (some .boolean)) {b Ls : Nat} {xs : Nat → Int32} (hX : va_X b Ls xs s s.heap) (hb : b < s.heap.size) (hA : ¬ AS (KL, lkC, ad) s.heap.size b) (hL : Ls ≤ 3072) {i : Nat} (hi : i + 6 ≤ Ls) {N : Mem} {B : Int} (H : RLe N (vw [20] N) B) (h0 : 0 ≤ B) (h1 : B + 300 < 2147483648) (hk : k + 100 ≤ room_1.cells) (hn : n + 1000 ≤ room_1.slots)
    (kk : ∀ N2 : Mem, RLe N2 (vw [20] N2) (B + 279) → WM p l e room_1 s m args below meth c G (KL, lkC, ad) 9 Q N2 (k + 100) (n + 1000) 2775 [some (.inl (.ref b)), some (rv 0 0), some (rv 20 0), some (rv 19 0), some (iv (nI i)), none, none, none, none] []) :
    WM p l e room_1 s m args below meth c G (KL, lkC, ad) 9 Q N k n 1440 [some (.inl (.ref b)), some (rv 0 0), some (rv 20 0), some (rv 19 0), some (iv (nI i)), none, none, none, none] [] := by
  obtain ⟨post, post2, hM, hR, P⟩ := pa_bootsCount l hst G H h0 h1
  refine r_aload_n E (dat dkW_c32 0 rfl) rfl rfl ?_
  refine r_callV (κ := 8) (μ := []) E hM my_X9_bootsCount iv_X9_bootsCount ml_L_252 cm_LC ⟨by decide, rfl, rfl⟩ rfl rfl rfl rfl ⟨Nat.le_of_ble_eq_true rfl, Nat.le_of_ble_eq_true rfl, Nat.le_trans (Nat.add_le_add_left (Nat.le_of_ble_eq_true rfl) k) hk, Nat.le_trans (Nat.add_le_add_left (Nat.le_of_ble_eq_true rfl) n) hn⟩ (Nat.le_of_ble_eq_true rfl) (dat dkW_c32 1 rfl) ?_
  rintro r M' hp
  obtain ⟨⟨v, rfl⟩, P2⟩ := P r M' hp
  refine ⟨_, loX_m, ?_⟩
  refine r_aload_n E (dat dkW_c32 2 rfl) rfl rfl ?_
  refine r_callV (κ := 9) (μ := [20]) E (hR (vw [20] (loX N M')) rfl) my_X10_bootsCount iv_X10_bootsCount ml_L_255 cm_LR ⟨by decide, rfl, rfl⟩ rfl rfl rfl rfl ⟨Nat.le_of_ble_eq_true rfl, Nat.le_of_ble_eq_true rfl, Nat.le_trans (show k + 0 + 0 ≤ k + 100 by omega) hk, Nat.le_trans (show n + 0 + 0 ≤ n + 1000 by omega) hn⟩ (Nat.le_of_ble_eq_true rfl) (dat dkW_c32 3 rfl) ?_
  rintro r R' hp2
  obtain ⟨rfl, hrel⟩ := P2 _ rfl r R' hp2
  refine ⟨_, Mrg_R, ?_⟩
  refine r_icmp_eq (tgt := 2775) E (dat dkW_c32 4 rfl) rfl (fun _ => ?_) (fun h => absurd rfl h)
  refine r_wid (k2 := k + 100) (n2 := n + 1000) (by show k + 0 + 0 ≤ _; omega) (by show n + 0 + 0 ≤ _; omega) ?_
  refine r_back rfl (by simp [LW]) (kk _ (RLe_tr hrel (fun j hj => loX_lt hj) rfl))
set_option maxRecDepth 100000 in
set_option maxHeartbeats 8000000 in
theorem lb_33 {p : Program} {l : Launch} {e : Env} {s : State} {m : MethodId} {args : Array Value} {below : List Frame} {meth : Method} {c : Code} {G : GT} {ad : Nat → Nat → Nat} {Q : State → Prop} {k n : Nat} (hst : l.stackTraces = false) (E : EN p s m args meth c G (KL, lkC, ad) cL_law RL 9 (some .boolean)) {b Ls : Nat} {xs : Nat → Int32} (hX : va_X b Ls xs s s.heap) (hb : b < s.heap.size) (hA : ¬ AS (KL, lkC, ad) s.heap.size b) (hL : Ls ≤ 3072) {i : Nat} (hi : i + 6 ≤ Ls) {N : Mem} {B : Int} (H : RLe N (vw [20] N) B) (h0 : 0 ≤ B) (h1 : B + 300 < 2147483648) (hk : k + 100 ≤ room_1.cells) (hn : n + 1000 ≤ room_1.slots)
    (kk : ∀ N2 : Mem, RLe N2 (vw [20] N2) (B + 279) → WM p l e room_1 s m args below meth c G (KL, lkC, ad) 9 Q N2 (k + 100) (n + 1000) 2775 [some (.inl (.ref b)), some (rv 0 0), some (rv 20 0), some (rv 19 0), some (iv (nI i)), none, none, none, none] []) :
    WM p l e room_1 s m args below meth c G (KL, lkC, ad) 9 Q N k n 1453 [some (.inl (.ref b)), some (rv 0 0), some (rv 20 0), some (rv 19 0), some (iv (nI i)), none, none, none, none] [] := by
  obtain ⟨post, XP, post2, hM, hR, hr, hE, P1, P2⟩ := pa_nameByte l hst G H h0 h1 (xs (i + 1)) (xs (i + 2))
  refine r_aload_n E (dat dkW_c33 0 rfl) rfl rfl ?_
  refine r_aldX E (dat dkW_c33 1 rfl) rfl rfl ?_
  refine r_iload E (dat dkW_c33 2 rfl) rfl ?_
  refine r_iconst (v := 1) E (dat dkW_c33 3 rfl) rfl ?_
  refine r_iadd E (dat dkW_c33 4 rfl) ?_
  refine r_sld E hX hb hA hL (nI_add i 1) (show i + 1 < Ls by omega) (dat dkW_c33 5 rfl) ?_
  refine r_aldX E (dat dkW_c33 6 rfl) rfl rfl ?_
  refine r_iload E (dat dkW_c33 7 rfl) rfl ?_
  refine r_iconst (v := 2) E (dat dkW_c33 8 rfl) rfl ?_
  refine r_iadd E (dat dkW_c33 9 rfl) ?_
  refine r_sld E hX hb hA hL (nI_add i 2) (show i + 2 < Ls by omega) (dat dkW_c33 10 rfl) ?_
  refine r_aload_n E (dat dkW_c33 11 rfl) rfl rfl ?_
  refine r_callSW (N := 4) (μ := []) E (sp_L_nameByte l G (xs (i + 1)) (xs (i + 2)) N post XP hM hr (fun Ex M' h => by simpa using hE Ex M' h)) ini_L (bg_5 45 (by decide +kernel)) ⟨by decide +kernel, by decide +kernel, by decide +kernel⟩ (bg_5 44 (by decide +kernel)) ml_L_256 cm_LO rfl rfl ⟨Nat.le_of_ble_eq_true rfl, Nat.le_of_ble_eq_true rfl, Nat.le_trans (Nat.add_le_add_left (Nat.le_of_ble_eq_true rfl) k) hk, Nat.le_trans (Nat.add_le_add_left (Nat.le_of_ble_eq_true rfl) n) hn⟩ (Nat.le_of_ble_eq_true rfl) (dat dkW_c33 12 rfl) ?_
  rintro r M9 (⟨v, M', hp, rfl, rfl⟩ | ⟨M', hp, rfl, rfl⟩)
  ·
    refine ⟨_, loV_m, ?_⟩
    refine r_istore_5 E (dat dkW_c33 13 rfl) rfl rfl ?_
    refine r_aload_n E (dat dkW_c33 14 rfl) rfl rfl ?_
    refine r_aldX E (dat dkW_c33 15 rfl) rfl rfl ?_
    refine r_iload E (dat dkW_c33 16 rfl) rfl ?_
    refine r_iconst (v := 1) E (dat dkW_c33 17 rfl) rfl ?_
    refine r_iadd E (dat dkW_c33 18 rfl) ?_
    refine r_sld E hX hb hA hL (nI_add i 1) (show i + 1 < Ls by omega) (dat dkW_c33 19 rfl) ?_
    refine r_aldX E (dat dkW_c33 20 rfl) rfl rfl ?_
    refine r_iload E (dat dkW_c33 21 rfl) rfl ?_
    refine r_iconst (v := 2) E (dat dkW_c33 22 rfl) rfl ?_
    refine r_iadd E (dat dkW_c33 23 rfl) ?_
    refine r_sld E hX hb hA hL (nI_add i 2) (show i + 2 < Ls by omega) (dat dkW_c33 24 rfl) ?_
    refine r_callV (κ := 9) (μ := [20]) E (hR (vw [20] (loV N M' v)) rfl) my_X10_nameByte iv_X10_nameByte ml_L_258 cm_LR ⟨by decide, rfl, rfl⟩ rfl rfl rfl rfl ⟨Nat.le_of_ble_eq_true rfl, Nat.le_of_ble_eq_true rfl, Nat.le_trans (show k + 8 + 0 ≤ k + 100 by omega) hk, Nat.le_trans (show n + 48 + 0 ≤ n + 1000 by omega) hn⟩ (Nat.le_of_ble_eq_true rfl) (dat dkW_c33 25 rfl) ?_
    rintro r R' hp2
    obtain ⟨rfl, ht, hrel⟩ := P1 v M' hp _ rfl r R' hp2
    refine ⟨_, Mrg_R, ?_⟩
    refine r_istore_6 E (dat dkW_c33 26 rfl) rfl rfl ?_
    refine r_aload_n E (dat dkW_c33 27 rfl) rfl rfl ?_
    refine r_callV (κ := 9) (μ := [20]) E (sp_X10_thrown l G _) my_X10_thrown iv_X10_thrown ml_L_178 cm_LR ⟨by decide, rfl, rfl⟩ rfl rfl rfl rfl ⟨Nat.le_of_ble_eq_true rfl, Nat.le_of_ble_eq_true rfl, Nat.le_trans (show k + 8 + 0 + 0 ≤ k + 100 by omega) hk, Nat.le_trans (show n + 48 + 0 + 0 ≤ n + 1000 by omega) hn⟩ (Nat.le_of_ble_eq_true rfl) (dat dkW_c33 28 rfl) ?_
    rintro _ _ ⟨rfl, rfl⟩
    refine ⟨_, Mrg_T, ?_⟩
    refine r_topE (show vw [20] (setm (loV N M' v) 20 (R' 0)) 0 0 6 = 0 from ht) ?_
    refine r_iload E (dat dkW_c33 29 rfl) rfl ?_
    refine r_icmp_eq (tgt := 1501) E (dat dkW_c33 30 rfl) rfl (fun _ => ?_) (fun h => absurd rfl h)
    refine r_iload E (dat dkW_c33 33 rfl) rfl ?_
    refine r_if_ne (tgt := 1518) E (dat dkW_c33 34 rfl) rfl (fun h => absurd rfl h) (fun _ => ?_)
    refine r_aload_n E (dat dkW_c33 35 rfl) rfl rfl ?_
    refine r_iconst (v := 0) E (dat dkW_c33 36 rfl) rfl ?_
    refine r_lald (N := 1) E (dat dkW_c33 37 rfl) rfl rfl (by unfold vp_in; decide) ?_
    refine r_iload E (dat dkW_c33 38 rfl) rfl ?_
    refine r_i2l E (dat dkW_c33 39 rfl) ?_
    refine r_lcmp E (dat dkW_c33 40 rfl) ?_
    refine r_if_eq (tgt := 1518) E (dat dkW_c33 41 rfl) rfl (fun _ => ?_) (fun h9 => absurd (lg_self v.toInt64) h9)
    refine r_goto (tgt := 2775) E (dat dkW_c33 44 rfl) rfl ?_
    refine r_wid (k2 := k + 100) (n2 := n + 1000) (by show k + 8 + 0 + 0 ≤ _; omega) (by show n + 48 + 0 + 0 ≤ _; omega) ?_
    refine r_back rfl (by simp [LW]) (kk _ (RLe_tr hrel (fun j hj => loV_lt hj) rfl))
  ·
    refine ⟨_, loX_m2, ?_⟩
    refine r_istore_5 E (dat dkW_c33 13 rfl) rfl rfl ?_
    refine r_aload_n E (dat dkW_c33 14 rfl) rfl rfl ?_
    refine r_aldX E (dat dkW_c33 15 rfl) rfl rfl ?_
    refine r_iload E (dat dkW_c33 16 rfl) rfl ?_
    refine r_iconst (v := 1) E (dat dkW_c33 17 rfl) rfl ?_
    refine r_iadd E (dat dkW_c33 18 rfl) ?_
    refine r_sld E hX hb hA hL (nI_add i 1) (show i + 1 < Ls by omega) (dat dkW_c33 19 rfl) ?_
    refine r_aldX E (dat dkW_c33 20 rfl) rfl rfl ?_
    refine r_iload E (dat dkW_c33 21 rfl) rfl ?_
    refine r_iconst (v := 2) E (dat dkW_c33 22 rfl) rfl ?_
    refine r_iadd E (dat dkW_c33 23 rfl) ?_
    refine r_sld E hX hb hA hL (nI_add i 2) (show i + 2 < Ls by omega) (dat dkW_c33 24 rfl) ?_
    refine r_callV (κ := 9) (μ := [20]) E (hR (vw [20] (loX N M')) rfl) my_X10_nameByte iv_X10_nameByte ml_L_258 cm_LR ⟨by decide, rfl, rfl⟩ rfl rfl rfl rfl ⟨Nat.le_of_ble_eq_true rfl, Nat.le_of_ble_eq_true rfl, Nat.le_trans (show k + 8 + 0 ≤ k + 100 by omega) hk, Nat.le_trans (show n + 48 + 0 ≤ n + 1000 by omega) hn⟩ (Nat.le_of_ble_eq_true rfl) (dat dkW_c33 25 rfl) ?_
    rintro r R' hp2
    obtain ⟨⟨bv, rfl⟩, ht, hrel⟩ := P2 0 oobN M' rfl hp _ rfl r R' hp2
    refine ⟨_, Mrg_R, ?_⟩
    refine r_istore_6 E (dat dkW_c33 26 rfl) rfl rfl ?_
    refine r_aload_n E (dat dkW_c33 27 rfl) rfl rfl ?_
    refine r_callV (κ := 9) (μ := [20]) E (sp_X10_thrown l G _) my_X10_thrown iv_X10_thrown ml_L_178 cm_LR ⟨by decide, rfl, rfl⟩ rfl rfl rfl rfl ⟨Nat.le_of_ble_eq_true rfl, Nat.le_of_ble_eq_true rfl, Nat.le_trans (show k + 8 + 0 + 0 ≤ k + 100 by omega) hk, Nat.le_trans (show n + 48 + 0 + 0 ≤ n + 1000 by omega) hn⟩ (Nat.le_of_ble_eq_true rfl) (dat dkW_c33 28 rfl) ?_
    rintro _ _ ⟨rfl, rfl⟩
    refine ⟨_, Mrg_T, ?_⟩
    refine r_topE (show vw [20] (setm (loX N M') 20 (R' 0)) 0 0 6 = nI (0 + 1) from ht) ?_
    refine r_iload E (dat dkW_c33 29 rfl) rfl ?_
    refine r_icmp_eq (tgt := 1501) E (dat dkW_c33 30 rfl) rfl (fun _ => ?_) (fun h => absurd rfl h)
    refine r_iload E (dat dkW_c33 33 rfl) rfl ?_
    refine r_if_ne (tgt := 1518) E (dat dkW_c33 34 rfl) rfl (fun _ => ?_) (fun h => absurd h (by decide))
    refine r_goto (tgt := 2775) E (dat dkW_c33 44 rfl) rfl ?_
    refine r_wid (k2 := k + 100) (n2 := n + 1000) (by show k + 8 + 0 + 0 ≤ _; omega) (by show n + 48 + 0 + 0 ≤ _; omega) ?_
    refine r_back rfl (by simp [LW]) (kk _ (RLe_tr hrel (fun j hj => loX_lt hj) rfl))
set_option maxRecDepth 100000 in
set_option maxHeartbeats 8000000 in
theorem lb_34 {p : Program} {l : Launch} {e : Env} {s : State} {m : MethodId} {args : Array Value} {below : List Frame} {meth : Method} {c : Code} {G : GT} {ad : Nat → Nat → Nat} {Q : State → Prop} {k n : Nat} (hst : l.stackTraces = false) (E : EN p s m args meth c G (KL, lkC, ad) cL_law RL 9 (some .boolean)) {b Ls : Nat} {xs : Nat → Int32} (hX : va_X b Ls xs s s.heap) (hb : b < s.heap.size) (hA : ¬ AS (KL, lkC, ad) s.heap.size b) (hL : Ls ≤ 3072) {i : Nat} (hi : i + 6 ≤ Ls) {N : Mem} {B : Int} (H : RLe N (vw [20] N) B) (h0 : 0 ≤ B) (h1 : B + 300 < 2147483648) (hk : k + 100 ≤ room_1.cells) (hn : n + 1000 ≤ room_1.slots)
    (kk : ∀ N2 : Mem, RLe N2 (vw [20] N2) (B + 279) → WM p l e room_1 s m args below meth c G (KL, lkC, ad) 9 Q N2 (k + 100) (n + 1000) 2775 [some (.inl (.ref b)), some (rv 0 0), some (rv 20 0), some (rv 19 0), some (iv (nI i)), none, none, none, none] []) :
    WM p l e room_1 s m args below meth c G (KL, lkC, ad) 9 Q N k n 1521 [some (.inl (.ref b)), some (rv 0 0), some (rv 20 0), some (rv 19 0), some (iv (nI i)), none, none, none, none] [] := by
  obtain ⟨post, XP, post2, hM, hR, hr, hE, P1, P2⟩ := pa_placeOf l hst G H h0 h1 (xs (i + 1))
  refine r_aload_n E (dat dkW_c34 0 rfl) rfl rfl ?_
  refine r_aldX E (dat dkW_c34 1 rfl) rfl rfl ?_
  refine r_iload E (dat dkW_c34 2 rfl) rfl ?_
  refine r_iconst (v := 1) E (dat dkW_c34 3 rfl) rfl ?_
  refine r_iadd E (dat dkW_c34 4 rfl) ?_
  refine r_sld E hX hb hA hL (nI_add i 1) (show i + 1 < Ls by omega) (dat dkW_c34 5 rfl) ?_
  refine r_aload_n E (dat dkW_c34 6 rfl) rfl rfl ?_
  refine r_callSW (N := 3) (μ := []) E (sp_L_placeOf l G (xs (i + 1)) N post XP hM hr (fun Ex M' h => by simpa using hE Ex M' h)) ini_L (bg_5 57 (by decide +kernel)) ⟨by decide +kernel, by decide +kernel, by decide +kernel⟩ (bg_5 56 (by decide +kernel)) ml_L_259 cm_LO rfl rfl ⟨Nat.le_of_ble_eq_true rfl, Nat.le_of_ble_eq_true rfl, Nat.le_trans (Nat.add_le_add_left (Nat.le_of_ble_eq_true rfl) k) hk, Nat.le_trans (Nat.add_le_add_left (Nat.le_of_ble_eq_true rfl) n) hn⟩ (Nat.le_of_ble_eq_true rfl) (dat dkW_c34 7 rfl) ?_
  rintro r M9 (⟨v, M', hp, rfl, rfl⟩ | ⟨M', hp, rfl, rfl⟩)
  ·
    refine ⟨_, loV_m, ?_⟩
    refine r_istore_5 E (dat dkW_c34 8 rfl) rfl rfl ?_
    refine r_aload_n E (dat dkW_c34 9 rfl) rfl rfl ?_
    refine r_aldX E (dat dkW_c34 10 rfl) rfl rfl ?_
    refine r_iload E (dat dkW_c34 11 rfl) rfl ?_
    refine r_iconst (v := 1) E (dat dkW_c34 12 rfl) rfl ?_
    refine r_iadd E (dat dkW_c34 13 rfl) ?_
    refine r_sld E hX hb hA hL (nI_add i 1) (show i + 1 < Ls by omega) (dat dkW_c34 14 rfl) ?_
    refine r_callV (κ := 9) (μ := [20]) E (hR (vw [20] (loV N M' v)) rfl) my_X10_placeOf iv_X10_placeOf ml_L_261 cm_LR ⟨by decide, rfl, rfl⟩ rfl rfl rfl rfl ⟨Nat.le_of_ble_eq_true rfl, Nat.le_of_ble_eq_true rfl, Nat.le_trans (show k + 8 + 0 ≤ k + 100 by omega) hk, Nat.le_trans (show n + 48 + 0 ≤ n + 1000 by omega) hn⟩ (Nat.le_of_ble_eq_true rfl) (dat dkW_c34 15 rfl) ?_
    rintro r R' hp2
    obtain ⟨rfl, ht, hrel⟩ := P1 v M' hp _ rfl r R' hp2
    refine ⟨_, Mrg_R, ?_⟩
    refine r_istore_6 E (dat dkW_c34 16 rfl) rfl rfl ?_
    refine r_aload_n E (dat dkW_c34 17 rfl) rfl rfl ?_
    refine r_callV (κ := 9) (μ := [20]) E (sp_X10_thrown l G _) my_X10_thrown iv_X10_thrown ml_L_178 cm_LR ⟨by decide, rfl, rfl⟩ rfl rfl rfl rfl ⟨Nat.le_of_ble_eq_true rfl, Nat.le_of_ble_eq_true rfl, Nat.le_trans (show k + 8 + 0 + 0 ≤ k + 100 by omega) hk, Nat.le_trans (show n + 48 + 0 + 0 ≤ n + 1000 by omega) hn⟩ (Nat.le_of_ble_eq_true rfl) (dat dkW_c34 18 rfl) ?_
    rintro _ _ ⟨rfl, rfl⟩
    refine ⟨_, Mrg_T, ?_⟩
    refine r_topE (show vw [20] (setm (loV N M' v) 20 (R' 0)) 0 0 6 = 0 from ht) ?_
    refine r_iload E (dat dkW_c34 19 rfl) rfl ?_
    refine r_icmp_eq (tgt := 1557) E (dat dkW_c34 20 rfl) rfl (fun _ => ?_) (fun h => absurd rfl h)
    refine r_iload E (dat dkW_c34 23 rfl) rfl ?_
    refine r_if_ne (tgt := 1574) E (dat dkW_c34 24 rfl) rfl (fun h => absurd rfl h) (fun _ => ?_)
    refine r_aload_n E (dat dkW_c34 25 rfl) rfl rfl ?_
    refine r_iconst (v := 0) E (dat dkW_c34 26 rfl) rfl ?_
    refine r_lald (N := 1) E (dat dkW_c34 27 rfl) rfl rfl (by unfold vp_in; decide) ?_
    refine r_iload E (dat dkW_c34 28 rfl) rfl ?_
    refine r_i2l E (dat dkW_c34 29 rfl) ?_
    refine r_lcmp E (dat dkW_c34 30 rfl) ?_
    refine r_if_eq (tgt := 1574) E (dat dkW_c34 31 rfl) rfl (fun _ => ?_) (fun h9 => absurd (lg_self v.toInt64) h9)
    refine r_goto (tgt := 2775) E (dat dkW_c34 34 rfl) rfl ?_
    refine r_wid (k2 := k + 100) (n2 := n + 1000) (by show k + 8 + 0 + 0 ≤ _; omega) (by show n + 48 + 0 + 0 ≤ _; omega) ?_
    refine r_back rfl (by simp [LW]) (kk _ (RLe_tr hrel (fun j hj => loV_lt hj) rfl))
  ·
    refine ⟨_, loX_m2, ?_⟩
    refine r_istore_5 E (dat dkW_c34 8 rfl) rfl rfl ?_
    refine r_aload_n E (dat dkW_c34 9 rfl) rfl rfl ?_
    refine r_aldX E (dat dkW_c34 10 rfl) rfl rfl ?_
    refine r_iload E (dat dkW_c34 11 rfl) rfl ?_
    refine r_iconst (v := 1) E (dat dkW_c34 12 rfl) rfl ?_
    refine r_iadd E (dat dkW_c34 13 rfl) ?_
    refine r_sld E hX hb hA hL (nI_add i 1) (show i + 1 < Ls by omega) (dat dkW_c34 14 rfl) ?_
    refine r_callV (κ := 9) (μ := [20]) E (hR (vw [20] (loX N M')) rfl) my_X10_placeOf iv_X10_placeOf ml_L_261 cm_LR ⟨by decide, rfl, rfl⟩ rfl rfl rfl rfl ⟨Nat.le_of_ble_eq_true rfl, Nat.le_of_ble_eq_true rfl, Nat.le_trans (show k + 8 + 0 ≤ k + 100 by omega) hk, Nat.le_trans (show n + 48 + 0 ≤ n + 1000 by omega) hn⟩ (Nat.le_of_ble_eq_true rfl) (dat dkW_c34 15 rfl) ?_
    rintro r R' hp2
    obtain ⟨⟨bv, rfl⟩, ht, hrel⟩ := P2 0 oobN M' rfl hp _ rfl r R' hp2
    refine ⟨_, Mrg_R, ?_⟩
    refine r_istore_6 E (dat dkW_c34 16 rfl) rfl rfl ?_
    refine r_aload_n E (dat dkW_c34 17 rfl) rfl rfl ?_
    refine r_callV (κ := 9) (μ := [20]) E (sp_X10_thrown l G _) my_X10_thrown iv_X10_thrown ml_L_178 cm_LR ⟨by decide, rfl, rfl⟩ rfl rfl rfl rfl ⟨Nat.le_of_ble_eq_true rfl, Nat.le_of_ble_eq_true rfl, Nat.le_trans (show k + 8 + 0 + 0 ≤ k + 100 by omega) hk, Nat.le_trans (show n + 48 + 0 + 0 ≤ n + 1000 by omega) hn⟩ (Nat.le_of_ble_eq_true rfl) (dat dkW_c34 18 rfl) ?_
    rintro _ _ ⟨rfl, rfl⟩
    refine ⟨_, Mrg_T, ?_⟩
    refine r_topE (show vw [20] (setm (loX N M') 20 (R' 0)) 0 0 6 = nI (0 + 1) from ht) ?_
    refine r_iload E (dat dkW_c34 19 rfl) rfl ?_
    refine r_icmp_eq (tgt := 1557) E (dat dkW_c34 20 rfl) rfl (fun _ => ?_) (fun h => absurd rfl h)
    refine r_iload E (dat dkW_c34 23 rfl) rfl ?_
    refine r_if_ne (tgt := 1574) E (dat dkW_c34 24 rfl) rfl (fun _ => ?_) (fun h => absurd h (by decide))
    refine r_goto (tgt := 2775) E (dat dkW_c34 34 rfl) rfl ?_
    refine r_wid (k2 := k + 100) (n2 := n + 1000) (by show k + 8 + 0 + 0 ≤ _; omega) (by show n + 48 + 0 + 0 ≤ _; omega) ?_
    refine r_back rfl (by simp [LW]) (kk _ (RLe_tr hrel (fun j hj => loX_lt hj) rfl))
set_option maxRecDepth 100000 in
set_option maxHeartbeats 8000000 in
theorem lb_35 {p : Program} {l : Launch} {e : Env} {s : State} {m : MethodId} {args : Array Value} {below : List Frame} {meth : Method} {c : Code} {G : GT} {ad : Nat → Nat → Nat} {Q : State → Prop} {k n : Nat} (hst : l.stackTraces = false) (E : EN p s m args meth c G (KL, lkC, ad) cL_law RL 9 (some .boolean)) {b Ls : Nat} {xs : Nat → Int32} (hX : va_X b Ls xs s s.heap) (hb : b < s.heap.size) (hA : ¬ AS (KL, lkC, ad) s.heap.size b) (hL : Ls ≤ 3072) {i : Nat} (hi : i + 6 ≤ Ls) {N : Mem} {B : Int} (H : RLe N (vw [20] N) B) (h0 : 0 ≤ B) (h1 : B + 300 < 2147483648) (hk : k + 100 ≤ room_1.cells) (hn : n + 1000 ≤ room_1.slots)
    (kk : ∀ N2 : Mem, RLe N2 (vw [20] N2) (B + 279) → WM p l e room_1 s m args below meth c G (KL, lkC, ad) 9 Q N2 (k + 100) (n + 1000) 2775 [some (.inl (.ref b)), some (rv 0 0), some (rv 20 0), some (rv 19 0), some (iv (nI i)), none, none, none, none] []) :
    WM p l e room_1 s m args below meth c G (KL, lkC, ad) 9 Q N k n 1577 [some (.inl (.ref b)), some (rv 0 0), some (rv 20 0), some (rv 19 0), some (iv (nI i)), none, none, none, none] [] := by
  obtain ⟨post, XP, post2, hM, hR, hr, hE, P1, P2⟩ := pa_bootHeight l hst G H h0 h1 (xs (i + 1))
  refine r_aload_n E (dat dkW_c35 0 rfl) rfl rfl ?_
  refine r_aldX E (dat dkW_c35 1 rfl) rfl rfl ?_
  refine r_iload E (dat dkW_c35 2 rfl) rfl ?_
  refine r_iconst (v := 1) E (dat dkW_c35 3 rfl) rfl ?_
  refine r_iadd E (dat dkW_c35 4 rfl) ?_
  refine r_sld E hX hb hA hL (nI_add i 1) (show i + 1 < Ls by omega) (dat dkW_c35 5 rfl) ?_
  refine r_aload_n E (dat dkW_c35 6 rfl) rfl rfl ?_
  refine r_callSW (N := 3) (μ := []) E (sp_L_bootHeight l G (xs (i + 1)) N post XP hM hr (fun Ex M' h => by simpa using hE Ex M' h)) ini_L (bg_5 64 (by decide +kernel)) ⟨by decide +kernel, by decide +kernel, by decide +kernel⟩ (bg_5 63 (by decide +kernel)) ml_L_262 cm_LO rfl rfl ⟨Nat.le_of_ble_eq_true rfl, Nat.le_of_ble_eq_true rfl, Nat.le_trans (Nat.add_le_add_left (Nat.le_of_ble_eq_true rfl) k) hk, Nat.le_trans (Nat.add_le_add_left (Nat.le_of_ble_eq_true rfl) n) hn⟩ (Nat.le_of_ble_eq_true rfl) (dat dkW_c35 7 rfl) ?_
  rintro r M9 (⟨v, M', hp, rfl, rfl⟩ | ⟨M', hp, rfl, rfl⟩)
  ·
    refine ⟨_, loV_m, ?_⟩
    refine r_istore_5 E (dat dkW_c35 8 rfl) rfl rfl ?_
    refine r_aload_n E (dat dkW_c35 9 rfl) rfl rfl ?_
    refine r_aldX E (dat dkW_c35 10 rfl) rfl rfl ?_
    refine r_iload E (dat dkW_c35 11 rfl) rfl ?_
    refine r_iconst (v := 1) E (dat dkW_c35 12 rfl) rfl ?_
    refine r_iadd E (dat dkW_c35 13 rfl) ?_
    refine r_sld E hX hb hA hL (nI_add i 1) (show i + 1 < Ls by omega) (dat dkW_c35 14 rfl) ?_
    refine r_callV (κ := 9) (μ := [20]) E (hR (vw [20] (loV N M' v)) rfl) my_X10_bootHeight iv_X10_bootHeight ml_L_264 cm_LR ⟨by decide, rfl, rfl⟩ rfl rfl rfl rfl ⟨Nat.le_of_ble_eq_true rfl, Nat.le_of_ble_eq_true rfl, Nat.le_trans (show k + 8 + 0 ≤ k + 100 by omega) hk, Nat.le_trans (show n + 48 + 0 ≤ n + 1000 by omega) hn⟩ (Nat.le_of_ble_eq_true rfl) (dat dkW_c35 15 rfl) ?_
    rintro r R' hp2
    obtain ⟨rfl, ht, hrel⟩ := P1 v M' hp _ rfl r R' hp2
    refine ⟨_, Mrg_R, ?_⟩
    refine r_istore_6 E (dat dkW_c35 16 rfl) rfl rfl ?_
    refine r_aload_n E (dat dkW_c35 17 rfl) rfl rfl ?_
    refine r_callV (κ := 9) (μ := [20]) E (sp_X10_thrown l G _) my_X10_thrown iv_X10_thrown ml_L_178 cm_LR ⟨by decide, rfl, rfl⟩ rfl rfl rfl rfl ⟨Nat.le_of_ble_eq_true rfl, Nat.le_of_ble_eq_true rfl, Nat.le_trans (show k + 8 + 0 + 0 ≤ k + 100 by omega) hk, Nat.le_trans (show n + 48 + 0 + 0 ≤ n + 1000 by omega) hn⟩ (Nat.le_of_ble_eq_true rfl) (dat dkW_c35 18 rfl) ?_
    rintro _ _ ⟨rfl, rfl⟩
    refine ⟨_, Mrg_T, ?_⟩
    refine r_topE (show vw [20] (setm (loV N M' v) 20 (R' 0)) 0 0 6 = 0 from ht) ?_
    refine r_iload E (dat dkW_c35 19 rfl) rfl ?_
    refine r_icmp_eq (tgt := 1613) E (dat dkW_c35 20 rfl) rfl (fun _ => ?_) (fun h => absurd rfl h)
    refine r_iload E (dat dkW_c35 23 rfl) rfl ?_
    refine r_if_ne (tgt := 1630) E (dat dkW_c35 24 rfl) rfl (fun h => absurd rfl h) (fun _ => ?_)
    refine r_aload_n E (dat dkW_c35 25 rfl) rfl rfl ?_
    refine r_iconst (v := 0) E (dat dkW_c35 26 rfl) rfl ?_
    refine r_lald (N := 1) E (dat dkW_c35 27 rfl) rfl rfl (by unfold vp_in; decide) ?_
    refine r_iload E (dat dkW_c35 28 rfl) rfl ?_
    refine r_i2l E (dat dkW_c35 29 rfl) ?_
    refine r_lcmp E (dat dkW_c35 30 rfl) ?_
    refine r_if_eq (tgt := 1630) E (dat dkW_c35 31 rfl) rfl (fun _ => ?_) (fun h9 => absurd (lg_self v.toInt64) h9)
    refine r_goto (tgt := 2775) E (dat dkW_c35 34 rfl) rfl ?_
    refine r_wid (k2 := k + 100) (n2 := n + 1000) (by show k + 8 + 0 + 0 ≤ _; omega) (by show n + 48 + 0 + 0 ≤ _; omega) ?_
    refine r_back rfl (by simp [LW]) (kk _ (RLe_tr hrel (fun j hj => loV_lt hj) rfl))
  ·
    refine ⟨_, loX_m2, ?_⟩
    refine r_istore_5 E (dat dkW_c35 8 rfl) rfl rfl ?_
    refine r_aload_n E (dat dkW_c35 9 rfl) rfl rfl ?_
    refine r_aldX E (dat dkW_c35 10 rfl) rfl rfl ?_
    refine r_iload E (dat dkW_c35 11 rfl) rfl ?_
    refine r_iconst (v := 1) E (dat dkW_c35 12 rfl) rfl ?_
    refine r_iadd E (dat dkW_c35 13 rfl) ?_
    refine r_sld E hX hb hA hL (nI_add i 1) (show i + 1 < Ls by omega) (dat dkW_c35 14 rfl) ?_
    refine r_callV (κ := 9) (μ := [20]) E (hR (vw [20] (loX N M')) rfl) my_X10_bootHeight iv_X10_bootHeight ml_L_264 cm_LR ⟨by decide, rfl, rfl⟩ rfl rfl rfl rfl ⟨Nat.le_of_ble_eq_true rfl, Nat.le_of_ble_eq_true rfl, Nat.le_trans (show k + 8 + 0 ≤ k + 100 by omega) hk, Nat.le_trans (show n + 48 + 0 ≤ n + 1000 by omega) hn⟩ (Nat.le_of_ble_eq_true rfl) (dat dkW_c35 15 rfl) ?_
    rintro r R' hp2
    obtain ⟨⟨bv, rfl⟩, ht, hrel⟩ := P2 0 oobN M' rfl hp _ rfl r R' hp2
    refine ⟨_, Mrg_R, ?_⟩
    refine r_istore_6 E (dat dkW_c35 16 rfl) rfl rfl ?_
    refine r_aload_n E (dat dkW_c35 17 rfl) rfl rfl ?_
    refine r_callV (κ := 9) (μ := [20]) E (sp_X10_thrown l G _) my_X10_thrown iv_X10_thrown ml_L_178 cm_LR ⟨by decide, rfl, rfl⟩ rfl rfl rfl rfl ⟨Nat.le_of_ble_eq_true rfl, Nat.le_of_ble_eq_true rfl, Nat.le_trans (show k + 8 + 0 + 0 ≤ k + 100 by omega) hk, Nat.le_trans (show n + 48 + 0 + 0 ≤ n + 1000 by omega) hn⟩ (Nat.le_of_ble_eq_true rfl) (dat dkW_c35 18 rfl) ?_
    rintro _ _ ⟨rfl, rfl⟩
    refine ⟨_, Mrg_T, ?_⟩
    refine r_topE (show vw [20] (setm (loX N M') 20 (R' 0)) 0 0 6 = nI (0 + 1) from ht) ?_
    refine r_iload E (dat dkW_c35 19 rfl) rfl ?_
    refine r_icmp_eq (tgt := 1613) E (dat dkW_c35 20 rfl) rfl (fun _ => ?_) (fun h => absurd rfl h)
    refine r_iload E (dat dkW_c35 23 rfl) rfl ?_
    refine r_if_ne (tgt := 1630) E (dat dkW_c35 24 rfl) rfl (fun _ => ?_) (fun h => absurd h (by decide))
    refine r_goto (tgt := 2775) E (dat dkW_c35 34 rfl) rfl ?_
    refine r_wid (k2 := k + 100) (n2 := n + 1000) (by show k + 8 + 0 + 0 ≤ _; omega) (by show n + 48 + 0 + 0 ≤ _; omega) ?_
    refine r_back rfl (by simp [LW]) (kk _ (RLe_tr hrel (fun j hj => loX_lt hj) rfl))
set_option maxRecDepth 100000 in
set_option maxHeartbeats 8000000 in
theorem lb_36 {p : Program} {l : Launch} {e : Env} {s : State} {m : MethodId} {args : Array Value} {below : List Frame} {meth : Method} {c : Code} {G : GT} {ad : Nat → Nat → Nat} {Q : State → Prop} {k n : Nat} (hst : l.stackTraces = false) (E : EN p s m args meth c G (KL, lkC, ad) cL_law RL 9 (some .boolean)) {b Ls : Nat} {xs : Nat → Int32} (hX : va_X b Ls xs s s.heap) (hb : b < s.heap.size) (hA : ¬ AS (KL, lkC, ad) s.heap.size b) (hL : Ls ≤ 3072) {i : Nat} (hi : i + 6 ≤ Ls) {N : Mem} {B : Int} (H : RLe N (vw [20] N) B) (h0 : 0 ≤ B) (h1 : B + 300 < 2147483648) (hk : k + 100 ≤ room_1.cells) (hn : n + 1000 ≤ room_1.slots)
    (kk : ∀ N2 : Mem, RLe N2 (vw [20] N2) (B + 279) → WM p l e room_1 s m args below meth c G (KL, lkC, ad) 9 Q N2 (k + 100) (n + 1000) 2775 [some (.inl (.ref b)), some (rv 0 0), some (rv 20 0), some (rv 19 0), some (iv (nI i)), none, none, none, none] []) :
    WM p l e room_1 s m args below meth c G (KL, lkC, ad) 9 Q N k n 1633 [some (.inl (.ref b)), some (rv 0 0), some (rv 20 0), some (rv 19 0), some (iv (nI i)), none, none, none, none] [] := by
  obtain ⟨post, XP, post2, hM, hR, hr, hE, P1, P2⟩ := pa_isWet l hst G H h0 h1 (xs (i + 1))
  refine r_aload_n E (dat dkW_c36 0 rfl) rfl rfl ?_
  refine r_aldX E (dat dkW_c36 1 rfl) rfl rfl ?_
  refine r_iload E (dat dkW_c36 2 rfl) rfl ?_
  refine r_iconst (v := 1) E (dat dkW_c36 3 rfl) rfl ?_
  refine r_iadd E (dat dkW_c36 4 rfl) ?_
  refine r_sld E hX hb hA hL (nI_add i 1) (show i + 1 < Ls by omega) (dat dkW_c36 5 rfl) ?_
  refine r_aload_n E (dat dkW_c36 6 rfl) rfl rfl ?_
  refine r_callSW (N := 3) (μ := []) E (sp_L_isWet l G (xs (i + 1)) N post XP hM hr (fun Ex M' h => by simpa using hE Ex M' h)) ini_L (bg_5 71 (by decide +kernel)) ⟨by decide +kernel, by decide +kernel, by decide +kernel⟩ (bg_5 70 (by decide +kernel)) ml_L_265 cm_LO rfl rfl ⟨Nat.le_of_ble_eq_true rfl, Nat.le_of_ble_eq_true rfl, Nat.le_trans (Nat.add_le_add_left (Nat.le_of_ble_eq_true rfl) k) hk, Nat.le_trans (Nat.add_le_add_left (Nat.le_of_ble_eq_true rfl) n) hn⟩ (Nat.le_of_ble_eq_true rfl) (dat dkW_c36 7 rfl) ?_
  rintro r M9 (⟨v, M', hp, rfl, rfl⟩ | ⟨M', hp, rfl, rfl⟩)
  ·
    refine ⟨_, loV_m, ?_⟩
    refine r_istore_5 E (dat dkW_c36 8 rfl) rfl rfl ?_
    refine r_aload_n E (dat dkW_c36 9 rfl) rfl rfl ?_
    refine r_aldX E (dat dkW_c36 10 rfl) rfl rfl ?_
    refine r_iload E (dat dkW_c36 11 rfl) rfl ?_
    refine r_iconst (v := 1) E (dat dkW_c36 12 rfl) rfl ?_
    refine r_iadd E (dat dkW_c36 13 rfl) ?_
    refine r_sld E hX hb hA hL (nI_add i 1) (show i + 1 < Ls by omega) (dat dkW_c36 14 rfl) ?_
    refine r_callV (κ := 9) (μ := [20]) E (hR (vw [20] (loV N M' (if v = 0 then 0 else 1))) rfl) my_X10_isWet iv_X10_isWet ml_L_267 cm_LR ⟨by decide, rfl, rfl⟩ rfl rfl rfl rfl ⟨Nat.le_of_ble_eq_true rfl, Nat.le_of_ble_eq_true rfl, Nat.le_trans (show k + 8 + 0 ≤ k + 100 by omega) hk, Nat.le_trans (show n + 48 + 0 ≤ n + 1000 by omega) hn⟩ (Nat.le_of_ble_eq_true rfl) (dat dkW_c36 15 rfl) ?_
    rintro r R' hp2
    obtain ⟨rfl, ht, hrel⟩ := P1 v M' hp _ rfl r R' hp2
    refine ⟨_, Mrg_R, ?_⟩
    refine r_istore_6 E (dat dkW_c36 16 rfl) rfl rfl ?_
    refine r_aload_n E (dat dkW_c36 17 rfl) rfl rfl ?_
    refine r_callV (κ := 9) (μ := [20]) E (sp_X10_thrown l G _) my_X10_thrown iv_X10_thrown ml_L_178 cm_LR ⟨by decide, rfl, rfl⟩ rfl rfl rfl rfl ⟨Nat.le_of_ble_eq_true rfl, Nat.le_of_ble_eq_true rfl, Nat.le_trans (show k + 8 + 0 + 0 ≤ k + 100 by omega) hk, Nat.le_trans (show n + 48 + 0 + 0 ≤ n + 1000 by omega) hn⟩ (Nat.le_of_ble_eq_true rfl) (dat dkW_c36 18 rfl) ?_
    rintro _ _ ⟨rfl, rfl⟩
    refine ⟨_, Mrg_T, ?_⟩
    refine r_topE (show vw [20] (setm (loV N M' (if v = 0 then 0 else 1)) 20 (R' 0)) 0 0 6 = 0 from ht) ?_
    refine r_iload E (dat dkW_c36 19 rfl) rfl ?_
    refine r_icmp_eq (tgt := 1669) E (dat dkW_c36 20 rfl) rfl (fun _ => ?_) (fun h => absurd rfl h)
    refine r_iload E (dat dkW_c36 23 rfl) rfl ?_
    refine r_if_ne (tgt := 1693) E (dat dkW_c36 24 rfl) rfl (fun h => absurd rfl h) (fun _ => ?_)
    refine r_aload_n E (dat dkW_c36 25 rfl) rfl rfl ?_
    refine r_iconst (v := 0) E (dat dkW_c36 26 rfl) rfl ?_
    refine r_lald (N := 1) E (dat dkW_c36 27 rfl) rfl rfl (by unfold vp_in; decide) ?_
    refine r_iload E (dat dkW_c36 28 rfl) rfl ?_
    refine r_if_eq (tgt := 1686) E (dat dkW_c36 29 rfl) rfl (fun hv => ?_) (fun hv => ?_)
    ·
      refine r_lconst (v := 0) E (dat dkW_c36 32 rfl) rfl ?_
      refine r_lcmp E (dat dkW_c36 33 rfl) ?_
      refine r_if_eq (tgt := 1693) E (dat dkW_c36 34 rfl) rfl (fun _ => ?_) (fun h9 => absurd (by show lg_cmp (Int32.toInt64 (if v = 0 then 0 else 1)) 0 = 0; rw [if_pos hv]; rfl) h9)
      refine r_goto (tgt := 2775) E (dat dkW_c36 37 rfl) rfl ?_
      refine r_wid (k2 := k + 100) (n2 := n + 1000) (by show k + 8 + 0 + 0 ≤ _; omega) (by show n + 48 + 0 + 0 ≤ _; omega) ?_
      refine r_back rfl (by simp [LW]) (kk _ (RLe_tr hrel (fun j hj => loV_lt hj) rfl))
    ·
      refine r_lconst (v := 1) E (dat dkW_c36 30 rfl) rfl ?_
      refine r_goto (tgt := 1687) E (dat dkW_c36 31 rfl) rfl ?_
      refine r_lcmp E (dat dkW_c36 33 rfl) ?_
      refine r_if_eq (tgt := 1693) E (dat dkW_c36 34 rfl) rfl (fun _ => ?_) (fun h9 => absurd (by show lg_cmp (Int32.toInt64 (if v = 0 then 0 else 1)) 1 = 0; rw [if_neg hv]; rfl) h9)
      refine r_goto (tgt := 2775) E (dat dkW_c36 37 rfl) rfl ?_
      refine r_wid (k2 := k + 100) (n2 := n + 1000) (by show k + 8 + 0 + 0 ≤ _; omega) (by show n + 48 + 0 + 0 ≤ _; omega) ?_
      refine r_back rfl (by simp [LW]) (kk _ (RLe_tr hrel (fun j hj => loV_lt hj) rfl))
  ·
    refine ⟨_, loX_m2, ?_⟩
    refine r_istore_5 E (dat dkW_c36 8 rfl) rfl rfl ?_
    refine r_aload_n E (dat dkW_c36 9 rfl) rfl rfl ?_
    refine r_aldX E (dat dkW_c36 10 rfl) rfl rfl ?_
    refine r_iload E (dat dkW_c36 11 rfl) rfl ?_
    refine r_iconst (v := 1) E (dat dkW_c36 12 rfl) rfl ?_
    refine r_iadd E (dat dkW_c36 13 rfl) ?_
    refine r_sld E hX hb hA hL (nI_add i 1) (show i + 1 < Ls by omega) (dat dkW_c36 14 rfl) ?_
    refine r_callV (κ := 9) (μ := [20]) E (hR (vw [20] (loX N M')) rfl) my_X10_isWet iv_X10_isWet ml_L_267 cm_LR ⟨by decide, rfl, rfl⟩ rfl rfl rfl rfl ⟨Nat.le_of_ble_eq_true rfl, Nat.le_of_ble_eq_true rfl, Nat.le_trans (show k + 8 + 0 ≤ k + 100 by omega) hk, Nat.le_trans (show n + 48 + 0 ≤ n + 1000 by omega) hn⟩ (Nat.le_of_ble_eq_true rfl) (dat dkW_c36 15 rfl) ?_
    rintro r R' hp2
    obtain ⟨⟨bv, rfl⟩, ht, hrel⟩ := P2 0 oobN M' rfl hp _ rfl r R' hp2
    refine ⟨_, Mrg_R, ?_⟩
    refine r_istore_6 E (dat dkW_c36 16 rfl) rfl rfl ?_
    refine r_aload_n E (dat dkW_c36 17 rfl) rfl rfl ?_
    refine r_callV (κ := 9) (μ := [20]) E (sp_X10_thrown l G _) my_X10_thrown iv_X10_thrown ml_L_178 cm_LR ⟨by decide, rfl, rfl⟩ rfl rfl rfl rfl ⟨Nat.le_of_ble_eq_true rfl, Nat.le_of_ble_eq_true rfl, Nat.le_trans (show k + 8 + 0 + 0 ≤ k + 100 by omega) hk, Nat.le_trans (show n + 48 + 0 + 0 ≤ n + 1000 by omega) hn⟩ (Nat.le_of_ble_eq_true rfl) (dat dkW_c36 18 rfl) ?_
    rintro _ _ ⟨rfl, rfl⟩
    refine ⟨_, Mrg_T, ?_⟩
    refine r_topE (show vw [20] (setm (loX N M') 20 (R' 0)) 0 0 6 = nI (0 + 1) from ht) ?_
    refine r_iload E (dat dkW_c36 19 rfl) rfl ?_
    refine r_icmp_eq (tgt := 1669) E (dat dkW_c36 20 rfl) rfl (fun _ => ?_) (fun h => absurd rfl h)
    refine r_iload E (dat dkW_c36 23 rfl) rfl ?_
    refine r_if_ne (tgt := 1693) E (dat dkW_c36 24 rfl) rfl (fun _ => ?_) (fun h => absurd h (by decide))
    refine r_goto (tgt := 2775) E (dat dkW_c36 37 rfl) rfl ?_
    refine r_wid (k2 := k + 100) (n2 := n + 1000) (by show k + 8 + 0 + 0 ≤ _; omega) (by show n + 48 + 0 + 0 ≤ _; omega) ?_
    refine r_back rfl (by simp [LW]) (kk _ (RLe_tr hrel (fun j hj => loX_lt hj) rfl))
set_option maxRecDepth 100000 in
set_option maxHeartbeats 8000000 in
theorem lb_37 {p : Program} {l : Launch} {e : Env} {s : State} {m : MethodId} {args : Array Value} {below : List Frame} {meth : Method} {c : Code} {G : GT} {ad : Nat → Nat → Nat} {Q : State → Prop} {k n : Nat} (hst : l.stackTraces = false) (E : EN p s m args meth c G (KL, lkC, ad) cL_law RL 9 (some .boolean)) {b Ls : Nat} {xs : Nat → Int32} (hX : va_X b Ls xs s s.heap) (hb : b < s.heap.size) (hA : ¬ AS (KL, lkC, ad) s.heap.size b) (hL : Ls ≤ 3072) {i : Nat} (hi : i + 6 ≤ Ls) {N : Mem} {B : Int} (H : RLe N (vw [20] N) B) (h0 : 0 ≤ B) (h1 : B + 300 < 2147483648) (hk : k + 100 ≤ room_1.cells) (hn : n + 1000 ≤ room_1.slots)
    (kk : ∀ N2 : Mem, RLe N2 (vw [20] N2) (B + 279) → WM p l e room_1 s m args below meth c G (KL, lkC, ad) 9 Q N2 (k + 100) (n + 1000) 2775 [some (.inl (.ref b)), some (rv 0 0), some (rv 20 0), some (rv 19 0), some (iv (nI i)), none, none, none, none] []) :
    WM p l e room_1 s m args below meth c G (KL, lkC, ad) 9 Q N k n 1696 [some (.inl (.ref b)), some (rv 0 0), some (rv 20 0), some (rv 19 0), some (iv (nI i)), none, none, none, none] [] := by
  obtain ⟨post, XP, post2, hM, hR, hr, hE, P1, P2⟩ := pa_splashesOf l hst G H h0 h1 (xs (i + 1))
  refine r_aload_n E (dat dkW_c37 0 rfl) rfl rfl ?_
  refine r_aldX E (dat dkW_c37 1 rfl) rfl rfl ?_
  refine r_iload E (dat dkW_c37 2 rfl) rfl ?_
  refine r_iconst (v := 1) E (dat dkW_c37 3 rfl) rfl ?_
  refine r_iadd E (dat dkW_c37 4 rfl) ?_
  refine r_sld E hX hb hA hL (nI_add i 1) (show i + 1 < Ls by omega) (dat dkW_c37 5 rfl) ?_
  refine r_aload_n E (dat dkW_c37 6 rfl) rfl rfl ?_
  refine r_callSW (N := 3) (μ := []) E (sp_L_splashesOf l G (xs (i + 1)) N post XP hM hr (fun Ex M' h => by simpa using hE Ex M' h)) ini_L (bg_5 78 (by decide +kernel)) ⟨by decide +kernel, by decide +kernel, by decide +kernel⟩ (bg_5 77 (by decide +kernel)) ml_L_268 cm_LO rfl rfl ⟨Nat.le_of_ble_eq_true rfl, Nat.le_of_ble_eq_true rfl, Nat.le_trans (Nat.add_le_add_left (Nat.le_of_ble_eq_true rfl) k) hk, Nat.le_trans (Nat.add_le_add_left (Nat.le_of_ble_eq_true rfl) n) hn⟩ (Nat.le_of_ble_eq_true rfl) (dat dkW_c37 7 rfl) ?_
  rintro r M9 (⟨v, M', hp, rfl, rfl⟩ | ⟨M', hp, rfl, rfl⟩)
  ·
    refine ⟨_, loV_m, ?_⟩
    refine r_istore_5 E (dat dkW_c37 8 rfl) rfl rfl ?_
    refine r_aload_n E (dat dkW_c37 9 rfl) rfl rfl ?_
    refine r_aldX E (dat dkW_c37 10 rfl) rfl rfl ?_
    refine r_iload E (dat dkW_c37 11 rfl) rfl ?_
    refine r_iconst (v := 1) E (dat dkW_c37 12 rfl) rfl ?_
    refine r_iadd E (dat dkW_c37 13 rfl) ?_
    refine r_sld E hX hb hA hL (nI_add i 1) (show i + 1 < Ls by omega) (dat dkW_c37 14 rfl) ?_
    refine r_callV (κ := 9) (μ := [20]) E (hR (vw [20] (loV N M' v)) rfl) my_X10_splashesOf iv_X10_splashesOf ml_L_270 cm_LR ⟨by decide, rfl, rfl⟩ rfl rfl rfl rfl ⟨Nat.le_of_ble_eq_true rfl, Nat.le_of_ble_eq_true rfl, Nat.le_trans (show k + 8 + 0 ≤ k + 100 by omega) hk, Nat.le_trans (show n + 48 + 0 ≤ n + 1000 by omega) hn⟩ (Nat.le_of_ble_eq_true rfl) (dat dkW_c37 15 rfl) ?_
    rintro r R' hp2
    obtain ⟨rfl, ht, hrel⟩ := P1 v M' hp _ rfl r R' hp2
    refine ⟨_, Mrg_R, ?_⟩
    refine r_istore_6 E (dat dkW_c37 16 rfl) rfl rfl ?_
    refine r_aload_n E (dat dkW_c37 17 rfl) rfl rfl ?_
    refine r_callV (κ := 9) (μ := [20]) E (sp_X10_thrown l G _) my_X10_thrown iv_X10_thrown ml_L_178 cm_LR ⟨by decide, rfl, rfl⟩ rfl rfl rfl rfl ⟨Nat.le_of_ble_eq_true rfl, Nat.le_of_ble_eq_true rfl, Nat.le_trans (show k + 8 + 0 + 0 ≤ k + 100 by omega) hk, Nat.le_trans (show n + 48 + 0 + 0 ≤ n + 1000 by omega) hn⟩ (Nat.le_of_ble_eq_true rfl) (dat dkW_c37 18 rfl) ?_
    rintro _ _ ⟨rfl, rfl⟩
    refine ⟨_, Mrg_T, ?_⟩
    refine r_topE (show vw [20] (setm (loV N M' v) 20 (R' 0)) 0 0 6 = 0 from ht) ?_
    refine r_iload E (dat dkW_c37 19 rfl) rfl ?_
    refine r_icmp_eq (tgt := 1732) E (dat dkW_c37 20 rfl) rfl (fun _ => ?_) (fun h => absurd rfl h)
    refine r_iload E (dat dkW_c37 23 rfl) rfl ?_
    refine r_if_ne (tgt := 1749) E (dat dkW_c37 24 rfl) rfl (fun h => absurd rfl h) (fun _ => ?_)
    refine r_aload_n E (dat dkW_c37 25 rfl) rfl rfl ?_
    refine r_iconst (v := 0) E (dat dkW_c37 26 rfl) rfl ?_
    refine r_lald (N := 1) E (dat dkW_c37 27 rfl) rfl rfl (by unfold vp_in; decide) ?_
    refine r_iload E (dat dkW_c37 28 rfl) rfl ?_
    refine r_i2l E (dat dkW_c37 29 rfl) ?_
    refine r_lcmp E (dat dkW_c37 30 rfl) ?_
    refine r_if_eq (tgt := 1749) E (dat dkW_c37 31 rfl) rfl (fun _ => ?_) (fun h9 => absurd (lg_self v.toInt64) h9)
    refine r_goto (tgt := 2775) E (dat dkW_c37 34 rfl) rfl ?_
    refine r_wid (k2 := k + 100) (n2 := n + 1000) (by show k + 8 + 0 + 0 ≤ _; omega) (by show n + 48 + 0 + 0 ≤ _; omega) ?_
    refine r_back rfl (by simp [LW]) (kk _ (RLe_tr hrel (fun j hj => loV_lt hj) rfl))
  ·
    refine ⟨_, loX_m2, ?_⟩
    refine r_istore_5 E (dat dkW_c37 8 rfl) rfl rfl ?_
    refine r_aload_n E (dat dkW_c37 9 rfl) rfl rfl ?_
    refine r_aldX E (dat dkW_c37 10 rfl) rfl rfl ?_
    refine r_iload E (dat dkW_c37 11 rfl) rfl ?_
    refine r_iconst (v := 1) E (dat dkW_c37 12 rfl) rfl ?_
    refine r_iadd E (dat dkW_c37 13 rfl) ?_
    refine r_sld E hX hb hA hL (nI_add i 1) (show i + 1 < Ls by omega) (dat dkW_c37 14 rfl) ?_
    refine r_callV (κ := 9) (μ := [20]) E (hR (vw [20] (loX N M')) rfl) my_X10_splashesOf iv_X10_splashesOf ml_L_270 cm_LR ⟨by decide, rfl, rfl⟩ rfl rfl rfl rfl ⟨Nat.le_of_ble_eq_true rfl, Nat.le_of_ble_eq_true rfl, Nat.le_trans (show k + 8 + 0 ≤ k + 100 by omega) hk, Nat.le_trans (show n + 48 + 0 ≤ n + 1000 by omega) hn⟩ (Nat.le_of_ble_eq_true rfl) (dat dkW_c37 15 rfl) ?_
    rintro r R' hp2
    obtain ⟨⟨bv, rfl⟩, ht, hrel⟩ := P2 0 oobN M' rfl hp _ rfl r R' hp2
    refine ⟨_, Mrg_R, ?_⟩
    refine r_istore_6 E (dat dkW_c37 16 rfl) rfl rfl ?_
    refine r_aload_n E (dat dkW_c37 17 rfl) rfl rfl ?_
    refine r_callV (κ := 9) (μ := [20]) E (sp_X10_thrown l G _) my_X10_thrown iv_X10_thrown ml_L_178 cm_LR ⟨by decide, rfl, rfl⟩ rfl rfl rfl rfl ⟨Nat.le_of_ble_eq_true rfl, Nat.le_of_ble_eq_true rfl, Nat.le_trans (show k + 8 + 0 + 0 ≤ k + 100 by omega) hk, Nat.le_trans (show n + 48 + 0 + 0 ≤ n + 1000 by omega) hn⟩ (Nat.le_of_ble_eq_true rfl) (dat dkW_c37 18 rfl) ?_
    rintro _ _ ⟨rfl, rfl⟩
    refine ⟨_, Mrg_T, ?_⟩
    refine r_topE (show vw [20] (setm (loX N M') 20 (R' 0)) 0 0 6 = nI (0 + 1) from ht) ?_
    refine r_iload E (dat dkW_c37 19 rfl) rfl ?_
    refine r_icmp_eq (tgt := 1732) E (dat dkW_c37 20 rfl) rfl (fun _ => ?_) (fun h => absurd rfl h)
    refine r_iload E (dat dkW_c37 23 rfl) rfl ?_
    refine r_if_ne (tgt := 1749) E (dat dkW_c37 24 rfl) rfl (fun _ => ?_) (fun h => absurd h (by decide))
    refine r_goto (tgt := 2775) E (dat dkW_c37 34 rfl) rfl ?_
    refine r_wid (k2 := k + 100) (n2 := n + 1000) (by show k + 8 + 0 + 0 ≤ _; omega) (by show n + 48 + 0 + 0 ≤ _; omega) ?_
    refine r_back rfl (by simp [LW]) (kk _ (RLe_tr hrel (fun j hj => loX_lt hj) rfl))
set_option maxRecDepth 100000 in
set_option maxHeartbeats 8000000 in
theorem lb_38 {p : Program} {l : Launch} {e : Env} {s : State} {m : MethodId} {args : Array Value} {below : List Frame} {meth : Method} {c : Code} {G : GT} {ad : Nat → Nat → Nat} {Q : State → Prop} {k n : Nat} (hst : l.stackTraces = false) (E : EN p s m args meth c G (KL, lkC, ad) cL_law RL 9 (some .boolean)) {b Ls : Nat} {xs : Nat → Int32} (hX : va_X b Ls xs s s.heap) (hb : b < s.heap.size) (hA : ¬ AS (KL, lkC, ad) s.heap.size b) (hL : Ls ≤ 3072) {i : Nat} (hi : i + 6 ≤ Ls) {N : Mem} {B : Int} (H : RLe N (vw [20] N) B) (h0 : 0 ≤ B) (h1 : B + 300 < 2147483648) (hk : k + 100 ≤ room_1.cells) (hn : n + 1000 ≤ room_1.slots)
    (kk : ∀ N2 : Mem, RLe N2 (vw [20] N2) (B + 279) → WM p l e room_1 s m args below meth c G (KL, lkC, ad) 9 Q N2 (k + 100) (n + 1000) 2775 [some (.inl (.ref b)), some (rv 0 0), some (rv 20 0), some (rv 19 0), some (iv (nI i)), none, none, none, none] []) :
    WM p l e room_1 s m args below meth c G (KL, lkC, ad) 9 Q N k n 1752 [some (.inl (.ref b)), some (rv 0 0), some (rv 20 0), some (rv 19 0), some (iv (nI i)), none, none, none, none] [] := by
  obtain ⟨post, XP, post2, hM, hR, hr, hE, P1, P2⟩ := pa_dryWay l hst G H h0 h1 (xs (i + 1)) (xs (i + 2))
  refine r_aload_n E (dat dkW_c38 0 rfl) rfl rfl ?_
  refine r_aldX E (dat dkW_c38 1 rfl) rfl rfl ?_
  refine r_iload E (dat dkW_c38 2 rfl) rfl ?_
  refine r_iconst (v := 1) E (dat dkW_c38 3 rfl) rfl ?_
  refine r_iadd E (dat dkW_c38 4 rfl) ?_
  refine r_sld E hX hb hA hL (nI_add i 1) (show i + 1 < Ls by omega) (dat dkW_c38 5 rfl) ?_
  refine r_aldX E (dat dkW_c38 6 rfl) rfl rfl ?_
  refine r_iload E (dat dkW_c38 7 rfl) rfl ?_
  refine r_iconst (v := 2) E (dat dkW_c38 8 rfl) rfl ?_
  refine r_iadd E (dat dkW_c38 9 rfl) ?_
  refine r_sld E hX hb hA hL (nI_add i 2) (show i + 2 < Ls by omega) (dat dkW_c38 10 rfl) ?_
  refine r_aload_n E (dat dkW_c38 11 rfl) rfl rfl ?_
  refine r_callSW (N := 4) (μ := []) E (sp_L_dryWay l G (xs (i + 1)) (xs (i + 2)) N post XP hM hr (fun Ex M' h => by simpa using hE Ex M' h)) ini_L (bg_5 85 (by decide +kernel)) ⟨by decide +kernel, by decide +kernel, by decide +kernel⟩ (bg_5 84 (by decide +kernel)) ml_L_271 cm_LO rfl rfl ⟨Nat.le_of_ble_eq_true rfl, Nat.le_of_ble_eq_true rfl, Nat.le_trans (Nat.add_le_add_left (Nat.le_of_ble_eq_true rfl) k) hk, Nat.le_trans (Nat.add_le_add_left (Nat.le_of_ble_eq_true rfl) n) hn⟩ (Nat.le_of_ble_eq_true rfl) (dat dkW_c38 12 rfl) ?_
  rintro r M9 (⟨v, M', hp, rfl, rfl⟩ | ⟨M', hp, rfl, rfl⟩)
  ·
    refine ⟨_, loV_m, ?_⟩
    refine r_istore_5 E (dat dkW_c38 13 rfl) rfl rfl ?_
    refine r_aload_n E (dat dkW_c38 14 rfl) rfl rfl ?_
    refine r_aldX E (dat dkW_c38 15 rfl) rfl rfl ?_
    refine r_iload E (dat dkW_c38 16 rfl) rfl ?_
    refine r_iconst (v := 1) E (dat dkW_c38 17 rfl) rfl ?_
    refine r_iadd E (dat dkW_c38 18 rfl) ?_
    refine r_sld E hX hb hA hL (nI_add i 1) (show i + 1 < Ls by omega) (dat dkW_c38 19 rfl) ?_
    refine r_aldX E (dat dkW_c38 20 rfl) rfl rfl ?_
    refine r_iload E (dat dkW_c38 21 rfl) rfl ?_
    refine r_iconst (v := 2) E (dat dkW_c38 22 rfl) rfl ?_
    refine r_iadd E (dat dkW_c38 23 rfl) ?_
    refine r_sld E hX hb hA hL (nI_add i 2) (show i + 2 < Ls by omega) (dat dkW_c38 24 rfl) ?_
    refine r_callV (κ := 9) (μ := [20]) E (hR (vw [20] (loV N M' v)) rfl) my_X10_dryWay iv_X10_dryWay ml_L_273 cm_LR ⟨by decide, rfl, rfl⟩ rfl rfl rfl rfl ⟨Nat.le_of_ble_eq_true rfl, Nat.le_of_ble_eq_true rfl, Nat.le_trans (show k + 12 + 0 ≤ k + 100 by omega) hk, Nat.le_trans (show n + 72 + 0 ≤ n + 1000 by omega) hn⟩ (Nat.le_of_ble_eq_true rfl) (dat dkW_c38 25 rfl) ?_
    rintro r R' hp2
    obtain ⟨rfl, ht, hrel⟩ := P1 v M' hp _ rfl r R' hp2
    refine ⟨_, Mrg_R, ?_⟩
    refine r_istore_6 E (dat dkW_c38 26 rfl) rfl rfl ?_
    refine r_aload_n E (dat dkW_c38 27 rfl) rfl rfl ?_
    refine r_callV (κ := 9) (μ := [20]) E (sp_X10_thrown l G _) my_X10_thrown iv_X10_thrown ml_L_178 cm_LR ⟨by decide, rfl, rfl⟩ rfl rfl rfl rfl ⟨Nat.le_of_ble_eq_true rfl, Nat.le_of_ble_eq_true rfl, Nat.le_trans (show k + 12 + 0 + 0 ≤ k + 100 by omega) hk, Nat.le_trans (show n + 72 + 0 + 0 ≤ n + 1000 by omega) hn⟩ (Nat.le_of_ble_eq_true rfl) (dat dkW_c38 28 rfl) ?_
    rintro _ _ ⟨rfl, rfl⟩
    refine ⟨_, Mrg_T, ?_⟩
    refine r_topE (show vw [20] (setm (loV N M' v) 20 (R' 0)) 0 0 6 = 0 from ht) ?_
    refine r_iload E (dat dkW_c38 29 rfl) rfl ?_
    refine r_icmp_eq (tgt := 1800) E (dat dkW_c38 30 rfl) rfl (fun _ => ?_) (fun h => absurd rfl h)
    refine r_iload E (dat dkW_c38 33 rfl) rfl ?_
    refine r_if_ne (tgt := 1817) E (dat dkW_c38 34 rfl) rfl (fun h => absurd rfl h) (fun _ => ?_)
    refine r_aload_n E (dat dkW_c38 35 rfl) rfl rfl ?_
    refine r_iconst (v := 0) E (dat dkW_c38 36 rfl) rfl ?_
    refine r_lald (N := 1) E (dat dkW_c38 37 rfl) rfl rfl (by unfold vp_in; decide) ?_
    refine r_iload E (dat dkW_c38 38 rfl) rfl ?_
    refine r_i2l E (dat dkW_c38 39 rfl) ?_
    refine r_lcmp E (dat dkW_c38 40 rfl) ?_
    refine r_if_eq (tgt := 1817) E (dat dkW_c38 41 rfl) rfl (fun _ => ?_) (fun h9 => absurd (lg_self v.toInt64) h9)
    refine r_goto (tgt := 2775) E (dat dkW_c38 44 rfl) rfl ?_
    refine r_wid (k2 := k + 100) (n2 := n + 1000) (by show k + 12 + 0 + 0 ≤ _; omega) (by show n + 72 + 0 + 0 ≤ _; omega) ?_
    refine r_back rfl (by simp [LW]) (kk _ (RLe_tr hrel (fun j hj => loV_lt hj) rfl))
  ·
    refine ⟨_, loX_m2, ?_⟩
    refine r_istore_5 E (dat dkW_c38 13 rfl) rfl rfl ?_
    refine r_aload_n E (dat dkW_c38 14 rfl) rfl rfl ?_
    refine r_aldX E (dat dkW_c38 15 rfl) rfl rfl ?_
    refine r_iload E (dat dkW_c38 16 rfl) rfl ?_
    refine r_iconst (v := 1) E (dat dkW_c38 17 rfl) rfl ?_
    refine r_iadd E (dat dkW_c38 18 rfl) ?_
    refine r_sld E hX hb hA hL (nI_add i 1) (show i + 1 < Ls by omega) (dat dkW_c38 19 rfl) ?_
    refine r_aldX E (dat dkW_c38 20 rfl) rfl rfl ?_
    refine r_iload E (dat dkW_c38 21 rfl) rfl ?_
    refine r_iconst (v := 2) E (dat dkW_c38 22 rfl) rfl ?_
    refine r_iadd E (dat dkW_c38 23 rfl) ?_
    refine r_sld E hX hb hA hL (nI_add i 2) (show i + 2 < Ls by omega) (dat dkW_c38 24 rfl) ?_
    refine r_callV (κ := 9) (μ := [20]) E (hR (vw [20] (loX N M')) rfl) my_X10_dryWay iv_X10_dryWay ml_L_273 cm_LR ⟨by decide, rfl, rfl⟩ rfl rfl rfl rfl ⟨Nat.le_of_ble_eq_true rfl, Nat.le_of_ble_eq_true rfl, Nat.le_trans (show k + 12 + 0 ≤ k + 100 by omega) hk, Nat.le_trans (show n + 72 + 0 ≤ n + 1000 by omega) hn⟩ (Nat.le_of_ble_eq_true rfl) (dat dkW_c38 25 rfl) ?_
    rintro r R' hp2
    obtain ⟨⟨bv, rfl⟩, ht, hrel⟩ := P2 0 oobN M' rfl hp _ rfl r R' hp2
    refine ⟨_, Mrg_R, ?_⟩
    refine r_istore_6 E (dat dkW_c38 26 rfl) rfl rfl ?_
    refine r_aload_n E (dat dkW_c38 27 rfl) rfl rfl ?_
    refine r_callV (κ := 9) (μ := [20]) E (sp_X10_thrown l G _) my_X10_thrown iv_X10_thrown ml_L_178 cm_LR ⟨by decide, rfl, rfl⟩ rfl rfl rfl rfl ⟨Nat.le_of_ble_eq_true rfl, Nat.le_of_ble_eq_true rfl, Nat.le_trans (show k + 12 + 0 + 0 ≤ k + 100 by omega) hk, Nat.le_trans (show n + 72 + 0 + 0 ≤ n + 1000 by omega) hn⟩ (Nat.le_of_ble_eq_true rfl) (dat dkW_c38 28 rfl) ?_
    rintro _ _ ⟨rfl, rfl⟩
    refine ⟨_, Mrg_T, ?_⟩
    refine r_topE (show vw [20] (setm (loX N M') 20 (R' 0)) 0 0 6 = nI (0 + 1) from ht) ?_
    refine r_iload E (dat dkW_c38 29 rfl) rfl ?_
    refine r_icmp_eq (tgt := 1800) E (dat dkW_c38 30 rfl) rfl (fun _ => ?_) (fun h => absurd rfl h)
    refine r_iload E (dat dkW_c38 33 rfl) rfl ?_
    refine r_if_ne (tgt := 1817) E (dat dkW_c38 34 rfl) rfl (fun _ => ?_) (fun h => absurd h (by decide))
    refine r_goto (tgt := 2775) E (dat dkW_c38 44 rfl) rfl ?_
    refine r_wid (k2 := k + 100) (n2 := n + 1000) (by show k + 12 + 0 + 0 ≤ _; omega) (by show n + 72 + 0 + 0 ≤ _; omega) ?_
    refine r_back rfl (by simp [LW]) (kk _ (RLe_tr hrel (fun j hj => loX_lt hj) rfl))
set_option maxRecDepth 100000 in
set_option maxHeartbeats 8000000 in
theorem lb_39 {p : Program} {l : Launch} {e : Env} {s : State} {m : MethodId} {args : Array Value} {below : List Frame} {meth : Method} {c : Code} {G : GT} {ad : Nat → Nat → Nat} {Q : State → Prop} {k n : Nat} (hst : l.stackTraces = false) (E : EN p s m args meth c G (KL, lkC, ad) cL_law RL 9 (some .boolean)) {b Ls : Nat} {xs : Nat → Int32} (hX : va_X b Ls xs s s.heap) (hb : b < s.heap.size) (hA : ¬ AS (KL, lkC, ad) s.heap.size b) (hL : Ls ≤ 3072) {i : Nat} (hi : i + 6 ≤ Ls) {N : Mem} {B : Int} (H : RLe N (vw [20] N) B) (h0 : 0 ≤ B) (h1 : B + 300 < 2147483648) (hk : k + 100 ≤ room_1.cells) (hn : n + 1000 ≤ room_1.slots)
    (kk : ∀ N2 : Mem, RLe N2 (vw [20] N2) (B + 279) → WM p l e room_1 s m args below meth c G (KL, lkC, ad) 9 Q N2 (k + 100) (n + 1000) 2775 [some (.inl (.ref b)), some (rv 0 0), some (rv 20 0), some (rv 19 0), some (iv (nI i)), none, none, none, none] []) :
    WM p l e room_1 s m args below meth c G (KL, lkC, ad) 9 Q N k n 1820 [some (.inl (.ref b)), some (rv 0 0), some (rv 20 0), some (rv 19 0), some (iv (nI i)), none, none, none, none] [] := by
  obtain ⟨post, XP, post2, hM, hR, hr, hE, P1, P2⟩ := pa_waterAfter l hst G H h0 h1 (xs (i + 1)) (xs (i + 2))
  refine r_aload_n E (dat dkW_c39 0 rfl) rfl rfl ?_
  refine r_aldX E (dat dkW_c39 1 rfl) rfl rfl ?_
  refine r_iload E (dat dkW_c39 2 rfl) rfl ?_
  refine r_iconst (v := 1) E (dat dkW_c39 3 rfl) rfl ?_
  refine r_iadd E (dat dkW_c39 4 rfl) ?_
  refine r_sld E hX hb hA hL (nI_add i 1) (show i + 1 < Ls by omega) (dat dkW_c39 5 rfl) ?_
  refine r_aldX E (dat dkW_c39 6 rfl) rfl rfl ?_
  refine r_iload E (dat dkW_c39 7 rfl) rfl ?_
  refine r_iconst (v := 2) E (dat dkW_c39 8 rfl) rfl ?_
  refine r_iadd E (dat dkW_c39 9 rfl) ?_
  refine r_sld E hX hb hA hL (nI_add i 2) (show i + 2 < Ls by omega) (dat dkW_c39 10 rfl) ?_
  refine r_aload_n E (dat dkW_c39 11 rfl) rfl rfl ?_
  refine r_callSW (N := 4) (μ := []) E (sp_L_waterAfter l G (xs (i + 1)) (xs (i + 2)) N post XP hM hr (fun Ex M' h => by simpa using hE Ex M' h)) ini_L (bg_5 99 (by decide +kernel)) ⟨by decide +kernel, by decide +kernel, by decide +kernel⟩ (bg_5 98 (by decide +kernel)) ml_L_274 cm_LO rfl rfl ⟨Nat.le_of_ble_eq_true rfl, Nat.le_of_ble_eq_true rfl, Nat.le_trans (Nat.add_le_add_left (Nat.le_of_ble_eq_true rfl) k) hk, Nat.le_trans (Nat.add_le_add_left (Nat.le_of_ble_eq_true rfl) n) hn⟩ (Nat.le_of_ble_eq_true rfl) (dat dkW_c39 12 rfl) ?_
  rintro r M9 (⟨v, M', hp, rfl, rfl⟩ | ⟨M', hp, rfl, rfl⟩ | ⟨M', hp, rfl, rfl⟩)
  ·
    refine ⟨_, loV_m, ?_⟩
    refine r_istore_5 E (dat dkW_c39 13 rfl) rfl rfl ?_
    refine r_aload_n E (dat dkW_c39 14 rfl) rfl rfl ?_
    refine r_aldX E (dat dkW_c39 15 rfl) rfl rfl ?_
    refine r_iload E (dat dkW_c39 16 rfl) rfl ?_
    refine r_iconst (v := 1) E (dat dkW_c39 17 rfl) rfl ?_
    refine r_iadd E (dat dkW_c39 18 rfl) ?_
    refine r_sld E hX hb hA hL (nI_add i 1) (show i + 1 < Ls by omega) (dat dkW_c39 19 rfl) ?_
    refine r_aldX E (dat dkW_c39 20 rfl) rfl rfl ?_
    refine r_iload E (dat dkW_c39 21 rfl) rfl ?_
    refine r_iconst (v := 2) E (dat dkW_c39 22 rfl) rfl ?_
    refine r_iadd E (dat dkW_c39 23 rfl) ?_
    refine r_sld E hX hb hA hL (nI_add i 2) (show i + 2 < Ls by omega) (dat dkW_c39 24 rfl) ?_
    refine r_callV (κ := 9) (μ := [20]) E (hR (vw [20] (loV N M' v)) rfl) my_X10_waterAfter iv_X10_waterAfter ml_L_276 cm_LR ⟨by decide, rfl, rfl⟩ rfl rfl rfl rfl ⟨Nat.le_of_ble_eq_true rfl, Nat.le_of_ble_eq_true rfl, Nat.le_trans (show k + 8 + 0 ≤ k + 100 by omega) hk, Nat.le_trans (show n + 48 + 0 ≤ n + 1000 by omega) hn⟩ (Nat.le_of_ble_eq_true rfl) (dat dkW_c39 25 rfl) ?_
    rintro r R' hp2
    obtain ⟨rfl, ht, hrel⟩ := P1 v M' hp _ rfl r R' hp2
    refine ⟨_, Mrg_R, ?_⟩
    refine r_istore_6 E (dat dkW_c39 26 rfl) rfl rfl ?_
    refine r_aload_n E (dat dkW_c39 27 rfl) rfl rfl ?_
    refine r_callV (κ := 9) (μ := [20]) E (sp_X10_thrown l G _) my_X10_thrown iv_X10_thrown ml_L_178 cm_LR ⟨by decide, rfl, rfl⟩ rfl rfl rfl rfl ⟨Nat.le_of_ble_eq_true rfl, Nat.le_of_ble_eq_true rfl, Nat.le_trans (show k + 8 + 0 + 0 ≤ k + 100 by omega) hk, Nat.le_trans (show n + 48 + 0 + 0 ≤ n + 1000 by omega) hn⟩ (Nat.le_of_ble_eq_true rfl) (dat dkW_c39 28 rfl) ?_
    rintro _ _ ⟨rfl, rfl⟩
    refine ⟨_, Mrg_T, ?_⟩
    refine r_topE (show vw [20] (setm (loV N M' v) 20 (R' 0)) 0 0 6 = 0 from ht) ?_
    refine r_iload E (dat dkW_c39 29 rfl) rfl ?_
    refine r_icmp_eq (tgt := 1868) E (dat dkW_c39 30 rfl) rfl (fun _ => ?_) (fun h => absurd rfl h)
    refine r_iload E (dat dkW_c39 33 rfl) rfl ?_
    refine r_if_ne (tgt := 1885) E (dat dkW_c39 34 rfl) rfl (fun h => absurd rfl h) (fun _ => ?_)
    refine r_aload_n E (dat dkW_c39 35 rfl) rfl rfl ?_
    refine r_iconst (v := 0) E (dat dkW_c39 36 rfl) rfl ?_
    refine r_lald (N := 1) E (dat dkW_c39 37 rfl) rfl rfl (by unfold vp_in; decide) ?_
    refine r_iload E (dat dkW_c39 38 rfl) rfl ?_
    refine r_i2l E (dat dkW_c39 39 rfl) ?_
    refine r_lcmp E (dat dkW_c39 40 rfl) ?_
    refine r_if_eq (tgt := 1885) E (dat dkW_c39 41 rfl) rfl (fun _ => ?_) (fun h9 => absurd (lg_self v.toInt64) h9)
    refine r_goto (tgt := 2775) E (dat dkW_c39 44 rfl) rfl ?_
    refine r_wid (k2 := k + 100) (n2 := n + 1000) (by show k + 8 + 0 + 0 ≤ _; omega) (by show n + 48 + 0 + 0 ≤ _; omega) ?_
    refine r_back rfl (by simp [LW]) (kk _ (RLe_tr hrel (fun j hj => loV_lt hj) rfl))
  ·
    refine ⟨_, loX_m2, ?_⟩
    refine r_istore_5 E (dat dkW_c39 13 rfl) rfl rfl ?_
    refine r_aload_n E (dat dkW_c39 14 rfl) rfl rfl ?_
    refine r_aldX E (dat dkW_c39 15 rfl) rfl rfl ?_
    refine r_iload E (dat dkW_c39 16 rfl) rfl ?_
    refine r_iconst (v := 1) E (dat dkW_c39 17 rfl) rfl ?_
    refine r_iadd E (dat dkW_c39 18 rfl) ?_
    refine r_sld E hX hb hA hL (nI_add i 1) (show i + 1 < Ls by omega) (dat dkW_c39 19 rfl) ?_
    refine r_aldX E (dat dkW_c39 20 rfl) rfl rfl ?_
    refine r_iload E (dat dkW_c39 21 rfl) rfl ?_
    refine r_iconst (v := 2) E (dat dkW_c39 22 rfl) rfl ?_
    refine r_iadd E (dat dkW_c39 23 rfl) ?_
    refine r_sld E hX hb hA hL (nI_add i 2) (show i + 2 < Ls by omega) (dat dkW_c39 24 rfl) ?_
    refine r_callV (κ := 9) (μ := [20]) E (hR (vw [20] (loX N M')) rfl) my_X10_waterAfter iv_X10_waterAfter ml_L_276 cm_LR ⟨by decide, rfl, rfl⟩ rfl rfl rfl rfl ⟨Nat.le_of_ble_eq_true rfl, Nat.le_of_ble_eq_true rfl, Nat.le_trans (show k + 8 + 0 ≤ k + 100 by omega) hk, Nat.le_trans (show n + 48 + 0 ≤ n + 1000 by omega) hn⟩ (Nat.le_of_ble_eq_true rfl) (dat dkW_c39 25 rfl) ?_
    rintro r R' hp2
    obtain ⟨⟨bv, rfl⟩, ht, hrel⟩ := P2 0 oobN M' rfl hp _ rfl r R' hp2
    refine ⟨_, Mrg_R, ?_⟩
    refine r_istore_6 E (dat dkW_c39 26 rfl) rfl rfl ?_
    refine r_aload_n E (dat dkW_c39 27 rfl) rfl rfl ?_
    refine r_callV (κ := 9) (μ := [20]) E (sp_X10_thrown l G _) my_X10_thrown iv_X10_thrown ml_L_178 cm_LR ⟨by decide, rfl, rfl⟩ rfl rfl rfl rfl ⟨Nat.le_of_ble_eq_true rfl, Nat.le_of_ble_eq_true rfl, Nat.le_trans (show k + 8 + 0 + 0 ≤ k + 100 by omega) hk, Nat.le_trans (show n + 48 + 0 + 0 ≤ n + 1000 by omega) hn⟩ (Nat.le_of_ble_eq_true rfl) (dat dkW_c39 28 rfl) ?_
    rintro _ _ ⟨rfl, rfl⟩
    refine ⟨_, Mrg_T, ?_⟩
    refine r_topE (show vw [20] (setm (loX N M') 20 (R' 0)) 0 0 6 = nI (0 + 1) from ht) ?_
    refine r_iload E (dat dkW_c39 29 rfl) rfl ?_
    refine r_icmp_eq (tgt := 1868) E (dat dkW_c39 30 rfl) rfl (fun _ => ?_) (fun h => absurd rfl h)
    refine r_iload E (dat dkW_c39 33 rfl) rfl ?_
    refine r_if_ne (tgt := 1885) E (dat dkW_c39 34 rfl) rfl (fun _ => ?_) (fun h => absurd h (by decide))
    refine r_goto (tgt := 2775) E (dat dkW_c39 44 rfl) rfl ?_
    refine r_wid (k2 := k + 100) (n2 := n + 1000) (by show k + 8 + 0 + 0 ≤ _; omega) (by show n + 48 + 0 + 0 ≤ _; omega) ?_
    refine r_back rfl (by simp [LW]) (kk _ (RLe_tr hrel (fun j hj => loX_lt hj) rfl))
  ·
    refine ⟨_, loX_m2, ?_⟩
    refine r_istore_5 E (dat dkW_c39 13 rfl) rfl rfl ?_
    refine r_aload_n E (dat dkW_c39 14 rfl) rfl rfl ?_
    refine r_aldX E (dat dkW_c39 15 rfl) rfl rfl ?_
    refine r_iload E (dat dkW_c39 16 rfl) rfl ?_
    refine r_iconst (v := 1) E (dat dkW_c39 17 rfl) rfl ?_
    refine r_iadd E (dat dkW_c39 18 rfl) ?_
    refine r_sld E hX hb hA hL (nI_add i 1) (show i + 1 < Ls by omega) (dat dkW_c39 19 rfl) ?_
    refine r_aldX E (dat dkW_c39 20 rfl) rfl rfl ?_
    refine r_iload E (dat dkW_c39 21 rfl) rfl ?_
    refine r_iconst (v := 2) E (dat dkW_c39 22 rfl) rfl ?_
    refine r_iadd E (dat dkW_c39 23 rfl) ?_
    refine r_sld E hX hb hA hL (nI_add i 2) (show i + 2 < Ls by omega) (dat dkW_c39 24 rfl) ?_
    refine r_callV (κ := 9) (μ := [20]) E (hR (vw [20] (loX N M')) rfl) my_X10_waterAfter iv_X10_waterAfter ml_L_276 cm_LR ⟨by decide, rfl, rfl⟩ rfl rfl rfl rfl ⟨Nat.le_of_ble_eq_true rfl, Nat.le_of_ble_eq_true rfl, Nat.le_trans (show k + 8 + 0 ≤ k + 100 by omega) hk, Nat.le_trans (show n + 48 + 0 ≤ n + 1000 by omega) hn⟩ (Nat.le_of_ble_eq_true rfl) (dat dkW_c39 25 rfl) ?_
    rintro r R' hp2
    obtain ⟨⟨bv, rfl⟩, ht, hrel⟩ := P2 1 argN M' rfl hp _ rfl r R' hp2
    refine ⟨_, Mrg_R, ?_⟩
    refine r_istore_6 E (dat dkW_c39 26 rfl) rfl rfl ?_
    refine r_aload_n E (dat dkW_c39 27 rfl) rfl rfl ?_
    refine r_callV (κ := 9) (μ := [20]) E (sp_X10_thrown l G _) my_X10_thrown iv_X10_thrown ml_L_178 cm_LR ⟨by decide, rfl, rfl⟩ rfl rfl rfl rfl ⟨Nat.le_of_ble_eq_true rfl, Nat.le_of_ble_eq_true rfl, Nat.le_trans (show k + 8 + 0 + 0 ≤ k + 100 by omega) hk, Nat.le_trans (show n + 48 + 0 + 0 ≤ n + 1000 by omega) hn⟩ (Nat.le_of_ble_eq_true rfl) (dat dkW_c39 28 rfl) ?_
    rintro _ _ ⟨rfl, rfl⟩
    refine ⟨_, Mrg_T, ?_⟩
    refine r_topE (show vw [20] (setm (loX N M') 20 (R' 0)) 0 0 6 = nI (1 + 1) from ht) ?_
    refine r_iload E (dat dkW_c39 29 rfl) rfl ?_
    refine r_icmp_eq (tgt := 1868) E (dat dkW_c39 30 rfl) rfl (fun _ => ?_) (fun h => absurd rfl h)
    refine r_iload E (dat dkW_c39 33 rfl) rfl ?_
    refine r_if_ne (tgt := 1885) E (dat dkW_c39 34 rfl) rfl (fun _ => ?_) (fun h => absurd h (by decide))
    refine r_goto (tgt := 2775) E (dat dkW_c39 44 rfl) rfl ?_
    refine r_wid (k2 := k + 100) (n2 := n + 1000) (by show k + 8 + 0 + 0 ≤ _; omega) (by show n + 48 + 0 + 0 ≤ _; omega) ?_
    refine r_back rfl (by simp [LW]) (kk _ (RLe_tr hrel (fun j hj => loX_lt hj) rfl))
set_option maxRecDepth 100000 in
set_option maxHeartbeats 8000000 in
theorem lb_40 {p : Program} {l : Launch} {e : Env} {s : State} {m : MethodId} {args : Array Value} {below : List Frame} {meth : Method} {c : Code} {G : GT} {ad : Nat → Nat → Nat} {Q : State → Prop} {k n : Nat} (hst : l.stackTraces = false) (E : EN p s m args meth c G (KL, lkC, ad) cL_law RL 9 (some .boolean)) {b Ls : Nat} {xs : Nat → Int32} (hX : va_X b Ls xs s s.heap) (hb : b < s.heap.size) (hA : ¬ AS (KL, lkC, ad) s.heap.size b) (hL : Ls ≤ 3072) {i : Nat} (hi : i + 6 ≤ Ls) {N : Mem} {B : Int} (H : RLe N (vw [20] N) B) (h0 : 0 ≤ B) (h1 : B + 300 < 2147483648) (hk : k + 100 ≤ room_1.cells) (hn : n + 1000 ≤ room_1.slots)
    (kk : ∀ N2 : Mem, RLe N2 (vw [20] N2) (B + 279) → WM p l e room_1 s m args below meth c G (KL, lkC, ad) 9 Q N2 (k + 100) (n + 1000) 2775 [some (.inl (.ref b)), some (rv 0 0), some (rv 20 0), some (rv 19 0), some (iv (nI i)), none, none, none, none] []) :
    WM p l e room_1 s m args below meth c G (KL, lkC, ad) 9 Q N k n 1888 [some (.inl (.ref b)), some (rv 0 0), some (rv 20 0), some (rv 19 0), some (iv (nI i)), none, none, none, none] [] := by
  obtain ⟨post, XP, post2, hM, hR, hr, hE, P1, P2⟩ := pa_minutesUntilDry l hst G H h0 h1 (xs (i + 1))
  refine r_aload_n E (dat dkW_c40 0 rfl) rfl rfl ?_
  refine r_aldX E (dat dkW_c40 1 rfl) rfl rfl ?_
  refine r_iload E (dat dkW_c40 2 rfl) rfl ?_
  refine r_iconst (v := 1) E (dat dkW_c40 3 rfl) rfl ?_
  refine r_iadd E (dat dkW_c40 4 rfl) ?_
  refine r_sld E hX hb hA hL (nI_add i 1) (show i + 1 < Ls by omega) (dat dkW_c40 5 rfl) ?_
  refine r_aload_n E (dat dkW_c40 6 rfl) rfl rfl ?_
  refine r_callSW (N := 3) (μ := []) E (sp_L_minutesUntilDry l G (xs (i + 1)) N post XP hM hr (fun Ex M' h => by simpa using hE Ex M' h)) ini_L (bg_5 107 (by decide +kernel)) ⟨by decide +kernel, by decide +kernel, by decide +kernel⟩ (bg_5 106 (by decide +kernel)) ml_L_277 cm_LO rfl rfl ⟨Nat.le_of_ble_eq_true rfl, Nat.le_of_ble_eq_true rfl, Nat.le_trans (Nat.add_le_add_left (Nat.le_of_ble_eq_true rfl) k) hk, Nat.le_trans (Nat.add_le_add_left (Nat.le_of_ble_eq_true rfl) n) hn⟩ (Nat.le_of_ble_eq_true rfl) (dat dkW_c40 7 rfl) ?_
  rintro r M9 (⟨v, M', hp, rfl, rfl⟩ | ⟨M', hp, rfl, rfl⟩)
  ·
    refine ⟨_, loV_m, ?_⟩
    refine r_istore_5 E (dat dkW_c40 8 rfl) rfl rfl ?_
    refine r_aload_n E (dat dkW_c40 9 rfl) rfl rfl ?_
    refine r_aldX E (dat dkW_c40 10 rfl) rfl rfl ?_
    refine r_iload E (dat dkW_c40 11 rfl) rfl ?_
    refine r_iconst (v := 1) E (dat dkW_c40 12 rfl) rfl ?_
    refine r_iadd E (dat dkW_c40 13 rfl) ?_
    refine r_sld E hX hb hA hL (nI_add i 1) (show i + 1 < Ls by omega) (dat dkW_c40 14 rfl) ?_
    refine r_callV (κ := 9) (μ := [20]) E (hR (vw [20] (loV N M' v)) rfl) my_X10_minutesUntilDry iv_X10_minutesUntilDry ml_L_279 cm_LR ⟨by decide, rfl, rfl⟩ rfl rfl rfl rfl ⟨Nat.le_of_ble_eq_true rfl, Nat.le_of_ble_eq_true rfl, Nat.le_trans (show k + 4 + 0 ≤ k + 100 by omega) hk, Nat.le_trans (show n + 24 + 0 ≤ n + 1000 by omega) hn⟩ (Nat.le_of_ble_eq_true rfl) (dat dkW_c40 15 rfl) ?_
    rintro r R' hp2
    obtain ⟨rfl, ht, hrel⟩ := P1 v M' hp _ rfl r R' hp2
    refine ⟨_, Mrg_R, ?_⟩
    refine r_istore_6 E (dat dkW_c40 16 rfl) rfl rfl ?_
    refine r_aload_n E (dat dkW_c40 17 rfl) rfl rfl ?_
    refine r_callV (κ := 9) (μ := [20]) E (sp_X10_thrown l G _) my_X10_thrown iv_X10_thrown ml_L_178 cm_LR ⟨by decide, rfl, rfl⟩ rfl rfl rfl rfl ⟨Nat.le_of_ble_eq_true rfl, Nat.le_of_ble_eq_true rfl, Nat.le_trans (show k + 4 + 0 + 0 ≤ k + 100 by omega) hk, Nat.le_trans (show n + 24 + 0 + 0 ≤ n + 1000 by omega) hn⟩ (Nat.le_of_ble_eq_true rfl) (dat dkW_c40 18 rfl) ?_
    rintro _ _ ⟨rfl, rfl⟩
    refine ⟨_, Mrg_T, ?_⟩
    refine r_topE (show vw [20] (setm (loV N M' v) 20 (R' 0)) 0 0 6 = 0 from ht) ?_
    refine r_iload E (dat dkW_c40 19 rfl) rfl ?_
    refine r_icmp_eq (tgt := 1924) E (dat dkW_c40 20 rfl) rfl (fun _ => ?_) (fun h => absurd rfl h)
    refine r_iload E (dat dkW_c40 23 rfl) rfl ?_
    refine r_if_ne (tgt := 1941) E (dat dkW_c40 24 rfl) rfl (fun h => absurd rfl h) (fun _ => ?_)
    refine r_aload_n E (dat dkW_c40 25 rfl) rfl rfl ?_
    refine r_iconst (v := 0) E (dat dkW_c40 26 rfl) rfl ?_
    refine r_lald (N := 1) E (dat dkW_c40 27 rfl) rfl rfl (by unfold vp_in; decide) ?_
    refine r_iload E (dat dkW_c40 28 rfl) rfl ?_
    refine r_i2l E (dat dkW_c40 29 rfl) ?_
    refine r_lcmp E (dat dkW_c40 30 rfl) ?_
    refine r_if_eq (tgt := 1941) E (dat dkW_c40 31 rfl) rfl (fun _ => ?_) (fun h9 => absurd (lg_self v.toInt64) h9)
    refine r_goto (tgt := 2775) E (dat dkW_c40 34 rfl) rfl ?_
    refine r_wid (k2 := k + 100) (n2 := n + 1000) (by show k + 4 + 0 + 0 ≤ _; omega) (by show n + 24 + 0 + 0 ≤ _; omega) ?_
    refine r_back rfl (by simp [LW]) (kk _ (RLe_tr hrel (fun j hj => loV_lt hj) rfl))
  ·
    refine ⟨_, loX_m2, ?_⟩
    refine r_istore_5 E (dat dkW_c40 8 rfl) rfl rfl ?_
    refine r_aload_n E (dat dkW_c40 9 rfl) rfl rfl ?_
    refine r_aldX E (dat dkW_c40 10 rfl) rfl rfl ?_
    refine r_iload E (dat dkW_c40 11 rfl) rfl ?_
    refine r_iconst (v := 1) E (dat dkW_c40 12 rfl) rfl ?_
    refine r_iadd E (dat dkW_c40 13 rfl) ?_
    refine r_sld E hX hb hA hL (nI_add i 1) (show i + 1 < Ls by omega) (dat dkW_c40 14 rfl) ?_
    refine r_callV (κ := 9) (μ := [20]) E (hR (vw [20] (loX N M')) rfl) my_X10_minutesUntilDry iv_X10_minutesUntilDry ml_L_279 cm_LR ⟨by decide, rfl, rfl⟩ rfl rfl rfl rfl ⟨Nat.le_of_ble_eq_true rfl, Nat.le_of_ble_eq_true rfl, Nat.le_trans (show k + 4 + 0 ≤ k + 100 by omega) hk, Nat.le_trans (show n + 24 + 0 ≤ n + 1000 by omega) hn⟩ (Nat.le_of_ble_eq_true rfl) (dat dkW_c40 15 rfl) ?_
    rintro r R' hp2
    obtain ⟨⟨bv, rfl⟩, ht, hrel⟩ := P2 0 oobN M' rfl hp _ rfl r R' hp2
    refine ⟨_, Mrg_R, ?_⟩
    refine r_istore_6 E (dat dkW_c40 16 rfl) rfl rfl ?_
    refine r_aload_n E (dat dkW_c40 17 rfl) rfl rfl ?_
    refine r_callV (κ := 9) (μ := [20]) E (sp_X10_thrown l G _) my_X10_thrown iv_X10_thrown ml_L_178 cm_LR ⟨by decide, rfl, rfl⟩ rfl rfl rfl rfl ⟨Nat.le_of_ble_eq_true rfl, Nat.le_of_ble_eq_true rfl, Nat.le_trans (show k + 4 + 0 + 0 ≤ k + 100 by omega) hk, Nat.le_trans (show n + 24 + 0 + 0 ≤ n + 1000 by omega) hn⟩ (Nat.le_of_ble_eq_true rfl) (dat dkW_c40 18 rfl) ?_
    rintro _ _ ⟨rfl, rfl⟩
    refine ⟨_, Mrg_T, ?_⟩
    refine r_topE (show vw [20] (setm (loX N M') 20 (R' 0)) 0 0 6 = nI (0 + 1) from ht) ?_
    refine r_iload E (dat dkW_c40 19 rfl) rfl ?_
    refine r_icmp_eq (tgt := 1924) E (dat dkW_c40 20 rfl) rfl (fun _ => ?_) (fun h => absurd rfl h)
    refine r_iload E (dat dkW_c40 23 rfl) rfl ?_
    refine r_if_ne (tgt := 1941) E (dat dkW_c40 24 rfl) rfl (fun _ => ?_) (fun h => absurd h (by decide))
    refine r_goto (tgt := 2775) E (dat dkW_c40 34 rfl) rfl ?_
    refine r_wid (k2 := k + 100) (n2 := n + 1000) (by show k + 4 + 0 + 0 ≤ _; omega) (by show n + 24 + 0 + 0 ≤ _; omega) ?_
    refine r_back rfl (by simp [LW]) (kk _ (RLe_tr hrel (fun j hj => loX_lt hj) rfl))
set_option maxRecDepth 100000 in
set_option maxHeartbeats 8000000 in
theorem lb_41 {p : Program} {l : Launch} {e : Env} {s : State} {m : MethodId} {args : Array Value} {below : List Frame} {meth : Method} {c : Code} {G : GT} {ad : Nat → Nat → Nat} {Q : State → Prop} {k n : Nat} (hst : l.stackTraces = false) (E : EN p s m args meth c G (KL, lkC, ad) cL_law RL 9 (some .boolean)) {b Ls : Nat} {xs : Nat → Int32} (hX : va_X b Ls xs s s.heap) (hb : b < s.heap.size) (hA : ¬ AS (KL, lkC, ad) s.heap.size b) (hL : Ls ≤ 3072) {i : Nat} (hi : i + 6 ≤ Ls) {N : Mem} {B : Int} (H : RLe N (vw [20] N) B) (h0 : 0 ≤ B) (h1 : B + 300 < 2147483648) (hk : k + 100 ≤ room_1.cells) (hn : n + 1000 ≤ room_1.slots)
    (kk : ∀ N2 : Mem, RLe N2 (vw [20] N2) (B + 279) → WM p l e room_1 s m args below meth c G (KL, lkC, ad) 9 Q N2 (k + 100) (n + 1000) 2775 [some (.inl (.ref b)), some (rv 0 0), some (rv 20 0), some (rv 19 0), some (iv (nI i)), none, none, none, none] []) :
    WM p l e room_1 s m args below meth c G (KL, lkC, ad) 9 Q N k n 1944 [some (.inl (.ref b)), some (rv 0 0), some (rv 20 0), some (rv 19 0), some (iv (nI i)), none, none, none, none] [] := by
  obtain ⟨post, XP, post2, hM, hR, hr, hE, P1, P2⟩ := pa_drainedAfter l hst G H h0 h1 (xs (i + 1))
  refine r_aload_n E (dat dkW_c41 0 rfl) rfl rfl ?_
  refine r_aldX E (dat dkW_c41 1 rfl) rfl rfl ?_
  refine r_iload E (dat dkW_c41 2 rfl) rfl ?_
  refine r_iconst (v := 1) E (dat dkW_c41 3 rfl) rfl ?_
  refine r_iadd E (dat dkW_c41 4 rfl) ?_
  refine r_sld E hX hb hA hL (nI_add i 1) (show i + 1 < Ls by omega) (dat dkW_c41 5 rfl) ?_
  refine r_aload_n E (dat dkW_c41 6 rfl) rfl rfl ?_
  refine r_callSW (N := 3) (μ := []) E (sp_L_drainedAfter l G (xs (i + 1)) N post XP hM hr (fun Ex M' h => by simpa using hE Ex M' h)) ini_L (bg_5 114 (by decide +kernel)) ⟨by decide +kernel, by decide +kernel, by decide +kernel⟩ (bg_5 113 (by decide +kernel)) ml_L_280 cm_LO rfl rfl ⟨Nat.le_of_ble_eq_true rfl, Nat.le_of_ble_eq_true rfl, Nat.le_trans (Nat.add_le_add_left (Nat.le_of_ble_eq_true rfl) k) hk, Nat.le_trans (Nat.add_le_add_left (Nat.le_of_ble_eq_true rfl) n) hn⟩ (Nat.le_of_ble_eq_true rfl) (dat dkW_c41 7 rfl) ?_
  rintro r M9 (⟨v, M', hp, rfl, rfl⟩ | ⟨M', hp, rfl, rfl⟩)
  ·
    refine ⟨_, loV_m, ?_⟩
    refine r_istore_5 E (dat dkW_c41 8 rfl) rfl rfl ?_
    refine r_aload_n E (dat dkW_c41 9 rfl) rfl rfl ?_
    refine r_aldX E (dat dkW_c41 10 rfl) rfl rfl ?_
    refine r_iload E (dat dkW_c41 11 rfl) rfl ?_
    refine r_iconst (v := 1) E (dat dkW_c41 12 rfl) rfl ?_
    refine r_iadd E (dat dkW_c41 13 rfl) ?_
    refine r_sld E hX hb hA hL (nI_add i 1) (show i + 1 < Ls by omega) (dat dkW_c41 14 rfl) ?_
    refine r_callV (κ := 9) (μ := [20]) E (hR (vw [20] (loV N M' v)) rfl) my_X10_drainedAfter iv_X10_drainedAfter ml_L_282 cm_LR ⟨by decide, rfl, rfl⟩ rfl rfl rfl rfl ⟨Nat.le_of_ble_eq_true rfl, Nat.le_of_ble_eq_true rfl, Nat.le_trans (show k + 4 + 0 ≤ k + 100 by omega) hk, Nat.le_trans (show n + 24 + 0 ≤ n + 1000 by omega) hn⟩ (Nat.le_of_ble_eq_true rfl) (dat dkW_c41 15 rfl) ?_
    rintro r R' hp2
    obtain ⟨rfl, ht, hrel⟩ := P1 v M' hp _ rfl r R' hp2
    refine ⟨_, Mrg_R, ?_⟩
    refine r_istore_6 E (dat dkW_c41 16 rfl) rfl rfl ?_
    refine r_aload_n E (dat dkW_c41 17 rfl) rfl rfl ?_
    refine r_callV (κ := 9) (μ := [20]) E (sp_X10_thrown l G _) my_X10_thrown iv_X10_thrown ml_L_178 cm_LR ⟨by decide, rfl, rfl⟩ rfl rfl rfl rfl ⟨Nat.le_of_ble_eq_true rfl, Nat.le_of_ble_eq_true rfl, Nat.le_trans (show k + 4 + 0 + 0 ≤ k + 100 by omega) hk, Nat.le_trans (show n + 24 + 0 + 0 ≤ n + 1000 by omega) hn⟩ (Nat.le_of_ble_eq_true rfl) (dat dkW_c41 18 rfl) ?_
    rintro _ _ ⟨rfl, rfl⟩
    refine ⟨_, Mrg_T, ?_⟩
    refine r_topE (show vw [20] (setm (loV N M' v) 20 (R' 0)) 0 0 6 = 0 from ht) ?_
    refine r_iload E (dat dkW_c41 19 rfl) rfl ?_
    refine r_icmp_eq (tgt := 1980) E (dat dkW_c41 20 rfl) rfl (fun _ => ?_) (fun h => absurd rfl h)
    refine r_iload E (dat dkW_c41 23 rfl) rfl ?_
    refine r_if_ne (tgt := 1997) E (dat dkW_c41 24 rfl) rfl (fun h => absurd rfl h) (fun _ => ?_)
    refine r_aload_n E (dat dkW_c41 25 rfl) rfl rfl ?_
    refine r_iconst (v := 0) E (dat dkW_c41 26 rfl) rfl ?_
    refine r_lald (N := 1) E (dat dkW_c41 27 rfl) rfl rfl (by unfold vp_in; decide) ?_
    refine r_iload E (dat dkW_c41 28 rfl) rfl ?_
    refine r_i2l E (dat dkW_c41 29 rfl) ?_
    refine r_lcmp E (dat dkW_c41 30 rfl) ?_
    refine r_if_eq (tgt := 1997) E (dat dkW_c41 31 rfl) rfl (fun _ => ?_) (fun h9 => absurd (lg_self v.toInt64) h9)
    refine r_goto (tgt := 2775) E (dat dkW_c41 34 rfl) rfl ?_
    refine r_wid (k2 := k + 100) (n2 := n + 1000) (by show k + 4 + 0 + 0 ≤ _; omega) (by show n + 24 + 0 + 0 ≤ _; omega) ?_
    refine r_back rfl (by simp [LW]) (kk _ (RLe_tr hrel (fun j hj => loV_lt hj) rfl))
  ·
    refine ⟨_, loX_m2, ?_⟩
    refine r_istore_5 E (dat dkW_c41 8 rfl) rfl rfl ?_
    refine r_aload_n E (dat dkW_c41 9 rfl) rfl rfl ?_
    refine r_aldX E (dat dkW_c41 10 rfl) rfl rfl ?_
    refine r_iload E (dat dkW_c41 11 rfl) rfl ?_
    refine r_iconst (v := 1) E (dat dkW_c41 12 rfl) rfl ?_
    refine r_iadd E (dat dkW_c41 13 rfl) ?_
    refine r_sld E hX hb hA hL (nI_add i 1) (show i + 1 < Ls by omega) (dat dkW_c41 14 rfl) ?_
    refine r_callV (κ := 9) (μ := [20]) E (hR (vw [20] (loX N M')) rfl) my_X10_drainedAfter iv_X10_drainedAfter ml_L_282 cm_LR ⟨by decide, rfl, rfl⟩ rfl rfl rfl rfl ⟨Nat.le_of_ble_eq_true rfl, Nat.le_of_ble_eq_true rfl, Nat.le_trans (show k + 4 + 0 ≤ k + 100 by omega) hk, Nat.le_trans (show n + 24 + 0 ≤ n + 1000 by omega) hn⟩ (Nat.le_of_ble_eq_true rfl) (dat dkW_c41 15 rfl) ?_
    rintro r R' hp2
    obtain ⟨⟨bv, rfl⟩, ht, hrel⟩ := P2 0 argN M' rfl hp _ rfl r R' hp2
    refine ⟨_, Mrg_R, ?_⟩
    refine r_istore_6 E (dat dkW_c41 16 rfl) rfl rfl ?_
    refine r_aload_n E (dat dkW_c41 17 rfl) rfl rfl ?_
    refine r_callV (κ := 9) (μ := [20]) E (sp_X10_thrown l G _) my_X10_thrown iv_X10_thrown ml_L_178 cm_LR ⟨by decide, rfl, rfl⟩ rfl rfl rfl rfl ⟨Nat.le_of_ble_eq_true rfl, Nat.le_of_ble_eq_true rfl, Nat.le_trans (show k + 4 + 0 + 0 ≤ k + 100 by omega) hk, Nat.le_trans (show n + 24 + 0 + 0 ≤ n + 1000 by omega) hn⟩ (Nat.le_of_ble_eq_true rfl) (dat dkW_c41 18 rfl) ?_
    rintro _ _ ⟨rfl, rfl⟩
    refine ⟨_, Mrg_T, ?_⟩
    refine r_topE (show vw [20] (setm (loX N M') 20 (R' 0)) 0 0 6 = nI (0 + 1) from ht) ?_
    refine r_iload E (dat dkW_c41 19 rfl) rfl ?_
    refine r_icmp_eq (tgt := 1980) E (dat dkW_c41 20 rfl) rfl (fun _ => ?_) (fun h => absurd rfl h)
    refine r_iload E (dat dkW_c41 23 rfl) rfl ?_
    refine r_if_ne (tgt := 1997) E (dat dkW_c41 24 rfl) rfl (fun _ => ?_) (fun h => absurd h (by decide))
    refine r_goto (tgt := 2775) E (dat dkW_c41 34 rfl) rfl ?_
    refine r_wid (k2 := k + 100) (n2 := n + 1000) (by show k + 4 + 0 + 0 ≤ _; omega) (by show n + 24 + 0 + 0 ≤ _; omega) ?_
    refine r_back rfl (by simp [LW]) (kk _ (RLe_tr hrel (fun j hj => loX_lt hj) rfl))
set_option maxRecDepth 100000 in
set_option maxHeartbeats 8000000 in
theorem lb_42 {p : Program} {l : Launch} {e : Env} {s : State} {m : MethodId} {args : Array Value} {below : List Frame} {meth : Method} {c : Code} {G : GT} {ad : Nat → Nat → Nat} {Q : State → Prop} {k n : Nat} (hst : l.stackTraces = false) (E : EN p s m args meth c G (KL, lkC, ad) cL_law RL 9 (some .boolean)) {b Ls : Nat} {xs : Nat → Int32} (hX : va_X b Ls xs s s.heap) (hb : b < s.heap.size) (hA : ¬ AS (KL, lkC, ad) s.heap.size b) (hL : Ls ≤ 3072) {i : Nat} (hi : i + 6 ≤ Ls) {N : Mem} {B : Int} (H : RLe N (vw [20] N) B) (h0 : 0 ≤ B) (h1 : B + 300 < 2147483648) (hk : k + 100 ≤ room_1.cells) (hn : n + 1000 ≤ room_1.slots)
    (kk : ∀ N2 : Mem, RLe N2 (vw [20] N2) (B + 279) → WM p l e room_1 s m args below meth c G (KL, lkC, ad) 9 Q N2 (k + 100) (n + 1000) 2775 [some (.inl (.ref b)), some (rv 0 0), some (rv 20 0), some (rv 19 0), some (iv (nI i)), none, none, none, none] []) :
    WM p l e room_1 s m args below meth c G (KL, lkC, ad) 9 Q N k n 2000 [some (.inl (.ref b)), some (rv 0 0), some (rv 20 0), some (rv 19 0), some (iv (nI i)), none, none, none, none] [] := by
  obtain ⟨post, post2, hM, hR, P⟩ := pa_meanWater l hst G H h0 h1
  refine r_aload_n E (dat dkW_c42 0 rfl) rfl rfl ?_
  refine r_callV (κ := 8) (μ := []) E hM my_X9_meanWater iv_X9_meanWater ml_L_283 cm_LC ⟨by decide, rfl, rfl⟩ rfl rfl rfl rfl ⟨Nat.le_of_ble_eq_true rfl, Nat.le_of_ble_eq_true rfl, Nat.le_trans (Nat.add_le_add_left (Nat.le_of_ble_eq_true rfl) k) hk, Nat.le_trans (Nat.add_le_add_left (Nat.le_of_ble_eq_true rfl) n) hn⟩ (Nat.le_of_ble_eq_true rfl) (dat dkW_c42 1 rfl) ?_
  rintro r M' hp
  obtain ⟨⟨v, rfl⟩, P2⟩ := P r M' hp
  refine ⟨_, loX_m, ?_⟩
  refine r_dst E (dat dkW_c42 2 rfl) (Nat.le_of_ble_eq_true rfl) rfl (hc_of 4 rfl rfl) rfl ?_
  refine r_aload_n E (dat dkW_c42 3 rfl) rfl rfl ?_
  refine r_callV (κ := 9) (μ := [20]) E (hR (vw [20] (loX N M')) rfl) my_X10_meanWater iv_X10_meanWater ml_L_287 cm_LR ⟨by decide, rfl, rfl⟩ rfl rfl rfl rfl ⟨Nat.le_of_ble_eq_true rfl, Nat.le_of_ble_eq_true rfl, Nat.le_trans (show k + 0 + 0 ≤ k + 100 by omega) hk, Nat.le_trans (show n + 0 + 0 ≤ n + 1000 by omega) hn⟩ (Nat.le_of_ble_eq_true rfl) (dat dkW_c42 4 rfl) ?_
  rintro r R' hp2
  obtain ⟨rfl, hrel⟩ := P2 _ rfl r R' hp2
  refine ⟨_, Mrg_R, ?_⟩
  refine r_dst E (dat dkW_c42 5 rfl) (Nat.le_of_ble_eq_true rfl) rfl (hc_of 6 rfl rfl) rfl ?_
  by_cases hd9 : Op.cmpValue (FP.dcmp v v) .l = 0
  ·
    refine r_dld E (dat dkW_c42 6 rfl) rfl ?_
    refine r_dld E (dat dkW_c42 7 rfl) rfl ?_
    refine r_dcmp E (dat dkW_c42 8 rfl) ?_
    refine r_if_eq (tgt := 2038) E (dat dkW_c42 9 rfl) rfl (fun _ => ?_) (fun h => absurd hd9 h)
    refine r_goto (tgt := 2775) E (dat dkW_c42 20 rfl) rfl ?_
    refine r_wid (k2 := k + 100) (n2 := n + 1000) (by show k + 0 + 0 ≤ _; omega) (by show n + 0 + 0 ≤ _; omega) ?_
    refine r_back rfl (by simp [LW]) (kk _ (RLe_tr hrel (fun j hj => loX_lt hj) rfl))
  ·
    refine r_dld E (dat dkW_c42 6 rfl) rfl ?_
    refine r_dld E (dat dkW_c42 7 rfl) rfl ?_
    refine r_dcmp E (dat dkW_c42 8 rfl) ?_
    refine r_if_eq (tgt := 2038) E (dat dkW_c42 9 rfl) rfl (fun h => absurd h hd9) (fun _ => ?_)
    refine r_dld E (dat dkW_c42 10 rfl) rfl ?_
    refine r_dld E (dat dkW_c42 11 rfl) rfl ?_
    refine r_dcmp E (dat dkW_c42 12 rfl) ?_
    refine r_if_eq (tgt := 2036) E (dat dkW_c42 13 rfl) rfl (fun h => absurd h hd9) (fun _ => ?_)
    refine r_dld E (dat dkW_c42 14 rfl) rfl ?_
    refine r_dld E (dat dkW_c42 15 rfl) rfl ?_
    refine r_dcmp E (dat dkW_c42 16 rfl) ?_
    refine r_if_ne (tgt := 2038) E (dat dkW_c42 17 rfl) rfl (fun _ => ?_) (fun h => absurd h hd9)
    refine r_goto (tgt := 2775) E (dat dkW_c42 20 rfl) rfl ?_
    refine r_wid (k2 := k + 100) (n2 := n + 1000) (by show k + 0 + 0 ≤ _; omega) (by show n + 0 + 0 ≤ _; omega) ?_
    refine r_back rfl (by simp [LW]) (kk _ (RLe_tr hrel (fun j hj => loX_lt hj) rfl))
set_option maxRecDepth 100000 in
set_option maxHeartbeats 8000000 in
theorem lb_43 {p : Program} {l : Launch} {e : Env} {s : State} {m : MethodId} {args : Array Value} {below : List Frame} {meth : Method} {c : Code} {G : GT} {ad : Nat → Nat → Nat} {Q : State → Prop} {k n : Nat} (hst : l.stackTraces = false) (E : EN p s m args meth c G (KL, lkC, ad) cL_law RL 9 (some .boolean)) {b Ls : Nat} {xs : Nat → Int32} (hX : va_X b Ls xs s s.heap) (hb : b < s.heap.size) (hA : ¬ AS (KL, lkC, ad) s.heap.size b) (hL : Ls ≤ 3072) {i : Nat} (hi : i + 6 ≤ Ls) {N : Mem} {B : Int} (H : RLe N (vw [20] N) B) (h0 : 0 ≤ B) (h1 : B + 300 < 2147483648) (hk : k + 100 ≤ room_1.cells) (hn : n + 1000 ≤ room_1.slots)
    (kk : ∀ N2 : Mem, RLe N2 (vw [20] N2) (B + 279) → WM p l e room_1 s m args below meth c G (KL, lkC, ad) 9 Q N2 (k + 100) (n + 1000) 2775 [some (.inl (.ref b)), some (rv 0 0), some (rv 20 0), some (rv 19 0), some (iv (nI i)), none, none, none, none] []) :
    WM p l e room_1 s m args below meth c G (KL, lkC, ad) 9 Q N k n 2041 [some (.inl (.ref b)), some (rv 0 0), some (rv 20 0), some (rv 19 0), some (iv (nI i)), none, none, none, none] [] := by
  obtain ⟨post, post2, hM, hR, P⟩ := pa_wetPart l hst G H h0 h1
  refine r_aload_n E (dat dkW_c43 0 rfl) rfl rfl ?_
  refine r_callV (κ := 8) (μ := []) E hM my_X9_wetPart iv_X9_wetPart ml_L_288 cm_LC ⟨by decide, rfl, rfl⟩ rfl rfl rfl rfl ⟨Nat.le_of_ble_eq_true rfl, Nat.le_of_ble_eq_true rfl, Nat.le_trans (Nat.add_le_add_left (Nat.le_of_ble_eq_true rfl) k) hk, Nat.le_trans (Nat.add_le_add_left (Nat.le_of_ble_eq_true rfl) n) hn⟩ (Nat.le_of_ble_eq_true rfl) (dat dkW_c43 1 rfl) ?_
  rintro r M' hp
  obtain ⟨⟨v, rfl, hv⟩, P2⟩ := P r M' hp
  refine ⟨_, loX_m, ?_⟩
  refine r_f2d E (dat dkW_c43 2 rfl) hv ?_
  refine r_dst E (dat dkW_c43 3 rfl) (Nat.le_of_ble_eq_true rfl) rfl (hc_of 4 rfl rfl) rfl ?_
  refine r_aload_n E (dat dkW_c43 4 rfl) rfl rfl ?_
  refine r_callV (κ := 9) (μ := [20]) E (hR (vw [20] (loX N M')) rfl) my_X10_wetPart iv_X10_wetPart ml_L_292 cm_LR ⟨by decide, rfl, rfl⟩ rfl rfl rfl rfl ⟨Nat.le_of_ble_eq_true rfl, Nat.le_of_ble_eq_true rfl, Nat.le_trans (show k + 0 + 0 ≤ k + 100 by omega) hk, Nat.le_trans (show n + 0 + 0 ≤ n + 1000 by omega) hn⟩ (Nat.le_of_ble_eq_true rfl) (dat dkW_c43 5 rfl) ?_
  rintro r R' hp2
  obtain ⟨rfl, hrel⟩ := P2 _ rfl r R' hp2
  refine ⟨_, Mrg_R, ?_⟩
  refine r_f2d E (dat dkW_c43 6 rfl) hv ?_
  refine r_dst E (dat dkW_c43 7 rfl) (Nat.le_of_ble_eq_true rfl) rfl (hc_of 6 rfl rfl) rfl ?_
  by_cases hd9 : Op.cmpValue (FP.dcmp (FP.f2d v) (FP.f2d v)) .l = 0
  ·
    refine r_dld E (dat dkW_c43 8 rfl) rfl ?_
    refine r_dld E (dat dkW_c43 9 rfl) rfl ?_
    refine r_dcmp E (dat dkW_c43 10 rfl) ?_
    refine r_if_eq (tgt := 2081) E (dat dkW_c43 11 rfl) rfl (fun _ => ?_) (fun h => absurd hd9 h)
    refine r_goto (tgt := 2775) E (dat dkW_c43 22 rfl) rfl ?_
    refine r_wid (k2 := k + 100) (n2 := n + 1000) (by show k + 0 + 0 ≤ _; omega) (by show n + 0 + 0 ≤ _; omega) ?_
    refine r_back rfl (by simp [LW]) (kk _ (RLe_tr hrel (fun j hj => loX_lt hj) rfl))
  ·
    refine r_dld E (dat dkW_c43 8 rfl) rfl ?_
    refine r_dld E (dat dkW_c43 9 rfl) rfl ?_
    refine r_dcmp E (dat dkW_c43 10 rfl) ?_
    refine r_if_eq (tgt := 2081) E (dat dkW_c43 11 rfl) rfl (fun h => absurd h hd9) (fun _ => ?_)
    refine r_dld E (dat dkW_c43 12 rfl) rfl ?_
    refine r_dld E (dat dkW_c43 13 rfl) rfl ?_
    refine r_dcmp E (dat dkW_c43 14 rfl) ?_
    refine r_if_eq (tgt := 2079) E (dat dkW_c43 15 rfl) rfl (fun h => absurd h hd9) (fun _ => ?_)
    refine r_dld E (dat dkW_c43 16 rfl) rfl ?_
    refine r_dld E (dat dkW_c43 17 rfl) rfl ?_
    refine r_dcmp E (dat dkW_c43 18 rfl) ?_
    refine r_if_ne (tgt := 2081) E (dat dkW_c43 19 rfl) rfl (fun _ => ?_) (fun h => absurd h hd9)
    refine r_goto (tgt := 2775) E (dat dkW_c43 22 rfl) rfl ?_
    refine r_wid (k2 := k + 100) (n2 := n + 1000) (by show k + 0 + 0 ≤ _; omega) (by show n + 0 + 0 ≤ _; omega) ?_
    refine r_back rfl (by simp [LW]) (kk _ (RLe_tr hrel (fun j hj => loX_lt hj) rfl))
set_option maxRecDepth 100000 in
set_option maxHeartbeats 8000000 in
theorem lb_44 {p : Program} {l : Launch} {e : Env} {s : State} {m : MethodId} {args : Array Value} {below : List Frame} {meth : Method} {c : Code} {G : GT} {ad : Nat → Nat → Nat} {Q : State → Prop} {k n : Nat} (hst : l.stackTraces = false) (E : EN p s m args meth c G (KL, lkC, ad) cL_law RL 9 (some .boolean)) {b Ls : Nat} {xs : Nat → Int32} (hX : va_X b Ls xs s s.heap) (hb : b < s.heap.size) (hA : ¬ AS (KL, lkC, ad) s.heap.size b) (hL : Ls ≤ 3072) {i : Nat} (hi : i + 6 ≤ Ls) {N : Mem} {B : Int} (H : RLe N (vw [20] N) B) (h0 : 0 ≤ B) (h1 : B + 300 < 2147483648) (hk : k + 100 ≤ room_1.cells) (hn : n + 1000 ≤ room_1.slots)
    (kk : ∀ N2 : Mem, RLe N2 (vw [20] N2) (B + 279) → WM p l e room_1 s m args below meth c G (KL, lkC, ad) 9 Q N2 (k + 100) (n + 1000) 2775 [some (.inl (.ref b)), some (rv 0 0), some (rv 20 0), some (rv 19 0), some (iv (nI i)), none, none, none, none] []) :
    WM p l e room_1 s m args below meth c G (KL, lkC, ad) 9 Q N k n 2084 [some (.inl (.ref b)), some (rv 0 0), some (rv 20 0), some (rv 19 0), some (iv (nI i)), none, none, none, none] [] := by
  obtain ⟨post, post2, hM, hR, P⟩ := pa_isConsistent l hst G H h0 h1
  refine r_aload_n E (dat dkW_c44 0 rfl) rfl rfl ?_
  refine r_callV (κ := 8) (μ := []) E hM my_X9_isConsistent iv_X9_isConsistent ml_L_293 cm_LC ⟨by decide, rfl, rfl⟩ rfl rfl rfl rfl ⟨Nat.le_of_ble_eq_true rfl, Nat.le_of_ble_eq_true rfl, Nat.le_trans (Nat.add_le_add_left (Nat.le_of_ble_eq_true rfl) k) hk, Nat.le_trans (Nat.add_le_add_left (Nat.le_of_ble_eq_true rfl) n) hn⟩ (Nat.le_of_ble_eq_true rfl) (dat dkW_c44 1 rfl) ?_
  rintro r M' hp
  obtain ⟨⟨v, rfl⟩, P2⟩ := P r M' hp
  refine ⟨_, loX_m, ?_⟩
  refine r_aload_n E (dat dkW_c44 2 rfl) rfl rfl ?_
  refine r_callV (κ := 9) (μ := [20]) E (hR (vw [20] (loX N M')) rfl) my_X10_isConsistent iv_X10_isConsistent ml_L_297 cm_LR ⟨by decide, rfl, rfl⟩ rfl rfl rfl rfl ⟨Nat.le_of_ble_eq_true rfl, Nat.le_of_ble_eq_true rfl, Nat.le_trans (show k + 0 + 0 ≤ k + 100 by omega) hk, Nat.le_trans (show n + 0 + 0 ≤ n + 1000 by omega) hn⟩ (Nat.le_of_ble_eq_true rfl) (dat dkW_c44 3 rfl) ?_
  rintro r R' hp2
  obtain ⟨rfl, hrel⟩ := P2 _ rfl r R' hp2
  refine ⟨_, Mrg_R, ?_⟩
  refine r_icmp_eq (tgt := 2775) E (dat dkW_c44 4 rfl) rfl (fun _ => ?_) (fun h => absurd rfl h)
  refine r_wid (k2 := k + 100) (n2 := n + 1000) (by show k + 0 + 0 ≤ _; omega) (by show n + 0 + 0 ≤ _; omega) ?_
  refine r_back rfl (by simp [LW]) (kk _ (RLe_tr hrel (fun j hj => loX_lt hj) rfl))
