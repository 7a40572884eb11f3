set_option maxRecDepth 100000 in
set_option maxHeartbeats 8000000 in
theorem lb_0 {p : Program} {l : Launch} {e : Env} {s : State} {m : MethodId} {args : Array Value} {below : List Frame} {meth : Method} {c : Code} {G : GT} {ad : Nat → Nat → Nat} {Q : State → Prop} {k n : Nat} (hst : l.stackTraces = false) (E : EN p s m args meth c G (KL, lkC, ad) cL_law RL 9 (some .boolean)) {b Ls : Nat} {xs : Nat → Int32} (hX : va_X b Ls xs s s.heap) (hb : b < s.heap.size) (hA : ¬ AS (KL, lkC, ad) s.heap.size b) (hL : Ls ≤ 3072) {i : Nat} (hi : i + 6 ≤ Ls) {N : Mem} {B : Int} (H : RLe N (vw [20] N) B) (h0 : 0 ≤ B) (h1 : B + 300 < 2147483648) (hk : k + 100 ≤ room_1.cells) (hn : n + 1000 ≤ room_1.slots)
    (kk : ∀ N2 : Mem, RLe N2 (vw [20] N2) (B + 279) → WM p l e room_1 s m args below meth c G (KL, lkC, ad) 9 Q N2 (k + 100) (n + 1000) 2775 [some (.inl (.ref b)), some (rv 0 0), some (rv 20 0), some (rv 19 0), some (iv (nI i)), none, none, none, none] []) :
    WM p l e room_1 s m args below meth c G (KL, lkC, ad) 9 Q N k n 288 [some (.inl (.ref b)), some (rv 0 0), some (rv 20 0), some (rv 19 0), some (iv (nI i)), none, none, none, none] [] := by
  obtain ⟨post, post2, hM, hR, P⟩ := pa_appendInput l hst G H h0 h1 (xs (i + 1)) (xs (i + 2)) (xs (i + 3)) (xs (i + 4)) (xs (i + 5))
  refine r_aload_n E (dat dkW_c0 0 rfl) rfl rfl ?_
  refine r_aldX E (dat dkW_c0 1 rfl) rfl rfl ?_
  refine r_iload E (dat dkW_c0 2 rfl) rfl ?_
  refine r_iconst (v := 1) E (dat dkW_c0 3 rfl) rfl ?_
  refine r_iadd E (dat dkW_c0 4 rfl) ?_
  refine r_sld E hX hb hA hL (nI_add i 1) (show i + 1 < Ls by omega) (dat dkW_c0 5 rfl) ?_
  refine r_aldX E (dat dkW_c0 6 rfl) rfl rfl ?_
  refine r_iload E (dat dkW_c0 7 rfl) rfl ?_
  refine r_iconst (v := 2) E (dat dkW_c0 8 rfl) rfl ?_
  refine r_iadd E (dat dkW_c0 9 rfl) ?_
  refine r_sld E hX hb hA hL (nI_add i 2) (show i + 2 < Ls by omega) (dat dkW_c0 10 rfl) ?_
  refine r_aldX E (dat dkW_c0 11 rfl) rfl rfl ?_
  refine r_iload E (dat dkW_c0 12 rfl) rfl ?_
  refine r_iconst (v := 3) E (dat dkW_c0 13 rfl) rfl ?_
  refine r_iadd E (dat dkW_c0 14 rfl) ?_
  refine r_sld E hX hb hA hL (nI_add i 3) (show i + 3 < Ls by omega) (dat dkW_c0 15 rfl) ?_
  refine r_aldX E (dat dkW_c0 16 rfl) rfl rfl ?_
  refine r_iload E (dat dkW_c0 17 rfl) rfl ?_
  refine r_iconst (v := 4) E (dat dkW_c0 18 rfl) rfl ?_
  refine r_iadd E (dat dkW_c0 19 rfl) ?_
  refine r_sld E hX hb hA hL (nI_add i 4) (show i + 4 < Ls by omega) (dat dkW_c0 20 rfl) ?_
  refine r_aldX E (dat dkW_c0 21 rfl) rfl rfl ?_
  refine r_iload E (dat dkW_c0 22 rfl) rfl ?_
  refine r_iconst (v := 5) E (dat dkW_c0 23 rfl) rfl ?_
  refine r_iadd E (dat dkW_c0 24 rfl) ?_
  refine r_sld E hX hb hA hL (nI_add i 5) (show i + 5 < Ls by omega) (dat dkW_c0 25 rfl) ?_
  refine r_callV (κ := 8) (μ := []) E hM my_X9_appendInput iv_X9_appendInput ml_L_131 cm_LC ⟨by decide, rfl, rfl⟩ rfl rfl rfl rfl ⟨Nat.le_of_ble_eq_true rfl, Nat.le_of_ble_eq_true rfl, Nat.le_trans (Nat.add_le_add_left (Nat.le_of_ble_eq_true rfl) k) hk, Nat.le_trans (Nat.add_le_add_left (Nat.le_of_ble_eq_true rfl) n) hn⟩ (Nat.le_of_ble_eq_true rfl) (dat dkW_c0 26 rfl) ?_
  rintro r M' hp
  obtain ⟨⟨v, rfl⟩, P2⟩ := P r M' hp
  refine ⟨_, loX_m, ?_⟩
  refine r_aload_n E (dat dkW_c0 27 rfl) rfl rfl ?_
  refine r_aldX E (dat dkW_c0 28 rfl) rfl rfl ?_
  refine r_iload E (dat dkW_c0 29 rfl) rfl ?_
  refine r_iconst (v := 1) E (dat dkW_c0 30 rfl) rfl ?_
  refine r_iadd E (dat dkW_c0 31 rfl) ?_
  refine r_sld E hX hb hA hL (nI_add i 1) (show i + 1 < Ls by omega) (dat dkW_c0 32 rfl) ?_
  refine r_aldX E (dat dkW_c0 33 rfl) rfl rfl ?_
  refine r_iload E (dat dkW_c0 34 rfl) rfl ?_
  refine r_iconst (v := 2) E (dat dkW_c0 35 rfl) rfl ?_
  refine r_iadd E (dat dkW_c0 36 rfl) ?_
  refine r_sld E hX hb hA hL (nI_add i 2) (show i + 2 < Ls by omega) (dat dkW_c0 37 rfl) ?_
  refine r_aldX E (dat dkW_c0 38 rfl) rfl rfl ?_
  refine r_iload E (dat dkW_c0 39 rfl) rfl ?_
  refine r_iconst (v := 3) E (dat dkW_c0 40 rfl) rfl ?_
  refine r_iadd E (dat dkW_c0 41 rfl) ?_
  refine r_sld E hX hb hA hL (nI_add i 3) (show i + 3 < Ls by omega) (dat dkW_c0 42 rfl) ?_
  refine r_aldX E (dat dkW_c0 43 rfl) rfl rfl ?_
  refine r_iload E (dat dkW_c0 44 rfl) rfl ?_
  refine r_iconst (v := 4) E (dat dkW_c0 45 rfl) rfl ?_
  refine r_iadd E (dat dkW_c0 46 rfl) ?_
  refine r_sld E hX hb hA hL (nI_add i 4) (show i + 4 < Ls by omega) (dat dkW_c0 47 rfl) ?_
  refine r_aldX E (dat dkW_c0 48 rfl) rfl rfl ?_
  refine r_iload E (dat dkW_c0 49 rfl) rfl ?_
  refine r_iconst (v := 5) E (dat dkW_c0 50 rfl) rfl ?_
  refine r_iadd E (dat dkW_c0 51 rfl) ?_
  refine r_sld E hX hb hA hL (nI_add i 5) (show i + 5 < Ls by omega) (dat dkW_c0 52 rfl) ?_
  refine r_callV (κ := 9) (μ := [20]) E (hR (vw [20] (loX N M')) rfl) my_X10_appendInput iv_X10_appendInput ml_L_135 cm_LR ⟨by decide, rfl, rfl⟩ rfl rfl rfl rfl ⟨Nat.le_of_ble_eq_true rfl, Nat.le_of_ble_eq_true rfl, Nat.le_trans (show k + 0 + 0 ≤ k + 100 by omega) hk, Nat.le_trans (show n + 0 + 0 ≤ n + 1000 by omega) hn⟩ (Nat.le_of_ble_eq_true rfl) (dat dkW_c0 53 rfl) ?_
  rintro r R' hp2
  obtain ⟨rfl, hrel⟩ := P2 _ rfl r R' hp2
  refine ⟨_, Mrg_R, ?_⟩
  refine r_icmp_eq (tgt := 2775) E (dat dkW_c0 54 rfl) rfl (fun _ => ?_) (fun h => absurd rfl h)
  refine r_wid (k2 := k + 100) (n2 := n + 1000) (by show k + 0 + 0 ≤ _; omega) (by show n + 0 + 0 ≤ _; omega) ?_
  refine r_back rfl (by simp [LW]) (kk _ (RLe_tr hrel (fun j hj => loX_lt hj) rfl))
set_option maxRecDepth 100000 in
set_option maxHeartbeats 8000000 in
theorem lb_1 {p : Program} {l : Launch} {e : Env} {s : State} {m : MethodId} {args : Array Value} {below : List Frame} {meth : Method} {c : Code} {G : GT} {ad : Nat → Nat → Nat} {Q : State → Prop} {k n : Nat} (hst : l.stackTraces = false) (E : EN p s m args meth c G (KL, lkC, ad) cL_law RL 9 (some .boolean)) {b Ls : Nat} {xs : Nat → Int32} (hX : va_X b Ls xs s s.heap) (hb : b < s.heap.size) (hA : ¬ AS (KL, lkC, ad) s.heap.size b) (hL : Ls ≤ 3072) {i : Nat} (hi : i + 6 ≤ Ls) {N : Mem} {B : Int} (H : RLe N (vw [20] N) B) (h0 : 0 ≤ B) (h1 : B + 300 < 2147483648) (hk : k + 100 ≤ room_1.cells) (hn : n + 1000 ≤ room_1.slots)
    (kk : ∀ N2 : Mem, RLe N2 (vw [20] N2) (B + 279) → WM p l e room_1 s m args below meth c G (KL, lkC, ad) 9 Q N2 (k + 100) (n + 1000) 2775 [some (.inl (.ref b)), some (rv 0 0), some (rv 20 0), some (rv 19 0), some (iv (nI i)), none, none, none, none] []) :
    WM p l e room_1 s m args below meth c G (KL, lkC, ad) 9 Q N k n 361 [some (.inl (.ref b)), some (rv 0 0), some (rv 20 0), some (rv 19 0), some (iv (nI i)), none, none, none, none] [] := by
  obtain ⟨post, post2, hM, hR, P⟩ := pa_truncateInput l hst G H h0 h1 (xs (i + 1))
  refine r_aload_n E (dat dkW_c1 0 rfl) rfl rfl ?_
  refine r_aldX E (dat dkW_c1 1 rfl) rfl rfl ?_
  refine r_iload E (dat dkW_c1 2 rfl) rfl ?_
  refine r_iconst (v := 1) E (dat dkW_c1 3 rfl) rfl ?_
  refine r_iadd E (dat dkW_c1 4 rfl) ?_
  refine r_sld E hX hb hA hL (nI_add i 1) (show i + 1 < Ls by omega) (dat dkW_c1 5 rfl) ?_
  refine r_callV (κ := 8) (μ := []) E hM my_X9_truncateInput iv_X9_truncateInput ml_L_136 cm_LC ⟨by decide, rfl, rfl⟩ rfl rfl rfl rfl ⟨Nat.le_of_ble_eq_true rfl, Nat.le_of_ble_eq_true rfl, Nat.le_trans (Nat.add_le_add_left (Nat.le_of_ble_eq_true rfl) k) hk, Nat.le_trans (Nat.add_le_add_left (Nat.le_of_ble_eq_true rfl) n) hn⟩ (Nat.le_of_ble_eq_true rfl) (dat dkW_c1 6 rfl) ?_
  rintro r M' hp
  obtain ⟨⟨v, rfl⟩, P2⟩ := P r M' hp
  refine ⟨_, loX_m, ?_⟩
  refine r_aload_n E (dat dkW_c1 7 rfl) rfl rfl ?_
  refine r_aldX E (dat dkW_c1 8 rfl) rfl rfl ?_
  refine r_iload E (dat dkW_c1 9 rfl) rfl ?_
  refine r_iconst (v := 1) E (dat dkW_c1 10 rfl) rfl ?_
  refine r_iadd E (dat dkW_c1 11 rfl) ?_
  refine r_sld E hX hb hA hL (nI_add i 1) (show i + 1 < Ls by omega) (dat dkW_c1 12 rfl) ?_
  refine r_callV (κ := 9) (μ := [20]) E (hR (vw [20] (loX N M')) rfl) my_X10_truncateInput iv_X10_truncateInput ml_L_139 cm_LR ⟨by decide, rfl, rfl⟩ rfl rfl rfl rfl ⟨Nat.le_of_ble_eq_true rfl, Nat.le_of_ble_eq_true rfl, Nat.le_trans (show k + 0 + 0 ≤ k + 100 by omega) hk, Nat.le_trans (show n + 0 + 0 ≤ n + 1000 by omega) hn⟩ (Nat.le_of_ble_eq_true rfl) (dat dkW_c1 13 rfl) ?_
  rintro r R' hp2
  obtain ⟨rfl, hrel⟩ := P2 _ rfl r R' hp2
  refine ⟨_, Mrg_R, ?_⟩
  refine r_icmp_eq (tgt := 2775) E (dat dkW_c1 14 rfl) rfl (fun _ => ?_) (fun h => absurd rfl h)
  refine r_wid (k2 := k + 100) (n2 := n + 1000) (by show k + 0 + 0 ≤ _; omega) (by show n + 0 + 0 ≤ _; omega) ?_
  refine r_back rfl (by simp [LW]) (kk _ (RLe_tr hrel (fun j hj => loX_lt hj) rfl))
set_option maxRecDepth 100000 in
set_option maxHeartbeats 8000000 in
theorem lb_2 {p : Program} {l : Launch} {e : Env} {s : State} {m : MethodId} {args : Array Value} {below : List Frame} {meth : Method} {c : Code} {G : GT} {ad : Nat → Nat → Nat} {Q : State → Prop} {k n : Nat} (hst : l.stackTraces = false) (E : EN p s m args meth c G (KL, lkC, ad) cL_law RL 9 (some .boolean)) {b Ls : Nat} {xs : Nat → Int32} (hX : va_X b Ls xs s s.heap) (hb : b < s.heap.size) (hA : ¬ AS (KL, lkC, ad) s.heap.size b) (hL : Ls ≤ 3072) {i : Nat} (hi : i + 6 ≤ Ls) {N : Mem} {B : Int} (H : RLe N (vw [20] N) B) (h0 : 0 ≤ B) (h1 : B + 300 < 2147483648) (hk : k + 100 ≤ room_1.cells) (hn : n + 1000 ≤ room_1.slots)
    (kk : ∀ N2 : Mem, RLe N2 (vw [20] N2) (B + 279) → WM p l e room_1 s m args below meth c G (KL, lkC, ad) 9 Q N2 (k + 100) (n + 1000) 2775 [some (.inl (.ref b)), some (rv 0 0), some (rv 20 0), some (rv 19 0), some (iv (nI i)), none, none, none, none] []) :
    WM p l e room_1 s m args below meth c G (KL, lkC, ad) 9 Q N k n 386 [some (.inl (.ref b)), some (rv 0 0), some (rv 20 0), some (rv 19 0), some (iv (nI i)), none, none, none, none] [] := by
  obtain ⟨post, post2, hM, hR, P⟩ := pa_loadSetup l hst G H h0 h1
  refine r_aload_n E (dat dkW_c2 0 rfl) rfl rfl ?_
  refine r_callV (κ := 8) (μ := []) E hM my_X9_loadSetup iv_X9_loadSetup ml_L_140 cm_LC ⟨by decide, rfl, rfl⟩ rfl rfl rfl rfl ⟨Nat.le_of_ble_eq_true rfl, Nat.le_of_ble_eq_true rfl, Nat.le_trans (Nat.add_le_add_left (Nat.le_of_ble_eq_true rfl) k) hk, Nat.le_trans (Nat.add_le_add_left (Nat.le_of_ble_eq_true rfl) n) hn⟩ (Nat.le_of_ble_eq_true rfl) (dat dkW_c2 1 rfl) ?_
  rintro r M' hp
  obtain ⟨⟨v, rfl⟩, P2⟩ := P r M' hp
  refine ⟨_, loX_m, ?_⟩
  refine r_aload_n E (dat dkW_c2 2 rfl) rfl rfl ?_
  refine r_callV (κ := 9) (μ := [20]) E (hR (vw [20] (loX N M')) rfl) my_X10_loadSetup iv_X10_loadSetup ml_L_143 cm_LR ⟨by decide, rfl, rfl⟩ rfl rfl rfl rfl ⟨Nat.le_of_ble_eq_true rfl, Nat.le_of_ble_eq_true rfl, Nat.le_trans (show k + 0 + 0 ≤ k + 100 by omega) hk, Nat.le_trans (show n + 0 + 0 ≤ n + 1000 by omega) hn⟩ (Nat.le_of_ble_eq_true rfl) (dat dkW_c2 3 rfl) ?_
  rintro r R' hp2
  obtain ⟨rfl, hrel⟩ := P2 _ rfl r R' hp2
  refine ⟨_, Mrg_R, ?_⟩
  refine r_icmp_eq (tgt := 2775) E (dat dkW_c2 4 rfl) rfl (fun _ => ?_) (fun h => absurd rfl h)
  refine r_wid (k2 := k + 100) (n2 := n + 1000) (by show k + 0 + 0 ≤ _; omega) (by show n + 0 + 0 ≤ _; omega) ?_
  refine r_back rfl (by simp [LW]) (kk _ (RLe_tr hrel (fun j hj => loX_lt hj) rfl))
set_option maxRecDepth 100000 in
set_option maxHeartbeats 8000000 in
theorem lb_3 {p : Program} {l : Launch} {e : Env} {s : State} {m : MethodId} {args : Array Value} {below : List Frame} {meth : Method} {c : Code} {G : GT} {ad : Nat → Nat → Nat} {Q : State → Prop} {k n : Nat} (hst : l.stackTraces = false) (E : EN p s m args meth c G (KL, lkC, ad) cL_law RL 9 (some .boolean)) {b Ls : Nat} {xs : Nat → Int32} (hX : va_X b Ls xs s s.heap) (hb : b < s.heap.size) (hA : ¬ AS (KL, lkC, ad) s.heap.size b) (hL : Ls ≤ 3072) {i : Nat} (hi : i + 6 ≤ Ls) {N : Mem} {B : Int} (H : RLe N (vw [20] N) B) (h0 : 0 ≤ B) (h1 : B + 300 < 2147483648) (hk : k + 100 ≤ room_1.cells) (hn : n + 1000 ≤ room_1.slots)
    (kk : ∀ N2 : Mem, RLe N2 (vw [20] N2) (B + 279) → WM p l e room_1 s m args below meth c G (KL, lkC, ad) 9 Q N2 (k + 100) (n + 1000) 2775 [some (.inl (.ref b)), some (rv 0 0), some (rv 20 0), some (rv 19 0), some (iv (nI i)), none, none, none, none] []) :
    WM p l e room_1 s m args below meth c G (KL, lkC, ad) 9 Q N k n 399 [some (.inl (.ref b)), some (rv 0 0), some (rv 20 0), some (rv 19 0), some (iv (nI i)), none, none, none, none] [] := by
  obtain ⟨post, post2, hM, hR, P⟩ := pa_runScript l hst G H h0 h1
  refine r_aload_n E (dat dkW_c3 0 rfl) rfl rfl ?_
  refine r_callV (κ := 8) (μ := []) E hM my_X9_runScript iv_X9_runScript ml_L_144 cm_LC ⟨by decide, rfl, rfl⟩ rfl rfl rfl rfl ⟨Nat.le_of_ble_eq_true rfl, Nat.le_of_ble_eq_true rfl, Nat.le_trans (Nat.add_le_add_left (Nat.le_of_ble_eq_true rfl) k) hk, Nat.le_trans (Nat.add_le_add_left (Nat.le_of_ble_eq_true rfl) n) hn⟩ (Nat.le_of_ble_eq_true rfl) (dat dkW_c3 1 rfl) ?_
  rintro r M' hp
  obtain ⟨⟨v, rfl⟩, P2⟩ := P r M' hp
  refine ⟨_, loX_m, ?_⟩
  refine r_aload_n E (dat dkW_c3 2 rfl) rfl rfl ?_
  refine r_callV (κ := 9) (μ := [20]) E (hR (vw [20] (loX N M')) rfl) my_X10_runScript iv_X10_runScript ml_L_147 cm_LR ⟨by decide, rfl, rfl⟩ rfl rfl rfl rfl ⟨Nat.le_of_ble_eq_true rfl, Nat.le_of_ble_eq_true rfl, Nat.le_trans (show k + 0 + 0 ≤ k + 100 by omega) hk, Nat.le_trans (show n + 0 + 0 ≤ n + 1000 by omega) hn⟩ (Nat.le_of_ble_eq_true rfl) (dat dkW_c3 3 rfl) ?_
  rintro r R' hp2
  obtain ⟨rfl, hrel⟩ := P2 _ rfl r R' hp2
  refine ⟨_, Mrg_R, ?_⟩
  refine r_icmp_eq (tgt := 2775) E (dat dkW_c3 4 rfl) rfl (fun _ => ?_) (fun h => absurd rfl h)
  refine r_wid (k2 := k + 100) (n2 := n + 1000) (by show k + 0 + 0 ≤ _; omega) (by show n + 0 + 0 ≤ _; omega) ?_
  refine r_back rfl (by simp [LW]) (kk _ (RLe_tr hrel (fun j hj => loX_lt hj) rfl))
set_option maxRecDepth 100000 in
set_option maxHeartbeats 8000000 in
theorem lb_4 {p : Program} {l : Launch} {e : Env} {s : State} {m : MethodId} {args : Array Value} {below : List Frame} {meth : Method} {c : Code} {G : GT} {ad : Nat → Nat → Nat} {Q : State → Prop} {k n : Nat} (hst : l.stackTraces = false) (E : EN p s m args meth c G (KL, lkC, ad) cL_law RL 9 (some .boolean)) {b Ls : Nat} {xs : Nat → Int32} (hX : va_X b Ls xs s s.heap) (hb : b < s.heap.size) (hA : ¬ AS (KL, lkC, ad) s.heap.size b) (hL : Ls ≤ 3072) {i : Nat} (hi : i + 6 ≤ Ls) {N : Mem} {B : Int} (H : RLe N (vw [20] N) B) (h0 : 0 ≤ B) (h1 : B + 300 < 2147483648) (hk : k + 100 ≤ room_1.cells) (hn : n + 1000 ≤ room_1.slots)
    (kk : ∀ N2 : Mem, RLe N2 (vw [20] N2) (B + 279) → WM p l e room_1 s m args below meth c G (KL, lkC, ad) 9 Q N2 (k + 100) (n + 1000) 2775 [some (.inl (.ref b)), some (rv 0 0), some (rv 20 0), some (rv 19 0), some (iv (nI i)), none, none, none, none] []) :
    WM p l e room_1 s m args below meth c G (KL, lkC, ad) 9 Q N k n 412 [some (.inl (.ref b)), some (rv 0 0), some (rv 20 0), some (rv 19 0), some (iv (nI i)), none, none, none, none] [] := by
  obtain ⟨post, post2, hM, hR, P⟩ := pa_errorCode l hst G H h0 h1
  refine r_aload_n E (dat dkW_c4 0 rfl) rfl rfl ?_
  refine r_callV (κ := 8) (μ := []) E hM my_X9_errorCode iv_X9_errorCode ml_L_148 cm_LC ⟨by decide, rfl, rfl⟩ rfl rfl rfl rfl ⟨Nat.le_of_ble_eq_true rfl, Nat.le_of_ble_eq_true rfl, Nat.le_trans (Nat.add_le_add_left (Nat.le_of_ble_eq_true rfl) k) hk, Nat.le_trans (Nat.add_le_add_left (Nat.le_of_ble_eq_true rfl) n) hn⟩ (Nat.le_of_ble_eq_true rfl) (dat dkW_c4 1 rfl) ?_
  rintro r M' hp
  obtain ⟨⟨v, rfl⟩, P2⟩ := P r M' hp
  refine ⟨_, loX_m, ?_⟩
  refine r_aload_n E (dat dkW_c4 2 rfl) rfl rfl ?_
  refine r_callV (κ := 9) (μ := [20]) E (hR (vw [20] (loX N M')) rfl) my_X10_errorCode iv_X10_errorCode ml_L_151 cm_LR ⟨by decide, rfl, rfl⟩ rfl rfl rfl rfl ⟨Nat.le_of_ble_eq_true rfl, Nat.le_of_ble_eq_true rfl, Nat.le_trans (show k + 0 + 0 ≤ k + 100 by omega) hk, Nat.le_trans (show n + 0 + 0 ≤ n + 1000 by omega) hn⟩ (Nat.le_of_ble_eq_true rfl) (dat dkW_c4 3 rfl) ?_
  rintro r R' hp2
  obtain ⟨rfl, hrel⟩ := P2 _ rfl r R' hp2
  refine ⟨_, Mrg_R, ?_⟩
  refine r_icmp_eq (tgt := 2775) E (dat dkW_c4 4 rfl) rfl (fun _ => ?_) (fun h => absurd rfl h)
  refine r_wid (k2 := k + 100) (n2 := n + 1000) (by show k + 0 + 0 ≤ _; omega) (by show n + 0 + 0 ≤ _; omega) ?_
  refine r_back rfl (by simp [LW]) (kk _ (RLe_tr hrel (fun j hj => loX_lt hj) rfl))
set_option maxRecDepth 100000 in
set_option maxHeartbeats 8000000 in
theorem lb_5 {p : Program} {l : Launch} {e : Env} {s : State} {m : MethodId} {args : Array Value} {below : List Frame} {meth : Method} {c : Code} {G : GT} {ad : Nat → Nat → Nat} {Q : State → Prop} {k n : Nat} (hst : l.stackTraces = false) (E : EN p s m args meth c G (KL, lkC, ad) cL_law RL 9 (some .boolean)) {b Ls : Nat} {xs : Nat → Int32} (hX : va_X b Ls xs s s.heap) (hb : b < s.heap.size) (hA : ¬ AS (KL, lkC, ad) s.heap.size b) (hL : Ls ≤ 3072) {i : Nat} (hi : i + 6 ≤ Ls) {N : Mem} {B : Int} (H : RLe N (vw [20] N) B) (h0 : 0 ≤ B) (h1 : B + 300 < 2147483648) (hk : k + 100 ≤ room_1.cells) (hn : n + 1000 ≤ room_1.slots)
    (kk : ∀ N2 : Mem, RLe N2 (vw [20] N2) (B + 279) → WM p l e room_1 s m args below meth c G (KL, lkC, ad) 9 Q N2 (k + 100) (n + 1000) 2775 [some (.inl (.ref b)), some (rv 0 0), some (rv 20 0), some (rv 19 0), some (iv (nI i)), none, none, none, none] []) :
    WM p l e room_1 s m args below meth c G (KL, lkC, ad) 9 Q N k n 425 [some (.inl (.ref b)), some (rv 0 0), some (rv 20 0), some (rv 19 0), some (iv (nI i)), none, none, none, none] [] := by
  obtain ⟨post, post2, hM, hR, P⟩ := pa_errorOffset l hst G H h0 h1
  refine r_aload_n E (dat dkW_c5 0 rfl) rfl rfl ?_
  refine r_callV (κ := 8) (μ := []) E hM my_X9_errorOffset iv_X9_errorOffset ml_L_152 cm_LC ⟨by decide, rfl, rfl⟩ rfl rfl rfl rfl ⟨Nat.le_of_ble_eq_true rfl, Nat.le_of_ble_eq_true rfl, Nat.le_trans (Nat.add_le_add_left (Nat.le_of_ble_eq_true rfl) k) hk, Nat.le_trans (Nat.add_le_add_left (Nat.le_of_ble_eq_true rfl) n) hn⟩ (Nat.le_of_ble_eq_true rfl) (dat dkW_c5 1 rfl) ?_
  rintro r M' hp
  obtain ⟨⟨v, rfl⟩, P2⟩ := P r M' hp
  refine ⟨_, loX_m, ?_⟩
  refine r_aload_n E (dat dkW_c5 2 rfl) rfl rfl ?_
  refine r_callV (κ := 9) (μ := [20]) E (hR (vw [20] (loX N M')) rfl) my_X10_errorOffset iv_X10_errorOffset ml_L_155 cm_LR ⟨by decide, rfl, rfl⟩ rfl rfl rfl rfl ⟨Nat.le_of_ble_eq_true rfl, Nat.le_of_ble_eq_true rfl, Nat.le_trans (show k + 0 + 0 ≤ k + 100 by omega) hk, Nat.le_trans (show n + 0 + 0 ≤ n + 1000 by omega) hn⟩ (Nat.le_of_ble_eq_true rfl) (dat dkW_c5 3 rfl) ?_
  rintro r R' hp2
  obtain ⟨rfl, hrel⟩ := P2 _ rfl r R' hp2
  refine ⟨_, Mrg_R, ?_⟩
  refine r_icmp_eq (tgt := 2775) E (dat dkW_c5 4 rfl) rfl (fun _ => ?_) (fun h => absurd rfl h)
  refine r_wid (k2 := k + 100) (n2 := n + 1000) (by show k + 0 + 0 ≤ _; omega) (by show n + 0 + 0 ≤ _; omega) ?_
  refine r_back rfl (by simp [LW]) (kk _ (RLe_tr hrel (fun j hj => loX_lt hj) rfl))
set_option maxRecDepth 100000 in
set_option maxHeartbeats 8000000 in
theorem lb_6 {p : Program} {l : Launch} {e : Env} {s : State} {m : MethodId} {args : Array Value} {below : List Frame} {meth : Method} {c : Code} {G : GT} {ad : Nat → Nat → Nat} {Q : State → Prop} {k n : Nat} (hst : l.stackTraces = false) (E : EN p s m args meth c G (KL, lkC, ad) cL_law RL 9 (some .boolean)) {b Ls : Nat} {xs : Nat → Int32} (hX : va_X b Ls xs s s.heap) (hb : b < s.heap.size) (hA : ¬ AS (KL, lkC, ad) s.heap.size b) (hL : Ls ≤ 3072) {i : Nat} (hi : i + 6 ≤ Ls) {N : Mem} {B : Int} (H : RLe N (vw [20] N) B) (h0 : 0 ≤ B) (h1 : B + 300 < 2147483648) (hk : k + 100 ≤ room_1.cells) (hn : n + 1000 ≤ room_1.slots)
    (kk : ∀ N2 : Mem, RLe N2 (vw [20] N2) (B + 279) → WM p l e room_1 s m args below meth c G (KL, lkC, ad) 9 Q N2 (k + 100) (n + 1000) 2775 [some (.inl (.ref b)), some (rv 0 0), some (rv 20 0), some (rv 19 0), some (iv (nI i)), none, none, none, none] []) :
    WM p l e room_1 s m args below meth c G (KL, lkC, ad) 9 Q N k n 438 [some (.inl (.ref b)), some (rv 0 0), some (rv 20 0), some (rv 19 0), some (iv (nI i)), none, none, none, none] [] := by
  obtain ⟨post, post2, hM, hR, P⟩ := pa_minute l hst G H h0 h1
  refine r_aload_n E (dat dkW_c6 0 rfl) rfl rfl ?_
  refine r_callV (κ := 8) (μ := []) E hM my_X9_minute iv_X9_minute ml_L_156 cm_LC ⟨by decide, rfl, rfl⟩ rfl rfl rfl rfl ⟨Nat.le_of_ble_eq_true rfl, Nat.le_of_ble_eq_true rfl, Nat.le_trans (Nat.add_le_add_left (Nat.le_of_ble_eq_true rfl) k) hk, Nat.le_trans (Nat.add_le_add_left (Nat.le_of_ble_eq_true rfl) n) hn⟩ (Nat.le_of_ble_eq_true rfl) (dat dkW_c6 1 rfl) ?_
  rintro r M' hp
  obtain ⟨⟨v, rfl⟩, P2⟩ := P r M' hp
  refine ⟨_, loX_m, ?_⟩
  refine r_aload_n E (dat dkW_c6 2 rfl) rfl rfl ?_
  refine r_callV (κ := 9) (μ := [20]) E (hR (vw [20] (loX N M')) rfl) my_X10_minute iv_X10_minute ml_L_159 cm_LR ⟨by decide, rfl, rfl⟩ rfl rfl rfl rfl ⟨Nat.le_of_ble_eq_true rfl, Nat.le_of_ble_eq_true rfl, Nat.le_trans (show k + 0 + 0 ≤ k + 100 by omega) hk, Nat.le_trans (show n + 0 + 0 ≤ n + 1000 by omega) hn⟩ (Nat.le_of_ble_eq_true rfl) (dat dkW_c6 3 rfl) ?_
  rintro r R' hp2
  obtain ⟨rfl, hrel⟩ := P2 _ rfl r R' hp2
  refine ⟨_, Mrg_R, ?_⟩
  refine r_icmp_eq (tgt := 2775) E (dat dkW_c6 4 rfl) rfl (fun _ => ?_) (fun h => absurd rfl h)
  refine r_wid (k2 := k + 100) (n2 := n + 1000) (by show k + 0 + 0 ≤ _; omega) (by show n + 0 + 0 ≤ _; omega) ?_
  refine r_back rfl (by simp [LW]) (kk _ (RLe_tr hrel (fun j hj => loX_lt hj) rfl))
set_option maxRecDepth 100000 in
set_option maxHeartbeats 8000000 in
theorem lb_7 {p : Program} {l : Launch} {e : Env} {s : State} {m : MethodId} {args : Array Value} {below : List Frame} {meth : Method} {c : Code} {G : GT} {ad : Nat → Nat → Nat} {Q : State → Prop} {k n : Nat} (hst : l.stackTraces = false) (E : EN p s m args meth c G (KL, lkC, ad) cL_law RL 9 (some .boolean)) {b Ls : Nat} {xs : Nat → Int32} (hX : va_X b Ls xs s s.heap) (hb : b < s.heap.size) (hA : ¬ AS (KL, lkC, ad) s.heap.size b) (hL : Ls ≤ 3072) {i : Nat} (hi : i + 6 ≤ Ls) {N : Mem} {B : Int} (H : RLe N (vw [20] N) B) (h0 : 0 ≤ B) (h1 : B + 300 < 2147483648) (hk : k + 100 ≤ room_1.cells) (hn : n + 1000 ≤ room_1.slots)
    (kk : ∀ N2 : Mem, RLe N2 (vw [20] N2) (B + 279) → WM p l e room_1 s m args below meth c G (KL, lkC, ad) 9 Q N2 (k + 100) (n + 1000) 2775 [some (.inl (.ref b)), some (rv 0 0), some (rv 20 0), some (rv 19 0), some (iv (nI i)), none, none, none, none] []) :
    WM p l e room_1 s m args below meth c G (KL, lkC, ad) 9 Q N k n 451 [some (.inl (.ref b)), some (rv 0 0), some (rv 20 0), some (rv 19 0), some (iv (nI i)), none, none, none, none] [] := by
  obtain ⟨post, post2, hM, hR, P⟩ := pa_columnCount l hst G H h0 h1
  refine r_aload_n E (dat dkW_c7 0 rfl) rfl rfl ?_
  refine r_callV (κ := 8) (μ := []) E hM my_X9_columnCount iv_X9_columnCount ml_L_160 cm_LC ⟨by decide, rfl, rfl⟩ rfl rfl rfl rfl ⟨Nat.le_of_ble_eq_true rfl, Nat.le_of_ble_eq_true rfl, Nat.le_trans (Nat.add_le_add_left (Nat.le_of_ble_eq_true rfl) k) hk, Nat.le_trans (Nat.add_le_add_left (Nat.le_of_ble_eq_true rfl) n) hn⟩ (Nat.le_of_ble_eq_true rfl) (dat dkW_c7 1 rfl) ?_
  rintro r M' hp
  obtain ⟨⟨v, rfl⟩, P2⟩ := P r M' hp
  refine ⟨_, loX_m, ?_⟩
  refine r_aload_n E (dat dkW_c7 2 rfl) rfl rfl ?_
  refine r_callV (κ := 9) (μ := [20]) E (hR (vw [20] (loX N M')) rfl) my_X10_columnCount iv_X10_columnCount ml_L_163 cm_LR ⟨by decide, rfl, rfl⟩ rfl rfl rfl rfl ⟨Nat.le_of_ble_eq_true rfl, Nat.le_of_ble_eq_true rfl, Nat.le_trans (show k + 0 + 0 ≤ k + 100 by omega) hk, Nat.le_trans (show n + 0 + 0 ≤ n + 1000 by omega) hn⟩ (Nat.le_of_ble_eq_true rfl) (dat dkW_c7 3 rfl) ?_
  rintro r R' hp2
  obtain ⟨rfl, hrel⟩ := P2 _ rfl r R' hp2
  refine ⟨_, Mrg_R, ?_⟩
  refine r_icmp_eq (tgt := 2775) E (dat dkW_c7 4 rfl) rfl (fun _ => ?_) (fun h => absurd rfl h)
  refine r_wid (k2 := k + 100) (n2 := n + 1000) (by show k + 0 + 0 ≤ _; omega) (by show n + 0 + 0 ≤ _; omega) ?_
  refine r_back rfl (by simp [LW]) (kk _ (RLe_tr hrel (fun j hj => loX_lt hj) rfl))
set_option maxRecDepth 100000 in
set_option maxHeartbeats 8000000 in
theorem lb_8 {p : Program} {l : Launch} {e : Env} {s : State} {m : MethodId} {args : Array Value} {below : List Frame} {meth : Method} {c : Code} {G : GT} {ad : Nat → Nat → Nat} {Q : State → Prop} {k n : Nat} (hst : l.stackTraces = false) (E : EN p s m args meth c G (KL, lkC, ad) cL_law RL 9 (some .boolean)) {b Ls : Nat} {xs : Nat → Int32} (hX : va_X b Ls xs s s.heap) (hb : b < s.heap.size) (hA : ¬ AS (KL, lkC, ad) s.heap.size b) (hL : Ls ≤ 3072) {i : Nat} (hi : i + 6 ≤ Ls) {N : Mem} {B : Int} (H : RLe N (vw [20] N) B) (h0 : 0 ≤ B) (h1 : B + 300 < 2147483648) (hk : k + 100 ≤ room_1.cells) (hn : n + 1000 ≤ room_1.slots)
    (kk : ∀ N2 : Mem, RLe N2 (vw [20] N2) (B + 279) → WM p l e room_1 s m args below meth c G (KL, lkC, ad) 9 Q N2 (k + 100) (n + 1000) 2775 [some (.inl (.ref b)), some (rv 0 0), some (rv 20 0), some (rv 19 0), some (iv (nI i)), none, none, none, none] []) :
    WM p l e room_1 s m args below meth c G (KL, lkC, ad) 9 Q N k n 464 [some (.inl (.ref b)), some (rv 0 0), some (rv 20 0), some (rv 19 0), some (iv (nI i)), none, none, none, none] [] := by
  obtain ⟨post, post2, hM, hR, P⟩ := pa_rowCount l hst G H h0 h1
  refine r_aload_n E (dat dkW_c8 0 rfl) rfl rfl ?_
  refine r_callV (κ := 8) (μ := []) E hM my_X9_rowCount iv_X9_rowCount ml_L_164 cm_LC ⟨by decide, rfl, rfl⟩ rfl rfl rfl rfl ⟨Nat.le_of_ble_eq_true rfl, Nat.le_of_ble_eq_true rfl, Nat.le_trans (Nat.add_le_add_left (Nat.le_of_ble_eq_true rfl) k) hk, Nat.le_trans (Nat.add_le_add_left (Nat.le_of_ble_eq_true rfl) n) hn⟩ (Nat.le_of_ble_eq_true rfl) (dat dkW_c8 1 rfl) ?_
  rintro r M' hp
  obtain ⟨⟨v, rfl⟩, P2⟩ := P r M' hp
  refine ⟨_, loX_m, ?_⟩
  refine r_aload_n E (dat dkW_c8 2 rfl) rfl rfl ?_
  refine r_callV (κ := 9) (μ := [20]) E (hR (vw [20] (loX N M')) rfl) my_X10_rowCount iv_X10_rowCount ml_L_167 cm_LR ⟨by decide, rfl, rfl⟩ rfl rfl rfl rfl ⟨Nat.le_of_ble_eq_true rfl, Nat.le_of_ble_eq_true rfl, Nat.le_trans (show k + 0 + 0 ≤ k + 100 by omega) hk, Nat.le_trans (show n + 0 + 0 ≤ n + 1000 by omega) hn⟩ (Nat.le_of_ble_eq_true rfl) (dat dkW_c8 3 rfl) ?_
  rintro r R' hp2
  obtain ⟨rfl, hrel⟩ := P2 _ rfl r R' hp2
  refine ⟨_, Mrg_R, ?_⟩
  refine r_icmp_eq (tgt := 2775) E (dat dkW_c8 4 rfl) rfl (fun _ => ?_) (fun h => absurd rfl h)
  refine r_wid (k2 := k + 100) (n2 := n + 1000) (by show k + 0 + 0 ≤ _; omega) (by show n + 0 + 0 ≤ _; omega) ?_
  refine r_back rfl (by simp [LW]) (kk _ (RLe_tr hrel (fun j hj => loX_lt hj) rfl))
set_option maxRecDepth 100000 in
set_option maxHeartbeats 8000000 in
theorem lb_9 {p : Program} {l : Launch} {e : Env} {s : State} {m : MethodId} {args : Array Value} {below : List Frame} {meth : Method} {c : Code} {G : GT} {ad : Nat → Nat → Nat} {Q : State → Prop} {k n : Nat} (hst : l.stackTraces = false) (E : EN p s m args meth c G (KL, lkC, ad) cL_law RL 9 (some .boolean)) {b Ls : Nat} {xs : Nat → Int32} (hX : va_X b Ls xs s s.heap) (hb : b < s.heap.size) (hA : ¬ AS (KL, lkC, ad) s.heap.size b) (hL : Ls ≤ 3072) {i : Nat} (hi : i + 6 ≤ Ls) {N : Mem} {B : Int} (H : RLe N (vw [20] N) B) (h0 : 0 ≤ B) (h1 : B + 300 < 2147483648) (hk : k + 100 ≤ room_1.cells) (hn : n + 1000 ≤ room_1.slots)
    (kk : ∀ N2 : Mem, RLe N2 (vw [20] N2) (B + 279) → WM p l e room_1 s m args below meth c G (KL, lkC, ad) 9 Q N2 (k + 100) (n + 1000) 2775 [some (.inl (.ref b)), some (rv 0 0), some (rv 20 0), some (rv 19 0), some (iv (nI i)), none, none, none, none] []) :
    WM p l e room_1 s m args below meth c G (KL, lkC, ad) 9 Q N k n 477 [some (.inl (.ref b)), some (rv 0 0), some (rv 20 0), some (rv 19 0), some (iv (nI i)), none, none, none, none] [] := by
  obtain ⟨post, post2, hM, hR, P⟩ := pa_rain l hst G H h0 h1
  refine r_aload_n E (dat dkW_c9 0 rfl) rfl rfl ?_
  refine r_callV (κ := 8) (μ := []) E hM my_X9_rain iv_X9_rain ml_L_168 cm_LC ⟨by decide, rfl, rfl⟩ rfl rfl rfl rfl ⟨Nat.le_of_ble_eq_true rfl, Nat.le_of_ble_eq_true rfl, Nat.le_trans (Nat.add_le_add_left (Nat.le_of_ble_eq_true rfl) k) hk, Nat.le_trans (Nat.add_le_add_left (Nat.le_of_ble_eq_true rfl) n) hn⟩ (Nat.le_of_ble_eq_true rfl) (dat dkW_c9 1 rfl) ?_
  rintro r M' hp
  obtain ⟨⟨v, rfl⟩, P2⟩ := P r M' hp
  refine ⟨_, loX_m, ?_⟩
  refine r_aload_n E (dat dkW_c9 2 rfl) rfl rfl ?_
  refine r_callV (κ := 9) (μ := [20]) E (hR (vw [20] (loX N M')) rfl) my_X10_rain iv_X10_rain ml_L_171 cm_LR ⟨by decide, rfl, rfl⟩ rfl rfl rfl rfl ⟨Nat.le_of_ble_eq_true rfl, Nat.le_of_ble_eq_true rfl, Nat.le_trans (show k + 0 + 0 ≤ k + 100 by omega) hk, Nat.le_trans (show n + 0 + 0 ≤ n + 1000 by omega) hn⟩ (Nat.le_of_ble_eq_true rfl) (dat dkW_c9 3 rfl) ?_
  rintro r R' hp2
  obtain ⟨rfl, hrel⟩ := P2 _ rfl r R' hp2
  refine ⟨_, Mrg_R, ?_⟩
  refine r_icmp_eq (tgt := 2775) E (dat dkW_c9 4 rfl) rfl (fun _ => ?_) (fun h => absurd rfl h)
  refine r_wid (k2 := k + 100) (n2 := n + 1000) (by show k + 0 + 0 ≤ _; omega) (by show n + 0 + 0 ≤ _; omega) ?_
  refine r_back rfl (by simp [LW]) (kk _ (RLe_tr hrel (fun j hj => loX_lt hj) rfl))
set_option maxRecDepth 100000 in
set_option maxHeartbeats 8000000 in
theorem lb_10 {p : Program} {l : Launch} {e : Env} {s : State} {m : MethodId} {args : Array Value} {below : List Frame} {meth : Method} {c : Code} {G : GT} {ad : Nat → Nat → Nat} {Q : State → Prop} {k n : Nat} (hst : l.stackTraces = false) (E : EN p s m args meth c G (KL, lkC, ad) cL_law RL 9 (some .boolean)) {b Ls : Nat} {xs : Nat → Int32} (hX : va_X b Ls xs s s.heap) (hb : b < s.heap.size) (hA : ¬ AS (KL, lkC, ad) s.heap.size b) (hL : Ls ≤ 3072) {i : Nat} (hi : i + 6 ≤ Ls) {N : Mem} {B : Int} (H : RLe N (vw [20] N) B) (h0 : 0 ≤ B) (h1 : B + 300 < 2147483648) (hk : k + 100 ≤ room_1.cells) (hn : n + 1000 ≤ room_1.slots)
    (kk : ∀ N2 : Mem, RLe N2 (vw [20] N2) (B + 279) → WM p l e room_1 s m args below meth c G (KL, lkC, ad) 9 Q N2 (k + 100) (n + 1000) 2775 [some (.inl (.ref b)), some (rv 0 0), some (rv 20 0), some (rv 19 0), some (iv (nI i)), none, none, none, none] []) :
    WM p l e room_1 s m args below meth c G (KL, lkC, ad) 9 Q N k n 490 [some (.inl (.ref b)), some (rv 0 0), some (rv 20 0), some (rv 19 0), some (iv (nI i)), none, none, none, none] [] := by
  obtain ⟨post, XP, post2, hM, hR, hr, hE, P1, P2⟩ := pa_heightOf l hst G H h0 h1 (xs (i + 1))
  refine r_aload_n E (dat dkW_c10 0 rfl) rfl rfl ?_
  refine r_aldX E (dat dkW_c10 1 rfl) rfl rfl ?_
  refine r_iload E (dat dkW_c10 2 rfl) rfl ?_
  refine r_iconst (v := 1) E (dat dkW_c10 3 rfl) rfl ?_
  refine r_iadd E (dat dkW_c10 4 rfl) ?_
  refine r_sld E hX hb hA hL (nI_add i 1) (show i + 1 < Ls by omega) (dat dkW_c10 5 rfl) ?_
  refine r_aload_n E (dat dkW_c10 6 rfl) rfl rfl ?_
  refine r_callSW (N := 3) (μ := []) E (sp_L_heightOf l G (xs (i + 1)) N post XP hM hr (fun Ex M' h => by simpa using hE Ex M' h)) ini_L (bg_4 77 (by decide +kernel)) ⟨by decide +kernel, by decide +kernel, by decide +kernel⟩ (bg_4 76 (by decide +kernel)) ml_L_172 cm_LO rfl rfl ⟨Nat.le_of_ble_eq_true rfl, Nat.le_of_ble_eq_true rfl, Nat.le_trans (Nat.add_le_add_left (Nat.le_of_ble_eq_true rfl) k) hk, Nat.le_trans (Nat.add_le_add_left (Nat.le_of_ble_eq_true rfl) n) hn⟩ (Nat.le_of_ble_eq_true rfl) (dat dkW_c10 7 rfl) ?_
  rintro r M9 (⟨v, M', hp, rfl, rfl⟩ | ⟨M', hp, rfl, rfl⟩)
  ·
    refine ⟨_, loV_m, ?_⟩
    refine r_istore_5 E (dat dkW_c10 8 rfl) rfl rfl ?_
    refine r_aload_n E (dat dkW_c10 9 rfl) rfl rfl ?_
    refine r_aldX E (dat dkW_c10 10 rfl) rfl rfl ?_
    refine r_iload E (dat dkW_c10 11 rfl) rfl ?_
    refine r_iconst (v := 1) E (dat dkW_c10 12 rfl) rfl ?_
    refine r_iadd E (dat dkW_c10 13 rfl) ?_
    refine r_sld E hX hb hA hL (nI_add i 1) (show i + 1 < Ls by omega) (dat dkW_c10 14 rfl) ?_
    refine r_callV (κ := 9) (μ := [20]) E (hR (vw [20] (loV N M' v)) rfl) my_X10_heightOf iv_X10_heightOf ml_L_177 cm_LR ⟨by decide, rfl, rfl⟩ rfl rfl rfl rfl ⟨Nat.le_of_ble_eq_true rfl, Nat.le_of_ble_eq_true rfl, Nat.le_trans (show k + 4 + 0 ≤ k + 100 by omega) hk, Nat.le_trans (show n + 24 + 0 ≤ n + 1000 by omega) hn⟩ (Nat.le_of_ble_eq_true rfl) (dat dkW_c10 15 rfl) ?_
    rintro r R' hp2
    obtain ⟨rfl, ht, hrel⟩ := P1 v M' hp _ rfl r R' hp2
    refine ⟨_, Mrg_R, ?_⟩
    refine r_istore_6 E (dat dkW_c10 16 rfl) rfl rfl ?_
    refine r_aload_n E (dat dkW_c10 17 rfl) rfl rfl ?_
    refine r_callV (κ := 9) (μ := [20]) E (sp_X10_thrown l G _) my_X10_thrown iv_X10_thrown ml_L_178 cm_LR ⟨by decide, rfl, rfl⟩ rfl rfl rfl rfl ⟨Nat.le_of_ble_eq_true rfl, Nat.le_of_ble_eq_true rfl, Nat.le_trans (show k + 4 + 0 + 0 ≤ k + 100 by omega) hk, Nat.le_trans (show n + 24 + 0 + 0 ≤ n + 1000 by omega) hn⟩ (Nat.le_of_ble_eq_true rfl) (dat dkW_c10 18 rfl) ?_
    rintro _ _ ⟨rfl, rfl⟩
    refine ⟨_, Mrg_T, ?_⟩
    refine r_topE (show vw [20] (setm (loV N M' v) 20 (R' 0)) 0 0 6 = 0 from ht) ?_
    refine r_iload E (dat dkW_c10 19 rfl) rfl ?_
    refine r_icmp_eq (tgt := 526) E (dat dkW_c10 20 rfl) rfl (fun _ => ?_) (fun h => absurd rfl h)
    refine r_iload E (dat dkW_c10 23 rfl) rfl ?_
    refine r_if_ne (tgt := 543) E (dat dkW_c10 24 rfl) rfl (fun h => absurd rfl h) (fun _ => ?_)
    refine r_aload_n E (dat dkW_c10 25 rfl) rfl rfl ?_
    refine r_iconst (v := 0) E (dat dkW_c10 26 rfl) rfl ?_
    refine r_lald (N := 1) E (dat dkW_c10 27 rfl) rfl rfl (by unfold vp_in; decide) ?_
    refine r_iload E (dat dkW_c10 28 rfl) rfl ?_
    refine r_i2l E (dat dkW_c10 29 rfl) ?_
    refine r_lcmp E (dat dkW_c10 30 rfl) ?_
    refine r_if_eq (tgt := 543) E (dat dkW_c10 31 rfl) rfl (fun _ => ?_) (fun h9 => absurd (lg_self v.toInt64) h9)
    refine r_goto (tgt := 2775) E (dat dkW_c10 34 rfl) rfl ?_
    refine r_wid (k2 := k + 100) (n2 := n + 1000) (by show k + 4 + 0 + 0 ≤ _; omega) (by show n + 24 + 0 + 0 ≤ _; omega) ?_
    refine r_back rfl (by simp [LW]) (kk _ (RLe_tr hrel (fun j hj => loV_lt hj) rfl))
  ·
    refine ⟨_, loX_m2, ?_⟩
    refine r_istore_5 E (dat dkW_c10 8 rfl) rfl rfl ?_
    refine r_aload_n E (dat dkW_c10 9 rfl) rfl rfl ?_
    refine r_aldX E (dat dkW_c10 10 rfl) rfl rfl ?_
    refine r_iload E (dat dkW_c10 11 rfl) rfl ?_
    refine r_iconst (v := 1) E (dat dkW_c10 12 rfl) rfl ?_
    refine r_iadd E (dat dkW_c10 13 rfl) ?_
    refine r_sld E hX hb hA hL (nI_add i 1) (show i + 1 < Ls by omega) (dat dkW_c10 14 rfl) ?_
    refine r_callV (κ := 9) (μ := [20]) E (hR (vw [20] (loX N M')) rfl) my_X10_heightOf iv_X10_heightOf ml_L_177 cm_LR ⟨by decide, rfl, rfl⟩ rfl rfl rfl rfl ⟨Nat.le_of_ble_eq_true rfl, Nat.le_of_ble_eq_true rfl, Nat.le_trans (show k + 4 + 0 ≤ k + 100 by omega) hk, Nat.le_trans (show n + 24 + 0 ≤ n + 1000 by omega) hn⟩ (Nat.le_of_ble_eq_true rfl) (dat dkW_c10 15 rfl) ?_
    rintro r R' hp2
    obtain ⟨⟨bv, rfl⟩, ht, hrel⟩ := P2 0 oobN M' rfl hp _ rfl r R' hp2
    refine ⟨_, Mrg_R, ?_⟩
    refine r_istore_6 E (dat dkW_c10 16 rfl) rfl rfl ?_
    refine r_aload_n E (dat dkW_c10 17 rfl) rfl rfl ?_
    refine r_callV (κ := 9) (μ := [20]) E (sp_X10_thrown l G _) my_X10_thrown iv_X10_thrown ml_L_178 cm_LR ⟨by decide, rfl, rfl⟩ rfl rfl rfl rfl ⟨Nat.le_of_ble_eq_true rfl, Nat.le_of_ble_eq_true rfl, Nat.le_trans (show k + 4 + 0 + 0 ≤ k + 100 by omega) hk, Nat.le_trans (show n + 24 + 0 + 0 ≤ n + 1000 by omega) hn⟩ (Nat.le_of_ble_eq_true rfl) (dat dkW_c10 18 rfl) ?_
    rintro _ _ ⟨rfl, rfl⟩
    refine ⟨_, Mrg_T, ?_⟩
    refine r_topE (show vw [20] (setm (loX N M') 20 (R' 0)) 0 0 6 = nI (0 + 1) from ht) ?_
    refine r_iload E (dat dkW_c10 19 rfl) rfl ?_
    refine r_icmp_eq (tgt := 526) E (dat dkW_c10 20 rfl) rfl (fun _ => ?_) (fun h => absurd rfl h)
    refine r_iload E (dat dkW_c10 23 rfl) rfl ?_
    refine r_if_ne (tgt := 543) E (dat dkW_c10 24 rfl) rfl (fun _ => ?_) (fun h => absurd h (by decide))
    refine r_goto (tgt := 2775) E (dat dkW_c10 34 rfl) rfl ?_
    refine r_wid (k2 := k + 100) (n2 := n + 1000) (by show k + 4 + 0 + 0 ≤ _; omega) (by show n + 24 + 0 + 0 ≤ _; omega) ?_
    refine r_back rfl (by simp [LW]) (kk _ (RLe_tr hrel (fun j hj => loX_lt hj) rfl))
set_option maxRecDepth 100000 in
set_option maxHeartbeats 8000000 in
theorem lb_11 {p : Program} {l : Launch} {e : Env} {s : State} {m : MethodId} {args : Array Value} {below : List Frame} {meth : Method} {c : Code} {G : GT} {ad : Nat → Nat → Nat} {Q : State → Prop} {k n : Nat} (hst : l.stackTraces = false) (E : EN p s m args meth c G (KL, lkC, ad) cL_law RL 9 (some .boolean)) {b Ls : Nat} {xs : Nat → Int32} (hX : va_X b Ls xs s s.heap) (hb : b < s.heap.size) (hA : ¬ AS (KL, lkC, ad) s.heap.size b) (hL : Ls ≤ 3072) {i : Nat} (hi : i + 6 ≤ Ls) {N : Mem} {B : Int} (H : RLe N (vw [20] N) B) (h0 : 0 ≤ B) (h1 : B + 300 < 2147483648) (hk : k + 100 ≤ room_1.cells) (hn : n + 1000 ≤ room_1.slots)
    (kk : ∀ N2 : Mem, RLe N2 (vw [20] N2) (B + 279) → WM p l e room_1 s m args below meth c G (KL, lkC, ad) 9 Q N2 (k + 100) (n + 1000) 2775 [some (.inl (.ref b)), some (rv 0 0), some (rv 20 0), some (rv 19 0), some (iv (nI i)), none, none, none, none] []) :
    WM p l e room_1 s m args below meth c G (KL, lkC, ad) 9 Q N k n 546 [some (.inl (.ref b)), some (rv 0 0), some (rv 20 0), some (rv 19 0), some (iv (nI i)), none, none, none, none] [] := by
  obtain ⟨post, XP, post2, hM, hR, hr, hE, P1, P2⟩ := pa_waterOn l hst G H h0 h1 (xs (i + 1))
  refine r_aload_n E (dat dkW_c11 0 rfl) rfl rfl ?_
  refine r_aldX E (dat dkW_c11 1 rfl) rfl rfl ?_
  refine r_iload E (dat dkW_c11 2 rfl) rfl ?_
  refine r_iconst (v := 1) E (dat dkW_c11 3 rfl) rfl ?_
  refine r_iadd E (dat dkW_c11 4 rfl) ?_
  refine r_sld E hX hb hA hL (nI_add i 1) (show i + 1 < Ls by omega) (dat dkW_c11 5 rfl) ?_
  refine r_aload_n E (dat dkW_c11 6 rfl) rfl rfl ?_
  refine r_callSW (N := 3) (μ := []) E (sp_L_waterOn l G (xs (i + 1)) N post XP hM hr (fun Ex M' h => by simpa using hE Ex M' h)) ini_L (bg_4 158 (by decide +kernel)) ⟨by decide +kernel, by decide +kernel, by decide +kernel⟩ (bg_4 157 (by decide +kernel)) ml_L_181 cm_LO rfl rfl ⟨Nat.le_of_ble_eq_true rfl, Nat.le_of_ble_eq_true rfl, Nat.le_trans (Nat.add_le_add_left (Nat.le_of_ble_eq_true rfl) k) hk, Nat.le_trans (Nat.add_le_add_left (Nat.le_of_ble_eq_true rfl) n) hn⟩ (Nat.le_of_ble_eq_true rfl) (dat dkW_c11 7 rfl) ?_
  rintro r M9 (⟨v, M', hp, rfl, rfl⟩ | ⟨M', hp, rfl, rfl⟩)
  ·
    refine ⟨_, loV_m, ?_⟩
    refine r_istore_5 E (dat dkW_c11 8 rfl) rfl rfl ?_
    refine r_aload_n E (dat dkW_c11 9 rfl) rfl rfl ?_
    refine r_aldX E (dat dkW_c11 10 rfl) rfl rfl ?_
    refine r_iload E (dat dkW_c11 11 rfl) rfl ?_
    refine r_iconst (v := 1) E (dat dkW_c11 12 rfl) rfl ?_
    refine r_iadd E (dat dkW_c11 13 rfl) ?_
    refine r_sld E hX hb hA hL (nI_add i 1) (show i + 1 < Ls by omega) (dat dkW_c11 14 rfl) ?_
    refine r_callV (κ := 9) (μ := [20]) E (hR (vw [20] (loV N M' v)) rfl) my_X10_waterOn iv_X10_waterOn ml_L_183 cm_LR ⟨by decide, rfl, rfl⟩ rfl rfl rfl rfl ⟨Nat.le_of_ble_eq_true rfl, Nat.le_of_ble_eq_true rfl, Nat.le_trans (show k + 4 + 0 ≤ k + 100 by omega) hk, Nat.le_trans (show n + 24 + 0 ≤ n + 1000 by omega) hn⟩ (Nat.le_of_ble_eq_true rfl) (dat dkW_c11 15 rfl) ?_
    rintro r R' hp2
    obtain ⟨rfl, ht, hrel⟩ := P1 v M' hp _ rfl r R' hp2
    refine ⟨_, Mrg_R, ?_⟩
    refine r_istore_6 E (dat dkW_c11 16 rfl) rfl rfl ?_
    refine r_aload_n E (dat dkW_c11 17 rfl) rfl rfl ?_
    refine r_callV (κ := 9) (μ := [20]) E (sp_X10_thrown l G _) my_X10_thrown iv_X10_thrown ml_L_178 cm_LR ⟨by decide, rfl, rfl⟩ rfl rfl rfl rfl ⟨Nat.le_of_ble_eq_true rfl, Nat.le_of_ble_eq_true rfl, Nat.le_trans (show k + 4 + 0 + 0 ≤ k + 100 by omega) hk, Nat.le_trans (show n + 24 + 0 + 0 ≤ n + 1000 by omega) hn⟩ (Nat.le_of_ble_eq_true rfl) (dat dkW_c11 18 rfl) ?_
    rintro _ _ ⟨rfl, rfl⟩
    refine ⟨_, Mrg_T, ?_⟩
    refine r_topE (show vw [20] (setm (loV N M' v) 20 (R' 0)) 0 0 6 = 0 from ht) ?_
    refine r_iload E (dat dkW_c11 19 rfl) rfl ?_
    refine r_icmp_eq (tgt := 582) E (dat dkW_c11 20 rfl) rfl (fun _ => ?_) (fun h => absurd rfl h)
    refine r_iload E (dat dkW_c11 23 rfl) rfl ?_
    refine r_if_ne (tgt := 599) E (dat dkW_c11 24 rfl) rfl (fun h => absurd rfl h) (fun _ => ?_)
    refine r_aload_n E (dat dkW_c11 25 rfl) rfl rfl ?_
    refine r_iconst (v := 0) E (dat dkW_c11 26 rfl) rfl ?_
    refine r_lald (N := 1) E (dat dkW_c11 27 rfl) rfl rfl (by unfold vp_in; decide) ?_
    refine r_iload E (dat dkW_c11 28 rfl) rfl ?_
    refine r_i2l E (dat dkW_c11 29 rfl) ?_
    refine r_lcmp E (dat dkW_c11 30 rfl) ?_
    refine r_if_eq (tgt := 599) E (dat dkW_c11 31 rfl) rfl (fun _ => ?_) (fun h9 => absurd (lg_self v.toInt64) h9)
    refine r_goto (tgt := 2775) E (dat dkW_c11 34 rfl) rfl ?_
    refine r_wid (k2 := k + 100) (n2 := n + 1000) (by show k + 4 + 0 + 0 ≤ _; omega) (by show n + 24 + 0 + 0 ≤ _; omega) ?_
    refine r_back rfl (by simp [LW]) (kk _ (RLe_tr hrel (fun j hj => loV_lt hj) rfl))
  ·
    refine ⟨_, loX_m2, ?_⟩
    refine r_istore_5 E (dat dkW_c11 8 rfl) rfl rfl ?_
    refine r_aload_n E (dat dkW_c11 9 rfl) rfl rfl ?_
    refine r_aldX E (dat dkW_c11 10 rfl) rfl rfl ?_
    refine r_iload E (dat dkW_c11 11 rfl) rfl ?_
    refine r_iconst (v := 1) E (dat dkW_c11 12 rfl) rfl ?_
    refine r_iadd E (dat dkW_c11 13 rfl) ?_
    refine r_sld E hX hb hA hL (nI_add i 1) (show i + 1 < Ls by omega) (dat dkW_c11 14 rfl) ?_
    refine r_callV (κ := 9) (μ := [20]) E (hR (vw [20] (loX N M')) rfl) my_X10_waterOn iv_X10_waterOn ml_L_183 cm_LR ⟨by decide, rfl, rfl⟩ rfl rfl rfl rfl ⟨Nat.le_of_ble_eq_true rfl, Nat.le_of_ble_eq_true rfl, Nat.le_trans (show k + 4 + 0 ≤ k + 100 by omega) hk, Nat.le_trans (show n + 24 + 0 ≤ n + 1000 by omega) hn⟩ (Nat.le_of_ble_eq_true rfl) (dat dkW_c11 15 rfl) ?_
    rintro r R' hp2
    obtain ⟨⟨bv, rfl⟩, ht, hrel⟩ := P2 0 oobN M' rfl hp _ rfl r R' hp2
    refine ⟨_, Mrg_R, ?_⟩
    refine r_istore_6 E (dat dkW_c11 16 rfl) rfl rfl ?_
    refine r_aload_n E (dat dkW_c11 17 rfl) rfl rfl ?_
    refine r_callV (κ := 9) (μ := [20]) E (sp_X10_thrown l G _) my_X10_thrown iv_X10_thrown ml_L_178 cm_LR ⟨by decide, rfl, rfl⟩ rfl rfl rfl rfl ⟨Nat.le_of_ble_eq_true rfl, Nat.le_of_ble_eq_true rfl, Nat.le_trans (show k + 4 + 0 + 0 ≤ k + 100 by omega) hk, Nat.le_trans (show n + 24 + 0 + 0 ≤ n + 1000 by omega) hn⟩ (Nat.le_of_ble_eq_true rfl) (dat dkW_c11 18 rfl) ?_
    rintro _ _ ⟨rfl, rfl⟩
    refine ⟨_, Mrg_T, ?_⟩
    refine r_topE (show vw [20] (setm (loX N M') 20 (R' 0)) 0 0 6 = nI (0 + 1) from ht) ?_
    refine r_iload E (dat dkW_c11 19 rfl) rfl ?_
    refine r_icmp_eq (tgt := 582) E (dat dkW_c11 20 rfl) rfl (fun _ => ?_) (fun h => absurd rfl h)
    refine r_iload E (dat dkW_c11 23 rfl) rfl ?_
    refine r_if_ne (tgt := 599) E (dat dkW_c11 24 rfl) rfl (fun _ => ?_) (fun h => absurd h (by decide))
    refine r_goto (tgt := 2775) E (dat dkW_c11 34 rfl) rfl ?_
    refine r_wid (k2 := k + 100) (n2 := n + 1000) (by show k + 4 + 0 + 0 ≤ _; omega) (by show n + 24 + 0 + 0 ≤ _; omega) ?_
    refine r_back rfl (by simp [LW]) (kk _ (RLe_tr hrel (fun j hj => loX_lt hj) rfl))
set_option maxRecDepth 100000 in
set_option maxHeartbeats 8000000 in
theorem lb_12 {p : Program} {l : Launch} {e : Env} {s : State} {m : MethodId} {args : Array Value} {below : List Frame} {meth : Method} {c : Code} {G : GT} {ad : Nat → Nat → Nat} {Q : State → Prop} {k n : Nat} (hst : l.stackTraces = false) (E : EN p s m args meth c G (KL, lkC, ad) cL_law RL 9 (some .boolean)) {b Ls : Nat} {xs : Nat → Int32} (hX : va_X b Ls xs s s.heap) (hb : b < s.heap.size) (hA : ¬ AS (KL, lkC, ad) s.heap.size b) (hL : Ls ≤ 3072) {i : Nat} (hi : i + 6 ≤ Ls) {N : Mem} {B : Int} (H : RLe N (vw [20] N) B) (h0 : 0 ≤ B) (h1 : B + 300 < 2147483648) (hk : k + 100 ≤ room_1.cells) (hn : n + 1000 ≤ room_1.slots)
    (kk : ∀ N2 : Mem, RLe N2 (vw [20] N2) (B + 279) → WM p l e room_1 s m args below meth c G (KL, lkC, ad) 9 Q N2 (k + 100) (n + 1000) 2775 [some (.inl (.ref b)), some (rv 0 0), some (rv 20 0), some (rv 19 0), some (iv (nI i)), none, none, none, none] []) :
    WM p l e room_1 s m args below meth c G (KL, lkC, ad) 9 Q N k n 602 [some (.inl (.ref b)), some (rv 0 0), some (rv 20 0), some (rv 19 0), some (iv (nI i)), none, none, none, none] [] := by
  obtain ⟨post, XP, post2, hM, hR, hr, hE, P1, P2⟩ := pa_levelOf l hst G H h0 h1 (xs (i + 1))
  refine r_aload_n E (dat dkW_c12 0 rfl) rfl rfl ?_
  refine r_aldX E (dat dkW_c12 1 rfl) rfl rfl ?_
  refine r_iload E (dat dkW_c12 2 rfl) rfl ?_
  refine r_iconst (v := 1) E (dat dkW_c12 3 rfl) rfl ?_
  refine r_iadd E (dat dkW_c12 4 rfl) ?_
  refine r_sld E hX hb hA hL (nI_add i 1) (show i + 1 < Ls by omega) (dat dkW_c12 5 rfl) ?_
  refine r_aload_n E (dat dkW_c12 6 rfl) rfl rfl ?_
  refine r_callSW (N := 3) (μ := []) E (sp_L_levelOf l G (xs (i + 1)) N post XP hM hr (fun Ex M' h => by simpa using hE Ex M' h)) ini_L (bg_4 165 (by decide +kernel)) ⟨by decide +kernel, by decide +kernel, by decide +kernel⟩ (bg_4 164 (by decide +kernel)) ml_L_184 cm_LO rfl rfl ⟨Nat.le_of_ble_eq_true rfl, Nat.le_of_ble_eq_true rfl, Nat.le_trans (Nat.add_le_add_left (Nat.le_of_ble_eq_true rfl) k) hk, Nat.le_trans (Nat.add_le_add_left (Nat.le_of_ble_eq_true rfl) n) hn⟩ (Nat.le_of_ble_eq_true rfl) (dat dkW_c12 7 rfl) ?_
  rintro r M9 (⟨v, M', hp, rfl, rfl⟩ | ⟨M', hp, rfl, rfl⟩)
  ·
    refine ⟨_, loV_m, ?_⟩
    refine r_istore_5 E (dat dkW_c12 8 rfl) rfl rfl ?_
    refine r_aload_n E (dat dkW_c12 9 rfl) rfl rfl ?_
    refine r_aldX E (dat dkW_c12 10 rfl) rfl rfl ?_
    refine r_iload E (dat dkW_c12 11 rfl) rfl ?_
    refine r_iconst (v := 1) E (dat dkW_c12 12 rfl) rfl ?_
    refine r_iadd E (dat dkW_c12 13 rfl) ?_
    refine r_sld E hX hb hA hL (nI_add i 1) (show i + 1 < Ls by omega) (dat dkW_c12 14 rfl) ?_
    refine r_callV (κ := 9) (μ := [20]) E (hR (vw [20] (loV N M' v)) rfl) my_X10_levelOf iv_X10_levelOf ml_L_186 cm_LR ⟨by decide, rfl, rfl⟩ rfl rfl rfl rfl ⟨Nat.le_of_ble_eq_true rfl, Nat.le_of_ble_eq_true rfl, Nat.le_trans (show k + 4 + 0 ≤ k + 100 by omega) hk, Nat.le_trans (show n + 24 + 0 ≤ n + 1000 by omega) hn⟩ (Nat.le_of_ble_eq_true rfl) (dat dkW_c12 15 rfl) ?_
    rintro r R' hp2
    obtain ⟨rfl, ht, hrel⟩ := P1 v M' hp _ rfl r R' hp2
    refine ⟨_, Mrg_R, ?_⟩
    refine r_istore_6 E (dat dkW_c12 16 rfl) rfl rfl ?_
    refine r_aload_n E (dat dkW_c12 17 rfl) rfl rfl ?_
    refine r_callV (κ := 9) (μ := [20]) E (sp_X10_thrown l G _) my_X10_thrown iv_X10_thrown ml_L_178 cm_LR ⟨by decide, rfl, rfl⟩ rfl rfl rfl rfl ⟨Nat.le_of_ble_eq_true rfl, Nat.le_of_ble_eq_true rfl, Nat.le_trans (show k + 4 + 0 + 0 ≤ k + 100 by omega) hk, Nat.le_trans (show n + 24 + 0 + 0 ≤ n + 1000 by omega) hn⟩ (Nat.le_of_ble_eq_true rfl) (dat dkW_c12 18 rfl) ?_
    rintro _ _ ⟨rfl, rfl⟩
    refine ⟨_, Mrg_T, ?_⟩
    refine r_topE (show vw [20] (setm (loV N M' v) 20 (R' 0)) 0 0 6 = 0 from ht) ?_
    refine r_iload E (dat dkW_c12 19 rfl) rfl ?_
    refine r_icmp_eq (tgt := 638) E (dat dkW_c12 20 rfl) rfl (fun _ => ?_) (fun h => absurd rfl h)
    refine r_iload E (dat dkW_c12 23 rfl) rfl ?_
    refine r_if_ne (tgt := 655) E (dat dkW_c12 24 rfl) rfl (fun h => absurd rfl h) (fun _ => ?_)
    refine r_aload_n E (dat dkW_c12 25 rfl) rfl rfl ?_
    refine r_iconst (v := 0) E (dat dkW_c12 26 rfl) rfl ?_
    refine r_lald (N := 1) E (dat dkW_c12 27 rfl) rfl rfl (by unfold vp_in; decide) ?_
    refine r_iload E (dat dkW_c12 28 rfl) rfl ?_
    refine r_i2l E (dat dkW_c12 29 rfl) ?_
    refine r_lcmp E (dat dkW_c12 30 rfl) ?_
    refine r_if_eq (tgt := 655) E (dat dkW_c12 31 rfl) rfl (fun _ => ?_) (fun h9 => absurd (lg_self v.toInt64) h9)
    refine r_goto (tgt := 2775) E (dat dkW_c12 34 rfl) rfl ?_
    refine r_wid (k2 := k + 100) (n2 := n + 1000) (by show k + 4 + 0 + 0 ≤ _; omega) (by show n + 24 + 0 + 0 ≤ _; omega) ?_
    refine r_back rfl (by simp [LW]) (kk _ (RLe_tr hrel (fun j hj => loV_lt hj) rfl))
  ·
    refine ⟨_, loX_m2, ?_⟩
    refine r_istore_5 E (dat dkW_c12 8 rfl) rfl rfl ?_
    refine r_aload_n E (dat dkW_c12 9 rfl) rfl rfl ?_
    refine r_aldX E (dat dkW_c12 10 rfl) rfl rfl ?_
    refine r_iload E (dat dkW_c12 11 rfl) rfl ?_
    refine r_iconst (v := 1) E (dat dkW_c12 12 rfl) rfl ?_
    refine r_iadd E (dat dkW_c12 13 rfl) ?_
    refine r_sld E hX hb hA hL (nI_add i 1) (show i + 1 < Ls by omega) (dat dkW_c12 14 rfl) ?_
    refine r_callV (κ := 9) (μ := [20]) E (hR (vw [20] (loX N M')) rfl) my_X10_levelOf iv_X10_levelOf ml_L_186 cm_LR ⟨by decide, rfl, rfl⟩ rfl rfl rfl rfl ⟨Nat.le_of_ble_eq_true rfl, Nat.le_of_ble_eq_true rfl, Nat.le_trans (show k + 4 + 0 ≤ k + 100 by omega) hk, Nat.le_trans (show n + 24 + 0 ≤ n + 1000 by omega) hn⟩ (Nat.le_of_ble_eq_true rfl) (dat dkW_c12 15 rfl) ?_
    rintro r R' hp2
    obtain ⟨⟨bv, rfl⟩, ht, hrel⟩ := P2 0 oobN M' rfl hp _ rfl r R' hp2
    refine ⟨_, Mrg_R, ?_⟩
    refine r_istore_6 E (dat dkW_c12 16 rfl) rfl rfl ?_
    refine r_aload_n E (dat dkW_c12 17 rfl) rfl rfl ?_
    refine r_callV (κ := 9) (μ := [20]) E (sp_X10_thrown l G _) my_X10_thrown iv_X10_thrown ml_L_178 cm_LR ⟨by decide, rfl, rfl⟩ rfl rfl rfl rfl ⟨Nat.le_of_ble_eq_true rfl, Nat.le_of_ble_eq_true rfl, Nat.le_trans (show k + 4 + 0 + 0 ≤ k + 100 by omega) hk, Nat.le_trans (show n + 24 + 0 + 0 ≤ n + 1000 by omega) hn⟩ (Nat.le_of_ble_eq_true rfl) (dat dkW_c12 18 rfl) ?_
    rintro _ _ ⟨rfl, rfl⟩
    refine ⟨_, Mrg_T, ?_⟩
    refine r_topE (show vw [20] (setm (loX N M') 20 (R' 0)) 0 0 6 = nI (0 + 1) from ht) ?_
    refine r_iload E (dat dkW_c12 19 rfl) rfl ?_
    refine r_icmp_eq (tgt := 638) E (dat dkW_c12 20 rfl) rfl (fun _ => ?_) (fun h => absurd rfl h)
    refine r_iload E (dat dkW_c12 23 rfl) rfl ?_
    refine r_if_ne (tgt := 655) E (dat dkW_c12 24 rfl) rfl (fun _ => ?_) (fun h => absurd h (by decide))
    refine r_goto (tgt := 2775) E (dat dkW_c12 34 rfl) rfl ?_
    refine r_wid (k2 := k + 100) (n2 := n + 1000) (by show k + 4 + 0 + 0 ≤ _; omega) (by show n + 24 + 0 + 0 ≤ _; omega) ?_
    refine r_back rfl (by simp [LW]) (kk _ (RLe_tr hrel (fun j hj => loX_lt hj) rfl))
set_option maxRecDepth 100000 in
set_option maxHeartbeats 8000000 in
theorem lb_13 {p : Program} {l : Launch} {e : Env} {s : State} {m : MethodId} {args : Array Value} {below : List Frame} {meth : Method} {c : Code} {G : GT} {ad : Nat → Nat → Nat} {Q : State → Prop} {k n : Nat} (hst : l.stackTraces = false) (E : EN p s m args meth c G (KL, lkC, ad) cL_law RL 9 (some .boolean)) {b Ls : Nat} {xs : Nat → Int32} (hX : va_X b Ls xs s s.heap) (hb : b < s.heap.size) (hA : ¬ AS (KL, lkC, ad) s.heap.size b) (hL : Ls ≤ 3072) {i : Nat} (hi : i + 6 ≤ Ls) {N : Mem} {B : Int} (H : RLe N (vw [20] N) B) (h0 : 0 ≤ B) (h1 : B + 300 < 2147483648) (hk : k + 100 ≤ room_1.cells) (hn : n + 1000 ≤ room_1.slots)
    (kk : ∀ N2 : Mem, RLe N2 (vw [20] N2) (B + 279) → WM p l e room_1 s m args below meth c G (KL, lkC, ad) 9 Q N2 (k + 100) (n + 1000) 2775 [some (.inl (.ref b)), some (rv 0 0), some (rv 20 0), some (rv 19 0), some (iv (nI i)), none, none, none, none] []) :
    WM p l e room_1 s m args below meth c G (KL, lkC, ad) 9 Q N k n 658 [some (.inl (.ref b)), some (rv 0 0), some (rv 20 0), some (rv 19 0), some (iv (nI i)), none, none, none, none] [] := by
  obtain ⟨post, XP, post2, hM, hR, hr, hE, P1, P2⟩ := pa_leavesOn l hst G H h0 h1 (xs (i + 1))
  refine r_aload_n E (dat dkW_c13 0 rfl) rfl rfl ?_
  refine r_aldX E (dat dkW_c13 1 rfl) rfl rfl ?_
  refine r_iload E (dat dkW_c13 2 rfl) rfl ?_
  refine r_iconst (v := 1) E (dat dkW_c13 3 rfl) rfl ?_
  refine r_iadd E (dat dkW_c13 4 rfl) ?_
  refine r_sld E hX hb hA hL (nI_add i 1) (show i + 1 < Ls by omega) (dat dkW_c13 5 rfl) ?_
  refine r_aload_n E (dat dkW_c13 6 rfl) rfl rfl ?_
  refine r_callSW (N := 3) (μ := []) E (sp_L_leavesOn l G (xs (i + 1)) N post XP hM hr (fun Ex M' h => by simpa using hE Ex M' h)) ini_L (bg_4 172 (by decide +kernel)) ⟨by decide +kernel, by decide +kernel, by decide +kernel⟩ (bg_4 171 (by decide +kernel)) ml_L_187 cm_LO rfl rfl ⟨Nat.le_of_ble_eq_true rfl, Nat.le_of_ble_eq_true rfl, Nat.le_trans (Nat.add_le_add_left (Nat.le_of_ble_eq_true rfl) k) hk, Nat.le_trans (Nat.add_le_add_left (Nat.le_of_ble_eq_true rfl) n) hn⟩ (Nat.le_of_ble_eq_true rfl) (dat dkW_c13 7 rfl) ?_
  rintro r M9 (⟨v, M', hp, rfl, rfl⟩ | ⟨M', hp, rfl, rfl⟩)
  ·
    refine ⟨_, loV_m, ?_⟩
    refine r_istore_5 E (dat dkW_c13 8 rfl) rfl rfl ?_
    refine r_aload_n E (dat dkW_c13 9 rfl) rfl rfl ?_
    refine r_aldX E (dat dkW_c13 10 rfl) rfl rfl ?_
    refine r_iload E (dat dkW_c13 11 rfl) rfl ?_
    refine r_iconst (v := 1) E (dat dkW_c13 12 rfl) rfl ?_
    refine r_iadd E (dat dkW_c13 13 rfl) ?_
    refine r_sld E hX hb hA hL (nI_add i 1) (show i + 1 < Ls by omega) (dat dkW_c13 14 rfl) ?_
    refine r_callV (κ := 9) (μ := [20]) E (hR (vw [20] (loV N M' v)) rfl) my_X10_leavesOn iv_X10_leavesOn ml_L_189 cm_LR ⟨by decide, rfl, rfl⟩ rfl rfl rfl rfl ⟨Nat.le_of_ble_eq_true rfl, Nat.le_of_ble_eq_true rfl, Nat.le_trans (show k + 4 + 0 ≤ k + 100 by omega) hk, Nat.le_trans (show n + 24 + 0 ≤ n + 1000 by omega) hn⟩ (Nat.le_of_ble_eq_true rfl) (dat dkW_c13 15 rfl) ?_
    rintro r R' hp2
    obtain ⟨rfl, ht, hrel⟩ := P1 v M' hp _ rfl r R' hp2
    refine ⟨_, Mrg_R, ?_⟩
    refine r_istore_6 E (dat dkW_c13 16 rfl) rfl rfl ?_
    refine r_aload_n E (dat dkW_c13 17 rfl) rfl rfl ?_
    refine r_callV (κ := 9) (μ := [20]) E (sp_X10_thrown l G _) my_X10_thrown iv_X10_thrown ml_L_178 cm_LR ⟨by decide, rfl, rfl⟩ rfl rfl rfl rfl ⟨Nat.le_of_ble_eq_true rfl, Nat.le_of_ble_eq_true rfl, Nat.le_trans (show k + 4 + 0 + 0 ≤ k + 100 by omega) hk, Nat.le_trans (show n + 24 + 0 + 0 ≤ n + 1000 by omega) hn⟩ (Nat.le_of_ble_eq_true rfl) (dat dkW_c13 18 rfl) ?_
    rintro _ _ ⟨rfl, rfl⟩
    refine ⟨_, Mrg_T, ?_⟩
    refine r_topE (show vw [20] (setm (loV N M' v) 20 (R' 0)) 0 0 6 = 0 from ht) ?_
    refine r_iload E (dat dkW_c13 19 rfl) rfl ?_
    refine r_icmp_eq (tgt := 694) E (dat dkW_c13 20 rfl) rfl (fun _ => ?_) (fun h => absurd rfl h)
    refine r_iload E (dat dkW_c13 23 rfl) rfl ?_
    refine r_if_ne (tgt := 711) E (dat dkW_c13 24 rfl) rfl (fun h => absurd rfl h) (fun _ => ?_)
    refine r_aload_n E (dat dkW_c13 25 rfl) rfl rfl ?_
    refine r_iconst (v := 0) E (dat dkW_c13 26 rfl) rfl ?_
    refine r_lald (N := 1) E (dat dkW_c13 27 rfl) rfl rfl (by unfold vp_in; decide) ?_
    refine r_iload E (dat dkW_c13 28 rfl) rfl ?_
    refine r_i2l E (dat dkW_c13 29 rfl) ?_
    refine r_lcmp E (dat dkW_c13 30 rfl) ?_
    refine r_if_eq (tgt := 711) E (dat dkW_c13 31 rfl) rfl (fun _ => ?_) (fun h9 => absurd (lg_self v.toInt64) h9)
    refine r_goto (tgt := 2775) E (dat dkW_c13 34 rfl) rfl ?_
    refine r_wid (k2 := k + 100) (n2 := n + 1000) (by show k + 4 + 0 + 0 ≤ _; omega) (by show n + 24 + 0 + 0 ≤ _; omega) ?_
    refine r_back rfl (by simp [LW]) (kk _ (RLe_tr hrel (fun j hj => loV_lt hj) rfl))
  ·
    refine ⟨_, loX_m2, ?_⟩
    refine r_istore_5 E (dat dkW_c13 8 rfl) rfl rfl ?_
    refine r_aload_n E (dat dkW_c13 9 rfl) rfl rfl ?_
    refine r_aldX E (dat dkW_c13 10 rfl) rfl rfl ?_
    refine r_iload E (dat dkW_c13 11 rfl) rfl ?_
    refine r_iconst (v := 1) E (dat dkW_c13 12 rfl) rfl ?_
    refine r_iadd E (dat dkW_c13 13 rfl) ?_
    refine r_sld E hX hb hA hL (nI_add i 1) (show i + 1 < Ls by omega) (dat dkW_c13 14 rfl) ?_
    refine r_callV (κ := 9) (μ := [20]) E (hR (vw [20] (loX N M')) rfl) my_X10_leavesOn iv_X10_leavesOn ml_L_189 cm_LR ⟨by decide, rfl, rfl⟩ rfl rfl rfl rfl ⟨Nat.le_of_ble_eq_true rfl, Nat.le_of_ble_eq_true rfl, Nat.le_trans (show k + 4 + 0 ≤ k + 100 by omega) hk, Nat.le_trans (show n + 24 + 0 ≤ n + 1000 by omega) hn⟩ (Nat.le_of_ble_eq_true rfl) (dat dkW_c13 15 rfl) ?_
    rintro r R' hp2
    obtain ⟨⟨bv, rfl⟩, ht, hrel⟩ := P2 0 oobN M' rfl hp _ rfl r R' hp2
    refine ⟨_, Mrg_R, ?_⟩
    refine r_istore_6 E (dat dkW_c13 16 rfl) rfl rfl ?_
    refine r_aload_n E (dat dkW_c13 17 rfl) rfl rfl ?_
    refine r_callV (κ := 9) (μ := [20]) E (sp_X10_thrown l G _) my_X10_thrown iv_X10_thrown ml_L_178 cm_LR ⟨by decide, rfl, rfl⟩ rfl rfl rfl rfl ⟨Nat.le_of_ble_eq_true rfl, Nat.le_of_ble_eq_true rfl, Nat.le_trans (show k + 4 + 0 + 0 ≤ k + 100 by omega) hk, Nat.le_trans (show n + 24 + 0 + 0 ≤ n + 1000 by omega) hn⟩ (Nat.le_of_ble_eq_true rfl) (dat dkW_c13 18 rfl) ?_
    rintro _ _ ⟨rfl, rfl⟩
    refine ⟨_, Mrg_T, ?_⟩
    refine r_topE (show vw [20] (setm (loX N M') 20 (R' 0)) 0 0 6 = nI (0 + 1) from ht) ?_
    refine r_iload E (dat dkW_c13 19 rfl) rfl ?_
    refine r_icmp_eq (tgt := 694) E (dat dkW_c13 20 rfl) rfl (fun _ => ?_) (fun h => absurd rfl h)
    refine r_iload E (dat dkW_c13 23 rfl) rfl ?_
    refine r_if_ne (tgt := 711) E (dat dkW_c13 24 rfl) rfl (fun _ => ?_) (fun h => absurd h (by decide))
    refine r_goto (tgt := 2775) E (dat dkW_c13 34 rfl) rfl ?_
    refine r_wid (k2 := k + 100) (n2 := n + 1000) (by show k + 4 + 0 + 0 ≤ _; omega) (by show n + 24 + 0 + 0 ≤ _; omega) ?_
    refine r_back rfl (by simp [LW]) (kk _ (RLe_tr hrel (fun j hj => loX_lt hj) rfl))
set_option maxRecDepth 100000 in
set_option maxHeartbeats 8000000 in
theorem lb_14 {p : Program} {l : Launch} {e : Env} {s : State} {m : MethodId} {args : Array Value} {below : List Frame} {meth : Method} {c : Code} {G : GT} {ad : Nat → Nat → Nat} {Q : State → Prop} {k n : Nat} (hst : l.stackTraces = false) (E : EN p s m args meth c G (KL, lkC, ad) cL_law RL 9 (some .boolean)) {b Ls : Nat} {xs : Nat → Int32} (hX : va_X b Ls xs s s.heap) (hb : b < s.heap.size) (hA : ¬ AS (KL, lkC, ad) s.heap.size b) (hL : Ls ≤ 3072) {i : Nat} (hi : i + 6 ≤ Ls) {N : Mem} {B : Int} (H : RLe N (vw [20] N) B) (h0 : 0 ≤ B) (h1 : B + 300 < 2147483648) (hk : k + 100 ≤ room_1.cells) (hn : n + 1000 ≤ room_1.slots)
    (kk : ∀ N2 : Mem, RLe N2 (vw [20] N2) (B + 279) → WM p l e room_1 s m args below meth c G (KL, lkC, ad) 9 Q N2 (k + 100) (n + 1000) 2775 [some (.inl (.ref b)), some (rv 0 0), some (rv 20 0), some (rv 19 0), some (iv (nI i)), none, none, none, none] []) :
    WM p l e room_1 s m args below meth c G (KL, lkC, ad) 9 Q N k n 714 [some (.inl (.ref b)), some (rv 0 0), some (rv 20 0), some (rv 19 0), some (iv (nI i)), none, none, none, none] [] := by
  obtain ⟨post, XP, post2, hM, hR, hr, hE, P1, P2⟩ := pa_gutterCapacity l hst G H h0 h1 (xs (i + 1))
  refine r_aload_n E (dat dkW_c14 0 rfl) rfl rfl ?_
  refine r_aldX E (dat dkW_c14 1 rfl) rfl rfl ?_
  refine r_iload E (dat dkW_c14 2 rfl) rfl ?_
  refine r_iconst (v := 1) E (dat dkW_c14 3 rfl) rfl ?_
  refine r_iadd E (dat dkW_c14 4 rfl) ?_
  refine r_sld E hX hb hA hL (nI_add i 1) (show i + 1 < Ls by omega) (dat dkW_c14 5 rfl) ?_
  refine r_aload_n E (dat dkW_c14 6 rfl) rfl rfl ?_
  refine r_callSW (N := 3) (μ := []) E (sp_L_gutterCapacity l G (xs (i + 1)) N post XP hM hr (fun Ex M' h => by simpa using hE Ex M' h)) ini_L (bg_4 179 (by decide +kernel)) ⟨by decide +kernel, by decide +kernel, by decide +kernel⟩ (bg_4 178 (by decide +kernel)) ml_L_190 cm_LO rfl rfl ⟨Nat.le_of_ble_eq_true rfl, Nat.le_of_ble_eq_true rfl, Nat.le_trans (Nat.add_le_add_left (Nat.le_of_ble_eq_true rfl) k) hk, Nat.le_trans (Nat.add_le_add_left (Nat.le_of_ble_eq_true rfl) n) hn⟩ (Nat.le_of_ble_eq_true rfl) (dat dkW_c14 7 rfl) ?_
  rintro r M9 (⟨v, M', hp, rfl, rfl⟩ | ⟨M', hp, rfl, rfl⟩)
  ·
    refine ⟨_, loV_m, ?_⟩
    refine r_istore_5 E (dat dkW_c14 8 rfl) rfl rfl ?_
    refine r_aload_n E (dat dkW_c14 9 rfl) rfl rfl ?_
    refine r_aldX E (dat dkW_c14 10 rfl) rfl rfl ?_
    refine r_iload E (dat dkW_c14 11 rfl) rfl ?_
    refine r_iconst (v := 1) E (dat dkW_c14 12 rfl) rfl ?_
    refine r_iadd E (dat dkW_c14 13 rfl) ?_
    refine r_sld E hX hb hA hL (nI_add i 1) (show i + 1 < Ls by omega) (dat dkW_c14 14 rfl) ?_
    refine r_callV (κ := 9) (μ := [20]) E (hR (vw [20] (loV N M' v)) rfl) my_X10_gutterCapacity iv_X10_gutterCapacity ml_L_192 cm_LR ⟨by decide, rfl, rfl⟩ rfl rfl rfl rfl ⟨Nat.le_of_ble_eq_true rfl, Nat.le_of_ble_eq_true rfl, Nat.le_trans (show k + 4 + 0 ≤ k + 100 by omega) hk, Nat.le_trans (show n + 24 + 0 ≤ n + 1000 by omega) hn⟩ (Nat.le_of_ble_eq_true rfl) (dat dkW_c14 15 rfl) ?_
    rintro r R' hp2
    obtain ⟨rfl, ht, hrel⟩ := P1 v M' hp _ rfl r R' hp2
    refine ⟨_, Mrg_R, ?_⟩
    refine r_istore_6 E (dat dkW_c14 16 rfl) rfl rfl ?_
    refine r_aload_n E (dat dkW_c14 17 rfl) rfl rfl ?_
    refine r_callV (κ := 9) (μ := [20]) E (sp_X10_thrown l G _) my_X10_thrown iv_X10_thrown ml_L_178 cm_LR ⟨by decide, rfl, rfl⟩ rfl rfl rfl rfl ⟨Nat.le_of_ble_eq_true rfl, Nat.le_of_ble_eq_true rfl, Nat.le_trans (show k + 4 + 0 + 0 ≤ k + 100 by omega) hk, Nat.le_trans (show n + 24 + 0 + 0 ≤ n + 1000 by omega) hn⟩ (Nat.le_of_ble_eq_true rfl) (dat dkW_c14 18 rfl) ?_
    rintro _ _ ⟨rfl, rfl⟩
    refine ⟨_, Mrg_T, ?_⟩
    refine r_topE (show vw [20] (setm (loV N M' v) 20 (R' 0)) 0 0 6 = 0 from ht) ?_
    refine r_iload E (dat dkW_c14 19 rfl) rfl ?_
    refine r_icmp_eq (tgt := 750) E (dat dkW_c14 20 rfl) rfl (fun _ => ?_) (fun h => absurd rfl h)
    refine r_iload E (dat dkW_c14 23 rfl) rfl ?_
    refine r_if_ne (tgt := 767) E (dat dkW_c14 24 rfl) rfl (fun h => absurd rfl h) (fun _ => ?_)
    refine r_aload_n E (dat dkW_c14 25 rfl) rfl rfl ?_
    refine r_iconst (v := 0) E (dat dkW_c14 26 rfl) rfl ?_
    refine r_lald (N := 1) E (dat dkW_c14 27 rfl) rfl rfl (by unfold vp_in; decide) ?_
    refine r_iload E (dat dkW_c14 28 rfl) rfl ?_
    refine r_i2l E (dat dkW_c14 29 rfl) ?_
    refine r_lcmp E (dat dkW_c14 30 rfl) ?_
    refine r_if_eq (tgt := 767) E (dat dkW_c14 31 rfl) rfl (fun _ => ?_) (fun h9 => absurd (lg_self v.toInt64) h9)
    refine r_goto (tgt := 2775) E (dat dkW_c14 34 rfl) rfl ?_
    refine r_wid (k2 := k + 100) (n2 := n + 1000) (by show k + 4 + 0 + 0 ≤ _; omega) (by show n + 24 + 0 + 0 ≤ _; omega) ?_
    refine r_back rfl (by simp [LW]) (kk _ (RLe_tr hrel (fun j hj => loV_lt hj) rfl))
  ·
    refine ⟨_, loX_m2, ?_⟩
    refine r_istore_5 E (dat dkW_c14 8 rfl) rfl rfl ?_
    refine r_aload_n E (dat dkW_c14 9 rfl) rfl rfl ?_
    refine r_aldX E (dat dkW_c14 10 rfl) rfl rfl ?_
    refine r_iload E (dat dkW_c14 11 rfl) rfl ?_
    refine r_iconst (v := 1) E (dat dkW_c14 12 rfl) rfl ?_
    refine r_iadd E (dat dkW_c14 13 rfl) ?_
    refine r_sld E hX hb hA hL (nI_add i 1) (show i + 1 < Ls by omega) (dat dkW_c14 14 rfl) ?_
    refine r_callV (κ := 9) (μ := [20]) E (hR (vw [20] (loX N M')) rfl) my_X10_gutterCapacity iv_X10_gutterCapacity ml_L_192 cm_LR ⟨by decide, rfl, rfl⟩ rfl rfl rfl rfl ⟨Nat.le_of_ble_eq_true rfl, Nat.le_of_ble_eq_true rfl, Nat.le_trans (show k + 4 + 0 ≤ k + 100 by omega) hk, Nat.le_trans (show n + 24 + 0 ≤ n + 1000 by omega) hn⟩ (Nat.le_of_ble_eq_true rfl) (dat dkW_c14 15 rfl) ?_
    rintro r R' hp2
    obtain ⟨⟨bv, rfl⟩, ht, hrel⟩ := P2 0 oobN M' rfl hp _ rfl r R' hp2
    refine ⟨_, Mrg_R, ?_⟩
    refine r_istore_6 E (dat dkW_c14 16 rfl) rfl rfl ?_
    refine r_aload_n E (dat dkW_c14 17 rfl) rfl rfl ?_
    refine r_callV (κ := 9) (μ := [20]) E (sp_X10_thrown l G _) my_X10_thrown iv_X10_thrown ml_L_178 cm_LR ⟨by decide, rfl, rfl⟩ rfl rfl rfl rfl ⟨Nat.le_of_ble_eq_true rfl, Nat.le_of_ble_eq_true rfl, Nat.le_trans (show k + 4 + 0 + 0 ≤ k + 100 by omega) hk, Nat.le_trans (show n + 24 + 0 + 0 ≤ n + 1000 by omega) hn⟩ (Nat.le_of_ble_eq_true rfl) (dat dkW_c14 18 rfl) ?_
    rintro _ _ ⟨rfl, rfl⟩
    refine ⟨_, Mrg_T, ?_⟩
    refine r_topE (show vw [20] (setm (loX N M') 20 (R' 0)) 0 0 6 = nI (0 + 1) from ht) ?_
    refine r_iload E (dat dkW_c14 19 rfl) rfl ?_
    refine r_icmp_eq (tgt := 750) E (dat dkW_c14 20 rfl) rfl (fun _ => ?_) (fun h => absurd rfl h)
    refine r_iload E (dat dkW_c14 23 rfl) rfl ?_
    refine r_if_ne (tgt := 767) E (dat dkW_c14 24 rfl) rfl (fun _ => ?_) (fun h => absurd h (by decide))
    refine r_goto (tgt := 2775) E (dat dkW_c14 34 rfl) rfl ?_
    refine r_wid (k2 := k + 100) (n2 := n + 1000) (by show k + 4 + 0 + 0 ≤ _; omega) (by show n + 24 + 0 + 0 ≤ _; omega) ?_
    refine r_back rfl (by simp [LW]) (kk _ (RLe_tr hrel (fun j hj => loX_lt hj) rfl))
