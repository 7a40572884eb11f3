/-! the rows: text, plan, heights -/
def hiR (hi : Nat → Nat → Int32) (r : Nat) (hs : List Nat) : Nat → Nat → Int32 := fun a b => if a = r ∧ 1 ≤ b ∧ b ≤ hs.length then nI (hs.getD (b - 1) 0) else hi a b
theorem hiR_0 {hi : Nat → Nat → Int32} {r : Nat} : hiR hi r [] = hi := by
  funext a b
  unfold hiR
  rw [if_neg (fun h => by have h1 := h.2.1; have h2 : b ≤ 0 := h.2.2; omega)]
theorem hiR_p {hi : Nat → Nat → Int32} {r h : Nat} {hs : List Nat} : upd2 (hiR hi r hs) r (hs.length + 1) (nI h) = hiR hi r (hs ++ [h]) := by
  funext a b
  have hl : (hs ++ [h]).length = hs.length + 1 := by simp
  unfold upd2 hiR
  rw [hl]
  by_cases h1 : a = r ∧ b = hs.length + 1
  · rw [if_pos h1, if_pos (by omega), h1.2, Nat.add_sub_cancel, getD_r (Nat.le_refl _), Nat.sub_self]
    rfl
  · rw [if_neg h1]
    by_cases h2 : a = r ∧ 1 ≤ b ∧ b ≤ hs.length
    · rw [if_pos h2, if_pos (by omega), getD_l (by omega)]
    · rw [if_neg h2, if_neg (by omega)]
theorem itT_p {hs : List Nat} {h : Nat} (hh : h < 10) : itT (hs ++ [h]) = itT hs ++ [32] ++ digs h := by
  unfold itT
  rw [List.flatMap_append, digs_1 hh, List.append_assoc]
  rfl
/-- r rows are written, and would be read so -/
def RwI (he0 : Nat → Int32) (bb : (Nat → Int32) × (Nat → Int32) × (Nat → Int32) × (Nat → Nat → Int32)) (v r : Nat) (tx : List Nat) (hi : Nat → Nat → Int32) : Prop :=
  ∃ he : Nat → Int32, PRd tx ((0, 0, 0), he0, (fun _ => 0), 0, (0, bb)) ((r, (if r = 0 then 0 else v), r * v), he, (fun _ => 0), 0, (0, bb)) r ∧ tx.length = r * (4 + 2 * v) ∧ (∀ k, k < r * v → ∃ h, h < 10 ∧ he k = nI h) ∧ ∀ a b, a < 7 → b < 7 → hi a b = if (1 ≤ a ∧ a ≤ r) ∧ (1 ≤ b ∧ b ≤ v) then he ((a - 1) * v + (b - 1)) else 100000
theorem cellq_lt {a r v b : Nat} (ha : 1 ≤ a ∧ a ≤ r) (hb : 1 ≤ b ∧ b ≤ v) : (a - 1) * v + (b - 1) < r * v := by
  have : (a - 1 + 1) * v ≤ r * v := Nat.mul_le_mul_right v (by omega)
  rw [Nat.succ_mul] at this
  omega
theorem RwI_s {he0 : Nat → Int32} {bb : (Nat → Int32) × (Nat → Int32) × (Nat → Int32) × (Nat → Nat → Int32)} {v r : Nat} {tx : List Nat} {hi : Nat → Nat → Int32} {hs : List Nat} (h : RwI he0 bb v r tx hi) (hl : hs.length = v) (hh : ∀ h ∈ hs, h < 10) (hv : 2 ≤ v ∧ v ≤ 5) (hr : r < 5) : RwI he0 bb v (r + 1) (tx ++ cS 10 ++ itT hs ++ [59]) (hiR hi (r + 1) hs) := by
  obtain ⟨he, hP, ht, hk, hrel⟩ := h
  subst hl
  have h1 := PRd_app hP (PRd_row (u := r) (v := if r = 0 then 0 else hs.length) (z := r * hs.length) (he := he) (gu := fun _ => 0) (fr := 0) (bb := (0, bb)) (hs := hs) hh (by
    by_cases h0 : r = 0
    · exact Or.inl ⟨h0, by rw [h0, Nat.zero_mul], by omega, by omega⟩
    · exact Or.inr ⟨by omega, by omega, by rw [if_neg h0], by rw [if_neg h0]; omega⟩))
  have e1 : (r + 1) * hs.length = r * hs.length + hs.length := Nat.succ_mul _ _
  refine ⟨heA he (r * hs.length) hs, ?_, ?_, fun k hk2 => ?_, fun a b ha hb => ?_⟩
  · rw [if_neg (by omega), show tx ++ cS 10 ++ itT hs ++ [59] = tx ++ (cS 10 ++ itT hs ++ [59]) by simp]
    exact h1
  · rw [List.length_append, List.length_append, List.length_append, itT_len, ht, cS_10]
    have e2 : (r + 1) * (4 + 2 * hs.length) = r * (4 + 2 * hs.length) + (4 + 2 * hs.length) := Nat.succ_mul _ _
    show r * (4 + 2 * hs.length) + 3 + 2 * hs.length + 1 = _
    omega
  · rw [heA_at]
    by_cases h2 : r * hs.length ≤ k ∧ k < r * hs.length + hs.length
    · rw [if_pos h2]
      refine ⟨_, ?_, rfl⟩
      rw [List.getD_eq_getElem?_getD, List.getElem?_eq_getElem (by omega)]
      exact hh _ (List.getElem_mem _)
    · rw [if_neg h2]
      exact hk k (by omega)
  · unfold hiR
    by_cases h2 : a = r + 1 ∧ 1 ≤ b ∧ b ≤ hs.length
    · rw [if_pos h2, if_pos (by omega), heA_at, h2.1, Nat.add_sub_cancel, if_pos (by omega), Nat.add_sub_cancel_left]
    · rw [if_neg h2, hrel a b ha hb]
      by_cases h3 : (1 ≤ a ∧ a ≤ r) ∧ (1 ≤ b ∧ b ≤ hs.length)
      · have := cellq_lt h3.1 h3.2
        rw [if_pos h3, if_pos (by omega), heA_at, if_neg (by omega)]
      · rw [if_neg h3, if_neg (by omega)]

section LS5
variable {p : Program} {l : Launch} {e : Env} {s : State} {m : MethodId} {args : Array Value} {below : List Frame} {meth : Method} {c : Code} {G : GT} {ad : Nat → Nat → Nat} {Q : State → Prop} {M0 : Mem}
set_option maxRecDepth 100000 in
set_option maxHeartbeats 4000000 in
theorem law_cols (C0 : LCx p s m args meth c G ad cL_law RL 9 (some .boolean) M0) (hN : G.2.2.1.1 ≤ 4096) {fl : Nat → Int32} {v9 : Int32} {u v : Nat} (hf12 : fl 12 = nI u) (hf13 : fl 13 = nI v) (hu : 2 ≤ u ∧ u ≤ 5) (hv : 2 ≤ v ∧ v ≤ 5) {k n r : Nat} {tx0 : List Nat} {hi0 : Nat → Nat → Int32} (hr : r < 5) (htx : tx0.length ≤ 100) (hk : k ≤ 400000) (hn : n ≤ 6000000) (kk : ∀ hs : List Nat, hs.length = v → (∀ h ∈ hs, h < 10) → LWt p l e room_1 s m args below meth c G ad cL_law RL (some .boolean) 9 Q M0 (tx0 ++ cS 10 ++ itT hs) (ZF fl (hiR hi0 (r + 1) hs) (fun _ _ => 0) (fun _ => 0) (fun _ => 0) (fun _ => 0)) (k + 2 * v) (n + 284 * v) 230 [some (rv 99 103), some (rv 0 0), some (rv 19 0), some (iv v9), some (rv 20 0), some (iv (nI (r + 1))), some (iv (nI (v + 1))), none, none] []) : ∀ (d q : Nat) (tx : List Nat) (hs : List Nat), q + d = v → hs.length = q → (∀ h ∈ hs, h < 10) → tx = tx0 ++ cS 10 ++ itT hs → LWt p l e room_1 s m args below meth c G ad cL_law RL (some .boolean) 9 Q M0 tx (ZF fl (hiR hi0 (r + 1) hs) (fun _ _ => 0) (fun _ => 0) (fun _ => 0) (fun _ => 0)) (k + 2 * q) (n + 284 * q) 165 [some (rv 99 103), some (rv 0 0), some (rv 19 0), some (iv v9), some (rv 20 0), some (iv (nI (r + 1))), some (iv (nI (q + 1))), none, none] [] := by
  intro d
  induction d with
  | zero =>
    intro q tx hs hq hl hh ht
    intro κ N qa f M hκ E hAS hSB h20 h19 hj
    refine r_iload E (dat dkL_law_k1 42 rfl) rfl ?_
    refine r_aload_n E (dat dkL_law_k1 43 rfl) rfl rfl ?_
    refine q_getn E fl_L_98 (dat dkL_law_k1 44 rfl) rfl rfl rfl ((congrFun (congrFun h19 0) 13).trans hf13) ?_
    refine q_icmp_gt (tgt := 230) E (dat dkL_law_k1 45 rfl) rfl rfl rfl (by omega) (by omega) (fun h => ?_) (fun h => absurd h (by omega))
    obtain rfl : q = v := by omega
    subst ht
    exact kk hs hl hh κ N qa f M hκ E hAS hSB h20 h19 hj
  | succ d ih =>
    intro q tx hs hq hl hh ht
    have htl : tx.length = tx0.length + 3 + 2 * q := by rw [ht, List.length_append, List.length_append, itT_len, hl, cS_10]; rfl
    intro κ N qa f M hκ E hAS hSB h20 h19 hj
    refine r_iload E (dat dkL_law_k1 42 rfl) rfl ?_
    refine r_aload_n E (dat dkL_law_k1 43 rfl) rfl rfl ?_
    refine q_getn E fl_L_98 (dat dkL_law_k1 44 rfl) rfl rfl rfl ((congrFun (congrFun h19 0) 13).trans hf13) ?_
    refine q_icmp_gt (tgt := 230) E (dat dkL_law_k1 45 rfl) rfl rfl rfl (by omega) (by omega) (fun h => absurd h (by omega)) (fun h => ?_)
    refine r_aload_n E (dat dkL_law_k1 46 rfl) rfl rfl ?_
    refine q_geta E fl_L_9 (dat dkL_law_k1 47 rfl) rfl rfl rfl ?_
    refine r_iload E (dat dkL_law_k1 48 rfl) rfl ?_
    refine q_laa (a := 0) E (dat dkL_law_k1 49 rfl) rfl rfl rfl (by decide) rfl (by omega) ?_
    refine r_iload E (dat dkL_law_k2 0 rfl) rfl ?_
    refine r_aload_n E (dat dkL_law_k2 1 rfl) rfl rfl ?_
    refine r_iload E (dat dkL_law_k2 2 rfl) rfl ?_
    refine r_callS (μ := []) E (sp_L_cell l G (r + 1) _ (by omega) hN) my_L_cell is_L_cell ml_L_236 cm_nil rfl rfl ⟨by decide, by decide, by show _ ≤ 600086; dsimp only; omega, by show _ ≤ 7301442; dsimp only; omega⟩ (Nat.le_of_ble_eq_true rfl) (dat dkL_law_k2 3 rfl) ?_
    rintro _ _ ⟨rfl, rfl⟩
    refine ⟨_, Mrg_z rfl, ?_⟩
    generalize scC G (r + 1) = w186
    refine r_wide (k2 := k + 2 * q) (n2 := n + 284 * q) (Nat.le_refl _) (Nat.le_refl _) ?_
    refine r_iconst E (dat dkL_law_k2 4 rfl) (v := nI 4) rfl ?_
    refine r_iload E (dat dkL_law_k2 5 rfl) rfl ?_
    refine l_imul E (dat dkL_law_k2 6 rfl) ?_
    refine r_iconst E (dat dkL_law_k2 7 rfl) (v := nI 4) rfl ?_
    refine l_isub E (by omega) (dat dkL_law_k2 8 rfl) ?_
    refine r_iconst E (dat dkL_law_k2 9 rfl) (v := nI 4) rfl ?_
    refine r_callS (μ := []) E (sp_L_bits l G _ (4 * (q + 1) - 4) 4 _ (by decide)) my_L_bits is_L_bits ml_L_143 cm_nil rfl rfl ⟨by decide, by decide, by show _ ≤ 600086; dsimp only; omega, by show _ ≤ 7301442; dsimp only; omega⟩ (Nat.le_of_ble_eq_true rfl) (dat dkL_law_k2 10 rfl) ?_
    rintro _ _ ⟨⟨q196, hq196, rfl⟩, rfl⟩
    refine ⟨_, Mrg_z rfl, ?_⟩
    replace hq196 : q196 < 16 := hq196
    refine r_wide (k2 := k + 2 * q) (n2 := n + 284 * q) (Nat.le_refl _) (Nat.le_refl _) ?_
    refine r_bipush E (dat dkL_law_k2 11 rfl) (v := nI 10) rfl ?_
    refine l_irem E (by omega) (by omega) (by omega) (dat dkL_law_k2 12 rfl) ?_
    refine q_iasv E (dat dkL_law_k2 13 rfl) (lae (by decide) (by omega)) (lok (Nat.le_of_ble_eq_true rfl) rfl (by decide) (by omega)) (by decide) rfl (by omega) (by rw [h19, ZF_sh (by omega)]) ?_
    obtain ⟨h20, h19, hj⟩ := l_set (Z2 := _) h20 hj
    generalize setm _ 19 _ = M at h20 h19 hj ⊢
    refine r_aload E (dat dkL_law_k2 14 rfl) rfl ?_
    refine r_bipush E (dat dkL_law_k2 15 rfl) (v := nI 32) rfl ?_
    refine l_appC (u := 32) C0 hκ E hAS hSB h20 h19 hj (by omega) (by omega) (fun _ _ _ => rfl) ml_L_249 (by omega) (by omega) (dat dkL_law_k2 16 rfl) ?_
    intro κ N qa f M hκ E hAS hSB h20 h19 hj
    have H219 : (ZF fl (upd2 (hiR hi0 (r + 1) hs) (r + 1) (q + 1) (nI (q196 % 10))) (fun _ _ => 0) (fun _ => 0) (fun _ => 0) (fun _ => 0)) (20 + 7 * 0 + (r + 1)) (q + 1) = nI (q196 % 10) := (ZF_h (by omega)).trans (if_pos ⟨rfl, rfl⟩)
    refine r_aload_n E (dat dkL_law_k2 17 rfl) rfl rfl ?_
    refine q_geta E fl_L_9 (dat dkL_law_k2 18 rfl) rfl rfl rfl ?_
    refine r_iload E (dat dkL_law_k2 19 rfl) rfl ?_
    refine q_laa (a := 0) E (dat dkL_law_k2 20 rfl) rfl rfl rfl (by decide) rfl (by omega) ?_
    refine r_iload E (dat dkL_law_k2 21 rfl) rfl ?_
    refine q_ialv E (dat dkL_law_k2 22 rfl) (lae (by decide) (by omega)) (lok (Nat.le_of_ble_eq_true rfl) rfl (by decide) (by omega)) (by decide) rfl (by omega) ((congrFun (congrFun h19 _) _).trans H219) ?_
    refine l_appI (v := q196 % 10) C0 hκ E hAS hSB h20 h19 hj (by omega) (by rw [List.length_append]; show _ + 1 + 2 ≤ 142; omega) (fun _ _ _ => rfl) ml_L_252 (by omega) (by omega) (dat dkL_law_k2 23 rfl) ?_
    intro κ N qa f M hκ E hAS hSB h20 h19 hj
    refine r_pop E (dat dkL_law_k2 24 rfl) rfl ?_
    refine q_iinc_6 E (dat dkL_law_k2 25 rfl) rfl rfl ?_
    refine r_goto (tgt := 165) E (dat dkL_law_k2 26 rfl) rfl ?_
    refine r_wide (k2 := k + 2 * (q + 1)) (n2 := n + 284 * (q + 1)) (by omega) (by omega) ?_
    subst hl
    rw [hiR_p] at h19
    exact ih (hs.length + 1) _ (hs ++ [q196 % 10]) (by omega) (by simp) (fun x hx => (List.mem_append.mp hx).elim (hh x) (fun h => by rw [List.mem_singleton.mp h]; omega)) (by rw [ht, itT_p (by omega)]; simp) κ N qa f M hκ E hAS hSB h20 h19 hj
set_option maxRecDepth 100000 in
set_option maxHeartbeats 4000000 in
theorem law_rows (C0 : LCx p s m args meth c G ad cL_law RL 9 (some .boolean) M0) (hN : G.2.2.1.1 ≤ 4096) {fl : Nat → Int32} {v9 : Int32} {u v : Nat} (hf12 : fl 12 = nI u) (hf13 : fl 13 = nI v) (hu : 2 ≤ u ∧ u ≤ 5) (hv : 2 ≤ v ∧ v ≤ 5) {k n : Nat} {he0 : Nat → Int32} {bb : (Nat → Int32) × (Nat → Int32) × (Nat → Int32) × (Nat → Nat → Int32)} (hk : k ≤ 300000) (hn : n ≤ 5000000) (kk : ∀ (tx : List Nat) (hi : Nat → Nat → Int32), RwI he0 bb v u tx hi → LWt p l e room_1 s m args below meth c G ad cL_law RL (some .boolean) 9 Q M0 tx (ZF fl (hi) (fun _ _ => 0) (fun _ => 0) (fun _ => 0) (fun _ => 0)) (k + 20 * u) (n + 3000 * u) 244 [some (rv 99 103), some (rv 0 0), some (rv 19 0), some (iv v9), some (rv 20 0), none, none, none, none] []) : ∀ (d r : Nat) (tx : List Nat) (hi : Nat → Nat → Int32), r + d = u → RwI he0 bb v r tx hi → LWt p l e room_1 s m args below meth c G ad cL_law RL (some .boolean) 9 Q M0 tx (ZF fl (hi) (fun _ _ => 0) (fun _ => 0) (fun _ => 0) (fun _ => 0)) (k + 20 * r) (n + 3000 * r) 145 [some (rv 99 103), some (rv 0 0), some (rv 19 0), some (iv v9), some (rv 20 0), some (iv (nI (r + 1))), none, none, none] [] := by
  intro d
  induction d with
  | zero =>
    intro r tx hi hq hI
    intro κ N qa f M hκ E hAS hSB h20 h19 hj
    refine r_iload E (dat dkL_law_k1 32 rfl) rfl ?_
    refine r_aload_n E (dat dkL_law_k1 33 rfl) rfl rfl ?_
    refine q_getn E fl_L_95 (dat dkL_law_k1 34 rfl) rfl rfl rfl ((congrFun (congrFun h19 0) 12).trans hf12) ?_
    refine q_icmp_gt (tgt := 244) E (dat dkL_law_k1 35 rfl) rfl rfl rfl (by omega) (by omega) (fun h => ?_) (fun h => absurd h (by omega))
    obtain rfl : r = u := by omega
    exact r_back (L2 := [some (rv 99 103), some (rv 0 0), some (rv 19 0), some (iv v9), some (rv 20 0), none, none, none, none]) rfl ⟨rfl, rfl, rfl, rfl, rfl, trivial⟩ (kk tx hi hI κ N qa f M hκ E hAS hSB h20 h19 hj)
  | succ d ih =>
    intro r tx hi hq hI
    have htl : tx.length ≤ 56 := by obtain ⟨_, _, h, _⟩ := hI; rw [h]; exact Nat.le_trans (Nat.mul_le_mul (show r ≤ 4 by omega) (show 4 + 2 * v ≤ 14 by omega)) (by decide)
    intro κ N qa f M hκ E hAS hSB h20 h19 hj
    refine r_iload E (dat dkL_law_k1 32 rfl) rfl ?_
    refine r_aload_n E (dat dkL_law_k1 33 rfl) rfl rfl ?_
    refine q_getn E fl_L_95 (dat dkL_law_k1 34 rfl) rfl rfl rfl ((congrFun (congrFun h19 0) 12).trans hf12) ?_
    refine q_icmp_gt (tgt := 244) E (dat dkL_law_k1 35 rfl) rfl rfl rfl (by omega) (by omega) (fun h => absurd h (by omega)) (fun h => ?_)
    refine r_aload E (dat dkL_law_k1 36 rfl) rfl ?_
    refine l_ldc (i := 10) E (by decide) rfl rfl (dat dkL_law_k1 37 rfl) ?_
    refine l_appS (i := 10) C0 hκ E hAS hSB h20 h19 hj (by decide) (by decide +kernel) (by omega) (fun _ _ _ => rfl) ml_L_245 (by omega) (by omega) (dat dkL_law_k1 38 rfl) ?_
    intro κ N qa f M hκ E hAS hSB h20 h19 hj
    refine r_pop E (dat dkL_law_k1 39 rfl) rfl ?_
    refine r_iconst E (dat dkL_law_k1 40 rfl) (v := nI 1) rfl ?_
    refine r_istore_6 E (dat dkL_law_k1 41 rfl) rfl rfl ?_
    refine law_cols C0 hN hf12 hf13 hu hv (k := k + 20 * r + 1) (n := n + 3000 * r + 142) (r := r) (tx0 := tx) (hi0 := hi) (by omega) (by omega) (by omega) (by omega) (fun hs hl hh => ?_) v 0 _ [] (by omega) rfl (fun h hh => by simp at hh) (by simp [itT]) κ N qa f M hκ E hAS hSB h20 (by rw [h19, hiR_0]) hj
    clear hκ E hAS hSB h20 h19 hj
    intro κ N qa f M hκ E hAS hSB h20 h19 hj
    refine r_aload E (dat dkL_law_k2 27 rfl) rfl ?_
    refine r_bipush E (dat dkL_law_k2 28 rfl) (v := nI 59) rfl ?_
    refine l_appC (u := 59) C0 hκ E hAS hSB h20 h19 hj (by omega) (by rw [List.length_append, List.length_append, itT_len, hl, cS_10]; show _ + 3 + 2 * v + 1 ≤ 142; omega) (fun _ _ _ => rfl) ml_L_249 (by omega) (by omega) (dat dkL_law_k2 29 rfl) ?_
    intro κ N qa f M hκ E hAS hSB h20 h19 hj
    refine r_pop E (dat dkL_law_k2 30 rfl) rfl ?_
    refine q_iinc_5 E (dat dkL_law_k2 31 rfl) rfl rfl ?_
    refine r_goto (tgt := 145) E (dat dkL_law_k2 32 rfl) rfl ?_
    refine r_wide (k2 := k + 20 * (r + 1)) (n2 := n + 3000 * (r + 1)) (by omega) (by omega) ?_
    exact r_back (L2 := [some (rv 99 103), some (rv 0 0), some (rv 19 0), some (iv v9), some (rv 20 0), some (iv (nI (r + 1 + 1))), none, none, none]) rfl ⟨rfl, rfl, rfl, rfl, rfl, rfl, trivial⟩ (ih (r + 1) _ _ (by omega) (RwI_s hI hl hh hv (by omega)) κ N qa f M hκ E hAS hSB h20 h19 hj)
end LS5
