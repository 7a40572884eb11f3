/-! gutters and boots: text, plan, what the law's object holds -/
abbrev BBq : Type := (Nat → Int32) × (Nat → Int32) × (Nat → Int32) × (Nat → Nat → Int32)
def GuI (he0 : Nat → Int32) (bb : BBq) (he : Nat → Int32) (u v k : Nat) (tx : List Nat) (gA : Nat → Nat → Int32) : Prop :=
  ∃ gu : Nat → Int32, PRd tx ((0, 0, 0), he0, (fun _ => 0), 0, (0, bb)) ((u, v, u * v), he, gu, 0, (0, bb)) (u + k) ∧ tx.length ≤ 70 + 12 * k ∧ (∀ j, ∃ g, g ≤ 9 ∧ gu j = nI g) ∧ ∀ a b, (1 ≤ a ∧ a ≤ u) → (1 ≤ b ∧ b ≤ v) → gA a b = gu ((a - 1) * v + (b - 1))
theorem cellq_inj {v a b a2 b2 : Nat} (hb : 1 ≤ b ∧ b ≤ v) (hb2 : 1 ≤ b2 ∧ b2 ≤ v) (ha : 1 ≤ a) (ha2 : 1 ≤ a2) (h : (a - 1) * v + (b - 1) = (a2 - 1) * v + (b2 - 1)) : a = a2 ∧ b = b2 := by
  have h1 : ((a - 1) * v + (b - 1)) / v = a - 1 := by rw [Nat.mul_comm, Nat.mul_add_div (by omega), Nat.div_eq_of_lt (by omega), Nat.add_zero]
  have h2 : ((a2 - 1) * v + (b2 - 1)) / v = a2 - 1 := by rw [Nat.mul_comm, Nat.mul_add_div (by omega), Nat.div_eq_of_lt (by omega), Nat.add_zero]
  rw [h, h2] at h1
  have h3 : a2 - 1 = a - 1 := h1
  rw [h3] at h
  omega
theorem GuI_s {he0 : Nat → Int32} {bb : BBq} {he : Nat → Int32} {u v k a b g : Nat} {tx : List Nat} {gA : Nat → Nat → Int32} (h : GuI he0 bb he u v k tx gA) (hu : u ≤ 5) (hv : v ≤ 5) (ha : 1 ≤ a ∧ a ≤ u) (hb : 1 ≤ b ∧ b ≤ v) (hg : 1 ≤ g ∧ g ≤ 9) : GuI he0 bb he u v (k + 1) (tx ++ cS 11 ++ digs ((a - 1) * v + b - 1) ++ [32] ++ digs g ++ [59]) (upd2 gA a b (nI g)) := by
  obtain ⟨gu, hP, ht, hk, hrel⟩ := h
  have hc := cellq_lt ha hb
  have h25 : u * v ≤ 25 := Nat.mul_le_mul hu hv
  have e0 : (a - 1) * v + b - 1 = (a - 1) * v + (b - 1) := by omega
  rw [e0]
  have h1 := PRd_app hP (PRd_gut (u := u) (v := v) (z := u * v) (he := he) (gu := gu) (fr := 0) (bb := (0, bb)) (c := (a - 1) * v + (b - 1)) (g := g) (by omega) hc hg)
  refine ⟨upd gu ((a - 1) * v + (b - 1)) (nI g), ?_, ?_, fun j => ?_, fun a2 b2 h2 h3 => ?_⟩
  · rw [show tx ++ cS 11 ++ digs ((a - 1) * v + (b - 1)) ++ [32] ++ digs g ++ [59] = tx ++ (cS 11 ++ digs ((a - 1) * v + (b - 1)) ++ [32] ++ digs g ++ [59]) by simp]
    exact h1
  · have := digs_le ((a - 1) * v + (b - 1))
    rw [List.length_append, List.length_append, List.length_append, List.length_append, List.length_append, cS_11, digs_1 (show g < 10 by omega)]
    show tx.length + 7 + _ + 1 + 1 + 1 ≤ _
    omega
  · by_cases hj : j = (a - 1) * v + (b - 1)
    · exact ⟨g, hg.2, by rw [hj, pk_us]⟩
    · rw [pk_un hj]; exact hk j
  · unfold upd2
    by_cases hq : a2 = a ∧ b2 = b
    · rw [if_pos hq, hq.1, hq.2, pk_us]
    · rw [if_neg hq, pk_un (fun q => hq (cellq_inj h3 hb h2.1 ha.1 q))]
      exact hrel a2 b2 h2 h3
def BoI (he0 : Nat → Int32) (bb : BBq) (he gu : Nat → Int32) (u v k : Nat) (tx : List Nat) (br bc tl : Nat → Int32) : Prop :=
  ∃ (nl fp bh : Nat → Int32) (r : Nat → Nat → Int32), PRd tx ((0, 0, 0), he0, (fun _ => 0), 0, (0, bb)) ((u, v, u * v), he, gu, 0, (k, nl, fp, bh, r)) (u + 3 + k) ∧ tx.length ≤ 106 + 13 * k ∧ (∀ i, i < k → nl i = nI 1) ∧ (0 < k → r 0 0 = nI 97) ∧ ∀ b, b < k → ∃ a c t, (1 ≤ a ∧ a ≤ u) ∧ (1 ≤ c ∧ c ≤ v) ∧ (1 ≤ t ∧ t ≤ 9) ∧ br b = nI a ∧ bc b = nI c ∧ fp b = nI ((a - 1) * v + (c - 1)) ∧ tl b = nI t ∧ bh b = nI t
theorem BoI_s {he0 : Nat → Int32} {bb : BBq} {he gu : Nat → Int32} {u v k a c t : Nat} {tx : List Nat} {br bc tl : Nat → Int32} (h : BoI he0 bb he gu u v k tx br bc tl) (hk2 : k < 2) (hu : u ≤ 5) (hv : v ≤ 5) (ha : 1 ≤ a ∧ a ≤ u) (hc : 1 ≤ c ∧ c ≤ v) (ht0 : 1 ≤ t ∧ t ≤ 9) : BoI he0 bb he gu u v (k + 1) (tx ++ cS 12 ++ [97 + k] ++ [32] ++ digs ((a - 1) * v + c - 1) ++ [32] ++ digs t ++ [59]) (upd br k (nI a)) (upd bc k (nI c)) (upd tl k (nI t)) := by
  obtain ⟨nl, fp, bh, r, hP, ht, hnl, hr, hrel⟩ := h
  have hq := cellq_lt ha hc
  have h25 : u * v ≤ 25 := Nat.mul_le_mul hu hv
  have e0 : (a - 1) * v + c - 1 = (a - 1) * v + (c - 1) := by omega
  rw [e0]
  have h1 := PRd_app hP (PRd_boot (u := u) (v := v) (z := u * v) (k := k) (pl := (a - 1) * v + (c - 1)) (tl := t) (he := he) (gu := gu) (nl := nl) (fp := fp) (bh := bh) (fr := 0) (r := r) (by omega) hq ht0 (by
    by_cases h0 : k = 0
    · exact Or.inl h0
    · exact Or.inr ⟨by omega, hnl 0 (by omega), hr (by omega)⟩))
  refine ⟨upd nl k (nI 1), upd fp k (nI ((a - 1) * v + (c - 1))), upd bh k (nI t), nmR r k, ?_, ?_, fun i hi => ?_, fun _ => ?_, fun b hb => ?_⟩
  · rw [show tx ++ cS 12 ++ [97 + k] ++ [32] ++ digs ((a - 1) * v + (c - 1)) ++ [32] ++ digs t ++ [59] = tx ++ (cS 12 ++ [97 + k] ++ [32] ++ (digs ((a - 1) * v + (c - 1)) ++ ([32] ++ (digs t ++ [59])))) by simp]
    exact h1
  · have := digs_le ((a - 1) * v + (c - 1))
    rw [List.length_append, List.length_append, List.length_append, List.length_append, List.length_append, List.length_append, List.length_append, cS_12, digs_1 (show t < 10 by omega)]
    show tx.length + 6 + 1 + 1 + _ + 1 + 1 + 1 ≤ _
    omega
  · by_cases h0 : i = k
    · rw [h0, pk_us]
    · rw [pk_un h0]; exact hnl i (by omega)
  · unfold nmR
    by_cases h0 : k = 0
    · subst h0; rfl
    · rw [if_neg h0]; exact hr (by omega)
  · by_cases h0 : b = k
    · subst h0
      exact ⟨a, c, t, ha, hc, ht0, pk_us, pk_us, pk_us, pk_us, pk_us⟩
    · rw [pk_un h0, pk_un h0, pk_un h0, pk_un h0, pk_un h0]
      exact hrel b (by omega)

section LS6
variable {p : Program} {l : Launch} {e : Env} {s : State} {m : MethodId} {args : Array Value} {below : List Frame} {meth : Method} {c : Code} {G : GT} {ad : Nat → Nat → Nat} {Q : State → Prop} {M0 : Mem}
set_option maxRecDepth 100000 in
set_option maxHeartbeats 4000000 in
theorem law_gut (C0 : LCx p s m args meth c G ad cL_law RL 9 (some .boolean) M0) (hN : G.2.2.1.1 ≤ 4096) {fl : Nat → Int32} {v9 : Int32} {u v bt : Nat} (hf12 : fl 12 = nI u) (hf13 : fl 13 = nI v) (hf14 : fl 14 = nI bt) (hu : 2 ≤ u ∧ u ≤ 5) (hv : 2 ≤ v ∧ v ≤ 5) (hbt : bt ≤ 2) {he0 : Nat → Int32} {bb : BBq} {he : Nat → Int32} {hi : Nat → Nat → Int32} {k n : Nat} (hk : k ≤ 300000) (hn : n ≤ 5000000) (kk : ∀ (tx : List Nat) (gA : Nat → Nat → Int32), GuI he0 bb he u v 3 tx gA → LWt p l e room_1 s m args below meth c G ad cL_law RL (some .boolean) 9 Q M0 tx (ZF fl hi (gA) (fun _ => 0) (fun _ => 0) (fun _ => 0)) (k + 18) (n + 2700) 381 [some (rv 99 103), some (rv 0 0), some (rv 19 0), some (iv v9), some (rv 20 0), none, none, none, none] []) : ∀ (d q : Nat) (tx : List Nat) (gA : Nat → Nat → Int32), q + d = 3 → GuI he0 bb he u v q tx gA → LWt p l e room_1 s m args below meth c G ad cL_law RL (some .boolean) 9 Q M0 tx (ZF fl hi (gA) (fun _ => 0) (fun _ => 0) (fun _ => 0)) (k + 6 * q) (n + 900 * q) 247 [some (rv 99 103), some (rv 0 0), some (rv 19 0), some (iv v9), some (rv 20 0), some (iv (nI q)), none, none, none] [] := by
  intro d
  induction d with
  | zero =>
    intro q tx gA hq hI
    intro κ N qa f M hκ E hAS hSB h20 h19 hj
    refine r_iload E (dat dkL_law_k2 35 rfl) rfl ?_
    refine r_iconst E (dat dkL_law_k2 36 rfl) (v := nI 3) rfl ?_
    refine q_icmp_ge (tgt := 381) E (dat dkL_law_k2 37 rfl) rfl rfl rfl (by omega) (by omega) (fun h => ?_) (fun h => absurd h (by omega))
    obtain rfl : q = 3 := by omega
    exact r_back (L2 := [some (rv 99 103), some (rv 0 0), some (rv 19 0), some (iv v9), some (rv 20 0), none, none, none, none]) rfl ⟨rfl, rfl, rfl, rfl, rfl, trivial⟩ (kk tx gA hI κ N qa f M hκ E hAS hSB h20 h19 hj)
  | succ d ih =>
    intro q tx gA hq hI
    have htl : tx.length ≤ 70 + 12 * q := by obtain ⟨_, _, h, _⟩ := hI; exact h
    intro κ N qa f M hκ E hAS hSB h20 h19 hj
    refine r_iload E (dat dkL_law_k2 35 rfl) rfl ?_
    refine r_iconst E (dat dkL_law_k2 36 rfl) (v := nI 3) rfl ?_
    refine q_icmp_ge (tgt := 381) E (dat dkL_law_k2 37 rfl) rfl rfl rfl (by omega) (by omega) (fun h => absurd h (by omega)) (fun h => ?_)
    refine r_iconst E (dat dkL_law_k2 38 rfl) (v := nI 1) rfl ?_
    refine r_aload_n E (dat dkL_law_k2 39 rfl) rfl rfl ?_
    refine r_bipush E (dat dkL_law_k2 40 rfl) (v := nI 6) rfl ?_
    refine r_callS (μ := []) E (sp_L_cell l G (6) _ (by omega) hN) my_L_cell is_L_cell ml_L_236 cm_nil rfl rfl ⟨by decide, by decide, by show _ ≤ 600086; dsimp only; omega, by show _ ≤ 7301442; dsimp only; omega⟩ (Nat.le_of_ble_eq_true rfl) (dat dkL_law_k2 41 rfl) ?_
    rintro _ _ ⟨rfl, rfl⟩
    refine ⟨_, Mrg_z rfl, ?_⟩
    generalize scC G (6) = w257
    refine r_wide (k2 := k + 6 * q) (n2 := n + 900 * q) (Nat.le_refl _) (Nat.le_refl _) ?_
    refine r_bipush E (dat dkL_law_k2 42 rfl) (v := nI 8) rfl ?_
    refine r_iload E (dat dkL_law_k2 43 rfl) rfl ?_
    refine l_imul E (dat dkL_law_k2 44 rfl) ?_
    refine r_iconst E (dat dkL_law_k2 45 rfl) (v := nI 4) rfl ?_
    refine r_callS (μ := []) E (sp_L_bits l G _ (8 * q) 4 _ (by decide)) my_L_bits is_L_bits ml_L_143 cm_nil rfl rfl ⟨by decide, by decide, by show _ ≤ 600086; dsimp only; omega, by show _ ≤ 7301442; dsimp only; omega⟩ (Nat.le_of_ble_eq_true rfl) (dat dkL_law_k2 46 rfl) ?_
    rintro _ _ ⟨⟨q266, hq266, rfl⟩, rfl⟩
    refine ⟨_, Mrg_z rfl, ?_⟩
    replace hq266 : q266 < 16 := hq266
    refine r_wide (k2 := k + 6 * q) (n2 := n + 900 * q) (Nat.le_refl _) (Nat.le_refl _) ?_
    refine r_aload_n E (dat dkL_law_k2 47 rfl) rfl rfl ?_
    refine q_getn E fl_L_95 (dat dkL_law_k2 48 rfl) rfl rfl rfl ((congrFun (congrFun h19 0) 12).trans hf12) ?_
    refine l_irem E (by omega) (by omega) (by omega) (dat dkL_law_k2 49 rfl) ?_
    refine l_iadd E (dat dkL_law_k3 0 rfl) ?_
    have ha : 1 ≤ 1 + q266 % u ∧ 1 + q266 % u ≤ u := ⟨by omega, by have := Nat.mod_lt q266 (show 0 < u by omega); omega⟩
    generalize 1 + q266 % u = a0 at ha ⊢
    refine r_istore_6 E (dat dkL_law_k3 1 rfl) rfl rfl ?_
    refine r_iconst E (dat dkL_law_k3 2 rfl) (v := nI 1) rfl ?_
    refine r_aload_n E (dat dkL_law_k3 3 rfl) rfl rfl ?_
    refine r_bipush E (dat dkL_law_k3 4 rfl) (v := nI 6) rfl ?_
    refine r_callS (μ := []) E (sp_L_cell l G (6) _ (by omega) hN) my_L_cell is_L_cell ml_L_236 cm_nil rfl rfl ⟨by decide, by decide, by show _ ≤ 600086; dsimp only; omega, by show _ ≤ 7301442; dsimp only; omega⟩ (Nat.le_of_ble_eq_true rfl) (dat dkL_law_k3 5 rfl) ?_
    rintro _ _ ⟨rfl, rfl⟩
    refine ⟨_, Mrg_z rfl, ?_⟩
    generalize scC G (6) = w281
    refine r_wide (k2 := k + 6 * q) (n2 := n + 900 * q) (Nat.le_refl _) (Nat.le_refl _) ?_
    refine r_bipush E (dat dkL_law_k3 6 rfl) (v := nI 8) rfl ?_
    refine r_iload E (dat dkL_law_k3 7 rfl) rfl ?_
    refine l_imul E (dat dkL_law_k3 8 rfl) ?_
    refine r_iconst E (dat dkL_law_k3 9 rfl) (v := nI 4) rfl ?_
    refine l_iadd E (dat dkL_law_k3 10 rfl) ?_
    refine r_iconst E (dat dkL_law_k3 11 rfl) (v := nI 4) rfl ?_
    refine r_callS (μ := []) E (sp_L_bits l G _ (8 * q + 4) 4 _ (by decide)) my_L_bits is_L_bits ml_L_143 cm_nil rfl rfl ⟨by decide, by decide, by show _ ≤ 600086; dsimp only; omega, by show _ ≤ 7301442; dsimp only; omega⟩ (Nat.le_of_ble_eq_true rfl) (dat dkL_law_k3 12 rfl) ?_
    rintro _ _ ⟨⟨q292, hq292, rfl⟩, rfl⟩
    refine ⟨_, Mrg_z rfl, ?_⟩
    replace hq292 : q292 < 16 := hq292
    refine r_wide (k2 := k + 6 * q) (n2 := n + 900 * q) (Nat.le_refl _) (Nat.le_refl _) ?_
    refine r_aload_n E (dat dkL_law_k3 13 rfl) rfl rfl ?_
    refine q_getn E fl_L_98 (dat dkL_law_k3 14 rfl) rfl rfl rfl ((congrFun (congrFun h19 0) 13).trans hf13) ?_
    refine l_irem E (by omega) (by omega) (by omega) (dat dkL_law_k3 15 rfl) ?_
    refine l_iadd E (dat dkL_law_k3 16 rfl) ?_
    have hb : 1 ≤ 1 + q292 % v ∧ 1 + q292 % v ≤ v := ⟨by omega, by have := Nat.mod_lt q292 (show 0 < v by omega); omega⟩
    generalize 1 + q292 % v = b0 at hb ⊢
    have hcl := cellq_lt ha hb
    have h25 : u * v ≤ 25 := Nat.mul_le_mul hu.2 hv.2
    have e0 : (a0 - 1) * v + b0 - 1 = (a0 - 1) * v + (b0 - 1) := by omega
    refine r_istore_7 E (dat dkL_law_k3 17 rfl) rfl rfl ?_
    refine r_aload_n E (dat dkL_law_k3 18 rfl) rfl rfl ?_
    refine q_geta E fl_L_20 (dat dkL_law_k3 19 rfl) rfl rfl rfl ?_
    refine r_iload E (dat dkL_law_k3 20 rfl) rfl ?_
    refine q_laa (a := 3) E (dat dkL_law_k3 21 rfl) rfl rfl rfl (by decide) rfl (by omega) ?_
    refine r_iload E (dat dkL_law_k3 22 rfl) rfl ?_
    refine r_iconst E (dat dkL_law_k3 23 rfl) (v := nI 1) rfl ?_
    refine r_iload_n E (dat dkL_law_k3 24 rfl) rfl rfl ?_
    refine r_bipush E (dat dkL_law_k3 25 rfl) (v := nI 14) rfl ?_
    refine r_iconst E (dat dkL_law_k3 26 rfl) (v := nI 3) rfl ?_
    refine r_iload E (dat dkL_law_k3 27 rfl) rfl ?_
    refine l_imul E (dat dkL_law_k3 28 rfl) ?_
    refine l_iadd E (dat dkL_law_k3 29 rfl) ?_
    refine r_iconst E (dat dkL_law_k3 30 rfl) (v := nI 3) rfl ?_
    refine r_callS (μ := []) E (sp_L_bits l G _ (14 + 3 * q) 3 _ (by decide)) my_L_bits is_L_bits ml_L_143 cm_nil rfl rfl ⟨by decide, by decide, by show _ ≤ 600086; dsimp only; omega, by show _ ≤ 7301442; dsimp only; omega⟩ (Nat.le_of_ble_eq_true rfl) (dat dkL_law_k3 31 rfl) ?_
    rintro _ _ ⟨⟨q322, hq322, rfl⟩, rfl⟩
    refine ⟨_, Mrg_z rfl, ?_⟩
    replace hq322 : q322 < 8 := hq322
    refine r_wide (k2 := k + 6 * q) (n2 := n + 900 * q) (Nat.le_refl _) (Nat.le_refl _) ?_
    refine l_iadd E (dat dkL_law_k3 32 rfl) ?_
    refine q_iasv E (dat dkL_law_k3 33 rfl) (lae (by decide) (by omega)) (lok (Nat.le_of_ble_eq_true rfl) rfl (by decide) (by omega)) (by decide) rfl (by omega) (by rw [h19, ZF_sg (by omega)]) ?_
    obtain ⟨h20, h19, hj⟩ := l_set (Z2 := _) h20 hj
    generalize setm _ 19 _ = M at h20 h19 hj ⊢
    refine r_aload E (dat dkL_law_k3 34 rfl) rfl ?_
    refine l_ldc (i := 11) E (by decide) rfl rfl (dat dkL_law_k3 35 rfl) ?_
    refine l_appS (i := 11) C0 hκ E hAS hSB h20 h19 hj (by decide) (by decide +kernel) (by omega) (fun _ _ _ => rfl) ml_L_245 (by omega) (by omega) (dat dkL_law_k3 36 rfl) ?_
    intro κ N qa f M hκ E hAS hSB h20 h19 hj
    refine r_iload E (dat dkL_law_k3 37 rfl) rfl ?_
    refine r_iconst E (dat dkL_law_k3 38 rfl) (v := nI 1) rfl ?_
    refine l_isub E (by omega) (dat dkL_law_k3 39 rfl) ?_
    refine r_aload_n E (dat dkL_law_k3 40 rfl) rfl rfl ?_
    refine q_getn E fl_L_98 (dat dkL_law_k3 41 rfl) rfl rfl rfl ((congrFun (congrFun h19 0) 13).trans hf13) ?_
    refine l_imul E (dat dkL_law_k3 42 rfl) ?_
    refine r_iload E (dat dkL_law_k3 43 rfl) rfl ?_
    refine l_iadd E (dat dkL_law_k3 44 rfl) ?_
    refine r_iconst E (dat dkL_law_k3 45 rfl) (v := nI 1) rfl ?_
    refine l_isub E (by omega) (dat dkL_law_k3 46 rfl) ?_
    refine l_appI (v := (a0 - 1) * v + b0 - 1) C0 hκ E hAS hSB h20 h19 hj (by omega) (by rw [List.length_append, cS_11]; show _ + 7 + 2 ≤ 142; omega) (fun _ _ _ => rfl) ml_L_252 (by omega) (by omega) (dat dkL_law_k3 47 rfl) ?_
    intro κ N qa f M hκ E hAS hSB h20 h19 hj
    have hdl := digs_le ((a0 - 1) * v + b0 - 1)
    refine r_bipush E (dat dkL_law_k3 48 rfl) (v := nI 32) rfl ?_
    refine l_appC (u := 32) C0 hκ E hAS hSB h20 h19 hj (by omega) (by rw [List.length_append, List.length_append, cS_11]; show _ + 7 + _ + 1 ≤ 142; omega) (fun _ _ _ => rfl) ml_L_249 (by omega) (by omega) (dat dkL_law_k3 49 rfl) ?_
    intro κ N qa f M hκ E hAS hSB h20 h19 hj
    have H365 : (ZF fl hi (upd2 gA a0 b0 (nI (1 + q322))) (fun _ => 0) (fun _ => 0) (fun _ => 0)) (20 + 7 * 3 + a0) b0 = nI (1 + q322) := (ZF_g (by omega)).trans (if_pos ⟨rfl, rfl⟩)
    refine r_aload_n E (dat dkL_law_k4 0 rfl) rfl rfl ?_
    refine q_geta E fl_L_20 (dat dkL_law_k4 1 rfl) rfl rfl rfl ?_
    refine r_iload E (dat dkL_law_k4 2 rfl) rfl ?_
    refine q_laa (a := 3) E (dat dkL_law_k4 3 rfl) rfl rfl rfl (by decide) rfl (by omega) ?_
    refine r_iload E (dat dkL_law_k4 4 rfl) rfl ?_
    refine q_ialv E (dat dkL_law_k4 5 rfl) (lae (by decide) (by omega)) (lok (Nat.le_of_ble_eq_true rfl) rfl (by decide) (by omega)) (by decide) rfl (by omega) ((congrFun (congrFun h19 _) _).trans H365) ?_
    refine l_appI (v := 1 + q322) C0 hκ E hAS hSB h20 h19 hj (by omega) (by rw [List.length_append, List.length_append, List.length_append, cS_11]; show _ + 7 + _ + 1 + 2 ≤ 142; omega) (fun _ _ _ => rfl) ml_L_252 (by omega) (by omega) (dat dkL_law_k4 6 rfl) ?_
    intro κ N qa f M hκ E hAS hSB h20 h19 hj
    have hdl2 := digs_le (1 + q322)
    refine r_bipush E (dat dkL_law_k4 7 rfl) (v := nI 59) rfl ?_
    refine l_appC (u := 59) C0 hκ E hAS hSB h20 h19 hj (by omega) (by rw [List.length_append, List.length_append, List.length_append, List.length_append, cS_11]; show _ + 7 + _ + 1 + _ + 1 ≤ 142; omega) (fun _ _ _ => rfl) ml_L_249 (by omega) (by omega) (dat dkL_law_k4 8 rfl) ?_
    intro κ N qa f M hκ E hAS hSB h20 h19 hj
    refine r_pop E (dat dkL_law_k4 9 rfl) rfl ?_
    refine q_iinc_5 E (dat dkL_law_k4 10 rfl) rfl rfl ?_
    refine r_goto (tgt := 247) E (dat dkL_law_k4 11 rfl) rfl ?_
    refine r_wide (k2 := k + 6 * (q + 1)) (n2 := n + 900 * (q + 1)) (by omega) (by omega) ?_
    exact r_back (L2 := [some (rv 99 103), some (rv 0 0), some (rv 19 0), some (iv v9), some (rv 20 0), some (iv (nI (q + 1))), none, none, none]) rfl ⟨rfl, rfl, rfl, rfl, rfl, rfl, trivial⟩ (ih (q + 1) _ _ (by omega) (GuI_s hI hu.2 hv.2 ha hb ⟨by omega, by omega⟩) κ N qa f M hκ E hAS hSB h20 h19 hj)
set_option maxRecDepth 100000 in
set_option maxHeartbeats 4000000 in
theorem law_boot (C0 : LCx p s m args meth c G ad cL_law RL 9 (some .boolean) M0) (hN : G.2.2.1.1 ≤ 4096) {fl : Nat → Int32} {v9 : Int32} {u v bt : Nat} (hf12 : fl 12 = nI u) (hf13 : fl 13 = nI v) (hf14 : fl 14 = nI bt) (hu : 2 ≤ u ∧ u ≤ 5) (hv : 2 ≤ v ∧ v ≤ 5) (hbt : bt ≤ 2) {he0 : Nat → Int32} {bb : BBq} {he : Nat → Int32} {hi : Nat → Nat → Int32} {gu : Nat → Int32} {gA : Nat → Nat → Int32} {k n : Nat} (hk : k ≤ 300000) (hn : n ≤ 5000000) (kk : ∀ (tx : List Nat) (br bc tl : Nat → Int32), BoI he0 bb he gu u v bt tx br bc tl → LWt p l e room_1 s m args below meth c G ad cL_law RL (some .boolean) 9 Q M0 tx (ZF fl hi gA (br) (bc) (tl)) (k + 10 * bt) (n + 1300 * bt) 555 [some (rv 99 103), some (rv 0 0), some (rv 19 0), some (iv v9), some (rv 20 0), none, none, none, none] []) : ∀ (d q : Nat) (tx : List Nat) (br bc tl : Nat → Int32), q + d = bt → BoI he0 bb he gu u v q tx br bc tl → LWt p l e room_1 s m args below meth c G ad cL_law RL (some .boolean) 9 Q M0 tx (ZF fl hi gA (br) (bc) (tl)) (k + 10 * q) (n + 1300 * q) 384 [some (rv 99 103), some (rv 0 0), some (rv 19 0), some (iv v9), some (rv 20 0), some (iv (nI q)), none, none, none] [] := by
  intro d
  induction d with
  | zero =>
    intro q tx br bc tl hq hI
    intro κ N qa f M hκ E hAS hSB h20 h19 hj
    refine r_iload E (dat dkL_law_k4 14 rfl) rfl ?_
    refine r_aload_n E (dat dkL_law_k4 15 rfl) rfl rfl ?_
    refine q_getn E fl_L_116 (dat dkL_law_k4 16 rfl) rfl rfl rfl ((congrFun (congrFun h19 0) 14).trans hf14) ?_
    refine q_icmp_ge (tgt := 555) E (dat dkL_law_k4 17 rfl) rfl rfl rfl (by omega) (by omega) (fun h => ?_) (fun h => absurd h (by omega))
    obtain rfl : q = bt := by omega
    exact r_back (L2 := [some (rv 99 103), some (rv 0 0), some (rv 19 0), some (iv v9), some (rv 20 0), none, none, none, none]) rfl ⟨rfl, rfl, rfl, rfl, rfl, trivial⟩ (kk tx br bc tl hI κ N qa f M hκ E hAS hSB h20 h19 hj)
  | succ d ih =>
    intro q tx br bc tl hq hI
    have htl : tx.length ≤ 106 + 13 * q := by obtain ⟨_, _, _, _, _, h, _⟩ := hI; exact h
    intro κ N qa f M hκ E hAS hSB h20 h19 hj
    refine r_iload E (dat dkL_law_k4 14 rfl) rfl ?_
    refine r_aload_n E (dat dkL_law_k4 15 rfl) rfl rfl ?_
    refine q_getn E fl_L_116 (dat dkL_law_k4 16 rfl) rfl rfl rfl ((congrFun (congrFun h19 0) 14).trans hf14) ?_
    refine q_icmp_ge (tgt := 555) E (dat dkL_law_k4 17 rfl) rfl rfl rfl (by omega) (by omega) (fun h => absurd h (by omega)) (fun h => ?_)
    refine r_aload_n E (dat dkL_law_k4 18 rfl) rfl rfl ?_
    refine q_geta E fl_L_32 (dat dkL_law_k4 19 rfl) rfl rfl rfl ?_
    refine r_iload E (dat dkL_law_k4 20 rfl) rfl ?_
    refine r_iconst E (dat dkL_law_k4 21 rfl) (v := nI 1) rfl ?_
    refine r_aload_n E (dat dkL_law_k4 22 rfl) rfl rfl ?_
    refine r_bipush E (dat dkL_law_k4 23 rfl) (v := nI 7) rfl ?_
    refine r_callS (μ := []) E (sp_L_cell l G (7) _ (by omega) hN) my_L_cell is_L_cell ml_L_236 cm_nil rfl rfl ⟨by decide, by decide, by show _ ≤ 600086; dsimp only; omega, by show _ ≤ 7301442; dsimp only; omega⟩ (Nat.le_of_ble_eq_true rfl) (dat dkL_law_k4 24 rfl) ?_
    rintro _ _ ⟨rfl, rfl⟩
    refine ⟨_, Mrg_z rfl, ?_⟩
    generalize scC G (7) = w403
    refine r_wide (k2 := k + 10 * q) (n2 := n + 1300 * q) (Nat.le_refl _) (Nat.le_refl _) ?_
    refine r_bipush E (dat dkL_law_k4 25 rfl) (v := nI 8) rfl ?_
    refine r_iload E (dat dkL_law_k4 26 rfl) rfl ?_
    refine l_imul E (dat dkL_law_k4 27 rfl) ?_
    refine r_iconst E (dat dkL_law_k4 28 rfl) (v := nI 4) rfl ?_
    refine r_callS (μ := []) E (sp_L_bits l G _ (8 * q) 4 _ (by decide)) my_L_bits is_L_bits ml_L_143 cm_nil rfl rfl ⟨by decide, by decide, by show _ ≤ 600086; dsimp only; omega, by show _ ≤ 7301442; dsimp only; omega⟩ (Nat.le_of_ble_eq_true rfl) (dat dkL_law_k4 29 rfl) ?_
    rintro _ _ ⟨⟨q412, hq412, rfl⟩, rfl⟩
    refine ⟨_, Mrg_z rfl, ?_⟩
    replace hq412 : q412 < 16 := hq412
    refine r_wide (k2 := k + 10 * q) (n2 := n + 1300 * q) (Nat.le_refl _) (Nat.le_refl _) ?_
    refine r_aload_n E (dat dkL_law_k4 30 rfl) rfl rfl ?_
    refine q_getn E fl_L_95 (dat dkL_law_k4 31 rfl) rfl rfl rfl ((congrFun (congrFun h19 0) 12).trans hf12) ?_
    refine l_irem E (by omega) (by omega) (by omega) (dat dkL_law_k4 32 rfl) ?_
    refine l_iadd E (dat dkL_law_k4 33 rfl) ?_
    have ha : 1 ≤ 1 + q412 % u ∧ 1 + q412 % u ≤ u := ⟨by omega, by have := Nat.mod_lt q412 (show 0 < u by omega); omega⟩
    generalize 1 + q412 % u = a0 at ha ⊢
    refine q_iasv E (dat dkL_law_k4 34 rfl) rfl rfl (by decide) rfl (by omega) (by rw [h19, ZF_s8]) ?_
    obtain ⟨h20, h19, hj⟩ := l_set (Z2 := _) h20 hj
    generalize setm _ 19 _ = M at h20 h19 hj ⊢
    refine r_aload_n E (dat dkL_law_k4 35 rfl) rfl rfl ?_
    refine q_geta E fl_L_36 (dat dkL_law_k4 36 rfl) rfl rfl rfl ?_
    refine r_iload E (dat dkL_law_k4 37 rfl) rfl ?_
    refine r_iconst E (dat dkL_law_k4 38 rfl) (v := nI 1) rfl ?_
    refine r_aload_n E (dat dkL_law_k4 39 rfl) rfl rfl ?_
    refine r_bipush E (dat dkL_law_k4 40 rfl) (v := nI 7) rfl ?_
    refine r_callS (μ := []) E (sp_L_cell l G (7) _ (by omega) hN) my_L_cell is_L_cell ml_L_236 cm_nil rfl rfl ⟨by decide, by decide, by show _ ≤ 600086; dsimp only; omega, by show _ ≤ 7301442; dsimp only; omega⟩ (Nat.le_of_ble_eq_true rfl) (dat dkL_law_k4 41 rfl) ?_
    rintro _ _ ⟨rfl, rfl⟩
    refine ⟨_, Mrg_z rfl, ?_⟩
    generalize scC G (7) = w432
    refine r_wide (k2 := k + 10 * q) (n2 := n + 1300 * q) (Nat.le_refl _) (Nat.le_refl _) ?_
    refine r_bipush E (dat dkL_law_k4 42 rfl) (v := nI 8) rfl ?_
    refine r_iload E (dat dkL_law_k4 43 rfl) rfl ?_
    refine l_imul E (dat dkL_law_k4 44 rfl) ?_
    refine r_iconst E (dat dkL_law_k4 45 rfl) (v := nI 4) rfl ?_
    refine l_iadd E (dat dkL_law_k4 46 rfl) ?_
    refine r_iconst E (dat dkL_law_k4 47 rfl) (v := nI 4) rfl ?_
    refine r_callS (μ := []) E (sp_L_bits l G _ (8 * q + 4) 4 _ (by decide)) my_L_bits is_L_bits ml_L_143 cm_nil rfl rfl ⟨by decide, by decide, by show _ ≤ 600086; dsimp only; omega, by show _ ≤ 7301442; dsimp only; omega⟩ (Nat.le_of_ble_eq_true rfl) (dat dkL_law_k4 48 rfl) ?_
    rintro _ _ ⟨⟨q443, hq443, rfl⟩, rfl⟩
    refine ⟨_, Mrg_z rfl, ?_⟩
    replace hq443 : q443 < 16 := hq443
    refine r_wide (k2 := k + 10 * q) (n2 := n + 1300 * q) (Nat.le_refl _) (Nat.le_refl _) ?_
    refine r_aload_n E (dat dkL_law_k4 49 rfl) rfl rfl ?_
    refine q_getn E fl_L_98 (dat dkL_law_k5 0 rfl) rfl rfl rfl ((congrFun (congrFun h19 0) 13).trans hf13) ?_
    refine l_irem E (by omega) (by omega) (by omega) (dat dkL_law_k5 1 rfl) ?_
    refine l_iadd E (dat dkL_law_k5 2 rfl) ?_
    have hb : 1 ≤ 1 + q443 % v ∧ 1 + q443 % v ≤ v := ⟨by omega, by have := Nat.mod_lt q443 (show 0 < v by omega); omega⟩
    generalize 1 + q443 % v = b0 at hb ⊢
    have hcl := cellq_lt ha hb
    have h25 : u * v ≤ 25 := Nat.mul_le_mul hu.2 hv.2
    have e0 : (a0 - 1) * v + b0 - 1 = (a0 - 1) * v + (b0 - 1) := by omega
    refine q_iasv E (dat dkL_law_k5 3 rfl) rfl rfl (by decide) rfl (by omega) (by rw [h19, ZF_s9]) ?_
    obtain ⟨h20, h19, hj⟩ := l_set (Z2 := _) h20 hj
    generalize setm _ 19 _ = M at h20 h19 hj ⊢
    refine r_aload_n E (dat dkL_law_k5 4 rfl) rfl rfl ?_
    refine q_geta E fl_L_39 (dat dkL_law_k5 5 rfl) rfl rfl rfl ?_
    refine r_iload E (dat dkL_law_k5 6 rfl) rfl ?_
    refine r_iconst E (dat dkL_law_k5 7 rfl) (v := nI 1) rfl ?_
    refine r_aload_n E (dat dkL_law_k5 8 rfl) rfl rfl ?_
    refine r_bipush E (dat dkL_law_k5 9 rfl) (v := nI 7) rfl ?_
    refine r_callS (μ := []) E (sp_L_cell l G (7) _ (by omega) hN) my_L_cell is_L_cell ml_L_236 cm_nil rfl rfl ⟨by decide, by decide, by show _ ≤ 600086; dsimp only; omega, by show _ ≤ 7301442; dsimp only; omega⟩ (Nat.le_of_ble_eq_true rfl) (dat dkL_law_k5 10 rfl) ?_
    rintro _ _ ⟨rfl, rfl⟩
    refine ⟨_, Mrg_z rfl, ?_⟩
    generalize scC G (7) = w463
    refine r_wide (k2 := k + 10 * q) (n2 := n + 1300 * q) (Nat.le_refl _) (Nat.le_refl _) ?_
    refine r_bipush E (dat dkL_law_k5 11 rfl) (v := nI 16) rfl ?_
    refine r_iconst E (dat dkL_law_k5 12 rfl) (v := nI 3) rfl ?_
    refine r_iload E (dat dkL_law_k5 13 rfl) rfl ?_
    refine l_imul E (dat dkL_law_k5 14 rfl) ?_
    refine l_iadd E (dat dkL_law_k5 15 rfl) ?_
    refine r_iconst E (dat dkL_law_k5 16 rfl) (v := nI 3) rfl ?_
    refine r_callS (μ := []) E (sp_L_bits l G _ (16 + 3 * q) 3 _ (by decide)) my_L_bits is_L_bits ml_L_143 cm_nil rfl rfl ⟨by decide, by decide, by show _ ≤ 600086; dsimp only; omega, by show _ ≤ 7301442; dsimp only; omega⟩ (Nat.le_of_ble_eq_true rfl) (dat dkL_law_k5 17 rfl) ?_
    rintro _ _ ⟨⟨q474, hq474, rfl⟩, rfl⟩
    refine ⟨_, Mrg_z rfl, ?_⟩
    replace hq474 : q474 < 8 := hq474
    refine r_wide (k2 := k + 10 * q) (n2 := n + 1300 * q) (Nat.le_refl _) (Nat.le_refl _) ?_
    refine l_iadd E (dat dkL_law_k5 18 rfl) ?_
    refine q_iasv E (dat dkL_law_k5 19 rfl) rfl rfl (by decide) rfl (by omega) (by rw [h19, ZF_s10]) ?_
    obtain ⟨h20, h19, hj⟩ := l_set (Z2 := _) h20 hj
    generalize setm _ 19 _ = M at h20 h19 hj ⊢
    refine r_aload E (dat dkL_law_k5 20 rfl) rfl ?_
    refine l_ldcw (i := 12) E (by decide) rfl rfl (dat dkL_law_k5 21 rfl) ?_
    refine l_appS (i := 12) C0 hκ E hAS hSB h20 h19 hj (by decide) (by decide +kernel) (by omega) (fun _ _ _ => rfl) ml_L_245 (by omega) (by omega) (dat dkL_law_k5 22 rfl) ?_
    intro κ N qa f M hκ E hAS hSB h20 h19 hj
    refine r_bipush E (dat dkL_law_k5 23 rfl) (v := nI 97) rfl ?_
    refine r_iload E (dat dkL_law_k5 24 rfl) rfl ?_
    refine l_iadd E (dat dkL_law_k5 25 rfl) ?_
    refine l_i2c E (by omega) (dat dkL_law_k5 26 rfl) ?_
    refine l_appC (u := 97 + q) C0 hκ E hAS hSB h20 h19 hj (by omega) (by rw [List.length_append, cS_12]; show _ + 6 + 1 ≤ 142; omega) (fun _ _ _ => rfl) ml_L_249 (by omega) (by omega) (dat dkL_law_k5 27 rfl) ?_
    intro κ N qa f M hκ E hAS hSB h20 h19 hj
    refine r_bipush E (dat dkL_law_k5 28 rfl) (v := nI 32) rfl ?_
    refine l_appC (u := 32) C0 hκ E hAS hSB h20 h19 hj (by omega) (by rw [List.length_append, List.length_append, cS_12]; show _ + 6 + 1 + 1 ≤ 142; omega) (fun _ _ _ => rfl) ml_L_249 (by omega) (by omega) (dat dkL_law_k5 29 rfl) ?_
    intro κ N qa f M hκ E hAS hSB h20 h19 hj
    have H507 : (ZF fl hi gA (upd br q (nI a0)) (upd bc q (nI b0)) (upd tl q (nI (1 + q474)))) 8 q = nI a0 := pk_us
    have H521 : (ZF fl hi gA (upd br q (nI a0)) (upd bc q (nI b0)) (upd tl q (nI (1 + q474)))) 9 q = nI b0 := pk_us
    have H539 : (ZF fl hi gA (upd br q (nI a0)) (upd bc q (nI b0)) (upd tl q (nI (1 + q474)))) 10 q = nI (1 + q474) := pk_us
    refine r_aload_n E (dat dkL_law_k5 30 rfl) rfl rfl ?_
    refine q_geta E fl_L_32 (dat dkL_law_k5 31 rfl) rfl rfl rfl ?_
    refine r_iload E (dat dkL_law_k5 32 rfl) rfl ?_
    refine q_ialv E (dat dkL_law_k5 33 rfl) rfl rfl (by decide) rfl (by omega) ((congrFun (congrFun h19 _) _).trans H507) ?_
    refine r_iconst E (dat dkL_law_k5 34 rfl) (v := nI 1) rfl ?_
    refine l_isub E (by omega) (dat dkL_law_k5 35 rfl) ?_
    refine r_aload_n E (dat dkL_law_k5 36 rfl) rfl rfl ?_
    refine q_getn E fl_L_98 (dat dkL_law_k5 37 rfl) rfl rfl rfl ((congrFun (congrFun h19 0) 13).trans hf13) ?_
    refine l_imul E (dat dkL_law_k5 38 rfl) ?_
    refine r_aload_n E (dat dkL_law_k5 39 rfl) rfl rfl ?_
    refine q_geta E fl_L_36 (dat dkL_law_k5 40 rfl) rfl rfl rfl ?_
    refine r_iload E (dat dkL_law_k5 41 rfl) rfl ?_
    refine q_ialv E (dat dkL_law_k5 42 rfl) rfl rfl (by decide) rfl (by omega) ((congrFun (congrFun h19 _) _).trans H521) ?_
    refine l_iadd E (dat dkL_law_k5 43 rfl) ?_
    refine r_iconst E (dat dkL_law_k5 44 rfl) (v := nI 1) rfl ?_
    refine l_isub E (by omega) (dat dkL_law_k5 45 rfl) ?_
    refine l_appI (v := (a0 - 1) * v + b0 - 1) C0 hκ E hAS hSB h20 h19 hj (by omega) (by rw [List.length_append, List.length_append, List.length_append, cS_12]; show _ + 6 + 1 + 1 + 2 ≤ 142; omega) (fun _ _ _ => rfl) ml_L_252 (by omega) (by omega) (dat dkL_law_k5 46 rfl) ?_
    intro κ N qa f M hκ E hAS hSB h20 h19 hj
    have hdl := digs_le ((a0 - 1) * v + b0 - 1)
    refine r_bipush E (dat dkL_law_k5 47 rfl) (v := nI 32) rfl ?_
    refine l_appC (u := 32) C0 hκ E hAS hSB h20 h19 hj (by omega) (by rw [List.length_append, List.length_append, List.length_append, List.length_append, cS_12]; show _ + 6 + 1 + 1 + _ + 1 ≤ 142; omega) (fun _ _ _ => rfl) ml_L_249 (by omega) (by omega) (dat dkL_law_k5 48 rfl) ?_
    intro κ N qa f M hκ E hAS hSB h20 h19 hj
    refine r_aload_n E (dat dkL_law_k5 49 rfl) rfl rfl ?_
    refine q_geta E fl_L_39 (dat dkL_law_k6 0 rfl) rfl rfl rfl ?_
    refine r_iload E (dat dkL_law_k6 1 rfl) rfl ?_
    refine q_ialv E (dat dkL_law_k6 2 rfl) rfl rfl (by decide) rfl (by omega) ((congrFun (congrFun h19 _) _).trans H539) ?_
    refine l_appI (v := 1 + q474) C0 hκ E hAS hSB h20 h19 hj (by omega) (by rw [List.length_append, List.length_append, List.length_append, List.length_append, List.length_append, cS_12]; show _ + 6 + 1 + 1 + _ + 1 + 2 ≤ 142; omega) (fun _ _ _ => rfl) ml_L_252 (by omega) (by omega) (dat dkL_law_k6 3 rfl) ?_
    intro κ N qa f M hκ E hAS hSB h20 h19 hj
    have hdl2 := digs_le (1 + q474)
    have hdl3 : (digs (1 + q474)).length = 1 := by rw [digs_1 (by omega)]; rfl
    refine r_bipush E (dat dkL_law_k6 4 rfl) (v := nI 59) rfl ?_
    refine l_appC (u := 59) C0 hκ E hAS hSB h20 h19 hj (by omega) (by rw [List.length_append, List.length_append, List.length_append, List.length_append, List.length_append, List.length_append, cS_12]; show _ + 6 + 1 + 1 + _ + 1 + _ + 1 ≤ 142; omega) (fun _ _ _ => rfl) ml_L_249 (by omega) (by omega) (dat dkL_law_k6 5 rfl) ?_
    intro κ N qa f M hκ E hAS hSB h20 h19 hj
    refine r_pop E (dat dkL_law_k6 6 rfl) rfl ?_
    refine q_iinc_5 E (dat dkL_law_k6 7 rfl) rfl rfl ?_
    refine r_goto (tgt := 384) E (dat dkL_law_k6 8 rfl) rfl ?_
    refine r_wide (k2 := k + 10 * (q + 1)) (n2 := n + 1300 * (q + 1)) (by omega) (by omega) ?_
    exact ih (q + 1) _ _ _ _ (by omega) (BoI_s hI (by omega) hu.2 hv.2 ha hb ⟨by omega, by omega⟩) κ N qa f M hκ E hAS hSB h20 h19 hj
end LS6
