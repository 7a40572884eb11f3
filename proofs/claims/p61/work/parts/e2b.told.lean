/-! told: the text, twenty signs at a time -/
/-- the signs, and spaces behind them -/
def chT (f : Nat → Int32) (n : Nat) : Nat → Nat := fun j => if j < n then (f j).toNatClampNeg else 32
theorem chT_lt {f : Nat → Int32} {n : Nat} (h : ∀ j, j < n → ∃ c, c < 128 ∧ f j = nI c) (j : Nat) : chT f n j < 128 := by
  unfold chT
  split
  · rename_i hj
    obtain ⟨c, hc, e⟩ := h j hj
    rw [e, nI_clamp (by omega)]; exact hc
  · decide
theorem chT_in {f : Nat → Int32} {n j : Nat} (h : ∀ j, j < n → ∃ c, c < 128 ∧ f j = nI c) (hj : j < n) : f j = nI (chT f n j) := by
  obtain ⟨c, hc, e⟩ := h j hj
  unfold chT
  rw [if_pos hj, e, nI_clamp (by omega)]
/-- the five ints behind i signs from p on -/
def wAr (ch : Nat → Nat) (p i : Nat) : Nat → Int32 := fun q => nI (chN ch (p + 4 * q) (min (i - 4 * q) 4))
theorem wAr_0 {ch : Nat → Nat} {p q : Nat} : wAr ch p 0 q = 0 := by
  unfold wAr
  rw [Nat.zero_sub, Nat.zero_min]
  rfl
theorem wAr_s {ch : Nat → Nat} {p i q : Nat} (hq : q = i / 4) : wAr ch p (i + 1) q = nI (chN ch (p + 4 * q) (min (i - 4 * q) 4) * 256 + ch (p + i)) := by
  subst hq
  unfold wAr
  rw [show min (i + 1 - 4 * (i / 4)) 4 = min (i - 4 * (i / 4)) 4 + 1 by omega]
  show nI (chN ch (p + 4 * (i / 4)) (min (i - 4 * (i / 4)) 4) * 256 + ch (p + 4 * (i / 4) + min (i - 4 * (i / 4)) 4)) = _
  rw [show p + 4 * (i / 4) + min (i - 4 * (i / 4)) 4 = p + i by omega]
theorem wAr_o {ch : Nat → Nat} {p i q : Nat} (hq : q ≠ i / 4) : wAr ch p (i + 1) q = wAr ch p i q := by
  unfold wAr
  rw [show min (i + 1 - 4 * q) 4 = min (i - 4 * q) 4 by omega]
theorem wAr_u {ch : Nat → Nat} {p i : Nat} {y : Int32} (hy : y = wAr ch p (i + 1) (i / 4)) : upd (wAr ch p i) (i / 4) y = wAr ch p (i + 1) := by
  funext q
  by_cases h : q = i / 4
  · subst h; rw [pk_us, hy]
  · rw [pk_un h, wAr_o h]
theorem wAr_b {ch : Nat → Nat} (h : ∀ j, ch j < 128) {p i : Nat} : chN ch (p + 4 * (i / 4)) (min (i - 4 * (i / 4)) 4) < 2 ^ 24 := by
  have h1 := chN_lt h (p := p + 4 * (i / 4)) (min (i - 4 * (i / 4)) 4)
  exact Nat.lt_of_lt_of_le h1 (Nat.le_trans (Nat.pow_le_pow_right (n := 256) (by decide) (show min (i - 4 * (i / 4)) 4 ≤ 3 by omega)) (by decide))
theorem nI_or8' {a c : Nat} (ha : a < 2 ^ 24) (hc : c < 256) : (nI a <<< ((8 : Int32) &&& 31)) ||| nI c = nI (a * 256 + c) := by
  rw [pk_shlN ((8 : Int32) &&& 31) 8 (by decide) (by omega)]
  apply Int32.toBitVec_inj.mp
  apply BitVec.eq_of_toNat_eq
  show ((nI (a * 2 ^ 8)).toBitVec ||| (nI c).toBitVec).toNat = (nI (a * 256 + c)).toBitVec.toNat
  rw [BitVec.toNat_or, pk_tn (by omega), pk_tn (by omega), pk_tn (by omega)]
  have h := Nat.shiftLeft_add_eq_or_of_lt (b := c) (i := 8) hc a
  rw [Nat.shiftLeft_eq] at h
  omega
/-- an array of five ints -/
def T10 (w : Nat → Int32) : Nat → Nat → Int32 := fun t => if t = 0 then w else fun _ => 0
theorem T10_s {w : Nat → Int32} {q : Nat} {y : Int32} : sett (T10 w) 0 (upd (T10 w 0) q y) = T10 (upd w q y) := by
  funext t
  unfold sett T10
  by_cases h : t = 0
  · rw [if_pos h, if_pos h]; rfl
  · rw [if_neg h, if_neg h, if_neg h]
theorem T10_0 {ch : Nat → Nat} {p : Nat} : T10 (wAr ch p 0) = fun _ _ => 0 := by
  funext t q
  unfold T10
  by_cases h : t = 0
  · rw [if_pos h]; exact wAr_0
  · rw [if_neg h]
theorem cm_T0 : CM KC lkC KC lkC [] := cm_nil0 (by decide)
theorem cm_T1 : CM (KC ++ [10]) lkC KC lkC [] := cm_nil0 (by decide)
theorem Mrg_s1 {M : Mem} {Z : Nat → Nat → Int32} {M2 : Mem} (h : M2 = setm M 1 Z) : Mrg KC.length [] M (setm (vw [] M) 1 Z) M2 := by
  subst h
  exact ⟨fun j hj => rfl, fun g hg => setm_n (fun q => hg 1 (by decide) q.symm)⟩
theorem eOK_KC {ad : Nat → Nat → Nat} {M : Mem} (h9 : (M 0 0 9).toNatClampNeg < 19) (h10 : (M 0 0 10).toNatClampNeg < 19) : eOK (KC, lkC, ad) M := by
  have d7 : ∀ j, j < 19 → KC.getD j 0 = 7 → ∀ i, i < 8 → lkC j i < 19 := by decide +kernel
  have d8 : ∀ j, j < 19 → KC.getD j 0 = 8 → j = 0 ∧ ∀ k, k < 30 → fk 8 k = 2 → lkC j k < 19 := by decide +kernel
  refine ⟨by show 19 < 97; decide, fun j hj h i hi => ?_, fun j hj h => ?_⟩
  · have := d7 j hj h i hi
    show lkC j i ≠ 19
    omega
  · obtain ⟨rfl, h3⟩ := d8 j hj h
    refine ⟨fun k hk hf => ?_, ?_, ?_⟩
    · have := h3 k hk hf
      show lkC 0 k ≠ 19
      omega
    · show _ ≠ 19
      omega
    · show _ ≠ 19
      omega
section TLD
variable {p : Program} {l : Launch} {e : Env} {R : Room} {s : State} {m : MethodId} {args : Array Value} {below : List Frame} {meth : Method} {c : Code} {G : GT} {ad : Nat → Nat → Nat} {Q : State → Prop}
set_option maxRecDepth 100000 in
set_option maxHeartbeats 4000000 in
theorem told_in (h14 : G.2.2.2.1 ≤ 140) (hc7 : ∀ j, j < G.2.2.2.1 → ∃ c, c < 128 ∧ G.2.2.2.2 j = nI c) {qa : Nat → Nat} {k n j : Nat} {M1 : Mem} (E : EN p s m args meth c G (eY (KC, lkC, ad) 10 qa) cL_told RL 5 none) (hj : 20 * j < G.2.2.2.1) (hk : k ≤ 8) (hn : n ≤ 40) (kk : WM p l e ({ frames := 5, cells := 8, slots := 40, locals := 90 } : Room) s m args below meth c G (eY (KC, lkC, ad) 10 qa) 5 Q (setm M1 19 (T10 (wAr (chT G.2.2.2.2 G.2.2.2.1) (20 * j) 20))) k n 70 [some (rv 0 0), some (rv 97 14), some (iv (nI (20 * j))), some (rv 19 0), some (iv (nI 20))] []) : ∀ (d i : Nat), i + d = 20 → WM p l e ({ frames := 5, cells := 8, slots := 40, locals := 90 } : Room) s m args below meth c G (eY (KC, lkC, ad) 10 qa) 5 Q (setm M1 19 (T10 (wAr (chT G.2.2.2.2 G.2.2.2.1) (20 * j) i))) k n 17 [some (rv 0 0), some (rv 97 14), some (iv (nI (20 * j))), some (rv 19 0), some (iv (nI i))] [] := by
  intro d
  induction d with
  | zero =>
    intro i hi
    obtain rfl : i = 20 := by omega
    refine r_iload E (dat dkL_told 11 rfl) rfl ?_
    refine r_bipush E (dat dkL_told 12 rfl) (v := nI 20) rfl ?_
    refine q_icmp_ge (tgt := 70) E (dat dkL_told 13 rfl) rfl rfl rfl (by omega) (by omega) (fun h => kk) (fun h => absurd h (by omega))
  | succ d ih =>
    intro i hi
    have h4 : i / 4 < 5 := by omega
    have hd : nI i / nI 4 = nI (i / 4) := pk_div (by omega) (by decide) (by decide)
    refine r_iload E (dat dkL_told 11 rfl) rfl ?_
    refine r_bipush E (dat dkL_told 12 rfl) (v := nI 20) rfl ?_
    refine q_icmp_ge (tgt := 70) E (dat dkL_told 13 rfl) rfl rfl rfl (by omega) (by omega) (fun h => absurd h (by omega)) (fun h => ?_)
    refine r_aload_n E (dat dkL_told 14 rfl) rfl rfl ?_
    refine r_iload E (dat dkL_told 15 rfl) rfl ?_
    refine r_iconst E (dat dkL_told 16 rfl) (v := nI 4) rfl ?_
    refine r_idiv E (dat dkL_told 17 rfl) (nI_ne0 (by decide) (by decide)) ?_
    rw [hd]
    refine r_aload_n E (dat dkL_told 18 rfl) rfl rfl ?_
    refine r_iload E (dat dkL_told 19 rfl) rfl ?_
    refine r_iconst E (dat dkL_told 20 rfl) (v := nI 4) rfl ?_
    refine r_idiv E (dat dkL_told 21 rfl) (nI_ne0 (by decide) (by decide)) ?_
    rw [hd]
    refine q_ialv E (dat dkL_told 22 rfl) rfl rfl (by decide) rfl h4 (v := wAr (chT G.2.2.2.2 G.2.2.2.1) (20 * j) i (i / 4)) (congrFun (congrFun setm_s 0) (i / 4)) ?_
    refine r_bipush E (dat dkL_told 23 rfl) (v := nI 8) rfl ?_
    refine r_ishl E (dat dkL_told 24 rfl) ?_
    refine r_iload_n E (dat dkL_told 25 rfl) rfl rfl ?_
    refine r_iload E (dat dkL_told 26 rfl) rfl ?_
    refine l_iadd E (dat dkL_told 27 rfl) ?_
    refine r_aload_n E (dat dkL_told 28 rfl) rfl rfl ?_
    refine r_callK E (dsp_J0_length_8abf5 l G _) (KRC_d E) my_J0_length_8abf5 iv_J0_length_8abf5 ml_L_49 rfl rfl (by refine ⟨?_, ?_, ?_, ?_⟩ <;> first | decide | exact Nat.le_of_ble_eq_true rfl | (dsimp only; omega)) (Nat.le_of_ble_eq_true rfl) (dat dkL_told 29 rfl) ?_
    rintro _ _ ⟨rfl, hM⟩
    refine ⟨hM, ?_⟩
    clear hM
    refine r_wide (k2 := k) (n2 := n) (Nat.le_refl _) (Nat.le_refl _) ?_
    have hfin : ∀ y : Int32, y = nI ((chT G.2.2.2.2 G.2.2.2.1) (20 * j + i)) → WM p l e ({ frames := 5, cells := 8, slots := 40, locals := 90 } : Room) s m args below meth c G (eY (KC, lkC, ad) 10 qa) 5 Q (setm M1 19 (T10 (wAr (chT G.2.2.2.2 G.2.2.2.1) (20 * j) i))) k n 62 [some (rv 0 0), some (rv 97 14), some (iv (nI (20 * j))), some (rv 19 0), some (iv (nI i))] [iv y, iv (wAr (chT G.2.2.2.2 G.2.2.2.1) (20 * j) i (i / 4) <<< (nI 8 &&& 31)), iv (nI (i / 4)), rv 19 0] := by
      rintro _ rfl
      refine r_ior E (dat dkL_told 38 rfl) ?_
      have hv : (wAr (chT G.2.2.2.2 G.2.2.2.1) (20 * j) i (i / 4) <<< (nI 8 &&& 31)) ||| nI ((chT G.2.2.2.2 G.2.2.2.1) (20 * j + i)) = wAr (chT G.2.2.2.2 G.2.2.2.1) (20 * j) (i + 1) (i / 4) := by
        rw [wAr_s rfl]
        exact nI_or8' (wAr_b (chT_lt hc7)) (Nat.lt_trans (chT_lt hc7 _) (by decide))
      rw [hv]
      refine q_iasv E (dat dkL_told 39 rfl) rfl rfl (by decide) rfl h4 (M2 := setm M1 19 (T10 (wAr (chT G.2.2.2.2 G.2.2.2.1) (20 * j) (i + 1)))) ?_ ?_
      · rw [setm_s, setm_ss, T10_s, wAr_u rfl]
      refine q_iinc_4 E (dat dkL_told 40 rfl) rfl rfl ?_
      refine r_goto (tgt := 17) E (dat dkL_told 41 rfl) rfl ?_
      exact ih (i + 1) (by omega)
    refine q_icmp_ge (tgt := 60) E (dat dkL_told 30 rfl) rfl rfl rfl (by omega) (by omega) (fun h2 => ?_) (fun h2 => ?_)
    · refine r_bipush E (dat dkL_told 37 rfl) (v := nI 32) rfl ?_
      exact hfin _ (by unfold chT; rw [if_neg (by omega)])
    ·
      refine r_aload_n E (dat dkL_told 31 rfl) rfl rfl ?_
      refine r_iload_n E (dat dkL_told 32 rfl) rfl rfl ?_
      refine r_iload E (dat dkL_told 33 rfl) rfl ?_
      refine l_iadd E (dat dkL_told 34 rfl) ?_
      refine r_callK E (dsp_J0_charAt_5068e l G (20 * j + i) _ (by omega) hc7 h2) (KRC_d E) my_J0_charAt_5068e iv_J0_charAt_5068e ml_L_55 rfl rfl (by refine ⟨?_, ?_, ?_, ?_⟩ <;> first | decide | exact Nat.le_of_ble_eq_true rfl | (dsimp only; omega)) (Nat.le_of_ble_eq_true rfl) (dat dkL_told 35 rfl) ?_
      rintro _ _ ⟨rfl, hM⟩
      refine ⟨hM, ?_⟩
      clear hM
      refine r_wide (k2 := k) (n2 := n) (Nat.le_refl _) (Nat.le_refl _) ?_
      refine r_goto (tgt := 62) E (dat dkL_told 36 rfl) rfl ?_
      exact hfin _ (chT_in hc7 h2)
set_option maxRecDepth 100000 in
set_option maxHeartbeats 4000000 in
theorem told_out (h14 : G.2.2.2.1 ≤ 140) (hc7 : ∀ j, j < G.2.2.2.1 → ∃ c, c < 128 ∧ G.2.2.2.2 j = nI c) {M0 : Mem} {B0 : Nat → Nat → Int32} {t : TT} (h9 : (M0 0 0 9).toNatClampNeg < 19) (h10 : (M0 0 0 10).toNatClampNeg < 19) (E : EN p s m args meth c G (KC, lkC, ad) cL_told RL 5 none) (kk : ∀ (j : Nat) (bs : Nat → Int32), G.2.2.2.1 ≤ 20 * j → 20 * j ≤ 600 → (∀ i, i < G.2.2.2.1 → bs i = G.2.2.2.2 i) → WM p l e ({ frames := 5, cells := 8, slots := 40, locals := 90 } : Room) s m args below meth c G (KC, lkC, ad) 5 Q (setm M0 1 (vTx B0 (20 * j) bs t)) 8 40 96 [some (rv 0 0), some (rv 97 14), none, none, none] []) : ∀ (d j : Nat) (bs : Nat → Int32), j + d = 8 → (∀ i, i < 20 * j → bs i = nI ((chT G.2.2.2.2 G.2.2.2.1) i)) → WM p l e ({ frames := 5, cells := 8, slots := 40, locals := 90 } : Room) s m args below meth c G (KC, lkC, ad) 5 Q (setm M0 1 (vTx B0 (20 * j) bs t)) j (5 * j) 2 [some (rv 0 0), some (rv 97 14), some (iv (nI (20 * j))), none, none] [] := by
  have hL : ∀ qa : Nat → Nat, lvl (eY (KC, lkC, ad) 10 qa) 0 [some (rv 0 0), some (rv 97 14), none, none, none] = lvl (KC, lkC, ad) 0 [some (rv 0 0), some (rv 97 14), none, none, none] := fun _ => rfl
  intro d
  induction d with
  | zero =>
    intro j bs hj hb
    obtain rfl : j = 8 := by omega
    refine r_iload_n E (dat dkL_told 2 rfl) rfl rfl ?_
    refine r_aload_n E (dat dkL_told 3 rfl) rfl rfl ?_
    refine r_callK E (dsp_J0_length_8abf5 l G _) (KRC_d E) my_J0_length_8abf5 iv_J0_length_8abf5 ml_L_49 rfl rfl (by refine ⟨?_, ?_, ?_, ?_⟩ <;> first | decide | exact Nat.le_of_ble_eq_true rfl | (dsimp only; omega)) (Nat.le_of_ble_eq_true rfl) (dat dkL_told 4 rfl) ?_
    rintro _ _ ⟨rfl, hM⟩
    refine ⟨hM, ?_⟩
    clear hM
    refine r_wide (k2 := 8) (n2 := 5 * 8) (Nat.le_refl _) (Nat.le_refl _) ?_
    refine q_icmp_ge (tgt := 96) E (dat dkL_told 5 rfl) rfl rfl rfl (by omega) (by omega) (fun h => ?_) (fun h => absurd h (by omega))
    exact r_back (L2 := [some (rv 0 0), some (rv 97 14), none, none, none]) rfl ⟨rfl, rfl, trivial⟩ (kk 8 bs h (by omega) (fun i hi => by rw [hb i (by omega)]; exact (chT_in hc7 hi).symm))
  | succ d ih =>
    intro j bs hj hb
    refine r_iload_n E (dat dkL_told 2 rfl) rfl rfl ?_
    refine r_aload_n E (dat dkL_told 3 rfl) rfl rfl ?_
    refine r_callK E (dsp_J0_length_8abf5 l G _) (KRC_d E) my_J0_length_8abf5 iv_J0_length_8abf5 ml_L_49 rfl rfl (by refine ⟨?_, ?_, ?_, ?_⟩ <;> first | decide | exact Nat.le_of_ble_eq_true rfl | (dsimp only; omega)) (Nat.le_of_ble_eq_true rfl) (dat dkL_told 4 rfl) ?_
    rintro _ _ ⟨rfl, hM⟩
    refine ⟨hM, ?_⟩
    clear hM
    refine r_wide (k2 := j) (n2 := 5 * j) (Nat.le_refl _) (Nat.le_refl _) ?_
    refine q_icmp_ge (tgt := 96) E (dat dkL_told 5 rfl) rfl rfl rfl (by omega) (by omega) (fun h => ?_) (fun h => ?_)
    · refine r_wide (k2 := 8) (n2 := 40) (by omega) (by omega) ?_
      exact r_back (L2 := [some (rv 0 0), some (rv 97 14), none, none, none]) rfl ⟨rfl, rfl, trivial⟩ (kk j bs h (by omega) (fun i hi => by rw [hb i (by omega)]; exact (chT_in hc7 hi).symm))
    ·
      refine r_iconst E (dat dkL_told 6 rfl) (v := nI 5) rfl ?_
      have hok : eOK (KC, lkC, ad) (setm M0 1 (vTx B0 (20 * j) bs t)) := eOK_KC (M := setm M0 1 (vTx B0 (20 * j) bs t)) (by rw [setm_n (show (0 : Nat) ≠ 1 by decide)]; exact h9) (by rw [setm_n (show (0 : Nat) ≠ 1 by decide)]; exact h10)
      refine r_newI (κ := 10) (N := 5) E (dat dkL_told 7 rfl) an_int rfl rfl (nI_pos (by decide)) rfl (by decide) (by show j + 1 ≤ 8; omega) (by show 5 * j + 5 ≤ 40; omega) hok (fun _ => rfl) (fun _ => rfl) (fun qa E2 hAS => ?_)
      have hz : setm (setm M0 1 (vTx B0 (20 * j) bs t)) 19 (fun _ _ => 0) = setm (setm M0 1 (vTx B0 (20 * j) bs t)) 19 (T10 (wAr (chT G.2.2.2.2 G.2.2.2.1) (20 * j) 0)) := by rw [T10_0]
      refine r_mem (M' := setm (setm M0 1 (vTx B0 (20 * j) bs t)) 19 (T10 (wAr (chT G.2.2.2.2 G.2.2.2.1) (20 * j) 0))) hz.symm ?_
      refine r_astore_3 E2 (dat dkL_told 8 rfl) rfl rfl ?_
      refine r_iconst E2 (dat dkL_told 9 rfl) (v := nI 0) rfl ?_
      refine r_istore_4 E2 (dat dkL_told 10 rfl) rfl rfl ?_
      refine told_in h14 hc7 E2 h (by omega) (by omega) ?_ 20 0 (by omega)
      refine r_aload_n E2 (dat dkL_told 42 rfl) rfl rfl ?_
      refine r_aload_n E2 (dat dkL_told 43 rfl) rfl rfl ?_
      refine r_iconst E2 (dat dkL_told 44 rfl) (v := nI 0) rfl ?_
      refine q_ialv E2 (dat dkL_told 45 rfl) rfl rfl (by decide) rfl (by decide) (i := 0) (v := nI (chN (chT G.2.2.2.2 G.2.2.2.1) (20 * j + 0) 4)) (congrFun (congrFun setm_s 0) 0) ?_
      refine r_aload_n E2 (dat dkL_told 46 rfl) rfl rfl ?_
      refine r_iconst E2 (dat dkL_told 47 rfl) (v := nI 1) rfl ?_
      refine q_ialv E2 (dat dkL_told 48 rfl) rfl rfl (by decide) rfl (by decide) (i := 1) (v := nI (chN (chT G.2.2.2.2 G.2.2.2.1) (20 * j + 4) 4)) (congrFun (congrFun setm_s 0) 1) ?_
      refine r_aload_n E2 (dat dkL_told 49 rfl) rfl rfl ?_
      refine r_iconst E2 (dat dkL_told 50 rfl) (v := nI 2) rfl ?_
      refine q_ialv E2 (dat dkL_told 51 rfl) rfl rfl (by decide) rfl (by decide) (i := 2) (v := nI (chN (chT G.2.2.2.2 G.2.2.2.1) (20 * j + 8) 4)) (congrFun (congrFun setm_s 0) 2) ?_
      refine r_aload_n E2 (dat dkL_told 52 rfl) rfl rfl ?_
      refine r_iconst E2 (dat dkL_told 53 rfl) (v := nI 3) rfl ?_
      refine q_ialv E2 (dat dkL_told 54 rfl) rfl rfl (by decide) rfl (by decide) (i := 3) (v := nI (chN (chT G.2.2.2.2 G.2.2.2.1) (20 * j + 12) 4)) (congrFun (congrFun setm_s 0) 3) ?_
      refine r_aload_n E2 (dat dkL_told 55 rfl) rfl rfl ?_
      refine r_iconst E2 (dat dkL_told 56 rfl) (v := nI 4) rfl ?_
      refine q_ialv E2 (dat dkL_told 57 rfl) rfl rfl (by decide) rfl (by decide) (i := 4) (v := nI (chN (chT G.2.2.2.2 G.2.2.2.1) (20 * j + 16) 4)) (congrFun (congrFun setm_s 0) 4) ?_
      have hM1 : (setm (setm M0 1 (vTx B0 (20 * j) bs t)) 19 (T10 (wAr (chT G.2.2.2.2 G.2.2.2.1) (20 * j) 20))) 1 = vTx B0 (20 * j) bs t := by rw [setm_n (by decide), setm_s]
      refine r_callV (κ := 8) (μ := []) E2 (sp_X9_appendInput l G _ _ _ _ _ _ B0 (20 * j) bs t hM1 (by omega)) my_X9_appendInput iv_X9_appendInput ml_L_59 cm_T1 ⟨by decide, rfl, rfl⟩ rfl rfl rfl rfl (by refine ⟨?_, ?_, ?_, ?_⟩ <;> first | decide | exact Nat.le_of_ble_eq_true rfl | (dsimp only; omega)) (Nat.le_of_ble_eq_true rfl) (dat dkL_told 58 rfl) ?_
      rintro _ _ (⟨_, rfl, rfl⟩ | ⟨hno, _, _⟩)
      · refine ⟨_, Mrg_s1 rfl, ?_⟩
        refine r_wide (k2 := j + 1) (n2 := 5 * (j + 1)) (by dsimp only; omega) (by dsimp only; omega) ?_
        refine r_pop E2 (dat dkL_told 59 rfl) rfl ?_
        refine g_iinc (i := 2) (x := nI (20 * j)) (L2 := [some (rv 0 0), some (rv 97 14), some (iv (nI (20 * (j + 1)))), some (rv 19 0), some (iv (nI 20))]) E2 (dat dkL_told 60 rfl) rfl rfl (hc_of 1 rfl rfl) ?_ ?_
        · show [_, _, some (iv (nI (20 * j) + nI 20)), _, _] = _
          rw [nI_add]
          rfl
        refine r_goto (tgt := 2) E2 (dat dkL_told 61 rfl) rfl ?_
        refine r_back (L2 := [some (rv 0 0), some (rv 97 14), some (iv (nI (20 * (j + 1)))), none, none]) rfl ⟨rfl, rfl, rfl, trivial⟩ ?_
        refine r_drop (Y := (KC, lkC, ad)) (M2 := setm M0 1 (vTx B0 (20 * (j + 1)) (ap5 bs (20 * j) (nI (chN (chT G.2.2.2.2 G.2.2.2.1) (20 * j) 4)) (nI (chN (chT G.2.2.2.2 G.2.2.2.1) (20 * j + 4) 4)) (nI (chN (chT G.2.2.2.2 G.2.2.2.1) (20 * j + 8) 4)) (nI (chN (chT G.2.2.2.2 G.2.2.2.1) (20 * j + 12) 4)) (nI (chN (chT G.2.2.2.2 G.2.2.2.1) (20 * j + 16) 4))) t)) hAS ?_ ?_ rfl rfl ?_
        · intro q hq
          have hq2 : q < 19 := hq
          by_cases h1 : q = 1
          · subst h1; rw [setm_s, setm_s]; rfl
          · rw [setm_n h1, setm_n h1, setm_n (by omega), setm_n h1]
        · refine eOK_KC ?_ ?_
          · rw [setm_n (show (0 : Nat) ≠ 1 by decide), setm_n (show (0 : Nat) ≠ 19 by decide), setm_n (show (0 : Nat) ≠ 1 by decide)]; exact h9
          · rw [setm_n (show (0 : Nat) ≠ 1 by decide), setm_n (show (0 : Nat) ≠ 19 by decide), setm_n (show (0 : Nat) ≠ 1 by decide)]; exact h10
        refine ih (j + 1) _ (by omega) (fun i hi => ?_)
        rw [ap5_at (chT_lt hc7)]
        by_cases h3 : 20 * j ≤ i ∧ i < 20 * j + 20
        · rw [if_pos h3]
        · rw [if_neg h3]; exact hb i (by omega)
      · exact absurd (by omega) hno
end TLD
set_option maxRecDepth 100000 in
set_option maxHeartbeats 4000000 in
theorem sp_L_told (l : Launch) (G : GT) (h14 : G.2.2.2.1 ≤ 140) (hc7 : ∀ j, j < G.2.2.2.1 → ∃ c, c < 128 ∧ G.2.2.2.2 j = nI c) (M0 M : Mem) {B0 : Nat → Nat → Int32} {bs : Nat → Int32} {t : TT} (hM : M = setm M0 1 (vTx B0 0 bs t)) (h9 : (M0 0 0 9).toNatClampNeg < 19) (h10 : (M0 0 0 10).toNatClampNeg < 19) : MC l G yL_told cL_told 5 none ({ frames := 5, cells := 8, slots := 40, locals := 90 } : Room) KC lkC [rv 0 0, rv 97 14] M (fun r M2 => r = none ∧ ∃ b2 : Nat → Int32, M2 = setm M0 1 (vTx B0 G.2.2.2.1 b2 t) ∧ ∀ i, i < G.2.2.2.1 → b2 i = G.2.2.2.2 i) := by
  subst hM
  refine MC.of RL [some (rv 0 0), some (rv 97 14), none, none, none] 3 (by decide +kernel) rfl rfl rfl ?_
  intro pp ee ss mm aa bb me cd ad E
  refine r_iconst E (dat dkL_told 0 rfl) (v := nI 0) rfl ?_
  refine r_istore_2 E (dat dkL_told 1 rfl) rfl rfl ?_
  refine told_out h14 hc7 h9 h10 E (fun j b2 hj h6 hb => ?_) 8 0 bs (by omega) (fun i hi => absurd hi (by omega))
  refine r_aload_n E (dat dkL_told 62 rfl) rfl rfl ?_
  refine r_aload_n E (dat dkL_told 63 rfl) rfl rfl ?_
  refine r_callK E (dsp_J0_length_8abf5 l G _) (KRC_d E) my_J0_length_8abf5 iv_J0_length_8abf5 ml_L_49 rfl rfl (by decide) (Nat.le_of_ble_eq_true rfl) (dat dkL_told 64 rfl) ?_
  rintro _ _ ⟨rfl, hM⟩
  refine ⟨hM, ?_⟩
  clear hM
  refine r_callV (κ := 8) (μ := []) E (sp_X9_truncateInput l G (nI G.2.2.2.1) _ (20 * j) (by show setm M0 1 _ 1 0 1 = _; rw [setm_s]; rfl) h6) my_X9_truncateInput iv_X9_truncateInput ml_L_65 cm_T0 ⟨by decide, rfl, rfl⟩ rfl rfl rfl rfl (by decide) (Nat.le_of_ble_eq_true rfl) (dat dkL_told 65 rfl) ?_
  rintro _ _ (⟨q, hq, he, rfl, rfl⟩ | ⟨hno, _, _⟩)
  · refine ⟨_, Mrg_s1 rfl, ?_⟩
    refine r_pop E (dat dkL_told 66 rfl) rfl ?_
    refine r_vreturn E (dat dkL_told 67 rfl) (by decide) (by decide) ⟨rfl, b2, ?_, hb⟩
    show setm (setm M0 1 (vTx B0 (20 * j) b2 t)) 1 (sett ((setm M0 1 (vTx B0 (20 * j) b2 t)) 1) 0 (upd ((setm M0 1 (vTx B0 (20 * j) b2 t)) 1 0) 1 (nI G.2.2.2.1))) = _
    rw [setm_s, setm_ss]
    unfold vTx
    rw [pfT_1]
  · exact absurd ⟨G.2.2.2.1, hj, rfl⟩ hno
