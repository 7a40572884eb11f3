/-! the reference's parser: cells, gutters, boots -/
def mCl (b : Nat → Int32) (n z : Nat) (t : TT) : TT := mAd b n (mNe t 0 (nI z - 1))
theorem TG_cl {b : Nat → Int32} {n z : Nat} {t : TT} (h : TG n t) : TG n (mCl b n z t) := TG_ad (TG_ne h)
/-- where the token starts -/
def sTn (t : TT) : Nat := t.2.2.1.toNatClampNeg
theorem TG_st {n : Nat} {t : TT} (h : TG n t) (hn : n ≤ 600) : sTn t ≤ t.1 ∧ t.2.2.1 = nI (sTn t) := by
  obtain ⟨h1, _, s, h2, h3⟩ := h
  unfold sTn
  rw [h3, nI_clamp (by omega)]
  exact ⟨h2, rfl⟩
/-- is the token a name? -/
def aNm (t : TT) : Int32 := if t.2.1 = 1 ∧ t.1 - sTn t ≤ 6 then 1 else 0
/-- the boots of the name at s, of L letters -/
def kNw (b : Nat → Int32) (s L : Nat) (x : PP) : Int32 := nmS (fun i => sB (fun q => b (s + q)) (x.2.2.2.2.2.2.2.2 i) (x.2.2.2.2.2.1 i = nI L) L) x.2.2.2.2.1 0
theorem sB_cg {sp sp' f : Nat → Int32} {e : Prop} [Decidable e] : ∀ {k : Nat}, (∀ q, q < k → sp q = sp' q) → sB sp f e k = sB sp' f e k := by
  intro k h
  by_cases h0 : sB sp' f e k = 0
  · rw [h0]
    refine if_neg fun q => ?_
    have : sB sp' f e k = 1 := if_pos ⟨q.1, fun j hj => (q.2 j hj).trans (h j hj)⟩
    rw [this] at h0
    exact absurd h0 (by decide)
  · obtain ⟨h1, h2⟩ := sB_s h0
    rw [show sB sp' f e k = 1 from if_pos ⟨h1, h2⟩]
    exact if_pos ⟨h1, fun j hj => (h2 j hj).trans (h j hj).symm⟩
theorem kNw_of {b sp : Nat → Int32} {s L : Nat} {x : PP} (h : ∀ i, i < L → sp i = b (s + i)) : nmS (fun i => sB sp (x.2.2.2.2.2.2.2.2 i) (x.2.2.2.2.2.1 i = nI L) L) x.2.2.2.2.1 0 = kNw b s L x := nmS_congr _ 0 fun q _ _ => sB_cg h
theorem lwF_cg {A sp sp' : Nat → Int32} {p : Nat} : ∀ {j : Nat}, (∀ i, i < j → sp i = sp' i) → lwF A p sp j = lwF A p sp' j
  | 0, _ => rfl
  | j + 1, h => by
    show upd (lwF A p sp j) (p + j) (sp j) = upd (lwF A p sp' j) (p + j) (sp' j)
    rw [lwF_cg fun i hi => h i (by omega), h j (by omega)]
theorem abF_cg {A sp sp' : Nat → Int32} {k L : Nat} {a v : Int32} (h : ∀ i, i < L → sp i = sp' i) : abF A k L sp a v = abF A k L sp' a v := by
  unfold abF
  rw [lwF_cg h]
theorem mAd_z {b : Nat → Int32} {n : Nat} {t : TT} (h : (mAd b n t).2.2.2.2.1 = 0) : t.2.2.2.2.1 = 0 := mAd_f.symm.trans h
theorem mEx_z {a k : Int32} {t : TT} (hk : 0 < k) (h : (mEx a k t).2.2.2.2.1 = 0) : t.2.2.2.2.1 = 0 ∧ mEx a k t = t ∧ ¬ a = 0 := by
  unfold mEx at h ⊢
  by_cases h0 : t.2.2.2.2.1 = 0
  · rw [if_pos h0] at h ⊢
    by_cases ha : a = 0
    · rw [if_pos ha] at h; exact absurd h (fz hk)
    · rw [if_neg ha]; exact ⟨h0, rfl, ha⟩
  · rw [if_neg h0] at h; exact absurd h h0
set_option maxRecDepth 100000 in
set_option maxHeartbeats 4000000 in
theorem sp_X10_parseCell (l : Launch) (G : GT) (bs : Nat → Int32) (n : Nat) (A : Nat → Int32) (t : TT) (z : Nat) (M : Mem) (hB : M 0 10 = bs) (hn : M 0 0 10 = nI n) (hA : M 0 1 = A) (hT : TI M t) (hG : TG n t) (hn6 : n ≤ 600) (hz2 : A 2 * A 1 = nI z) : MC l G yX10_parseCell cX10_parseCell 1 (some .int) ({ frames := 4, cells := 0, slots := 0, locals := 89 } : Room) [9] lk0 [rv 0 0] (M) (fun r M2 => r = some (iv (mNv t 0 (nI z - 1))) ∧ PK M M2 A (mCl bs n z t) ∧ PS M M2) := by
  refine MC.of RX10 [some (rv 0 0)] 0 (by decide +kernel) rfl rfl rfl ?_
  intro pp ee ss mm aa bb me cd ad E
  have hk : kq M M := kq_r
  have hS : PS M M := PS_r
  
  refine r_aload_n E (dat dkX10_parseCell 0 rfl) rfl rfl ?_
  refine r_iconst (v := 0) E (dat dkX10_parseCell 1 rfl) rfl ?_
  refine r_aload_n E (dat dkX10_parseCell 2 rfl) rfl rfl ?_
  refine r_callV (κ := 9) (μ := []) E (sp_X10_cells l G _ A hA) my_X10_cells iv_X10_cells ml_X10_115 cm_id ⟨by decide, rfl, rfl⟩ rfl rfl rfl rfl (by decide) (Nat.le_of_ble_eq_true rfl) (dat dkX10_parseCell 3 rfl) ?_
  rintro _ _ ⟨rfl, rfl⟩
  refine ⟨_, Mrg_z rfl, ?_⟩
  rw [hz2]
  refine r_iconst (v := 1) E (dat dkX10_parseCell 4 rfl) rfl ?_
  refine r_isub E (dat dkX10_parseCell 5 rfl) ?_
  refine r_callV (κ := 9) (μ := []) E (px_num l G bs n _ _ (0) (nI z - 1) _ hB hn hA hT hG hn6) my_X10_parseNumber iv_X10_parseNumber ml_X10_198 cm_id ⟨by decide, rfl, rfl⟩ rfl rfl rfl rfl (by decide) (Nat.le_of_ble_eq_true rfl) (dat dkX10_parseCell 6 rfl) ?_
  rintro _ M9 ⟨rfl, hp9, hs9⟩
  obtain ⟨Ma, hMr, hk9, hA, hT, hS9⟩ := Mrg_pk hp9 hs9
  replace hB := (hk9.2.2.2.1).trans hB
  replace hn := (hk9.2.2.2.2.2.2.2.2.1).trans hn
  replace hk := kq_t hk hk9
  replace hS := PS_t hS hS9
  replace hG := TG_ad (b := bs) (TG_ne (lo := 0) (hi := nI z - 1) hG)
  refine ⟨_, hMr, ?_⟩
  clear hp9 hs9 hMr hk9 hS9
  refine r_ireturn E (dat dkX10_parseCell 7 rfl) (by decide) (by decide) ?_
  exact ⟨rfl, ⟨hk, hA, hT⟩, hS⟩

set_option maxRecDepth 100000 in
set_option maxHeartbeats 4000000 in
theorem sp_X10_parseGutter (l : Launch) (G : GT) (bs : Nat → Int32) (n : Nat) (A : Nat → Int32) (t : TT) (z : Nat) (M : Mem) (hB : M 0 10 = bs) (hn : M 0 0 10 = nI n) (hA : M 0 1 = A) (hT : TI M t) (hG : TG n t) (hn6 : n ≤ 600) (hz2 : A 2 * A 1 = nI z) (hz64 : z ≤ 64) : MC l G yX10_parseGutter cX10_parseGutter 3 none ({ frames := 5, cells := 0, slots := 0, locals := 109 } : Room) [9] lk0 [rv 0 0] (M) (fun r M2 => r = none ∧ PK M M2 (if (mNe (mCl bs n z (mAd bs n t)) 1 9).2.2.2.2.1 = 0 then upd A (c6 (mNv (mAd bs n t) 0 (nI z - 1)).toNatClampNeg 3) (mNv (mCl bs n z (mAd bs n t)) 1 9) else A) (mAd bs n (mNe (mCl bs n z (mAd bs n t)) 1 9)) ∧ PS M M2) := by
  refine MC.of RX10 [some (rv 0 0), none, none] 2 (by decide +kernel) rfl rfl rfl ?_
  intro pp ee ss mm aa bb me cd ad E
  have hk : kq M M := kq_r
  have hS : PS M M := PS_r
  
  refine r_aload_n E (dat dkX10_parseGutter 0 rfl) rfl rfl ?_
  refine r_callV (κ := 9) (μ := []) E (px_adv l G bs n _ _  _ hB hn hA hT hG hn6) my_X10_advanceToken iv_X10_advanceToken ml_X10_189 cm_id ⟨by decide, rfl, rfl⟩ rfl rfl rfl rfl (by decide) (Nat.le_of_ble_eq_true rfl) (dat dkX10_parseGutter 1 rfl) ?_
  rintro _ M9 ⟨rfl, hp9, hs9⟩
  obtain ⟨Ma, hMr, hk9, hA, hT, hS9⟩ := Mrg_pk hp9 hs9
  replace hB := (hk9.2.2.2.1).trans hB
  replace hn := (hk9.2.2.2.2.2.2.2.2.1).trans hn
  replace hk := kq_t hk hk9
  replace hS := PS_t hS hS9
  replace hG := TG_ad (b := bs) hG
  refine ⟨_, hMr, ?_⟩
  clear hp9 hs9 hMr hk9 hS9
  refine r_aload_n E (dat dkX10_parseGutter 2 rfl) rfl rfl ?_
  refine r_callV (κ := 9) (μ := []) E (sp_X10_parseCell l G bs n _ _ z _ hB hn hA hT hG hn6 hz2) my_X10_parseCell iv_X10_parseCell ml_X10_201 cm_id ⟨by decide, rfl, rfl⟩ rfl rfl rfl rfl (by decide) (Nat.le_of_ble_eq_true rfl) (dat dkX10_parseGutter 3 rfl) ?_
  rintro _ M9 ⟨rfl, hp9, hs9⟩
  obtain ⟨Ma, hMr, hk9, hA, hT, hS9⟩ := Mrg_pk hp9 hs9
  replace hB := (hk9.2.2.2.1).trans hB
  replace hn := (hk9.2.2.2.2.2.2.2.2.1).trans hn
  replace hk := kq_t hk hk9
  replace hS := PS_t hS hS9
  replace hG := TG_cl (b := bs) (z := z) hG
  refine ⟨_, hMr, ?_⟩
  clear hp9 hs9 hMr hk9 hS9
  refine r_istore_1 E (dat dkX10_parseGutter 4 rfl) rfl rfl ?_
  refine r_aload_n E (dat dkX10_parseGutter 5 rfl) rfl rfl ?_
  refine r_iconst (v := 1) E (dat dkX10_parseGutter 6 rfl) rfl ?_
  refine r_bipush (v := 9) E (dat dkX10_parseGutter 7 rfl) rfl ?_
  refine r_callV (κ := 9) (μ := []) E (px_num l G bs n _ _ (1) (9) _ hB hn hA hT hG hn6) my_X10_parseNumber iv_X10_parseNumber ml_X10_198 cm_id ⟨by decide, rfl, rfl⟩ rfl rfl rfl rfl (by decide) (Nat.le_of_ble_eq_true rfl) (dat dkX10_parseGutter 8 rfl) ?_
  rintro _ M9 ⟨rfl, hp9, hs9⟩
  obtain ⟨Ma, hMr, hk9, hA, hT, hS9⟩ := Mrg_pk hp9 hs9
  replace hB := (hk9.2.2.2.1).trans hB
  replace hn := (hk9.2.2.2.2.2.2.2.2.1).trans hn
  replace hk := kq_t hk hk9
  replace hS := PS_t hS hS9
  replace hG := TG_ad (b := bs) (TG_ne (lo := 1) (hi := 9) hG)
  refine ⟨_, hMr, ?_⟩
  clear hp9 hs9 hMr hk9 hS9
  have hf := mAd_f (b := bs) (n := n) (t := (mNe (mCl bs n z (mAd bs n t)) 1 9))
  refine r_istore_2 E (dat dkX10_parseGutter 9 rfl) rfl rfl ?_
  refine r_aload_n E (dat dkX10_parseGutter 10 rfl) rfl rfl ?_
  refine q_getn E fl_X10_165 (dat dkX10_parseGutter 11 rfl) rfl rfl rfl (show (_ : Int32) = _ from hT.2.2.2.2.1) ?_
  refine r_if_ne (tgt := 36) E (dat dkX10_parseGutter 12 rfl) rfl (fun h21 => ?_) (fun h21 => ?_)
  ·
    refine r_vreturn E (dat dkX10_parseGutter 21 rfl) (by decide) (by decide) ?_
    refine ⟨rfl, ?_, hS⟩
    first
      | (rw [if_neg (show ¬ (mNe (mCl bs n z (mAd bs n t)) 1 9).2.2.2.2.1 = 0 from fun q => h21 (hf.trans q))]; exact ⟨hk, hA, hT⟩)
      | (rw [if_pos h30]; first | (rw [hc8]; exact ⟨hk, rfl, hT⟩) | (rw [nI_clamp (show q < 2 ^ 31 by omega)]; exact ⟨hk, rfl, hT⟩))
  ·
    have h30 : (mNe (mCl bs n z (mAd bs n t)) 1 9).2.2.2.2.1 = 0 := hf.symm.trans (by first | exact h21 | exact Decidable.not_not.mp h21)
    obtain ⟨_, e2, e3, e4⟩ := mNe_i (mAd_z (mNe_i h30).1)
    obtain ⟨q, hqz, hq⟩ := nI_ex (z := z) (by omega) e3 e4
    rw [← e2] at hq
    have hc8 : (mNv (mAd bs n t) 0 (nI z - 1)).toNatClampNeg = q := by rw [hq, nI_clamp (by omega)]
    refine r_aload_n E (dat dkX10_parseGutter 13 rfl) rfl rfl ?_
    refine q_geta E fl_X10_9 (dat dkX10_parseGutter 14 rfl) rfl rfl rfl ?_
    refine r_iload_n E (dat dkX10_parseGutter 15 rfl) rfl rfl ?_
    rw [hq]
    refine r_callS (μ := []) E (sp_X10_c l G q _) my_X10_c is_X10_c ml_X10_48 cm_nil rfl rfl (by decide) (Nat.le_of_ble_eq_true rfl) (dat dkX10_parseGutter 16 rfl) ?_
    rintro _ _ ⟨rfl, hM⟩
    refine ⟨_, Mrg_z hM, ?_⟩
    clear hM
    refine r_iconst (v := 3) E (dat dkX10_parseGutter 17 rfl) rfl ?_
    refine r_iadd E (dat dkX10_parseGutter 18 rfl) ?_
    refine r_iload_n E (dat dkX10_parseGutter 19 rfl) rfl rfl ?_
    refine q_iast E (dat dkX10_parseGutter 20 rfl) rfl rfl (by decide) (show (_ : Nat → Int32) = _ from hA) (fun _ => rfl) (show _ = nI (c6 q 3) from nI_add _ _) (by unfold c6; omega) ?_
    refine r_vreturn E (dat dkX10_parseGutter 21 rfl) (by decide) (by decide) ?_
    refine ⟨rfl, ?_, hS⟩
    first
      | (rw [if_neg (show ¬ (mNe (mCl bs n z (mAd bs n t)) 1 9).2.2.2.2.1 = 0 from fun q => h21 (hf.trans q))]; exact ⟨hk, hA, hT⟩)
      | (rw [if_pos h30]; first | (rw [hc8]; exact ⟨hk, rfl, hT⟩) | (rw [nI_clamp (show q < 2 ^ 31 by omega)]; exact ⟨hk, rfl, hT⟩))
