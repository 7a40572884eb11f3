def sgI (x : Int32) : Int32 := if x ≤ 0 then 46 else if x ≤ 9 then ((48 + x).toUInt32 % 65536).toInt32 else 43
/-- the city with other bytes and another length in its output -/
def ouM (M : Mem) (bs : Nat → Int32) (k : Int32) : Mem := setm M 0 (sett (sett (M 0) 9 bs) 0 (upd (M 0 0) 12 k))
theorem ou_0 {M : Mem} {k : Int32} : setm M 0 (sett (M 0) 0 (upd (M 0 0) 12 k)) = ouM M (M 0 9) k := by
  unfold ouM
  congr 2
  funext t
  unfold sett
  split
  · rename_i h; rw [h]
  · rfl
theorem ou_ou {M : Mem} {b b2 : Nat → Int32} {k k2 : Int32} : ouM (ouM M b k) b2 k2 = ouM M b2 k2 := by
  unfold ouM
  rw [setm_setm, setm_s]
  congr 1
  funext t
  unfold sett
  split
  · funext j
    rw [if_pos rfl]
    unfold upd
    split <;> rfl
  · split
    · rfl
    · rfl
theorem ou_Mrg {N : Nat} {M M1 : Mem} {b b2 : Nat → Int32} {k k2 : Int32} (hN : 0 < N) (h1 : M1 = ouM (vw [] (ouM M b k)) b2 k2) : Mrg N [] (ouM M b k) M1 (ouM M b2 k2) := by
  rw [show ouM M b2 k2 = ouM (ouM M b k) b2 k2 from ou_ou.symm]
  exact Mrg_e (i := 0) (fun j _ h => h) hN rfl h1
theorem ou_put {M : Mem} {f : Nat → Int32} {k : Nat} (hk : M 0 0 12 = nI k) : setm (setm M 0 (sett (M 0) 9 f)) 0 (sett ((setm M 0 (sett (M 0) 9 f)) 0) 0 (upd ((setm M 0 (sett (M 0) 9 f)) 0 0) 12 ((setm M 0 (sett (M 0) 9 f)) 0 0 12 + 1))) = ouM M f (nI (k + 1)) := by
  rw [setm_setm]
  show setm M 0 (sett (sett (M 0) 9 f) 0 (upd (M 0 0) 12 (M 0 0 12 + 1))) = _
  rw [hk, nI_1]
  rfl
/-- i cells' signs behind one another -/
def woF (w lv : Nat → Int32) (b : Nat) (o : Nat → Int32) : Nat → (Nat → Int32) × Nat
  | 0 => (o, 0)
  | i + 1 => if lv (b + i) ≤ 0 then (upd (woF w lv b o i).1 (woF w lv b o i).2 (sgI (w (b + i))).toInt8.toInt32, (woF w lv b o i).2 + 1)
    else (upd (upd (woF w lv b o i).1 (woF w lv b o i).2 (sgI (w (b + i))).toInt8.toInt32) ((woF w lv b o i).2 + 1) (37 : Int32).toInt8.toInt32, (woF w lv b o i).2 + 1 + 1)
theorem woF_1 {w lv : Nat → Int32} {b i : Nat} {o : Nat → Int32} (h : lv (b + i) ≤ 0) : woF w lv b o (i + 1) = (upd (woF w lv b o i).1 (woF w lv b o i).2 (sgI (w (b + i))).toInt8.toInt32, (woF w lv b o i).2 + 1) := if_pos h
theorem woF_2 {w lv : Nat → Int32} {b i : Nat} {o : Nat → Int32} (h : ¬ lv (b + i) ≤ 0) : woF w lv b o (i + 1) = (upd (upd (woF w lv b o i).1 (woF w lv b o i).2 (sgI (w (b + i))).toInt8.toInt32) ((woF w lv b o i).2 + 1) (37 : Int32).toInt8.toInt32, (woF w lv b o i).2 + 1 + 1) := if_neg h
theorem woF_le {w lv : Nat → Int32} {b : Nat} {o : Nat → Int32} : ∀ i, (woF w lv b o i).2 ≤ 2 * i
  | 0 => Nat.le_refl 0
  | i + 1 => by
    have h := woF_le (w := w) (lv := lv) (b := b) (o := o) i
    by_cases h0 : lv (b + i) ≤ 0
    · rw [woF_1 h0]; show _ + 1 ≤ _; omega
    · rw [woF_2 h0]; show _ + 1 + 1 ≤ _; omega
theorem cell_lt {r i a b : Nat} (hr : r < a) (hi : i < b) : r * b + i < a * b := by
  have h := Nat.mul_le_mul_right b (show r + 1 ≤ a from hr)
  rw [Nat.succ_mul] at h
  omega
theorem sg_c {x : Int32} (h1 : ¬ x ≤ 0) (h2 : x ≤ 9) : narrow .char (.int ((48 + x).toUInt32 % 65536).toInt32) = .int ((48 + x).toUInt32 % 65536).toInt32 := by
  obtain ⟨j, hj, rfl⟩ := rg_ex (k := 9) (by decide) (Int32.le_of_lt (nle_lt h1)) h2
  exact (show ∀ j, j ≤ 9 → narrow .char (.int ((48 + nI j).toUInt32 % 65536).toInt32) = .int ((48 + nI j).toUInt32 % 65536).toInt32 by decide +kernel) j hj
theorem sg_nar {x : Int32} : narrow .char (.int (sgI x)) = .int (sgI x) := by
  unfold sgI
  split
  · decide
  · rename_i h1
    split
    · rename_i h2
      exact sg_c h1 h2
    · decide
def obI (M : Mem) (a : Int32) : Int32 := if a < 0 then -1 else if M 0 0 12 ≤ a then -1 else M 0 9 a.toNatClampNeg
def nbI (x : PP) (b : Nat) (d : Int32) : Int32 := if d < 0 then -1 else if x.2.2.2.2.2.1 b ≤ d then -1 else x.2.2.2.2.2.2.2.2 b d.toNatClampNeg
def leM (M : Mem) (a : Int32) : Mem := setm M 1 (sett (M 1) 0 (upd (M 1 0) 1 a))
def isM (M : Mem) (v : Int32) : Mem := setm M 0 (sett (M 0) 0 (upd (M 0 0) 11 v))
def pf4 (bs : Nat → Int32) (n : Nat) (x : Int32) : Nat → Int32 := upd (upd (upd (upd bs n ((x.toUInt32 >>> ((24 : Int32).toUInt32 &&& Int32.toUInt32 31)).toInt32.toInt8.toInt32)) (n + 1) ((x.toUInt32 >>> ((16 : Int32).toUInt32 &&& Int32.toUInt32 31)).toInt32.toInt8.toInt32)) (n + 2) ((x.toUInt32 >>> ((8 : Int32).toUInt32 &&& Int32.toUInt32 31)).toInt32.toInt8.toInt32)) (n + 3) (x.toInt8.toInt32)
def ap5 (bs : Nat → Int32) (n : Nat) (a b d f g : Int32) : Nat → Int32 := pf4 (pf4 (pf4 (pf4 (pf4 bs n a) (n + 4) b) (n + 8) d) (n + 12) f) (n + 16) g
set_option maxRecDepth 100000 in
set_option maxHeartbeats 4000000 in
theorem sp_X9_truncateInput (l : Launch) (G : GT) (a : Int32) (M : Mem) (n : Nat) (hn : M 1 0 1 = nI n) (hn6 : n ≤ 600) : MC l G yX9_truncateInput cX9_truncateInput 2 (some .boolean) ({ frames := 0, cells := 0, slots := 0, locals := 0 } : Room) KC lkC [rv 0 0, iv a] (M) (fun r M2 => (∃ j, j ≤ n ∧ a = nI j ∧ r = some (iv 1) ∧ M2 = leM M a) ∨ ((¬ ∃ j, j ≤ n ∧ a = nI j) ∧ r = some (iv 0) ∧ M2 = M)) := by
  refine MC.of RX9 [some (rv 0 0), some (iv a)] 0 (by decide +kernel) rfl rfl rfl ?_
  intro pp ee ss mm aa bb me cd ad E
  refine r_iload_n E (dat dkX9_truncateInput 0 rfl) rfl rfl ?_
  refine r_if_lt (tgt := 15) E (dat dkX9_truncateInput 1 rfl) rfl (fun h1 => ?_) (fun h1 => ?_)
  ·
    refine r_iconst (v := 0) E (dat dkX9_truncateInput 7 rfl) rfl ?_
    refine r_zreturn E (dat dkX9_truncateInput 8 rfl) rfl (by decide) (by decide) ?_
    refine Or.inr ⟨?_, rfl, rfl⟩
    rintro ⟨j, hj, rfl⟩
    first
      | exact nI_pos (by omega) h1
      | (rw [show M ((KC, lkC, ad).2.1 0 0) 0 1 = nI n from hn] at h12; first | exact h12 ((nI_leI (by omega) (by omega)).mpr hj) | exact absurd ((nI_leI (by omega) (by omega)).mpr hj) (Int32.not_le.mpr h12))
  ·
    refine r_iload_n E (dat dkX9_truncateInput 2 rfl) rfl rfl ?_
    refine r_aload_n E (dat dkX9_truncateInput 3 rfl) rfl rfl ?_
    refine q_getl E fl_X9_10 (dat dkX9_truncateInput 4 rfl) rfl rfl rfl ?_
    refine q_getn E fl_X9_96 (dat dkX9_truncateInput 5 rfl) rfl rfl rfl rfl ?_
    refine r_icmp_le (tgt := 17) E (dat dkX9_truncateInput 6 rfl) rfl (fun h12 => ?_) (fun h12 => ?_)
    ·
      refine r_aload_n E (dat dkX9_truncateInput 9 rfl) rfl rfl ?_
      refine q_getl E fl_X9_10 (dat dkX9_truncateInput 10 rfl) rfl rfl rfl ?_
      refine r_iload_n E (dat dkX9_truncateInput 11 rfl) rfl rfl ?_
      refine q_putn E ft_X9_96 (dat dkX9_truncateInput 12 rfl) rfl rfl rfl rfl ?_
      refine r_iconst (v := 1) E (dat dkX9_truncateInput 13 rfl) rfl ?_
      refine r_zreturn E (dat dkX9_truncateInput 14 rfl) rfl (by decide) (by decide) ?_
      obtain ⟨j, hj, rfl⟩ := nI_of (show ¬ a < 0 by first | exact h1 | exact Int32.not_lt.mpr h1)
      refine Or.inl ⟨j, ?_, rfl, rfl, rfl⟩
      rw [show M ((KC, lkC, ad).2.1 0 0) 0 1 = nI n from hn] at h12
      exact (nI_leI hj (by omega)).mp (by first | exact h12 | exact nlt_le h12)
    ·
      refine r_iconst (v := 0) E (dat dkX9_truncateInput 7 rfl) rfl ?_
      refine r_zreturn E (dat dkX9_truncateInput 8 rfl) rfl (by decide) (by decide) ?_
      refine Or.inr ⟨?_, rfl, rfl⟩
      rintro ⟨j, hj, rfl⟩
      first
        | exact nI_pos (by omega) h1
        | (rw [show M ((KC, lkC, ad).2.1 0 0) 0 1 = nI n from hn] at h12; first | exact h12 ((nI_leI (by omega) (by omega)).mpr hj) | exact absurd ((nI_leI (by omega) (by omega)).mpr hj) (Int32.not_le.mpr h12))

set_option maxRecDepth 100000 in
set_option maxHeartbeats 4000000 in
theorem sp_X9_appendInput (l : Launch) (G : GT) (a b d f g : Int32) (M : Mem) (B0 : Nat → Nat → Int32) (n : Nat) (bs : Nat → Int32) (t : TT) (hT : M 1 = vTx B0 n bs t) (hn : n ≤ 600) : MC l G yX9_appendInput cX9_appendInput 6 (some .int) ({ frames := 2, cells := 0, slots := 0, locals := 42 } : Room) KC lkC [rv 0 0, iv a, iv b, iv d, iv f, iv g] (M) (fun r M2 => (n + 20 ≤ 600 ∧ M2 = setm M 1 (vTx B0 (n + 20) (ap5 bs n a b d f g) t) ∧ r = some (iv (nI (n + 20)))) ∨ (¬ n + 20 ≤ 600 ∧ M2 = M ∧ r = some (iv (-1)))) := by
  refine MC.of RX9 [some (rv 0 0), some (iv a), some (iv b), some (iv d), some (iv f), some (iv g)] 0 (by decide +kernel) rfl rfl rfl ?_
  intro pp ee ss mm aa bb me cd ad E
  refine r_aload_n E (dat dkX9_appendInput 0 rfl) rfl rfl ?_
  refine q_getl E fl_X9_10 (dat dkX9_appendInput 1 rfl) rfl rfl rfl ?_
  refine q_getn E fl_X9_96 (dat dkX9_appendInput 2 rfl) rfl rfl rfl rfl ?_
  refine r_bipush (v := 20) E (dat dkX9_appendInput 3 rfl) rfl ?_
  refine r_iadd E (dat dkX9_appendInput 4 rfl) ?_
  refine r_sipush (v := 600) E (dat dkX9_appendInput 5 rfl) rfl ?_
  rw [show M ((KC, lkC, ad).2.1 0 0) 0 1 = nI n by (show M 1 0 1 = nI n); rw [hT]; rfl, show nI n + 20 = nI (n + 20) from nI_add n 20]
  refine q_icmp_le (tgt := 18) E (dat dkX9_appendInput 6 rfl) rfl rfl (b := 600) rfl (by omega) (by omega) (fun h13 => ?_) (fun h13 => ?_)
  ·
    refine r_aload_n E (dat dkX9_appendInput 9 rfl) rfl rfl ?_
    refine q_getl E fl_X9_10 (dat dkX9_appendInput 10 rfl) rfl rfl rfl ?_
    refine r_iload_n E (dat dkX9_appendInput 11 rfl) rfl rfl ?_
    refine r_callV (κ := 3) (μ := [1]) E (sp_X6_putFour l G B0 n (nI t.1) t.2.1 t.2.2.1 t.2.2.2.1 t.2.2.2.2.1 t.2.2.2.2.2 bs a _ hT (by omega)) my_X6_putFour iv_X6_putFour ml_X9_99 (cm_of rfl) ⟨by decide, rfl, rfl⟩ rfl rfl rfl rfl (by decide) (Nat.le_of_ble_eq_true rfl) (dat dkX9_appendInput 12 rfl) ?_
    rintro _ _ ⟨rfl, rfl⟩
    refine ⟨_, (show Mrg _ _ M _ (setm M 1 (vTx B0 (n + 4) (pf4 bs n a) t)) from Mrg_e (i := 0) (by decide) (by decide) rfl rfl), ?_⟩
    refine r_aload_n E (dat dkX9_appendInput 13 rfl) rfl rfl ?_
    refine q_getl E fl_X9_10 (dat dkX9_appendInput 14 rfl) rfl rfl rfl ?_
    refine r_iload_n E (dat dkX9_appendInput 15 rfl) rfl rfl ?_
    refine r_callV (κ := 3) (μ := [1]) E (sp_X6_putFour l G B0 (n + 4) (nI t.1) t.2.1 t.2.2.1 t.2.2.2.1 t.2.2.2.2.1 t.2.2.2.2.2 (pf4 bs n a) b _ rfl (by omega)) my_X6_putFour iv_X6_putFour ml_X9_99 (cm_of rfl) ⟨by decide, rfl, rfl⟩ rfl rfl rfl rfl (by decide) (Nat.le_of_ble_eq_true rfl) (dat dkX9_appendInput 16 rfl) ?_
    rintro _ _ ⟨rfl, rfl⟩
    refine ⟨_, (show Mrg _ _ (setm M 1 (vTx B0 (n + 4) (pf4 bs n a) t)) _ (setm M 1 (vTx B0 (n + 8) (pf4 (pf4 bs n a) (n + 4) b) t)) from Mrg_e (i := 0) (by decide) (by decide) setm_setm rfl), ?_⟩
    refine r_aload_n E (dat dkX9_appendInput 17 rfl) rfl rfl ?_
    refine q_getl E fl_X9_10 (dat dkX9_appendInput 18 rfl) rfl rfl rfl ?_
    refine r_iload_n E (dat dkX9_appendInput 19 rfl) rfl rfl ?_
    refine r_callV (κ := 3) (μ := [1]) E (sp_X6_putFour l G B0 (n + 8) (nI t.1) t.2.1 t.2.2.1 t.2.2.2.1 t.2.2.2.2.1 t.2.2.2.2.2 (pf4 (pf4 bs n a) (n + 4) b) d _ rfl (by omega)) my_X6_putFour iv_X6_putFour ml_X9_99 (cm_of rfl) ⟨by decide, rfl, rfl⟩ rfl rfl rfl rfl (by decide) (Nat.le_of_ble_eq_true rfl) (dat dkX9_appendInput 20 rfl) ?_
    rintro _ _ ⟨rfl, rfl⟩
    refine ⟨_, (show Mrg _ _ (setm M 1 (vTx B0 (n + 8) (pf4 (pf4 bs n a) (n + 4) b) t)) _ (setm M 1 (vTx B0 (n + 12) (pf4 (pf4 (pf4 bs n a) (n + 4) b) (n + 8) d) t)) from Mrg_e (i := 0) (by decide) (by decide) setm_setm rfl), ?_⟩
    refine r_aload_n E (dat dkX9_appendInput 21 rfl) rfl rfl ?_
    refine q_getl E fl_X9_10 (dat dkX9_appendInput 22 rfl) rfl rfl rfl ?_
    refine r_iload E (dat dkX9_appendInput 23 rfl) rfl ?_
    refine r_callV (κ := 3) (μ := [1]) E (sp_X6_putFour l G B0 (n + 12) (nI t.1) t.2.1 t.2.2.1 t.2.2.2.1 t.2.2.2.2.1 t.2.2.2.2.2 (pf4 (pf4 (pf4 bs n a) (n + 4) b) (n + 8) d) f _ rfl (by omega)) my_X6_putFour iv_X6_putFour ml_X9_99 (cm_of rfl) ⟨by decide, rfl, rfl⟩ rfl rfl rfl rfl (by decide) (Nat.le_of_ble_eq_true rfl) (dat dkX9_appendInput 24 rfl) ?_
    rintro _ _ ⟨rfl, rfl⟩
    refine ⟨_, (show Mrg _ _ (setm M 1 (vTx B0 (n + 12) (pf4 (pf4 (pf4 bs n a) (n + 4) b) (n + 8) d) t)) _ (setm M 1 (vTx B0 (n + 16) (pf4 (pf4 (pf4 (pf4 bs n a) (n + 4) b) (n + 8) d) (n + 12) f) t)) from Mrg_e (i := 0) (by decide) (by decide) setm_setm rfl), ?_⟩
    refine r_aload_n E (dat dkX9_appendInput 25 rfl) rfl rfl ?_
    refine q_getl E fl_X9_10 (dat dkX9_appendInput 26 rfl) rfl rfl rfl ?_
    refine r_iload E (dat dkX9_appendInput 27 rfl) rfl ?_
    refine r_callV (κ := 3) (μ := [1]) E (sp_X6_putFour l G B0 (n + 16) (nI t.1) t.2.1 t.2.2.1 t.2.2.2.1 t.2.2.2.2.1 t.2.2.2.2.2 (pf4 (pf4 (pf4 (pf4 bs n a) (n + 4) b) (n + 8) d) (n + 12) f) g _ rfl (by omega)) my_X6_putFour iv_X6_putFour ml_X9_99 (cm_of rfl) ⟨by decide, rfl, rfl⟩ rfl rfl rfl rfl (by decide) (Nat.le_of_ble_eq_true rfl) (dat dkX9_appendInput 28 rfl) ?_
    rintro _ _ ⟨rfl, rfl⟩
    refine ⟨_, (show Mrg _ _ (setm M 1 (vTx B0 (n + 16) (pf4 (pf4 (pf4 (pf4 bs n a) (n + 4) b) (n + 8) d) (n + 12) f) t)) _ (setm M 1 (vTx B0 (n + 20) (pf4 (pf4 (pf4 (pf4 (pf4 bs n a) (n + 4) b) (n + 8) d) (n + 12) f) (n + 16) g) t)) from Mrg_e (i := 0) (by decide) (by decide) setm_setm rfl), ?_⟩
    refine r_aload_n E (dat dkX9_appendInput 29 rfl) rfl rfl ?_
    refine q_getl E fl_X9_10 (dat dkX9_appendInput 30 rfl) rfl rfl rfl ?_
    refine q_getn E fl_X9_96 (dat dkX9_appendInput 31 rfl) rfl rfl rfl rfl ?_
    refine r_ireturn E (dat dkX9_appendInput 32 rfl) (by decide) (by decide) ?_
    exact Or.inl ⟨h13, rfl, rfl⟩
  ·
    refine r_iconst (v := -1) E (dat dkX9_appendInput 7 rfl) rfl ?_
    refine r_ireturn E (dat dkX9_appendInput 8 rfl) (by decide) (by decide) ?_
    exact Or.inr ⟨by omega, rfl, rfl⟩
