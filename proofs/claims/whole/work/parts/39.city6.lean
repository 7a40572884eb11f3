def sgI (x : Int32) : Int32 := if x ≤ 0 then 46 else if x ≤ 9 then ((48 + x).toUInt32 % 65536).toInt32 else 43
/-- the city with other bytes and another length in its output -/
def ouM (M : Mem) (bs : Nat → Int32) (k : Int32) : Mem := setm M 0 (sett (sett (M 0) 9 bs) 0 (upd (M 0 0) 12 k))
theorem ou_0 {M : Mem} {k : Int32} : setm M 0 (sett (M 0) 0 (upd (M 0 0) 12 k)) = ouM M (M 0 9) k := by
  unfold ouM
  congr 2
  funext t
  unfold sett
  split
  · rename_i h; rw [h]
  · rfl
theorem ou_ou {M : Mem} {b b2 : Nat → Int32} {k k2 : Int32} : ouM (ouM M b k) b2 k2 = ouM M b2 k2 := by
  unfold ouM
  rw [setm_setm, setm_s]
  congr 1
  funext t
  unfold sett
  split
  · funext j
    rw [if_pos rfl]
    unfold upd
    split <;> rfl
  · split
    · rfl
    · rfl
theorem ou_Mrg {N : Nat} {M M1 : Mem} {b b2 : Nat → Int32} {k k2 : Int32} (hN : 0 < N) (h1 : M1 = ouM (vw [] (ouM M b k)) b2 k2) : Mrg N [] (ouM M b k) M1 (ouM M b2 k2) := by
  rw [show ouM M b2 k2 = ouM (ouM M b k) b2 k2 from ou_ou.symm]
  exact Mrg_e (i := 0) (fun j _ h => h) hN rfl h1
theorem ou_put {M : Mem} {f : Nat → Int32} {k : Nat} (hk : M 0 0 12 = nI k) : setm (setm M 0 (sett (M 0) 9 f)) 0 (sett ((setm M 0 (sett (M 0) 9 f)) 0) 0 (upd ((setm M 0 (sett (M 0) 9 f)) 0 0) 12 ((setm M 0 (sett (M 0) 9 f)) 0 0 12 + 1))) = ouM M f (nI (k + 1)) := by
  rw [setm_setm]
  show setm M 0 (sett (sett (M 0) 9 f) 0 (upd (M 0 0) 12 (M 0 0 12 + 1))) = _
  rw [hk, nI_1]
  rfl
/-- i cells' signs behind one another -/
def woF (w lv : Nat → Int32) (b : Nat) (o : Nat → Int32) : Nat → (Nat → Int32) × Nat
  | 0 => (o, 0)
  | i + 1 => if lv (b + i) ≤ 0 then (upd (woF w lv b o i).1 (woF w lv b o i).2 (sgI (w (b + i))).toInt8.toInt32, (woF w lv b o i).2 + 1)
    else (upd (upd (woF w lv b o i).1 (woF w lv b o i).2 (sgI (w (b + i))).toInt8.toInt32) ((woF w lv b o i).2 + 1) (37 : Int32).toInt8.toInt32, (woF w lv b o i).2 + 1 + 1)
theorem woF_1 {w lv : Nat → Int32} {b i : Nat} {o : Nat → Int32} (h : lv (b + i) ≤ 0) : woF w lv b o (i + 1) = (upd (woF w lv b o i).1 (woF w lv b o i).2 (sgI (w (b + i))).toInt8.toInt32, (woF w lv b o i).2 + 1) := if_pos h
theorem woF_2 {w lv : Nat → Int32} {b i : Nat} {o : Nat → Int32} (h : ¬ lv (b + i) ≤ 0) : woF w lv b o (i + 1) = (upd (upd (woF w lv b o i).1 (woF w lv b o i).2 (sgI (w (b + i))).toInt8.toInt32) ((woF w lv b o i).2 + 1) (37 : Int32).toInt8.toInt32, (woF w lv b o i).2 + 1 + 1) := if_neg h
theorem woF_le {w lv : Nat → Int32} {b : Nat} {o : Nat → Int32} : ∀ i, (woF w lv b o i).2 ≤ 2 * i
  | 0 => Nat.le_refl 0
  | i + 1 => by
    have h := woF_le (w := w) (lv := lv) (b := b) (o := o) i
    by_cases h0 : lv (b + i) ≤ 0
    · rw [woF_1 h0]; show _ + 1 ≤ _; omega
    · rw [woF_2 h0]; show _ + 1 + 1 ≤ _; omega
theorem cell_lt {r i a b : Nat} (hr : r < a) (hi : i < b) : r * b + i < a * b := by
  have h := Nat.mul_le_mul_right b (show r + 1 ≤ a from hr)
  rw [Nat.succ_mul] at h
  omega
theorem sg_c {x : Int32} (h1 : ¬ x ≤ 0) (h2 : x ≤ 9) : narrow .char (.int ((48 + x).toUInt32 % 65536).toInt32) = .int ((48 + x).toUInt32 % 65536).toInt32 := by
  obtain ⟨j, hj, rfl⟩ := rg_ex (k := 9) (by decide) (Int32.le_of_lt (nle_lt h1)) h2
  exact (show ∀ j, j ≤ 9 → narrow .char (.int ((48 + nI j).toUInt32 % 65536).toInt32) = .int ((48 + nI j).toUInt32 % 65536).toInt32 by decide +kernel) j hj
theorem sg_nar {x : Int32} : narrow .char (.int (sgI x)) = .int (sgI x) := by
  unfold sgI
  split
  · decide
  · rename_i h1
    split
    · rename_i h2
      exact sg_c h1 h2
    · decide
def obI (M : Mem) (a : Int32) : Int32 := if a < 0 then -1 else if M 0 0 12 ≤ a then -1 else M 0 9 a.toNatClampNeg
def nbI (x : PP) (b : Nat) (d : Int32) : Int32 := if d < 0 then -1 else if x.2.2.2.2.2.1 b ≤ d then -1 else x.2.2.2.2.2.2.2.2 b d.toNatClampNeg
def leM (M : Mem) (a : Int32) : Mem := setm M 1 (sett (M 1) 0 (upd (M 1 0) 1 a))
def isM (M : Mem) (v : Int32) : Mem := setm M 0 (sett (M 0) 0 (upd (M 0 0) 11 v))
def pf4 (bs : Nat → Int32) (n : Nat) (x : Int32) : Nat → Int32 := upd (upd (upd (upd bs n ((x.toUInt32 >>> ((24 : Int32).toUInt32 &&& Int32.toUInt32 31)).toInt32.toInt8.toInt32)) (n + 1) ((x.toUInt32 >>> ((16 : Int32).toUInt32 &&& Int32.toUInt32 31)).toInt32.toInt8.toInt32)) (n + 2) ((x.toUInt32 >>> ((8 : Int32).toUInt32 &&& Int32.toUInt32 31)).toInt32.toInt8.toInt32)) (n + 3) (x.toInt8.toInt32)
def ap5 (bs : Nat → Int32) (n : Nat) (a b d f g : Int32) : Nat → Int32 := pf4 (pf4 (pf4 (pf4 (pf4 bs n a) (n + 4) b) (n + 8) d) (n + 12) f) (n + 16) g
set_option maxRecDepth 100000 in
set_option maxHeartbeats 4000000 in
theorem sp_X9_signOfWater (l : Launch) (G : GT) (a : Int32) (M : Mem)  : MC l G yX9_signOfWater cX9_signOfWater 1 (some .char) ({ frames := 0, cells := 0, slots := 0, locals := 0 } : Room) [] lk0 [iv a] (M) (fun r M2 => r = some (iv (sgI a)) ∧ M2 = M) := by
  refine MC.of RX9 [some (iv a)] 0 (by decide +kernel) rfl rfl rfl ?_
  intro pp ee ss mm aa bb me cd ad E
  refine r_iload_n E (dat dkX9_signOfWater 0 rfl) rfl rfl ?_
  refine r_if_gt (tgt := 7) E (dat dkX9_signOfWater 1 rfl) rfl (fun h1 => ?_) (fun h1 => ?_)
  ·
    refine r_iload_n E (dat dkX9_signOfWater 4 rfl) rfl rfl ?_
    refine r_bipush (v := 9) E (dat dkX9_signOfWater 5 rfl) rfl ?_
    refine r_icmp_gt (tgt := 21) E (dat dkX9_signOfWater 6 rfl) rfl (fun h10 => ?_) (fun h10 => ?_)
    ·
      refine r_bipush (v := 43) E (dat dkX9_signOfWater 12 rfl) rfl ?_
      refine r_zreturn E (dat dkX9_signOfWater 13 rfl) (by first | decide | exact sg_c (by first | exact h1 | exact Int32.not_le.mpr h1) (by first | exact h10 | exact Int32.not_lt.mp h10)) (by decide) (by decide) ?_
      refine ⟨?_, rfl⟩
      unfold sgI
      first
        | (rw [if_pos (by first | exact h1 | exact Int32.not_lt.mp h1)]; done)
        | (rw [if_neg (by first | exact h1 | exact Int32.not_le.mpr h1), if_neg (by first | exact h10 | exact Int32.not_le.mpr h10)]; done)
        | (rw [if_neg (by first | exact h1 | exact Int32.not_le.mpr h1), if_pos (by first | exact h10 | exact Int32.not_lt.mp h10)]; done)
    ·
      refine r_bipush (v := 48) E (dat dkX9_signOfWater 7 rfl) rfl ?_
      refine r_iload_n E (dat dkX9_signOfWater 8 rfl) rfl rfl ?_
      refine r_iadd E (dat dkX9_signOfWater 9 rfl) ?_
      refine r_i2c E (dat dkX9_signOfWater 10 rfl) ?_
      refine r_goto (tgt := 23) E (dat dkX9_signOfWater 11 rfl) rfl ?_
      refine r_zreturn E (dat dkX9_signOfWater 13 rfl) (by first | decide | exact sg_c (by first | exact h1 | exact Int32.not_le.mpr h1) (by first | exact h10 | exact Int32.not_lt.mp h10)) (by decide) (by decide) ?_
      refine ⟨?_, rfl⟩
      unfold sgI
      first
        | (rw [if_pos (by first | exact h1 | exact Int32.not_lt.mp h1)]; done)
        | (rw [if_neg (by first | exact h1 | exact Int32.not_le.mpr h1), if_neg (by first | exact h10 | exact Int32.not_le.mpr h10)]; done)
        | (rw [if_neg (by first | exact h1 | exact Int32.not_le.mpr h1), if_pos (by first | exact h10 | exact Int32.not_lt.mp h10)]; done)
  ·
    refine r_bipush (v := 46) E (dat dkX9_signOfWater 2 rfl) rfl ?_
    refine r_zreturn E (dat dkX9_signOfWater 3 rfl) (by decide) (by decide) (by decide) ?_
    refine ⟨?_, rfl⟩
    unfold sgI
    first
      | (rw [if_pos (by first | exact h1 | exact Int32.not_lt.mp h1)]; done)
      | (rw [if_neg (by first | exact h1 | exact Int32.not_le.mpr h1), if_neg (by first | exact h10 | exact Int32.not_le.mpr h10)]; done)
      | (rw [if_neg (by first | exact h1 | exact Int32.not_le.mpr h1), if_pos (by first | exact h10 | exact Int32.not_lt.mp h10)]; done)

set_option maxRecDepth 100000 in
set_option maxHeartbeats 4000000 in
theorem sp_X9_putOutput (l : Launch) (G : GT) (a : Int32) (M : Mem) (k : Nat) (hk : M 0 0 12 = nI k) (hk16 : k < 16) : MC l G yX9_putOutput cX9_putOutput 2 none ({ frames := 0, cells := 0, slots := 0, locals := 0 } : Room) KC lkC [rv 0 0, iv a] (M) (fun r M2 => r = none ∧ M2 = ouM M (upd (M 0 9) k a.toInt8.toInt32) (nI (k + 1))) := by
  refine MC.of RX9 [some (rv 0 0), some (iv a)] 0 (by decide +kernel) rfl rfl rfl ?_
  intro pp ee ss mm aa bb me cd ad E
  refine r_aload_n E (dat dkX9_putOutput 0 rfl) rfl rfl ?_
  refine q_getn E fl_X9_75 (dat dkX9_putOutput 1 rfl) rfl rfl rfl rfl ?_
  refine r_aload_n E (dat dkX9_putOutput 2 rfl) rfl rfl ?_
  refine q_geta E fl_X9_57 (dat dkX9_putOutput 3 rfl) rfl rfl rfl ?_
  refine r_alen E (dat dkX9_putOutput 4 rfl) rfl (by decide) rfl rfl ?_
  refine q_icmp_ge (tgt := 33) E (dat dkX9_putOutput 5 rfl) rfl hk (b := 16) rfl (by omega) (by omega) (fun h9 => ?_) (fun h9 => ?_)
  ·
    omega
  ·
    refine r_aload_n E (dat dkX9_putOutput 6 rfl) rfl rfl ?_
    refine q_geta E fl_X9_57 (dat dkX9_putOutput 7 rfl) rfl rfl rfl ?_
    refine r_aload_n E (dat dkX9_putOutput 8 rfl) rfl rfl ?_
    refine q_getn E fl_X9_75 (dat dkX9_putOutput 9 rfl) rfl rfl rfl rfl ?_
    refine r_iload_n E (dat dkX9_putOutput 10 rfl) rfl rfl ?_
    refine r_i2b E (dat dkX9_putOutput 11 rfl) ?_
    refine q_bast E (dat dkX9_putOutput 12 rfl) rfl rfl (by decide) rfl (fun _ => rfl) hk (by omega) (z := a.toInt8.toInt32) (pk_vb _) ?_
    refine r_aload_n E (dat dkX9_putOutput 13 rfl) rfl rfl ?_
    refine r_dup E (dat dkX9_putOutput 14 rfl) rfl ?_
    refine q_getn E fl_X9_75 (dat dkX9_putOutput 15 rfl) rfl rfl rfl rfl ?_
    refine r_iconst (v := 1) E (dat dkX9_putOutput 16 rfl) rfl ?_
    refine r_iadd E (dat dkX9_putOutput 17 rfl) ?_
    refine q_putn E ft_X9_75 (dat dkX9_putOutput 18 rfl) rfl rfl rfl rfl ?_
    refine r_vreturn E (dat dkX9_putOutput 19 rfl) (by decide) (by decide) ?_
    exact ⟨rfl, ou_put hk⟩

set_option maxRecDepth 100000 in
set_option maxHeartbeats 4000000 in
theorem sp_X9_outputByte (l : Launch) (G : GT) (a : Int32) (M : Mem) (k : Nat) (hk : M 0 0 12 = nI k) (hk16 : k ≤ 16) : MC l G yX9_outputByte cX9_outputByte 2 (some .int) ({ frames := 0, cells := 0, slots := 0, locals := 0 } : Room) KC lkC [rv 0 0, iv a] (M) (fun r M2 => r = some (iv (obI M a)) ∧ M2 = M) := by
  refine MC.of RX9 [some (rv 0 0), some (iv a)] 0 (by decide +kernel) rfl rfl rfl ?_
  intro pp ee ss mm aa bb me cd ad E
  refine r_iload_n E (dat dkX9_outputByte 0 rfl) rfl rfl ?_
  refine r_if_lt (tgt := 12) E (dat dkX9_outputByte 1 rfl) rfl (fun h1 => ?_) (fun h1 => ?_)
  ·
    refine r_iconst (v := -1) E (dat dkX9_outputByte 6 rfl) rfl ?_
    refine r_goto (tgt := 22) E (dat dkX9_outputByte 7 rfl) rfl ?_
    refine r_ireturn E (dat dkX9_outputByte 12 rfl) (by decide) (by decide) ?_
    refine ⟨?_, rfl⟩
    unfold obI
    first
      | (rw [if_pos h1]; done)
      | (rw [if_neg h1, if_pos (by first | exact h9 | exact nlt_le h9)]; done)
      | (rw [if_neg h1, if_neg (by first | exact h9 | exact Int32.not_le.mpr h9), nI_clamp (by omega)]; first | done | rfl)
  ·
    refine r_iload_n E (dat dkX9_outputByte 2 rfl) rfl rfl ?_
    refine r_aload_n E (dat dkX9_outputByte 3 rfl) rfl rfl ?_
    refine q_getn E fl_X9_75 (dat dkX9_outputByte 4 rfl) rfl rfl rfl rfl ?_
    refine r_icmp_lt (tgt := 16) E (dat dkX9_outputByte 5 rfl) rfl (fun h9 => ?_) (fun h9 => ?_)
    ·
      obtain ⟨j, hj, rfl⟩ := nI_of (show ¬ a < 0 from h1)
      have hjk : j < k := (nI_ltI hj (by omega)).mp (hk ▸ (by first | exact h9 | exact nle_lt h9))
      refine r_aload_n E (dat dkX9_outputByte 8 rfl) rfl rfl ?_
      refine q_geta E fl_X9_57 (dat dkX9_outputByte 9 rfl) rfl rfl rfl ?_
      refine r_iload_n E (dat dkX9_outputByte 10 rfl) rfl rfl ?_
      refine q_bald E (dat dkX9_outputByte 11 rfl) rfl rfl (by decide) rfl rfl (by omega) ?_
      refine r_ireturn E (dat dkX9_outputByte 12 rfl) (by decide) (by decide) ?_
      refine ⟨?_, rfl⟩
      unfold obI
      first
        | (rw [if_pos h1]; done)
        | (rw [if_neg h1, if_pos (by first | exact h9 | exact nlt_le h9)]; done)
        | (rw [if_neg h1, if_neg (by first | exact h9 | exact Int32.not_le.mpr h9), nI_clamp (by omega)]; first | done | rfl)
    ·
      refine r_iconst (v := -1) E (dat dkX9_outputByte 6 rfl) rfl ?_
      refine r_goto (tgt := 22) E (dat dkX9_outputByte 7 rfl) rfl ?_
      refine r_ireturn E (dat dkX9_outputByte 12 rfl) (by decide) (by decide) ?_
      refine ⟨?_, rfl⟩
      unfold obI
      first
        | (rw [if_pos h1]; done)
        | (rw [if_neg h1, if_pos (by first | exact h9 | exact nlt_le h9)]; done)
        | (rw [if_neg h1, if_neg (by first | exact h9 | exact Int32.not_le.mpr h9), nI_clamp (by omega)]; first | done | rfl)

set_option maxRecDepth 100000 in
set_option maxHeartbeats 4000000 in
theorem sp_X9_writeRow (l : Launch) (hst : l.stackTraces = false) (G : GT) (BP : Nat → Nat → Int32) (be nm : Nat → Int32) (x : PP) (q : Nat) (a : Int32) (M : Mem) (hpn : (M 0 0 9).toNatClampNeg = q) (hq : q = 17 ∨ q = 18) (hP : M q = vPx BP be nm x) (hx : PIv x)  : MCx l G yX9_writeRow cX9_writeRow 4 (some .int) ({ frames := 6, cells := 4, slots := 24, locals := 82 } : Room) KC lkC [rv 0 0, iv a] (M) (fun r M2 => ∃ r9, r9 < x.1.1 ∧ a = nI r9 ∧ M2 = ouM M (woF (M 3 1) (M 3 2) (r9 * x.1.2.1) (M 0 9) x.1.2.1).1 (nI (woF (M 3 1) (M 3 2) (r9 * x.1.2.1) (M 0 9) x.1.2.1).2) ∧ r = some (iv (nI (woF (M 3 1) (M 3 2) (r9 * x.1.2.1) (M 0 9) x.1.2.1).2))) (fun E M2 => E = oobN ∧ M2 = M ∧ ¬ ∃ r9, r9 < x.1.1 ∧ a = nI r9) := by
  refine MCx.of RX9 [some (rv 0 0), some (iv a), none, none] 2 (by decide +kernel) rfl rfl rfl ?_
  intro pp ee ss mm aa bb me cd ad E hnt
  rcases hq with rfl | rfl
  ·
    have h_ro : M 17 0 7 = nI x.1.1 := by rw [hP]; rfl
    have h_co : M 17 0 8 = nI x.1.2.1 := by rw [hP]; rfl
    have h_ce : M 17 0 9 = nI x.1.2.2 := by rw [hP]; rfl
    have h_bc : M 17 0 10 = nI x.2.2.2.2.1 := by rw [hP]; rfl
    have h_fr : M 17 0 11 = x.2.2.2.1 := by rw [hP]; rfl
    have h_he : M 17 1 = x.2.1 := by rw [hP]; rfl
    have h_gu : M 17 2 = x.2.2.1 := by rw [hP]; rfl
    have h_be : M 17 3 = be := by rw [hP]; rfl
    have h_nl : M 17 5 = x.2.2.2.2.2.1 := by rw [hP]; rfl
    have h_bh : M 17 6 = x.2.2.2.2.2.2.2.1 := by rw [hP]; rfl
    have h_fp : M 17 7 = x.2.2.2.2.2.2.1 := by rw [hP]; rfl
    have h_n0 : M 17 8 = x.2.2.2.2.2.2.2.2 0 := by rw [hP]; rfl
    have h_n1 : M 17 9 = x.2.2.2.2.2.2.2.2 1 := by rw [hP]; rfl
    have h_n2 : M 17 10 = x.2.2.2.2.2.2.2.2 2 := by rw [hP]; rfl
    have h_n3 : M 17 11 = x.2.2.2.2.2.2.2.2 3 := by rw [hP]; rfl
    have hn64 := (PIv_z hx).1
    
    refine r_iload_n E (dat dkX9_writeRow 0 rfl) rfl rfl ?_
    refine r_if_lt (tgt := 15) E (dat dkX9_writeRow 1 rfl) rfl (fun h1 => ?_) (fun h1 => ?_)
    ·
      refine r_throw (i := 11) E hnt hst xw_oob (by decide) rfl rfl (dat dkX9_writeRow 7 rfl) (dat dkX9_writeRow 8 rfl) (dat dkX9_writeRow 9 rfl) (dat dkX9_writeRow 10 rfl) (dat dkX9_writeRow 11 rfl) ⟨by decide, (Nat.le_of_ble_eq_true rfl), by decide, by decide⟩ (by decide) (by decide) ?_
      refine ⟨rfl, rfl, ?_⟩
      have h8 := hx.1
      rintro ⟨c, hc, rfl⟩
      first
        | exact nI_pos (by omega) h1
        | exact h12 ((nI_ltI (by omega) (by omega)).mpr hc)
        | exact absurd ((nI_ltI (a := c) (by omega) (by omega)).mpr hc) (Int32.not_lt.mpr h12)
    ·
      refine r_iload_n E (dat dkX9_writeRow 2 rfl) rfl rfl ?_
      refine r_aload_n E (dat dkX9_writeRow 3 rfl) rfl rfl ?_
      refine q_getd E fl_X9_64 (dat dkX9_writeRow 4 rfl) rfl rfl rfl hpn ?_
      refine q_getn E fl_X9_135 (dat dkX9_writeRow 5 rfl) rfl rfl rfl h_ro ?_
      refine r_icmp_lt (tgt := 26) E (dat dkX9_writeRow 6 rfl) rfl (fun h12 => ?_) (fun h12 => ?_)
      ·
        obtain ⟨r9, hr9, rfl⟩ := nI_of (show ¬ a < 0 by first | exact h1 | exact Int32.not_lt.mpr h1)
        have h8 := hx.1
        have h88 := hx.2.1
        have hrr : r9 < x.1.1 := (nI_ltI hr9 (by omega)).mp h12
        refine r_aload_n E (dat dkX9_writeRow 12 rfl) rfl rfl ?_
        refine r_iconst (v := 0) E (dat dkX9_writeRow 13 rfl) rfl ?_
        refine q_putn E ft_X9_75 (dat dkX9_writeRow 14 rfl) rfl rfl rfl rfl ?_
        rw [ou_0]
        refine r_iconst (v := 0) E (dat dkX9_writeRow 15 rfl) rfl ?_
        refine r_istore_2 E (dat dkX9_writeRow 16 rfl) rfl rfl ?_
        refine r_for (x.1.2.1) (fun _ => True) (fun i => (ouM M (woF (M 3 1) (M 3 2) (r9 * x.1.2.1) (M 0 9) i).1 (nI (woF (M 3 1) (M 3 2) (r9 * x.1.2.1) (M 0 9) i).2))) (fun i => [some (rv 0 0), some (iv (nI r9)), some (iv (nI i)), none]) trivial rfl rfl ?_ ?_
        · intro i hi hI kk
          have hkl := woF_le (w := M 3 1) (lv := M 3 2) (b := r9 * x.1.2.1) (o := M 0 9) i
          refine r_iload_n E (dat dkX9_writeRow 17 rfl) rfl rfl ?_
          refine r_aload_n E (dat dkX9_writeRow 18 rfl) rfl rfl ?_
          refine q_getd E fl_X9_64 (dat dkX9_writeRow 19 rfl) rfl rfl rfl hpn ?_
          refine q_getn E fl_X9_132 (dat dkX9_writeRow 20 rfl) rfl rfl rfl h_co ?_
          refine q_icmp_ge (tgt := 96) E (dat dkX9_writeRow 21 rfl) rfl rfl rfl (by omega) (by omega) (fun h41 => ?_) (fun h41 => ?_)
          ·
            omega
          ·
            refine r_iload_n E (dat dkX9_writeRow 22 rfl) rfl rfl ?_
            refine r_aload_n E (dat dkX9_writeRow 23 rfl) rfl rfl ?_
            refine q_getd E fl_X9_64 (dat dkX9_writeRow 24 rfl) rfl rfl rfl hpn ?_
            refine q_getn E fl_X9_132 (dat dkX9_writeRow 25 rfl) rfl rfl rfl h_co ?_
            refine r_imul E (dat dkX9_writeRow 26 rfl) ?_
            refine r_iload_n E (dat dkX9_writeRow 27 rfl) rfl rfl ?_
            refine r_iadd E (dat dkX9_writeRow 28 rfl) ?_
            rw [pk_mul, nI_add]
            have hcl : r9 * x.1.2.1 + i < x.1.2.2 := by rw [hx.2.2.1]; exact cell_lt hrr hi
            refine r_istore_3 E (dat dkX9_writeRow 29 rfl) rfl rfl ?_
            refine r_aload_n E (dat dkX9_writeRow 30 rfl) rfl rfl ?_
            refine r_aload_n E (dat dkX9_writeRow 31 rfl) rfl rfl ?_
            refine q_getl E fl_X9_26 (dat dkX9_writeRow 32 rfl) rfl rfl rfl ?_
            refine q_geta E fl_X9_148 (dat dkX9_writeRow 33 rfl) rfl rfl rfl ?_
            refine r_iload_n E (dat dkX9_writeRow 34 rfl) rfl rfl ?_
            refine q_iald E (dat dkX9_writeRow 35 rfl) rfl rfl (by decide) rfl rfl (by omega) ?_
            refine r_callS (μ := []) E (sp_X9_signOfWater l G (M 3 1 (r9 * x.1.2.1 + i)) _) my_X9_signOfWater is_X9_signOfWater ml_X9_315 cm_nil rfl rfl (by decide) (Nat.le_of_ble_eq_true rfl) (dat dkX9_writeRow 36 rfl) ?_
            rintro _ _ ⟨rfl, hM⟩
            refine ⟨_, Mrg_z hM, ?_⟩
            clear hM
            refine r_callV (κ := 8) (μ := []) E (sp_X9_putOutput l G (sgI (M 3 1 (r9 * x.1.2.1 + i))) _ ((woF (M 3 1) (M 3 2) (r9 * x.1.2.1) (M 0 9) i).2) rfl (by omega)) my_X9_putOutput iv_X9_putOutput ml_X9_319 cm_id ⟨by decide, rfl, rfl⟩ rfl rfl rfl rfl (by decide) (Nat.le_of_ble_eq_true rfl) (dat dkX9_writeRow 37 rfl) ?_
            rintro _ _ ⟨rfl, rfl⟩
            refine ⟨_, (show Mrg _ _ (ouM M (woF (M 3 1) (M 3 2) (r9 * x.1.2.1) (M 0 9) i).1 (nI (woF (M 3 1) (M 3 2) (r9 * x.1.2.1) (M 0 9) i).2)) _ (ouM M (upd (woF (M 3 1) (M 3 2) (r9 * x.1.2.1) (M 0 9) i).1 (woF (M 3 1) (M 3 2) (r9 * x.1.2.1) (M 0 9) i).2 (sgI (M 3 1 (r9 * x.1.2.1 + i))).toInt8.toInt32) (nI ((woF (M 3 1) (M 3 2) (r9 * x.1.2.1) (M 0 9) i).2 + 1))) from ou_Mrg (by decide) rfl), ?_⟩
            refine r_aload_n E (dat dkX9_writeRow 38 rfl) rfl rfl ?_
            refine q_getl E fl_X9_26 (dat dkX9_writeRow 39 rfl) rfl rfl rfl ?_
            refine q_geta E fl_X9_151 (dat dkX9_writeRow 40 rfl) rfl rfl rfl ?_
            refine r_iload_n E (dat dkX9_writeRow 41 rfl) rfl rfl ?_
            refine q_iald E (dat dkX9_writeRow 42 rfl) rfl rfl (by decide) rfl rfl (by omega) ?_
            refine r_if_le (tgt := 90) E (dat dkX9_writeRow 43 rfl) rfl (fun h81 => ?_) (fun h81 => ?_)
            ·
              refine q_iinc_2 E (dat dkX9_writeRow 47 rfl) rfl rfl ?_
              refine r_goto (tgt := 33) E (dat dkX9_writeRow 48 rfl) rfl ?_
              first
                | (rw [woF_1 (show M 3 2 (r9 * x.1.2.1 + i) ≤ 0 from h81)] at kk; refine r_back rfl ?_ (kk trivial); exact (And.intro rfl (And.intro rfl (And.intro rfl trivial))))
                | (rw [woF_2 (show ¬ M 3 2 (r9 * x.1.2.1 + i) ≤ 0 from by first | exact h81 | exact Int32.not_le.mpr h81)] at kk; refine r_back rfl ?_ (kk trivial); exact (And.intro rfl (And.intro rfl (And.intro rfl trivial))))
            ·
              refine r_aload_n E (dat dkX9_writeRow 44 rfl) rfl rfl ?_
              refine r_bipush (v := 37) E (dat dkX9_writeRow 45 rfl) rfl ?_
              refine r_callV (κ := 8) (μ := []) E (sp_X9_putOutput l G (37) _ ((woF (M 3 1) (M 3 2) (r9 * x.1.2.1) (M 0 9) i).2 + 1) rfl (by omega)) my_X9_putOutput iv_X9_putOutput ml_X9_319 cm_id ⟨by decide, rfl, rfl⟩ rfl rfl rfl rfl (by decide) (Nat.le_of_ble_eq_true rfl) (dat dkX9_writeRow 46 rfl) ?_
              rintro _ _ ⟨rfl, rfl⟩
              refine ⟨_, (show Mrg _ _ (ouM M (upd (woF (M 3 1) (M 3 2) (r9 * x.1.2.1) (M 0 9) i).1 (woF (M 3 1) (M 3 2) (r9 * x.1.2.1) (M 0 9) i).2 (sgI (M 3 1 (r9 * x.1.2.1 + i))).toInt8.toInt32) (nI ((woF (M 3 1) (M 3 2) (r9 * x.1.2.1) (M 0 9) i).2 + 1))) _ (ouM M (upd (upd (woF (M 3 1) (M 3 2) (r9 * x.1.2.1) (M 0 9) i).1 (woF (M 3 1) (M 3 2) (r9 * x.1.2.1) (M 0 9) i).2 (sgI (M 3 1 (r9 * x.1.2.1 + i))).toInt8.toInt32) ((woF (M 3 1) (M 3 2) (r9 * x.1.2.1) (M 0 9) i).2 + 1) (37 : Int32).toInt8.toInt32) (nI ((woF (M 3 1) (M 3 2) (r9 * x.1.2.1) (M 0 9) i).2 + 1 + 1))) from ou_Mrg (by decide) rfl), ?_⟩
              refine q_iinc_2 E (dat dkX9_writeRow 47 rfl) rfl rfl ?_
              refine r_goto (tgt := 33) E (dat dkX9_writeRow 48 rfl) rfl ?_
              first
                | (rw [woF_1 (show M 3 2 (r9 * x.1.2.1 + i) ≤ 0 from h81)] at kk; refine r_back rfl ?_ (kk trivial); exact (And.intro rfl (And.intro rfl (And.intro rfl trivial))))
                | (rw [woF_2 (show ¬ M 3 2 (r9 * x.1.2.1 + i) ≤ 0 from by first | exact h81 | exact Int32.not_le.mpr h81)] at kk; refine r_back rfl ?_ (kk trivial); exact (And.intro rfl (And.intro rfl (And.intro rfl trivial))))
        · intro hI
          refine r_iload_n E (dat dkX9_writeRow 17 rfl) rfl rfl ?_
          refine r_aload_n E (dat dkX9_writeRow 18 rfl) rfl rfl ?_
          refine q_getd E fl_X9_64 (dat dkX9_writeRow 19 rfl) rfl rfl rfl hpn ?_
          refine q_getn E fl_X9_132 (dat dkX9_writeRow 20 rfl) rfl rfl rfl h_co ?_
          refine q_icmp_ge (tgt := 96) E (dat dkX9_writeRow 21 rfl) rfl rfl rfl (by omega) (by omega) (fun h41 => ?_) (fun h41 => ?_)
          ·
            refine r_aload_n E (dat dkX9_writeRow 49 rfl) rfl rfl ?_
            refine q_getn E fl_X9_75 (dat dkX9_writeRow 50 rfl) rfl rfl rfl rfl ?_
            refine r_xq ?_
            refine r_ireturn E (dat dkX9_writeRow 51 rfl) (by decide) (by decide) ?_
            exact ⟨r9, hrr, rfl, rfl, rfl⟩
          ·
            omega
      ·
        refine r_throw (i := 11) E hnt hst xw_oob (by decide) rfl rfl (dat dkX9_writeRow 7 rfl) (dat dkX9_writeRow 8 rfl) (dat dkX9_writeRow 9 rfl) (dat dkX9_writeRow 10 rfl) (dat dkX9_writeRow 11 rfl) ⟨by decide, (Nat.le_of_ble_eq_true rfl), by decide, by decide⟩ (by decide) (by decide) ?_
        refine ⟨rfl, rfl, ?_⟩
        have h8 := hx.1
        rintro ⟨c, hc, rfl⟩
        first
          | exact nI_pos (by omega) h1
          | exact h12 ((nI_ltI (by omega) (by omega)).mpr hc)
          | exact absurd ((nI_ltI (a := c) (by omega) (by omega)).mpr hc) (Int32.not_lt.mpr h12)
  ·
    have h_ro : M 18 0 7 = nI x.1.1 := by rw [hP]; rfl
    have h_co : M 18 0 8 = nI x.1.2.1 := by rw [hP]; rfl
    have h_ce : M 18 0 9 = nI x.1.2.2 := by rw [hP]; rfl
    have h_bc : M 18 0 10 = nI x.2.2.2.2.1 := by rw [hP]; rfl
    have h_fr : M 18 0 11 = x.2.2.2.1 := by rw [hP]; rfl
    have h_he : M 18 1 = x.2.1 := by rw [hP]; rfl
    have h_gu : M 18 2 = x.2.2.1 := by rw [hP]; rfl
    have h_be : M 18 3 = be := by rw [hP]; rfl
    have h_nl : M 18 5 = x.2.2.2.2.2.1 := by rw [hP]; rfl
    have h_bh : M 18 6 = x.2.2.2.2.2.2.2.1 := by rw [hP]; rfl
    have h_fp : M 18 7 = x.2.2.2.2.2.2.1 := by rw [hP]; rfl
    have h_n0 : M 18 8 = x.2.2.2.2.2.2.2.2 0 := by rw [hP]; rfl
    have h_n1 : M 18 9 = x.2.2.2.2.2.2.2.2 1 := by rw [hP]; rfl
    have h_n2 : M 18 10 = x.2.2.2.2.2.2.2.2 2 := by rw [hP]; rfl
    have h_n3 : M 18 11 = x.2.2.2.2.2.2.2.2 3 := by rw [hP]; rfl
    have hn64 := (PIv_z hx).1
    
    refine r_iload_n E (dat dkX9_writeRow 0 rfl) rfl rfl ?_
    refine r_if_lt (tgt := 15) E (dat dkX9_writeRow 1 rfl) rfl (fun h1 => ?_) (fun h1 => ?_)
    ·
      refine r_throw (i := 11) E hnt hst xw_oob (by decide) rfl rfl (dat dkX9_writeRow 7 rfl) (dat dkX9_writeRow 8 rfl) (dat dkX9_writeRow 9 rfl) (dat dkX9_writeRow 10 rfl) (dat dkX9_writeRow 11 rfl) ⟨by decide, (Nat.le_of_ble_eq_true rfl), by decide, by decide⟩ (by decide) (by decide) ?_
      refine ⟨rfl, rfl, ?_⟩
      have h8 := hx.1
      rintro ⟨c, hc, rfl⟩
      first
        | exact nI_pos (by omega) h1
        | exact h12 ((nI_ltI (by omega) (by omega)).mpr hc)
        | exact absurd ((nI_ltI (a := c) (by omega) (by omega)).mpr hc) (Int32.not_lt.mpr h12)
    ·
      refine r_iload_n E (dat dkX9_writeRow 2 rfl) rfl rfl ?_
      refine r_aload_n E (dat dkX9_writeRow 3 rfl) rfl rfl ?_
      refine q_getd E fl_X9_64 (dat dkX9_writeRow 4 rfl) rfl rfl rfl hpn ?_
      refine q_getn E fl_X9_135 (dat dkX9_writeRow 5 rfl) rfl rfl rfl h_ro ?_
      refine r_icmp_lt (tgt := 26) E (dat dkX9_writeRow 6 rfl) rfl (fun h12 => ?_) (fun h12 => ?_)
      ·
        obtain ⟨r9, hr9, rfl⟩ := nI_of (show ¬ a < 0 by first | exact h1 | exact Int32.not_lt.mpr h1)
        have h8 := hx.1
        have h88 := hx.2.1
        have hrr : r9 < x.1.1 := (nI_ltI hr9 (by omega)).mp h12
        refine r_aload_n E (dat dkX9_writeRow 12 rfl) rfl rfl ?_
        refine r_iconst (v := 0) E (dat dkX9_writeRow 13 rfl) rfl ?_
        refine q_putn E ft_X9_75 (dat dkX9_writeRow 14 rfl) rfl rfl rfl rfl ?_
        rw [ou_0]
        refine r_iconst (v := 0) E (dat dkX9_writeRow 15 rfl) rfl ?_
        refine r_istore_2 E (dat dkX9_writeRow 16 rfl) rfl rfl ?_
        refine r_for (x.1.2.1) (fun _ => True) (fun i => (ouM M (woF (M 3 1) (M 3 2) (r9 * x.1.2.1) (M 0 9) i).1 (nI (woF (M 3 1) (M 3 2) (r9 * x.1.2.1) (M 0 9) i).2))) (fun i => [some (rv 0 0), some (iv (nI r9)), some (iv (nI i)), none]) trivial rfl rfl ?_ ?_
        · intro i hi hI kk
          have hkl := woF_le (w := M 3 1) (lv := M 3 2) (b := r9 * x.1.2.1) (o := M 0 9) i
          refine r_iload_n E (dat dkX9_writeRow 17 rfl) rfl rfl ?_
          refine r_aload_n E (dat dkX9_writeRow 18 rfl) rfl rfl ?_
          refine q_getd E fl_X9_64 (dat dkX9_writeRow 19 rfl) rfl rfl rfl hpn ?_
          refine q_getn E fl_X9_132 (dat dkX9_writeRow 20 rfl) rfl rfl rfl h_co ?_
          refine q_icmp_ge (tgt := 96) E (dat dkX9_writeRow 21 rfl) rfl rfl rfl (by omega) (by omega) (fun h41 => ?_) (fun h41 => ?_)
          ·
            omega
          ·
            refine r_iload_n E (dat dkX9_writeRow 22 rfl) rfl rfl ?_
            refine r_aload_n E (dat dkX9_writeRow 23 rfl) rfl rfl ?_
            refine q_getd E fl_X9_64 (dat dkX9_writeRow 24 rfl) rfl rfl rfl hpn ?_
            refine q_getn E fl_X9_132 (dat dkX9_writeRow 25 rfl) rfl rfl rfl h_co ?_
            refine r_imul E (dat dkX9_writeRow 26 rfl) ?_
            refine r_iload_n E (dat dkX9_writeRow 27 rfl) rfl rfl ?_
            refine r_iadd E (dat dkX9_writeRow 28 rfl) ?_
            rw [pk_mul, nI_add]
            have hcl : r9 * x.1.2.1 + i < x.1.2.2 := by rw [hx.2.2.1]; exact cell_lt hrr hi
            refine r_istore_3 E (dat dkX9_writeRow 29 rfl) rfl rfl ?_
            refine r_aload_n E (dat dkX9_writeRow 30 rfl) rfl rfl ?_
            refine r_aload_n E (dat dkX9_writeRow 31 rfl) rfl rfl ?_
            refine q_getl E fl_X9_26 (dat dkX9_writeRow 32 rfl) rfl rfl rfl ?_
            refine q_geta E fl_X9_148 (dat dkX9_writeRow 33 rfl) rfl rfl rfl ?_
            refine r_iload_n E (dat dkX9_writeRow 34 rfl) rfl rfl ?_
            refine q_iald E (dat dkX9_writeRow 35 rfl) rfl rfl (by decide) rfl rfl (by omega) ?_
            refine r_callS (μ := []) E (sp_X9_signOfWater l G (M 3 1 (r9 * x.1.2.1 + i)) _) my_X9_signOfWater is_X9_signOfWater ml_X9_315 cm_nil rfl rfl (by decide) (Nat.le_of_ble_eq_true rfl) (dat dkX9_writeRow 36 rfl) ?_
            rintro _ _ ⟨rfl, hM⟩
            refine ⟨_, Mrg_z hM, ?_⟩
            clear hM
            refine r_callV (κ := 8) (μ := []) E (sp_X9_putOutput l G (sgI (M 3 1 (r9 * x.1.2.1 + i))) _ ((woF (M 3 1) (M 3 2) (r9 * x.1.2.1) (M 0 9) i).2) rfl (by omega)) my_X9_putOutput iv_X9_putOutput ml_X9_319 cm_id ⟨by decide, rfl, rfl⟩ rfl rfl rfl rfl (by decide) (Nat.le_of_ble_eq_true rfl) (dat dkX9_writeRow 37 rfl) ?_
            rintro _ _ ⟨rfl, rfl⟩
            refine ⟨_, (show Mrg _ _ (ouM M (woF (M 3 1) (M 3 2) (r9 * x.1.2.1) (M 0 9) i).1 (nI (woF (M 3 1) (M 3 2) (r9 * x.1.2.1) (M 0 9) i).2)) _ (ouM M (upd (woF (M 3 1) (M 3 2) (r9 * x.1.2.1) (M 0 9) i).1 (woF (M 3 1) (M 3 2) (r9 * x.1.2.1) (M 0 9) i).2 (sgI (M 3 1 (r9 * x.1.2.1 + i))).toInt8.toInt32) (nI ((woF (M 3 1) (M 3 2) (r9 * x.1.2.1) (M 0 9) i).2 + 1))) from ou_Mrg (by decide) rfl), ?_⟩
            refine r_aload_n E (dat dkX9_writeRow 38 rfl) rfl rfl ?_
            refine q_getl E fl_X9_26 (dat dkX9_writeRow 39 rfl) rfl rfl rfl ?_
            refine q_geta E fl_X9_151 (dat dkX9_writeRow 40 rfl) rfl rfl rfl ?_
            refine r_iload_n E (dat dkX9_writeRow 41 rfl) rfl rfl ?_
            refine q_iald E (dat dkX9_writeRow 42 rfl) rfl rfl (by decide) rfl rfl (by omega) ?_
            refine r_if_le (tgt := 90) E (dat dkX9_writeRow 43 rfl) rfl (fun h81 => ?_) (fun h81 => ?_)
            ·
              refine q_iinc_2 E (dat dkX9_writeRow 47 rfl) rfl rfl ?_
              refine r_goto (tgt := 33) E (dat dkX9_writeRow 48 rfl) rfl ?_
              first
                | (rw [woF_1 (show M 3 2 (r9 * x.1.2.1 + i) ≤ 0 from h81)] at kk; refine r_back rfl ?_ (kk trivial); exact (And.intro rfl (And.intro rfl (And.intro rfl trivial))))
                | (rw [woF_2 (show ¬ M 3 2 (r9 * x.1.2.1 + i) ≤ 0 from by first | exact h81 | exact Int32.not_le.mpr h81)] at kk; refine r_back rfl ?_ (kk trivial); exact (And.intro rfl (And.intro rfl (And.intro rfl trivial))))
            ·
              refine r_aload_n E (dat dkX9_writeRow 44 rfl) rfl rfl ?_
              refine r_bipush (v := 37) E (dat dkX9_writeRow 45 rfl) rfl ?_
              refine r_callV (κ := 8) (μ := []) E (sp_X9_putOutput l G (37) _ ((woF (M 3 1) (M 3 2) (r9 * x.1.2.1) (M 0 9) i).2 + 1) rfl (by omega)) my_X9_putOutput iv_X9_putOutput ml_X9_319 cm_id ⟨by decide, rfl, rfl⟩ rfl rfl rfl rfl (by decide) (Nat.le_of_ble_eq_true rfl) (dat dkX9_writeRow 46 rfl) ?_
              rintro _ _ ⟨rfl, rfl⟩
              refine ⟨_, (show Mrg _ _ (ouM M (upd (woF (M 3 1) (M 3 2) (r9 * x.1.2.1) (M 0 9) i).1 (woF (M 3 1) (M 3 2) (r9 * x.1.2.1) (M 0 9) i).2 (sgI (M 3 1 (r9 * x.1.2.1 + i))).toInt8.toInt32) (nI ((woF (M 3 1) (M 3 2) (r9 * x.1.2.1) (M 0 9) i).2 + 1))) _ (ouM M (upd (upd (woF (M 3 1) (M 3 2) (r9 * x.1.2.1) (M 0 9) i).1 (woF (M 3 1) (M 3 2) (r9 * x.1.2.1) (M 0 9) i).2 (sgI (M 3 1 (r9 * x.1.2.1 + i))).toInt8.toInt32) ((woF (M 3 1) (M 3 2) (r9 * x.1.2.1) (M 0 9) i).2 + 1) (37 : Int32).toInt8.toInt32) (nI ((woF (M 3 1) (M 3 2) (r9 * x.1.2.1) (M 0 9) i).2 + 1 + 1))) from ou_Mrg (by decide) rfl), ?_⟩
              refine q_iinc_2 E (dat dkX9_writeRow 47 rfl) rfl rfl ?_
              refine r_goto (tgt := 33) E (dat dkX9_writeRow 48 rfl) rfl ?_
              first
                | (rw [woF_1 (show M 3 2 (r9 * x.1.2.1 + i) ≤ 0 from h81)] at kk; refine r_back rfl ?_ (kk trivial); exact (And.intro rfl (And.intro rfl (And.intro rfl trivial))))
                | (rw [woF_2 (show ¬ M 3 2 (r9 * x.1.2.1 + i) ≤ 0 from by first | exact h81 | exact Int32.not_le.mpr h81)] at kk; refine r_back rfl ?_ (kk trivial); exact (And.intro rfl (And.intro rfl (And.intro rfl trivial))))
        · intro hI
          refine r_iload_n E (dat dkX9_writeRow 17 rfl) rfl rfl ?_
          refine r_aload_n E (dat dkX9_writeRow 18 rfl) rfl rfl ?_
          refine q_getd E fl_X9_64 (dat dkX9_writeRow 19 rfl) rfl rfl rfl hpn ?_
          refine q_getn E fl_X9_132 (dat dkX9_writeRow 20 rfl) rfl rfl rfl h_co ?_
          refine q_icmp_ge (tgt := 96) E (dat dkX9_writeRow 21 rfl) rfl rfl rfl (by omega) (by omega) (fun h41 => ?_) (fun h41 => ?_)
          ·
            refine r_aload_n E (dat dkX9_writeRow 49 rfl) rfl rfl ?_
            refine q_getn E fl_X9_75 (dat dkX9_writeRow 50 rfl) rfl rfl rfl rfl ?_
            refine r_xq ?_
            refine r_ireturn E (dat dkX9_writeRow 51 rfl) (by decide) (by decide) ?_
            exact ⟨r9, hrr, rfl, rfl, rfl⟩
          ·
            omega
      ·
        refine r_throw (i := 11) E hnt hst xw_oob (by decide) rfl rfl (dat dkX9_writeRow 7 rfl) (dat dkX9_writeRow 8 rfl) (dat dkX9_writeRow 9 rfl) (dat dkX9_writeRow 10 rfl) (dat dkX9_writeRow 11 rfl) ⟨by decide, (Nat.le_of_ble_eq_true rfl), by decide, by decide⟩ (by decide) (by decide) ?_
        refine ⟨rfl, rfl, ?_⟩
        have h8 := hx.1
        rintro ⟨c, hc, rfl⟩
        first
          | exact nI_pos (by omega) h1
          | exact h12 ((nI_ltI (by omega) (by omega)).mpr hc)
          | exact absurd ((nI_ltI (a := c) (by omega) (by omega)).mpr hc) (Int32.not_lt.mpr h12)

set_option maxRecDepth 100000 in
set_option maxHeartbeats 4000000 in
theorem sp_X9_nameByte (l : Launch) (hst : l.stackTraces = false) (G : GT) (BP : Nat → Nat → Int32) (be nm : Nat → Int32) (x : PP) (q : Nat) (a d : Int32) (M : Mem) (hpn : (M 0 0 9).toNatClampNeg = q) (hq : q = 17 ∨ q = 18) (hP : M q = vPx BP be nm x) (hx : PIv x)  : MCx l G yX9_nameByte cX9_nameByte 3 (some .int) ({ frames := 7, cells := 8, slots := 48, locals := 103 } : Room) KC lkC [rv 0 0, iv a, iv d] (M) (fun r M2 => M2 = M ∧ ∃ b, b < x.2.2.2.2.1 ∧ a = nI b ∧ r = some (iv (nbI x b d))) (fun E M2 => E = oobN ∧ M2 = M ∧ ¬ ∃ c, c < x.2.2.2.2.1 ∧ a = nI c) := by
  refine MCx.of RX9 [some (rv 0 0), some (iv a), some (iv d)] 0 (by decide +kernel) rfl rfl rfl ?_
  intro pp ee ss mm aa bb me cd ad E hnt
  rcases hq with rfl | rfl
  ·
    have h_ro : M 17 0 7 = nI x.1.1 := by rw [hP]; rfl
    have h_co : M 17 0 8 = nI x.1.2.1 := by rw [hP]; rfl
    have h_ce : M 17 0 9 = nI x.1.2.2 := by rw [hP]; rfl
    have h_bc : M 17 0 10 = nI x.2.2.2.2.1 := by rw [hP]; rfl
    have h_fr : M 17 0 11 = x.2.2.2.1 := by rw [hP]; rfl
    have h_he : M 17 1 = x.2.1 := by rw [hP]; rfl
    have h_gu : M 17 2 = x.2.2.1 := by rw [hP]; rfl
    have h_be : M 17 3 = be := by rw [hP]; rfl
    have h_nl : M 17 5 = x.2.2.2.2.2.1 := by rw [hP]; rfl
    have h_bh : M 17 6 = x.2.2.2.2.2.2.2.1 := by rw [hP]; rfl
    have h_fp : M 17 7 = x.2.2.2.2.2.2.1 := by rw [hP]; rfl
    have h_n0 : M 17 8 = x.2.2.2.2.2.2.2.2 0 := by rw [hP]; rfl
    have h_n1 : M 17 9 = x.2.2.2.2.2.2.2.2 1 := by rw [hP]; rfl
    have h_n2 : M 17 10 = x.2.2.2.2.2.2.2.2 2 := by rw [hP]; rfl
    have h_n3 : M 17 11 = x.2.2.2.2.2.2.2.2 3 := by rw [hP]; rfl
    have hn64 := (PIv_z hx).1
    
    refine r_aload_n E (dat dkX9_nameByte 0 rfl) rfl rfl ?_
    refine r_iload_n E (dat dkX9_nameByte 1 rfl) rfl rfl ?_
    refine r_callVX (κ := 8) (μ := []) E hnt (sp_X9_requireBoots l hst G BP be nm x 17 a M hpn (Or.inl rfl) hP hx) my_X9_requireBoots iv_X9_requireBoots ml_X9_218 cm_id ⟨by decide, rfl, rfl⟩ rfl rfl rfl rfl (by decide) (Nat.le_of_ble_eq_true rfl) (dat dkX9_nameByte 2 rfl) (by decide) (by decide) (fun E M9 h => ⟨M, Mrg_z h.2.1, ⟨h.1, rfl, h.2.2⟩⟩) ?_
    rintro _ _ ⟨rfl, hM9, b, hb, rfl⟩
    refine ⟨_, Mrg_z hM9, ?_⟩
    clear hM9
    have hb4 := hx.2.2.2.2.1
    refine r_iload_n E (dat dkX9_nameByte 3 rfl) rfl rfl ?_
    refine r_if_lt (tgt := 22) E (dat dkX9_nameByte 4 rfl) rfl (fun h6 => ?_) (fun h6 => ?_)
    ·
      refine r_iconst (v := -1) E (dat dkX9_nameByte 12 rfl) rfl ?_
      refine r_xq ?_
      refine r_ireturn E (dat dkX9_nameByte 13 rfl) (by decide) (by decide) ?_
      refine ⟨rfl, b, hb, rfl, ?_⟩
      unfold nbI
      first
        | (rw [if_pos h6]; done)
        | (rw [if_neg h6, if_pos (by first | exact h19 | exact nlt_le h19)]; done)
        | (rw [if_neg h6, if_neg (by first | exact h19 | exact Int32.not_le.mpr h19), nI_clamp (by omega), hP]; rcases (show b = 0 ∨ b = 1 ∨ b = 2 ∨ b = 3 by omega) with h | h | h | h <;> (subst h; rfl))
    ·
      refine r_iload_n E (dat dkX9_nameByte 5 rfl) rfl rfl ?_
      refine r_aload_n E (dat dkX9_nameByte 6 rfl) rfl rfl ?_
      refine q_getd E fl_X9_64 (dat dkX9_nameByte 7 rfl) rfl rfl rfl hpn ?_
      refine q_geta E fl_X9_221 (dat dkX9_nameByte 8 rfl) rfl rfl rfl ?_
      refine r_iload_n E (dat dkX9_nameByte 9 rfl) rfl rfl ?_
      refine q_iald E (dat dkX9_nameByte 10 rfl) rfl rfl (by decide) h_nl rfl (by omega) ?_
      refine r_icmp_lt (tgt := 24) E (dat dkX9_nameByte 11 rfl) rfl (fun h19 => ?_) (fun h19 => ?_)
      ·
        obtain ⟨j, hj, rfl⟩ := nI_of (show ¬ d < 0 from h6)
        obtain ⟨hl1, hl2⟩ := hx.2.2.2.2.2.1 b hb
        have hjk : j < (x.2.2.2.2.2.1 b).toNatClampNeg := (nI_ltI hj (by omega)).mp (by rw [← hl1]; first | exact h19 | exact nle_lt h19)
        refine r_aload_n E (dat dkX9_nameByte 14 rfl) rfl rfl ?_
        refine q_getd E fl_X9_64 (dat dkX9_nameByte 15 rfl) rfl rfl rfl hpn ?_
        refine q_geta E fl_X9_224 (dat dkX9_nameByte 16 rfl) rfl rfl rfl ?_
        refine r_iload_n E (dat dkX9_nameByte 17 rfl) rfl rfl ?_
        refine q_aalN E (dat dkX9_nameByte 18 rfl) rfl rfl (by decide) rfl (by omega) ?_
        refine r_iload_n E (dat dkX9_nameByte 19 rfl) rfl rfl ?_
        refine q_bald (N := 6) E (dat dkX9_nameByte 20 rfl) (by rcases (show b = 0 ∨ b = 1 ∨ b = 2 ∨ b = 3 by omega) with h | h | h | h <;> (subst h; rfl)) (by rcases (show b = 0 ∨ b = 1 ∨ b = 2 ∨ b = 3 by omega) with h | h | h | h <;> (subst h; rfl)) (by decide) rfl rfl (by omega) ?_
        refine r_xq ?_
        refine r_ireturn E (dat dkX9_nameByte 21 rfl) (by decide) (by decide) ?_
        refine ⟨rfl, b, hb, rfl, ?_⟩
        unfold nbI
        first
          | (rw [if_pos h6]; done)
          | (rw [if_neg h6, if_pos (by first | exact h19 | exact nlt_le h19)]; done)
          | (rw [if_neg h6, if_neg (by first | exact h19 | exact Int32.not_le.mpr h19), nI_clamp (by omega), hP]; rcases (show b = 0 ∨ b = 1 ∨ b = 2 ∨ b = 3 by omega) with h | h | h | h <;> (subst h; rfl))
      ·
        refine r_iconst (v := -1) E (dat dkX9_nameByte 12 rfl) rfl ?_
        refine r_xq ?_
        refine r_ireturn E (dat dkX9_nameByte 13 rfl) (by decide) (by decide) ?_
        refine ⟨rfl, b, hb, rfl, ?_⟩
        unfold nbI
        first
          | (rw [if_pos h6]; done)
          | (rw [if_neg h6, if_pos (by first | exact h19 | exact nlt_le h19)]; done)
          | (rw [if_neg h6, if_neg (by first | exact h19 | exact Int32.not_le.mpr h19), nI_clamp (by omega), hP]; rcases (show b = 0 ∨ b = 1 ∨ b = 2 ∨ b = 3 by omega) with h | h | h | h <;> (subst h; rfl))
  ·
    have h_ro : M 18 0 7 = nI x.1.1 := by rw [hP]; rfl
    have h_co : M 18 0 8 = nI x.1.2.1 := by rw [hP]; rfl
    have h_ce : M 18 0 9 = nI x.1.2.2 := by rw [hP]; rfl
    have h_bc : M 18 0 10 = nI x.2.2.2.2.1 := by rw [hP]; rfl
    have h_fr : M 18 0 11 = x.2.2.2.1 := by rw [hP]; rfl
    have h_he : M 18 1 = x.2.1 := by rw [hP]; rfl
    have h_gu : M 18 2 = x.2.2.1 := by rw [hP]; rfl
    have h_be : M 18 3 = be := by rw [hP]; rfl
    have h_nl : M 18 5 = x.2.2.2.2.2.1 := by rw [hP]; rfl
    have h_bh : M 18 6 = x.2.2.2.2.2.2.2.1 := by rw [hP]; rfl
    have h_fp : M 18 7 = x.2.2.2.2.2.2.1 := by rw [hP]; rfl
    have h_n0 : M 18 8 = x.2.2.2.2.2.2.2.2 0 := by rw [hP]; rfl
    have h_n1 : M 18 9 = x.2.2.2.2.2.2.2.2 1 := by rw [hP]; rfl
    have h_n2 : M 18 10 = x.2.2.2.2.2.2.2.2 2 := by rw [hP]; rfl
    have h_n3 : M 18 11 = x.2.2.2.2.2.2.2.2 3 := by rw [hP]; rfl
    have hn64 := (PIv_z hx).1
    
    refine r_aload_n E (dat dkX9_nameByte 0 rfl) rfl rfl ?_
    refine r_iload_n E (dat dkX9_nameByte 1 rfl) rfl rfl ?_
    refine r_callVX (κ := 8) (μ := []) E hnt (sp_X9_requireBoots l hst G BP be nm x 18 a M hpn (Or.inr rfl) hP hx) my_X9_requireBoots iv_X9_requireBoots ml_X9_218 cm_id ⟨by decide, rfl, rfl⟩ rfl rfl rfl rfl (by decide) (Nat.le_of_ble_eq_true rfl) (dat dkX9_nameByte 2 rfl) (by decide) (by decide) (fun E M9 h => ⟨M, Mrg_z h.2.1, ⟨h.1, rfl, h.2.2⟩⟩) ?_
    rintro _ _ ⟨rfl, hM9, b, hb, rfl⟩
    refine ⟨_, Mrg_z hM9, ?_⟩
    clear hM9
    have hb4 := hx.2.2.2.2.1
    refine r_iload_n E (dat dkX9_nameByte 3 rfl) rfl rfl ?_
    refine r_if_lt (tgt := 22) E (dat dkX9_nameByte 4 rfl) rfl (fun h6 => ?_) (fun h6 => ?_)
    ·
      refine r_iconst (v := -1) E (dat dkX9_nameByte 12 rfl) rfl ?_
      refine r_xq ?_
      refine r_ireturn E (dat dkX9_nameByte 13 rfl) (by decide) (by decide) ?_
      refine ⟨rfl, b, hb, rfl, ?_⟩
      unfold nbI
      first
        | (rw [if_pos h6]; done)
        | (rw [if_neg h6, if_pos (by first | exact h19 | exact nlt_le h19)]; done)
        | (rw [if_neg h6, if_neg (by first | exact h19 | exact Int32.not_le.mpr h19), nI_clamp (by omega), hP]; rcases (show b = 0 ∨ b = 1 ∨ b = 2 ∨ b = 3 by omega) with h | h | h | h <;> (subst h; rfl))
    ·
      refine r_iload_n E (dat dkX9_nameByte 5 rfl) rfl rfl ?_
      refine r_aload_n E (dat dkX9_nameByte 6 rfl) rfl rfl ?_
      refine q_getd E fl_X9_64 (dat dkX9_nameByte 7 rfl) rfl rfl rfl hpn ?_
      refine q_geta E fl_X9_221 (dat dkX9_nameByte 8 rfl) rfl rfl rfl ?_
      refine r_iload_n E (dat dkX9_nameByte 9 rfl) rfl rfl ?_
      refine q_iald E (dat dkX9_nameByte 10 rfl) rfl rfl (by decide) h_nl rfl (by omega) ?_
      refine r_icmp_lt (tgt := 24) E (dat dkX9_nameByte 11 rfl) rfl (fun h19 => ?_) (fun h19 => ?_)
      ·
        obtain ⟨j, hj, rfl⟩ := nI_of (show ¬ d < 0 from h6)
        obtain ⟨hl1, hl2⟩ := hx.2.2.2.2.2.1 b hb
        have hjk : j < (x.2.2.2.2.2.1 b).toNatClampNeg := (nI_ltI hj (by omega)).mp (by rw [← hl1]; first | exact h19 | exact nle_lt h19)
        refine r_aload_n E (dat dkX9_nameByte 14 rfl) rfl rfl ?_
        refine q_getd E fl_X9_64 (dat dkX9_nameByte 15 rfl) rfl rfl rfl hpn ?_
        refine q_geta E fl_X9_224 (dat dkX9_nameByte 16 rfl) rfl rfl rfl ?_
        refine r_iload_n E (dat dkX9_nameByte 17 rfl) rfl rfl ?_
        refine q_aalN E (dat dkX9_nameByte 18 rfl) rfl rfl (by decide) rfl (by omega) ?_
        refine r_iload_n E (dat dkX9_nameByte 19 rfl) rfl rfl ?_
        refine q_bald (N := 6) E (dat dkX9_nameByte 20 rfl) (by rcases (show b = 0 ∨ b = 1 ∨ b = 2 ∨ b = 3 by omega) with h | h | h | h <;> (subst h; rfl)) (by rcases (show b = 0 ∨ b = 1 ∨ b = 2 ∨ b = 3 by omega) with h | h | h | h <;> (subst h; rfl)) (by decide) rfl rfl (by omega) ?_
        refine r_xq ?_
        refine r_ireturn E (dat dkX9_nameByte 21 rfl) (by decide) (by decide) ?_
        refine ⟨rfl, b, hb, rfl, ?_⟩
        unfold nbI
        first
          | (rw [if_pos h6]; done)
          | (rw [if_neg h6, if_pos (by first | exact h19 | exact nlt_le h19)]; done)
          | (rw [if_neg h6, if_neg (by first | exact h19 | exact Int32.not_le.mpr h19), nI_clamp (by omega), hP]; rcases (show b = 0 ∨ b = 1 ∨ b = 2 ∨ b = 3 by omega) with h | h | h | h <;> (subst h; rfl))
      ·
        refine r_iconst (v := -1) E (dat dkX9_nameByte 12 rfl) rfl ?_
        refine r_xq ?_
        refine r_ireturn E (dat dkX9_nameByte 13 rfl) (by decide) (by decide) ?_
        refine ⟨rfl, b, hb, rfl, ?_⟩
        unfold nbI
        first
          | (rw [if_pos h6]; done)
          | (rw [if_neg h6, if_pos (by first | exact h19 | exact nlt_le h19)]; done)
          | (rw [if_neg h6, if_neg (by first | exact h19 | exact Int32.not_le.mpr h19), nI_clamp (by omega), hP]; rcases (show b = 0 ∨ b = 1 ∨ b = 2 ∨ b = 3 by omega) with h | h | h | h <;> (subst h; rfl))

set_option maxRecDepth 100000 in
set_option maxHeartbeats 4000000 in
theorem sp_X9_truncateInput (l : Launch) (G : GT) (a : Int32) (M : Mem) (n : Nat) (hn : M 1 0 1 = nI n) (hn6 : n ≤ 600) : MC l G yX9_truncateInput cX9_truncateInput 2 (some .boolean) ({ frames := 0, cells := 0, slots := 0, locals := 0 } : Room) KC lkC [rv 0 0, iv a] (M) (fun r M2 => (∃ j, j ≤ n ∧ a = nI j ∧ r = some (iv 1) ∧ M2 = leM M a) ∨ ((¬ ∃ j, j ≤ n ∧ a = nI j) ∧ r = some (iv 0) ∧ M2 = M)) := by
  refine MC.of RX9 [some (rv 0 0), some (iv a)] 0 (by decide +kernel) rfl rfl rfl ?_
  intro pp ee ss mm aa bb me cd ad E
  refine r_iload_n E (dat dkX9_truncateInput 0 rfl) rfl rfl ?_
  refine r_if_lt (tgt := 15) E (dat dkX9_truncateInput 1 rfl) rfl (fun h1 => ?_) (fun h1 => ?_)
  ·
    refine r_iconst (v := 0) E (dat dkX9_truncateInput 7 rfl) rfl ?_
    refine r_zreturn E (dat dkX9_truncateInput 8 rfl) rfl (by decide) (by decide) ?_
    refine Or.inr ⟨?_, rfl, rfl⟩
    rintro ⟨j, hj, rfl⟩
    first
      | exact nI_pos (by omega) h1
      | (rw [show M ((KC, lkC, ad).2.1 0 0) 0 1 = nI n from hn] at h12; first | exact h12 ((nI_leI (by omega) (by omega)).mpr hj) | exact absurd ((nI_leI (by omega) (by omega)).mpr hj) (Int32.not_le.mpr h12))
  ·
    refine r_iload_n E (dat dkX9_truncateInput 2 rfl) rfl rfl ?_
    refine r_aload_n E (dat dkX9_truncateInput 3 rfl) rfl rfl ?_
    refine q_getl E fl_X9_10 (dat dkX9_truncateInput 4 rfl) rfl rfl rfl ?_
    refine q_getn E fl_X9_96 (dat dkX9_truncateInput 5 rfl) rfl rfl rfl rfl ?_
    refine r_icmp_le (tgt := 17) E (dat dkX9_truncateInput 6 rfl) rfl (fun h12 => ?_) (fun h12 => ?_)
    ·
      refine r_aload_n E (dat dkX9_truncateInput 9 rfl) rfl rfl ?_
      refine q_getl E fl_X9_10 (dat dkX9_truncateInput 10 rfl) rfl rfl rfl ?_
      refine r_iload_n E (dat dkX9_truncateInput 11 rfl) rfl rfl ?_
      refine q_putn E ft_X9_96 (dat dkX9_truncateInput 12 rfl) rfl rfl rfl rfl ?_
      refine r_iconst (v := 1) E (dat dkX9_truncateInput 13 rfl) rfl ?_
      refine r_zreturn E (dat dkX9_truncateInput 14 rfl) rfl (by decide) (by decide) ?_
      obtain ⟨j, hj, rfl⟩ := nI_of (show ¬ a < 0 by first | exact h1 | exact Int32.not_lt.mpr h1)
      refine Or.inl ⟨j, ?_, rfl, rfl, rfl⟩
      rw [show M ((KC, lkC, ad).2.1 0 0) 0 1 = nI n from hn] at h12
      exact (nI_leI hj (by omega)).mp (by first | exact h12 | exact nlt_le h12)
    ·
      refine r_iconst (v := 0) E (dat dkX9_truncateInput 7 rfl) rfl ?_
      refine r_zreturn E (dat dkX9_truncateInput 8 rfl) rfl (by decide) (by decide) ?_
      refine Or.inr ⟨?_, rfl, rfl⟩
      rintro ⟨j, hj, rfl⟩
      first
        | exact nI_pos (by omega) h1
        | (rw [show M ((KC, lkC, ad).2.1 0 0) 0 1 = nI n from hn] at h12; first | exact h12 ((nI_leI (by omega) (by omega)).mpr hj) | exact absurd ((nI_leI (by omega) (by omega)).mpr hj) (Int32.not_le.mpr h12))

set_option maxRecDepth 100000 in
set_option maxHeartbeats 4000000 in
theorem sp_X9_appendInput (l : Launch) (G : GT) (a b d f g : Int32) (M : Mem) (B0 : Nat → Nat → Int32) (n : Nat) (bs : Nat → Int32) (t : TT) (hT : M 1 = vTx B0 n bs t) (hn : n ≤ 600) : MC l G yX9_appendInput cX9_appendInput 6 (some .int) ({ frames := 2, cells := 0, slots := 0, locals := 42 } : Room) KC lkC [rv 0 0, iv a, iv b, iv d, iv f, iv g] (M) (fun r M2 => (n + 20 ≤ 600 ∧ M2 = setm M 1 (vTx B0 (n + 20) (ap5 bs n a b d f g) t) ∧ r = some (iv (nI (n + 20)))) ∨ (¬ n + 20 ≤ 600 ∧ M2 = M ∧ r = some (iv (-1)))) := by
  refine MC.of RX9 [some (rv 0 0), some (iv a), some (iv b), some (iv d), some (iv f), some (iv g)] 0 (by decide +kernel) rfl rfl rfl ?_
  intro pp ee ss mm aa bb me cd ad E
  refine r_aload_n E (dat dkX9_appendInput 0 rfl) rfl rfl ?_
  refine q_getl E fl_X9_10 (dat dkX9_appendInput 1 rfl) rfl rfl rfl ?_
  refine q_getn E fl_X9_96 (dat dkX9_appendInput 2 rfl) rfl rfl rfl rfl ?_
  refine r_bipush (v := 20) E (dat dkX9_appendInput 3 rfl) rfl ?_
  refine r_iadd E (dat dkX9_appendInput 4 rfl) ?_
  refine r_sipush (v := 600) E (dat dkX9_appendInput 5 rfl) rfl ?_
  rw [show M ((KC, lkC, ad).2.1 0 0) 0 1 = nI n by (show M 1 0 1 = nI n); rw [hT]; rfl, show nI n + 20 = nI (n + 20) from nI_add n 20]
  refine q_icmp_le (tgt := 18) E (dat dkX9_appendInput 6 rfl) rfl rfl (b := 600) rfl (by omega) (by omega) (fun h13 => ?_) (fun h13 => ?_)
  ·
    refine r_aload_n E (dat dkX9_appendInput 9 rfl) rfl rfl ?_
    refine q_getl E fl_X9_10 (dat dkX9_appendInput 10 rfl) rfl rfl rfl ?_
    refine r_iload_n E (dat dkX9_appendInput 11 rfl) rfl rfl ?_
    refine r_callV (κ := 3) (μ := [1]) E (sp_X6_putFour l G B0 n (nI t.1) t.2.1 t.2.2.1 t.2.2.2.1 t.2.2.2.2.1 t.2.2.2.2.2 bs a _ hT (by omega)) my_X6_putFour iv_X6_putFour ml_X9_99 (cm_of rfl) ⟨by decide, rfl, rfl⟩ rfl rfl rfl rfl (by decide) (Nat.le_of_ble_eq_true rfl) (dat dkX9_appendInput 12 rfl) ?_
    rintro _ _ ⟨rfl, rfl⟩
    refine ⟨_, (show Mrg _ _ M _ (setm M 1 (vTx B0 (n + 4) (pf4 bs n a) t)) from Mrg_e (i := 0) (by decide) (by decide) rfl rfl), ?_⟩
    refine r_aload_n E (dat dkX9_appendInput 13 rfl) rfl rfl ?_
    refine q_getl E fl_X9_10 (dat dkX9_appendInput 14 rfl) rfl rfl rfl ?_
    refine r_iload_n E (dat dkX9_appendInput 15 rfl) rfl rfl ?_
    refine r_callV (κ := 3) (μ := [1]) E (sp_X6_putFour l G B0 (n + 4) (nI t.1) t.2.1 t.2.2.1 t.2.2.2.1 t.2.2.2.2.1 t.2.2.2.2.2 (pf4 bs n a) b _ rfl (by omega)) my_X6_putFour iv_X6_putFour ml_X9_99 (cm_of rfl) ⟨by decide, rfl, rfl⟩ rfl rfl rfl rfl (by decide) (Nat.le_of_ble_eq_true rfl) (dat dkX9_appendInput 16 rfl) ?_
    rintro _ _ ⟨rfl, rfl⟩
    refine ⟨_, (show Mrg _ _ (setm M 1 (vTx B0 (n + 4) (pf4 bs n a) t)) _ (setm M 1 (vTx B0 (n + 8) (pf4 (pf4 bs n a) (n + 4) b) t)) from Mrg_e (i := 0) (by decide) (by decide) setm_setm rfl), ?_⟩
    refine r_aload_n E (dat dkX9_appendInput 17 rfl) rfl rfl ?_
    refine q_getl E fl_X9_10 (dat dkX9_appendInput 18 rfl) rfl rfl rfl ?_
    refine r_iload_n E (dat dkX9_appendInput 19 rfl) rfl rfl ?_
    refine r_callV (κ := 3) (μ := [1]) E (sp_X6_putFour l G B0 (n + 8) (nI t.1) t.2.1 t.2.2.1 t.2.2.2.1 t.2.2.2.2.1 t.2.2.2.2.2 (pf4 (pf4 bs n a) (n + 4) b) d _ rfl (by omega)) my_X6_putFour iv_X6_putFour ml_X9_99 (cm_of rfl) ⟨by decide, rfl, rfl⟩ rfl rfl rfl rfl (by decide) (Nat.le_of_ble_eq_true rfl) (dat dkX9_appendInput 20 rfl) ?_
    rintro _ _ ⟨rfl, rfl⟩
    refine ⟨_, (show Mrg _ _ (setm M 1 (vTx B0 (n + 8) (pf4 (pf4 bs n a) (n + 4) b) t)) _ (setm M 1 (vTx B0 (n + 12) (pf4 (pf4 (pf4 bs n a) (n + 4) b) (n + 8) d) t)) from Mrg_e (i := 0) (by decide) (by decide) setm_setm rfl), ?_⟩
    refine r_aload_n E (dat dkX9_appendInput 21 rfl) rfl rfl ?_
    refine q_getl E fl_X9_10 (dat dkX9_appendInput 22 rfl) rfl rfl rfl ?_
    refine r_iload E (dat dkX9_appendInput 23 rfl) rfl ?_
    refine r_callV (κ := 3) (μ := [1]) E (sp_X6_putFour l G B0 (n + 12) (nI t.1) t.2.1 t.2.2.1 t.2.2.2.1 t.2.2.2.2.1 t.2.2.2.2.2 (pf4 (pf4 (pf4 bs n a) (n + 4) b) (n + 8) d) f _ rfl (by omega)) my_X6_putFour iv_X6_putFour ml_X9_99 (cm_of rfl) ⟨by decide, rfl, rfl⟩ rfl rfl rfl rfl (by decide) (Nat.le_of_ble_eq_true rfl) (dat dkX9_appendInput 24 rfl) ?_
    rintro _ _ ⟨rfl, rfl⟩
    refine ⟨_, (show Mrg _ _ (setm M 1 (vTx B0 (n + 12) (pf4 (pf4 (pf4 bs n a) (n + 4) b) (n + 8) d) t)) _ (setm M 1 (vTx B0 (n + 16) (pf4 (pf4 (pf4 (pf4 bs n a) (n + 4) b) (n + 8) d) (n + 12) f) t)) from Mrg_e (i := 0) (by decide) (by decide) setm_setm rfl), ?_⟩
    refine r_aload_n E (dat dkX9_appendInput 25 rfl) rfl rfl ?_
    refine q_getl E fl_X9_10 (dat dkX9_appendInput 26 rfl) rfl rfl rfl ?_
    refine r_iload E (dat dkX9_appendInput 27 rfl) rfl ?_
    refine r_callV (κ := 3) (μ := [1]) E (sp_X6_putFour l G B0 (n + 16) (nI t.1) t.2.1 t.2.2.1 t.2.2.2.1 t.2.2.2.2.1 t.2.2.2.2.2 (pf4 (pf4 (pf4 (pf4 bs n a) (n + 4) b) (n + 8) d) (n + 12) f) g _ rfl (by omega)) my_X6_putFour iv_X6_putFour ml_X9_99 (cm_of rfl) ⟨by decide, rfl, rfl⟩ rfl rfl rfl rfl (by decide) (Nat.le_of_ble_eq_true rfl) (dat dkX9_appendInput 28 rfl) ?_
    rintro _ _ ⟨rfl, rfl⟩
    refine ⟨_, (show Mrg _ _ (setm M 1 (vTx B0 (n + 16) (pf4 (pf4 (pf4 (pf4 bs n a) (n + 4) b) (n + 8) d) (n + 12) f) t)) _ (setm M 1 (vTx B0 (n + 20) (pf4 (pf4 (pf4 (pf4 (pf4 bs n a) (n + 4) b) (n + 8) d) (n + 12) f) (n + 16) g) t)) from Mrg_e (i := 0) (by decide) (by decide) setm_setm rfl), ?_⟩
    refine r_aload_n E (dat dkX9_appendInput 29 rfl) rfl rfl ?_
    refine q_getl E fl_X9_10 (dat dkX9_appendInput 30 rfl) rfl rfl rfl ?_
    refine q_getn E fl_X9_96 (dat dkX9_appendInput 31 rfl) rfl rfl rfl rfl ?_
    refine r_ireturn E (dat dkX9_appendInput 32 rfl) (by decide) (by decide) ?_
    exact Or.inl ⟨h13, rfl, rfl⟩
  ·
    refine r_iconst (v := -1) E (dat dkX9_appendInput 7 rfl) rfl ?_
    refine r_ireturn E (dat dkX9_appendInput 8 rfl) (by decide) (by decide) ?_
    exact Or.inr ⟨by omega, rfl, rfl⟩

set_option maxRecDepth 100000 in
set_option maxHeartbeats 4000000 in
theorem sp_X9_saveState (l : Launch) (G : GT)  (M : Mem) (hwt : WTi (M 3)) : MC l G yX9_saveState cX9_saveState 1 (some .int) ({ frames := 2, cells := 0, slots := 0, locals := 62 } : Room) KC lkC [rv 0 0] (M) (fun r M2 => M2 = isM (setm M 5 (M 3)) 1 ∧ r = some (iv (M 3 0 7))) := by
  refine MC.of RX9 [some (rv 0 0)] 0 (by decide +kernel) rfl rfl rfl ?_
  intro pp ee ss mm aa bb me cd ad E
  refine r_aload_n E (dat dkX9_saveState 0 rfl) rfl rfl ?_
  refine q_getl E fl_X9_33 (dat dkX9_saveState 1 rfl) rfl rfl rfl ?_
  refine r_aload_n E (dat dkX9_saveState 2 rfl) rfl rfl ?_
  refine q_getl E fl_X9_26 (dat dkX9_saveState 3 rfl) rfl rfl rfl ?_
  refine r_callV (κ := 1) (μ := [5, 3]) E (tp_X5_copyFrom l G (M 3) _ rfl hwt) my_X5_copyFrom iv_X5_copyFrom ml_X9_247 (cm_of rfl) ⟨by decide, rfl, rfl⟩ rfl rfl rfl rfl (by decide) (Nat.le_of_ble_eq_true rfl) (dat dkX9_saveState 4 rfl) ?_
  rintro _ _ ⟨rfl, rfl⟩
  refine ⟨_, (show Mrg _ _ M _ (setm M 5 (M 3)) from Mrg_e (i := 0) (by decide) (by decide) rfl rfl), ?_⟩
  refine r_aload_n E (dat dkX9_saveState 5 rfl) rfl rfl ?_
  refine r_iconst (v := 1) E (dat dkX9_saveState 6 rfl) rfl ?_
  refine q_putz E ft_X9_71 (dat dkX9_saveState 7 rfl) rfl rfl rfl rfl rfl rfl ?_
  refine r_aload_n E (dat dkX9_saveState 8 rfl) rfl rfl ?_
  refine q_getl E fl_X9_26 (dat dkX9_saveState 9 rfl) rfl rfl rfl ?_
  refine q_getn E fl_X9_129 (dat dkX9_saveState 10 rfl) rfl rfl rfl rfl ?_
  refine r_ireturn E (dat dkX9_saveState 11 rfl) (by decide) (by decide) ?_
  exact ⟨rfl, rfl⟩
