/-! the reference: a script run -/
theorem sp_ex (l : Launch) (G : GT) (v : Nat) (hv8 : v < 8) (A0 : Nat → Int32) (x : PP) (T : Nat → Nat → Int32) (L : Int) (S : Nat → Int32) (i : Nat) (a b c : Int32) (M : Mem) (hA : M 0 1 = enc A0 x T) (hx : PIv x) (hv : PVi x) (hpl : PLi x T) (hz : ZI x T L) (hL : L + 9 < 2147483648) (hi : i < 30) (hS21 : M 0 21 = S) (h0 : S (4 * i) = nI v) (h1 : S (4 * i + 1) = a) (h2 : (v = 1 ∨ v = 3 ∨ v = 5) → S (4 * i + 2) = b) (h3 : v = 1 → S (4 * i + 3) = c) (hvo : vOK x.1.2.2 x.2.2.2.2.1 v a b) (hvr : vRG v a b c) : MC l G yX10_execute cX10_execute 5 (some .boolean) ({ frames := 8, cells := 0, slots := 0, locals := 177 } : Room) [9] lk0 [rv 0 0, iv (nI i)] (M) (fun r M2 => r = some (iv (exV x v a b c T).1) ∧ M2 = md M (enc A0 x (exV x v a b c T).2) ∧ ZI x (exV x v a b c T).2 (L + 9)) := by
  rcases (show v = 0 ∨ v = 1 ∨ v = 2 ∨ v = 3 ∨ v = 4 ∨ v = 5 ∨ v = 6 ∨ v = 7 by omega) with rfl | rfl | rfl | rfl | rfl | rfl | rfl | rfl
  · exact sp_ex_0 l G A0 x T L S i a b c M hA hx hv hpl hz hL hi hS21 h0 h1 h2 h3 hvo hvr
  · exact sp_ex_1 l G A0 x T L S i a b c M hA hx hv hpl hz hL hi hS21 h0 h1 h2 h3 hvo hvr
  · exact sp_ex_2 l G A0 x T L S i a b c M hA hx hv hpl hz hL hi hS21 h0 h1 h2 h3 hvo hvr
  · exact sp_ex_3 l G A0 x T L S i a b c M hA hx hv hpl hz hL hi hS21 h0 h1 h2 h3 hvo hvr
  · exact sp_ex_4 l G A0 x T L S i a b c M hA hx hv hpl hz hL hi hS21 h0 h1 h2 h3 hvo hvr
  · exact sp_ex_5 l G A0 x T L S i a b c M hA hx hv hpl hz hL hi hS21 h0 h1 h2 h3 hvo hvr
  · exact sp_ex_6 l G A0 x T L S i a b c M hA hx hv hpl hz hL hi hS21 h0 h1 h2 h3 hvo hvr
  · exact sp_ex_7 l G A0 x T L S i a b c M hA hx hv hpl hz hL hi hS21 h0 h1 h2 h3 hvo hvr
/-- what stands in the statements' array -/
def CT (S : Nat → Int32) (k : Nat) (vb : Nat → Int32) (g : CF) : Prop := ∀ j, j < k → ∃ v, vb j = nI v ∧ v < 8 ∧ S (4 * j) = nI v ∧ S (4 * j + 1) = g.1 j ∧ ((v = 1 ∨ v = 3 ∨ v = 5) → S (4 * j + 2) = g.2.1 j) ∧ (v = 1 → S (4 * j + 3) = g.2.2 j)
theorem CT_s {S S2 : Nat → Int32} {k v : Nat} {vb : Nat → Int32} {g g2 : CF} (h : CT S k vb g) (hv : v < 8) (ha : agr k g g2) (hs : stC S2 S k v (g2.1 k, g2.2.1 k, g2.2.2 k)) : CT S2 (k + 1) (upd vb k (nI v)) g2 := by
  obtain ⟨p1, p2, p3, p4, p5⟩ := hs
  intro j hj
  by_cases he : j = k
  · subst he
    exact ⟨v, upd_at, hv, p1, p2, p3, p4⟩
  · obtain ⟨v2, q1, q2, q3, q4, q5, q6⟩ := h j (by omega)
    obtain ⟨a1, a2, a3⟩ := ha j he
    exact ⟨v2, (upd_ne he).trans q1, q2, (p5 _ (by omega)).trans q3, (p5 _ (by omega)).trans (q4.trans a1.symm), fun c => (p5 _ (by omega)).trans ((q5 c).trans a2.symm), fun c => (p5 _ (by omega)).trans ((q6 c).trans a3.symm)⟩
theorem exT_s {x : PP} {vb : Nat → Int32} {g : CF} {T : Nat → Nat → Int32} {i v : Nat} (hv : vb i = nI v) (h8 : v < 8) : exT x vb g T (i + 1) = (exV x v (g.1 i) (g.2.1 i) (g.2.2 i) (exT x vb g T i)).2 ∧ exG x vb g T i = (exV x v (g.1 i) (g.2.1 i) (g.2.2 i) (exT x vb g T i)).1 := by
  have e : (vb i).toNatClampNeg = v := by rw [hv]; exact nI_clamp (by omega)
  constructor
  · show (exK _ _ _ _ _ _ (vb i).toNatClampNeg _ _ _ _).2 = _
    rw [e]; rfl
  · show (exK _ _ _ _ _ _ (vb i).toNatClampNeg _ _ _ _).1 = _
    rw [e]; rfl
def rsK (M M2 : Mem) : Prop := M2 0 2 = M 0 2 ∧ M2 0 3 = M 0 3 ∧ M2 0 10 = M 0 10 ∧ M2 0 25 = M 0 25 ∧ M2 0 0 5 = M 0 0 5 ∧ M2 0 0 25 = M 0 0 25 ∧ M2 0 0 6 = 0 ∧ M2 0 0 10 = 0
def rsBad (M M2 : Mem) (A : Nat → Int32) (Y : (Int32 × TT) × SC) (r : Option AV) : Prop := Y.1.1 = 0 ∧ r = some (iv (-1)) ∧ rsK M M2 ∧ M2 0 1 = A ∧ M2 0 4 = M 0 4 ∧ M2 0 0 4 = M 0 0 4 ∧ M2 0 0 11 = Y.1.2.2.2.2.2.1 ∧ M2 0 0 12 = Y.1.2.2.2.2.2.2 ∧ 0 < Y.1.2.2.2.2.2.1
def rsOk (M M2 : Mem) (A0 : Nat → Int32) (x : PP) (T : Nat → Nat → Int32) (L : Int) (P : Nat → Int32) (k : Nat) (Y : (Int32 × TT) × SC) (r : Option AV) : Prop := ¬ Y.1.1 = 0 ∧ r = some (iv (nI (exC (exG x Y.2.2.1 Y.2.2.2 T) Y.2.1 0))) ∧ rsK M M2 ∧ M2 0 1 = enc A0 x (exT x Y.2.2.1 Y.2.2.2 T (exC (exG x Y.2.2.1 Y.2.2.2 T) Y.2.1 0)) ∧ ZI x (exT x Y.2.2.1 Y.2.2.2 T (exC (exG x Y.2.2.1 Y.2.2.2 T) Y.2.1 0)) (L + 270) ∧ M2 0 4 = cpP (rmS P k) (enc A0 x T) (443 * rmK k) 443 ∧ M2 0 0 4 = nI (rmK k + 1) ∧ M2 0 0 11 = 0 ∧ M2 0 0 12 = -1 ∧ Y.1.2.2.2.2.2.1 = 0 ∧ Y.1.2.2.2.2.2.2 = -1
def stD (b : Nat → Int32) (n : Nat) (x : PP) (u : TT) (k : Nat) (S : Nat → Int32) (t9 : TT) (M2 : Mem) : Prop := (vbF b u = none ∧ rX t9 (tFl 1 u)) ∨ (∃ v, vbF b u = some v ∧ k = 30 ∧ rX t9 (tFl 4 u)) ∨ (∃ v t2, vbF b u = some v ∧ k < 30 ∧ rK b n t2 u ∧ t9 = mSm b n (ch b n x v t2).1 ∧ M2 0 0 21 = nI (k + 1) ∧ ∃ S2, M2 0 21 = S2 ∧ stC S2 S k v (ch b n x v t2).2)
theorem Mrg_st {M M9 : Mem} {A : Nat → Int32} {t u : TT} {b : Nat → Int32} {n k : Nat} {x : PP} {S : Nat → Int32} (h : PK (vw [] M) M9 A t) (g : stD b n x u k S t M9) : ∃ M2, Mrg 1 [] M M9 M2 ∧ kq M M2 ∧ M2 0 1 = A ∧ TI M2 t ∧ stD b n x u k S t M2 := ⟨setm M 0 (M9 0), Mrg_m0, h.1, h.2.1, h.2.2, g⟩
set_option maxRecDepth 100000 in
set_option maxHeartbeats 8000000 in
theorem sp_X10_runScript (l : Launch) (G : GT) (bs : Nat → Int32) (n : Nat) (A : Nat → Int32) (t0 u : TT) (A0 : Nat → Int32) (x : PP) (T : Nat → Nat → Int32) (L : Int) (P : Nat → Int32) (k : Nat) (vb : Nat → Int32) (g : CF) (M : Mem) (hB : M 0 10 = bs) (hn : M 0 0 10 = nI n) (hA : M 0 1 = A) (hE : A = enc A0 x T) (hx : PIv x) (hv : PVi x) (hpl : PLi x T) (hz : ZI x T L) (hL : L + 279 < 2147483648) (hP : M 0 4 = P) (hk4 : M 0 0 4 = nI k) (hk8 : k ≤ 8) (hT : TI M t0) (hn6 : n ≤ 600) : MC l G yX10_runScript cX10_runScript 2 (some .int) ({ frames := 9, cells := 0, slots := 0, locals := 201 } : Room) [9] lk0 [rv 0 0] (M) (fun r M2 => rsBad M M2 A (rSl bs n x 31 (tNx bs n ((0, u.2.1, u.2.2.1, u.2.2.2.1, 0, -1) : TT)) (0, vb, g)) r ∨ rsOk M M2 A0 x T L P k (rSl bs n x 31 (tNx bs n ((0, u.2.1, u.2.2.1, u.2.2.2.1, 0, -1) : TT)) (0, vb, g)) r) := by
  refine MC.of RX10 [some (rv 0 0), none] 1 (by decide +kernel) rfl rfl rfl ?_
  intro pp ee ss mm aa bb me cd ad E
  refine r_aload_n E (dat dkX10_runScript 0 rfl) rfl rfl ?_
  refine r_iconst (v := 0) E (dat dkX10_runScript 1 rfl) rfl ?_
  refine q_putn E ft_X10_67 (dat dkX10_runScript 2 rfl) rfl rfl rfl rfl ?_
  refine r_aload_n E (dat dkX10_runScript 3 rfl) rfl rfl ?_
  refine r_iconst (v := 0) E (dat dkX10_runScript 4 rfl) rfl ?_
  refine q_putn E ft_X10_276 (dat dkX10_runScript 5 rfl) rfl rfl rfl rfl ?_
  obtain ⟨Mb, hMb⟩ : ∃ Z, Z = (setm (setm M 0 (sett (M 0) 0 (upd (M 0 0) 6 0))) 0 (sett ((setm M 0 (sett (M 0) 0 (upd (M 0 0) 6 0))) 0) 0 (upd ((setm M 0 (sett (M 0) 0 (upd (M 0 0) 6 0))) 0 0) 21 0))) := ⟨_, rfl⟩
  rw [← hMb]
  have hBb : Mb 0 10 = bs := by rw [hMb]; exact hB
  have hnb : Mb 0 0 10 = nI n := by rw [hMb]; exact hn
  have hTb : TI Mb t0 := by rw [hMb]; exact hT
  refine r_aload_n E (dat dkX10_runScript 6 rfl) rfl rfl ?_
  refine r_callV (κ := 9) (μ := []) E (sp_X10_beginText l G bs n t0 _ hBb hnb hTb hn6) my_X10_beginText iv_X10_beginText ml_X10_243 cm_id ⟨by decide, rfl, rfl⟩ rfl rfl rfl rfl (by decide) (Nat.le_of_ble_eq_true rfl) (dat dkX10_runScript 7 rfl) ?_
  rintro _ _ ⟨rfl, rfl⟩
  refine ⟨_, Mrg_tt (by decide) rfl, ?_⟩
  obtain ⟨t1, ht1⟩ : ∃ z, z = mAd bs n (mB0 t0) := ⟨_, rfl⟩
  rw [← ht1]
  clear hT hB hn
  obtain ⟨Ma, hMa⟩ : ∃ Z, Z = ttM Mb t1 := ⟨_, rfl⟩
  rw [← hMa]
  replace hA : Ma 0 1 = A := by rw [hMa, hMb]; exact hA
  have hT : TI Ma t1 := by rw [hMa]; exact TI_tt
  have hG : TG n t1 := by rw [ht1]; exact TG_b0
  have hK1 : rK bs n t1 ((0, u.2.1, u.2.2.1, u.2.2.2.1, 0, -1) : TT) := by rw [ht1]; exact u0_K
  have hk : kq Mb Ma := by rw [hMa]; exact kq_r
  have hc21 : Ma 0 0 21 = nI 0 := by rw [hMa, hMb]; rfl
  refine r_while (β := Mem × TT × TT × Nat × (Nat → Int32) × CF) (fun y => if y.2.1.2.2.2.2.1 = 0 then 31 - y.2.2.2.1 else 0) (fun y => kq Mb y.1 ∧ TI y.1 y.2.1 ∧ TG n y.2.1 ∧ y.1 0 1 = A ∧ ((rK bs n y.2.1 y.2.2.1 ∧ y.2.2.2.1 ≤ 30 ∧ y.1 0 0 21 = nI y.2.2.2.1 ∧ CT (y.1 0 21) y.2.2.2.1 y.2.2.2.2.1 y.2.2.2.2.2 ∧ rSl bs n x (31 - y.2.2.2.1) (tNx bs n y.2.2.1) (y.2.2.2.1, y.2.2.2.2.1, y.2.2.2.2.2) = (rSl bs n x 31 (tNx bs n ((0, u.2.1, u.2.2.1, u.2.2.2.1, 0, -1) : TT)) (0, vb, g))) ∨ (rX y.2.1 (rSl bs n x 31 (tNx bs n ((0, u.2.1, u.2.2.1, u.2.2.2.1, 0, -1) : TT)) (0, vb, g)).1.2 ∧ (rSl bs n x 31 (tNx bs n ((0, u.2.1, u.2.2.1, u.2.2.2.1, 0, -1) : TT)) (0, vb, g)).1.1 = 0))) (fun y => y.1) (fun y => [some (rv 0 0), none]) ((Ma, t1, ((0, u.2.1, u.2.2.1, u.2.2.2.1, 0, -1) : TT), 0, vb, g)) ⟨hk, hT, hG, hA, Or.inl ⟨hK1, Nat.zero_le _, hc21, (fun j hj => absurd hj (Nat.not_lt_zero j)), rfl⟩⟩ rfl rfl ?_
  intro y hI kk0
  obtain ⟨Mc, tt, uu, kc, vb9, g9⟩ := y
  obtain ⟨hk, hT, hG, hA, hI⟩ := hI
  dsimp only at hk hT hG hA hI ⊢
  replace hB := (hk.2.2.2.1).trans hBb
  replace hn := (hk.2.2.2.2.2.2.2.2.1).trans hnb
  refine r_aload_n E (dat dkX10_runScript 8 rfl) rfl rfl ?_
  refine q_getn E fl_X10_165 (dat dkX10_runScript 9 rfl) rfl rfl rfl (show (_ : Int32) = _ from hT.2.2.2.2.1) ?_
  by_cases hf0 : tt.2.2.2.2.1 = 0
  ·
    refine r_if_ne (tgt := 35) E (dat dkX10_runScript 10 rfl) rfl (fun h18 => ?_) (fun h18 => ?_)
    ·
      exact absurd hf0 h18
    ·
      refine r_aload_n E (dat dkX10_runScript 11 rfl) rfl rfl ?_
      refine q_getn E fl_X10_174 (dat dkX10_runScript 12 rfl) rfl rfl rfl (show (_ : Int32) = _ from hT.2.2.1) ?_
      refine r_if_eq (tgt := 35) E (dat dkX10_runScript 13 rfl) rfl (fun h25 => ?_) (fun h25 => ?_)
      ·
        have htk : tt.2.1 = 0 := by first | exact h25 | exact Decidable.not_not.mp h25
        obtain ⟨a1, a2, a3, a4, a5⟩ := hI.resolve_right (fun q => fz q.1.1 hf0)
        have hY : (rSl bs n x 31 (tNx bs n ((0, u.2.1, u.2.2.1, u.2.2.2.1, 0, -1) : TT)) (0, vb, g)) = ((1, tNx bs n uu), (kc, vb9, g9)) := a5.symm.trans (rSl_end a2 (a1.2.2.2.2.1.symm.trans htk))
        have hso : ∀ i, i < kc → SO x vb9 g9 i := by
          have h := rSl_so (b := bs) (n := n) hx 31 (tNx bs n ((0, u.2.1, u.2.2.1, u.2.2.2.1, 0, -1) : TT)) 0 vb g (by decide) (fun i hi => absurd hi (Nat.not_lt_zero i))
          rw [hY] at h
          exact h.2
        refine r_aload_n E (dat dkX10_runScript 17 rfl) rfl rfl ?_
        refine r_callV (κ := 9) (μ := []) E (sp_X10_endText l G _) my_X10_endText iv_X10_endText ml_X10_249 cm_id ⟨by decide, rfl, rfl⟩ rfl rfl rfl rfl (by decide) (Nat.le_of_ble_eq_true rfl) (dat dkX10_runScript 18 rfl) ?_
        rintro _ M9 ⟨rfl, rfl⟩
        refine ⟨_, Mrg_m0, ?_⟩
        obtain ⟨Me, hMe⟩ : ∃ Z, Z = setm Mc 0 (enM (vw [] Mc) 0) := ⟨_, rfl⟩
        rw [← hMe]
        have hAe : Me 0 1 = A := by rw [hMe]; exact hA
        have h17 : Me 0 0 17 = tt.2.2.2.2.1 := by rw [hMe]; exact hT.2.2.2.2.1
        
        refine r_aload_n E (dat dkX10_runScript 19 rfl) rfl rfl ?_
        refine q_getn E fl_X10_165 (dat dkX10_runScript 20 rfl) rfl rfl rfl rfl ?_
        refine r_if_le (tgt := 48) E (dat dkX10_runScript 21 rfl) rfl (fun h43 => ?_) (fun h43 => ?_)
        ·
          have hPe : Me 0 4 = P := by
            rw [hMe]
            refine (show Mc 0 4 = Mb 0 4 from hk.2.2.1).trans ?_
            rw [hMb]; exact hP
          have hke : Me 0 0 4 = nI k := by
            rw [hMe]
            refine (show Mc 0 0 4 = Mb 0 0 4 from hk.2.2.2.2.2.1).trans ?_
            rw [hMb]; exact hk4
          refine r_aload_n E (dat dkX10_runScript 24 rfl) rfl rfl ?_
          refine r_callV (κ := 9) (μ := []) E (sp_X10_remember l G P A k _ hPe hke hAe hk8) my_X10_remember iv_X10_remember ml_X10_320 cm_id ⟨by decide, rfl, rfl⟩ rfl rfl rfl rfl (by decide) (Nat.le_of_ble_eq_true rfl) (dat dkX10_runScript 25 rfl) ?_
          rintro _ _ ⟨rfl, rfl⟩
          refine ⟨_, Mrg_rm (by decide) rfl, ?_⟩
          refine r_iconst (v := 0) E (dat dkX10_runScript 26 rfl) rfl ?_
          refine r_istore_1 E (dat dkX10_runScript 27 rfl) rfl rfl ?_
          refine r_for (kc) (fun i => exC (exG x vb9 g9 T) (kc - i) i = exC (exG x vb9 g9 T) kc 0 ∧ ZI x (exT x vb9 g9 T i) (L + 9 * (i : Int))) (fun i => md (rmM Me P A k) (enc A0 x (exT x vb9 g9 T i))) (fun i => [some (rv 0 0), some (iv (nI i))]) ⟨rfl, by show ZI x T (L + 9 * ((0 : Nat) : Int)); rw [show L + 9 * ((0 : Nat) : Int) = L by omega]; exact hz⟩ (md_of (hAe.trans hE)) rfl ?_ ?_
          · intro i hi hI2 kk
            obtain ⟨v, hvi, hv8, c0, c1, c2, c3⟩ := a4 i hi
            obtain ⟨v2, w1, w2, w3, w4⟩ := hso i hi
            obtain rfl : v = v2 := (nI_eq (by omega) (by omega)).mp (hvi.symm.trans w2)
            refine r_iload_n E (dat dkX10_runScript 28 rfl) rfl rfl ?_
            refine r_aload_n E (dat dkX10_runScript 29 rfl) rfl rfl ?_
            refine q_getn E fl_X10_276 (dat dkX10_runScript 30 rfl) rfl rfl rfl (show (_ : Int32) = nI kc from by rw [hMe]; exact a3) ?_
            refine q_icmp_ge (tgt := 76) E (dat dkX10_runScript 31 rfl) rfl rfl rfl (by omega) (by omega) (fun h59 => ?_) (fun h59 => ?_)
            ·
              omega
            ·
              refine r_aload_n E (dat dkX10_runScript 32 rfl) rfl rfl ?_
              refine r_iload_n E (dat dkX10_runScript 33 rfl) rfl rfl ?_
              refine r_callV (κ := 9) (μ := []) E (sp_ex l G v hv8 A0 x (exT x vb9 g9 T i) (L + 9 * (i : Int)) (Mc 0 21) i (g9.1 i) (g9.2.1 i) (g9.2.2 i) _ md_a hx hv (exT_pl hx hpl i) hI2.2 (by omega) (by omega) (by rw [hMe]; rfl) c0 c1 c2 c3 w3 w4) my_X10_execute iv_X10_execute ml_X10_323 cm_id ⟨by decide, rfl, rfl⟩ rfl rfl rfl rfl (by decide) (Nat.le_of_ble_eq_true rfl) (dat dkX10_runScript 34 rfl) ?_
              rintro _ M9 ⟨rfl, hM9, hz9⟩
              refine ⟨_, Mrg_md (by decide) hM9, ?_⟩
              obtain ⟨es1, es2⟩ := exT_s (x := x) (g := g9) (T := T) hvi hv8
              rw [← es1] at hz9 ⊢
              rw [← es2]
              refine r_if_eq (tgt := 76) E (dat dkX10_runScript 35 rfl) rfl (fun h67 => ?_) (fun h67 => ?_)
              ·
                refine r_iload_n E (dat dkX10_runScript 38 rfl) rfl rfl ?_
                refine r_ireturn E (dat dkX10_runScript 39 rfl) (by decide) (by decide) ?_
                first
                  | (have hN8 : exC (exG x vb9 g9 T) kc 0 = i := by rw [← hI2.1, exC_hit hi (by first | exact h67 | exact Decidable.not_not.mp h67)]
                     have es3 : exT x vb9 g9 T (i + 1) = exT x vb9 g9 T i := by
                       rw [es1]
                       exact exK_z _ (by first | (rw [es2] at h67; exact h67) | (rw [es2] at h67; exact Decidable.not_not.mp h67))
                     have q9 := hk
                     obtain ⟨z1, z2, z3, z4, z5, z6, z7, z8, z9, z10, z11, z12⟩ := q9
                     rw [hMb] at z1 z2 z3 z4 z5 z6 z7 z8 z9 z10 z11 z12
                     right
                     refine ⟨by rw [hY]; exact (by decide : ¬ (1 : Int32) = 0), ?_, ⟨by rw [hMe]; exact z1, by rw [hMe]; exact z2, by rw [hMe]; exact z4, by rw [hMe]; exact z5, by rw [hMe]; exact z7, by rw [hMe]; exact z12, by rw [hMe]; exact z8, by rw [hMe]; rfl⟩, ?_, ?_, by rw [← hE]; rfl, rfl, ?_, ?_, by rw [hY]; exact a1.2.1, by rw [hY]; exact a1.2.2.2.2.2.2.2⟩
                     · rw [hY]
                       show _ = some (iv (nI (exC (exG x vb9 g9 T) kc 0)))
                       rw [hN8]
                     · rw [hY]
                       show _ = enc A0 x (exT x vb9 g9 T (exC (exG x vb9 g9 T) kc 0))
                       rw [hN8]
                       show enc A0 x (exT x vb9 g9 T (i + 1)) = _
                       rw [es3]
                     · rw [hY]
                       show ZI x (exT x vb9 g9 T (exC (exG x vb9 g9 T) kc 0)) (L + 270)
                       rw [hN8]
                       exact ⟨hI2.2.1, hI2.2.2.1, NN_mono hI2.2.2.2 (by omega)⟩
                     · show Me 0 0 11 = 0
                       rw [hMe]; exact hT.2.2.2.2.1.trans hf0
                     · show Me 0 0 12 = -1
                       rw [hMe]
                       show (if Mc 0 0 17 = 0 then (-1 : Int32) else Mc 0 0 18) = -1
                       rw [if_pos (hT.2.2.2.2.1.trans hf0)])
                  | (have hN8 : exC (exG x vb9 g9 T) kc 0 = kc := by rw [← hI2.1, exC_no (Nat.le_refl _)]
                     have q9 := hk
                     obtain ⟨z1, z2, z3, z4, z5, z6, z7, z8, z9, z10, z11, z12⟩ := q9
                     rw [hMb] at z1 z2 z3 z4 z5 z6 z7 z8 z9 z10 z11 z12
                     right
                     refine ⟨by rw [hY]; exact (by decide : ¬ (1 : Int32) = 0), ?_, ⟨by rw [hMe]; exact z1, by rw [hMe]; exact z2, by rw [hMe]; exact z4, by rw [hMe]; exact z5, by rw [hMe]; exact z7, by rw [hMe]; exact z12, by rw [hMe]; exact z8, by rw [hMe]; rfl⟩, ?_, ?_, by rw [← hE]; rfl, rfl, ?_, ?_, by rw [hY]; exact a1.2.1, by rw [hY]; exact a1.2.2.2.2.2.2.2⟩
                     · rw [hY]
                       show _ = some (iv (nI (exC (exG x vb9 g9 T) kc 0)))
                       rw [hN8]
                     · rw [hY]
                       show _ = enc A0 x (exT x vb9 g9 T (exC (exG x vb9 g9 T) kc 0))
                       rw [hN8]
                       rfl
                     · rw [hY]
                       show ZI x (exT x vb9 g9 T (exC (exG x vb9 g9 T) kc 0)) (L + 270)
                       rw [hN8]
                       exact ⟨hI2.2.1, hI2.2.2.1, NN_mono hI2.2.2.2 (by omega)⟩
                     · show Me 0 0 11 = 0
                       rw [hMe]; exact hT.2.2.2.2.1.trans hf0
                     · show Me 0 0 12 = -1
                       rw [hMe]
                       show (if Mc 0 0 17 = 0 then (-1 : Int32) else Mc 0 0 18) = -1
                       rw [if_pos (hT.2.2.2.2.1.trans hf0)])
              ·
                refine q_iinc_1 E (dat dkX10_runScript 36 rfl) rfl rfl ?_
                refine r_goto (tgt := 54) E (dat dkX10_runScript 37 rfl) rfl ?_
                refine kk ⟨(exC_go hi h67).trans hI2.1, ?_⟩
                rw [show L + 9 * ((i + 1 : Nat) : Int) = L + 9 * (i : Int) + 9 by omega]
                exact hz9
          · intro hI2
            refine r_iload_n E (dat dkX10_runScript 28 rfl) rfl rfl ?_
            refine r_aload_n E (dat dkX10_runScript 29 rfl) rfl rfl ?_
            refine q_getn E fl_X10_276 (dat dkX10_runScript 30 rfl) rfl rfl rfl (show (_ : Int32) = nI kc from by rw [hMe]; exact a3) ?_
            refine q_icmp_ge (tgt := 76) E (dat dkX10_runScript 31 rfl) rfl rfl rfl (by omega) (by omega) (fun h59 => ?_) (fun h59 => ?_)
            ·
              refine r_iload_n E (dat dkX10_runScript 38 rfl) rfl rfl ?_
              refine r_ireturn E (dat dkX10_runScript 39 rfl) (by decide) (by decide) ?_
              first
                | (have hN8 : exC (exG x vb9 g9 T) kc 0 = i := by rw [← hI2.1, exC_hit hi (by first | exact h67 | exact Decidable.not_not.mp h67)]
                   have es3 : exT x vb9 g9 T (i + 1) = exT x vb9 g9 T i := by
                     rw [es1]
                     exact exK_z _ (by first | (rw [es2] at h67; exact h67) | (rw [es2] at h67; exact Decidable.not_not.mp h67))
                   have q9 := hk
                   obtain ⟨z1, z2, z3, z4, z5, z6, z7, z8, z9, z10, z11, z12⟩ := q9
                   rw [hMb] at z1 z2 z3 z4 z5 z6 z7 z8 z9 z10 z11 z12
                   right
                   refine ⟨by rw [hY]; exact (by decide : ¬ (1 : Int32) = 0), ?_, ⟨by rw [hMe]; exact z1, by rw [hMe]; exact z2, by rw [hMe]; exact z4, by rw [hMe]; exact z5, by rw [hMe]; exact z7, by rw [hMe]; exact z12, by rw [hMe]; exact z8, by rw [hMe]; rfl⟩, ?_, ?_, by rw [← hE]; rfl, rfl, ?_, ?_, by rw [hY]; exact a1.2.1, by rw [hY]; exact a1.2.2.2.2.2.2.2⟩
                   · rw [hY]
                     show _ = some (iv (nI (exC (exG x vb9 g9 T) kc 0)))
                     rw [hN8]
                   · rw [hY]
                     show _ = enc A0 x (exT x vb9 g9 T (exC (exG x vb9 g9 T) kc 0))
                     rw [hN8]
                     show enc A0 x (exT x vb9 g9 T (i + 1)) = _
                     rw [es3]
                   · rw [hY]
                     show ZI x (exT x vb9 g9 T (exC (exG x vb9 g9 T) kc 0)) (L + 270)
                     rw [hN8]
                     exact ⟨hI2.2.1, hI2.2.2.1, NN_mono hI2.2.2.2 (by omega)⟩
                   · show Me 0 0 11 = 0
                     rw [hMe]; exact hT.2.2.2.2.1.trans hf0
                   · show Me 0 0 12 = -1
                     rw [hMe]
                     show (if Mc 0 0 17 = 0 then (-1 : Int32) else Mc 0 0 18) = -1
                     rw [if_pos (hT.2.2.2.2.1.trans hf0)])
                | (have hN8 : exC (exG x vb9 g9 T) kc 0 = kc := by rw [← hI2.1, exC_no (Nat.le_refl _)]
                   have q9 := hk
                   obtain ⟨z1, z2, z3, z4, z5, z6, z7, z8, z9, z10, z11, z12⟩ := q9
                   rw [hMb] at z1 z2 z3 z4 z5 z6 z7 z8 z9 z10 z11 z12
                   right
                   refine ⟨by rw [hY]; exact (by decide : ¬ (1 : Int32) = 0), ?_, ⟨by rw [hMe]; exact z1, by rw [hMe]; exact z2, by rw [hMe]; exact z4, by rw [hMe]; exact z5, by rw [hMe]; exact z7, by rw [hMe]; exact z12, by rw [hMe]; exact z8, by rw [hMe]; rfl⟩, ?_, ?_, by rw [← hE]; rfl, rfl, ?_, ?_, by rw [hY]; exact a1.2.1, by rw [hY]; exact a1.2.2.2.2.2.2.2⟩
                   · rw [hY]
                     show _ = some (iv (nI (exC (exG x vb9 g9 T) kc 0)))
                     rw [hN8]
                   · rw [hY]
                     show _ = enc A0 x (exT x vb9 g9 T (exC (exG x vb9 g9 T) kc 0))
                     rw [hN8]
                     rfl
                   · rw [hY]
                     show ZI x (exT x vb9 g9 T (exC (exG x vb9 g9 T) kc 0)) (L + 270)
                     rw [hN8]
                     exact ⟨hI2.2.1, hI2.2.2.1, NN_mono hI2.2.2.2 (by omega)⟩
                   · show Me 0 0 11 = 0
                     rw [hMe]; exact hT.2.2.2.2.1.trans hf0
                   · show Me 0 0 12 = -1
                     rw [hMe]
                     show (if Mc 0 0 17 = 0 then (-1 : Int32) else Mc 0 0 18) = -1
                     rw [if_pos (hT.2.2.2.2.1.trans hf0)])
            ·
              omega
        ·
          (rw [h17] at h43; exact absurd (show tt.2.2.2.2.1 ≤ 0 by rw [hf0]; decide) (by first | exact h43 | exact Int32.not_le.mpr h43))
      ·
        obtain ⟨a1, a2, a3, a4, a5⟩ := hI.resolve_right (fun q => fz q.1.1 hf0)
        have htok : ¬ (tNx bs n uu).2.1 = 0 := fun q => h25 (a1.2.2.2.2.1.trans q)
        refine r_aload_n E (dat dkX10_runScript 14 rfl) rfl rfl ?_
        refine r_callV (κ := 9) (μ := []) E (sp_st l G bs n _ _ (tNx bs n uu) A0 x T _ kc _ hB hn hA hT hG hn6 hE hx (rK_C a1) rfl a3 a2) my_X10_parseStatement iv_X10_parseStatement ml_X10_317 cm_id ⟨by decide, rfl, rfl⟩ rfl rfl rfl rfl (by decide) (Nat.le_of_ble_eq_true rfl) (dat dkX10_runScript 15 rfl) ?_
        rintro _ M9 ⟨rfl, t9, hG9, hp9, hst9⟩
        obtain ⟨Ma, hMr, hk9, hA, hT, hst⟩ := Mrg_st (b := bs) (n := n) (x := x) (u := tNx bs n uu) (k := kc) hp9 hst9
        replace hk := kq_t hk hk9
        have hstep := st_step hx hn6 htok a2 (rfl : Ma 0 21 = Ma 0 21) hst vb9 g9
        refine ⟨_, hMr, ?_⟩
        clear hp9 hMr hk9 hst9 hst
        refine r_goto (tgt := 14) E (dat dkX10_runScript 16 rfl) rfl ?_
        rcases hstep with ⟨uf, s, r1, r2⟩ | ⟨u2, v, g2, r0, hv8, r1, r2, r3, r4, r5⟩
        · refine kk0 (Ma, t9, uu, kc, vb9, g9) ⟨hk, hT, hG9, hA, ?_⟩ ?_
          · have e : (rSl bs n x 31 (tNx bs n ((0, u.2.1, u.2.2.1, u.2.2.2.1, 0, -1) : TT)) (0, vb, g)) = ((0, uf), s) := a5.symm.trans r2
            exact Or.inr ⟨by rw [e]; exact r1, by rw [e]⟩
          · show (if t9.2.2.2.2.1 = 0 then 31 - kc else 0) < (if tt.2.2.2.2.1 = 0 then 31 - kc else 0)
            rw [if_neg (fz r1.1), if_pos hf0]; omega
        · refine kk0 (Ma, t9, u2, kc + 1, upd vb9 kc (nI v), g2) ⟨hk, hT, hG9, hA, ?_⟩ ?_
          · exact Or.inl ⟨r1, by show kc + 1 ≤ 30; omega, r4, CT_s a4 hv8 r3 r5, r2.trans a5⟩
          · show (if t9.2.2.2.2.1 = 0 then 31 - (kc + 1) else 0) < (if tt.2.2.2.2.1 = 0 then 31 - kc else 0)
            rw [if_pos r1.1, if_pos hf0]; omega
  ·
    refine r_if_ne (tgt := 35) E (dat dkX10_runScript 10 rfl) rfl (fun h18 => ?_) (fun h18 => ?_)
    ·
      refine r_aload_n E (dat dkX10_runScript 17 rfl) rfl rfl ?_
      refine r_callV (κ := 9) (μ := []) E (sp_X10_endText l G _) my_X10_endText iv_X10_endText ml_X10_249 cm_id ⟨by decide, rfl, rfl⟩ rfl rfl rfl rfl (by decide) (Nat.le_of_ble_eq_true rfl) (dat dkX10_runScript 18 rfl) ?_
      rintro _ M9 ⟨rfl, rfl⟩
      refine ⟨_, Mrg_m0, ?_⟩
      obtain ⟨Me, hMe⟩ : ∃ Z, Z = setm Mc 0 (enM (vw [] Mc) 0) := ⟨_, rfl⟩
      rw [← hMe]
      have hAe : Me 0 1 = A := by rw [hMe]; exact hA
      have h17 : Me 0 0 17 = tt.2.2.2.2.1 := by rw [hMe]; exact hT.2.2.2.2.1
      
      refine r_aload_n E (dat dkX10_runScript 19 rfl) rfl rfl ?_
      refine q_getn E fl_X10_165 (dat dkX10_runScript 20 rfl) rfl rfl rfl rfl ?_
      refine r_if_le (tgt := 48) E (dat dkX10_runScript 21 rfl) rfl (fun h43 => ?_) (fun h43 => ?_)
      ·
        (rw [h17] at h43; exact absurd (show tt.2.2.2.2.1 ≤ 0 from by first | exact h43 | exact Int32.not_lt.mp h43) (Int32.not_le.mpr (hG.2.1.resolve_left hf0)))
      ·
        refine r_iconst (v := -1) E (dat dkX10_runScript 22 rfl) rfl ?_
        refine r_ireturn E (dat dkX10_runScript 23 rfl) (by decide) (by decide) ?_
        have q9 := hk
        obtain ⟨z1, z2, z3, z4, z5, z6, z7, z8, z9, z10, z11, z12⟩ := q9
        rw [hMb] at z1 z2 z3 z4 z5 z6 z7 z8 z9 z10 z11 z12
        left
        have hd := hI.resolve_left (fun q => hf0 q.1.1)
        refine ⟨hd.2, rfl, ⟨by rw [hMe]; exact z1, by rw [hMe]; exact z2, by rw [hMe]; exact z4, by rw [hMe]; exact z5, by rw [hMe]; exact z7, by rw [hMe]; exact z12, by rw [hMe]; exact z8, by rw [hMe]; rfl⟩, hAe, by rw [hMe]; exact z3, by rw [hMe]; exact z6, ?_, ?_, by rw [← hd.1.2.1]; exact hd.1.1⟩
        · rw [hMe]; exact hT.2.2.2.2.1.trans hd.1.2.1
        · rw [hMe]
          show (if Mc 0 0 17 = 0 then (-1 : Int32) else Mc 0 0 18) = _
          rw [if_neg (by rw [hT.2.2.2.2.1]; exact hf0), hT.2.2.2.2.2]
          exact hd.1.2.2
    ·
      exact absurd (by first | exact h18 | exact Decidable.not_not.mp h18) hf0
