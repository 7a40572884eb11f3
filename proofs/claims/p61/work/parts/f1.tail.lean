/-! the law's end: loadSetup, isLike, the acts -/
theorem LIV_ext {x : PP} {be nm : Nat → Int32} {BP : Nat → Nat → Int32} {q : Nat} {M M2 : Mem} {B T : Nat → Nat → Int32} {L : Int} {o h : Nat} (hV : LIV x be nm BP q M B T L o h) (e : ∀ j, j < 20 → M2 j = M j) : LIV x be nm BP q M2 B T L o h := by
  obtain ⟨⟨c1, c2, c3, c4, c5⟩, h10, g3, g19, gW, gS, ⟨o1, o2⟩, o3, o4⟩ := hV
  exact ⟨⟨by rw [e 0 (by decide)]; exact c1, c2, by rw [e q (by omega)]; exact c3, c4, c5⟩, by rw [e 0 (by decide)]; exact h10, by rw [e 3 (by decide)]; exact g3, by rw [e 19 (by decide)]; exact g19, gW, gS, ⟨by rw [e 6 (by decide)]; exact o1, by rw [e 6 (by decide)]; exact o2⟩, o3, o4⟩
theorem Mrg_20 {M M' : Mem} : ∃ M2, Mrg KL.length [] M M' M2 ∧ ∀ j, j < 20 → M2 j = M' j := ⟨fun g => if g < 20 then M' g else M g, ⟨fun j hj => if_pos hj, fun g hg => if_neg (fun q => hg g q rfl)⟩, fun j hj => if_pos hj⟩
theorem cm_LL : CM KL lkC KL lkC [] := cm_nil0 (by decide)
section LEN
variable {p : Program} {l : Launch} {e : Env} {s : State} {m : MethodId} {args : Array Value} {below : List Frame} {meth : Method} {c : Code} {G : GT} {ad : Nat → Nat → Nat} {Q : State → Prop}
/-- the law returns true: that is what it owes -/
def RET1 (p : Program) (l : Launch) (e : Env) (s : State) (m : MethodId) (args : Array Value) (below : List Frame) (meth : Method) (c : Code) (G : GT) (ad : Nat → Nat → Nat) (Q : State → Prop) : Prop := ∀ (M : Mem) (k n pc : Nat) (L : List (Option AV)), k ≤ 600086 → n ≤ 7301442 → decode cL_law pc = .ok (.ireturn, 1) → WM p l e room_1 s m args below meth c G (YK ad) 9 Q M k n pc L [iv 1]
set_option maxRecDepth 100000 in
set_option maxHeartbeats 4000000 in
theorem law_acts (E : EN p s m args meth c G (YK ad) cL_law RL 9 (some .boolean)) (hret : RET1 p l e s m args below meth c G ad Q) (hN : G.2.2.1.1 ≤ 4096) (hst : l.stackTraces = false) {x : PP} {be nm : Nat → Int32} {BP : Nat → Nat → Int32} {q : Nat} {v9 : Int32} (hw : LWi x) (hh : HTi x) (hg : GUi x) {k n : Nat} (hk : k ≤ 500000) (hn : n ≤ 6000000) : ∀ (d i : Nat) (B T : Nat → Nat → Int32) (o h : Nat) (M : Mem), i + d = 46 → LIV x be nm BP q M B T (9 * (i : Int)) o h → (T 0 7).toInt ≤ 4 * (i : Int) → WM p l e room_1 s m args below meth c G (YK ad) 9 Q M (k + 1400 * i) (n + 8300 * i) 614 [some (rv 99 103), some (rv 0 0), some (rv 19 0), some (iv v9), none, some (iv (nI i)), none, none, none] [] := by
  intro d
  induction d with
  | zero =>
    intro i B T o h M hi hV ht
    obtain rfl : i = 46 := by omega
    refine r_iload E (dat dkL_law_k6 38 rfl) rfl ?_
    refine r_bipush E (dat dkL_law_k6 39 rfl) (v := nI 46) rfl ?_
    refine q_icmp_ge (tgt := 666) E (dat dkL_law_k6 40 rfl) rfl rfl rfl (by omega) (by omega) (fun h2 => ?_) (fun h2 => absurd h2 (by omega))
    refine r_aload_n E (dat dkL_law_k7 15 rfl) rfl rfl ?_
    refine r_aload_n E (dat dkL_law_k7 16 rfl) rfl rfl ?_
    refine r_callVj (κ := 9) (μ := []) (j0 := 19) E (sp_L_isLike l hst G be nm BP x q B T (9 * ((46 : Nat) : Int)) (vw [] M) hV.1 hV.2.1 hV.2.2.1 hV.2.2.2.1 hw hV.2.2.2.2.1 hh hV.2.2.2.2.2.1 (by omega)) my_L_isLike iv_L_isLike ml_L_272 cm_LL ⟨by decide, rfl, rfl⟩ rfl rfl rfl rfl ⟨by decide, by decide, by show _ ≤ 600086; dsimp only; omega, by show _ ≤ 7301442; dsimp only; omega⟩ (Nat.le_of_ble_eq_true rfl) (dat dkL_law_k7 17 rfl) ?_
    rintro _ M9 ⟨rfl, Z9, B9, hB1, hB2, rfl⟩
    obtain ⟨M8, hM1, hM2⟩ := Mrg_20 (M := M) (M' := setm (setm (vw [] M) 15 Z9) 19 (LE B9 x T))
    refine ⟨M8, hM1, ?_⟩
    have hV : LIV x be nm BP q M8 B9 T (9 * ((46 : Nat) : Int)) o h := LIV_ext (LIV_like hV hB1 hB2) hM2
    clear hM1 hM2
    generalize M8 = M at hV ⊢
    generalize B9 = B at hV ⊢
    exact hret M _ _ 671 _ (by dsimp only; omega) (by dsimp only; omega) (dat dkL_law_k7 18 rfl)
  | succ d ih =>
    intro i B T o h M hi hV ht
    have hmin : 0 ≤ (T 0 7).toInt := hV.2.2.2.2.2.1.1.2.1.1
    refine r_iload E (dat dkL_law_k6 38 rfl) rfl ?_
    refine r_bipush E (dat dkL_law_k6 39 rfl) (v := nI 46) rfl ?_
    refine q_icmp_ge (tgt := 666) E (dat dkL_law_k6 40 rfl) rfl rfl rfl (by omega) (by omega) (fun h2 => absurd h2 (by omega)) (fun h2 => ?_)
    refine r_aload_n E (dat dkL_law_k6 41 rfl) rfl rfl ?_
    refine r_aload_n E (dat dkL_law_k6 42 rfl) rfl rfl ?_
    refine r_aload_n E (dat dkL_law_k6 43 rfl) rfl rfl ?_
    refine r_bipush E (dat dkL_law_k6 44 rfl) (v := nI 8) rfl ?_
    refine r_iload E (dat dkL_law_k6 45 rfl) rfl ?_
    refine l_iadd E (dat dkL_law_k6 46 rfl) ?_
    refine r_callS (μ := []) E (sp_L_cell l G (8 + i) _ (by omega) hN) my_L_cell is_L_cell ml_L_236 cm_nil rfl rfl ⟨by decide, by decide, by show _ ≤ 600086; dsimp only; omega, by show _ ≤ 7301442; dsimp only; omega⟩ (Nat.le_of_ble_eq_true rfl) (dat dkL_law_k6 47 rfl) ?_
    rintro _ _ ⟨rfl, rfl⟩
    refine ⟨_, Mrg_z rfl, ?_⟩
    generalize scC G (8 + i) = w629
    refine r_wide (k2 := k + 1400 * i) (n2 := n + 8300 * i) (Nat.le_refl _) (Nat.le_refl _) ?_
    refine r_callVj (κ := 9) (μ := []) (j0 := 19) E (sp_L_acts l hst G be nm BP x q B T (9 * (i : Int)) o h w629 (vw [] M) hV hw hh hg (by omega) (by omega)) my_L_acts iv_L_acts ml_L_276 cm_LL ⟨by decide, rfl, rfl⟩ rfl rfl rfl rfl ⟨by decide, by decide, by show _ ≤ 600086; dsimp only; omega, by show _ ≤ 7301442; dsimp only; omega⟩ (Nat.le_of_ble_eq_true rfl) (dat dkL_law_k6 48 rfl) ?_
    rintro _ M9 ⟨rfl, B2, T2, o2, h2, hV2, ht2⟩
    obtain ⟨M8, hM1, hM2⟩ := Mrg_20 (M := M) (M' := M9)
    refine ⟨M8, hM1, ?_⟩
    have hV3 := LIV_ext hV2 hM2
    have e9 : 9 * (i : Int) + 9 = 9 * ((i + 1 : Nat) : Int) := by omega
    rw [e9] at hV3
    have ht3 : (T2 0 7).toInt ≤ 4 * ((i + 1 : Nat) : Int) := by omega
    clear hM1 hM2 hV2 hV ht hmin ht2
    generalize M8 = M at hV3 ⊢
    refine r_if_ne (tgt := 640) E (dat dkL_law_k6 49 rfl) rfl (fun _ => ?_) (fun h3 => absurd h3 (by decide))
    have hend : ∀ (B : Nat → Nat → Int32) (M : Mem), LIV x be nm BP q M B T2 (9 * ((i + 1 : Nat) : Int)) o2 h2 → WM p l e room_1 s m args below meth c G (YK ad) 9 Q M (k + 1400 * (i + 1)) (n + 8300 * (i + 1)) 660 [some (rv 99 103), some (rv 0 0), some (rv 19 0), some (iv v9), none, some (iv (nI i)), none, none, none] [] := by
      intro B M hV
      refine q_iinc_5 E (dat dkL_law_k7 13 rfl) rfl rfl ?_
      refine r_goto (tgt := 614) E (dat dkL_law_k7 14 rfl) rfl ?_
      exact ih (i + 1) B T2 o2 h2 M (by omega) hV ht3
    refine r_iload E (dat dkL_law_k7 2 rfl) rfl ?_
    refine r_bipush E (dat dkL_law_k7 3 rfl) (v := nI 8) rfl ?_
    refine l_irem E (by omega) (by omega) (by omega) (dat dkL_law_k7 4 rfl) ?_
    refine r_bipush E (dat dkL_law_k7 5 rfl) (v := nI 7) rfl ?_
    refine q_icmp_ne (tgt := 660) E (dat dkL_law_k7 6 rfl) rfl rfl rfl (by omega) (by omega) (fun h7 => ?_) (fun h7 => ?_)
    · refine r_wide (k2 := k + 1400 * (i + 1)) (n2 := n + 8300 * (i + 1)) (by dsimp only; omega) (by dsimp only; omega) ?_
      exact hend B2 M hV3
    ·
      have hV := hV3
      have hmin : 0 ≤ (T2 0 7).toInt := hV.2.2.2.2.2.1.1.2.1.1
      generalize B2 = B at hV
      generalize hT : T2 = T at hV ht3 hend hmin
      generalize ho : o2 = o at hV hend
      generalize hh9 : h2 = h at hV hend
      refine r_aload_n E (dat dkL_law_k7 7 rfl) rfl rfl ?_
      refine r_aload_n E (dat dkL_law_k7 8 rfl) rfl rfl ?_
      refine r_callVj (κ := 9) (μ := []) (j0 := 19) E (sp_L_isLike l hst G be nm BP x q B T (9 * ((i + 1 : Nat) : Int)) (vw [] M) hV.1 hV.2.1 hV.2.2.1 hV.2.2.2.1 hw hV.2.2.2.2.1 hh hV.2.2.2.2.2.1 (by omega)) my_L_isLike iv_L_isLike ml_L_272 cm_LL ⟨by decide, rfl, rfl⟩ rfl rfl rfl rfl ⟨by decide, by decide, by show _ ≤ 600086; dsimp only; omega, by show _ ≤ 7301442; dsimp only; omega⟩ (Nat.le_of_ble_eq_true rfl) (dat dkL_law_k7 9 rfl) ?_
      rintro _ M9 ⟨rfl, Z9, B9, hB1, hB2, rfl⟩
      obtain ⟨M8, hM1, hM2⟩ := Mrg_20 (M := M) (M' := setm (setm (vw [] M) 15 Z9) 19 (LE B9 x T))
      refine ⟨M8, hM1, ?_⟩
      have hV : LIV x be nm BP q M8 B9 T (9 * ((i + 1 : Nat) : Int)) o h := LIV_ext (LIV_like hV hB1 hB2) hM2
      clear hM1 hM2
      generalize M8 = M at hV ⊢
      generalize B9 = B at hV ⊢
      refine r_if_ne (tgt := 660) E (dat dkL_law_k7 10 rfl) rfl (fun _ => ?_) (fun h3 => absurd h3 (by decide))
      refine r_wide (k2 := k + 1400 * (i + 1)) (n2 := n + 8300 * (i + 1)) (by dsimp only; omega) (by dsimp only; omega) ?_
      exact hend B M hV
/-- the plan's arrays that nobody has written yet -/
abbrev bb0 : BBq := (z1, z1, z1, rw4 z1 z1 z1 z1)
set_option maxRecDepth 100000 in
set_option maxHeartbeats 4000000 in
theorem law_load (E : EN p s m args meth c G (YK ad) cL_law RL 9 (some .boolean)) (hret : RET1 p l e s m args below meth c G ad Q) (hN : G.2.2.1.1 ≤ 4096) (hst : l.stackTraces = false) {u v bt rn cnt k n : Nat} {v9 : Int32} {he gu nl fp bh : Nat → Int32} {r hi gA : Nat → Nat → Int32} {br bc tl b2 : Nat → Int32} {tx : List Nat} {M : Mem} (hk : k ≤ 400000) (hn : n ≤ 5000000) (hu : 2 ≤ u ∧ u ≤ 5) (hv : 2 ≤ v ∧ v ≤ 5) (hbt : bt ≤ 2) (hrn : rn ≤ 2) (hP : PRd tx ((0, 0, 0), z1, (fun _ => 0), 0, (0, bb0)) ((u, v, u * v), he, gu, nI rn, (bt, nl, fp, bh, r)) cnt) (hcnt : cnt < 600) (htx : tx.length ≤ 142) (hc7 : ∀ c ∈ tx, c < 128) (hb2 : ∀ i, i < tx.length → b2 i = nI (tx.getD i 0)) (hhe : ∀ k, k < u * v → ∃ h, h < 10 ∧ he k = nI h) (hhi : ∀ a b, a < 7 → b < 7 → hi a b = if (1 ≤ a ∧ a ≤ u) ∧ (1 ≤ b ∧ b ≤ v) then he ((a - 1) * v + (b - 1)) else 100000) (hgu : ∀ j, ∃ g, g ≤ 9 ∧ gu j = nI g) (hga : ∀ a b, (1 ≤ a ∧ a ≤ u) → (1 ≤ b ∧ b ≤ v) → gA a b = gu ((a - 1) * v + (b - 1))) (hnl : ∀ i, i < bt → nl i = nI 1) (hb : ∀ b, b < bt → ∃ a c t, (1 ≤ a ∧ a ≤ u) ∧ (1 ≤ c ∧ c ≤ v) ∧ (1 ≤ t ∧ t ≤ 9) ∧ br b = nI a ∧ bc b = nI c ∧ fp b = nI ((a - 1) * v + (c - 1)) ∧ tl b = nI t ∧ bh b = nI t) (h19 : M 19 = ZF (flF u v bt rn) hi gA br bc tl) (hM1 : M 1 = vTx (zT0 0) tx.length b2 fsR.1.2) (hj : ∀ j, j < 19 → j ≠ 1 → M j = ctyM j) : WM p l e room_1 s m args below meth c G (YK ad) 9 Q M k n 585 [some (rv 99 103), some (rv 0 0), some (rv 19 0), some (iv v9), none, none, none, none, none] [] := by
  have hA : AtT b2 0 tx := fun i hi => by rw [Nat.zero_add]; exact hb2 i hi
  have h18 : M 18 = fun _ _ => 0 := (hj 18 (by decide) (by decide)).trans rfl
  have hR0 : lsR (vw [] M) (35 - 17) b2 tx.length fsR.1.2 = rFr b2 tx.length fsR.1.2 ((0, z1, z1, z1, rw4 z1 z1 z1 z1) : BB) z1 := by
    show rFr b2 tx.length fsR.1.2 ((0, M 18 5, M 18 7, M 18 6, rw4 (M 18 8) (M 18 9) (M 18 10) (M 18 11)) : BB) (M 18 1) = _
    rw [h18]
  obtain ⟨ok1, ok2⟩ := rFr_ok (t := fsR.1.2) (bb := ((0, z1, z1, z1, rw4 z1 z1 z1 z1) : BB)) hA rfl (by omega) hcnt hP hu.1
  rw [← hR0] at ok1 ok2
  have hpi := x_pi (u := u) (v := v) (bt := bt) (rn := rn) (he := he) (gu := gu) (nl := nl) (fp := fp) (bh := bh) (r := r) (br := br) (bc := bc) (tl := tl) hu hv hbt hnl hb
  have h00 : M 0 = ctyM 0 := hj 0 (by decide) (by decide)
  have h17 : M 17 = vPx z2 (rFb fsR z1) z1 fsR.2 := (hj 17 (by decide) (by decide)).trans rfl
  refine r_aload_n E (dat dkL_law_k6 22 rfl) rfl rfl ?_
  refine r_callV (κ := 8) (μ := []) E (sp_X9_loadSetup l G z2 (rFb fsR z1) z1 fsR.2 17 (vw [] M) (by show (M 0 0 9).toNatClampNeg = 17; rw [h00]; rfl) (Or.inl rfl) h17 fs_pi (by show (M 0 0 10).toNatClampNeg = 18; rw [h00]; rfl) (zT0 0) tx.length b2 fsR.1.2 hM1 (by omega) (fun i hi => by rw [hb2 i hi]; exact (fit_all _ (hc7 _ (getD_mem hi))).2.2)) my_X9_loadSetup iv_X9_loadSetup ml_L_269 cm_KL ⟨by decide, rfl, rfl⟩ rfl rfl rfl rfl ⟨by decide, by decide, by show _ ≤ 600086; dsimp only; omega, by show _ ≤ 7301442; dsimp only; omega⟩ (Nat.le_of_ble_eq_true rfl) (dat dkL_law_k6 23 rfl) ?_
  rintro _ M9 (⟨h0, _, _⟩ | ⟨_, rfl, rfl⟩)
  · exact absurd h0 (by rw [ok1]; decide)
  have hno : ∀ j, j ≠ 0 → j ≠ 1 → j ≠ 3 → j ≠ 6 → j ≠ 18 → lsN (vw [] M) (35 - 17) 17 (zT0 0) b2 tx.length fsR.1.2 j = M j := fun j h0 h1 h3 h6 h9 => by
    unfold lsN isM pdM lsM
    rw [setm_n h0, setm_n h6, setm_n h3, setm_n h0, setm_n h0, setm_n h1, setm_n h9]
    rfl
  refine ⟨lsN (vw [] M) (35 - 17) 17 (zT0 0) b2 tx.length fsR.1.2, ⟨fun j hj2 => rfl, fun g hg => ?_⟩, ?_⟩
  · have : 19 ≤ g := Nat.not_lt.mp (fun q => hg g q rfl)
    exact hno g (by omega) (by omega) (by omega) (by omega) (by omega)
  rw [ok2]
  have e3 : lsN (vw [] M) (35 - 17) 17 (zT0 0) b2 tx.length fsR.1.2 3 = stT ((u, v, u * v), he, gu, nI rn, (bt, nl, fp, bh, r)) (M 3) := by
    unfold lsN isM
    rw [setm_n (by decide), setm_n (by decide), setm_s, ok2]
    rfl
  have e6 : lsN (vw [] M) (35 - 17) 17 (zT0 0) b2 tx.length fsR.1.2 6 = vH (M 6) (M 6 0 1) 0 (M 6 1) := by
    unfold lsN isM
    rw [setm_n (by decide), setm_s]
    rfl
  have e18 : lsN (vw [] M) (35 - 17) 17 (zT0 0) b2 tx.length fsR.1.2 18 = vPx (M 18) (rFb (lsR (vw [] M) (35 - 17) b2 tx.length fsR.1.2) (M 18 3)) (M 18 4) ((u, v, u * v), he, gu, nI rn, (bt, nl, fp, bh, r)) := by
    unfold lsN isM pdM lsM
    rw [setm_n (by decide), setm_n (by decide), setm_n (by decide), setm_n (by decide), setm_n (by decide), setm_n (by decide)]
    show setm (vw [] M) 18 (lsP (vw [] M) 18 b2 tx.length fsR.1.2) 18 = _
    rw [setm_s]
    unfold lsP
    rw [show lsR (vw [] M) 18 b2 tx.length fsR.1.2 = lsR (vw [] M) (35 - 17) b2 tx.length fsR.1.2 from rfl, ok2]
    rfl
  have e09 : (lsN (vw [] M) (35 - 17) 17 (zT0 0) b2 tx.length fsR.1.2 0 0 9).toNatClampNeg = 18 := by rfl
  have e010 : (lsN (vw [] M) (35 - 17) 17 (zT0 0) b2 tx.length fsR.1.2 0 0 10).toNatClampNeg = 17 := by rfl
  have h6 : M 6 = fun _ _ => 0 := (hj 6 (by decide) (by decide)).trans rfl
  have hbe : BEx (rFb (lsR (vw [] M) (35 - 17) b2 tx.length fsR.1.2) (M 18 3)) ((u, v, u * v), he, gu, nI rn, (bt, nl, fp, bh, r)) := by
    have := rFb_be (Rr := lsR (vw [] M) (35 - 17) b2 tx.length fsR.1.2) (b2 := M 18 3) (by rw [ok1]; decide) (by rw [ok2]; exact hpi)
    rw [ok2] at this
    exact this
  have hLE := x_LE (u := u) (v := v) (bt := bt) (rn := rn) (he := he) (gu := gu) (nl := nl) (fp := fp) (bh := bh) (r := r) (T := M 3) hu hv hbt hhi hga hb
  have e19 : lsN (vw [] M) (35 - 17) 17 (zT0 0) b2 tx.length fsR.1.2 19 = ZF (flF u v bt rn) hi gA br bc tl := (hno 19 (by decide) (by decide) (by decide) (by decide) (by decide)).trans h19
  have hV : LIV ((u, v, u * v), he, gu, nI rn, (bt, nl, fp, bh, r)) (rFb (lsR (vw [] M) (35 - 17) b2 tx.length fsR.1.2) (M 18 3)) (M 18 4) (M 18) 18 (lsN (vw [] M) (35 - 17) 17 (zT0 0) b2 tx.length fsR.1.2) (ZF (flF u v bt rn) hi gA br bc tl) (stT ((u, v, u * v), he, gu, nI rn, (bt, nl, fp, bh, r)) (M 3)) (9 * ((0 : Nat) : Int)) 0 0 := by
    refine ⟨⟨e09, Or.inr rfl, e18, hpi, hbe⟩, by rw [e010]; decide, e3, by rw [e19, hLE], x_WL hhi, LSt_stt hpi ⟨nI_pos0 rn, (nI_leI (b := 2) (by omega) (by decide)).mpr hrn⟩, ⟨?_, ?_⟩, by decide, by decide⟩
    · rw [e6, h6]; rfl
    · rw [e6, h6]; rfl
  have hw : LWi ((u, v, u * v), he, gu, nI rn, (bt, nl, fp, bh, r)) := ⟨hu, hv, hbt⟩
  have hh : HTi ((u, v, u * v), he, gu, nI rn, (bt, nl, fp, bh, r)) := fun k hk2 => by obtain ⟨h, h1, h2⟩ := hhe k hk2; show 0 ≤ (he k).toInt ∧ (he k).toInt ≤ 9; rw [h2, nI_toInt (by omega)]; omega
  have hg : GUi ((u, v, u * v), he, gu, nI rn, (bt, nl, fp, bh, r)) := fun k hk2 => by obtain ⟨h, h1, h2⟩ := hgu k; show 0 ≤ (gu k).toInt ∧ (gu k).toInt ≤ 9; rw [h2, nI_toInt (by omega)]; omega
  have t7 : ((stT ((u, v, u * v), he, gu, nI rn, (bt, nl, fp, bh, r)) (M 3)) 0 7).toInt = 0 := rfl
  generalize stT ((u, v, u * v), he, gu, nI rn, (bt, nl, fp, bh, r)) (M 3) = T at hV t7
  generalize lsN (vw [] M) (35 - 17) 17 (zT0 0) b2 tx.length fsR.1.2 = M3 at hV e19 ⊢
  generalize rFb (lsR (vw [] M) (35 - 17) b2 tx.length fsR.1.2) (M 18 3) = be at hV
  generalize M 18 4 = nm at hV
  generalize M 18 = BP at hV
  refine r_aload_n E (dat dkL_law_k6 24 rfl) rfl rfl ?_
  refine q_getn E fl_L_95 (dat dkL_law_k6 25 rfl) rfl rfl rfl ((congrFun (congrFun e19 0) 12).trans (rfl : _ = nI u)) ?_
  refine r_aload_n E (dat dkL_law_k6 26 rfl) rfl rfl ?_
  refine q_getn E fl_L_98 (dat dkL_law_k6 27 rfl) rfl rfl rfl ((congrFun (congrFun e19 0) 13).trans (rfl : _ = nI v)) ?_
  refine l_imul E (dat dkL_law_k6 28 rfl) ?_
  refine r_icmp_ne (tgt := 609) E (dat dkL_law_k6 29 rfl) rfl (fun h5 => absurd rfl h5) (fun _ => ?_)
  refine r_aload_n E (dat dkL_law_k6 30 rfl) rfl rfl ?_
  refine r_aload_n E (dat dkL_law_k6 31 rfl) rfl rfl ?_
  clear e19 hLE
  generalize ZF (flF u v bt rn) hi gA br bc tl = B at hV
  generalize ((u, v, u * v), he, gu, nI rn, (bt, nl, fp, bh, r)) = x at hV hw hh hg
  refine r_callVj (κ := 9) (μ := []) (j0 := 19) E (sp_L_isLike l hst G be nm BP x 18 B T (9 * ((0 : Nat) : Int)) (vw [] M3) hV.1 hV.2.1 hV.2.2.1 hV.2.2.2.1 hw hV.2.2.2.2.1 hh hV.2.2.2.2.2.1 (by omega)) my_L_isLike iv_L_isLike ml_L_272 cm_LL ⟨by decide, rfl, rfl⟩ rfl rfl rfl rfl ⟨by decide, by decide, by show _ ≤ 600086; dsimp only; omega, by show _ ≤ 7301442; dsimp only; omega⟩ (Nat.le_of_ble_eq_true rfl) (dat dkL_law_k6 32 rfl) ?_
  rintro _ M9 ⟨rfl, Z9, B9, hB1, hB2, rfl⟩
  obtain ⟨M8, hM1, hM2⟩ := Mrg_20 (M := M3) (M' := setm (setm (vw [] M3) 15 Z9) 19 (LE B9 x T))
  refine ⟨M8, hM1, ?_⟩
  have hV8 : LIV x be nm BP 18 M8 B9 T (9 * ((0 : Nat) : Int)) 0 0 := LIV_ext (LIV_like hV hB1 hB2) hM2
  refine r_if_ne (tgt := 611) E (dat dkL_law_k6 33 rfl) rfl (fun _ => ?_) (fun h3 => absurd h3 (by decide))
  refine r_iconst E (dat dkL_law_k6 36 rfl) (v := nI 0) rfl ?_
  refine r_istore_5 E (dat dkL_law_k6 37 rfl) rfl rfl ?_
  refine r_wide (k2 := k + 2000 + 1400 * 0) (n2 := n + 9000 + 8300 * 0) (by dsimp only; omega) (by dsimp only; omega) ?_
  exact law_acts E hret hN hst hw hh hg (k := k + 2000) (n := n + 9000) (by omega) (by omega) 46 0 B9 T 0 0 M8 (by omega) hV8 (by rw [t7]; decide)
end LEN
