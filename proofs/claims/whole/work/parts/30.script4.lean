section RV
variable {p : Program} {l : Launch} {e : Env} {R : Room} {s : State} {m : MethodId} {args : Array Value} {below : List Frame} {meth : Method} {c : Code} {G : GT} {Y : LV} {nL : Nat} {Q : State → Prop} {M : Mem} {k n pc : Nat} {L : List (Option AV)} {S : List AV} {cc : ByteArray} {own : String} {ret : Option FieldType}

theorem r_ifnonnullN (E : EN p s m args meth c G Y cc own nL ret) {off : Int} (hd : decode cc pc = .ok (.ifnonnull off, 3)) (kk : WM p l e R s m args below meth c G Y nL Q M k n (pc + 3) L S) : WM p l e R s m args below meth c G Y nL Q M k n pc L (.inl .null :: S) := fun H locs ls hP hS hl => lv_ifnonnullN E.1 E.2.1 hd (kk H locs ls hP hS hl)
theorem q_vast (E : EN p s m args meth c G Y cc own nL ret) {j t N i k1 : Nat} {x : Int32} {f : Nat → Int32} {M2 : (Nat → Int32) → Mem} (hd : decode cc pc = .ok (.aastore, 1)) (ha : ae (kdY Y j) t = some (6, N)) (hj : okb Y j t = true) (hN : N ≤ 4096) (hg : M j t = f) (hs : ∀ f, setm M j (sett (M j) t f) = M2 f) (hxi : x = nI i) (hi : i < N) (hk : k1 < 8) (kk : WM p l e R s m args below meth c G Y nL Q (M2 (upd f i (nI k1))) k n (pc + 1) L S) : WM p l e R s m args below meth c G Y nL Q M k n pc L (rv 98 k1 :: iv x :: rv j t :: S) := by
  intro H locs ls hP hS hl
  have E0 := E
  obtain ⟨hx, hb, hml, hown, hts, hr, hlk, ⟨hnw, hK, hX⟩, hD⟩ := E
  obtain ⟨q0, hq, hw⟩ := wl_at (G := G) (M := M) (okb_ok hj)
  rw [ar_ce ha] at hw
  have hin := vp_nI hxi hi hN
  obtain ⟨cell, c1, c2, c3⟩ := KRC_e E0 hk hS
  obtain ⟨kC, hkC, -⟩ := Vm.findClass_spec c3
  refine va_astqM (D := G.1) (E := "PuddleCity$Verb") hx hb hK hP (hD M) hS q0 6 hw rfl ⟨cell, c1, c2, ⟨kC, hkC⟩, fun comp h => by cases c3.symm.trans h; exact va_asg _ _⟩ hin hd (fun H1 locs1 hP1 _ hS1 => ?_)
  rw [cl_nI hxi hi hN] at hP1
  refine kk H1 locs1 ls ?_ hS1 hl
  rw [← hs (upd f i (nI k1)), ← hg, ← wl_set hq (x := .inl (G.2 6, (N, .inr (.inr (.inr (.inr (va_up (fun z => rr Y 6 j z (M j t z)) i (some (Y.2.2 98 k1))))))))) ((ar_ce ha _).trans (by
    rw [sett_s]
    show Sum.inl (_, (_, Sum.inr (Sum.inr (Sum.inr (Sum.inr _))))) = _
    congr 7
    funext z
    by_cases hz : z = i
    · subst hz
      rw [va_up_self]
      show rr Y 6 j z (upd (M j t) z (nI k1) z) = _
      rw [pk_us]
      show (if nI k1 < 0 then none else some (Y.2.2 98 (nI k1).toNatClampNeg)) = _
      rw [if_neg (nI_pos (by omega)), nI_clamp (by omega)]
    · rw [va_up_ne _ _ hz]
      show rr Y 6 j z (upd (M j t) i (nI k1) z) = _
      rw [pk_un hz]))]
  exact hP1
theorem q_val6 (E : EN p s m args meth c G Y cc own nL ret) {j t N i k1 : Nat} {x : Int32} {f : Nat → Int32} (hd : decode cc pc = .ok (.aaload, 1)) (ha : ae (kdY Y j) t = some (6, N)) (hj : okb Y j t = true) (hN : N ≤ 4096) (hg : M j t = f) (hxi : x = nI i) (hi : i < N) (hv : f i = nI k1) (hk : k1 < 8) (kk : WM p l e R s m args below meth c G Y nL Q M k n (pc + 1) L (rv 98 k1 :: S)) : WM p l e R s m args below meth c G Y nL Q M k n pc L (iv x :: rv j t :: S) := by
  intro H locs ls hP hS hl
  have E0 := E
  obtain ⟨hx, hb, hml, hown, hts, hr, hlk, ⟨hnw, hK, hX⟩, hD⟩ := E
  obtain ⟨q0, hq, hw⟩ := wl_at (G := G) (M := M) (okb_ok hj)
  rw [ar_ce ha] at hw
  have hin := vp_nI hxi hi hN
  refine va_aldq (D := G.1) (C := "PuddleCity$Verb") hx hb hK hP q0 6 hw rfl hin hd ?_
  rw [cl_nI hxi hi hN, hg, hv]
  have e : va_rf (rr Y 6 j i (nI k1)) = cv Y (rv 98 k1) := by
    show va_rf (if nI k1 < 0 then none else some (Y.2.2 98 (nI k1).toNatClampNeg)) = _
    rw [if_neg (nI_pos (by omega)), nI_clamp (by omega)]
    rfl
  rw [e]
  exact kk H locs ls hP hS hl
theorem r_astoreN (E : EN p s m args meth c G Y cc own nL ret) {i : Nat} {L2 : List (Option AV)} (hd : decode cc pc = .ok (.astore i, 2)) (hi : i < L.length) (hn : L.length = nL) (hc : ∀ z, z + 1 = i → ac2 ((L[z]?).getD none) = false) (hL : L.set i (some (.inl .null)) = L2) (kk : WM p l e R s m args below meth c G Y nL Q M k n (pc + 2) L2 S) : WM p l e R s m args below meth c G Y nL Q M k n pc L (.inl .null :: S) := fun H locs ls hP hS hl => lv_astoreN E.1 E.2.1 hd hl (hn ▸ hi) rfl (fun ls2 hl2 => kk H locs ls2 hP hS (hL ▸ lvl_set rfl hi hc hl2))
theorem r_aloadN (E : EN p s m args meth c G Y cc own nL ret) {i : Nat} (hd : decode cc pc = .ok (.aload i, 2)) (hL : L[i]? = some (some (.inl .null))) (kk : WM p l e R s m args below meth c G Y nL Q M k n (pc + 2) L (.inl .null :: S)) : WM p l e R s m args below meth c G Y nL Q M k n pc L S := fun H locs ls hP hS hl => lv_aloadN E.1 E.2.1 hd (lvl_at hl hL) (kk H locs ls hP hS hl)
end RV
/-- a script as read: how many, verbs, rows -/
abbrev SC : Type := Nat × (Nat → Int32) × CF
def rSl (b : Nat → Int32) (n : Nat) (x : PP) : Nat → TT → SC → (Int32 × TT) × SC
  | 0, t, s => ((1, t), s)
  | f + 1, t, (k, vb, g) => if t.2.1 = 0 then ((1, t), (k, vb, g)) else match vbF b t with
    | none => ((0, tFl 1 t), (k, vb, g))
    | some v => if k = 30 then ((0, tFl 4 t), (k, vb, g)) else
      if (rNx b n x k v t g).1.1 = 0 then ((0, (rNx b n x k v t g).1.2), (k, upd vb k (nI v), (rNx b n x k v t g).2)) else
      if (tSm b n (rNx b n x k v t g).1.2).1 = 0 then ((0, (tSm b n (rNx b n x k v t g).1.2).2), (k, upd vb k (nI v), (rNx b n x k v t g).2)) else
      rSl b n x f (tNx b n (tSm b n (rNx b n x k v t g).1.2).2) (k + 1, upd vb k (nI v), (rNx b n x k v t g).2)
section
variable {b : Nat → Int32} {n k v : Nat} {x : PP} {t : TT} {vb : Nat → Int32} {g : CF}
theorem rSl_out (h : 30 < k) : rSl b n x (31 - k) t (k, vb, g) = ((1, t), (k, vb, g)) := by
  rw [show 31 - k = 0 by omega]; rfl
theorem rSl_f (h : k ≤ 30) : ∃ f, 31 - k = f + 1 ∧ 31 - (k + 1) = f := ⟨30 - k, by omega, by omega⟩
theorem rSl_end (h : k ≤ 30) (h0 : t.2.1 = 0) : rSl b n x (31 - k) t (k, vb, g) = ((1, t), (k, vb, g)) := by
  obtain ⟨f, hf, -⟩ := rSl_f h
  rw [hf]; exact if_pos h0
theorem rSl_no (h : k ≤ 30) (h0 : ¬ t.2.1 = 0) (hv : vbF b t = none) : rSl b n x (31 - k) t (k, vb, g) = ((0, tFl 1 t), (k, vb, g)) := by
  obtain ⟨f, hf, -⟩ := rSl_f h
  rw [hf]; unfold rSl; rw [if_neg h0, hv]
theorem rSl_30 (h : k = 30) (h0 : ¬ t.2.1 = 0) (hv : vbF b t = some v) : rSl b n x (31 - k) t (k, vb, g) = ((0, tFl 4 t), (k, vb, g)) := by
  obtain ⟨f, hf, -⟩ := rSl_f (k := k) (by omega)
  rw [hf]; unfold rSl; rw [if_neg h0, hv]; exact if_pos h
theorem rSl_n0 (h : k < 30) (h0 : ¬ t.2.1 = 0) (hv : vbF b t = some v) (h1 : (rNx b n x k v t g).1.1 = 0) : rSl b n x (31 - k) t (k, vb, g) = ((0, (rNx b n x k v t g).1.2), (k, upd vb k (nI v), (rNx b n x k v t g).2)) := by
  obtain ⟨f, hf, -⟩ := rSl_f (k := k) (by omega)
  rw [hf]; unfold rSl; rw [if_neg h0, hv]; exact (if_neg (by omega)).trans (if_pos h1)
theorem rSl_s0 (h : k < 30) (h0 : ¬ t.2.1 = 0) (hv : vbF b t = some v) (h1 : ¬ (rNx b n x k v t g).1.1 = 0) (h2 : (tSm b n (rNx b n x k v t g).1.2).1 = 0) : rSl b n x (31 - k) t (k, vb, g) = ((0, (tSm b n (rNx b n x k v t g).1.2).2), (k, upd vb k (nI v), (rNx b n x k v t g).2)) := by
  obtain ⟨f, hf, -⟩ := rSl_f (k := k) (by omega)
  rw [hf]; unfold rSl; rw [if_neg h0, hv]; exact (if_neg (by omega)).trans ((if_neg h1).trans (if_pos h2))
theorem rSl_go (h : k < 30) (h0 : ¬ t.2.1 = 0) (hv : vbF b t = some v) (h1 : ¬ (rNx b n x k v t g).1.1 = 0) (h2 : ¬ (tSm b n (rNx b n x k v t g).1.2).1 = 0) : rSl b n x (31 - (k + 1)) (tNx b n (tSm b n (rNx b n x k v t g).1.2).2) (k + 1, upd vb k (nI v), (rNx b n x k v t g).2) = rSl b n x (31 - k) t (k, vb, g) := by
  obtain ⟨f, hf, hf2⟩ := rSl_f (k := k) (by omega)
  rw [hf, hf2]; conv => rhs; unfold rSl
  rw [if_neg h0, hv]; exact ((if_neg (by omega)).trans ((if_neg h1).trans (if_neg h2))).symm
end
theorem nu_le {b : Nat → Int32} {n p : Nat} (hp : p ≤ n) : tP b n p ≤ n := (tP_le hp).2
theorem nuA_le {n : Nat} {y : NR} {k : TT → CF → NR} (h : y.1.2.1 ≤ n) (hk : ∀ t f, t.1 ≤ n → (k t f).1.2.1 ≤ n) : (nuA y k).1.2.1 ≤ n := by
  unfold nuA
  split
  · exact h
  · exact hk _ _ h
theorem rNx_le {b : Nat → Int32} {n : Nat} {x : PP} {ct k : Nat} {t : TT} {f : CF} (hp : t.1 ≤ n) : (rNx b n x ct k t f).1.2.1 ≤ n := by
  unfold rNx rNum
  split
  · exact nu_le hp
  · exact nuA_le (nu_le hp) (fun t f h => nuA_le (nu_le h) (fun t f h => nu_le h))
  · exact nuA_le (nu_le hp) (fun t f h => nu_le h)
  · exact nuA_le (nuN_le hp) (fun t f h => nu_le h)
  · exact nuN_le hp
  · exact nu_le hp
  · exact nu_le hp
set_option maxRecDepth 100000 in
set_option maxHeartbeats 16000000 in
theorem sp_X4_readFrom (l : Launch) (G : GT) (B3 : Nat → Nat → Int32) (c0 : Int32) (vb : Nat → Int32) (f : CF) (B0 : Nat → Nat → Int32) (n : Nat) (bs : Nat → Int32) (p : Nat) (ki st va ec eo : Int32) (B1 : Nat → Nat → Int32) (be nm : Nat → Int32) (x : PP) (M : Mem) (hA0 : M 0 = vC B3 c0 vb f.1 f.2.1 f.2.2) (hA1 : M 1 = vTx B0 n bs ((p, ki, st, va, ec, eo) : TT)) (hA2 : M 2 = vPx B1 be nm x) (hx : PIv x) (hn : n ≤ 600) : MC l G yX4_readFrom cX4_readFrom 5 (some .boolean) ({ frames := 6, cells := 0, slots := 0, locals := 129 } : Room) [4, 3, 2] lk0 [rv 0 0, rv 1 0, rv 2 0] (M) (fun r9 M2 => r9 = some (iv (rSl bs n x 31 (tNx bs n ((0, ki, st, va, 0, -1) : TT)) (0, vb, f)).1.1) ∧ M2 = setm (setm M 0 (vCx B3 (rSl bs n x 31 (tNx bs n ((0, ki, st, va, 0, -1) : TT)) (0, vb, f)).2.1 (rSl bs n x 31 (tNx bs n ((0, ki, st, va, 0, -1) : TT)) (0, vb, f)).2.2.1 (rSl bs n x 31 (tNx bs n ((0, ki, st, va, 0, -1) : TT)) (0, vb, f)).2.2.2)) 1 (vTx B0 n bs (rSl bs n x 31 (tNx bs n ((0, ki, st, va, 0, -1) : TT)) (0, vb, f)).1.2)) := by
  obtain ⟨M0, rfl⟩ : ∃ M0, M = m3 (vC B3 c0 vb f.1 f.2.1 f.2.2) (vTx B0 n bs ((p, ki, st, va, ec, eo) : TT)) (vPx B1 be nm x) M0 := ⟨M, (m3_of hA0 hA1 hA2).symm⟩
  clear hA0 hA1 hA2
  obtain ⟨x0, hx0⟩ : ∃ x0, x0 = x := ⟨x, rfl⟩
  subst hx0
  refine MC.of RX4 [some (rv 0 0), some (rv 1 0), some (rv 2 0), none, none] 2 (by decide +kernel) rfl rfl rfl ?_
  intro pp ee ss mm aa bb me cd ad E
  refine r_aload_n E (dat dkX4_readFrom 0 rfl) rfl rfl ?_
  refine r_iconst (v := 0) E (dat dkX4_readFrom 1 rfl) rfl ?_
  refine q_putn E ft_X4_27 (dat dkX4_readFrom 2 rfl) rfl rfl rfl (sf3_0 pfC_4) ?_
  refine r_aload_n E (dat dkX4_readFrom 3 rfl) rfl rfl ?_
  refine r_callV (κ := 3) (μ := [1]) E (sp_X6_rewind l G B0 n (nI p) ki st va ec eo bs _ rfl) my_X6_rewind iv_X6_rewind ml_X4_31 (cm_of rfl) ⟨by decide, rfl, rfl⟩ rfl rfl rfl rfl (by decide) (Nat.le_of_ble_eq_true rfl) (dat dkX4_readFrom 4 rfl) ?_
  rintro _ _ ⟨rfl, rfl⟩
  refine ⟨_, Mrg_e (by decide) (by decide) pm3_1 rfl, ?_⟩
  refine r_aload_n E (dat dkX4_readFrom 5 rfl) rfl rfl ?_
  refine r_callV (κ := 3) (μ := [1]) E (sp_X6_next l G B0 n ki st va 0 (-1) bs 0 _ rfl (Nat.zero_le n) hn) my_X6_next iv_X6_next ml_X4_36 (cm_of rfl) ⟨by decide, rfl, rfl⟩ rfl rfl rfl rfl (by decide) (Nat.le_of_ble_eq_true rfl) (dat dkX4_readFrom 6 rfl) ?_
  rintro _ _ ⟨rfl, rfl⟩
  refine ⟨_, Mrg_e (by decide) (by decide) pm3_1 rfl, ?_⟩
  refine r_iconst (v := 0) E (dat dkX4_readFrom 7 rfl) rfl ?_
  refine r_istore_3 E (dat dkX4_readFrom 8 rfl) rfl rfl ?_
  refine r_while (β := Nat × TT × (Nat → Int32) × CF) (fun x => 31 - x.1) (fun x => x.1 ≤ 31 ∧ x.2.1.1 ≤ n ∧ rSl bs n x0 (31 - x.1) x.2.1 (x.1, x.2.2.1, x.2.2.2) = (rSl bs n x0 31 (tNx bs n ((0, ki, st, va, 0, -1) : TT)) (0, vb, f)) ∧ ∃ s, s ≤ x.2.1.1 ∧ x.2.1.2.2.1 = nI s) (fun x => m3 (vCx B3 x.1 x.2.2.1 x.2.2.2) (vTx B0 n bs x.2.1) (vPx B1 be nm x0) M0) (fun x => [some (rv 0 0), some (rv 1 0), some (rv 2 0), some (iv (nI x.1)), none]) ((0, tNx bs n ((0, ki, st, va, 0, -1) : TT), vb, f)) ⟨Nat.zero_le _, (tP_le (Nat.zero_le n)).2, rfl, _, (tP_le (b := bs) (Nat.zero_le n)).1, rfl⟩ rfl rfl ?_
  intro y hI kk0
  obtain ⟨k9, ⟨p9, ki9, st9, va9, ec9, eo9⟩, vb9, g9⟩ := y
  obtain ⟨hv1, hv2, hv3, s9, hs1, hs2⟩ := hI
  dsimp only at hv1 hv2 hv3 hs1 hs2 ⊢
  subst hs2
  refine r_iload_n E (dat dkX4_readFrom 9 rfl) rfl rfl ?_
  refine r_bipush (v := 30) E (dat dkX4_readFrom 10 rfl) rfl ?_
  refine q_icmp_gt (tgt := 105) E (dat dkX4_readFrom 11 rfl) rfl (a := k9) rfl (b := 30) rfl (by omega) (by omega) (fun h18 => ?_) (fun h18 => ?_)
  ·
    refine r_iconst (v := 1) E (dat dkX4_readFrom 57 rfl) rfl ?_
    refine r_zreturn E (dat dkX4_readFrom 58 rfl) rfl (by decide) (by decide) ?_
    rw [pm3_01]
    first
      | rw [← hv3, rSl_out h18]; exact ⟨rfl, rfl⟩
      | rw [← hv3, rSl_end (by omega) h25]; exact ⟨rfl, rfl⟩
  ·
    refine r_aload_n E (dat dkX4_readFrom 12 rfl) rfl rfl ?_
    refine q_getn E fl_X4_39 (dat dkX4_readFrom 13 rfl) rfl rfl rfl (go3_1 gfT_3) ?_
    refine r_if_eq (tgt := 105) E (dat dkX4_readFrom 14 rfl) rfl (fun h25 => ?_) (fun h25 => ?_)
    ·
      refine r_iconst (v := 1) E (dat dkX4_readFrom 57 rfl) rfl ?_
      refine r_zreturn E (dat dkX4_readFrom 58 rfl) rfl (by decide) (by decide) ?_
      rw [pm3_01]
      first
        | rw [← hv3, rSl_out h18]; exact ⟨rfl, rfl⟩
        | rw [← hv3, rSl_end (by omega) h25]; exact ⟨rfl, rfl⟩
    ·
      refine r_aload_n E (dat dkX4_readFrom 15 rfl) rfl rfl ?_
      refine r_callS (μ := [1]) E (sp_X4_verbOf l G B0 n bs p9 s9 ki9 va9 ec9 eo9 _ rfl hs1 hv2 hn) my_X4_verbOf is_X4_verbOf ml_X4_42 (cm_of rfl) rfl rfl (by decide) (Nat.le_of_ble_eq_true rfl) (dat dkX4_readFrom 16 rfl) ?_
      rintro _ _ ⟨rfl, rfl⟩
      refine ⟨_, Mrg_z rfl, ?_⟩
      rcases hvb : vbF bs ((p9, ki9, nI s9, va9, ec9, eo9) : TT) with _ | v
      ·
        refine r_astoreN (L2 := _) (i := 4) E (dat dkX4_readFrom 17 rfl) (Nat.le_of_ble_eq_true rfl) rfl (hc_of 3 rfl rfl) rfl ?_
        refine r_aloadN E (dat dkX4_readFrom 18 rfl) rfl ?_
        refine r_ifnonnullN E (dat dkX4_readFrom 19 rfl) ?_
        refine r_aload_n E (dat dkX4_readFrom 20 rfl) rfl rfl ?_
        refine r_iconst (v := 1) E (dat dkX4_readFrom 21 rfl) rfl ?_
        refine r_callV (κ := 3) (μ := [1]) E (sp_X6_fail l G B0 n (nI p9) ki9 (nI s9) va9 ec9 eo9 bs 1 _ rfl) my_X6_fail iv_X6_fail ml_X4_46 (cm_of rfl) ⟨by decide, rfl, rfl⟩ rfl rfl rfl rfl (by decide) (Nat.le_of_ble_eq_true rfl) (dat dkX4_readFrom 22 rfl) ?_
        rintro _ _ ⟨rfl, rfl⟩
        refine ⟨_, Mrg_e (by decide) (by decide) pm3_1 rfl, ?_⟩
        refine r_zreturn E (dat dkX4_readFrom 23 rfl) rfl (by decide) (by decide) ?_
        rw [pm3_01, ← hv3, rSl_no (by omega) h25 hvb]
        exact ⟨rfl, rfl⟩
      ·
        have hv8 := vbF_lt hvb
        refine r_astore_4 E (dat dkX4_readFrom 17 rfl) rfl rfl ?_
        refine r_aload E (dat dkX4_readFrom 18 rfl) rfl ?_
        refine r_ifnonnull (tgt := 45) E (dat dkX4_readFrom 19 rfl) rfl ?_
        refine r_iload_n E (dat dkX4_readFrom 24 rfl) rfl rfl ?_
        refine r_bipush (v := 30) E (dat dkX4_readFrom 25 rfl) rfl ?_
        refine q_icmp_ne (tgt := 57) E (dat dkX4_readFrom 26 rfl) rfl (a := k9) rfl (b := 30) rfl (by omega) (by omega) (fun h48 => ?_) (fun h48 => ?_)
        ·
          refine r_aload_n E (dat dkX4_readFrom 31 rfl) rfl rfl ?_
          refine q_geta E fl_X4_11 (dat dkX4_readFrom 32 rfl) rfl rfl rfl ?_
          refine r_iload_n E (dat dkX4_readFrom 33 rfl) rfl rfl ?_
          refine r_aload E (dat dkX4_readFrom 34 rfl) rfl ?_
          refine q_vast (k1 := v) E (dat dkX4_readFrom 35 rfl) rfl rfl (by decide) (gg3_0 gaC_1) (fun _ => sa3_0 paC_1) rfl (show k9 < 30 by omega) (by omega) ?_
          refine r_aload_n E (dat dkX4_readFrom 36 rfl) rfl rfl ?_
          refine r_aload_n E (dat dkX4_readFrom 37 rfl) rfl rfl ?_
          refine r_aload_n E (dat dkX4_readFrom 38 rfl) rfl rfl ?_
          refine r_aload E (dat dkX4_readFrom 39 rfl) rfl ?_
          have hr2 := rNx_le (b := bs) (n := n) (x := x0) (ct := k9) (k := v) (t := ((p9, ki9, nI s9, va9, ec9, eo9) : TT)) (f := g9) hv2
          refine r_callV (κ := 4) (μ := [0, 1, 2]) E (sp_X4_readNumbers l G B3 k9 (upd vb9 k9 (nI v)) g9 B0 n bs ((p9, ki9, nI s9, va9, ec9, eo9) : TT) B1 be nm x0 v _ rfl rfl rfl hv8 hx (by omega) hv2 hn) my_X4_readNumbers iv_X4_readNumbers ml_X4_50 (cm_of rfl) ⟨by decide, rfl, rfl⟩ rfl rfl rfl rfl (by decide) (Nat.le_of_ble_eq_true rfl) (dat dkX4_readFrom 40 rfl) ?_
          rintro _ _ ⟨rfl, rfl⟩
          refine ⟨_, Mrg_ee (i := 0) (j := 1) (by decide) (by decide) (by decide) pm3_01 rfl, ?_⟩
          refine r_if_eq (tgt := 83) E (dat dkX4_readFrom 41 rfl) rfl (fun h73 => ?_) (fun h73 => ?_)
          ·
            refine r_iconst (v := 0) E (dat dkX4_readFrom 45 rfl) rfl ?_
            refine r_zreturn E (dat dkX4_readFrom 46 rfl) rfl (by decide) (by decide) ?_
            rw [pm3_01]
            first
              | (rw [← hv3, rSl_n0 (by omega) h25 hvb h73]; exact ⟨rfl, rfl⟩)
              | (rw [← hv3, rSl_s0 (by omega) h25 hvb h73 (by first | exact h80 | exact Decidable.not_not.mp h80)]; exact ⟨rfl, rfl⟩)
          ·
            refine r_aload_n E (dat dkX4_readFrom 42 rfl) rfl rfl ?_
            refine r_callV (κ := 3) (μ := [1]) E (sp_X6_takeSemicolon l G B0 n (rNx bs n x0 k9 v ((p9, ki9, nI s9, va9, ec9, eo9) : TT) g9).1.2.2.1 (rNx bs n x0 k9 v ((p9, ki9, nI s9, va9, ec9, eo9) : TT) g9).1.2.2.2.1 (rNx bs n x0 k9 v ((p9, ki9, nI s9, va9, ec9, eo9) : TT) g9).1.2.2.2.2.1 (rNx bs n x0 k9 v ((p9, ki9, nI s9, va9, ec9, eo9) : TT) g9).1.2.2.2.2.2.1 (rNx bs n x0 k9 v ((p9, ki9, nI s9, va9, ec9, eo9) : TT) g9).1.2.2.2.2.2.2 bs (rNx bs n x0 k9 v ((p9, ki9, nI s9, va9, ec9, eo9) : TT) g9).1.2.1 _ rfl hr2 hn) my_X6_takeSemicolon iv_X6_takeSemicolon ml_X4_54 (cm_of rfl) ⟨by decide, rfl, rfl⟩ rfl rfl rfl rfl (by decide) (Nat.le_of_ble_eq_true rfl) (dat dkX4_readFrom 43 rfl) ?_
            rintro _ _ ⟨rfl, rfl⟩
            refine ⟨_, Mrg_e (by decide) (by decide) pm3_1 rfl, ?_⟩
            refine r_if_ne (tgt := 85) E (dat dkX4_readFrom 44 rfl) rfl (fun h80 => ?_) (fun h80 => ?_)
            ·
              refine r_aload_n E (dat dkX4_readFrom 47 rfl) rfl rfl ?_
              refine r_dup E (dat dkX4_readFrom 48 rfl) rfl ?_
              refine q_getn E fl_X4_27 (dat dkX4_readFrom 49 rfl) rfl rfl rfl (go3_0 gfC_4) ?_
              refine r_iconst (v := 1) E (dat dkX4_readFrom 50 rfl) rfl ?_
              refine r_iadd E (dat dkX4_readFrom 51 rfl) ?_
              rw [show nI k9 + 1 = nI (k9 + 1) from nI_1 k9]
              refine q_putn E ft_X4_27 (dat dkX4_readFrom 52 rfl) rfl rfl rfl (sf3_0 pfC_4) ?_
              refine r_aload_n E (dat dkX4_readFrom 53 rfl) rfl rfl ?_
              refine r_callV (κ := 3) (μ := [1]) E (sp_X6_next l G B0 n (tSm bs n (rNx bs n x0 k9 v ((p9, ki9, nI s9, va9, ec9, eo9) : TT) g9).1.2).2.2.1 (tSm bs n (rNx bs n x0 k9 v ((p9, ki9, nI s9, va9, ec9, eo9) : TT) g9).1.2).2.2.2.1 (tSm bs n (rNx bs n x0 k9 v ((p9, ki9, nI s9, va9, ec9, eo9) : TT) g9).1.2).2.2.2.2.1 (tSm bs n (rNx bs n x0 k9 v ((p9, ki9, nI s9, va9, ec9, eo9) : TT) g9).1.2).2.2.2.2.2.1 (tSm bs n (rNx bs n x0 k9 v ((p9, ki9, nI s9, va9, ec9, eo9) : TT) g9).1.2).2.2.2.2.2.2 bs (tSm bs n (rNx bs n x0 k9 v ((p9, ki9, nI s9, va9, ec9, eo9) : TT) g9).1.2).2.1 _ rfl (nu_le hr2) hn) my_X6_next iv_X6_next ml_X4_36 (cm_of rfl) ⟨by decide, rfl, rfl⟩ rfl rfl rfl rfl (by decide) (Nat.le_of_ble_eq_true rfl) (dat dkX4_readFrom 54 rfl) ?_
              rintro _ _ ⟨rfl, rfl⟩
              refine ⟨_, Mrg_e (by decide) (by decide) pm3_1 rfl, ?_⟩
              refine q_iinc_3 E (dat dkX4_readFrom 55 rfl) rfl rfl ?_
              refine r_goto (tgt := 15) E (dat dkX4_readFrom 56 rfl) rfl ?_
              refine r_back ?_ ?_ (kk0 (k9 + 1, tNx bs n (tSm bs n (rNx bs n x0 k9 v ((p9, ki9, nI s9, va9, ec9, eo9) : TT) g9).1.2).2, upd vb9 k9 (nI v), (rNx bs n x0 k9 v ((p9, ki9, nI s9, va9, ec9, eo9) : TT) g9).2) ⟨by show k9 + 1 ≤ 31; omega, nu_le (nu_le hr2), (rSl_go (by omega) h25 hvb h73 (by first | exact h80 | exact Decidable.not_not.mp h80)).trans hv3, _, (tP_le (b := bs) (nu_le hr2)).1, rfl⟩ (by show 31 - (k9 + 1) < 31 - k9; omega))
              · rfl
              · exact And.intro rfl (And.intro rfl (And.intro rfl (And.intro rfl trivial)))
            ·
              refine r_iconst (v := 0) E (dat dkX4_readFrom 45 rfl) rfl ?_
              refine r_zreturn E (dat dkX4_readFrom 46 rfl) rfl (by decide) (by decide) ?_
              rw [pm3_01]
              first
                | (rw [← hv3, rSl_n0 (by omega) h25 hvb h73]; exact ⟨rfl, rfl⟩)
                | (rw [← hv3, rSl_s0 (by omega) h25 hvb h73 (by first | exact h80 | exact Decidable.not_not.mp h80)]; exact ⟨rfl, rfl⟩)
        ·
          refine r_aload_n E (dat dkX4_readFrom 27 rfl) rfl rfl ?_
          refine r_iconst (v := 4) E (dat dkX4_readFrom 28 rfl) rfl ?_
          refine r_callV (κ := 3) (μ := [1]) E (sp_X6_fail l G B0 n (nI p9) ki9 (nI s9) va9 ec9 eo9 bs 4 _ rfl) my_X6_fail iv_X6_fail ml_X4_46 (cm_of rfl) ⟨by decide, rfl, rfl⟩ rfl rfl rfl rfl (by decide) (Nat.le_of_ble_eq_true rfl) (dat dkX4_readFrom 29 rfl) ?_
          rintro _ _ ⟨rfl, rfl⟩
          refine ⟨_, Mrg_e (by decide) (by decide) pm3_1 rfl, ?_⟩
          refine r_zreturn E (dat dkX4_readFrom 30 rfl) rfl (by decide) (by decide) ?_
          rw [pm3_01, ← hv3, rSl_30 (by omega) h25 hvb]
          exact ⟨rfl, rfl⟩
