/-! the law's body from its first int on -/
theorem wl_00 : wlH 0 0 = fun _ _ => 0 := by
  funext r c
  unfold wlH
  rw [if_neg (by omega)]
theorem RwI_0 {v : Nat} {hi : Nat → Nat → Int32} (h : ∀ a b, a < 7 → b < 7 → hi a b = 100000) : RwI z1 bb0 v 0 [] hi := by
  refine ⟨z1, ?_, by rw [Nat.zero_mul]; rfl, fun k hk => absurd hk (by rw [Nat.zero_mul]; omega), fun a b ha hb => ?_⟩
  · rw [if_pos rfl, Nat.zero_mul]
    exact PRd_nil
  · rw [if_neg (by omega)]
    exact h a b ha hb
theorem LOK_b {v9 : Int32} : LOK [some (rv 99 103), some (rv 0 0), some (rv 19 0), some (iv v9), none, none, none, none, none] := fun _ _ _ => rfl
section LMA
variable {p : Program} {l : Launch} {e : Env} {s : State} {m : MethodId} {args : Array Value} {below : List Frame} {meth : Method} {c : Code} {G : GT} {ad : Nat → Nat → Nat} {Q : State → Prop} {M0 : Mem}
set_option maxRecDepth 100000 in
set_option maxHeartbeats 4000000 in
theorem law_rain (C0 : LCx p s m args meth c G ad cL_law RL 9 (some .boolean) M0) (hN : G.2.2.1.1 ≤ 4096) (hret : RET1 p l e s m args below meth c G ad Q) (hst : l.stackTraces = false) (hc : ∀ j, j < 19 → M0 j = ctyM j) {u v bt rn : Nat} {v9 : Int32} {he gu : Nat → Int32} {hi gA : Nat → Nat → Int32} {br bc tl : Nat → Int32} {tx : List Nat} {k n : Nat} (hk : k ≤ 300000) (hn : n ≤ 4000000) (hu : 2 ≤ u ∧ u ≤ 5) (hv : 2 ≤ v ∧ v ≤ 5) (hbt : bt ≤ 2) (hrn : rn ≤ 2) (hB : BoI z1 bb0 he gu u v bt tx br bc tl) (hhe : ∀ k, k < u * v → ∃ h, h < 10 ∧ he k = nI h) (hhi : ∀ a b, a < 7 → b < 7 → hi a b = if (1 ≤ a ∧ a ≤ u) ∧ (1 ≤ b ∧ b ≤ v) then he ((a - 1) * v + (b - 1)) else 100000) (hgu : ∀ j, ∃ g, g ≤ 9 ∧ gu j = nI g) (hga : ∀ a b, (1 ≤ a ∧ a ≤ u) → (1 ≤ b ∧ b ≤ v) → gA a b = gu ((a - 1) * v + (b - 1))) : LWt p l e room_1 s m args below meth c G ad cL_law RL (some .boolean) 9 Q M0 tx (ZF (flF u v bt rn) hi gA br bc tl) k n 555 [some (rv 99 103), some (rv 0 0), some (rv 19 0), some (iv v9), some (rv 20 0), none, none, none, none] [] := by
  obtain ⟨nl, fp, bh, r, hP, htl, hnl, -, hrel⟩ := hB
  have hf15 : flF u v bt rn 15 = nI rn := rfl
  intro κ N qa f M hκ E hAS hSB h20 h19 hj
  refine r_aload E (dat dkL_law_k6 9 rfl) rfl ?_
  refine l_ldcw (i := 13) E (by decide) rfl rfl (dat dkL_law_k6 10 rfl) ?_
  refine l_appS (i := 13) C0 hκ E hAS hSB h20 h19 hj (by decide) (by decide +kernel) (by omega) (fun _ _ _ => rfl) ml_L_245 (by omega) (by omega) (dat dkL_law_k6 11 rfl) ?_
  intro κ N qa f M hκ E hAS hSB h20 h19 hj
  refine r_aload_n E (dat dkL_law_k6 12 rfl) rfl rfl ?_
  refine q_getn E fl_L_101 (dat dkL_law_k6 13 rfl) rfl rfl rfl ((congrFun (congrFun h19 0) 15).trans hf15) ?_
  refine l_appI (v := rn) C0 hκ E hAS hSB h20 h19 hj (by omega) (by rw [List.length_append, cS_13]; show _ + 5 + 2 ≤ 142; omega) (fun _ _ _ => rfl) ml_L_252 (by omega) (by omega) (dat dkL_law_k6 14 rfl) ?_
  intro κ N qa f M hκ E hAS hSB h20 h19 hj
  have hdl : (digs rn).length = 1 := by rw [digs_1 (by omega)]; rfl
  refine r_bipush E (dat dkL_law_k6 15 rfl) (v := nI 59) rfl ?_
  refine l_appC (u := 59) C0 hκ E hAS hSB h20 h19 hj (by omega) (by rw [List.length_append, List.length_append, cS_13, hdl]; show _ + 5 + 1 + 1 ≤ 142; omega) (fun _ _ _ => rfl) ml_L_249 (by omega) (by omega) (dat dkL_law_k6 16 rfl) ?_
  intro κ N qa f M hκ E hAS hSB h20 h19 hj
  refine r_pop E (dat dkL_law_k6 17 rfl) rfl ?_
  refine r_aload_n E (dat dkL_law_k6 18 rfl) rfl rfl ?_
  refine r_aload E (dat dkL_law_k6 19 rfl) rfl ?_
  refine r_back (L2 := [some (rv 99 103), some (rv 0 0), some (rv 19 0), some (iv v9), none, none, none, none, none]) rfl ⟨rfl, rfl, rfl, rfl, trivial⟩ ?_
  have hc9 : M0 0 = ctyM 0 := hc 0 (by decide)
  have hlen : (tx ++ cS 13 ++ digs rn ++ [59]).length ≤ 140 := by rw [List.length_append, List.length_append, List.length_append, cS_13, hdl]; show _ + 5 + 1 + 1 ≤ 140; omega
  refine l_tell C0 hκ E hAS hSB h20 hj ((hc 1 (by decide)).trans rfl : M0 1 = vTx (zT0 0) 0 fsB fsR.1.2) (by rw [hc9]; decide) (by rw [hc9]; decide) (fun i hi => hSB.2.2.2 _ (getD_mem hi)) hlen (by omega) (by omega) (fun b2 hb2 => ?_)
  have hP2 := PRd_app hP (PRd_rain (u := u) (v := v) (z := u * v) (he := he) (gu := gu) (fr := 0) (bb := (bt, nl, fp, bh, r)) (r := rn) (by omega))
  rw [show tx ++ (cS 13 ++ digs rn ++ [59]) = tx ++ cS 13 ++ digs rn ++ [59] by simp] at hP2
  refine law_load C0.1 hret hN hst (by omega) (by omega) hu hv hbt hrn hP2 (by omega) (by omega) hSB.2.2.2 hb2 hhe hhi hgu hga hnl hrel (by rw [setm_n (by decide)]; exact h19) setm_s (fun j h1 h2 => by rw [setm_n h2]; exact (hj j h1).trans (hc j h1))
set_option maxRecDepth 100000 in
set_option maxHeartbeats 4000000 in
theorem law_main (C0 : LCx p s m args meth c G ad cL_law RL 9 (some .boolean) M0) (hN : G.2.2.1.1 ≤ 4096) (hret : RET1 p l e s m args below meth c G ad Q) (hst : l.stackTraces = false) (hc : ∀ j, j < 19 → M0 j = ctyM j) {M : Mem} {k n : Nat} (hk : k ≤ 1000) (hn : n ≤ 100000) (h19 : M 19 = ZF (fun _ => 0) (fun _ _ => 0) (fun _ _ => 0) (fun _ => 0) (fun _ => 0) (fun _ => 0)) (hj : ∀ j, j < 19 → M j = M0 j) : WM p l e room_1 s m args below meth c G (YK ad) 9 Q M k n 16 [some (rv 99 103), some (rv 0 0), some (rv 19 0), none, none, none, none, none, none] [] := by
  refine law_fields C0 hN (by omega) (by omega) h19 hj (fun u v bt rn v9 M hu hv hbt hrn h19 hj => ?_)
  have hf12 : flF u v bt rn 12 = nI u := rfl
  have hf13 : flF u v bt rn 13 = nI v := rfl
  have hf14 : flF u v bt rn 14 = nI bt := rfl
  refine r_aload_n C0.1 (dat dkL_law_k0 48 rfl) rfl rfl ?_
  refine q_geta C0.1 fl_L_9 (dat dkL_law_k0 49 rfl) rfl rfl rfl ?_
  refine r_astore_4 C0.1 (dat dkL_law_k1 0 rfl) rfl rfl ?_
  refine r_aload C0.1 (dat dkL_law_k1 1 rfl) rfl ?_
  refine r_alen C0.1 (dat dkL_law_k1 2 rfl) (ca := 7) (N := 7) rfl (by decide) rfl (v := nI 7) rfl ?_
  refine r_istore_5 C0.1 (dat dkL_law_k1 3 rfl) rfl rfl ?_
  refine r_iconst C0.1 (dat dkL_law_k1 4 rfl) (v := nI 0) rfl ?_
  refine r_istore_6 C0.1 (dat dkL_law_k1 5 rfl) rfl rfl ?_
  refine law_wall_out C0 hN (fl := flF u v bt rn) 7 0 none none M rfl rfl (by rw [h19, wl_00]) hj (fun M h19 hj => ?_)
  refine law_newSB C0 h19 hj LOK_b (fun _ => rfl) (by omega) (by omega) ?_
  intro κ N qa f M hκ E hAS hSB h20 h19 hj
  refine r_astore_4 E (dat dkL_law_k1 29 rfl) rfl rfl ?_
  refine r_iconst E (dat dkL_law_k1 30 rfl) (v := nI 1) rfl ?_
  refine r_istore_5 E (dat dkL_law_k1 31 rfl) rfl rfl ?_
  refine law_rows C0 hN hf12 hf13 hu hv (k := k + 2) (n := n + 20) (by omega) (by omega) (fun tx hi hR => ?_) u 0 [] _ (by omega) (RwI_0 (fun a b ha hb => by unfold wlH; rw [if_pos (by omega)])) κ N qa f M hκ E hAS hSB h20 h19 hj
  clear hκ E hAS hSB h20 h19 hj
  obtain ⟨he, hP, htl, hhe, hhi⟩ := hR
  have h70 : tx.length ≤ 70 := by rw [htl]; exact Nat.le_trans (Nat.mul_le_mul hu.2 (show 4 + 2 * v ≤ 14 by omega)) (by decide)
  have hP1 : PRd tx ((0, 0, 0), z1, (fun _ => 0), 0, (0, bb0)) ((u, v, u * v), he, (fun _ => 0), 0, (0, bb0)) (u + 0) := by rw [if_neg (by omega)] at hP; exact hP
  intro κ N qa f M hκ E hAS hSB h20 h19 hj
  refine r_iconst E (dat dkL_law_k2 33 rfl) (v := nI 0) rfl ?_
  refine r_istore_5 E (dat dkL_law_k2 34 rfl) rfl rfl ?_
  refine law_gut C0 hN hf12 hf13 hf14 hu hv hbt (k := k + 2 + 20 * u) (n := n + 20 + 3000 * u) (he0 := z1) (bb := bb0) (he := he) (by omega) (by omega) (fun tx2 gA hG2 => ?_) 3 0 tx _ (by omega) ⟨_, hP1, by omega, fun j => ⟨0, by decide, rfl⟩, fun a b ha hb => rfl⟩ κ N qa f M hκ E hAS hSB h20 h19 hj
  clear hκ E hAS hSB h20 h19 hj
  obtain ⟨gu, hP2, htl2, hgu, hga⟩ := hG2
  intro κ N qa f M hκ E hAS hSB h20 h19 hj
  refine r_iconst E (dat dkL_law_k4 12 rfl) (v := nI 0) rfl ?_
  refine r_istore_5 E (dat dkL_law_k4 13 rfl) rfl rfl ?_
  refine law_boot C0 hN hf12 hf13 hf14 hu hv hbt (k := k + 2 + 20 * u + 18) (n := n + 20 + 3000 * u + 2700) (he0 := z1) (bb := bb0) (he := he) (gu := gu) (gA := gA) (by omega) (by omega) (fun tx3 br bc tl hB3 => ?_) bt 0 tx2 _ _ _ (by omega) ⟨z1, z1, z1, rw4 z1 z1 z1 z1, hP2, by omega, fun i hi => absurd hi (Nat.not_lt_zero i), fun h => absurd h (by decide), fun b hb => absurd hb (Nat.not_lt_zero b)⟩ κ N qa f M hκ E hAS hSB h20 h19 hj
  exact law_rain C0 hN hret hst hc (by omega) (by omega) hu hv hbt hrn hB3 hhe hhi hgu hga
end LMA
