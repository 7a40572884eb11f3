/-! the law's loop and its entry -/
theorem and_63 (x : Int32) : ∃ q : Nat, q < 64 ∧ x &&& 63 = nI q := by
  refine ⟨(x.toBitVec &&& 63#32).toNat, ?_, ?_⟩
  · rw [BitVec.toNat_and]
    exact Nat.lt_succ_of_le (Nat.and_le_right)
  · apply Int32.toBitVec_inj.mp
    show x.toBitVec &&& 63#32 = BitVec.ofNat 32 (x.toBitVec &&& 63#32).toNat
    simp
theorem law_lt {Ls i : Nat} (hL : Ls ≤ 3072) (hi : i ≤ 3072) (h : ¬ nI Ls - 6 < nI i) : i + 6 ≤ Ls := by
  have e1 : (nI Ls).toInt = Ls := ni_t (by omega)
  have e2 : (nI i).toInt = i := ni_t (by omega)
  have o6 : (6 : Int32).toInt = 6 := rfl
  have e3 : (nI Ls - 6).toInt = Ls - 6 := by
    rw [i_sub (by rw [e1, o6]; omega) (by rw [e1, o6]; omega), e1, o6]
  have h2 := Int32.not_lt.mp h
  rw [i_le, e2, e3] at h2
  omega
section LWE
variable {p : Program} {l : Launch} {e : Env} {s : State} {m : MethodId} {below : List Frame} {meth : Method} {c : Code} {G : GT} {b : Nat}
theorem r_lawret {Y : LV} {M : Mem} {k n pc : Nat} {L : List (Option AV)} (E : EN p s m #[Value.ref b] meth c G Y cL_law RL 9 (some .boolean)) (hA : ∀ q, AS Y s.heap.size q → s.heap.size ≤ q) (hk : k ≤ 601024) (hn : n ≤ 7293034) (hd : decode cL_law pc = .ok (.ireturn, 1)) : WM p l e room_1 s m #[Value.ref b] below meth c G Y 9 (lw_Z below #[Value.ref b] s) M k n pc L [iv 1] := by
  intro H locs ls hP hS hl
  obtain ⟨hx, hb, hml, hown, hts, hr, hlk, hG, hD⟩ := E
  refine va_forget (fun q hq => hA _ (hS.2.2 q hq)) ?_
  refine W.widen hk hn ?_
  exact lw_ret (d0 := s.drawn) (Drawn.sameBut.refl s.drawn lw_cs) hx hb hr hlk hd
set_option maxRecDepth 100000 in
set_option maxHeartbeats 16000000 in
theorem law_loop {ad : Nat → Nat → Nat} (hst : l.stackTraces = false) (E : EN p s m #[Value.ref b] meth c G (KL, lkC, ad) cL_law RL 9 (some .boolean)) {Ls : Nat} {xs : Nat → Int32} (hX : va_X b Ls xs s s.heap) (hb : b < s.heap.size) (hAS : ∀ q, AS (KL, lkC, ad) s.heap.size q → s.heap.size ≤ q) (hL : Ls ≤ 3072) : ∀ (f j : Nat) (N : Mem), Ls < 6 * j + 6 * f + 6 → j ≤ 512 → RLe N (vw [20] N) (279 * (j : Int)) →
    WM p l e room_1 s m #[Value.ref b] below meth c G (KL, lkC, ad) 9 (lw_Z below #[Value.ref b] s) N (145 + 100 * j) (10936 + 1000 * j) 23 [some (.inl (.ref b)), some (rv 0 0), some (rv 20 0), some (rv 19 0), some (iv (nI (6 * j))), none, none, none, none] [] := by
  have hA : ¬ AS (KL, lkC, ad) s.heap.size b := fun h => Nat.not_le.mpr hb (hAS b h)
  have r1 : room_1.cells = 601024 := rfl
  have r2 : room_1.slots = 7293034 := rfl
  intro f
  induction f with
  | zero =>
    intro j N hf hj H
    refine r_iload E (dat dkW_h 0 rfl) rfl ?_
    refine r_aldX E (dat dkW_h 1 rfl) rfl rfl ?_
    refine r_slen E hX hb hA (dat dkW_h 2 rfl) ?_
    refine r_bipush (v := 6) E (dat dkW_h 3 rfl) rfl ?_
    refine r_isub E (dat dkW_h 4 rfl) ?_
    refine r_icmp_gt (tgt := 2781) E (dat dkW_h 5 rfl) rfl (fun h => ?_) (fun h => ?_)
    · refine r_iconst (v := 1) E (dat dkW_z 2 rfl) rfl ?_
      exact r_lawret E hAS (by omega) (by omega) (dat dkW_z 3 rfl)
    · have := law_lt hL (by omega) h
      omega
  | succ f ih =>
    intro j N hf hj H
    refine r_iload E (dat dkW_h 0 rfl) rfl ?_
    refine r_aldX E (dat dkW_h 1 rfl) rfl rfl ?_
    refine r_slen E hX hb hA (dat dkW_h 2 rfl) ?_
    refine r_bipush (v := 6) E (dat dkW_h 3 rfl) rfl ?_
    refine r_isub E (dat dkW_h 4 rfl) ?_
    refine r_icmp_gt (tgt := 2781) E (dat dkW_h 5 rfl) rfl (fun h => ?_) (fun h => ?_)
    · refine r_iconst (v := 1) E (dat dkW_z 2 rfl) rfl ?_
      exact r_lawret E hAS (by omega) (by omega) (dat dkW_z 3 rfl)
    · have hi := law_lt hL (by omega) h
      refine r_aldX E (dat dkW_h 6 rfl) rfl rfl ?_
      refine r_iload E (dat dkW_h 7 rfl) rfl ?_
      refine r_sld E hX hb hA hL (j := 6 * j) rfl (by omega) (dat dkW_h 8 rfl) ?_
      refine r_bipush (v := 63) E (dat dkW_h 9 rfl) rfl ?_
      refine r_iand E (dat dkW_h 10 rfl) ?_
      obtain ⟨q, hq, hqe⟩ := and_63 (xs (6 * j))
      refine r_topE hqe ?_
      have kk : ∀ N2 : Mem, RLe N2 (vw [20] N2) (279 * (j : Int) + 279) → WM p l e room_1 s m #[Value.ref b] below meth c G (KL, lkC, ad) 9 (lw_Z below #[Value.ref b] s) N2 (145 + 100 * j + 100) (10936 + 1000 * j + 1000) 2775 [some (.inl (.ref b)), some (rv 0 0), some (rv 20 0), some (rv 19 0), some (iv (nI (6 * j))), none, none, none, none] [] := by
        intro N2 h2
        refine g_iinc (i := 4) (x := nI (6 * j)) (L2 := [some (.inl (.ref b)), some (rv 0 0), some (rv 20 0), some (rv 19 0), some (iv (nI (6 * (j + 1)))), none, none, none, none]) E (dat dkW_z 0 rfl) rfl rfl (hc_of 3 rfl rfl) ?_ ?_
        · show [_, _, _, _, some (iv (nI (6 * j) + nI 6)), none, none, none, none] = _
          rw [nI_add]
          rfl
        · refine r_goto (tgt := 23) E (dat dkW_z 1 rfl) rfl ?_
          refine r_wid (k2 := 145 + 100 * (j + 1)) (n2 := 10936 + 1000 * (j + 1)) (by omega) (by omega) ?_
          refine ih (j + 1) N2 (by omega) (by omega) ?_
          have e9 : (279 : Int) * ((j + 1 : Nat) : Int) = 279 * (j : Int) + 279 := by omega
          rw [e9]
          exact h2
      have b1 : (0 : Int) ≤ 279 * (j : Int) := by omega
      have b2 : 279 * (j : Int) + 300 < 2147483648 := by omega
      have b3 : 145 + 100 * j + 100 ≤ room_1.cells := by omega
      have b4 : 10936 + 1000 * j + 1000 ≤ room_1.slots := by omega
      rcases (show q = 0 ∨ q = 1 ∨ q = 2 ∨ q = 3 ∨ q = 4 ∨ q = 5 ∨ q = 6 ∨ q = 7 ∨ q = 8 ∨ q = 9 ∨ q = 10 ∨ q = 11 ∨ q = 12 ∨ q = 13 ∨ q = 14 ∨ q = 15 ∨ q = 16 ∨ q = 17 ∨ q = 18 ∨ q = 19 ∨ q = 20 ∨ q = 21 ∨ q = 22 ∨ q = 23 ∨ q = 24 ∨ q = 25 ∨ q = 26 ∨ q = 27 ∨ q = 28 ∨ q = 29 ∨ q = 30 ∨ q = 31 ∨ q = 32 ∨ q = 33 ∨ q = 34 ∨ q = 35 ∨ q = 36 ∨ q = 37 ∨ q = 38 ∨ q = 39 ∨ q = 40 ∨ q = 41 ∨ q = 42 ∨ q = 43 ∨ q = 44 ∨ q = 45 ∨ q = 46 ∨ q = 47 ∨ q = 48 ∨ q = 49 ∨ q = 50 ∨ q = 51 ∨ q = 52 ∨ q = 53 ∨ q = 54 ∨ q = 55 ∨ q = 56 ∨ q = 57 ∨ 58 ≤ q by omega) with rfl | rfl | rfl | rfl | rfl | rfl | rfl | rfl | rfl | rfl | rfl | rfl | rfl | rfl | rfl | rfl | rfl | rfl | rfl | rfl | rfl | rfl | rfl | rfl | rfl | rfl | rfl | rfl | rfl | rfl | rfl | rfl | rfl | rfl | rfl | rfl | rfl | rfl | rfl | rfl | rfl | rfl | rfl | rfl | rfl | rfl | rfl | rfl | rfl | rfl | rfl | rfl | rfl | rfl | rfl | rfl | rfl | rfl | h58
      · exact r_tabIn (off := 248) (tgt := 288) E (dat dkW_h 11 rfl) (by decide +kernel) (by decide +kernel) rfl rfl (lb_0 hst E hX hb hA hL hi H b1 b2 b3 b4 kk)
      · exact r_tabIn (off := 321) (tgt := 361) E (dat dkW_h 11 rfl) (by decide +kernel) (by decide +kernel) rfl rfl (lb_1 hst E hX hb hA hL hi H b1 b2 b3 b4 kk)
      · exact r_tabIn (off := 346) (tgt := 386) E (dat dkW_h 11 rfl) (by decide +kernel) (by decide +kernel) rfl rfl (lb_2 hst E hX hb hA hL hi H b1 b2 b3 b4 kk)
      · exact r_tabIn (off := 359) (tgt := 399) E (dat dkW_h 11 rfl) (by decide +kernel) (by decide +kernel) rfl rfl (lb_3 hst E hX hb hA hL hi H b1 b2 b3 b4 kk)
      · exact r_tabIn (off := 372) (tgt := 412) E (dat dkW_h 11 rfl) (by decide +kernel) (by decide +kernel) rfl rfl (lb_4 hst E hX hb hA hL hi H b1 b2 b3 b4 kk)
      · exact r_tabIn (off := 385) (tgt := 425) E (dat dkW_h 11 rfl) (by decide +kernel) (by decide +kernel) rfl rfl (lb_5 hst E hX hb hA hL hi H b1 b2 b3 b4 kk)
      · exact r_tabIn (off := 398) (tgt := 438) E (dat dkW_h 11 rfl) (by decide +kernel) (by decide +kernel) rfl rfl (lb_6 hst E hX hb hA hL hi H b1 b2 b3 b4 kk)
      · exact r_tabIn (off := 411) (tgt := 451) E (dat dkW_h 11 rfl) (by decide +kernel) (by decide +kernel) rfl rfl (lb_7 hst E hX hb hA hL hi H b1 b2 b3 b4 kk)
      · exact r_tabIn (off := 424) (tgt := 464) E (dat dkW_h 11 rfl) (by decide +kernel) (by decide +kernel) rfl rfl (lb_8 hst E hX hb hA hL hi H b1 b2 b3 b4 kk)
      · exact r_tabIn (off := 437) (tgt := 477) E (dat dkW_h 11 rfl) (by decide +kernel) (by decide +kernel) rfl rfl (lb_9 hst E hX hb hA hL hi H b1 b2 b3 b4 kk)
      · exact r_tabIn (off := 450) (tgt := 490) E (dat dkW_h 11 rfl) (by decide +kernel) (by decide +kernel) rfl rfl (lb_10 hst E hX hb hA hL hi H b1 b2 b3 b4 kk)
      · exact r_tabIn (off := 506) (tgt := 546) E (dat dkW_h 11 rfl) (by decide +kernel) (by decide +kernel) rfl rfl (lb_11 hst E hX hb hA hL hi H b1 b2 b3 b4 kk)
      · exact r_tabIn (off := 562) (tgt := 602) E (dat dkW_h 11 rfl) (by decide +kernel) (by decide +kernel) rfl rfl (lb_12 hst E hX hb hA hL hi H b1 b2 b3 b4 kk)
      · exact r_tabIn (off := 618) (tgt := 658) E (dat dkW_h 11 rfl) (by decide +kernel) (by decide +kernel) rfl rfl (lb_13 hst E hX hb hA hL hi H b1 b2 b3 b4 kk)
      · exact r_tabIn (off := 674) (tgt := 714) E (dat dkW_h 11 rfl) (by decide +kernel) (by decide +kernel) rfl rfl (lb_14 hst E hX hb hA hL hi H b1 b2 b3 b4 kk)
      · exact r_tabIn (off := 730) (tgt := 770) E (dat dkW_h 11 rfl) (by decide +kernel) (by decide +kernel) rfl rfl (lb_15 hst E hX hb hA hL hi H b1 b2 b3 b4 kk)
      · exact r_tabIn (off := 786) (tgt := 826) E (dat dkW_h 11 rfl) (by decide +kernel) (by decide +kernel) rfl rfl (lb_16 hst E hX hb hA hL hi H b1 b2 b3 b4 kk)
      · exact r_tabIn (off := 849) (tgt := 889) E (dat dkW_h 11 rfl) (by decide +kernel) (by decide +kernel) rfl rfl (lb_17 hst E hX hb hA hL hi H b1 b2 b3 b4 kk)
      · exact r_tabIn (off := 905) (tgt := 945) E (dat dkW_h 11 rfl) (by decide +kernel) (by decide +kernel) rfl rfl (lb_18 hst E hX hb hA hL hi H b1 b2 b3 b4 kk)
      · exact r_tabIn (off := 961) (tgt := 1001) E (dat dkW_h 11 rfl) (by decide +kernel) (by decide +kernel) rfl rfl (lb_19 hst E hX hb hA hL hi H b1 b2 b3 b4 kk)
      · exact r_tabIn (off := 1017) (tgt := 1057) E (dat dkW_h 11 rfl) (by decide +kernel) (by decide +kernel) rfl rfl (lb_20 hst E hX hb hA hL hi H b1 b2 b3 b4 kk)
      · exact r_tabIn (off := 1073) (tgt := 1113) E (dat dkW_h 11 rfl) (by decide +kernel) (by decide +kernel) rfl rfl (lb_21 hst E hX hb hA hL hi H b1 b2 b3 b4 kk)
      · exact r_tabIn (off := 1141) (tgt := 1181) E (dat dkW_h 11 rfl) (by decide +kernel) (by decide +kernel) rfl rfl (lb_22 hst E hX hb hA hL hi H b1 b2 b3 b4 kk)
      · exact r_tabIn (off := 1154) (tgt := 1194) E (dat dkW_h 11 rfl) (by decide +kernel) (by decide +kernel) rfl rfl (lb_23 hst E hX hb hA hL hi H b1 b2 b3 b4 kk)
      · exact r_tabIn (off := 1210) (tgt := 1250) E (dat dkW_h 11 rfl) (by decide +kernel) (by decide +kernel) rfl rfl (lb_24 hst E hX hb hA hL hi H b1 b2 b3 b4 kk)
      · exact r_tabIn (off := 1266) (tgt := 1306) E (dat dkW_h 11 rfl) (by decide +kernel) (by decide +kernel) rfl rfl (lb_25 hst E hX hb hA hL hi H b1 b2 b3 b4 kk)
      · exact r_tabIn (off := 1322) (tgt := 1362) E (dat dkW_h 11 rfl) (by decide +kernel) (by decide +kernel) rfl rfl (lb_26 hst E hX hb hA hL hi H b1 b2 b3 b4 kk)
      · exact r_tabIn (off := 1335) (tgt := 1375) E (dat dkW_h 11 rfl) (by decide +kernel) (by decide +kernel) rfl rfl (lb_27 hst E hX hb hA hL hi H b1 b2 b3 b4 kk)
      · exact r_tabIn (off := 1348) (tgt := 1388) E (dat dkW_h 11 rfl) (by decide +kernel) (by decide +kernel) rfl rfl (lb_28 hst E hX hb hA hL hi H b1 b2 b3 b4 kk)
      · exact r_tabIn (off := 1361) (tgt := 1401) E (dat dkW_h 11 rfl) (by decide +kernel) (by decide +kernel) rfl rfl (lb_29 hst E hX hb hA hL hi H b1 b2 b3 b4 kk)
      · exact r_tabIn (off := 1374) (tgt := 1414) E (dat dkW_h 11 rfl) (by decide +kernel) (by decide +kernel) rfl rfl (lb_30 hst E hX hb hA hL hi H b1 b2 b3 b4 kk)
      · exact r_tabIn (off := 1387) (tgt := 1427) E (dat dkW_h 11 rfl) (by decide +kernel) (by decide +kernel) rfl rfl (lb_31 hst E hX hb hA hL hi H b1 b2 b3 b4 kk)
      · exact r_tabIn (off := 1400) (tgt := 1440) E (dat dkW_h 11 rfl) (by decide +kernel) (by decide +kernel) rfl rfl (lb_32 hst E hX hb hA hL hi H b1 b2 b3 b4 kk)
      · exact r_tabIn (off := 1413) (tgt := 1453) E (dat dkW_h 11 rfl) (by decide +kernel) (by decide +kernel) rfl rfl (lb_33 hst E hX hb hA hL hi H b1 b2 b3 b4 kk)
      · exact r_tabIn (off := 1481) (tgt := 1521) E (dat dkW_h 11 rfl) (by decide +kernel) (by decide +kernel) rfl rfl (lb_34 hst E hX hb hA hL hi H b1 b2 b3 b4 kk)
      · exact r_tabIn (off := 1537) (tgt := 1577) E (dat dkW_h 11 rfl) (by decide +kernel) (by decide +kernel) rfl rfl (lb_35 hst E hX hb hA hL hi H b1 b2 b3 b4 kk)
      · exact r_tabIn (off := 1593) (tgt := 1633) E (dat dkW_h 11 rfl) (by decide +kernel) (by decide +kernel) rfl rfl (lb_36 hst E hX hb hA hL hi H b1 b2 b3 b4 kk)
      · exact r_tabIn (off := 1656) (tgt := 1696) E (dat dkW_h 11 rfl) (by decide +kernel) (by decide +kernel) rfl rfl (lb_37 hst E hX hb hA hL hi H b1 b2 b3 b4 kk)
      · exact r_tabIn (off := 1712) (tgt := 1752) E (dat dkW_h 11 rfl) (by decide +kernel) (by decide +kernel) rfl rfl (lb_38 hst E hX hb hA hL hi H b1 b2 b3 b4 kk)
      · exact r_tabIn (off := 1780) (tgt := 1820) E (dat dkW_h 11 rfl) (by decide +kernel) (by decide +kernel) rfl rfl (lb_39 hst E hX hb hA hL hi H b1 b2 b3 b4 kk)
      · exact r_tabIn (off := 1848) (tgt := 1888) E (dat dkW_h 11 rfl) (by decide +kernel) (by decide +kernel) rfl rfl (lb_40 hst E hX hb hA hL hi H b1 b2 b3 b4 kk)
      · exact r_tabIn (off := 1904) (tgt := 1944) E (dat dkW_h 11 rfl) (by decide +kernel) (by decide +kernel) rfl rfl (lb_41 hst E hX hb hA hL hi H b1 b2 b3 b4 kk)
      · exact r_tabIn (off := 1960) (tgt := 2000) E (dat dkW_h 11 rfl) (by decide +kernel) (by decide +kernel) rfl rfl (lb_42 hst E hX hb hA hL hi H b1 b2 b3 b4 kk)
      · exact r_tabIn (off := 2001) (tgt := 2041) E (dat dkW_h 11 rfl) (by decide +kernel) (by decide +kernel) rfl rfl (lb_43 hst E hX hb hA hL hi H b1 b2 b3 b4 kk)
      · exact r_tabIn (off := 2044) (tgt := 2084) E (dat dkW_h 11 rfl) (by decide +kernel) (by decide +kernel) rfl rfl (lb_44 hst E hX hb hA hL hi H b1 b2 b3 b4 kk)
      · exact r_tabIn (off := 2057) (tgt := 2097) E (dat dkW_h 11 rfl) (by decide +kernel) (by decide +kernel) rfl rfl (lb_45 hst E hX hb hA hL hi H b1 b2 b3 b4 kk)
      · exact r_tabIn (off := 2113) (tgt := 2153) E (dat dkW_h 11 rfl) (by decide +kernel) (by decide +kernel) rfl rfl (lb_46 hst E hX hb hA hL hi H b1 b2 b3 b4 kk)
      · exact r_tabIn (off := 2193) (tgt := 2233) E (dat dkW_h 11 rfl) (by decide +kernel) (by decide +kernel) rfl rfl (lb_47 hst E hX hb hA hL hi H b1 b2 b3 b4 kk)
      · exact r_tabIn (off := 2249) (tgt := 2289) E (dat dkW_h 11 rfl) (by decide +kernel) (by decide +kernel) rfl rfl (lb_48 hst E hX hb hA hL hi H b1 b2 b3 b4 kk)
      · exact r_tabIn (off := 2317) (tgt := 2357) E (dat dkW_h 11 rfl) (by decide +kernel) (by decide +kernel) rfl rfl (lb_49 hst E hX hb hA hL hi H b1 b2 b3 b4 kk)
      · exact r_tabIn (off := 2373) (tgt := 2413) E (dat dkW_h 11 rfl) (by decide +kernel) (by decide +kernel) rfl rfl (lb_50 hst E hX hb hA hL hi H b1 b2 b3 b4 kk)
      · exact r_tabIn (off := 2441) (tgt := 2481) E (dat dkW_h 11 rfl) (by decide +kernel) (by decide +kernel) rfl rfl (lb_51 hst E hX hb hA hL hi H b1 b2 b3 b4 kk)
      · exact r_tabIn (off := 2497) (tgt := 2537) E (dat dkW_h 11 rfl) (by decide +kernel) (by decide +kernel) rfl rfl (lb_52 hst E hX hb hA hL hi H b1 b2 b3 b4 kk)
      · exact r_tabIn (off := 2553) (tgt := 2593) E (dat dkW_h 11 rfl) (by decide +kernel) (by decide +kernel) rfl rfl (lb_53 hst E hX hb hA hL hi H b1 b2 b3 b4 kk)
      · exact r_tabIn (off := 2597) (tgt := 2637) E (dat dkW_h 11 rfl) (by decide +kernel) (by decide +kernel) rfl rfl (lb_54 hst E hX hb hA hL hi H b1 b2 b3 b4 kk)
      · exact r_tabIn (off := 2653) (tgt := 2693) E (dat dkW_h 11 rfl) (by decide +kernel) (by decide +kernel) rfl rfl (lb_55 hst E hX hb hA hL hi H b1 b2 b3 b4 kk)
      · exact r_tabIn (off := 2678) (tgt := 2718) E (dat dkW_h 11 rfl) (by decide +kernel) (by decide +kernel) rfl rfl (lb_56 hst E hX hb hA hL hi H b1 b2 b3 b4 kk)
      · exact r_tabIn (off := 2691) (tgt := 2731) E (dat dkW_h 11 rfl) (by decide +kernel) (by decide +kernel) rfl rfl (lb_57 hst E hX hb hA hL hi H b1 b2 b3 b4 kk)
      · refine r_tabOut (tgt := 2775) E (dat dkW_h 11 rfl) (Or.inr ?_) rfl ?_
        · rw [ni_t (by omega)]; omega
        · exact r_wid (by omega) (by omega) (kk N (RLe_up H (by omega)))
set_option maxRecDepth 100000 in
set_option maxHeartbeats 16000000 in
theorem law_entry {cs : Nat → Nat → Nat} (hst : l.stackTraces = false) (E : EX p s m #[Value.ref b] meth c G (fun q => s.heap.size ≤ q) cL_law RL 9) (hG : GF G ([], lk0, cs) (fun q => s.heap.size ≤ q) s s.heap) (hr : meth.sig.returnType = some .boolean) {Ls : Nat} {xs : Nat → Int32} (hX : va_X b Ls xs s s.heap) (hb : b < s.heap.size) (hL : Ls ≤ 3072) :
    NM p l e room_1 s m #[Value.ref b] below meth c G (fun q => s.heap.size ≤ q) 9 (lw_Z below #[Value.ref b] s) [] 0 0 0 [some (.inl (.ref b)), none, none, none, none, none, none, none, none] [] := by
  refine n_new E (dat dkW_e 0 rfl) (ci := 7) (C := RX9) (T := TX9) (N := 13) (ty0 := tyX9) (fs := [.null, .null, .null, .null, .null, .null, .null, .null, .null, .null, .null, .int 0, .int 0]) rfl inB9 tyX9_ok (bg_1 25 (by decide +kernel)) (bg_1 26 (by decide +kernel)) (bg_1 1 (by decide +kernel)) (by decide +kernel) (Nat.le_of_ble_eq_true rfl) (Nat.le_of_ble_eq_true rfl) (fun b1 => ?_)
  refine n_dup E (dat dkW_e 1 rfl) rfl ?_
  refine n_callG E hG (sp_X9_init1 l G) my_X9_init rfl ii_X9_init ml_L_127 ⟨Nat.le_of_ble_eq_true rfl, Nat.le_of_ble_eq_true rfl, Nat.le_of_ble_eq_true rfl, Nat.le_of_ble_eq_true rfl⟩ (Nat.le_of_ble_eq_true rfl) (dat dkW_e 2 rfl) (fun d1 M1 hd1 h97 hM1 => ?_)
  subst hd1
  subst hM1
  refine n_astore_n (i := 1) (L2 := [some (.inl (.ref b)), some (.inl (.ref (d1 0 0))), none, none, none, none, none, none, none]) E (dat dkW_e 3 rfl) rfl (Nat.le_of_ble_eq_true rfl) rfl (hc_of 0 rfl rfl) rfl ?_
  refine n_new E (dat dkW_e 4 rfl) (ci := 8) (C := RX10) (T := TX10) (N := 26) (ty0 := tyX10) (fs := [.null, .null, .null, .null, .int 0, .int 0, .int 0, .null, .int 0, .null, .int 0, .int 0, .int 0, .int 0, .int 0, .int 0, .int 0, .int 0, .int 0, .null, .null, .int 0, .null, .null, .null, .int 0]) rfl inB10 tyX10_ok (bg_6 20 (by decide +kernel)) (bg_6 21 (by decide +kernel)) (bg_1 16 (by decide +kernel)) (by decide +kernel) (Nat.le_of_ble_eq_true rfl) (Nat.le_of_ble_eq_true rfl) (fun b2 => ?_)
  refine n_dup E (dat dkW_e 5 rfl) rfl ?_
  refine n_callG E hG (sp_X10_init1 l G) my_X10_init rfl ii_X10_init ml_L_130 ⟨Nat.le_of_ble_eq_true rfl, Nat.le_of_ble_eq_true rfl, Nat.le_of_ble_eq_true rfl, Nat.le_of_ble_eq_true rfl⟩ (Nat.le_of_ble_eq_true rfl) (dat dkW_e 6 rfl) (fun d2 M2 hd2 h98 hM2 => ?_)
  subst hd2
  subst hM2
  refine n_astore_n (i := 2) (L2 := [some (.inl (.ref b)), some (.inl (.ref (d1 0 0))), some (.inl (.ref (d2 0 0))), none, none, none, none, none, none]) E (dat dkW_e 7 rfl) rfl (Nat.le_of_ble_eq_true rfl) rfl (hc_of 1 rfl rfl) rfl ?_
  refine n_iconst E (dat dkW_e 8 rfl) (v := 1) rfl ?_
  refine n_newa E (atype := .long) (ty := .long) (i := 3) (N := 1) (dat dkW_e 9 rfl) rfl an_long rfl (fun _ h => h) (fun _ => rfl) (by decide) rfl (Nat.le_of_ble_eq_true rfl) (Nat.le_of_ble_eq_true rfl) (Nat.le_of_ble_eq_true rfl) (fun qo => ?_)
  refine n_astore_n (i := 3) (L2 := [some (.inl (.ref b)), some (.inl (.ref (d1 0 0))), some (.inl (.ref (d2 0 0))), some (.inl (.ref qo)), none, none, none, none, none]) E (dat dkW_e 10 rfl) rfl (Nat.le_of_ble_eq_true rfl) rfl (hc_of 2 rfl rfl) rfl ?_
  refine n_wm E hG hr (Y := (KL, lkC, adL qo d1 d2)) (M := lawM) (L' := [some (.inl (.ref b)), some (rv 0 0), some (rv 20 0), some (rv 19 0), none, none, none, none, none]) (S' := []) (ws2 := wl G (KL, lkC, adL qo d1 d2) lawM) (fun i hi => ?_) (fun H h => ?_) (fun h => ?_) rfl (fun q h => Or.inr h) rfl rfl (fun E hAS => ?_)
  · show adL qo d1 d2 (97 + i) = cs (97 + i)
    rw [adL_lt (by omega) (by omega)]
    exact h97 i hi
  · refine law_P h97 h98 (va_P_of fun x hx => va_P_at h ?_) (va_P_of fun x hx => va_P_at h ?_) (va_P_of fun x hx => va_P_at h ?_)
    · exact List.mem_append_left _ (List.mem_append_left _ (List.mem_append_right _ hx))
    · exact List.mem_append_left _ (List.mem_append_right _ hx)
    · exact List.mem_append_right _ hx
  · refine law_D ?_
    rw [← List.append_assoc]
    exact h
  refine r_iconst (v := 0) E (dat dkW_e 11 rfl) rfl ?_
  refine r_istore_4 E (dat dkW_e 12 rfl) rfl rfl ?_
  refine r_wid (k2 := 145 + 100 * 0) (n2 := 10936 + 1000 * 0) (Nat.le_of_ble_eq_true rfl) (Nat.le_of_ble_eq_true rfl) ?_
  exact law_loop hst E hX hb hAS hL 512 0 lawM (by omega) (by omega) lawM_R
end LWE
