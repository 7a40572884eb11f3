/-! PuddleCityModel() -/
def mdM (ln : Int32) (A sp hs : Nat → Int32) : Mem := fun j => if j = 0 then (fun t => if t = 0 then (fun k => if k = 12 then -1 else if k = 8 then ln else 0) else if t = 1 then A else if t = 8 then sp else fun _ => 0) else if j = 1 then (fun t => if t = 0 then hs else fun _ => 0) else fun _ _ => 0
section MDM
variable {ln x v : Int32} {A sp hs : Nat → Int32} {i : Nat}
theorem mdM_A : mdM ln (upd A i v) sp hs = setm (mdM ln A sp hs) 0 (sett (mdM ln A sp hs 0) 1 (upd (mdM ln A sp hs 0 1) i v)) := by
  funext j t
  by_cases hj : j = 0
  · subst hj; rw [setm_s]
    by_cases ht : t = 1
    · subst ht; rw [sett_s]; rfl
    · rw [sett_n ht]; unfold mdM; rw [if_pos rfl, if_pos rfl]
      by_cases h0 : t = 0
      · rw [if_pos h0, if_pos h0]
      · rw [if_neg h0, if_neg h0, if_neg ht, if_neg ht]
  · rw [setm_n hj]; unfold mdM; rw [if_neg hj, if_neg hj]
theorem mdM_B {B : Nat → Int32} : mdM ln B sp hs = md (mdM ln A sp hs) B := by
  unfold md
  funext j t
  by_cases hj : j = 0
  · subst hj; rw [setm_s]
    by_cases ht : t = 1
    · subst ht; rw [sett_s]; rfl
    · rw [sett_n ht]; unfold mdM; rw [if_pos rfl, if_pos rfl]
      by_cases h0 : t = 0
      · rw [if_pos h0, if_pos h0]
      · rw [if_neg h0, if_neg h0, if_neg ht, if_neg ht]
  · rw [setm_n hj]; unfold mdM; rw [if_neg hj, if_neg hj]
theorem mdM_S : mdM ln A (upd sp i v) hs = setm (mdM ln A sp hs) 0 (sett (mdM ln A sp hs 0) 8 (upd (mdM ln A sp hs 0 8) i v)) := by
  funext j t
  by_cases hj : j = 0
  · subst hj; rw [setm_s]
    by_cases ht : t = 8
    · subst ht; rw [sett_s]; rfl
    · rw [sett_n ht]; unfold mdM; rw [if_pos rfl, if_pos rfl]
      by_cases h0 : t = 0
      · rw [if_pos h0, if_pos h0]
      · rw [if_neg h0, if_neg h0]
        by_cases h1 : t = 1
        · rw [if_pos h1, if_pos h1]
        · rw [if_neg h1, if_neg h1, if_neg ht, if_neg ht]
  · rw [setm_n hj]; unfold mdM; rw [if_neg hj, if_neg hj]
theorem mdM_H : mdM ln A sp (upd hs i v) = setm (mdM ln A sp hs) 1 (sett (mdM ln A sp hs 1) 0 (upd (mdM ln A sp hs 1 0) i v)) := by
  funext j t
  by_cases hj : j = 1
  · subst hj; rw [setm_s]
    by_cases ht : t = 0
    · subst ht; rw [sett_s]; rfl
    · rw [sett_n ht]; unfold mdM; simp [ht]
  · rw [setm_n hj]; unfold mdM; rw [if_neg hj, if_neg hj]
theorem mdM_L : mdM x A sp hs = setm (mdM ln A sp hs) 0 (sett (mdM ln A sp hs 0) 0 (upd (mdM ln A sp hs 0 0) 8 x)) := by
  funext j t k
  by_cases hj : j = 0
  · subst hj; rw [setm_s]
    by_cases ht : t = 0
    · subst ht; rw [sett_s]
      unfold upd
      by_cases hk : k = 8
      · subst hk; rfl
      · rw [if_neg hk]; unfold mdM; simp [hk]
    · rw [sett_n ht]; unfold mdM; rw [if_pos rfl, if_pos rfl, if_neg ht, if_neg ht]
  · rw [setm_n hj]; unfold mdM; rw [if_neg hj, if_neg hj]
end MDM
section RSK
variable {p : Program} {l : Launch} {e : Env} {R : Room} {s : State} {m : MethodId} {args : Array Value} {below : List Frame} {meth : Method} {c : Code} {G : GT} {Y : LV} {nL : Nat} {Q : State → Prop} {M : Mem} {k n pc : Nat} {L : List (Option AV)} {S : List AV} {cc : ByteArray} {own : String} {ret : Option FieldType}
theorem r_topE {x y : Int32} (h : x = y) (kk : WM p l e R s m args below meth c G Y nL Q M k n pc L (iv y :: S)) : WM p l e R s m args below meth c G Y nL Q M k n pc L (iv x :: S) := h ▸ kk
/-- the end of a constructor that drops what it alone made -/
theorem r_vretH {Y2 : LV} {cs : Nat → Nat → Nat} {a mc ms : Nat} {post : Mem → Prop} (E : EN p s m args meth c G Y cc own nL none) (hd : decode cc pc = .ok (.return_, 1)) (hk : k ≤ mc) (hn : n ≤ ms) (ha : Y2.2.2 0 0 = a) (h97 : ∀ i, i < 3 → Y2.2.2 (97 + i) = cs (97 + i)) (hAS : ∀ q, AS Y s.heap.size q → AK a s.heap.size q) (hw : ∃ w, wl G Y M = wl G Y2 M ++ w) (hp : post M) : WM p l e R s m args below meth c G Y nL (MQ below (QG9 G cs Y2.1 Y2.2.1 a post s.heap.size) args s mc ms (AK a s.heap.size)) M k n pc L [] := by
  intro H locs ls hP hS hl
  obtain ⟨hx, hb, hml, hown, hts, hr, hlk, hG, hD⟩ := E
  obtain ⟨w, hw⟩ := hw
  refine W.widen hk hn ?_
  have hD1 := hD M
  rw [hw] at hP hD1
  refine W.vret (hlocks := hlk) hx hb hr (fun t ht hW => ⟨⟨Y2.2.2, M, ha, h97, rfl, hp, ?_, ?_⟩, ?_⟩) (fun q hq => hAS _ (hS.2.2 q hq)) hd
  · rw [ht]
    exact fun i q hq => hP i q (by rw [List.getElem?_append_left (List.getElem?_eq_some_iff.mp hq).1]; exact hq)
  · refine ⟨fun i j x z hx hz h => hD1.1 i j x z (by rw [List.getElem?_append_left (List.getElem?_eq_some_iff.mp hx).1]; exact hx) (by rw [List.getElem?_append_left (List.getElem?_eq_some_iff.mp hz).1]; exact hz) h, fun i q hq => hAS _ (hD1.2 i q (by rw [List.getElem?_append_left (List.getElem?_eq_some_iff.mp hq).1]; exact hq))⟩
  · have h1 := hS.F ht
    exact ⟨h1.1, fun q h2 h3 => h1.2 q h2 (fun h => h3 (hAS q h))⟩
end RSK
def hs1 : Nat → Int32 := upd z1 0 5
def hs2 : Nat → Int32 := upd hs1 1 4
def hs3 : Nat → Int32 := upd hs2 2 3
def hs4 : Nat → Int32 := upd hs3 3 6
def hs5 : Nat → Int32 := upd hs4 4 2
def hs6 : Nat → Int32 := upd hs5 5 1
def hs7 : Nat → Int32 := upd hs6 6 5
def hs8 : Nat → Int32 := upd hs7 7 4
def hs9 : Nat → Int32 := upd hs8 8 0
def ma1 : Nat → Int32 := upd z1 1 3
def ma2 : Nat → Int32 := upd ma1 2 3
def ma3 : Nat → Int32 := upd ma2 15 5
def ma4 : Nat → Int32 := upd ma3 21 4
def ma5 : Nat → Int32 := upd ma4 27 3
def ma6 : Nat → Int32 := upd ma5 33 6
def ma7 : Nat → Int32 := upd ma6 39 2
def ma8 : Nat → Int32 := upd ma7 45 1
def ma9 : Nat → Int32 := upd ma8 51 5
def ma10 : Nat → Int32 := upd ma9 57 4
def ma11 : Nat → Int32 := upd ma10 63 0
def ma12 : Nat → Int32 := upd ma11 66 2
def msp1 : Nat → Int32 := upd z1 0 97
def msp2 : Nat → Int32 := upd msp1 1 110
def msp3 : Nat → Int32 := upd msp2 2 110
def ma13 : Nat → Int32 := abF ma12 0 3 msp3 0 2
def msp4 : Nat → Int32 := upd msp3 0 98
def msp5 : Nat → Int32 := upd msp4 1 111
def msp6 : Nat → Int32 := upd msp5 2 98
def ma14 : Nat → Int32 := abF ma13 1 3 msp6 4 1
def ma15 : Nat → Int32 := upd ma14 3 1
def mdlM : Mem := mdM 3 ma15 msp6 hs9
set_option maxRecDepth 100000 in
set_option maxHeartbeats 40000000 in
theorem sp_X10_init1 (l : Launch) (G : GT) : CG l G yX10_init cX10_init 5 ({ frames := 4, cells := 12, slots := 5760, locals := 90 } : Room) 8 [.null, .null, .null, .null, .int 0, .int 0, .int 0, .null, .int 0, .null, .int 0, .int 0, .int 0, .int 0, .int 0, .int 0, .int 0, .int 0, .int 0, .null, .null, .int 0, .null, .null, .null, .int 0] [9] lk0 (fun M2 => M2 = mdlM) := by
  refine CG.of RX10 (by decide) rfl rfl (Nat.le_of_ble_eq_true rfl) (fun p e s m args below meth c a cs hret E hG => ?_)
  refine n_aload_n E (dat dkX10_init 0 rfl) rfl rfl ?_
  refine n_objI E (dat dkX10_init 1 rfl) (bg_6 25 (by decide +kernel)) oi_2 oi_3 (Nat.le_of_ble_eq_true rfl) (Nat.le_of_ble_eq_true rfl) ?_
  refine n_aload_n E (dat dkX10_init 2 rfl) rfl rfl ?_
  refine n_sipush E (dat dkX10_init 3 rfl) (v := 443) rfl ?_
  refine n_newa E (atype := .int) (ty := .int) (i := 0) (N := 443) (dat dkX10_init 4 rfl) rfl an_int rfl (fun _ h => h) (fun _ => rfl) (by decide) rfl (Nat.le_of_ble_eq_true rfl) (Nat.le_of_ble_eq_true rfl) (Nat.le_of_ble_eq_true rfl) (fun q1 => ?_)
  refine n_putF E (dat dkX10_init 5 rfl) (ty := .array .int) (j := 0) (q0 := 0) (ci := 8) (C := RX10) (T := TX10) (N := 26) rfl inB10 tyX10_ok nmX10 (by decide) (bg_6 38 (by decide +kernel)) rfl rfl (by decide +kernel) rfl rfl rfl (Nat.le_of_ble_eq_true rfl) ?_
  refine n_ws (ws2 := [(a, .inr (8, [.ref q1, .null, .null, .null, .int 0, .int 0, .int 0, .null, .int 0, .null, .int 0, .int 0, .int 0, .int 0, .int 0, .int 0, .int 0, .int 0, .int 0, .null, .null, .int 0, .null, .null, .null, .int 0])), (q1, aN G 0 443)]) rfl ?_
  refine n_aload_n E (dat dkX10_init 6 rfl) rfl rfl ?_
  refine n_sipush E (dat dkX10_init 7 rfl) (v := 443) rfl ?_
  refine n_newa E (atype := .int) (ty := .int) (i := 0) (N := 443) (dat dkX10_init 8 rfl) rfl an_int rfl (fun _ h => h) (fun _ => rfl) (by decide) rfl (Nat.le_of_ble_eq_true rfl) (Nat.le_of_ble_eq_true rfl) (Nat.le_of_ble_eq_true rfl) (fun q2 => ?_)
  refine n_putF E (dat dkX10_init 9 rfl) (ty := .array .int) (j := 1) (q0 := 0) (ci := 8) (C := RX10) (T := TX10) (N := 26) rfl inB10 tyX10_ok nmX10 (by decide) (bg_6 39 (by decide +kernel)) rfl rfl (by decide +kernel) rfl rfl rfl (Nat.le_of_ble_eq_true rfl) ?_
  refine n_ws (ws2 := [(a, .inr (8, [.ref q1, .ref q2, .null, .null, .int 0, .int 0, .int 0, .null, .int 0, .null, .int 0, .int 0, .int 0, .int 0, .int 0, .int 0, .int 0, .int 0, .int 0, .null, .null, .int 0, .null, .null, .null, .int 0])), (q1, aN G 0 443), (q2, aN G 0 443)]) rfl ?_
  refine n_aload_n E (dat dkX10_init 10 rfl) rfl rfl ?_
  refine n_sipush E (dat dkX10_init 11 rfl) (v := 443) rfl ?_
  refine n_newa E (atype := .int) (ty := .int) (i := 0) (N := 443) (dat dkX10_init 12 rfl) rfl an_int rfl (fun _ h => h) (fun _ => rfl) (by decide) rfl (Nat.le_of_ble_eq_true rfl) (Nat.le_of_ble_eq_true rfl) (Nat.le_of_ble_eq_true rfl) (fun q3 => ?_)
  refine n_putF E (dat dkX10_init 13 rfl) (ty := .array .int) (j := 2) (q0 := 0) (ci := 8) (C := RX10) (T := TX10) (N := 26) rfl inB10 tyX10_ok nmX10 (by decide) (bg_6 40 (by decide +kernel)) rfl rfl (by decide +kernel) rfl rfl rfl (Nat.le_of_ble_eq_true rfl) ?_
  refine n_ws (ws2 := [(a, .inr (8, [.ref q1, .ref q2, .ref q3, .null, .int 0, .int 0, .int 0, .null, .int 0, .null, .int 0, .int 0, .int 0, .int 0, .int 0, .int 0, .int 0, .int 0, .int 0, .null, .null, .int 0, .null, .null, .null, .int 0])), (q1, aN G 0 443), (q2, aN G 0 443), (q3, aN G 0 443)]) rfl ?_
  refine n_aload_n E (dat dkX10_init 14 rfl) rfl rfl ?_
  refine n_sipush E (dat dkX10_init 15 rfl) (v := 3544) rfl ?_
  refine n_newa E (atype := .int) (ty := .int) (i := 0) (N := 3544) (dat dkX10_init 16 rfl) rfl an_int rfl (fun _ h => h) (fun _ => rfl) (by decide) rfl (Nat.le_of_ble_eq_true rfl) (Nat.le_of_ble_eq_true rfl) (Nat.le_of_ble_eq_true rfl) (fun q4 => ?_)
  refine n_putF E (dat dkX10_init 17 rfl) (ty := .array .int) (j := 3) (q0 := 0) (ci := 8) (C := RX10) (T := TX10) (N := 26) rfl inB10 tyX10_ok nmX10 (by decide) (bg_6 41 (by decide +kernel)) rfl rfl (by decide +kernel) rfl rfl rfl (Nat.le_of_ble_eq_true rfl) ?_
  refine n_ws (ws2 := [(a, .inr (8, [.ref q1, .ref q2, .ref q3, .ref q4, .int 0, .int 0, .int 0, .null, .int 0, .null, .int 0, .int 0, .int 0, .int 0, .int 0, .int 0, .int 0, .int 0, .int 0, .null, .null, .int 0, .null, .null, .null, .int 0])), (q1, aN G 0 443), (q2, aN G 0 443), (q3, aN G 0 443), (q4, aN G 0 3544)]) rfl ?_
  refine n_aload_n E (dat dkX10_init 18 rfl) rfl rfl ?_
  refine n_bipush E (dat dkX10_init 19 rfl) (v := 6) rfl ?_
  refine n_newa E (atype := .int) (ty := .int) (i := 0) (N := 6) (dat dkX10_init 20 rfl) rfl an_int rfl (fun _ h => h) (fun _ => rfl) (by decide) rfl (Nat.le_of_ble_eq_true rfl) (Nat.le_of_ble_eq_true rfl) (Nat.le_of_ble_eq_true rfl) (fun q5 => ?_)
  refine n_putF E (dat dkX10_init 21 rfl) (ty := .array .int) (j := 7) (q0 := 0) (ci := 8) (C := RX10) (T := TX10) (N := 26) rfl inB10 tyX10_ok nmX10 (by decide) (bg_6 45 (by decide +kernel)) rfl rfl (by decide +kernel) rfl rfl rfl (Nat.le_of_ble_eq_true rfl) ?_
  refine n_ws (ws2 := [(a, .inr (8, [.ref q1, .ref q2, .ref q3, .ref q4, .int 0, .int 0, .int 0, .ref q5, .int 0, .null, .int 0, .int 0, .int 0, .int 0, .int 0, .int 0, .int 0, .int 0, .int 0, .null, .null, .int 0, .null, .null, .null, .int 0])), (q1, aN G 0 443), (q2, aN G 0 443), (q3, aN G 0 443), (q4, aN G 0 3544), (q5, aN G 0 6)]) rfl ?_
  refine n_aload_n E (dat dkX10_init 22 rfl) rfl rfl ?_
  refine n_sipush E (dat dkX10_init 23 rfl) (v := 600) rfl ?_
  refine n_newa E (atype := .byte) (ty := .byte) (i := 1) (N := 600) (dat dkX10_init 24 rfl) rfl an_byte rfl (fun _ h => h) (fun _ => rfl) (by decide) rfl (Nat.le_of_ble_eq_true rfl) (Nat.le_of_ble_eq_true rfl) (Nat.le_of_ble_eq_true rfl) (fun q6 => ?_)
  refine n_putF E (dat dkX10_init 25 rfl) (ty := .array .byte) (j := 9) (q0 := 0) (ci := 8) (C := RX10) (T := TX10) (N := 26) rfl inB10 tyX10_ok nmX10 (by decide) (bg_6 47 (by decide +kernel)) rfl rfl (by decide +kernel) rfl rfl rfl (Nat.le_of_ble_eq_true rfl) ?_
  refine n_ws (ws2 := [(a, .inr (8, [.ref q1, .ref q2, .ref q3, .ref q4, .int 0, .int 0, .int 0, .ref q5, .int 0, .ref q6, .int 0, .int 0, .int 0, .int 0, .int 0, .int 0, .int 0, .int 0, .int 0, .null, .null, .int 0, .null, .null, .null, .int 0])), (q1, aN G 0 443), (q2, aN G 0 443), (q3, aN G 0 443), (q4, aN G 0 3544), (q5, aN G 0 6), (q6, aN G 1 600)]) rfl ?_
  refine n_aload_n E (dat dkX10_init 26 rfl) rfl rfl ?_
  refine n_iconst E (dat dkX10_init 27 rfl) (v := (-1)) rfl ?_
  refine n_put E (dat dkX10_init 28 rfl) (ty := .int) (j := 12) (q0 := 0) (ci := 8) (C := RX10) (T := TX10) (N := 26) rfl inB10 tyX10_ok nmX10 (by decide) (bg_6 50 (by decide +kernel)) rfl (by decide +kernel) rfl rfl rfl (Nat.le_of_ble_eq_true rfl) ?_
  refine n_ws (ws2 := [(a, .inr (8, [.ref q1, .ref q2, .ref q3, .ref q4, .int 0, .int 0, .int 0, .ref q5, .int 0, .ref q6, .int 0, .int 0, .int (-1), .int 0, .int 0, .int 0, .int 0, .int 0, .int 0, .null, .null, .int 0, .null, .null, .null, .int 0])), (q1, aN G 0 443), (q2, aN G 0 443), (q3, aN G 0 443), (q4, aN G 0 3544), (q5, aN G 0 6), (q6, aN G 1 600)]) rfl ?_
  refine n_aload_n E (dat dkX10_init 29 rfl) rfl rfl ?_
  refine n_bipush E (dat dkX10_init 30 rfl) (v := 8) rfl ?_
  refine n_newa E (atype := .int) (ty := .int) (i := 0) (N := 8) (dat dkX10_init 31 rfl) rfl an_int rfl (fun _ h => h) (fun _ => rfl) (by decide) rfl (Nat.le_of_ble_eq_true rfl) (Nat.le_of_ble_eq_true rfl) (Nat.le_of_ble_eq_true rfl) (fun q7 => ?_)
  refine n_putF E (dat dkX10_init 32 rfl) (ty := .array .int) (j := 19) (q0 := 0) (ci := 8) (C := RX10) (T := TX10) (N := 26) rfl inB10 tyX10_ok nmX10 (by decide) (bg_6 57 (by decide +kernel)) rfl rfl (by decide +kernel) rfl rfl rfl (Nat.le_of_ble_eq_true rfl) ?_
  refine n_ws (ws2 := [(a, .inr (8, [.ref q1, .ref q2, .ref q3, .ref q4, .int 0, .int 0, .int 0, .ref q5, .int 0, .ref q6, .int 0, .int 0, .int (-1), .int 0, .int 0, .int 0, .int 0, .int 0, .int 0, .ref q7, .null, .int 0, .null, .null, .null, .int 0])), (q1, aN G 0 443), (q2, aN G 0 443), (q3, aN G 0 443), (q4, aN G 0 3544), (q5, aN G 0 6), (q6, aN G 1 600), (q7, aN G 0 8)]) rfl ?_
  refine n_aload_n E (dat dkX10_init 33 rfl) rfl rfl ?_
  refine n_bipush E (dat dkX10_init 34 rfl) (v := 120) rfl ?_
  refine n_newa E (atype := .int) (ty := .int) (i := 0) (N := 120) (dat dkX10_init 35 rfl) rfl an_int rfl (fun _ h => h) (fun _ => rfl) (by decide) rfl (Nat.le_of_ble_eq_true rfl) (Nat.le_of_ble_eq_true rfl) (Nat.le_of_ble_eq_true rfl) (fun q8 => ?_)
  refine n_putF E (dat dkX10_init 36 rfl) (ty := .array .int) (j := 20) (q0 := 0) (ci := 8) (C := RX10) (T := TX10) (N := 26) rfl inB10 tyX10_ok nmX10 (by decide) (bg_6 58 (by decide +kernel)) rfl rfl (by decide +kernel) rfl rfl rfl (Nat.le_of_ble_eq_true rfl) ?_
  refine n_ws (ws2 := [(a, .inr (8, [.ref q1, .ref q2, .ref q3, .ref q4, .int 0, .int 0, .int 0, .ref q5, .int 0, .ref q6, .int 0, .int 0, .int (-1), .int 0, .int 0, .int 0, .int 0, .int 0, .int 0, .ref q7, .ref q8, .int 0, .null, .null, .null, .int 0])), (q1, aN G 0 443), (q2, aN G 0 443), (q3, aN G 0 443), (q4, aN G 0 3544), (q5, aN G 0 6), (q6, aN G 1 600), (q7, aN G 0 8), (q8, aN G 0 120)]) rfl ?_
  refine n_aload_n E (dat dkX10_init 37 rfl) rfl rfl ?_
  refine n_bipush E (dat dkX10_init 38 rfl) (v := 64) rfl ?_
  refine n_newa E (atype := .int) (ty := .int) (i := 0) (N := 64) (dat dkX10_init 39 rfl) rfl an_int rfl (fun _ h => h) (fun _ => rfl) (by decide) rfl (Nat.le_of_ble_eq_true rfl) (Nat.le_of_ble_eq_true rfl) (Nat.le_of_ble_eq_true rfl) (fun q9 => ?_)
  refine n_putF E (dat dkX10_init 40 rfl) (ty := .array .int) (j := 22) (q0 := 0) (ci := 8) (C := RX10) (T := TX10) (N := 26) rfl inB10 tyX10_ok nmX10 (by decide) (bg_6 60 (by decide +kernel)) rfl rfl (by decide +kernel) rfl rfl rfl (Nat.le_of_ble_eq_true rfl) ?_
  refine n_ws (ws2 := [(a, .inr (8, [.ref q1, .ref q2, .ref q3, .ref q4, .int 0, .int 0, .int 0, .ref q5, .int 0, .ref q6, .int 0, .int 0, .int (-1), .int 0, .int 0, .int 0, .int 0, .int 0, .int 0, .ref q7, .ref q8, .int 0, .ref q9, .null, .null, .int 0])), (q1, aN G 0 443), (q2, aN G 0 443), (q3, aN G 0 443), (q4, aN G 0 3544), (q5, aN G 0 6), (q6, aN G 1 600), (q7, aN G 0 8), (q8, aN G 0 120), (q9, aN G 0 64)]) rfl ?_
  refine n_aload_n E (dat dkX10_init 41 rfl) rfl rfl ?_
  refine n_bipush E (dat dkX10_init 42 rfl) (v := 64) rfl ?_
  refine n_newa E (atype := .int) (ty := .int) (i := 0) (N := 64) (dat dkX10_init 43 rfl) rfl an_int rfl (fun _ h => h) (fun _ => rfl) (by decide) rfl (Nat.le_of_ble_eq_true rfl) (Nat.le_of_ble_eq_true rfl) (Nat.le_of_ble_eq_true rfl) (fun q10 => ?_)
  refine n_putF E (dat dkX10_init 44 rfl) (ty := .array .int) (j := 23) (q0 := 0) (ci := 8) (C := RX10) (T := TX10) (N := 26) rfl inB10 tyX10_ok nmX10 (by decide) (bg_6 61 (by decide +kernel)) rfl rfl (by decide +kernel) rfl rfl rfl (Nat.le_of_ble_eq_true rfl) ?_
  refine n_ws (ws2 := [(a, .inr (8, [.ref q1, .ref q2, .ref q3, .ref q4, .int 0, .int 0, .int 0, .ref q5, .int 0, .ref q6, .int 0, .int 0, .int (-1), .int 0, .int 0, .int 0, .int 0, .int 0, .int 0, .ref q7, .ref q8, .int 0, .ref q9, .ref q10, .null, .int 0])), (q1, aN G 0 443), (q2, aN G 0 443), (q3, aN G 0 443), (q4, aN G 0 3544), (q5, aN G 0 6), (q6, aN G 1 600), (q7, aN G 0 8), (q8, aN G 0 120), (q9, aN G 0 64), (q10, aN G 0 64)]) rfl ?_
  refine n_aload_n E (dat dkX10_init 45 rfl) rfl rfl ?_
  refine n_bipush E (dat dkX10_init 46 rfl) (v := 16) rfl ?_
  refine n_newa E (atype := .byte) (ty := .byte) (i := 1) (N := 16) (dat dkX10_init 47 rfl) rfl an_byte rfl (fun _ h => h) (fun _ => rfl) (by decide) rfl (Nat.le_of_ble_eq_true rfl) (Nat.le_of_ble_eq_true rfl) (Nat.le_of_ble_eq_true rfl) (fun q11 => ?_)
  refine n_putF E (dat dkX10_init 48 rfl) (ty := .array .byte) (j := 24) (q0 := 0) (ci := 8) (C := RX10) (T := TX10) (N := 26) rfl inB10 tyX10_ok nmX10 (by decide) (bg_6 62 (by decide +kernel)) rfl rfl (by decide +kernel) rfl rfl rfl (Nat.le_of_ble_eq_true rfl) ?_
  refine n_ws (ws2 := [(a, .inr (8, [.ref q1, .ref q2, .ref q3, .ref q4, .int 0, .int 0, .int 0, .ref q5, .int 0, .ref q6, .int 0, .int 0, .int (-1), .int 0, .int 0, .int 0, .int 0, .int 0, .int 0, .ref q7, .ref q8, .int 0, .ref q9, .ref q10, .ref q11, .int 0])), (q1, aN G 0 443), (q2, aN G 0 443), (q3, aN G 0 443), (q4, aN G 0 3544), (q5, aN G 0 6), (q6, aN G 1 600), (q7, aN G 0 8), (q8, aN G 0 120), (q9, aN G 0 64), (q10, aN G 0 64), (q11, aN G 1 16)]) rfl ?_
  refine n_bipush E (dat dkX10_init 49 rfl) (v := 9) rfl ?_
  refine n_newa E (atype := .int) (ty := .int) (i := 0) (N := 9) (dat dkX10_init 50 rfl) rfl an_int rfl (fun _ h => h) (fun _ => rfl) (by decide) rfl (Nat.le_of_ble_eq_true rfl) (Nat.le_of_ble_eq_true rfl) (Nat.le_of_ble_eq_true rfl) (fun q12 => ?_)
  refine n_ws (ws2 := [(a, .inr (8, [.ref q1, .ref q2, .ref q3, .ref q4, .int 0, .int 0, .int 0, .ref q5, .int 0, .ref q6, .int 0, .int 0, .int (-1), .int 0, .int 0, .int 0, .int 0, .int 0, .int 0, .ref q7, .ref q8, .int 0, .ref q9, .ref q10, .ref q11, .int 0])), (q1, aN G 0 443), (q2, aN G 0 443), (q3, aN G 0 443), (q4, aN G 0 3544), (q5, aN G 0 6), (q6, aN G 1 600), (q7, aN G 0 8), (q8, aN G 0 120), (q9, aN G 0 64), (q10, aN G 0 64), (q11, aN G 1 16), (q12, aN G 0 9)]) rfl ?_
  obtain ⟨ad, had⟩ : ∃ ad : Nat → Nat → Nat, ad = (fun j t => match j with | 0 => (match t with | 0 => a | 1 => q1 | 2 => q2 | 3 => q3 | 4 => q4 | 8 => q5 | 10 => q6 | 20 => q7 | 21 => q8 | 23 => q9 | 24 => q10 | _ => q11) | 1 => q12 | _ => cs j t) := ⟨_, rfl⟩
  have hwl : ([(a, .inr (8, [.ref q1, .ref q2, .ref q3, .ref q4, .int 0, .int 0, .int 0, .ref q5, .int 0, .ref q6, .int 0, .int 0, .int (-1), .int 0, .int 0, .int 0, .int 0, .int 0, .int 0, .ref q7, .ref q8, .int 0, .ref q9, .ref q10, .ref q11, .int 0])), (q1, aN G 0 443), (q2, aN G 0 443), (q3, aN G 0 443), (q4, aN G 0 3544), (q5, aN G 0 6), (q6, aN G 1 600), (q7, aN G 0 8), (q8, aN G 0 120), (q9, aN G 0 64), (q10, aN G 0 64), (q11, aN G 1 16), (q12, aN G 0 9)] : va_W) = wl G ([9, 11], lk0, ad) (mdM 0 z1 z1 z1) := by
    subst had; rfl
  refine n_wm E hG hret (Y := ([9, 11], lk0, ad)) (M := mdM 0 z1 z1 z1) (L' := [some (rv 0 0), none, none, none, none]) (S' := [rv 1 0]) (ws2 := wl G ([9, 11], lk0, ad) (mdM 0 z1 z1 z1)) ?_ (fun H h => ?_) (fun h => ?_) rfl ?_ (by subst had; rfl) (by subst had; rfl) (fun E hAS => ?_)
  · subst had; intro i hi; rcases (show i = 0 ∨ i = 1 ∨ i = 2 by omega) with rfl | rfl | rfl <;> rfl
  · rw [← hwl]; exact h
  · rw [← hwl]; exact h
  · subst had; rintro q (rfl | h)
    · exact Or.inl ⟨(0, 0), KY_mem.mpr ⟨show 0 < 2 by decide, show 0 ∈ KT 9 by decide⟩, rfl⟩
    · exact Or.inr h
  have hA2 : ∀ q, AS ([9, 11], lk0, ad) s.heap.size q → AK a s.heap.size q := hAS
  have ha0 : ad 0 0 = a := by subst had; rfl
  have h97 : ∀ i, i < 3 → ad (97 + i) = cs (97 + i) := by subst had; intro i hi; rcases (show i = 0 ∨ i = 1 ∨ i = 2 by omega) with rfl | rfl | rfl <;> rfl
  clear hwl had hAS
  refine r_dup E (dat dkX10_init 51 rfl) rfl ?_
  refine r_iconst (v := 0) E (dat dkX10_init 52 rfl) rfl ?_
  refine r_iconst (v := 5) E (dat dkX10_init 53 rfl) rfl ?_
  refine r_iast (N := 9) E (dat dkX10_init 54 rfl) rfl rfl (by unfold vp_in; decide) ?_
  refine r_mem (M' := mdM 0 z1 z1 hs1) mdM_H ?_
  refine r_dup E (dat dkX10_init 55 rfl) rfl ?_
  refine r_iconst (v := 1) E (dat dkX10_init 56 rfl) rfl ?_
  refine r_iconst (v := 4) E (dat dkX10_init 57 rfl) rfl ?_
  refine r_iast (N := 9) E (dat dkX10_init 58 rfl) rfl rfl (by unfold vp_in; decide) ?_
  refine r_mem (M' := mdM 0 z1 z1 hs2) mdM_H ?_
  refine r_dup E (dat dkX10_init 59 rfl) rfl ?_
  refine r_iconst (v := 2) E (dat dkX10_init 60 rfl) rfl ?_
  refine r_iconst (v := 3) E (dat dkX10_init 61 rfl) rfl ?_
  refine r_iast (N := 9) E (dat dkX10_init 62 rfl) rfl rfl (by unfold vp_in; decide) ?_
  refine r_mem (M' := mdM 0 z1 z1 hs3) mdM_H ?_
  refine r_dup E (dat dkX10_init 63 rfl) rfl ?_
  refine r_iconst (v := 3) E (dat dkX10_init 64 rfl) rfl ?_
  refine r_bipush (v := 6) E (dat dkX10_init 65 rfl) rfl ?_
  refine r_iast (N := 9) E (dat dkX10_init 66 rfl) rfl rfl (by unfold vp_in; decide) ?_
  refine r_mem (M' := mdM 0 z1 z1 hs4) mdM_H ?_
  refine r_dup E (dat dkX10_init 67 rfl) rfl ?_
  refine r_iconst (v := 4) E (dat dkX10_init 68 rfl) rfl ?_
  refine r_iconst (v := 2) E (dat dkX10_init 69 rfl) rfl ?_
  refine r_iast (N := 9) E (dat dkX10_init 70 rfl) rfl rfl (by unfold vp_in; decide) ?_
  refine r_mem (M' := mdM 0 z1 z1 hs5) mdM_H ?_
  refine r_dup E (dat dkX10_init 71 rfl) rfl ?_
  refine r_iconst (v := 5) E (dat dkX10_init 72 rfl) rfl ?_
  refine r_iconst (v := 1) E (dat dkX10_init 73 rfl) rfl ?_
  refine r_iast (N := 9) E (dat dkX10_init 74 rfl) rfl rfl (by unfold vp_in; decide) ?_
  refine r_mem (M' := mdM 0 z1 z1 hs6) mdM_H ?_
  refine r_dup E (dat dkX10_init 75 rfl) rfl ?_
  refine r_bipush (v := 6) E (dat dkX10_init 76 rfl) rfl ?_
  refine r_iconst (v := 5) E (dat dkX10_init 77 rfl) rfl ?_
  refine r_iast (N := 9) E (dat dkX10_init 78 rfl) rfl rfl (by unfold vp_in; decide) ?_
  refine r_mem (M' := mdM 0 z1 z1 hs7) mdM_H ?_
  refine r_dup E (dat dkX10_init 79 rfl) rfl ?_
  refine r_bipush (v := 7) E (dat dkX10_init 80 rfl) rfl ?_
  refine r_iconst (v := 4) E (dat dkX10_init 81 rfl) rfl ?_
  refine r_iast (N := 9) E (dat dkX10_init 82 rfl) rfl rfl (by unfold vp_in; decide) ?_
  refine r_mem (M' := mdM 0 z1 z1 hs8) mdM_H ?_
  refine r_dup E (dat dkX10_init 83 rfl) rfl ?_
  refine r_bipush (v := 8) E (dat dkX10_init 84 rfl) rfl ?_
  refine r_iconst (v := 0) E (dat dkX10_init 85 rfl) rfl ?_
  refine r_iast (N := 9) E (dat dkX10_init 86 rfl) rfl rfl (by unfold vp_in; decide) ?_
  refine r_mem (M' := mdM 0 z1 z1 hs9) mdM_H ?_
  refine r_astore_1 E (dat dkX10_init 87 rfl) rfl rfl ?_
  refine r_aload_n E (dat dkX10_init 88 rfl) rfl rfl ?_
  refine q_geta E fl_X10_9 (dat dkX10_init 89 rfl) rfl rfl rfl ?_
  refine r_iconst (v := 1) E (dat dkX10_init 90 rfl) rfl ?_
  refine r_iconst (v := 3) E (dat dkX10_init 91 rfl) rfl ?_
  refine r_iast (N := 443) E (dat dkX10_init 92 rfl) rfl rfl (by unfold vp_in; decide) ?_
  refine r_mem (M' := mdM 0 ma1 z1 hs9) mdM_A ?_
  refine r_aload_n E (dat dkX10_init 93 rfl) rfl rfl ?_
  refine q_geta E fl_X10_9 (dat dkX10_init 94 rfl) rfl rfl rfl ?_
  refine r_iconst (v := 2) E (dat dkX10_init 95 rfl) rfl ?_
  refine r_iconst (v := 3) E (dat dkX10_init 96 rfl) rfl ?_
  refine r_iast (N := 443) E (dat dkX10_init 97 rfl) rfl rfl (by unfold vp_in; decide) ?_
  refine r_mem (M' := mdM 0 ma2 z1 hs9) mdM_A ?_
  refine r_iconst (v := 0) E (dat dkX10_init 98 rfl) rfl ?_
  refine r_istore_2 E (dat dkX10_init 99 rfl) rfl rfl ?_
  refine r_iload_n E (dat dkX10_init 100 rfl) rfl rfl ?_
  refine r_bipush (v := 9) E (dat dkX10_init 101 rfl) rfl ?_
  refine r_icmp_ge E (dat dkX10_init 102 rfl) (tgt := 189) rfl (fun h => absurd h (by decide)) (fun _ => ?_)
  refine r_aload_n E (dat dkX10_init 103 rfl) rfl rfl ?_
  refine q_geta E fl_X10_9 (dat dkX10_init 104 rfl) rfl rfl rfl ?_
  refine r_iload_n E (dat dkX10_init 105 rfl) rfl rfl ?_
  refine r_callS (μ := []) E (sp_X10_c l G 0 _) my_X10_c is_X10_c ml_X10_48 cm_nil rfl rfl (by decide) (Nat.le_of_ble_eq_true rfl) (dat dkX10_init 106 rfl) ?_
  rintro _ _ ⟨rfl, hM⟩
  refine ⟨_, Mrg_z hM, ?_⟩
  clear hM
  refine r_topE (y := 15) (by decide) ?_
  refine r_iconst (v := 0) E (dat dkX10_init 107 rfl) rfl ?_
  refine r_iadd E (dat dkX10_init 108 rfl) ?_
  refine r_topE (y := 15) (by decide) ?_
  refine r_aload_n E (dat dkX10_init 109 rfl) rfl rfl ?_
  refine r_iload_n E (dat dkX10_init 110 rfl) rfl rfl ?_
  refine r_iald (N := 9) E (dat dkX10_init 111 rfl) rfl rfl (by unfold vp_in; decide) ?_
  refine r_topE (y := 5) (by decide +kernel) ?_
  refine r_iast (N := 443) E (dat dkX10_init 112 rfl) rfl rfl (by unfold vp_in; decide) ?_
  refine r_mem (M' := mdM 0 ma3 z1 hs9) mdM_A ?_
  refine g_iinc (i := 2) (L2 := [some (rv 0 0), some (rv 1 0), some (iv 1), none, none]) E (dat dkX10_init 113 rfl) rfl rfl (hc_of 1 rfl rfl) rfl ?_
  refine r_goto (tgt := 163) E (dat dkX10_init 114 rfl) rfl ?_
  refine r_iload_n E (dat dkX10_init 100 rfl) rfl rfl ?_
  refine r_bipush (v := 9) E (dat dkX10_init 101 rfl) rfl ?_
  refine r_icmp_ge E (dat dkX10_init 102 rfl) (tgt := 189) rfl (fun h => absurd h (by decide)) (fun _ => ?_)
  refine r_aload_n E (dat dkX10_init 103 rfl) rfl rfl ?_
  refine q_geta E fl_X10_9 (dat dkX10_init 104 rfl) rfl rfl rfl ?_
  refine r_iload_n E (dat dkX10_init 105 rfl) rfl rfl ?_
  refine r_callS (μ := []) E (sp_X10_c l G 1 _) my_X10_c is_X10_c ml_X10_48 cm_nil rfl rfl (by decide) (Nat.le_of_ble_eq_true rfl) (dat dkX10_init 106 rfl) ?_
  rintro _ _ ⟨rfl, hM⟩
  refine ⟨_, Mrg_z hM, ?_⟩
  clear hM
  refine r_topE (y := 21) (by decide) ?_
  refine r_iconst (v := 0) E (dat dkX10_init 107 rfl) rfl ?_
  refine r_iadd E (dat dkX10_init 108 rfl) ?_
  refine r_topE (y := 21) (by decide) ?_
  refine r_aload_n E (dat dkX10_init 109 rfl) rfl rfl ?_
  refine r_iload_n E (dat dkX10_init 110 rfl) rfl rfl ?_
  refine r_iald (N := 9) E (dat dkX10_init 111 rfl) rfl rfl (by unfold vp_in; decide) ?_
  refine r_topE (y := 4) (by decide +kernel) ?_
  refine r_iast (N := 443) E (dat dkX10_init 112 rfl) rfl rfl (by unfold vp_in; decide) ?_
  refine r_mem (M' := mdM 0 ma4 z1 hs9) mdM_A ?_
  refine g_iinc (i := 2) (L2 := [some (rv 0 0), some (rv 1 0), some (iv 2), none, none]) E (dat dkX10_init 113 rfl) rfl rfl (hc_of 1 rfl rfl) rfl ?_
  refine r_goto (tgt := 163) E (dat dkX10_init 114 rfl) rfl ?_
  refine r_iload_n E (dat dkX10_init 100 rfl) rfl rfl ?_
  refine r_bipush (v := 9) E (dat dkX10_init 101 rfl) rfl ?_
  refine r_icmp_ge E (dat dkX10_init 102 rfl) (tgt := 189) rfl (fun h => absurd h (by decide)) (fun _ => ?_)
  refine r_aload_n E (dat dkX10_init 103 rfl) rfl rfl ?_
  refine q_geta E fl_X10_9 (dat dkX10_init 104 rfl) rfl rfl rfl ?_
  refine r_iload_n E (dat dkX10_init 105 rfl) rfl rfl ?_
  refine r_callS (μ := []) E (sp_X10_c l G 2 _) my_X10_c is_X10_c ml_X10_48 cm_nil rfl rfl (by decide) (Nat.le_of_ble_eq_true rfl) (dat dkX10_init 106 rfl) ?_
  rintro _ _ ⟨rfl, hM⟩
  refine ⟨_, Mrg_z hM, ?_⟩
  clear hM
  refine r_topE (y := 27) (by decide) ?_
  refine r_iconst (v := 0) E (dat dkX10_init 107 rfl) rfl ?_
  refine r_iadd E (dat dkX10_init 108 rfl) ?_
  refine r_topE (y := 27) (by decide) ?_
  refine r_aload_n E (dat dkX10_init 109 rfl) rfl rfl ?_
  refine r_iload_n E (dat dkX10_init 110 rfl) rfl rfl ?_
  refine r_iald (N := 9) E (dat dkX10_init 111 rfl) rfl rfl (by unfold vp_in; decide) ?_
  refine r_topE (y := 3) (by decide +kernel) ?_
  refine r_iast (N := 443) E (dat dkX10_init 112 rfl) rfl rfl (by unfold vp_in; decide) ?_
  refine r_mem (M' := mdM 0 ma5 z1 hs9) mdM_A ?_
  refine g_iinc (i := 2) (L2 := [some (rv 0 0), some (rv 1 0), some (iv 3), none, none]) E (dat dkX10_init 113 rfl) rfl rfl (hc_of 1 rfl rfl) rfl ?_
  refine r_goto (tgt := 163) E (dat dkX10_init 114 rfl) rfl ?_
  refine r_iload_n E (dat dkX10_init 100 rfl) rfl rfl ?_
  refine r_bipush (v := 9) E (dat dkX10_init 101 rfl) rfl ?_
  refine r_icmp_ge E (dat dkX10_init 102 rfl) (tgt := 189) rfl (fun h => absurd h (by decide)) (fun _ => ?_)
  refine r_aload_n E (dat dkX10_init 103 rfl) rfl rfl ?_
  refine q_geta E fl_X10_9 (dat dkX10_init 104 rfl) rfl rfl rfl ?_
  refine r_iload_n E (dat dkX10_init 105 rfl) rfl rfl ?_
  refine r_callS (μ := []) E (sp_X10_c l G 3 _) my_X10_c is_X10_c ml_X10_48 cm_nil rfl rfl (by decide) (Nat.le_of_ble_eq_true rfl) (dat dkX10_init 106 rfl) ?_
  rintro _ _ ⟨rfl, hM⟩
  refine ⟨_, Mrg_z hM, ?_⟩
  clear hM
  refine r_topE (y := 33) (by decide) ?_
  refine r_iconst (v := 0) E (dat dkX10_init 107 rfl) rfl ?_
  refine r_iadd E (dat dkX10_init 108 rfl) ?_
  refine r_topE (y := 33) (by decide) ?_
  refine r_aload_n E (dat dkX10_init 109 rfl) rfl rfl ?_
  refine r_iload_n E (dat dkX10_init 110 rfl) rfl rfl ?_
  refine r_iald (N := 9) E (dat dkX10_init 111 rfl) rfl rfl (by unfold vp_in; decide) ?_
  refine r_topE (y := 6) (by decide +kernel) ?_
  refine r_iast (N := 443) E (dat dkX10_init 112 rfl) rfl rfl (by unfold vp_in; decide) ?_
  refine r_mem (M' := mdM 0 ma6 z1 hs9) mdM_A ?_
  refine g_iinc (i := 2) (L2 := [some (rv 0 0), some (rv 1 0), some (iv 4), none, none]) E (dat dkX10_init 113 rfl) rfl rfl (hc_of 1 rfl rfl) rfl ?_
  refine r_goto (tgt := 163) E (dat dkX10_init 114 rfl) rfl ?_
  refine r_iload_n E (dat dkX10_init 100 rfl) rfl rfl ?_
  refine r_bipush (v := 9) E (dat dkX10_init 101 rfl) rfl ?_
  refine r_icmp_ge E (dat dkX10_init 102 rfl) (tgt := 189) rfl (fun h => absurd h (by decide)) (fun _ => ?_)
  refine r_aload_n E (dat dkX10_init 103 rfl) rfl rfl ?_
  refine q_geta E fl_X10_9 (dat dkX10_init 104 rfl) rfl rfl rfl ?_
  refine r_iload_n E (dat dkX10_init 105 rfl) rfl rfl ?_
  refine r_callS (μ := []) E (sp_X10_c l G 4 _) my_X10_c is_X10_c ml_X10_48 cm_nil rfl rfl (by decide) (Nat.le_of_ble_eq_true rfl) (dat dkX10_init 106 rfl) ?_
  rintro _ _ ⟨rfl, hM⟩
  refine ⟨_, Mrg_z hM, ?_⟩
  clear hM
  refine r_topE (y := 39) (by decide) ?_
  refine r_iconst (v := 0) E (dat dkX10_init 107 rfl) rfl ?_
  refine r_iadd E (dat dkX10_init 108 rfl) ?_
  refine r_topE (y := 39) (by decide) ?_
  refine r_aload_n E (dat dkX10_init 109 rfl) rfl rfl ?_
  refine r_iload_n E (dat dkX10_init 110 rfl) rfl rfl ?_
  refine r_iald (N := 9) E (dat dkX10_init 111 rfl) rfl rfl (by unfold vp_in; decide) ?_
  refine r_topE (y := 2) (by decide +kernel) ?_
  refine r_iast (N := 443) E (dat dkX10_init 112 rfl) rfl rfl (by unfold vp_in; decide) ?_
  refine r_mem (M' := mdM 0 ma7 z1 hs9) mdM_A ?_
  refine g_iinc (i := 2) (L2 := [some (rv 0 0), some (rv 1 0), some (iv 5), none, none]) E (dat dkX10_init 113 rfl) rfl rfl (hc_of 1 rfl rfl) rfl ?_
  refine r_goto (tgt := 163) E (dat dkX10_init 114 rfl) rfl ?_
  refine r_iload_n E (dat dkX10_init 100 rfl) rfl rfl ?_
  refine r_bipush (v := 9) E (dat dkX10_init 101 rfl) rfl ?_
  refine r_icmp_ge E (dat dkX10_init 102 rfl) (tgt := 189) rfl (fun h => absurd h (by decide)) (fun _ => ?_)
  refine r_aload_n E (dat dkX10_init 103 rfl) rfl rfl ?_
  refine q_geta E fl_X10_9 (dat dkX10_init 104 rfl) rfl rfl rfl ?_
  refine r_iload_n E (dat dkX10_init 105 rfl) rfl rfl ?_
  refine r_callS (μ := []) E (sp_X10_c l G 5 _) my_X10_c is_X10_c ml_X10_48 cm_nil rfl rfl (by decide) (Nat.le_of_ble_eq_true rfl) (dat dkX10_init 106 rfl) ?_
  rintro _ _ ⟨rfl, hM⟩
  refine ⟨_, Mrg_z hM, ?_⟩
  clear hM
  refine r_topE (y := 45) (by decide) ?_
  refine r_iconst (v := 0) E (dat dkX10_init 107 rfl) rfl ?_
  refine r_iadd E (dat dkX10_init 108 rfl) ?_
  refine r_topE (y := 45) (by decide) ?_
  refine r_aload_n E (dat dkX10_init 109 rfl) rfl rfl ?_
  refine r_iload_n E (dat dkX10_init 110 rfl) rfl rfl ?_
  refine r_iald (N := 9) E (dat dkX10_init 111 rfl) rfl rfl (by unfold vp_in; decide) ?_
  refine r_topE (y := 1) (by decide +kernel) ?_
  refine r_iast (N := 443) E (dat dkX10_init 112 rfl) rfl rfl (by unfold vp_in; decide) ?_
  refine r_mem (M' := mdM 0 ma8 z1 hs9) mdM_A ?_
  refine g_iinc (i := 2) (L2 := [some (rv 0 0), some (rv 1 0), some (iv 6), none, none]) E (dat dkX10_init 113 rfl) rfl rfl (hc_of 1 rfl rfl) rfl ?_
  refine r_goto (tgt := 163) E (dat dkX10_init 114 rfl) rfl ?_
  refine r_iload_n E (dat dkX10_init 100 rfl) rfl rfl ?_
  refine r_bipush (v := 9) E (dat dkX10_init 101 rfl) rfl ?_
  refine r_icmp_ge E (dat dkX10_init 102 rfl) (tgt := 189) rfl (fun h => absurd h (by decide)) (fun _ => ?_)
  refine r_aload_n E (dat dkX10_init 103 rfl) rfl rfl ?_
  refine q_geta E fl_X10_9 (dat dkX10_init 104 rfl) rfl rfl rfl ?_
  refine r_iload_n E (dat dkX10_init 105 rfl) rfl rfl ?_
  refine r_callS (μ := []) E (sp_X10_c l G 6 _) my_X10_c is_X10_c ml_X10_48 cm_nil rfl rfl (by decide) (Nat.le_of_ble_eq_true rfl) (dat dkX10_init 106 rfl) ?_
  rintro _ _ ⟨rfl, hM⟩
  refine ⟨_, Mrg_z hM, ?_⟩
  clear hM
  refine r_topE (y := 51) (by decide) ?_
  refine r_iconst (v := 0) E (dat dkX10_init 107 rfl) rfl ?_
  refine r_iadd E (dat dkX10_init 108 rfl) ?_
  refine r_topE (y := 51) (by decide) ?_
  refine r_aload_n E (dat dkX10_init 109 rfl) rfl rfl ?_
  refine r_iload_n E (dat dkX10_init 110 rfl) rfl rfl ?_
  refine r_iald (N := 9) E (dat dkX10_init 111 rfl) rfl rfl (by unfold vp_in; decide) ?_
  refine r_topE (y := 5) (by decide +kernel) ?_
  refine r_iast (N := 443) E (dat dkX10_init 112 rfl) rfl rfl (by unfold vp_in; decide) ?_
  refine r_mem (M' := mdM 0 ma9 z1 hs9) mdM_A ?_
  refine g_iinc (i := 2) (L2 := [some (rv 0 0), some (rv 1 0), some (iv 7), none, none]) E (dat dkX10_init 113 rfl) rfl rfl (hc_of 1 rfl rfl) rfl ?_
  refine r_goto (tgt := 163) E (dat dkX10_init 114 rfl) rfl ?_
  refine r_iload_n E (dat dkX10_init 100 rfl) rfl rfl ?_
  refine r_bipush (v := 9) E (dat dkX10_init 101 rfl) rfl ?_
  refine r_icmp_ge E (dat dkX10_init 102 rfl) (tgt := 189) rfl (fun h => absurd h (by decide)) (fun _ => ?_)
  refine r_aload_n E (dat dkX10_init 103 rfl) rfl rfl ?_
  refine q_geta E fl_X10_9 (dat dkX10_init 104 rfl) rfl rfl rfl ?_
  refine r_iload_n E (dat dkX10_init 105 rfl) rfl rfl ?_
  refine r_callS (μ := []) E (sp_X10_c l G 7 _) my_X10_c is_X10_c ml_X10_48 cm_nil rfl rfl (by decide) (Nat.le_of_ble_eq_true rfl) (dat dkX10_init 106 rfl) ?_
  rintro _ _ ⟨rfl, hM⟩
  refine ⟨_, Mrg_z hM, ?_⟩
  clear hM
  refine r_topE (y := 57) (by decide) ?_
  refine r_iconst (v := 0) E (dat dkX10_init 107 rfl) rfl ?_
  refine r_iadd E (dat dkX10_init 108 rfl) ?_
  refine r_topE (y := 57) (by decide) ?_
  refine r_aload_n E (dat dkX10_init 109 rfl) rfl rfl ?_
  refine r_iload_n E (dat dkX10_init 110 rfl) rfl rfl ?_
  refine r_iald (N := 9) E (dat dkX10_init 111 rfl) rfl rfl (by unfold vp_in; decide) ?_
  refine r_topE (y := 4) (by decide +kernel) ?_
  refine r_iast (N := 443) E (dat dkX10_init 112 rfl) rfl rfl (by unfold vp_in; decide) ?_
  refine r_mem (M' := mdM 0 ma10 z1 hs9) mdM_A ?_
  refine g_iinc (i := 2) (L2 := [some (rv 0 0), some (rv 1 0), some (iv 8), none, none]) E (dat dkX10_init 113 rfl) rfl rfl (hc_of 1 rfl rfl) rfl ?_
  refine r_goto (tgt := 163) E (dat dkX10_init 114 rfl) rfl ?_
  refine r_iload_n E (dat dkX10_init 100 rfl) rfl rfl ?_
  refine r_bipush (v := 9) E (dat dkX10_init 101 rfl) rfl ?_
  refine r_icmp_ge E (dat dkX10_init 102 rfl) (tgt := 189) rfl (fun h => absurd h (by decide)) (fun _ => ?_)
  refine r_aload_n E (dat dkX10_init 103 rfl) rfl rfl ?_
  refine q_geta E fl_X10_9 (dat dkX10_init 104 rfl) rfl rfl rfl ?_
  refine r_iload_n E (dat dkX10_init 105 rfl) rfl rfl ?_
  refine r_callS (μ := []) E (sp_X10_c l G 8 _) my_X10_c is_X10_c ml_X10_48 cm_nil rfl rfl (by decide) (Nat.le_of_ble_eq_true rfl) (dat dkX10_init 106 rfl) ?_
  rintro _ _ ⟨rfl, hM⟩
  refine ⟨_, Mrg_z hM, ?_⟩
  clear hM
  refine r_topE (y := 63) (by decide) ?_
  refine r_iconst (v := 0) E (dat dkX10_init 107 rfl) rfl ?_
  refine r_iadd E (dat dkX10_init 108 rfl) ?_
  refine r_topE (y := 63) (by decide) ?_
  refine r_aload_n E (dat dkX10_init 109 rfl) rfl rfl ?_
  refine r_iload_n E (dat dkX10_init 110 rfl) rfl rfl ?_
  refine r_iald (N := 9) E (dat dkX10_init 111 rfl) rfl rfl (by unfold vp_in; decide) ?_
  refine r_topE (y := 0) (by decide +kernel) ?_
  refine r_iast (N := 443) E (dat dkX10_init 112 rfl) rfl rfl (by unfold vp_in; decide) ?_
  refine r_mem (M' := mdM 0 ma11 z1 hs9) mdM_A ?_
  refine g_iinc (i := 2) (L2 := [some (rv 0 0), some (rv 1 0), some (iv 9), none, none]) E (dat dkX10_init 113 rfl) rfl rfl (hc_of 1 rfl rfl) rfl ?_
  refine r_goto (tgt := 163) E (dat dkX10_init 114 rfl) rfl ?_
  refine r_iload_n E (dat dkX10_init 100 rfl) rfl rfl ?_
  refine r_bipush (v := 9) E (dat dkX10_init 101 rfl) rfl ?_
  refine r_icmp_ge E (dat dkX10_init 102 rfl) (tgt := 189) rfl (fun _ => ?_) (fun h => absurd (by decide) h)
  refine r_aload_n E (dat dkX10_init 115 rfl) rfl rfl ?_
  refine q_geta E fl_X10_9 (dat dkX10_init 116 rfl) rfl rfl rfl ?_
  refine r_bipush (v := 8) E (dat dkX10_init 117 rfl) rfl ?_
  refine r_callS (μ := []) E (sp_X10_c l G 8 _) my_X10_c is_X10_c ml_X10_48 cm_nil rfl rfl (by decide) (Nat.le_of_ble_eq_true rfl) (dat dkX10_init 118 rfl) ?_
  rintro _ _ ⟨rfl, hM⟩
  refine ⟨_, Mrg_z hM, ?_⟩
  clear hM
  refine r_topE (y := 63) (by decide) ?_
  refine r_iconst (v := 3) E (dat dkX10_init 119 rfl) rfl ?_
  refine r_iadd E (dat dkX10_init 120 rfl) ?_
  refine r_topE (y := 66) (by decide) ?_
  refine r_iconst (v := 2) E (dat dkX10_init 121 rfl) rfl ?_
  refine r_iast (N := 443) E (dat dkX10_init 122 rfl) rfl rfl (by unfold vp_in; decide) ?_
  refine r_mem (M' := mdM 0 ma12 z1 hs9) mdM_A ?_
  refine q_ldc (i := 13) E (by decide) rfl rfl (dat dkX10_init 123 rfl) ?_
  refine r_astore_2 E (dat dkX10_init 124 rfl) rfl rfl ?_
  refine r_iconst (v := 0) E (dat dkX10_init 125 rfl) rfl ?_
  refine r_istore_3 E (dat dkX10_init 126 rfl) rfl rfl ?_
  refine r_iload_n E (dat dkX10_init 127 rfl) rfl rfl ?_
  refine r_iconst (v := 2) E (dat dkX10_init 128 rfl) rfl ?_
  refine r_icmp_ge E (dat dkX10_init 129 rfl) (tgt := 265) rfl (fun h => absurd h (by decide)) (fun _ => ?_)
  refine r_aload_n E (dat dkX10_init 130 rfl) rfl rfl ?_
  refine r_iconst (v := 3) E (dat dkX10_init 131 rfl) rfl ?_
  refine q_putn E ft_X10_54 (dat dkX10_init 132 rfl) rfl rfl rfl rfl ?_
  refine r_mem (M' := mdM 3 ma12 z1 hs9) mdM_L ?_
  refine r_iconst (v := 0) E (dat dkX10_init 133 rfl) rfl ?_
  refine r_istore_4 E (dat dkX10_init 134 rfl) rfl rfl ?_
  refine r_iload E (dat dkX10_init 135 rfl) rfl ?_
  refine r_iconst (v := 3) E (dat dkX10_init 136 rfl) rfl ?_
  refine r_icmp_ge E (dat dkX10_init 137 rfl) (tgt := 249) rfl (fun h => absurd h (by decide)) (fun _ => ?_)
  refine r_aload_n E (dat dkX10_init 138 rfl) rfl rfl ?_
  refine q_geta E fl_X10_22 (dat dkX10_init 139 rfl) rfl rfl rfl ?_
  refine r_iload E (dat dkX10_init 140 rfl) rfl ?_
  refine r_aload_n E (dat dkX10_init 141 rfl) rfl rfl ?_
  refine r_iconst (v := 3) E (dat dkX10_init 142 rfl) rfl ?_
  refine r_iload_n E (dat dkX10_init 143 rfl) rfl rfl ?_
  refine r_imul E (dat dkX10_init 144 rfl) ?_
  refine r_topE (y := 0) (by decide) ?_
  refine r_iload E (dat dkX10_init 145 rfl) rfl ?_
  refine r_iadd E (dat dkX10_init 146 rfl) ?_
  refine r_topE (y := 0) (by decide) ?_
  refine r_callK E (sp_J0_charAt_5068e l G 13 0 _ (by decide) (by decide)) (KRC_s E (by decide)) my_J0_charAt_5068e iv_J0_charAt_5068e ml_X10_57 rfl rfl (by decide) (Nat.le_of_ble_eq_true rfl) (dat dkX10_init 147 rfl) ?_
  rintro _ _ ⟨rfl, hM⟩
  refine ⟨hM, ?_⟩
  clear hM
  refine r_topE (y := 97) (by decide +kernel) ?_
  refine r_iast (N := 6) E (dat dkX10_init 148 rfl) rfl rfl (by unfold vp_in; decide) ?_
  refine r_mem (M' := mdM 3 ma12 msp1 hs9) mdM_S ?_
  refine g_iinc (i := 4) (L2 := [some (rv 0 0), some (rv 1 0), some (rv 97 13), some (iv 0), some (iv 1)]) E (dat dkX10_init 149 rfl) rfl rfl (hc_of 3 rfl rfl) rfl ?_
  refine r_goto (tgt := 220) E (dat dkX10_init 150 rfl) rfl ?_
  refine r_iload E (dat dkX10_init 135 rfl) rfl ?_
  refine r_iconst (v := 3) E (dat dkX10_init 136 rfl) rfl ?_
  refine r_icmp_ge E (dat dkX10_init 137 rfl) (tgt := 249) rfl (fun h => absurd h (by decide)) (fun _ => ?_)
  refine r_aload_n E (dat dkX10_init 138 rfl) rfl rfl ?_
  refine q_geta E fl_X10_22 (dat dkX10_init 139 rfl) rfl rfl rfl ?_
  refine r_iload E (dat dkX10_init 140 rfl) rfl ?_
  refine r_aload_n E (dat dkX10_init 141 rfl) rfl rfl ?_
  refine r_iconst (v := 3) E (dat dkX10_init 142 rfl) rfl ?_
  refine r_iload_n E (dat dkX10_init 143 rfl) rfl rfl ?_
  refine r_imul E (dat dkX10_init 144 rfl) ?_
  refine r_topE (y := 0) (by decide) ?_
  refine r_iload E (dat dkX10_init 145 rfl) rfl ?_
  refine r_iadd E (dat dkX10_init 146 rfl) ?_
  refine r_topE (y := 1) (by decide) ?_
  refine r_callK E (sp_J0_charAt_5068e l G 13 1 _ (by decide) (by decide)) (KRC_s E (by decide)) my_J0_charAt_5068e iv_J0_charAt_5068e ml_X10_57 rfl rfl (by decide) (Nat.le_of_ble_eq_true rfl) (dat dkX10_init 147 rfl) ?_
  rintro _ _ ⟨rfl, hM⟩
  refine ⟨hM, ?_⟩
  clear hM
  refine r_topE (y := 110) (by decide +kernel) ?_
  refine r_iast (N := 6) E (dat dkX10_init 148 rfl) rfl rfl (by unfold vp_in; decide) ?_
  refine r_mem (M' := mdM 3 ma12 msp2 hs9) mdM_S ?_
  refine g_iinc (i := 4) (L2 := [some (rv 0 0), some (rv 1 0), some (rv 97 13), some (iv 0), some (iv 2)]) E (dat dkX10_init 149 rfl) rfl rfl (hc_of 3 rfl rfl) rfl ?_
  refine r_goto (tgt := 220) E (dat dkX10_init 150 rfl) rfl ?_
  refine r_iload E (dat dkX10_init 135 rfl) rfl ?_
  refine r_iconst (v := 3) E (dat dkX10_init 136 rfl) rfl ?_
  refine r_icmp_ge E (dat dkX10_init 137 rfl) (tgt := 249) rfl (fun h => absurd h (by decide)) (fun _ => ?_)
  refine r_aload_n E (dat dkX10_init 138 rfl) rfl rfl ?_
  refine q_geta E fl_X10_22 (dat dkX10_init 139 rfl) rfl rfl rfl ?_
  refine r_iload E (dat dkX10_init 140 rfl) rfl ?_
  refine r_aload_n E (dat dkX10_init 141 rfl) rfl rfl ?_
  refine r_iconst (v := 3) E (dat dkX10_init 142 rfl) rfl ?_
  refine r_iload_n E (dat dkX10_init 143 rfl) rfl rfl ?_
  refine r_imul E (dat dkX10_init 144 rfl) ?_
  refine r_topE (y := 0) (by decide) ?_
  refine r_iload E (dat dkX10_init 145 rfl) rfl ?_
  refine r_iadd E (dat dkX10_init 146 rfl) ?_
  refine r_topE (y := 2) (by decide) ?_
  refine r_callK E (sp_J0_charAt_5068e l G 13 2 _ (by decide) (by decide)) (KRC_s E (by decide)) my_J0_charAt_5068e iv_J0_charAt_5068e ml_X10_57 rfl rfl (by decide) (Nat.le_of_ble_eq_true rfl) (dat dkX10_init 147 rfl) ?_
  rintro _ _ ⟨rfl, hM⟩
  refine ⟨hM, ?_⟩
  clear hM
  refine r_topE (y := 110) (by decide +kernel) ?_
  refine r_iast (N := 6) E (dat dkX10_init 148 rfl) rfl rfl (by unfold vp_in; decide) ?_
  refine r_mem (M' := mdM 3 ma12 msp3 hs9) mdM_S ?_
  refine g_iinc (i := 4) (L2 := [some (rv 0 0), some (rv 1 0), some (rv 97 13), some (iv 0), some (iv 3)]) E (dat dkX10_init 149 rfl) rfl rfl (hc_of 3 rfl rfl) rfl ?_
  refine r_goto (tgt := 220) E (dat dkX10_init 150 rfl) rfl ?_
  refine r_iload E (dat dkX10_init 135 rfl) rfl ?_
  refine r_iconst (v := 3) E (dat dkX10_init 136 rfl) rfl ?_
  refine r_icmp_ge E (dat dkX10_init 137 rfl) (tgt := 249) rfl (fun _ => ?_) (fun h => absurd (by decide) h)
  refine r_aload_n E (dat dkX10_init 151 rfl) rfl rfl ?_
  refine r_iconst (v := 4) E (dat dkX10_init 152 rfl) rfl ?_
  refine r_iload_n E (dat dkX10_init 153 rfl) rfl rfl ?_
  refine r_imul E (dat dkX10_init 154 rfl) ?_
  refine r_topE (y := 0) (by decide) ?_
  refine r_iconst (v := 2) E (dat dkX10_init 155 rfl) rfl ?_
  refine r_iload_n E (dat dkX10_init 156 rfl) rfl rfl ?_
  refine r_isub E (dat dkX10_init 157 rfl) ?_
  refine r_topE (y := 2) (by decide) ?_
  refine r_callV (κ := 9) (μ := [0]) E (sp_X10_addBoots l G 0 3 msp3 0 2 _ ma12 rfl (by decide +kernel) (by decide) rfl (by decide) rfl) my_X10_addBoots iv_X10_addBoots ml_X10_63 (cm_of rfl) ⟨by decide, rfl, rfl⟩ rfl rfl rfl rfl (by decide) (Nat.le_of_ble_eq_true rfl) (dat dkX10_init 158 rfl) ?_
  rintro _ _ ⟨rfl, rfl⟩
  refine ⟨_, (show Mrg _ _ (mdM 3 ma12 msp3 hs9) _ (mdM 3 ma13 msp3 hs9) from Mrg_e (i := 0) (by decide) (by decide) mdM_B.symm rfl), ?_⟩
  refine g_iinc (i := 3) (L2 := [some (rv 0 0), some (rv 1 0), some (rv 97 13), some (iv 1), some (iv 3)]) E (dat dkX10_init 159 rfl) rfl rfl (hc_of 2 rfl rfl) rfl ?_
  refine r_goto (tgt := 207) E (dat dkX10_init 160 rfl) rfl ?_
  refine r_iload_n E (dat dkX10_init 127 rfl) rfl rfl ?_
  refine r_iconst (v := 2) E (dat dkX10_init 128 rfl) rfl ?_
  refine r_icmp_ge E (dat dkX10_init 129 rfl) (tgt := 265) rfl (fun h => absurd h (by decide)) (fun _ => ?_)
  refine r_aload_n E (dat dkX10_init 130 rfl) rfl rfl ?_
  refine r_iconst (v := 3) E (dat dkX10_init 131 rfl) rfl ?_
  refine q_putn E ft_X10_54 (dat dkX10_init 132 rfl) rfl rfl rfl rfl ?_
  refine r_mem (M' := mdM 3 ma13 msp3 hs9) mdM_L ?_
  refine r_iconst (v := 0) E (dat dkX10_init 133 rfl) rfl ?_
  refine r_istore_4 E (dat dkX10_init 134 rfl) rfl rfl ?_
  refine r_iload E (dat dkX10_init 135 rfl) rfl ?_
  refine r_iconst (v := 3) E (dat dkX10_init 136 rfl) rfl ?_
  refine r_icmp_ge E (dat dkX10_init 137 rfl) (tgt := 249) rfl (fun h => absurd h (by decide)) (fun _ => ?_)
  refine r_aload_n E (dat dkX10_init 138 rfl) rfl rfl ?_
  refine q_geta E fl_X10_22 (dat dkX10_init 139 rfl) rfl rfl rfl ?_
  refine r_iload E (dat dkX10_init 140 rfl) rfl ?_
  refine r_aload_n E (dat dkX10_init 141 rfl) rfl rfl ?_
  refine r_iconst (v := 3) E (dat dkX10_init 142 rfl) rfl ?_
  refine r_iload_n E (dat dkX10_init 143 rfl) rfl rfl ?_
  refine r_imul E (dat dkX10_init 144 rfl) ?_
  refine r_topE (y := 3) (by decide) ?_
  refine r_iload E (dat dkX10_init 145 rfl) rfl ?_
  refine r_iadd E (dat dkX10_init 146 rfl) ?_
  refine r_topE (y := 3) (by decide) ?_
  refine r_callK E (sp_J0_charAt_5068e l G 13 3 _ (by decide) (by decide)) (KRC_s E (by decide)) my_J0_charAt_5068e iv_J0_charAt_5068e ml_X10_57 rfl rfl (by decide) (Nat.le_of_ble_eq_true rfl) (dat dkX10_init 147 rfl) ?_
  rintro _ _ ⟨rfl, hM⟩
  refine ⟨hM, ?_⟩
  clear hM
  refine r_topE (y := 98) (by decide +kernel) ?_
  refine r_iast (N := 6) E (dat dkX10_init 148 rfl) rfl rfl (by unfold vp_in; decide) ?_
  refine r_mem (M' := mdM 3 ma13 msp4 hs9) mdM_S ?_
  refine g_iinc (i := 4) (L2 := [some (rv 0 0), some (rv 1 0), some (rv 97 13), some (iv 1), some (iv 1)]) E (dat dkX10_init 149 rfl) rfl rfl (hc_of 3 rfl rfl) rfl ?_
  refine r_goto (tgt := 220) E (dat dkX10_init 150 rfl) rfl ?_
  refine r_iload E (dat dkX10_init 135 rfl) rfl ?_
  refine r_iconst (v := 3) E (dat dkX10_init 136 rfl) rfl ?_
  refine r_icmp_ge E (dat dkX10_init 137 rfl) (tgt := 249) rfl (fun h => absurd h (by decide)) (fun _ => ?_)
  refine r_aload_n E (dat dkX10_init 138 rfl) rfl rfl ?_
  refine q_geta E fl_X10_22 (dat dkX10_init 139 rfl) rfl rfl rfl ?_
  refine r_iload E (dat dkX10_init 140 rfl) rfl ?_
  refine r_aload_n E (dat dkX10_init 141 rfl) rfl rfl ?_
  refine r_iconst (v := 3) E (dat dkX10_init 142 rfl) rfl ?_
  refine r_iload_n E (dat dkX10_init 143 rfl) rfl rfl ?_
  refine r_imul E (dat dkX10_init 144 rfl) ?_
  refine r_topE (y := 3) (by decide) ?_
  refine r_iload E (dat dkX10_init 145 rfl) rfl ?_
  refine r_iadd E (dat dkX10_init 146 rfl) ?_
  refine r_topE (y := 4) (by decide) ?_
  refine r_callK E (sp_J0_charAt_5068e l G 13 4 _ (by decide) (by decide)) (KRC_s E (by decide)) my_J0_charAt_5068e iv_J0_charAt_5068e ml_X10_57 rfl rfl (by decide) (Nat.le_of_ble_eq_true rfl) (dat dkX10_init 147 rfl) ?_
  rintro _ _ ⟨rfl, hM⟩
  refine ⟨hM, ?_⟩
  clear hM
  refine r_topE (y := 111) (by decide +kernel) ?_
  refine r_iast (N := 6) E (dat dkX10_init 148 rfl) rfl rfl (by unfold vp_in; decide) ?_
  refine r_mem (M' := mdM 3 ma13 msp5 hs9) mdM_S ?_
  refine g_iinc (i := 4) (L2 := [some (rv 0 0), some (rv 1 0), some (rv 97 13), some (iv 1), some (iv 2)]) E (dat dkX10_init 149 rfl) rfl rfl (hc_of 3 rfl rfl) rfl ?_
  refine r_goto (tgt := 220) E (dat dkX10_init 150 rfl) rfl ?_
  refine r_iload E (dat dkX10_init 135 rfl) rfl ?_
  refine r_iconst (v := 3) E (dat dkX10_init 136 rfl) rfl ?_
  refine r_icmp_ge E (dat dkX10_init 137 rfl) (tgt := 249) rfl (fun h => absurd h (by decide)) (fun _ => ?_)
  refine r_aload_n E (dat dkX10_init 138 rfl) rfl rfl ?_
  refine q_geta E fl_X10_22 (dat dkX10_init 139 rfl) rfl rfl rfl ?_
  refine r_iload E (dat dkX10_init 140 rfl) rfl ?_
  refine r_aload_n E (dat dkX10_init 141 rfl) rfl rfl ?_
  refine r_iconst (v := 3) E (dat dkX10_init 142 rfl) rfl ?_
  refine r_iload_n E (dat dkX10_init 143 rfl) rfl rfl ?_
  refine r_imul E (dat dkX10_init 144 rfl) ?_
  refine r_topE (y := 3) (by decide) ?_
  refine r_iload E (dat dkX10_init 145 rfl) rfl ?_
  refine r_iadd E (dat dkX10_init 146 rfl) ?_
  refine r_topE (y := 5) (by decide) ?_
  refine r_callK E (sp_J0_charAt_5068e l G 13 5 _ (by decide) (by decide)) (KRC_s E (by decide)) my_J0_charAt_5068e iv_J0_charAt_5068e ml_X10_57 rfl rfl (by decide) (Nat.le_of_ble_eq_true rfl) (dat dkX10_init 147 rfl) ?_
  rintro _ _ ⟨rfl, hM⟩
  refine ⟨hM, ?_⟩
  clear hM
  refine r_topE (y := 98) (by decide +kernel) ?_
  refine r_iast (N := 6) E (dat dkX10_init 148 rfl) rfl rfl (by unfold vp_in; decide) ?_
  refine r_mem (M' := mdM 3 ma13 msp6 hs9) mdM_S ?_
  refine g_iinc (i := 4) (L2 := [some (rv 0 0), some (rv 1 0), some (rv 97 13), some (iv 1), some (iv 3)]) E (dat dkX10_init 149 rfl) rfl rfl (hc_of 3 rfl rfl) rfl ?_
  refine r_goto (tgt := 220) E (dat dkX10_init 150 rfl) rfl ?_
  refine r_iload E (dat dkX10_init 135 rfl) rfl ?_
  refine r_iconst (v := 3) E (dat dkX10_init 136 rfl) rfl ?_
  refine r_icmp_ge E (dat dkX10_init 137 rfl) (tgt := 249) rfl (fun _ => ?_) (fun h => absurd (by decide) h)
  refine r_aload_n E (dat dkX10_init 151 rfl) rfl rfl ?_
  refine r_iconst (v := 4) E (dat dkX10_init 152 rfl) rfl ?_
  refine r_iload_n E (dat dkX10_init 153 rfl) rfl rfl ?_
  refine r_imul E (dat dkX10_init 154 rfl) ?_
  refine r_topE (y := 4) (by decide) ?_
  refine r_iconst (v := 2) E (dat dkX10_init 155 rfl) rfl ?_
  refine r_iload_n E (dat dkX10_init 156 rfl) rfl rfl ?_
  refine r_isub E (dat dkX10_init 157 rfl) ?_
  refine r_topE (y := 1) (by decide) ?_
  refine r_callV (κ := 9) (μ := [0]) E (sp_X10_addBoots l G 1 3 msp6 4 1 _ ma13 rfl (by decide +kernel) (by decide) rfl (by decide) rfl) my_X10_addBoots iv_X10_addBoots ml_X10_63 (cm_of rfl) ⟨by decide, rfl, rfl⟩ rfl rfl rfl rfl (by decide) (Nat.le_of_ble_eq_true rfl) (dat dkX10_init 158 rfl) ?_
  rintro _ _ ⟨rfl, rfl⟩
  refine ⟨_, (show Mrg _ _ (mdM 3 ma13 msp6 hs9) _ (mdM 3 ma14 msp6 hs9) from Mrg_e (i := 0) (by decide) (by decide) mdM_B.symm rfl), ?_⟩
  refine g_iinc (i := 3) (L2 := [some (rv 0 0), some (rv 1 0), some (rv 97 13), some (iv 2), some (iv 3)]) E (dat dkX10_init 159 rfl) rfl rfl (hc_of 2 rfl rfl) rfl ?_
  refine r_goto (tgt := 207) E (dat dkX10_init 160 rfl) rfl ?_
  refine r_iload_n E (dat dkX10_init 127 rfl) rfl rfl ?_
  refine r_iconst (v := 2) E (dat dkX10_init 128 rfl) rfl ?_
  refine r_icmp_ge E (dat dkX10_init 129 rfl) (tgt := 265) rfl (fun _ => ?_) (fun h => absurd (by decide) h)
  refine r_aload_n E (dat dkX10_init 161 rfl) rfl rfl ?_
  refine q_geta E fl_X10_9 (dat dkX10_init 162 rfl) rfl rfl rfl ?_
  refine r_iconst (v := 3) E (dat dkX10_init 163 rfl) rfl ?_
  refine r_iconst (v := 1) E (dat dkX10_init 164 rfl) rfl ?_
  refine r_iast (N := 443) E (dat dkX10_init 165 rfl) rfl rfl (by unfold vp_in; decide) ?_
  refine r_mem (M' := mdM 3 ma15 msp6 hs9) mdM_A ?_
  exact r_vretH (Y2 := ([9], lk0, ad)) E (dat dkX10_init 166 rfl) (Nat.le_of_ble_eq_true rfl) (Nat.le_of_ble_eq_true rfl) ha0 h97 hA2 ⟨_, rfl⟩ rfl
