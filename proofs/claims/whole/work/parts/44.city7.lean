def nxB : ByteArray := ⟨#[0x2a, 0x2b, 0xb7, 0x00, 0x0d, 0xb1]⟩
theorem nx_0 : decode nxB 0 = .ok (.aload_n 0, 1) := by decide +kernel
theorem nx_1 : decode nxB 1 = .ok (.aload_n 1, 1) := by decide +kernel
theorem nx_2 : decode nxB 2 = .ok (.invokespecial 13, 3) := by decide +kernel
theorem nx_5 : decode nxB 5 = .ok (.return_, 1) := by decide +kernel
def XWX (own : String) (ik ic : Nat) (cls : String) : Prop := Bundle.fit cls = true ∧ (∀ w ∈ Cond.classLink own ik cls :: Cond.initialized cls :: vx_atSX own ic cls 13 nxB ["java/lang/RuntimeException", "java/lang/Exception"], w ∈ lw_tbl ∧ (goodWord w || isNest w) = true) ∧ (∀ w ∈ Cond.classLink own ik cls :: Cond.initialized cls :: vx_atSX own ic cls 13 nxB ["java/lang/RuntimeException", "java/lang/Exception"], vx_ot w = true)
section RXN
variable {p : Program} {l : Launch} {e : Env} {R : Room} {s : State} {m : MethodId} {args : Array Value} {below : List Frame} {meth : Method} {c : Code} {G : GT} {Y : LV} {nL : Nat} {Q : State → Prop} {M : Mem} {k n pc : Nat} {L : List (Option AV)} {S : List AV} {cc : ByteArray} {own : String} {ret : Option FieldType}

theorem r_throwN (E : EN p s m args meth c G Y cc own nL ret) {Qc : Array Value → State → Outcome → State → Prop} {XP : String → Mem → Prop} {mc ms ik is ic i : Nat} {cls : String} (hnt : ∀ x ∈ c.exceptionTable.toList, False) (hl : l.stackTraces = false) (hw : XWX own ik ic cls) (hi : i < 33) (ho : JSo.getD i "" = own) (his : JSk.getD i 0 = is)
    (d0 : decode cc pc = .ok (.new ik, 3)) (d3 : decode cc (pc + 3) = .ok (.dup, 1)) (d4 : decode cc (pc + 4) = .ok (.ldc_w is, 3)) (d7 : decode cc (pc + 7) = .ok (.invokespecial ic, 3)) (d10 : decode cc (pc + 10) = .ok (.athrow, 1))
    (hR : 6 ≤ R.frames ∧ (S.map fun v => if ac2 (some v) then 2 else 1).sum + 82 ≤ R.locals ∧ k + 1 ≤ R.cells ∧ n + 6 ≤ R.slots) (hc : k + 1 ≤ mc) (hs : n + 6 ≤ ms) (hp : XP cls M) : WM p l e R s m args below meth c G Y nL (vx_MQ below Qc (QX G Y XP) args s mc ms (AS Y s.heap.size)) M k n pc L S := by
  intro H locs ls hP hS hls
  have E0 := E
  obtain ⟨hx, hb, hml, hown, hts, hr, hlk, ⟨hnw, hK, hX⟩, hD⟩ := E
  obtain ⟨w1, w2, w3⟩ := hw
  obtain ⟨z1, z2, z3, z4, z5, z6, z7, z8, -⟩ := hX.2.2
  subst ho; subst his
  refine vx_throwSX (names := ["java/lang/RuntimeException", "java/lang/Exception"]) (A := AS Y s.heap.size) hx hb hl nx_0 nx_1 nx_2 nx_5 hown w1 (by decide +kernel) (en_word E0 (w2 _ List.mem_cons_self)) (en_word E0 (w2 _ (List.mem_cons_of_mem _ List.mem_cons_self))) (hX.1 i hi).1 (fun w hw => en_word E0 (w2 w (List.mem_cons_of_mem _ (List.mem_cons_of_mem _ hw)))) w3 z7 z8 hS (hls.1.trans hml.symm) d0 d3 d4 d7 d10 (fun x hx => (hnt x hx).elim) (by show 2 + 3 < R.frames; omega) (by rw [cat_sum]; show _ + (13 * 3 + 43) ≤ _; omega) hR.2.2.1 hR.2.2.2 hlk (fun t ht hz hk => ?_) hS.2.2 hc hs
  exact ⟨M, hp, va_P_kept hP hk, Nat.le_trans hS.1 hz, fun q h1 h2 => (hk q (Nat.lt_of_lt_of_le h1 hS.1)).trans (hS.2.1 q h1 h2)⟩

end RXN
theorem xw_nse : XWX RX9 301 305 "java/util/NoSuchElementException" := ⟨by decide +kernel, by decide +kernel, by decide +kernel⟩
/-- the state before the latest change comes back -/
def tbM (M : Mem) (o h : Nat) : Mem := setm (setm M 3 (M (7 + (o + h) % 8))) 6 (vH (M 6) (nI o) (nI h) (M 6 1))
theorem Mrg_tb {M M1 : Mem} {o h : Nat} (h1 : M1 = setm (setm (vw [6, 3, 7, 8, 9, 10, 11, 12, 13, 14] M) 1 (vw [6, 3, 7, 8, 9, 10, 11, 12, 13, 14] M (2 + (o + h) % 8))) 0 (vH (M 6) (nI o) (nI h) (M 6 1))) : Mrg 10 [6, 3, 7, 8, 9, 10, 11, 12, 13, 14] M M1 (tbM M o h) := by
  have hz := Nat.mod_lt (o + h) (show 0 < 8 by decide)
  refine Mrg_ee (i := 1) (j := 0) (by decide) (by decide) (by decide) ?_ h1
  unfold tbM
  rw [← mu_h hz]
  rfl
set_option maxRecDepth 100000 in
set_option maxHeartbeats 4000000 in
theorem sp_X9_undo (l : Launch) (hst : l.stackTraces = false) (G : GT) (o h : Nat) (M : Mem) (ho1 : M 6 0 1 = nI o) (hh1 : M 6 0 2 = nI h) (ho8 : o < 8) (hh8 : h ≤ 8) (hws : ∀ z, z < 8 → WTi (M (7 + z))) : MCx l G yX9_undo cX9_undo 1 (some .int) ({ frames := 6, cells := 1, slots := 6, locals := 84 } : Room) KC lkC [rv 0 0] (M) (fun r M2 => 0 < h ∧ M2 = tbM M o (h - 1) ∧ r = some (iv (nI (h - 1)))) (fun E M2 => E = nseN ∧ M2 = M ∧ h = 0) := by
  refine MCx.of RX9 [some (rv 0 0)] 0 (by decide +kernel) rfl rfl rfl ?_
  intro pp ee ss mm aa bb me cd ad E hnt
  refine r_aload_n E (dat dkX9_undo 0 rfl) rfl rfl ?_
  refine q_getl E fl_X9_39 (dat dkX9_undo 1 rfl) rfl rfl rfl ?_
  refine q_getn E fl_X9_300 (dat dkX9_undo 2 rfl) rfl rfl rfl rfl ?_
  refine r_if_ne (tgt := 21) E (dat dkX9_undo 3 rfl) rfl (fun h7 => ?_) (fun h7 => ?_)
  ·
    have h7b : 0 < h := by
      rcases Nat.eq_zero_or_pos h with q | q
      · subst q; exact absurd hh1 (by first | exact h7 | exact fun w => h7 w)
      · exact q
    refine r_aload_n E (dat dkX9_undo 9 rfl) rfl rfl ?_
    refine q_getl E fl_X9_39 (dat dkX9_undo 10 rfl) rfl rfl rfl ?_
    refine r_aload_n E (dat dkX9_undo 11 rfl) rfl rfl ?_
    refine q_getl E fl_X9_26 (dat dkX9_undo 12 rfl) rfl rfl rfl ?_
    refine r_callV (κ := 7) (μ := [6, 3, 7, 8, 9, 10, 11, 12, 13, 14]) E (sp_X1_takeBack l G (M 6) o (h - 1) (M 6 1) _ (by show M 6 = _; rw [show h - 1 + 1 = h by omega, ← ho1, ← hh1]; exact (evH _).symm) ho8 (by omega) (fun z hz => by show WTi (M (mu [6, 3, 7, 8, 9, 10, 11, 12, 13, 14] (2 + z))); rw [mu_h hz]; exact hws z hz)) my_X1_takeBack iv_X1_takeBack ml_X9_307 (cm_of rfl) ⟨by decide, rfl, rfl⟩ rfl rfl rfl rfl (by decide) (Nat.le_of_ble_eq_true rfl) (dat dkX9_undo 13 rfl) ?_
    rintro _ _ ⟨rfl, hM9⟩
    refine ⟨_, (show Mrg _ _ M _ (tbM M o (h - 1)) from Mrg_tb hM9), ?_⟩
    clear hM9
    refine r_aload_n E (dat dkX9_undo 14 rfl) rfl rfl ?_
    refine q_getl E fl_X9_39 (dat dkX9_undo 15 rfl) rfl rfl rfl ?_
    refine q_getn E fl_X9_300 (dat dkX9_undo 16 rfl) rfl rfl rfl rfl ?_
    refine r_xq ?_
    refine r_ireturn E (dat dkX9_undo 17 rfl) (by decide) (by decide) ?_
    exact ⟨h7b, rfl, rfl⟩
  ·
    refine r_throwN (i := 10) E hnt hst xw_nse (by decide) rfl rfl (dat dkX9_undo 4 rfl) (dat dkX9_undo 5 rfl) (dat dkX9_undo 6 rfl) (dat dkX9_undo 7 rfl) (dat dkX9_undo 8 rfl) ⟨by decide, (Nat.le_of_ble_eq_true rfl), by decide, by decide⟩ (by decide) (by decide) ?_
    refine ⟨rfl, rfl, ?_⟩
    have h9 : nI h = nI 0 := hh1.symm.trans (by first | exact h7 | exact Decidable.not_not.mp h7)
    exact (nI_eq (by omega) (by decide)).mp h9

set_option maxRecDepth 100000 in
set_option maxHeartbeats 4000000 in
theorem sp_X9_restoreState (l : Launch) (hst : l.stackTraces = false) (G : GT)  (M : Mem) (hw5 : WTi (M 5)) : MCx l G yX9_restoreState cX9_restoreState 1 (some .int) ({ frames := 6, cells := 1, slots := 6, locals := 82 } : Room) KC lkC [rv 0 0] (M) (fun r M2 => ¬ M 0 0 11 = 0 ∧ M2 = setm (setm M 3 (M 5)) 6 (vH (M 6) (M 6 0 1) 0 (M 6 1)) ∧ r = some (iv (M 5 0 7))) (fun E M2 => E = nseN ∧ M2 = M ∧ M 0 0 11 = 0) := by
  refine MCx.of RX9 [some (rv 0 0)] 0 (by decide +kernel) rfl rfl rfl ?_
  intro pp ee ss mm aa bb me cd ad E hnt
  refine r_aload_n E (dat dkX9_restoreState 0 rfl) rfl rfl ?_
  refine q_getn E fl_X9_71 (dat dkX9_restoreState 1 rfl) rfl rfl rfl rfl ?_
  refine r_if_ne (tgt := 18) E (dat dkX9_restoreState 2 rfl) rfl (fun h4 => ?_) (fun h4 => ?_)
  ·
    refine r_aload_n E (dat dkX9_restoreState 8 rfl) rfl rfl ?_
    refine q_getl E fl_X9_26 (dat dkX9_restoreState 9 rfl) rfl rfl rfl ?_
    refine r_aload_n E (dat dkX9_restoreState 10 rfl) rfl rfl ?_
    refine q_getl E fl_X9_33 (dat dkX9_restoreState 11 rfl) rfl rfl rfl ?_
    refine r_callV (κ := 1) (μ := [3, 5]) E (tp_X5_copyFrom l G (M 5) _ rfl hw5) my_X5_copyFrom iv_X5_copyFrom ml_X9_247 (cm_of rfl) ⟨by decide, rfl, rfl⟩ rfl rfl rfl rfl (by decide) (Nat.le_of_ble_eq_true rfl) (dat dkX9_restoreState 12 rfl) ?_
    rintro _ _ ⟨rfl, rfl⟩
    refine ⟨_, (show Mrg _ _ M _ (setm M 3 (M 5)) from Mrg_e (i := 0) (by decide) (by decide) rfl rfl), ?_⟩
    refine r_aload_n E (dat dkX9_restoreState 13 rfl) rfl rfl ?_
    refine q_getl E fl_X9_39 (dat dkX9_restoreState 14 rfl) rfl rfl rfl ?_
    refine r_callV (κ := 7) (μ := [6, 3, 7, 8, 9, 10, 11, 12, 13, 14]) E (sp_X1_forgetAll l G (M 6) (M 6 0 1) (M 6 0 2) (M 6 1) _ (evH (M 6)).symm) my_X1_forgetAll iv_X1_forgetAll ml_X9_103 (cm_of rfl) ⟨by decide, rfl, rfl⟩ rfl rfl rfl rfl (by decide) (Nat.le_of_ble_eq_true rfl) (dat dkX9_restoreState 15 rfl) ?_
    rintro _ _ ⟨rfl, rfl⟩
    refine ⟨_, (show Mrg _ _ (setm M 3 (M 5)) _ (setm (setm M 3 (M 5)) 6 (vH (M 6) (M 6 0 1) 0 (M 6 1))) from Mrg_e (i := 0) (by decide) (by decide) rfl rfl), ?_⟩
    refine r_aload_n E (dat dkX9_restoreState 16 rfl) rfl rfl ?_
    refine q_getl E fl_X9_26 (dat dkX9_restoreState 17 rfl) rfl rfl rfl ?_
    refine q_getn E fl_X9_129 (dat dkX9_restoreState 18 rfl) rfl rfl rfl rfl ?_
    refine r_xq ?_
    refine r_ireturn E (dat dkX9_restoreState 19 rfl) (by decide) (by decide) ?_
    exact ⟨by first | exact h4 | exact fun w => h4 w, rfl, rfl⟩
  ·
    refine r_throwN (i := 12) E hnt hst xw_nse (by decide) rfl rfl (dat dkX9_restoreState 3 rfl) (dat dkX9_restoreState 4 rfl) (dat dkX9_restoreState 5 rfl) (dat dkX9_restoreState 6 rfl) (dat dkX9_restoreState 7 rfl) ⟨by decide, (Nat.le_of_ble_eq_true rfl), by decide, by decide⟩ (by decide) (by decide) ?_
    exact ⟨rfl, rfl, by first | exact h4 | exact Decidable.not_not.mp h4⟩
