section LDW
variable {p : Program} {l : Launch} {e : Env} {R : Room} {s : State} {m : MethodId} {args : Array Value} {below : List Frame} {meth : Method} {c : Code} {G : GT} {Y : LV} {nL : Nat} {Q : State → Prop} {M : Mem} {k n pc : Nat} {L : List (Option AV)} {S : List AV} {cc : ByteArray} {own : String} {ret : Option FieldType}
theorem q_ldcw (E : EN p s m args meth c G Y cc own nL ret) {idx i : Nat} (hi : i < 33) (ho : JSo.getD i "" = own) (hk : JSk.getD i 0 = idx) (hd : decode cc pc = .ok (.ldc_w idx, 3)) (kk : WM p l e R s m args below meth c G Y nL Q M k n (pc + 3) L (rv 97 i :: S)) : WM p l e R s m args below meth c G Y nL Q M k n pc L S := by
  intro H locs ls hP hS hl
  obtain ⟨hx, hb, hml, hown, hts, hr, hlk, ⟨hnw, hK, hX⟩, hD⟩ := E
  subst ho; subst hk
  have hZ := (hX.1 i hi).1
  intro T hT X
  obtain ⟨t, a1, b1⟩ := kk H locs ls hP hS hl T hT X
  exact ⟨t, X.ldcStringW hx hown hZ.1 hZ.2 (g := F0 m pc ls _) rfl (by rw [hb]; exact hd) t a1, b1⟩
end LDW
/-! the reference's script: kinds, known boots -/
theorem wd_e2 {b : Nat → Int32} {n : Nat} {t u : TT} {M : Mem} {w : List Int32} (hC : rC n t u) (hT : TI M t) : (if 0 < M 0 0 17 then (0 : Int32) else isW b t.2.1 (sTn t) t.1 w) = isW b u.2.1 u.2.2.1.toNatClampNeg u.1 w := by
  rw [hT.2.2.2.2.1, hC.1, if_neg (by decide)]
  unfold sTn
  rw [hC.2.2.2.1, hC.2.2.2.2.1, hC.2.2.2.2.2.1]
theorem vb_s {g : Nat → Int32} {f i : Nat} (h : g i = 0) : vbS g (f + 1) i = vbS g f (i + 1) := if_pos h
theorem vb_h {g : Nat → Int32} {f i : Nat} (h : ¬ g i = 0) : vbS g (f + 1) i = some i := if_neg h
/-- known boots: the text, the boots -/
def kb3 (t : TT) : TT := mEx (aNm t) 1 t
def kbO (b : Nat → Int32) (x : PP) (t : TT) : Int32 := if (kb3 t).2.2.2.2.1 = 0 then kNw b (sTn t) (t.1 - sTn t) x else 0
def kbT (b : Nat → Int32) (n : Nat) (x : PP) (t : TT) : TT := mAd b n (mEx (if kbO b x t = -1 then 0 else 1) 3 (kb3 t))
set_option maxRecDepth 100000 in
set_option maxHeartbeats 4000000 in
theorem sp_X10_statementKind (l : Launch) (G : GT) (bs : Nat → Int32) (n : Nat) (A : Nat → Int32) (t : TT) (u : TT) (M : Mem) (hB : M 0 10 = bs) (hn : M 0 0 10 = nI n) (hA : M 0 1 = A) (hT : TI M t) (hG : TG n t) (hn6 : n ≤ 600) (hC : rC n t u) : MC l G yX10_statementKind cX10_statementKind 1 (some .int) ({ frames := 5, cells := 0, slots := 0, locals := 107 } : Room) [9] lk0 [rv 0 0] (M) (fun r M2 => r = some (iv (oI (vbF bs u))) ∧ M2 = M) := by
  refine MC.of RX10 [some (rv 0 0)] 0 (by decide +kernel) rfl rfl rfl ?_
  intro pp ee ss mm aa bb me cd ad E
  have hk : kq M M := kq_r
  
  refine r_aload_n E (dat dkX10_statementKind 0 rfl) rfl rfl ?_
  refine q_ldc (i := 17) E (by decide) rfl rfl (dat dkX10_statementKind 1 rfl) ?_
  refine r_callV (κ := 9) (μ := []) E (sp_X10_isWord l G bs n t.1 (sTn t) 17 t.2.1 _ hB (hT.1.trans (TG_st hG hn6).2) hT.2.1 hT.2.2.1 (by decide) (TG_st hG hn6).1 hG.1 hn6) my_X10_isWord iv_X10_isWord ml_X10_212 cm_id ⟨by decide, rfl, rfl⟩ rfl rfl rfl rfl (by decide) (Nat.le_of_ble_eq_true rfl) (dat dkX10_statementKind 2 rfl) ?_
  rintro _ M9 ⟨rfl, hM9⟩
  refine ⟨_, Mrg_z hM9, ?_⟩
  clear hM9
  rw [show (if 0 < vw [] M 0 0 17 then (0 : Int32) else isW bs t.2.1 (sTn t) t.1 (bytJS.getD 17 [])) = (vbG bs u.2.1 u.2.2.1.toNatClampNeg u.1) 0 from wd_e2 hC hT]
  refine r_if_eq (tgt := 11) E (dat dkX10_statementKind 3 rfl) rfl (fun h6 => ?_) (fun h6 => ?_)
  ·
    refine r_aload_n E (dat dkX10_statementKind 6 rfl) rfl rfl ?_
    refine q_ldcw (i := 18) E (by decide) rfl rfl (dat dkX10_statementKind 7 rfl) ?_
    refine r_callV (κ := 9) (μ := []) E (sp_X10_isWord l G bs n t.1 (sTn t) 18 t.2.1 _ hB (hT.1.trans (TG_st hG hn6).2) hT.2.1 hT.2.2.1 (by decide) (TG_st hG hn6).1 hG.1 hn6) my_X10_isWord iv_X10_isWord ml_X10_212 cm_id ⟨by decide, rfl, rfl⟩ rfl rfl rfl rfl (by decide) (Nat.le_of_ble_eq_true rfl) (dat dkX10_statementKind 8 rfl) ?_
    rintro _ M9 ⟨rfl, hM9⟩
    refine ⟨_, Mrg_z hM9, ?_⟩
    clear hM9
    rw [show (if 0 < vw [] M 0 0 17 then (0 : Int32) else isW bs t.2.1 (sTn t) t.1 (bytJS.getD 18 [])) = (vbG bs u.2.1 u.2.2.1.toNatClampNeg u.1) 1 from wd_e2 hC hT]
    refine r_if_eq (tgt := 23) E (dat dkX10_statementKind 9 rfl) rfl (fun h18 => ?_) (fun h18 => ?_)
    ·
      refine r_aload_n E (dat dkX10_statementKind 12 rfl) rfl rfl ?_
      refine q_ldcw (i := 19) E (by decide) rfl rfl (dat dkX10_statementKind 13 rfl) ?_
      refine r_callV (κ := 9) (μ := []) E (sp_X10_isWord l G bs n t.1 (sTn t) 19 t.2.1 _ hB (hT.1.trans (TG_st hG hn6).2) hT.2.1 hT.2.2.1 (by decide) (TG_st hG hn6).1 hG.1 hn6) my_X10_isWord iv_X10_isWord ml_X10_212 cm_id ⟨by decide, rfl, rfl⟩ rfl rfl rfl rfl (by decide) (Nat.le_of_ble_eq_true rfl) (dat dkX10_statementKind 14 rfl) ?_
      rintro _ M9 ⟨rfl, hM9⟩
      refine ⟨_, Mrg_z hM9, ?_⟩
      clear hM9
      rw [show (if 0 < vw [] M 0 0 17 then (0 : Int32) else isW bs t.2.1 (sTn t) t.1 (bytJS.getD 19 [])) = (vbG bs u.2.1 u.2.2.1.toNatClampNeg u.1) 2 from wd_e2 hC hT]
      refine r_if_eq (tgt := 35) E (dat dkX10_statementKind 15 rfl) rfl (fun h30 => ?_) (fun h30 => ?_)
      ·
        refine r_aload_n E (dat dkX10_statementKind 18 rfl) rfl rfl ?_
        refine q_ldcw (i := 20) E (by decide) rfl rfl (dat dkX10_statementKind 19 rfl) ?_
        refine r_callV (κ := 9) (μ := []) E (sp_X10_isWord l G bs n t.1 (sTn t) 20 t.2.1 _ hB (hT.1.trans (TG_st hG hn6).2) hT.2.1 hT.2.2.1 (by decide) (TG_st hG hn6).1 hG.1 hn6) my_X10_isWord iv_X10_isWord ml_X10_212 cm_id ⟨by decide, rfl, rfl⟩ rfl rfl rfl rfl (by decide) (Nat.le_of_ble_eq_true rfl) (dat dkX10_statementKind 20 rfl) ?_
        rintro _ M9 ⟨rfl, hM9⟩
        refine ⟨_, Mrg_z hM9, ?_⟩
        clear hM9
        rw [show (if 0 < vw [] M 0 0 17 then (0 : Int32) else isW bs t.2.1 (sTn t) t.1 (bytJS.getD 20 [])) = (vbG bs u.2.1 u.2.2.1.toNatClampNeg u.1) 3 from wd_e2 hC hT]
        refine r_if_eq (tgt := 47) E (dat dkX10_statementKind 21 rfl) rfl (fun h42 => ?_) (fun h42 => ?_)
        ·
          refine r_aload_n E (dat dkX10_statementKind 24 rfl) rfl rfl ?_
          refine q_ldcw (i := 21) E (by decide) rfl rfl (dat dkX10_statementKind 25 rfl) ?_
          refine r_callV (κ := 9) (μ := []) E (sp_X10_isWord l G bs n t.1 (sTn t) 21 t.2.1 _ hB (hT.1.trans (TG_st hG hn6).2) hT.2.1 hT.2.2.1 (by decide) (TG_st hG hn6).1 hG.1 hn6) my_X10_isWord iv_X10_isWord ml_X10_212 cm_id ⟨by decide, rfl, rfl⟩ rfl rfl rfl rfl (by decide) (Nat.le_of_ble_eq_true rfl) (dat dkX10_statementKind 26 rfl) ?_
          rintro _ M9 ⟨rfl, hM9⟩
          refine ⟨_, Mrg_z hM9, ?_⟩
          clear hM9
          rw [show (if 0 < vw [] M 0 0 17 then (0 : Int32) else isW bs t.2.1 (sTn t) t.1 (bytJS.getD 21 [])) = (vbG bs u.2.1 u.2.2.1.toNatClampNeg u.1) 4 from wd_e2 hC hT]
          refine r_if_eq (tgt := 59) E (dat dkX10_statementKind 27 rfl) rfl (fun h54 => ?_) (fun h54 => ?_)
          ·
            refine r_aload_n E (dat dkX10_statementKind 30 rfl) rfl rfl ?_
            refine q_ldcw (i := 22) E (by decide) rfl rfl (dat dkX10_statementKind 31 rfl) ?_
            refine r_callV (κ := 9) (μ := []) E (sp_X10_isWord l G bs n t.1 (sTn t) 22 t.2.1 _ hB (hT.1.trans (TG_st hG hn6).2) hT.2.1 hT.2.2.1 (by decide) (TG_st hG hn6).1 hG.1 hn6) my_X10_isWord iv_X10_isWord ml_X10_212 cm_id ⟨by decide, rfl, rfl⟩ rfl rfl rfl rfl (by decide) (Nat.le_of_ble_eq_true rfl) (dat dkX10_statementKind 32 rfl) ?_
            rintro _ M9 ⟨rfl, hM9⟩
            refine ⟨_, Mrg_z hM9, ?_⟩
            clear hM9
            rw [show (if 0 < vw [] M 0 0 17 then (0 : Int32) else isW bs t.2.1 (sTn t) t.1 (bytJS.getD 22 [])) = (vbG bs u.2.1 u.2.2.1.toNatClampNeg u.1) 5 from wd_e2 hC hT]
            refine r_if_eq (tgt := 71) E (dat dkX10_statementKind 33 rfl) rfl (fun h66 => ?_) (fun h66 => ?_)
            ·
              refine r_aload_n E (dat dkX10_statementKind 36 rfl) rfl rfl ?_
              refine q_ldcw (i := 23) E (by decide) rfl rfl (dat dkX10_statementKind 37 rfl) ?_
              refine r_callV (κ := 9) (μ := []) E (sp_X10_isWord l G bs n t.1 (sTn t) 23 t.2.1 _ hB (hT.1.trans (TG_st hG hn6).2) hT.2.1 hT.2.2.1 (by decide) (TG_st hG hn6).1 hG.1 hn6) my_X10_isWord iv_X10_isWord ml_X10_212 cm_id ⟨by decide, rfl, rfl⟩ rfl rfl rfl rfl (by decide) (Nat.le_of_ble_eq_true rfl) (dat dkX10_statementKind 38 rfl) ?_
              rintro _ M9 ⟨rfl, hM9⟩
              refine ⟨_, Mrg_z hM9, ?_⟩
              clear hM9
              rw [show (if 0 < vw [] M 0 0 17 then (0 : Int32) else isW bs t.2.1 (sTn t) t.1 (bytJS.getD 23 [])) = (vbG bs u.2.1 u.2.2.1.toNatClampNeg u.1) 6 from wd_e2 hC hT]
              refine r_if_eq (tgt := 84) E (dat dkX10_statementKind 39 rfl) rfl (fun h78 => ?_) (fun h78 => ?_)
              ·
                refine r_aload_n E (dat dkX10_statementKind 42 rfl) rfl rfl ?_
                refine q_ldcw (i := 24) E (by decide) rfl rfl (dat dkX10_statementKind 43 rfl) ?_
                refine r_callV (κ := 9) (μ := []) E (sp_X10_isWord l G bs n t.1 (sTn t) 24 t.2.1 _ hB (hT.1.trans (TG_st hG hn6).2) hT.2.1 hT.2.2.1 (by decide) (TG_st hG hn6).1 hG.1 hn6) my_X10_isWord iv_X10_isWord ml_X10_212 cm_id ⟨by decide, rfl, rfl⟩ rfl rfl rfl rfl (by decide) (Nat.le_of_ble_eq_true rfl) (dat dkX10_statementKind 44 rfl) ?_
                rintro _ M9 ⟨rfl, hM9⟩
                refine ⟨_, Mrg_z hM9, ?_⟩
                clear hM9
                rw [show (if 0 < vw [] M 0 0 17 then (0 : Int32) else isW bs t.2.1 (sTn t) t.1 (bytJS.getD 24 [])) = (vbG bs u.2.1 u.2.2.1.toNatClampNeg u.1) 7 from wd_e2 hC hT]
                refine r_if_eq (tgt := 99) E (dat dkX10_statementKind 45 rfl) rfl (fun h91 => ?_) (fun h91 => ?_)
                ·
                  refine r_iconst (v := -1) E (dat dkX10_statementKind 48 rfl) rfl ?_
                  refine r_ireturn E (dat dkX10_statementKind 49 rfl) (by decide) (by decide) ?_
                  first
                    | (refine ⟨?_, rfl⟩
                       rw [show vbF bs u = vbS (vbG bs u.2.1 u.2.2.1.toNatClampNeg u.1) 8 0 from rfl, vb_s h6, vb_s h18, vb_s h30, vb_s h42, vb_s h54, vb_s h66, vb_s h78, vb_h h91]
                       rfl)
                    | (refine ⟨?_, rfl⟩
                       rw [show vbF bs u = vbS (vbG bs u.2.1 u.2.2.1.toNatClampNeg u.1) 8 0 from rfl, vb_s h6, vb_s h18, vb_s h30, vb_s h42, vb_s h54, vb_s h66, vb_s h78, vb_s h91]
                       rfl)
                ·
                  refine r_bipush (v := 7) E (dat dkX10_statementKind 46 rfl) rfl ?_
                  refine r_goto (tgt := 100) E (dat dkX10_statementKind 47 rfl) rfl ?_
                  refine r_ireturn E (dat dkX10_statementKind 49 rfl) (by decide) (by decide) ?_
                  first
                    | (refine ⟨?_, rfl⟩
                       rw [show vbF bs u = vbS (vbG bs u.2.1 u.2.2.1.toNatClampNeg u.1) 8 0 from rfl, vb_s h6, vb_s h18, vb_s h30, vb_s h42, vb_s h54, vb_s h66, vb_s h78, vb_h h91]
                       rfl)
                    | (refine ⟨?_, rfl⟩
                       rw [show vbF bs u = vbS (vbG bs u.2.1 u.2.2.1.toNatClampNeg u.1) 8 0 from rfl, vb_s h6, vb_s h18, vb_s h30, vb_s h42, vb_s h54, vb_s h66, vb_s h78, vb_s h91]
                       rfl)
              ·
                refine r_bipush (v := 6) E (dat dkX10_statementKind 40 rfl) rfl ?_
                refine r_ireturn E (dat dkX10_statementKind 41 rfl) (by decide) (by decide) ?_
                refine ⟨?_, rfl⟩
                rw [show vbF bs u = vbS (vbG bs u.2.1 u.2.2.1.toNatClampNeg u.1) 8 0 from rfl, vb_s h6, vb_s h18, vb_s h30, vb_s h42, vb_s h54, vb_s h66, vb_h h78]
                rfl
            ·
              refine r_iconst (v := 5) E (dat dkX10_statementKind 34 rfl) rfl ?_
              refine r_ireturn E (dat dkX10_statementKind 35 rfl) (by decide) (by decide) ?_
              refine ⟨?_, rfl⟩
              rw [show vbF bs u = vbS (vbG bs u.2.1 u.2.2.1.toNatClampNeg u.1) 8 0 from rfl, vb_s h6, vb_s h18, vb_s h30, vb_s h42, vb_s h54, vb_h h66]
              rfl
          ·
            refine r_iconst (v := 4) E (dat dkX10_statementKind 28 rfl) rfl ?_
            refine r_ireturn E (dat dkX10_statementKind 29 rfl) (by decide) (by decide) ?_
            refine ⟨?_, rfl⟩
            rw [show vbF bs u = vbS (vbG bs u.2.1 u.2.2.1.toNatClampNeg u.1) 8 0 from rfl, vb_s h6, vb_s h18, vb_s h30, vb_s h42, vb_h h54]
            rfl
        ·
          refine r_iconst (v := 3) E (dat dkX10_statementKind 22 rfl) rfl ?_
          refine r_ireturn E (dat dkX10_statementKind 23 rfl) (by decide) (by decide) ?_
          refine ⟨?_, rfl⟩
          rw [show vbF bs u = vbS (vbG bs u.2.1 u.2.2.1.toNatClampNeg u.1) 8 0 from rfl, vb_s h6, vb_s h18, vb_s h30, vb_h h42]
          rfl
      ·
        refine r_iconst (v := 2) E (dat dkX10_statementKind 16 rfl) rfl ?_
        refine r_ireturn E (dat dkX10_statementKind 17 rfl) (by decide) (by decide) ?_
        refine ⟨?_, rfl⟩
        rw [show vbF bs u = vbS (vbG bs u.2.1 u.2.2.1.toNatClampNeg u.1) 8 0 from rfl, vb_s h6, vb_s h18, vb_h h30]
        rfl
    ·
      refine r_iconst (v := 1) E (dat dkX10_statementKind 10 rfl) rfl ?_
      refine r_ireturn E (dat dkX10_statementKind 11 rfl) (by decide) (by decide) ?_
      refine ⟨?_, rfl⟩
      rw [show vbF bs u = vbS (vbG bs u.2.1 u.2.2.1.toNatClampNeg u.1) 8 0 from rfl, vb_s h6, vb_h h18]
      rfl
  ·
    refine r_iconst (v := 0) E (dat dkX10_statementKind 4 rfl) rfl ?_
    refine r_ireturn E (dat dkX10_statementKind 5 rfl) (by decide) (by decide) ?_
    refine ⟨?_, rfl⟩
    rw [show vbF bs u = vbS (vbG bs u.2.1 u.2.2.1.toNatClampNeg u.1) 8 0 from rfl, vb_h h6]
    rfl

set_option maxRecDepth 100000 in
set_option maxHeartbeats 4000000 in
theorem sp_X10_parseKnownBoots (l : Launch) (G : GT) (bs : Nat → Int32) (n : Nat) (A : Nat → Int32) (t : TT) (A0 : Nat → Int32) (x : PP) (T : Nat → Nat → Int32) (M : Mem) (hB : M 0 10 = bs) (hn : M 0 0 10 = nI n) (hA : M 0 1 = A) (hT : TI M t) (hG : TG n t) (hn6 : n ≤ 600) (hE : A = enc A0 x T) (hx : PIv x) : MC l G yX10_parseKnownBoots cX10_parseKnownBoots 2 (some .int) ({ frames := 3, cells := 0, slots := 0, locals := 66 } : Room) [9] lk0 [rv 0 0] (M) (fun r M2 => r = some (iv (imax 0 (kbO bs x t))) ∧ PK M M2 A (kbT bs n x t) ∧ PS3 M M2) := by
  refine MC.of RX10 [some (rv 0 0), none] 1 (by decide +kernel) rfl rfl rfl ?_
  intro pp ee ss mm aa bb me cd ad E
  have hk : kq M M := kq_r
  have hS : PS3 M M := PS3_r
  
  refine r_aload_n E (dat dkX10_parseKnownBoots 0 rfl) rfl rfl ?_
  refine r_callV (κ := 9) (μ := []) E (sp_X10_spellName l G bs n _ _ (sTn t) _ hB hn hA hT hG hn6 (TG_st hG hn6).1 (TG_st hG hn6).2) my_X10_spellName iv_X10_spellName ml_X10_204 cm_id ⟨by decide, rfl, rfl⟩ rfl rfl rfl rfl (by decide) (Nat.le_of_ble_eq_true rfl) (dat dkX10_parseKnownBoots 1 rfl) ?_
  rintro _ M9 ⟨rfl, hp9, hs9, hx9⟩
  obtain ⟨Ma, hMr, hk9, hA, hT, hS9, hX⟩ := Mrg_pk3 sPl_X hp9 hs9 hx9
  replace hB := (hk9.2.2.2.1).trans hB
  replace hn := (hk9.2.2.2.2.2.2.2.2.1).trans hn
  replace hk := kq_t hk hk9
  replace hS := PS3_t hS hS9
  replace hG := TG_ex (a := aNm t) (k := 1) (by decide) hG
  obtain ⟨sp, hsp⟩ : ∃ sp, Ma 0 8 = sp := ⟨_, rfl⟩
  obtain ⟨t3, ht3⟩ : ∃ z, z = kb3 t := ⟨_, rfl⟩
  replace hG : TG n t3 := by rw [ht3]; exact hG
  replace hT : TI Ma t3 := by rw [ht3]; exact hT
  replace hX : t3.2.2.2.2.1 = 0 → sPl Ma bs (sTn t) (t.1 - sTn t) := by rw [ht3]; exact hX
  refine ⟨_, hMr, ?_⟩
  clear hp9 hs9 hMr hk9 hS9 hx9
  refine r_aload_n E (dat dkX10_parseKnownBoots 2 rfl) rfl rfl ?_
  refine q_getn E fl_X10_165 (dat dkX10_parseKnownBoots 3 rfl) rfl rfl rfl (show (_ : Int32) = _ from hT.2.2.2.2.1) ?_
  by_cases h33z : t3.2.2.2.2.1 = 0
  ·
    have hw7 := (aNm_6 (mEx_z (a := aNm t) (k := 1) (t := t) (by decide) (by rw [ht3] at h33z; exact h33z)).2.2).2
    refine r_if_ne (tgt := 18) E (dat dkX10_parseKnownBoots 4 rfl) rfl (fun h8 => ?_) (fun h8 => ?_)
    ·
      exact absurd h33z h8
    ·
      refine r_aload_n E (dat dkX10_parseKnownBoots 5 rfl) rfl rfl ?_
      refine r_callV (κ := 9) (μ := []) E (sp_X10_spelledBoots l G A0 x T (t.1 - sTn t) sp _ (hA.trans hE) hx (hX h33z).1 hw7 hsp) my_X10_spelledBoots iv_X10_spelledBoots ml_X10_207 cm_id ⟨by decide, rfl, rfl⟩ rfl rfl rfl rfl (by decide) (Nat.le_of_ble_eq_true rfl) (dat dkX10_parseKnownBoots 6 rfl) ?_
      rintro _ _ ⟨rfl, rfl⟩
      refine ⟨_, Mrg_z rfl, ?_⟩
      rw [kNw_of (b := bs) (s := sTn t) (fun i hi => (congrFun hsp i).symm.trans ((hX h33z).2 i hi))]
      have hO : kbO bs x t = kNw bs (sTn t) (t.1 - sTn t) x := if_pos (by rw [← ht3]; exact h33z)
      refine r_goto (tgt := 19) E (dat dkX10_parseKnownBoots 7 rfl) rfl ?_
      refine r_istore_1 E (dat dkX10_parseKnownBoots 9 rfl) rfl rfl ?_
      refine r_aload_n E (dat dkX10_parseKnownBoots 10 rfl) rfl rfl ?_
      refine r_iload_n E (dat dkX10_parseKnownBoots 11 rfl) rfl rfl ?_
      refine r_iconst (v := -1) E (dat dkX10_parseKnownBoots 12 rfl) rfl ?_
      by_cases hkn : kNw bs (sTn t) (t.1 - sTn t) x = -1
      ·
        refine r_icmp_eq (tgt := 30) E (dat dkX10_parseKnownBoots 13 rfl) rfl (fun h23 => ?_) (fun h23 => ?_)
        ·
          refine r_iconst (v := 0) E (dat dkX10_parseKnownBoots 16 rfl) rfl ?_
          refine r_iconst (v := 3) E (dat dkX10_parseKnownBoots 17 rfl) rfl ?_
          refine r_callV (κ := 9) (μ := []) E (px_ex l G bs n _ _ (0) (3) _ hB hn hA hT hG hn6) my_X10_expect iv_X10_expect ml_X10_194 cm_id ⟨by decide, rfl, rfl⟩ rfl rfl rfl rfl (by decide) (Nat.le_of_ble_eq_true rfl) (dat dkX10_parseKnownBoots 18 rfl) ?_
          rintro _ M9 ⟨rfl, hp9, hs9⟩
          obtain ⟨Ma, hMr, hk9, hA, hT, hS9⟩ := Mrg_pk hp9 hs9
          replace hB := (hk9.2.2.2.1).trans hB
          replace hn := (hk9.2.2.2.2.2.2.2.2.1).trans hn
          replace hk := kq_t hk hk9
          replace hS := PS3_t hS (PS_3 hS9)
          replace hG := TG_ex (a := 0) (k := 3) (by decide) hG
          refine ⟨_, hMr, ?_⟩
          clear hp9 hs9 hMr hk9 hS9
          refine r_aload_n E (dat dkX10_parseKnownBoots 19 rfl) rfl rfl ?_
          refine r_callV (κ := 9) (μ := []) E (px_adv l G bs n _ _  _ hB hn hA hT hG hn6) my_X10_advanceToken iv_X10_advanceToken ml_X10_189 cm_id ⟨by decide, rfl, rfl⟩ rfl rfl rfl rfl (by decide) (Nat.le_of_ble_eq_true rfl) (dat dkX10_parseKnownBoots 20 rfl) ?_
          rintro _ M9 ⟨rfl, hp9, hs9⟩
          obtain ⟨Ma, hMr, hk9, hA, hT, hS9⟩ := Mrg_pk hp9 hs9
          replace hB := (hk9.2.2.2.1).trans hB
          replace hn := (hk9.2.2.2.2.2.2.2.2.1).trans hn
          replace hk := kq_t hk hk9
          replace hS := PS3_t hS (PS_3 hS9)
          replace hG := TG_ad (b := bs) hG
          refine ⟨_, hMr, ?_⟩
          clear hp9 hs9 hMr hk9 hS9
          refine r_iconst (v := 0) E (dat dkX10_parseKnownBoots 21 rfl) rfl ?_
          refine r_iload_n E (dat dkX10_parseKnownBoots 22 rfl) rfl rfl ?_
          refine r_mmax E ml_X10_98 (by decide) (dat dkX10_parseKnownBoots 23 rfl) ?_
          refine r_ireturn E (dat dkX10_parseKnownBoots 24 rfl) (by decide) (by decide) ?_
          refine ⟨by rw [hO], ?_, hS⟩
          unfold kbT
          rw [hO, if_pos hkn, ← ht3]
          exact ⟨hk, hA, hT⟩
        ·
          exact absurd hkn h23
      ·
        refine r_icmp_eq (tgt := 30) E (dat dkX10_parseKnownBoots 13 rfl) rfl (fun h23 => ?_) (fun h23 => ?_)
        ·
          exact absurd (by first | exact h23 | exact Decidable.not_not.mp h23) hkn
        ·
          refine r_iconst (v := 1) E (dat dkX10_parseKnownBoots 14 rfl) rfl ?_
          refine r_goto (tgt := 31) E (dat dkX10_parseKnownBoots 15 rfl) rfl ?_
          refine r_iconst (v := 3) E (dat dkX10_parseKnownBoots 17 rfl) rfl ?_
          refine r_callV (κ := 9) (μ := []) E (px_ex l G bs n _ _ (1) (3) _ hB hn hA hT hG hn6) my_X10_expect iv_X10_expect ml_X10_194 cm_id ⟨by decide, rfl, rfl⟩ rfl rfl rfl rfl (by decide) (Nat.le_of_ble_eq_true rfl) (dat dkX10_parseKnownBoots 18 rfl) ?_
          rintro _ M9 ⟨rfl, hp9, hs9⟩
          obtain ⟨Ma, hMr, hk9, hA, hT, hS9⟩ := Mrg_pk hp9 hs9
          replace hB := (hk9.2.2.2.1).trans hB
          replace hn := (hk9.2.2.2.2.2.2.2.2.1).trans hn
          replace hk := kq_t hk hk9
          replace hS := PS3_t hS (PS_3 hS9)
          replace hG := TG_ex (a := 1) (k := 3) (by decide) hG
          refine ⟨_, hMr, ?_⟩
          clear hp9 hs9 hMr hk9 hS9
          refine r_aload_n E (dat dkX10_parseKnownBoots 19 rfl) rfl rfl ?_
          refine r_callV (κ := 9) (μ := []) E (px_adv l G bs n _ _  _ hB hn hA hT hG hn6) my_X10_advanceToken iv_X10_advanceToken ml_X10_189 cm_id ⟨by decide, rfl, rfl⟩ rfl rfl rfl rfl (by decide) (Nat.le_of_ble_eq_true rfl) (dat dkX10_parseKnownBoots 20 rfl) ?_
          rintro _ M9 ⟨rfl, hp9, hs9⟩
          obtain ⟨Ma, hMr, hk9, hA, hT, hS9⟩ := Mrg_pk hp9 hs9
          replace hB := (hk9.2.2.2.1).trans hB
          replace hn := (hk9.2.2.2.2.2.2.2.2.1).trans hn
          replace hk := kq_t hk hk9
          replace hS := PS3_t hS (PS_3 hS9)
          replace hG := TG_ad (b := bs) hG
          refine ⟨_, hMr, ?_⟩
          clear hp9 hs9 hMr hk9 hS9
          refine r_iconst (v := 0) E (dat dkX10_parseKnownBoots 21 rfl) rfl ?_
          refine r_iload_n E (dat dkX10_parseKnownBoots 22 rfl) rfl rfl ?_
          refine r_mmax E ml_X10_98 (by decide) (dat dkX10_parseKnownBoots 23 rfl) ?_
          refine r_ireturn E (dat dkX10_parseKnownBoots 24 rfl) (by decide) (by decide) ?_
          refine ⟨by rw [hO], ?_, hS⟩
          unfold kbT
          rw [hO, if_neg hkn, ← ht3]
          exact ⟨hk, hA, hT⟩
  ·
    have hO : kbO bs x t = 0 := if_neg (by rw [← ht3]; exact h33z)
    refine r_if_ne (tgt := 18) E (dat dkX10_parseKnownBoots 4 rfl) rfl (fun h8 => ?_) (fun h8 => ?_)
    ·
      refine r_iconst (v := 0) E (dat dkX10_parseKnownBoots 8 rfl) rfl ?_
      refine r_istore_1 E (dat dkX10_parseKnownBoots 9 rfl) rfl rfl ?_
      refine r_aload_n E (dat dkX10_parseKnownBoots 10 rfl) rfl rfl ?_
      refine r_iload_n E (dat dkX10_parseKnownBoots 11 rfl) rfl rfl ?_
      refine r_iconst (v := -1) E (dat dkX10_parseKnownBoots 12 rfl) rfl ?_
      refine r_icmp_eq (tgt := 30) E (dat dkX10_parseKnownBoots 13 rfl) rfl (fun h23 => ?_) (fun h23 => ?_)
      ·
        exact absurd h23 (by decide)
      ·
        refine r_iconst (v := 1) E (dat dkX10_parseKnownBoots 14 rfl) rfl ?_
        refine r_goto (tgt := 31) E (dat dkX10_parseKnownBoots 15 rfl) rfl ?_
        refine r_iconst (v := 3) E (dat dkX10_parseKnownBoots 17 rfl) rfl ?_
        refine r_callV (κ := 9) (μ := []) E (px_ex l G bs n _ _ (1) (3) _ hB hn hA hT hG hn6) my_X10_expect iv_X10_expect ml_X10_194 cm_id ⟨by decide, rfl, rfl⟩ rfl rfl rfl rfl (by decide) (Nat.le_of_ble_eq_true rfl) (dat dkX10_parseKnownBoots 18 rfl) ?_
        rintro _ M9 ⟨rfl, hp9, hs9⟩
        obtain ⟨Ma, hMr, hk9, hA, hT, hS9⟩ := Mrg_pk hp9 hs9
        replace hB := (hk9.2.2.2.1).trans hB
        replace hn := (hk9.2.2.2.2.2.2.2.2.1).trans hn
        replace hk := kq_t hk hk9
        replace hS := PS3_t hS (PS_3 hS9)
        replace hG := TG_ex (a := 1) (k := 3) (by decide) hG
        refine ⟨_, hMr, ?_⟩
        clear hp9 hs9 hMr hk9 hS9
        refine r_aload_n E (dat dkX10_parseKnownBoots 19 rfl) rfl rfl ?_
        refine r_callV (κ := 9) (μ := []) E (px_adv l G bs n _ _  _ hB hn hA hT hG hn6) my_X10_advanceToken iv_X10_advanceToken ml_X10_189 cm_id ⟨by decide, rfl, rfl⟩ rfl rfl rfl rfl (by decide) (Nat.le_of_ble_eq_true rfl) (dat dkX10_parseKnownBoots 20 rfl) ?_
        rintro _ M9 ⟨rfl, hp9, hs9⟩
        obtain ⟨Ma, hMr, hk9, hA, hT, hS9⟩ := Mrg_pk hp9 hs9
        replace hB := (hk9.2.2.2.1).trans hB
        replace hn := (hk9.2.2.2.2.2.2.2.2.1).trans hn
        replace hk := kq_t hk hk9
        replace hS := PS3_t hS (PS_3 hS9)
        replace hG := TG_ad (b := bs) hG
        refine ⟨_, hMr, ?_⟩
        clear hp9 hs9 hMr hk9 hS9
        refine r_iconst (v := 0) E (dat dkX10_parseKnownBoots 21 rfl) rfl ?_
        refine r_iload_n E (dat dkX10_parseKnownBoots 22 rfl) rfl rfl ?_
        refine r_mmax E ml_X10_98 (by decide) (dat dkX10_parseKnownBoots 23 rfl) ?_
        refine r_ireturn E (dat dkX10_parseKnownBoots 24 rfl) (by decide) (by decide) ?_
        refine ⟨by rw [hO], ?_, hS⟩
        unfold kbT
        rw [hO, if_neg (show ¬ (0 : Int32) = -1 by decide), ← ht3]
        exact ⟨hk, hA, hT⟩
    ·
      exact absurd (by first | exact h8 | exact Decidable.not_not.mp h8) h33z
