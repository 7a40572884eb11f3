section RFD
variable {p : Program} {l : Launch} {e : Env} {R : Room} {s : State} {m : MethodId} {args : Array Value} {below : List Frame} {meth : Method} {c : Code} {G : GT} {Y : LV} {nL : Nat} {Q : State → Prop} {M : Mem} {k n pc : Nat} {L : List (Option AV)} {S : List AV} {cc : ByteArray} {own : String} {ret : Option FieldType}
theorem r_ddiv (E : EN p s m args meth c G Y cc own nL ret) {x y : UInt64} (hd : decode cc pc = .ok (.ddiv, 1)) (hne : vf_n64 (FP.ddiv x y)) (kk : WM p l e R s m args below meth c G Y nL Q M k n (pc + 1) L (.inl (.double (FP.ddiv x y)) :: S)) : WM p l e R s m args below meth c G Y nL Q M k n pc L (.inl (.double y) :: .inl (.double x) :: S) := fun H locs ls hP hS hl => lv_ddiv E.1 E.2.1 hd hne (kk H locs ls hP hS hl)
theorem r_dconst0 (E : EN p s m args meth c G Y cc own nL ret) (hd : decode cc pc = .ok (.dconst 0, 1)) (kk : WM p l e R s m args below meth c G Y nL Q M k n (pc + 1) L (.inl (.double 0) :: S)) : WM p l e R s m args below meth c G Y nL Q M k n pc L (S) := fun H locs ls hP hS hl => lv_dconst0 E.1 E.2.1 hd (kk H locs ls hP hS hl)
theorem r_dreturn {v : UInt64} {post : Option AV → Mem → Prop} {mc ms : Nat} (E : EN p s m args meth c G Y cc own nL (some .double)) (hd : decode cc pc = .ok (.dreturn, 1)) (hk : k ≤ mc) (hn : n ≤ ms) (hp : post (some (.inl (.double v))) M) : WM p l e R s m args below meth c G Y nL (MQ below (QCm G Y post s.heap.size) args s mc ms (AS Y s.heap.size)) M k n pc L [.inl (.double v)] := by
  intro H locs ls hP hS hl
  obtain ⟨hx, hb, hml, hown, hts, hr, hlk, hG, hD⟩ := E
  refine W.widen hk hn ?_
  exact W.dret (v := v) (hlocks := hlk) hx hb hr (fun t ht hW => ⟨⟨some (.inl (.double v)), M, rfl, hp, by rw [ht]; exact hP⟩, hS.F ht⟩) hS.2.2 hd
theorem r_fdiv (E : EN p s m args meth c G Y cc own nL ret) {x y : UInt32} (hd : decode cc pc = .ok (.fdiv, 1)) (hne : vf_n32 (FP.fdiv x y)) (kk : WM p l e R s m args below meth c G Y nL Q M k n (pc + 1) L (.inl (.float (FP.fdiv x y)) :: S)) : WM p l e R s m args below meth c G Y nL Q M k n pc L (.inl (.float y) :: .inl (.float x) :: S) := fun H locs ls hP hS hl => lv_fdiv E.1 E.2.1 hd hne (kk H locs ls hP hS hl)
theorem r_fconst0 (E : EN p s m args meth c G Y cc own nL ret) (hd : decode cc pc = .ok (.fconst 0, 1)) (kk : WM p l e R s m args below meth c G Y nL Q M k n (pc + 1) L (.inl (.float 0) :: S)) : WM p l e R s m args below meth c G Y nL Q M k n pc L (S) := fun H locs ls hP hS hl => lv_fconst0 E.1 E.2.1 hd (kk H locs ls hP hS hl)
theorem r_freturn {v : UInt32} {post : Option AV → Mem → Prop} {mc ms : Nat} (E : EN p s m args meth c G Y cc own nL (some .float)) (hd : decode cc pc = .ok (.freturn, 1)) (hk : k ≤ mc) (hn : n ≤ ms) (hp : post (some (.inl (.float v))) M) : WM p l e R s m args below meth c G Y nL (MQ below (QCm G Y post s.heap.size) args s mc ms (AS Y s.heap.size)) M k n pc L [.inl (.float v)] := by
  intro H locs ls hP hS hl
  obtain ⟨hx, hb, hml, hown, hts, hr, hlk, hG, hD⟩ := E
  refine W.widen hk hn ?_
  exact W.fret (v := v) (hlocks := hlk) hx hb hr (fun t ht hW => ⟨⟨some (.inl (.float v)), M, rfl, hp, by rw [ht]; exact hP⟩, hS.F ht⟩) hS.2.2 hd
end RFD
/-! quotients that are numbers -/
theorem n64_no {x : UInt64} (h : Jvm.FP.Core.dIsNaN x = false) : vf_n64 x := by
  have h3 : ¬ 9218868437227405312 < x.toNat % 2 ^ 63 := fun q => by
    rw [(Jvm.FP.Core.isNaN_bits x).mpr q] at h
    exact absurd h (by decide)
  unfold vf_n64
  rw [UInt64.le_iff_toNat_le, UInt64.toNat_and]
  have h1 : (0x7fffffffffffffff : UInt64).toNat = 2 ^ 63 - 1 := by decide
  have h2 : (0x7ff0000000000000 : UInt64).toNat = 9218868437227405312 := by decide
  rw [h1, h2, Nat.and_two_pow_sub_one_eq_mod]
  omega
theorem n32_no {x : UInt32} (h : Jvm.FP.Core.fIsNaN x = false) : vf_n32 x := by
  have h3 : ¬ 2139095040 < x.toNat % 2 ^ 31 := fun q => by
    rw [(Jvm.FP.Core.isNaN_bits32 x).mpr q] at h
    exact absurd h (by decide)
  unfold vf_n32
  rw [UInt32.le_iff_toNat_le, UInt32.toNat_and]
  have h1 : (0x7fffffff : UInt32).toNat = 2 ^ 31 - 1 := by decide
  have h2 : (0x7f800000 : UInt32).toNat = 2139095040 := by decide
  rw [h1, h2, Nat.and_two_pow_sub_one_eq_mod]
  omega
theorem nz64 : ∀ m, m < 65 → 0 < m → ¬ (FP.i2d (nI m)).toNat % 2 ^ 63 = 0 := by decide +kernel
theorem nz32 : ∀ m, m < 65 → 0 < m → ¬ (FP.i2f (nI m)).toNat % 2 ^ 31 = 0 := by decide +kernel
theorem dv64 (a : Int32) {m : Nat} (h : m < 65) (h0 : 0 < m) : vf_n64 (FP.ddiv (FP.i2d a) (FP.i2d (nI m))) := by
  have ma : (FP.i2d a).toNat % 2 ^ 63 < 1056 * 2 ^ 52 := Jvm.FP.Core.i2d_mag a
  have mb : (FP.i2d (nI m)).toNat % 2 ^ 63 < 1056 * 2 ^ 52 := Jvm.FP.Core.i2d_mag (nI m)
  refine n64_no (Jvm.FP.Core.ddiv_out ?_ ((Jvm.FP.Core.fin_bits _).mpr ?_) (fun q => nz64 m h h0 ((Jvm.FP.Core.zero_bits2 _).mp q)))
  · rw [← Bool.not_eq_true, Jvm.FP.Core.isNaN_bits]
    omega
  · omega
theorem dv32 (a : Int32) {m : Nat} (h : m < 65) (h0 : 0 < m) : vf_n32 (FP.fdiv (FP.i2f a) (FP.i2f (nI m))) := by
  have ma : (FP.i2f a).toNat % 2 ^ 31 < 160 * 2 ^ 23 := Jvm.FP.Core.i2f_mag a
  have mb : (FP.i2f (nI m)).toNat % 2 ^ 31 < 160 * 2 ^ 23 := Jvm.FP.Core.i2f_mag (nI m)
  refine n32_no (Jvm.FP.Core.fdiv_out ?_ ((Jvm.FP.Core.fin_bits32 _).mpr ?_) (fun q => nz32 m h h0 ((Jvm.FP.Core.zero_bits232 _).mp q)))
  · rw [← Bool.not_eq_true, Jvm.FP.Core.isNaN_bits32]
    omega
  · omega
def wtB (w : Nat → Int32) (c : Nat) : Bool := decide (¬ w c = 0)
theorem wtB_1 {w : Nat → Int32} {c : Nat} : wtB w c = true ↔ ¬ w c = 0 := decide_eq_true_iff
def wpB (w : Nat → Int32) (c : Nat) : Bool := decide (0 < w c)
theorem wpB_1 {w : Nat → Int32} {c : Nat} : wpB w c = true ↔ 0 < w c := decide_eq_true_iff
theorem wt_wp {w : Nat → Int32} {n : Nat} (h : ∀ c, c < n → 0 ≤ w c) : kN (wtB w) n = kN (wpB w) n := kN_cg fun c hc => by
  by_cases h0 : w c = 0
  · have a : ¬ wtB w c = true := fun q => wtB_1.mp q h0
    have b : ¬ wpB w c = true := fun q => absurd (wpB_1.mp q) (by rw [h0]; decide)
    rw [Bool.not_eq_true] at a b
    rw [a, b]
  · rw [wtB_1.mpr h0, wpB_1.mpr (Int32.lt_of_le_of_ne (h c hc) (fun q => h0 q.symm))]
set_option maxRecDepth 100000 in
set_option maxHeartbeats 4000000 in
theorem sp_X10_meanWater (l : Launch) (G : GT) (A0 : Nat → Int32) (x : PP) (T : Nat → Nat → Int32) (M : Mem) (hA : M 0 1 = enc A0 x T) (hx : PIv x) (h0 : 0 < x.1.2.2) : MC l G yX10_meanWater cX10_meanWater 1 (some .double) ({ frames := 3, cells := 0, slots := 0, locals := 64 } : Room) [9] lk0 [rv 0 0] (M) (fun r M2 => r = some (.inl (.double (FP.ddiv (FP.i2d (sm (T 1) x.1.2.2)) (FP.i2d (nI x.1.2.2))))) ∧ M2 = mt M 0) := by
  refine MC.of RX10 [some (rv 0 0)] 0 (by decide +kernel) rfl rfl rfl ?_
  intro pp ee ss mm aa bb me cd ad E
  have hn64 := (PIv_z hx).1
  
  refine r_aload_n E (dat dkX10_meanWater 0 rfl) rfl rfl ?_
  refine r_iconst (v := 0) E (dat dkX10_meanWater 1 rfl) rfl ?_
  refine q_putn E ft_X10_67 (dat dkX10_meanWater 2 rfl) rfl rfl rfl rfl ?_
  refine r_aload_n E (dat dkX10_meanWater 3 rfl) rfl rfl ?_
  refine r_callV (κ := 9) (μ := []) E (sp_X10_allWater l G A0 x T _ hA hx) my_X10_allWater iv_X10_allWater ml_X10_366 cm_id ⟨by decide, rfl, rfl⟩ rfl rfl rfl rfl (by decide) (Nat.le_of_ble_eq_true rfl) (dat dkX10_meanWater 4 rfl) ?_
  rintro _ _ ⟨rfl, rfl⟩
  refine ⟨_, Mrg_z rfl, ?_⟩
  refine r_i2d E (dat dkX10_meanWater 5 rfl) ?_
  refine r_aload_n E (dat dkX10_meanWater 6 rfl) rfl rfl ?_
  refine r_callV (κ := 9) (μ := []) E (sp_X10_cells l G _ (enc A0 x T) hA) my_X10_cells iv_X10_cells ml_X10_115 cm_id ⟨by decide, rfl, rfl⟩ rfl rfl rfl rfl (by decide) (Nat.le_of_ble_eq_true rfl) (dat dkX10_meanWater 7 rfl) ?_
  rintro _ _ ⟨rfl, rfl⟩
  refine ⟨_, Mrg_z rfl, ?_⟩
  rw [ce_x hx]
  refine r_i2d E (dat dkX10_meanWater 8 rfl) ?_
  refine r_ddiv E (dat dkX10_meanWater 9 rfl) (dv64 _ (by omega) h0) ?_
  refine r_dreturn E (dat dkX10_meanWater 10 rfl) (by decide) (by decide) ?_
  exact ⟨rfl, rfl⟩

set_option maxRecDepth 100000 in
set_option maxHeartbeats 4000000 in
theorem sp_X10_wetPart (l : Launch) (G : GT) (A0 : Nat → Int32) (x : PP) (T : Nat → Nat → Int32) (M : Mem) (hA : M 0 1 = enc A0 x T) (hx : PIv x) (h0 : 0 < x.1.2.2) : MC l G yX10_wetPart cX10_wetPart 3 (some .float) ({ frames := 3, cells := 0, slots := 0, locals := 63 } : Room) [9] lk0 [rv 0 0] (M) (fun r M2 => r = some (.inl (.float (FP.fdiv (FP.i2f (nI (kN (wtB (T 1)) x.1.2.2))) (FP.i2f (nI x.1.2.2))))) ∧ M2 = mt M 0) := by
  refine MC.of RX10 [some (rv 0 0), none, none] 2 (by decide +kernel) rfl rfl rfl ?_
  intro pp ee ss mm aa bb me cd ad E
  have hn64 := (PIv_z hx).1
  
  refine r_aload_n E (dat dkX10_wetPart 0 rfl) rfl rfl ?_
  refine r_iconst (v := 0) E (dat dkX10_wetPart 1 rfl) rfl ?_
  refine q_putn E ft_X10_67 (dat dkX10_wetPart 2 rfl) rfl rfl rfl rfl ?_
  refine r_iconst (v := 0) E (dat dkX10_wetPart 3 rfl) rfl ?_
  refine r_istore_1 E (dat dkX10_wetPart 4 rfl) rfl rfl ?_
  refine r_iconst (v := 0) E (dat dkX10_wetPart 5 rfl) rfl ?_
  refine r_istore_2 E (dat dkX10_wetPart 6 rfl) rfl rfl ?_
  refine r_for (x.1.2.2) (fun _ => True) (fun i => mt M 0) (fun i => [some (rv 0 0), some (iv (nI (kN (wtB (T 1)) i))), some (iv (nI i))]) trivial rfl rfl ?_ ?_
  · intro i hi hI kk
    refine r_iload_n E (dat dkX10_wetPart 7 rfl) rfl rfl ?_
    refine r_aload_n E (dat dkX10_wetPart 8 rfl) rfl rfl ?_
    refine r_callV (κ := 9) (μ := []) E (sp_X10_cells l G _ (enc A0 x T) hA) my_X10_cells iv_X10_cells ml_X10_115 cm_id ⟨by decide, rfl, rfl⟩ rfl rfl rfl rfl (by decide) (Nat.le_of_ble_eq_true rfl) (dat dkX10_wetPart 9 rfl) ?_
    rintro _ _ ⟨rfl, rfl⟩
    refine ⟨_, Mrg_z rfl, ?_⟩
    rw [ce_x hx]
    refine q_icmp_ge (tgt := 42) E (dat dkX10_wetPart 10 rfl) rfl rfl rfl (by omega) (by omega) (fun h14 => ?_) (fun h14 => ?_)
    ·
      omega
    ·
      refine r_iload_n E (dat dkX10_wetPart 11 rfl) rfl rfl ?_
      refine r_aload_n E (dat dkX10_wetPart 12 rfl) rfl rfl ?_
      refine r_iload_n E (dat dkX10_wetPart 13 rfl) rfl rfl ?_
      refine r_callV (κ := 9) (μ := []) E (sp_X10_isDry l G A0 x T i _ hA hx hi) my_X10_isDry iv_X10_isDry ml_X10_111 cm_id ⟨by decide, rfl, rfl⟩ rfl rfl rfl rfl (by decide) (Nat.le_of_ble_eq_true rfl) (dat dkX10_wetPart 14 rfl) ?_
      rintro _ _ ⟨rfl, rfl⟩
      refine ⟨_, Mrg_z rfl, ?_⟩
      by_cases hd : T 1 i = 0
      ·
        rw [if_pos hd]
        refine r_if_ne (tgt := 30) E (dat dkX10_wetPart 15 rfl) rfl (fun h23 => ?_) (fun h23 => ?_)
        ·
          refine r_iconst (v := 0) E (dat dkX10_wetPart 18 rfl) rfl ?_
          refine r_callS (μ := []) E (sp_X10_one l G _ _) my_X10_one is_X10_one ml_X10_141 cm_nil rfl rfl (by decide) (Nat.le_of_ble_eq_true rfl) (dat dkX10_wetPart 19 rfl) ?_
          rintro _ _ ⟨rfl, hM⟩
          refine ⟨_, Mrg_z hM, ?_⟩
          clear hM
          refine r_iadd E (dat dkX10_wetPart 20 rfl) ?_
          first
            | rw [if_neg (show ¬ (1 : Int32) = 0 by decide), show nI (kN (wtB (T 1)) i) + 1 = nI (kN (wtB (T 1)) i + 1) from nI_1 _]
            | rw [if_pos (rfl : (0 : Int32) = 0), Int32.add_zero]
          refine r_istore_1 E (dat dkX10_wetPart 21 rfl) rfl rfl ?_
          refine q_iinc_2 E (dat dkX10_wetPart 22 rfl) rfl rfl ?_
          refine r_goto (tgt := 9) E (dat dkX10_wetPart 23 rfl) rfl ?_
          first
            | (rw [kN_1 (wtB_1.mpr hd)] at kk; exact kk trivial)
            | (rw [kN_0 (fun q => wtB_1.mp q hd)] at kk; exact kk trivial)
        ·
          exact absurd (by first | exact h23 | exact Decidable.not_not.mp h23) (show ¬ (1 : Int32) = 0 by decide)
      ·
        rw [if_neg hd]
        refine r_if_ne (tgt := 30) E (dat dkX10_wetPart 15 rfl) rfl (fun h23 => ?_) (fun h23 => ?_)
        ·
          exact absurd rfl h23
        ·
          refine r_iconst (v := 1) E (dat dkX10_wetPart 16 rfl) rfl ?_
          refine r_goto (tgt := 31) E (dat dkX10_wetPart 17 rfl) rfl ?_
          refine r_callS (μ := []) E (sp_X10_one l G _ _) my_X10_one is_X10_one ml_X10_141 cm_nil rfl rfl (by decide) (Nat.le_of_ble_eq_true rfl) (dat dkX10_wetPart 19 rfl) ?_
          rintro _ _ ⟨rfl, hM⟩
          refine ⟨_, Mrg_z hM, ?_⟩
          clear hM
          refine r_iadd E (dat dkX10_wetPart 20 rfl) ?_
          first
            | rw [if_neg (show ¬ (1 : Int32) = 0 by decide), show nI (kN (wtB (T 1)) i) + 1 = nI (kN (wtB (T 1)) i + 1) from nI_1 _]
            | rw [if_pos (rfl : (0 : Int32) = 0), Int32.add_zero]
          refine r_istore_1 E (dat dkX10_wetPart 21 rfl) rfl rfl ?_
          refine q_iinc_2 E (dat dkX10_wetPart 22 rfl) rfl rfl ?_
          refine r_goto (tgt := 9) E (dat dkX10_wetPart 23 rfl) rfl ?_
          first
            | (rw [kN_1 (wtB_1.mpr hd)] at kk; exact kk trivial)
            | (rw [kN_0 (fun q => wtB_1.mp q hd)] at kk; exact kk trivial)
  · intro hI
    refine r_iload_n E (dat dkX10_wetPart 7 rfl) rfl rfl ?_
    refine r_aload_n E (dat dkX10_wetPart 8 rfl) rfl rfl ?_
    refine r_callV (κ := 9) (μ := []) E (sp_X10_cells l G _ (enc A0 x T) hA) my_X10_cells iv_X10_cells ml_X10_115 cm_id ⟨by decide, rfl, rfl⟩ rfl rfl rfl rfl (by decide) (Nat.le_of_ble_eq_true rfl) (dat dkX10_wetPart 9 rfl) ?_
    rintro _ _ ⟨rfl, rfl⟩
    refine ⟨_, Mrg_z rfl, ?_⟩
    rw [ce_x hx]
    refine q_icmp_ge (tgt := 42) E (dat dkX10_wetPart 10 rfl) rfl rfl rfl (by omega) (by omega) (fun h14 => ?_) (fun h14 => ?_)
    ·
      refine r_iload_n E (dat dkX10_wetPart 24 rfl) rfl rfl ?_
      refine r_i2f E (dat dkX10_wetPart 25 rfl) ?_
      refine r_aload_n E (dat dkX10_wetPart 26 rfl) rfl rfl ?_
      refine r_callV (κ := 9) (μ := []) E (sp_X10_cells l G _ (enc A0 x T) hA) my_X10_cells iv_X10_cells ml_X10_115 cm_id ⟨by decide, rfl, rfl⟩ rfl rfl rfl rfl (by decide) (Nat.le_of_ble_eq_true rfl) (dat dkX10_wetPart 27 rfl) ?_
      rintro _ _ ⟨rfl, rfl⟩
      refine ⟨_, Mrg_z rfl, ?_⟩
      rw [ce_x hx]
      refine r_i2f E (dat dkX10_wetPart 28 rfl) ?_
      refine r_fdiv E (dat dkX10_wetPart 29 rfl) (dv32 _ (by omega) h0) ?_
      refine r_freturn E (dat dkX10_wetPart 30 rfl) (by decide) (by decide) ?_
      exact ⟨rfl, rfl⟩
    ·
      omega
