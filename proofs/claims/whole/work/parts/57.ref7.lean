section RLD
variable {p : Program} {l : Launch} {e : Env} {R : Room} {s : State} {m : MethodId} {args : Array Value} {below : List Frame} {meth : Method} {c : Code} {G : GT} {Y : LV} {nL : Nat} {Q : State → Prop} {M : Mem} {k n pc : Nat} {L : List (Option AV)} {S : List AV} {cc : ByteArray} {own : String} {ret : Option FieldType}

theorem r_ldc2 (E : EN p s m args meth c G Y cc own nL ret) {idx : Nat} {v : Int64} (hw : Cond.constantLong own idx v ∈ BIG) (hd : decode cc pc = .ok (.ldc2_w idx, 3)) (kk : WM p l e R s m args below meth c G Y nL Q M k n (pc + 3) L (.inl (.long v) :: S)) : WM p l e R s m args below meth c G Y nL Q M k n pc L S := fun H locs ls hP hS hl => W.ldc2 E.1 E.2.1 E.2.2.2.1 (E.2.2.2.2.1 _ hw) rfl hd (kk H locs ls hP hS hl)
end RLD
theorem cl_157 : Cond.constantLong "PuddleCityModel" 157 97 ∈ BIG := bg_6 168 (by decide +kernel)
theorem cl_159 : Cond.constantLong "PuddleCityModel" 159 122 ∈ BIG := bg_6 169 (by decide +kernel)
theorem cl_161 : Cond.constantLong "PuddleCityModel" 161 48 ∈ BIG := bg_6 174 (by decide +kernel)
theorem cl_163 : Cond.constantLong "PuddleCityModel" 163 57 ∈ BIG := bg_6 175 (by decide +kernel)
theorem cl_342 : Cond.constantLong "PuddleCityModel" 342 3 ∈ BIG := bg_7 233 (by decide +kernel)
theorem cl_381 : Cond.constantLong "PuddleCityModel" 381 100 ∈ BIG := bg_8 110 (by decide +kernel)
theorem cl_396 : Cond.constantLong "PuddleCityModel" 396 9 ∈ BIG := bg_8 151 (by decide +kernel)
theorem cl_398 : Cond.constantLong "PuddleCityModel" 398 20 ∈ BIG := bg_8 156 (by decide +kernel)
theorem cl_400 : Cond.constantLong "PuddleCityModel" 400 60 ∈ BIG := bg_8 157 (by decide +kernel)
/-- an array of the reference and its count -/
def gM (t fd : Nat) (M : Mem) (P : Nat → Int32) (k : Int32) : Mem := setm M 0 (sett (sett (M 0) t P) 0 (upd (M 0 0) fd k))
theorem gM_c {t fd : Nat} {M : Mem} {P : Nat → Int32} {k : Int32} {Z : Nat → Nat → Int32} : setm (gM t fd M P k) 0 Z = setm M 0 Z := setm_setm
theorem gM_s {t fd : Nat} {M : Mem} {P f : Nat → Int32} {k : Int32} (ht : t ≠ 0) : setm (gM t fd M P k) 0 (sett (gM t fd M P k 0) t f) = gM t fd M f k := by
  rw [gM_c]
  unfold gM
  rw [setm_s]
  congr 1
  funext u
  unfold sett
  by_cases h1 : u = t
  · rw [if_pos h1, if_neg (by omega), if_pos h1]
  · rw [if_neg h1]
    by_cases h2 : u = 0
    · rw [if_pos h2, if_pos h2]
    · rw [if_neg h2, if_neg h2, if_neg h1, if_neg h1]
theorem gM_p {t fd : Nat} {M : Mem} {P : Nat → Int32} {k v : Int32} : setm (gM t fd M P k) 0 (sett (gM t fd M P k 0) 0 (upd (gM t fd M P k 0 0) fd v)) = gM t fd M P v := by
  rw [gM_c]
  unfold gM
  rw [setm_s]
  congr 1
  funext u
  unfold sett
  by_cases h2 : u = 0
  · rw [if_pos h2, if_pos h2, if_pos rfl]
    funext j
    unfold upd
    split <;> rfl
  · rw [if_neg h2, if_neg h2, if_neg h2]
theorem gM_of {t fd : Nat} {M : Mem} {P : Nat → Int32} {k : Int32} (h1 : M 0 t = P) (h2 : M 0 0 fd = k) : gM t fd M P k = M := by
  funext g
  unfold gM setm
  split
  · rename_i h0
    subst h0
    funext u
    unfold sett
    split
    · rename_i h3
      subst h3
      funext j
      unfold upd
      split
      · rename_i h4; rw [h4, h2]
      · rfl
    · split
      · rename_i h4; rw [h4, h1]
      · rfl
  · rfl
theorem gM_gM {t fd : Nat} {M : Mem} {P P2 : Nat → Int32} {k k2 : Int32} (ht : t ≠ 0) : gM t fd (gM t fd M P k) P2 k2 = gM t fd M P2 k2 := by
  show setm (gM t fd M P k) 0 (sett (sett (gM t fd M P k 0) t P2) 0 (upd (gM t fd M P k 0 0) fd k2)) = _
  rw [gM_c]
  unfold gM
  rw [setm_s]
  congr 1
  funext u
  unfold sett
  by_cases h2 : u = 0
  · rw [if_pos h2, if_pos h2, if_pos rfl]
    funext j
    unfold upd
    split <;> rfl
  · rw [if_neg h2, if_neg h2]
    by_cases h1 : u = t
    · rw [if_pos h1, if_neg h2, if_pos h1]
    · rw [if_neg h1, if_neg h1, if_neg h2, if_neg h1]
/-- the past, shifted when it is full; then A behind it -/
def rmS (P : Nat → Int32) (k : Nat) : Nat → Int32 := if k = 8 then fil (fun q => P (q + 443)) P 3101 else P
def rmK (k : Nat) : Nat := if k = 8 then 7 else k
def cpP (P A : Nat → Int32) (b j : Nat) : Nat → Int32 := fun q => if b ≤ q ∧ q < b + j then A (q - b) else P q
theorem cpP_0 {P A : Nat → Int32} {b : Nat} : cpP P A b 0 = P := by
  funext q
  exact if_neg (by omega)
theorem cpP_s {P A : Nat → Int32} {b j : Nat} : upd (cpP P A b j) (b + j) (A j) = cpP P A b (j + 1) := by
  funext q
  unfold upd cpP
  by_cases h : q = b + j
  · rw [if_pos h, if_pos (by omega), h, Nat.add_sub_cancel_left]
  · rw [if_neg h]
    by_cases h2 : b ≤ q ∧ q < b + j
    · rw [if_pos h2, if_pos (by omega)]
    · rw [if_neg h2, if_neg (by omega)]
def rmM (M : Mem) (P A : Nat → Int32) (k : Nat) : Mem := gM 4 4 M (cpP (rmS P k) A (443 * rmK k) 443) (nI (rmK k + 1))
set_option maxRecDepth 100000 in
set_option maxHeartbeats 8000000 in
theorem sp_X10_remember (l : Launch) (G : GT) (P A : Nat → Int32) (k : Nat) (M : Mem) (hP : M 0 4 = P) (hk : M 0 0 4 = nI k) (hA : M 0 1 = A) (hk8 : k ≤ 8) : MC l G yX10_remember cX10_remember 2 none ({ frames := 0, cells := 0, slots := 0, locals := 0 } : Room) [9] lk0 [rv 0 0] (M) (fun r M2 => r = none ∧ M2 = rmM M P A k) := by
  refine MC.of RX10 [some (rv 0 0), none] 1 (by decide +kernel) rfl rfl rfl ?_
  intro pp ee ss mm aa bb me cd ad E
  obtain ⟨M0, rfl, hA0⟩ : ∃ M0, M = gM 4 4 M0 P (nI k) ∧ M0 0 1 = A := ⟨M, (gM_of hP hk).symm, hA⟩
  clear hP hk hA
  
  by_cases hk9 : k = 8
  ·
    subst hk9
    refine r_aload_n E (dat dkX10_remember 0 rfl) rfl rfl ?_
    refine q_getn E fl_X10_70 (dat dkX10_remember 1 rfl) rfl rfl rfl rfl ?_
    refine r_bipush (v := 8) E (dat dkX10_remember 2 rfl) rfl ?_
    refine q_icmp_ne (tgt := 52) E (dat dkX10_remember 3 rfl) rfl rfl (b := 8) rfl (by omega) (by omega) (fun h6 => ?_) (fun h6 => ?_)
    ·
      omega
    ·
      refine r_sipush (v := 443) E (dat dkX10_remember 4 rfl) rfl ?_
      refine r_istore_1 E (dat dkX10_remember 5 rfl) rfl rfl ?_
      refine r_for (3101) (fun _ => True) (fun i => gM 4 4 M0 (fil (fun q => P (q + 443)) P i) (nI 8)) (fun i => [some (rv 0 0), some (iv (nI (443 + i)))]) trivial (by rw [fil_0]) rfl ?_ ?_
      · intro i hi hI kk
        refine r_iload_n E (dat dkX10_remember 6 rfl) rfl rfl ?_
        refine r_sipush (v := 3544) E (dat dkX10_remember 7 rfl) rfl ?_
        refine q_icmp_ge (tgt := 42) E (dat dkX10_remember 8 rfl) rfl rfl (b := 3544) rfl (by omega) (by omega) (fun h17 => ?_) (fun h17 => ?_)
        ·
          omega
        ·
          refine r_aload_n E (dat dkX10_remember 9 rfl) rfl rfl ?_
          refine q_geta E fl_X10_19 (dat dkX10_remember 10 rfl) rfl rfl rfl ?_
          refine r_iload_n E (dat dkX10_remember 11 rfl) rfl rfl ?_
          refine r_sipush (v := 443) E (dat dkX10_remember 12 rfl) rfl ?_
          refine r_isub E (dat dkX10_remember 13 rfl) ?_
          refine r_aload_n E (dat dkX10_remember 14 rfl) rfl rfl ?_
          refine q_geta E fl_X10_19 (dat dkX10_remember 15 rfl) rfl rfl rfl ?_
          refine r_iload_n E (dat dkX10_remember 16 rfl) rfl rfl ?_
          refine q_iald E (dat dkX10_remember 17 rfl) rfl rfl (by decide) (show gM 4 4 _ _ _ 0 4 = _ from rfl) (show _ = nI (443 + i) from rfl) (by omega) ?_
          refine q_iast E (dat dkX10_remember 18 rfl) rfl rfl (by decide) (show gM 4 4 _ _ _ 0 4 = _ from rfl) (fun _ => gM_s (by decide)) (show _ = nI i from (nI_sb (b := 443) (by omega)).trans (by rw [Nat.add_sub_cancel_left])) (by omega) ?_
          refine q_iinc_1 E (dat dkX10_remember 19 rfl) rfl rfl ?_
          refine r_goto (tgt := 13) E (dat dkX10_remember 20 rfl) rfl ?_
          rw [← fil_upd (f := P) (g := fun q => P (q + 443)) (i := i) (v := P (i + 443)) rfl] at kk
          refine r_back ?_ ?_ (kk trivial)
          · show _ = gM 4 4 M0 (upd (fil (fun q => P (q + 443)) P i) i (fil (fun q => P (q + 443)) P i (443 + i))) (nI 8)
            rw [show fil (fun q => P (q + 443)) P i (443 + i) = P (443 + i) from if_neg (by omega), Nat.add_comm 443 i]
          · exact And.intro rfl (And.intro rfl trivial)
      · intro hI
        refine r_iload_n E (dat dkX10_remember 6 rfl) rfl rfl ?_
        refine r_sipush (v := 3544) E (dat dkX10_remember 7 rfl) rfl ?_
        refine q_icmp_ge (tgt := 42) E (dat dkX10_remember 8 rfl) rfl rfl (b := 3544) rfl (by omega) (by omega) (fun h17 => ?_) (fun h17 => ?_)
        ·
          refine r_aload_n E (dat dkX10_remember 21 rfl) rfl rfl ?_
          refine r_dup E (dat dkX10_remember 22 rfl) rfl ?_
          refine q_getn E fl_X10_70 (dat dkX10_remember 23 rfl) rfl rfl rfl rfl ?_
          refine r_iconst (v := 1) E (dat dkX10_remember 24 rfl) rfl ?_
          refine r_isub E (dat dkX10_remember 25 rfl) ?_
          rw [show (gM 4 4 M0 (fil (fun q => P (q + 443)) P 3101) (nI 8) 0 0 4 - 1 : Int32) = nI 7 from by (show nI 8 - 1 = nI 7); decide]
          refine q_putn E ft_X10_70 (dat dkX10_remember 26 rfl) rfl rfl rfl rfl ?_
          rw [gM_p]
          refine r_iconst (v := 0) E (dat dkX10_remember 27 rfl) rfl ?_
          refine r_istore_1 E (dat dkX10_remember 28 rfl) rfl rfl ?_
          refine r_for (443) (fun _ => True) (fun i => gM 4 4 M0 (cpP (fil (fun q => P (q + 443)) P 3101) A (443 * 7) i) (nI 7)) (fun i => [some (rv 0 0), some (iv (nI i))]) trivial (by rw [cpP_0]) rfl ?_ ?_
          · intro i hi hI kk
            refine r_iload_n E (dat dkX10_remember 29 rfl) rfl rfl ?_
            refine r_sipush (v := 443) E (dat dkX10_remember 30 rfl) rfl ?_
            refine q_icmp_ge (tgt := 88) E (dat dkX10_remember 31 rfl) rfl rfl (b := 443) rfl (by omega) (by omega) (fun h58 => ?_) (fun h58 => ?_)
            ·
              omega
            ·
              refine r_aload_n E (dat dkX10_remember 32 rfl) rfl rfl ?_
              refine q_geta E fl_X10_19 (dat dkX10_remember 33 rfl) rfl rfl rfl ?_
              refine r_sipush (v := 443) E (dat dkX10_remember 34 rfl) rfl ?_
              refine r_aload_n E (dat dkX10_remember 35 rfl) rfl rfl ?_
              refine q_getn E fl_X10_70 (dat dkX10_remember 36 rfl) rfl rfl rfl rfl ?_
              refine r_imul E (dat dkX10_remember 37 rfl) ?_
              refine r_iload_n E (dat dkX10_remember 38 rfl) rfl rfl ?_
              refine r_iadd E (dat dkX10_remember 39 rfl) ?_
              refine r_aload_n E (dat dkX10_remember 40 rfl) rfl rfl ?_
              refine q_geta E fl_X10_9 (dat dkX10_remember 41 rfl) rfl rfl rfl ?_
              refine r_iload_n E (dat dkX10_remember 42 rfl) rfl rfl ?_
              refine q_iald E (dat dkX10_remember 43 rfl) rfl rfl (by decide) (show gM 4 4 M0 _ _ 0 1 = A from hA0) rfl (by omega) ?_
              refine q_iast E (dat dkX10_remember 44 rfl) rfl rfl (by decide) (show gM 4 4 _ _ _ 0 4 = _ from rfl) (fun _ => gM_s (by decide)) (show nI 443 * nI 7 + nI i = nI (443 * 7 + i) by rw [pk_mul, nI_add]) (by omega) ?_
              refine q_iinc_1 E (dat dkX10_remember 45 rfl) rfl rfl ?_
              refine r_goto (tgt := 54) E (dat dkX10_remember 46 rfl) rfl ?_
              rw [← cpP_s] at kk
              exact kk trivial
          · intro hI
            refine r_iload_n E (dat dkX10_remember 29 rfl) rfl rfl ?_
            refine r_sipush (v := 443) E (dat dkX10_remember 30 rfl) rfl ?_
            refine q_icmp_ge (tgt := 88) E (dat dkX10_remember 31 rfl) rfl rfl (b := 443) rfl (by omega) (by omega) (fun h58 => ?_) (fun h58 => ?_)
            ·
              refine r_aload_n E (dat dkX10_remember 47 rfl) rfl rfl ?_
              refine r_dup E (dat dkX10_remember 48 rfl) rfl ?_
              refine q_getn E fl_X10_70 (dat dkX10_remember 49 rfl) rfl rfl rfl rfl ?_
              refine r_iconst (v := 1) E (dat dkX10_remember 50 rfl) rfl ?_
              refine r_iadd E (dat dkX10_remember 51 rfl) ?_
              rw [show (gM 4 4 M0 (cpP (fil (fun q => P (q + 443)) P 3101) A (443 * 7) 443) (nI 7) 0 0 4 + 1 : Int32) = nI (7 + 1) from nI_1 7]
              refine q_putn E ft_X10_70 (dat dkX10_remember 52 rfl) rfl rfl rfl rfl ?_
              refine r_vreturn E (dat dkX10_remember 53 rfl) (by decide) (by decide) ?_
              refine ⟨rfl, ?_⟩
              rw [gM_p]
              unfold rmM rmS rmK
              rw [if_pos rfl, if_pos rfl, gM_gM (by decide)]
            ·
              omega
        ·
          omega
  ·
    refine r_aload_n E (dat dkX10_remember 0 rfl) rfl rfl ?_
    refine q_getn E fl_X10_70 (dat dkX10_remember 1 rfl) rfl rfl rfl rfl ?_
    refine r_bipush (v := 8) E (dat dkX10_remember 2 rfl) rfl ?_
    refine q_icmp_ne (tgt := 52) E (dat dkX10_remember 3 rfl) rfl rfl (b := 8) rfl (by omega) (by omega) (fun h6 => ?_) (fun h6 => ?_)
    ·
      
      refine r_iconst (v := 0) E (dat dkX10_remember 27 rfl) rfl ?_
      refine r_istore_1 E (dat dkX10_remember 28 rfl) rfl rfl ?_
      refine r_for (443) (fun _ => True) (fun i => gM 4 4 M0 (cpP (P) A (443 * k) i) (nI k)) (fun i => [some (rv 0 0), some (iv (nI i))]) trivial (by rw [cpP_0]) rfl ?_ ?_
      · intro i hi hI kk
        refine r_iload_n E (dat dkX10_remember 29 rfl) rfl rfl ?_
        refine r_sipush (v := 443) E (dat dkX10_remember 30 rfl) rfl ?_
        refine q_icmp_ge (tgt := 88) E (dat dkX10_remember 31 rfl) rfl rfl (b := 443) rfl (by omega) (by omega) (fun h58 => ?_) (fun h58 => ?_)
        ·
          omega
        ·
          refine r_aload_n E (dat dkX10_remember 32 rfl) rfl rfl ?_
          refine q_geta E fl_X10_19 (dat dkX10_remember 33 rfl) rfl rfl rfl ?_
          refine r_sipush (v := 443) E (dat dkX10_remember 34 rfl) rfl ?_
          refine r_aload_n E (dat dkX10_remember 35 rfl) rfl rfl ?_
          refine q_getn E fl_X10_70 (dat dkX10_remember 36 rfl) rfl rfl rfl rfl ?_
          refine r_imul E (dat dkX10_remember 37 rfl) ?_
          refine r_iload_n E (dat dkX10_remember 38 rfl) rfl rfl ?_
          refine r_iadd E (dat dkX10_remember 39 rfl) ?_
          refine r_aload_n E (dat dkX10_remember 40 rfl) rfl rfl ?_
          refine q_geta E fl_X10_9 (dat dkX10_remember 41 rfl) rfl rfl rfl ?_
          refine r_iload_n E (dat dkX10_remember 42 rfl) rfl rfl ?_
          refine q_iald E (dat dkX10_remember 43 rfl) rfl rfl (by decide) (show gM 4 4 M0 _ _ 0 1 = A from hA0) rfl (by omega) ?_
          refine q_iast E (dat dkX10_remember 44 rfl) rfl rfl (by decide) (show gM 4 4 _ _ _ 0 4 = _ from rfl) (fun _ => gM_s (by decide)) (show nI 443 * nI k + nI i = nI (443 * k + i) by rw [pk_mul, nI_add]) (by omega) ?_
          refine q_iinc_1 E (dat dkX10_remember 45 rfl) rfl rfl ?_
          refine r_goto (tgt := 54) E (dat dkX10_remember 46 rfl) rfl ?_
          rw [← cpP_s] at kk
          exact kk trivial
      · intro hI
        refine r_iload_n E (dat dkX10_remember 29 rfl) rfl rfl ?_
        refine r_sipush (v := 443) E (dat dkX10_remember 30 rfl) rfl ?_
        refine q_icmp_ge (tgt := 88) E (dat dkX10_remember 31 rfl) rfl rfl (b := 443) rfl (by omega) (by omega) (fun h58 => ?_) (fun h58 => ?_)
        ·
          refine r_aload_n E (dat dkX10_remember 47 rfl) rfl rfl ?_
          refine r_dup E (dat dkX10_remember 48 rfl) rfl ?_
          refine q_getn E fl_X10_70 (dat dkX10_remember 49 rfl) rfl rfl rfl rfl ?_
          refine r_iconst (v := 1) E (dat dkX10_remember 50 rfl) rfl ?_
          refine r_iadd E (dat dkX10_remember 51 rfl) ?_
          rw [show (gM 4 4 M0 (cpP (P) A (443 * k) 443) (nI k) 0 0 4 + 1 : Int32) = nI (k + 1) from nI_1 k]
          refine q_putn E ft_X10_70 (dat dkX10_remember 52 rfl) rfl rfl rfl rfl ?_
          refine r_vreturn E (dat dkX10_remember 53 rfl) (by decide) (by decide) ?_
          refine ⟨rfl, ?_⟩
          rw [gM_p]
          unfold rmM rmS rmK
          rw [if_neg hk9, if_neg hk9, gM_gM (by decide)]
        ·
          omega
    ·
      omega

set_option maxRecDepth 100000 in
set_option maxHeartbeats 4000000 in
theorem sp_X10_isDirection (l : Launch) (G : GT) (A0 : Nat → Int32) (x : PP) (T : Nat → Nat → Int32) (a : Int32) (M : Mem) (hA : M 0 1 = enc A0 x T) (hx : PIv x)  : MC l G yX10_isDirection cX10_isDirection 2 (some .boolean) ({ frames := 1, cells := 0, slots := 0, locals := 25 } : Room) [9] lk0 [rv 0 0, iv a] (M) (fun r M2 => r = some (iv (iwI a.toInt64 0 (3 : Int32).toInt64)) ∧ M2 = M) := by
  refine MC.of RX10 [some (rv 0 0), some (iv a)] 0 (by decide +kernel) rfl rfl rfl ?_
  intro pp ee ss mm aa bb me cd ad E
  obtain ⟨M0, rfl⟩ : ∃ M0, M = md M0 (enc A0 x T) := ⟨M, (md_of hA).symm⟩
  clear hA
  have hn64 := (PIv_z hx).1
  
  refine r_iload_n E (dat dkX10_isDirection 0 rfl) rfl rfl ?_
  refine r_i2l E (dat dkX10_isDirection 1 rfl) ?_
  refine r_lconst E (dat dkX10_isDirection 2 rfl) rfl ?_
  refine r_ldc2 E cl_342 (dat dkX10_isDirection 3 rfl) ?_
  refine r_callS (μ := []) E (sp_X10_isWithin l G a.toInt64 0 (3 : Int32).toInt64 _) my_X10_isWithin is_X10_isWithin ml_X10_80 cm_nil rfl rfl (by decide) (Nat.le_of_ble_eq_true rfl) (dat dkX10_isDirection 4 rfl) ?_
  rintro _ _ ⟨rfl, hM⟩
  refine ⟨_, Mrg_z hM, ?_⟩
  clear hM
  refine r_zreturn E (dat dkX10_isDirection 5 rfl) iw_b (by decide) (by decide) ?_
  exact ⟨rfl, rfl⟩
