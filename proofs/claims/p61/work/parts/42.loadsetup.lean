section RPD
variable {p : Program} {l : Launch} {e : Env} {R : Room} {s : State} {m : MethodId} {args : Array Value} {below : List Frame} {meth : Method} {c : Code} {G : GT} {Y : LV} {nL : Nat} {Q : State → Prop} {M : Mem} {k n pc : Nat} {L : List (Option AV)} {S : List AV} {cc : ByteArray} {own : String} {ret : Option FieldType}

theorem q_putd (E : EN p s m args meth c G Y cc own nL ret) {idx κ f j v : Nat} {ty : FieldType} {M2 : Mem} (hF : FLt own idx κ f ty) (hd : decode cc pc = .ok (.putfield idx, 3)) (hκ : kdY Y j = κ) (hj : okb Y j 0 = true) (h0 : fk κ f = 3) (hv : v < 2 ^ 31) (hn : narrow ty (cv Y (rv v 0)) = cv Y (rv v 0)) (hf : fits ty (cv Y (rv v 0)) = true) (hs : setm M j (sett (M j) 0 (upd (M j 0) f (nI v))) = M2) (kk : WM p l e R s m args below meth c G Y nL Q M2 k n (pc + 3) L S) : WM p l e R s m args below meth c G Y nL Q M k n pc L (rv v 0 :: rv j 0 :: S) := r_putf (x := nI v) E hF hd hκ hj (a := rv v 0) (by unfold fv; rw [hκ, h0, sett_s]; simp [upd, nI_clamp hv]) hn hf (by rw [hs]; exact kk)
end RPD
/-- the city with another plan in one of its two fields -/
def pdM (M : Mem) (f v : Nat) : Mem := setm M 0 (sett (M 0) 0 (upd (M 0 0) f (nI v)))
/-- a setup as read -/
def lsR (M : Mem) (s : Nat) (bs : Nat → Int32) (n : Nat) (t : TT) : (Int32 × TT) × PP := rFr bs n t ((0, M s 5, M s 7, M s 6, rw4 (M s 8) (M s 9) (M s 10) (M s 11)) : BB) (M s 1)
def lsP (M : Mem) (s : Nat) (bs : Nat → Int32) (n : Nat) (t : TT) : Nat → Nat → Int32 := vPx (M s) (rFb (lsR M s bs n t) (M s 3)) (M s 4) (lsR M s bs n t).2
def lsM (M : Mem) (s : Nat) (B0 : Nat → Nat → Int32) (bs : Nat → Int32) (n : Nat) (t : TT) : Mem := setm (setm M s (lsP M s bs n t)) 1 (vTx B0 0 bs (lsR M s bs n t).1.2)
/-- .. and put into use -/
def lsN (M : Mem) (s q : Nat) (B0 : Nat → Nat → Int32) (bs : Nat → Int32) (n : Nat) (t : TT) : Mem := isM (setm (setm (pdM (pdM (lsM M s B0 bs n t) 9 s) 10 q) 3 (stT (lsR M s bs n t).2 (M 3))) 6 (vH (M 6) (M 6 0 1) 0 (M 6 1))) 0
set_option maxRecDepth 100000 in
set_option maxHeartbeats 4000000 in
theorem sp_X9_loadSetup (l : Launch) (G : GT) (BP : Nat → Nat → Int32) (be nm : Nat → Int32) (x : PP) (q : Nat)  (M : Mem) (hpn : (M 0 0 9).toNatClampNeg = q) (hq : q = 17 ∨ q = 18) (hP : M q = vPx BP be nm x) (hx : PIv x) (hsn : (M 0 0 10).toNatClampNeg = 35 - q) (B0 : Nat → Nat → Int32) (n : Nat) (bs : Nat → Int32) (t : TT) (hT : M 1 = vTx B0 n bs t) (hn : n ≤ 600) (hby : ∀ i, i < n → fits .byte (.int (bs i)) = true) : MC l G yX9_loadSetup cX9_loadSetup 3 (some .int) ({ frames := 7, cells := 0, slots := 0, locals := 150 } : Room) KC lkC [rv 0 0] (M) (fun r M2 => ((lsR M (35 - q) bs n t).1.1 = 0 ∧ M2 = lsM M (35 - q) B0 bs n t ∧ r = some (iv (-1))) ∨ (¬ (lsR M (35 - q) bs n t).1.1 = 0 ∧ M2 = lsN M (35 - q) q B0 bs n t ∧ r = some (iv (nI (lsR M (35 - q) bs n t).2.1.2.2)))) := by
  refine MC.of RX9 [some (rv 0 0), none, none] 2 (by decide +kernel) rfl rfl rfl ?_
  intro pp ee ss mm aa bb me cd ad E
  rcases hq with rfl | rfl
  ·
    have h_ro : M 17 0 7 = nI x.1.1 := by rw [hP]; rfl
    have h_co : M 17 0 8 = nI x.1.2.1 := by rw [hP]; rfl
    have h_ce : M 17 0 9 = nI x.1.2.2 := by rw [hP]; rfl
    have h_bc : M 17 0 10 = nI x.2.2.2.2.1 := by rw [hP]; rfl
    have h_fr : M 17 0 11 = x.2.2.2.1 := by rw [hP]; rfl
    have h_he : M 17 1 = x.2.1 := by rw [hP]; rfl
    have h_gu : M 17 2 = x.2.2.1 := by rw [hP]; rfl
    have h_be : M 17 3 = be := by rw [hP]; rfl
    have h_nl : M 17 5 = x.2.2.2.2.2.1 := by rw [hP]; rfl
    have h_bh : M 17 6 = x.2.2.2.2.2.2.2.1 := by rw [hP]; rfl
    have h_fp : M 17 7 = x.2.2.2.2.2.2.1 := by rw [hP]; rfl
    have h_n0 : M 17 8 = x.2.2.2.2.2.2.2.2 0 := by rw [hP]; rfl
    have h_n1 : M 17 9 = x.2.2.2.2.2.2.2.2 1 := by rw [hP]; rfl
    have h_n2 : M 17 10 = x.2.2.2.2.2.2.2.2 2 := by rw [hP]; rfl
    have h_n3 : M 17 11 = x.2.2.2.2.2.2.2.2 3 := by rw [hP]; rfl
    have hn64 := (PIv_z hx).1
    
    refine r_aload_n E (dat dkX9_loadSetup 0 rfl) rfl rfl ?_
    refine q_getd E fl_X9_68 (dat dkX9_loadSetup 1 rfl) rfl rfl rfl hsn ?_
    refine r_aload_n E (dat dkX9_loadSetup 2 rfl) rfl rfl ?_
    refine q_getl E fl_X9_10 (dat dkX9_loadSetup 3 rfl) rfl rfl rfl ?_
    refine r_callV (κ := 2) (μ := [18, 1]) E (sp_X2_readFrom l G (M 18) (M 18 0 7) (M 18 0 8) (M 18 0 9) (M 18 0 10) (M 18 0 11) (M 18 1) (M 18 2) (M 18 3) (M 18 4) (M 18 5) (M 18 6) (M 18 7) (M 18 8) (M 18 9) (M 18 10) (M 18 11) B0 n bs t.1 t.2.1 t.2.2.1 t.2.2.2.1 t.2.2.2.2.1 t.2.2.2.2.2 _ (evP (M 18)).symm hT hn hby) my_X2_readFrom iv_X2_readFrom ml_X9_85 (cm_of rfl) ⟨by decide, rfl, rfl⟩ rfl rfl rfl rfl (by decide) (Nat.le_of_ble_eq_true rfl) (dat dkX9_loadSetup 4 rfl) ?_
    rintro _ _ ⟨rfl, rfl⟩
    refine ⟨_, (show Mrg _ _ M _ (setm (setm M 18 (lsP M 18 bs n t)) 1 (vTx B0 n bs (lsR M 18 bs n t).1.2)) from Mrg_ee (i := 0) (j := 1) (by decide) (by decide) (by decide) rfl rfl), ?_⟩
    refine r_istore_1 E (dat dkX9_loadSetup 5 rfl) rfl rfl ?_
    refine r_aload_n E (dat dkX9_loadSetup 6 rfl) rfl rfl ?_
    refine q_getl E fl_X9_10 (dat dkX9_loadSetup 7 rfl) rfl rfl rfl ?_
    refine r_callV (κ := 3) (μ := [1]) E (sp_X6_clear l G B0 n (nI (lsR M 18 bs n t).1.2.1) (lsR M 18 bs n t).1.2.2.1 (lsR M 18 bs n t).1.2.2.2.1 (lsR M 18 bs n t).1.2.2.2.2.1 (lsR M 18 bs n t).1.2.2.2.2.2.1 (lsR M 18 bs n t).1.2.2.2.2.2.2 bs _ rfl) my_X6_clear iv_X6_clear ml_X9_89 (cm_of rfl) ⟨by decide, rfl, rfl⟩ rfl rfl rfl rfl (by decide) (Nat.le_of_ble_eq_true rfl) (dat dkX9_loadSetup 8 rfl) ?_
    rintro _ _ ⟨rfl, rfl⟩
    refine ⟨_, (show Mrg _ _ (setm (setm M 18 (lsP M 18 bs n t)) 1 (vTx B0 n bs (lsR M 18 bs n t).1.2)) _ (lsM M 18 B0 bs n t) from Mrg_e (i := 0) (by decide) (by decide) setm_setm rfl), ?_⟩
    refine r_iload_n E (dat dkX9_loadSetup 9 rfl) rfl rfl ?_
    refine r_if_ne (tgt := 25) E (dat dkX9_loadSetup 10 rfl) rfl (fun h20 => ?_) (fun h20 => ?_)
    ·
      refine r_aload_n E (dat dkX9_loadSetup 13 rfl) rfl rfl ?_
      refine q_getd E fl_X9_64 (dat dkX9_loadSetup 14 rfl) rfl rfl rfl hpn ?_
      refine r_astore_2 E (dat dkX9_loadSetup 15 rfl) rfl rfl ?_
      refine r_aload_n E (dat dkX9_loadSetup 16 rfl) rfl rfl ?_
      refine r_aload_n E (dat dkX9_loadSetup 17 rfl) rfl rfl ?_
      refine q_getd E fl_X9_68 (dat dkX9_loadSetup 18 rfl) rfl rfl rfl hsn ?_
      refine q_putd E ft_X9_64 (dat dkX9_loadSetup 19 rfl) rfl rfl rfl (by decide) rfl rfl rfl ?_
      refine r_aload_n E (dat dkX9_loadSetup 20 rfl) rfl rfl ?_
      refine r_aload_n E (dat dkX9_loadSetup 21 rfl) rfl rfl ?_
      refine q_putd E ft_X9_68 (dat dkX9_loadSetup 22 rfl) rfl rfl rfl (by decide) rfl rfl rfl ?_
      
      refine r_aload_n E (dat dkX9_loadSetup 23 rfl) rfl rfl ?_
      refine q_getl E fl_X9_26 (dat dkX9_loadSetup 24 rfl) rfl rfl rfl ?_
      refine r_aload_n E (dat dkX9_loadSetup 25 rfl) rfl rfl ?_
      refine q_getd E fl_X9_64 (dat dkX9_loadSetup 26 rfl) rfl rfl rfl rfl ?_
      refine r_callV (κ := 1) (μ := [3, 18]) E (tp_X5_startOver l G (M 3) (M 18) (rFb (lsR M 18 bs n t) (M 18 3)) (M 18 4) (lsR M 18 bs n t).2 _ rfl rfl) my_X5_startOver iv_X5_startOver ml_X9_92 (cm_of rfl) ⟨by decide, rfl, rfl⟩ rfl rfl rfl rfl (by decide) (Nat.le_of_ble_eq_true rfl) (dat dkX9_loadSetup 27 rfl) ?_
      rintro _ _ ⟨rfl, rfl⟩
      refine ⟨_, (show Mrg _ _ (pdM (pdM (lsM M 18 B0 bs n t) 9 18) 10 17) _ (setm (pdM (pdM (lsM M 18 B0 bs n t) 9 18) 10 17) 3 (stT (lsR M 18 bs n t).2 (M 3))) from Mrg_e (i := 0) (by decide) (by decide) rfl rfl), ?_⟩
      refine r_aload_n E (dat dkX9_loadSetup 28 rfl) rfl rfl ?_
      refine q_getl E fl_X9_39 (dat dkX9_loadSetup 29 rfl) rfl rfl rfl ?_
      refine r_callV (κ := 7) (μ := [6, 3, 7, 8, 9, 10, 11, 12, 13, 14]) E (sp_X1_forgetAll l G (M 6) (M 6 0 1) (M 6 0 2) (M 6 1) _ (evH (M 6)).symm) my_X1_forgetAll iv_X1_forgetAll ml_X9_103 (cm_of rfl) ⟨by decide, rfl, rfl⟩ rfl rfl rfl rfl (by decide) (Nat.le_of_ble_eq_true rfl) (dat dkX9_loadSetup 30 rfl) ?_
      rintro _ _ ⟨rfl, rfl⟩
      refine ⟨_, (show Mrg _ _ (setm (pdM (pdM (lsM M 18 B0 bs n t) 9 18) 10 17) 3 (stT (lsR M 18 bs n t).2 (M 3))) _ (setm (setm (pdM (pdM (lsM M 18 B0 bs n t) 9 18) 10 17) 3 (stT (lsR M 18 bs n t).2 (M 3))) 6 (vH (M 6) (M 6 0 1) 0 (M 6 1))) from Mrg_e (i := 0) (by decide) (by decide) rfl rfl), ?_⟩
      refine r_aload_n E (dat dkX9_loadSetup 31 rfl) rfl rfl ?_
      refine r_iconst (v := 0) E (dat dkX9_loadSetup 32 rfl) rfl ?_
      refine q_putz E ft_X9_71 (dat dkX9_loadSetup 33 rfl) rfl rfl rfl rfl rfl rfl ?_
      refine r_aload_n E (dat dkX9_loadSetup 34 rfl) rfl rfl ?_
      refine q_getd E fl_X9_64 (dat dkX9_loadSetup 35 rfl) rfl rfl rfl rfl ?_
      refine q_getn E fl_X9_106 (dat dkX9_loadSetup 36 rfl) rfl rfl rfl rfl ?_
      refine r_ireturn E (dat dkX9_loadSetup 37 rfl) (by decide) (by decide) ?_
      exact Or.inr ⟨by first | exact h20 | assumption, rfl, rfl⟩
    ·
      refine r_iconst (v := -1) E (dat dkX9_loadSetup 11 rfl) rfl ?_
      refine r_ireturn E (dat dkX9_loadSetup 12 rfl) (by decide) (by decide) ?_
      exact Or.inl ⟨by first | exact h20 | exact Decidable.not_not.mp h20, rfl, rfl⟩
  ·
    have h_ro : M 18 0 7 = nI x.1.1 := by rw [hP]; rfl
    have h_co : M 18 0 8 = nI x.1.2.1 := by rw [hP]; rfl
    have h_ce : M 18 0 9 = nI x.1.2.2 := by rw [hP]; rfl
    have h_bc : M 18 0 10 = nI x.2.2.2.2.1 := by rw [hP]; rfl
    have h_fr : M 18 0 11 = x.2.2.2.1 := by rw [hP]; rfl
    have h_he : M 18 1 = x.2.1 := by rw [hP]; rfl
    have h_gu : M 18 2 = x.2.2.1 := by rw [hP]; rfl
    have h_be : M 18 3 = be := by rw [hP]; rfl
    have h_nl : M 18 5 = x.2.2.2.2.2.1 := by rw [hP]; rfl
    have h_bh : M 18 6 = x.2.2.2.2.2.2.2.1 := by rw [hP]; rfl
    have h_fp : M 18 7 = x.2.2.2.2.2.2.1 := by rw [hP]; rfl
    have h_n0 : M 18 8 = x.2.2.2.2.2.2.2.2 0 := by rw [hP]; rfl
    have h_n1 : M 18 9 = x.2.2.2.2.2.2.2.2 1 := by rw [hP]; rfl
    have h_n2 : M 18 10 = x.2.2.2.2.2.2.2.2 2 := by rw [hP]; rfl
    have h_n3 : M 18 11 = x.2.2.2.2.2.2.2.2 3 := by rw [hP]; rfl
    have hn64 := (PIv_z hx).1
    
    refine r_aload_n E (dat dkX9_loadSetup 0 rfl) rfl rfl ?_
    refine q_getd E fl_X9_68 (dat dkX9_loadSetup 1 rfl) rfl rfl rfl hsn ?_
    refine r_aload_n E (dat dkX9_loadSetup 2 rfl) rfl rfl ?_
    refine q_getl E fl_X9_10 (dat dkX9_loadSetup 3 rfl) rfl rfl rfl ?_
    refine r_callV (κ := 2) (μ := [17, 1]) E (sp_X2_readFrom l G (M 17) (M 17 0 7) (M 17 0 8) (M 17 0 9) (M 17 0 10) (M 17 0 11) (M 17 1) (M 17 2) (M 17 3) (M 17 4) (M 17 5) (M 17 6) (M 17 7) (M 17 8) (M 17 9) (M 17 10) (M 17 11) B0 n bs t.1 t.2.1 t.2.2.1 t.2.2.2.1 t.2.2.2.2.1 t.2.2.2.2.2 _ (evP (M 17)).symm hT hn hby) my_X2_readFrom iv_X2_readFrom ml_X9_85 (cm_of rfl) ⟨by decide, rfl, rfl⟩ rfl rfl rfl rfl (by decide) (Nat.le_of_ble_eq_true rfl) (dat dkX9_loadSetup 4 rfl) ?_
    rintro _ _ ⟨rfl, rfl⟩
    refine ⟨_, (show Mrg _ _ M _ (setm (setm M 17 (lsP M 17 bs n t)) 1 (vTx B0 n bs (lsR M 17 bs n t).1.2)) from Mrg_ee (i := 0) (j := 1) (by decide) (by decide) (by decide) rfl rfl), ?_⟩
    refine r_istore_1 E (dat dkX9_loadSetup 5 rfl) rfl rfl ?_
    refine r_aload_n E (dat dkX9_loadSetup 6 rfl) rfl rfl ?_
    refine q_getl E fl_X9_10 (dat dkX9_loadSetup 7 rfl) rfl rfl rfl ?_
    refine r_callV (κ := 3) (μ := [1]) E (sp_X6_clear l G B0 n (nI (lsR M 17 bs n t).1.2.1) (lsR M 17 bs n t).1.2.2.1 (lsR M 17 bs n t).1.2.2.2.1 (lsR M 17 bs n t).1.2.2.2.2.1 (lsR M 17 bs n t).1.2.2.2.2.2.1 (lsR M 17 bs n t).1.2.2.2.2.2.2 bs _ rfl) my_X6_clear iv_X6_clear ml_X9_89 (cm_of rfl) ⟨by decide, rfl, rfl⟩ rfl rfl rfl rfl (by decide) (Nat.le_of_ble_eq_true rfl) (dat dkX9_loadSetup 8 rfl) ?_
    rintro _ _ ⟨rfl, rfl⟩
    refine ⟨_, (show Mrg _ _ (setm (setm M 17 (lsP M 17 bs n t)) 1 (vTx B0 n bs (lsR M 17 bs n t).1.2)) _ (lsM M 17 B0 bs n t) from Mrg_e (i := 0) (by decide) (by decide) setm_setm rfl), ?_⟩
    refine r_iload_n E (dat dkX9_loadSetup 9 rfl) rfl rfl ?_
    refine r_if_ne (tgt := 25) E (dat dkX9_loadSetup 10 rfl) rfl (fun h20 => ?_) (fun h20 => ?_)
    ·
      refine r_aload_n E (dat dkX9_loadSetup 13 rfl) rfl rfl ?_
      refine q_getd E fl_X9_64 (dat dkX9_loadSetup 14 rfl) rfl rfl rfl hpn ?_
      refine r_astore_2 E (dat dkX9_loadSetup 15 rfl) rfl rfl ?_
      refine r_aload_n E (dat dkX9_loadSetup 16 rfl) rfl rfl ?_
      refine r_aload_n E (dat dkX9_loadSetup 17 rfl) rfl rfl ?_
      refine q_getd E fl_X9_68 (dat dkX9_loadSetup 18 rfl) rfl rfl rfl hsn ?_
      refine q_putd E ft_X9_64 (dat dkX9_loadSetup 19 rfl) rfl rfl rfl (by decide) rfl rfl rfl ?_
      refine r_aload_n E (dat dkX9_loadSetup 20 rfl) rfl rfl ?_
      refine r_aload_n E (dat dkX9_loadSetup 21 rfl) rfl rfl ?_
      refine q_putd E ft_X9_68 (dat dkX9_loadSetup 22 rfl) rfl rfl rfl (by decide) rfl rfl rfl ?_
      
      refine r_aload_n E (dat dkX9_loadSetup 23 rfl) rfl rfl ?_
      refine q_getl E fl_X9_26 (dat dkX9_loadSetup 24 rfl) rfl rfl rfl ?_
      refine r_aload_n E (dat dkX9_loadSetup 25 rfl) rfl rfl ?_
      refine q_getd E fl_X9_64 (dat dkX9_loadSetup 26 rfl) rfl rfl rfl rfl ?_
      refine r_callV (κ := 1) (μ := [3, 17]) E (tp_X5_startOver l G (M 3) (M 17) (rFb (lsR M 17 bs n t) (M 17 3)) (M 17 4) (lsR M 17 bs n t).2 _ rfl rfl) my_X5_startOver iv_X5_startOver ml_X9_92 (cm_of rfl) ⟨by decide, rfl, rfl⟩ rfl rfl rfl rfl (by decide) (Nat.le_of_ble_eq_true rfl) (dat dkX9_loadSetup 27 rfl) ?_
      rintro _ _ ⟨rfl, rfl⟩
      refine ⟨_, (show Mrg _ _ (pdM (pdM (lsM M 17 B0 bs n t) 9 17) 10 18) _ (setm (pdM (pdM (lsM M 17 B0 bs n t) 9 17) 10 18) 3 (stT (lsR M 17 bs n t).2 (M 3))) from Mrg_e (i := 0) (by decide) (by decide) rfl rfl), ?_⟩
      refine r_aload_n E (dat dkX9_loadSetup 28 rfl) rfl rfl ?_
      refine q_getl E fl_X9_39 (dat dkX9_loadSetup 29 rfl) rfl rfl rfl ?_
      refine r_callV (κ := 7) (μ := [6, 3, 7, 8, 9, 10, 11, 12, 13, 14]) E (sp_X1_forgetAll l G (M 6) (M 6 0 1) (M 6 0 2) (M 6 1) _ (evH (M 6)).symm) my_X1_forgetAll iv_X1_forgetAll ml_X9_103 (cm_of rfl) ⟨by decide, rfl, rfl⟩ rfl rfl rfl rfl (by decide) (Nat.le_of_ble_eq_true rfl) (dat dkX9_loadSetup 30 rfl) ?_
      rintro _ _ ⟨rfl, rfl⟩
      refine ⟨_, (show Mrg _ _ (setm (pdM (pdM (lsM M 17 B0 bs n t) 9 17) 10 18) 3 (stT (lsR M 17 bs n t).2 (M 3))) _ (setm (setm (pdM (pdM (lsM M 17 B0 bs n t) 9 17) 10 18) 3 (stT (lsR M 17 bs n t).2 (M 3))) 6 (vH (M 6) (M 6 0 1) 0 (M 6 1))) from Mrg_e (i := 0) (by decide) (by decide) rfl rfl), ?_⟩
      refine r_aload_n E (dat dkX9_loadSetup 31 rfl) rfl rfl ?_
      refine r_iconst (v := 0) E (dat dkX9_loadSetup 32 rfl) rfl ?_
      refine q_putz E ft_X9_71 (dat dkX9_loadSetup 33 rfl) rfl rfl rfl rfl rfl rfl ?_
      refine r_aload_n E (dat dkX9_loadSetup 34 rfl) rfl rfl ?_
      refine q_getd E fl_X9_64 (dat dkX9_loadSetup 35 rfl) rfl rfl rfl rfl ?_
      refine q_getn E fl_X9_106 (dat dkX9_loadSetup 36 rfl) rfl rfl rfl rfl ?_
      refine r_ireturn E (dat dkX9_loadSetup 37 rfl) (by decide) (by decide) ?_
      exact Or.inr ⟨by first | exact h20 | assumption, rfl, rfl⟩
    ·
      refine r_iconst (v := -1) E (dat dkX9_loadSetup 11 rfl) rfl ?_
      refine r_ireturn E (dat dkX9_loadSetup 12 rfl) (by decide) (by decide) ?_
      exact Or.inl ⟨by first | exact h20 | exact Decidable.not_not.mp h20, rfl, rfl⟩
