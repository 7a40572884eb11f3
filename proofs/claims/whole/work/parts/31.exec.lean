/-! a statement's execution -/
def stO {α : Type} (o : Option Nat) (A : α) (B : Nat → α) : α := match o with
  | none => A
  | some k => B k
theorem Mrg_if {N : Nat} {μ : List Nat} {M A B A2 B2 : Mem} {c : Prop} [Decidable c] (h1 : Mrg N μ M A A2) (h2 : Mrg N μ M B B2) : Mrg N μ M (if c then A else B) (if c then A2 else B2) := by
  by_cases hc : c
  · rw [if_pos hc, if_pos hc]; exact h1
  · rw [if_neg hc, if_neg hc]; exact h2
theorem Mrg_o {N : Nat} {μ : List Nat} {M A A2 : Mem} {B B2 : Nat → Mem} {o : Option Nat} (h1 : Mrg N μ M A A2) (h2 : ∀ k, Mrg N μ M (B k) (B2 k)) : Mrg N μ M (stO o A B) (stO o A2 B2) := by
  cases o with
  | none => exact h1
  | some k => exact h2 k
theorem if_b1 {c : Prop} [Decidable c] : narrow .boolean (.int (if c then 1 else 0)) = .int (if c then 1 else 0) := by
  split
  · exact bn_1
  · exact bn_0
theorem if_b0 {c : Prop} [Decidable c] : narrow .boolean (.int (if c then 0 else 1)) = .int (if c then 0 else 1) := by
  split
  · exact bn_0
  · exact bn_1
theorem stO_b {o : Option Nat} : narrow .boolean (.int (stO o 0 (fun _ => 1))) = .int (stO o 0 (fun _ => 1)) := by
  cases o
  · exact bn_0
  · exact bn_1
/-- statement k with its numbers a, b, c: done?, the state behind it -/
def exK (n bcn : Nat) (he gu bh : Nat → Int32) (nb : Nat → Nat → Option Nat) (k : Nat) (a b c : Int32) (T : Nat → Nat → Int32) : Int32 × (Nat → Nat → Int32) := match k with
  | 0 => (1, (vS T (T 0 7) (a) (T 0 9) (T 0 10) (T 0 11) (T 0 12) (T 0 13) (T 0 14) (T 1) (T 2) (T 3) (T 4) (T 5) (T 6) (T 7)))
  | 1 => if T 4 a.toNatClampNeg ≤ 0 then (1, (vS T (T 0 7) (T 0 8) (T 0 9) (T 0 10) (T 0 11) (T 0 12) (T 0 13) (T 0 14) (T 1) (T 2) (upd (T 3) a.toNatClampNeg b) (upd (T 4) a.toNatClampNeg c) (T 5) (T 6) (T 7))) else (0, T)
  | 2 => if T 4 a.toNatClampNeg ≤ 0 then (0, T) else (1, (vS T (T 0 7) (T 0 8) (T 0 9) (T 0 10) (T 0 11) (T 0 12) (T 0 13) (T 0 14) (T 1) (T 2) (upd (T 3) a.toNatClampNeg 0) (upd (T 4) a.toNatClampNeg 0) (T 5) (T 6) (T 7)))
  | 3 => (1, (vS T (T 0 7) (T 0 8) (T 0 9) (T 0 10) (T 0 11) (T 0 12) (T 0 13 + b) (T 0 14) (T 1) (upd (T 2) a.toNatClampNeg (T 2 a.toNatClampNeg + b)) (T 3) (T 4) (T 5) (T 6) (T 7)))
  | 4 => (1, (vS T (T 0 7) (T 0 8) (T 0 9) (T 0 10) (T 0 11) (T 0 12) (T 0 13) (T 0 14 + T 2 a.toNatClampNeg) (T 1) (upd (T 2) a.toNatClampNeg 0) (T 3) (T 4) (T 5) (T 6) (T 7)))
  | 5 => stO (nb (T 5 a.toNatClampNeg).toNatClampNeg b.toNatClampNeg) (0, T) (fun j => (1, (vS T (T 0 7) (T 0 8) (T 0 9) (T 0 10) (T 0 11) (T 0 12) (T 0 13) (T 0 14) (T 1) (T 2) (T 3) (T 4) (upd (T 5) a.toNatClampNeg (nI j)) (T 6) (if bh a.toNatClampNeg < T 1 j then upd (T 7) a.toNatClampNeg 1 else T 7))))
  | 6 => if T 1 (T 5 a.toNatClampNeg).toNatClampNeg ≤ 0 then (0, T) else (1, (vS T (T 0 7) (T 0 8) (T 0 9) (T 0 10) (T 0 11) (T 0 12) (T 0 13) (T 0 14) (upd (thW nb (T 5 a.toNatClampNeg).toNatClampNeg (T 1 (T 5 a.toNatClampNeg).toNatClampNeg / 5) (T 1) 4).1 (T 5 a.toNatClampNeg).toNatClampNeg ((thW nb (T 5 a.toNatClampNeg).toNatClampNeg (T 1 (T 5 a.toNatClampNeg).toNatClampNeg / 5) (T 1) 4).1 (T 5 a.toNatClampNeg).toNatClampNeg - (thW nb (T 5 a.toNatClampNeg).toNatClampNeg (T 1 (T 5 a.toNatClampNeg).toNatClampNeg / 5) (T 1) 4).2)) (T 2) (T 3) (T 4) (T 5) (upd (T 6) a.toNatClampNeg (T 6 a.toNatClampNeg + 1)) (T 7)))
  | _ => if 999 < T 0 7 + a then (0, T) else (1, mnN n bcn he gu bh nb T a.toNatClampNeg)
/-- the numbers of statement k are in their ranges -/
def vOK (n bcn k : Nat) (a b : Int32) : Prop := ((k = 1 ∨ k = 2 ∨ k = 3 ∨ k = 4) → ∃ q, q < n ∧ a = nI q) ∧ ((k = 5 ∨ k = 6) → ∃ q, q < bcn ∧ a = nI q) ∧ (k = 5 → ∃ d, d < 4 ∧ b = nI d) ∧ (k = 7 → ∃ t, t ≤ 60 ∧ a = nI t)
theorem sp_step2 (l : Launch) (G : GT) (B0 : Nat → Nat → Int32) (mi ra rd fh dr ev dp sw : Int32) (w lv hr ht pl sp wt : Nat → Int32) (B1 : Nat → Nat → Int32) (ro co : Int32) (n : Nat) (bc fr : Int32) (he gu be nm nl bh fp n0 n1 n2 n3 : Nat → Int32) (b q d : Nat) (o : Option Nat) (M : Mem) (h0 : M 0 = (vP B1 ro co (nI n) bc fr he gu be nm nl bh fp n0 n1 n2 n3)) (h1 : M 1 = (vS B0 mi ra rd fh dr ev dp sw w lv hr ht pl sp wt)) (hb : b < 4) (hq : pl b = nI q) (hqn : q < n) (hn : n ≤ 64) (hd : d < 4) (hbo : be (q * 4 + d) = oI o) (ho : ∀ k, o = some k → k < 64) : MC l G yX4_stepIfPossible cX4_stepIfPossible 5 (some .boolean) ({ frames := 3, cells := 0, slots := 0, locals := 67 } : Room) [2, 1] lk0 [rv 0 0, rv 1 0, iv (nI b), iv (nI d)] M (fun r M2 => r = some (iv (stO o 0 (fun _ => 1))) ∧ M2 = stO o M (fun k => setm M 1 (vS B0 mi ra rd fh dr ev dp sw w lv hr ht (upd pl b (nI k)) sp (if bh b < w k then upd wt b 1 else wt)))) :=
  MC.mono (sp_X4_stepIfPossible l G B0 mi ra rd fh dr ev dp sw w lv hr ht pl sp wt B1 ro co n bc fr he gu be nm nl bh fp n0 n1 n2 n3 b q d o M h0 h1 hb hq hqn hn hd hbo ho) (fun r M' h => by
    cases o with
    | none => exact h
    | some k => exact h)
theorem exK_0 {n bcn : Nat} {he gu bh : Nat → Int32} {nb : Nat → Nat → Option Nat} {a b c : Int32} {T : Nat → Nat → Int32}  : exK n bcn he gu bh nb 0 a b c T = (1, (vS T (T 0 7) (a) (T 0 9) (T 0 10) (T 0 11) (T 0 12) (T 0 13) (T 0 14) (T 1) (T 2) (T 3) (T 4) (T 5) (T 6) (T 7))) := by
  rfl
theorem exK_1 {n bcn q : Nat} {he gu bh : Nat → Int32} {nb : Nat → Nat → Option Nat} {a b c : Int32} {T : Nat → Nat → Int32} (h : a.toNatClampNeg = q) : exK n bcn he gu bh nb 1 a b c T = if T 4 q ≤ 0 then (1, (vS T (T 0 7) (T 0 8) (T 0 9) (T 0 10) (T 0 11) (T 0 12) (T 0 13) (T 0 14) (T 1) (T 2) (upd (T 3) q b) (upd (T 4) q c) (T 5) (T 6) (T 7))) else (0, T) := by
  subst h
  rfl
theorem exK_2 {n bcn q : Nat} {he gu bh : Nat → Int32} {nb : Nat → Nat → Option Nat} {a b c : Int32} {T : Nat → Nat → Int32} (h : a.toNatClampNeg = q) : exK n bcn he gu bh nb 2 a b c T = if T 4 q ≤ 0 then (0, T) else (1, (vS T (T 0 7) (T 0 8) (T 0 9) (T 0 10) (T 0 11) (T 0 12) (T 0 13) (T 0 14) (T 1) (T 2) (upd (T 3) q 0) (upd (T 4) q 0) (T 5) (T 6) (T 7))) := by
  subst h
  rfl
theorem exK_3 {n bcn q : Nat} {he gu bh : Nat → Int32} {nb : Nat → Nat → Option Nat} {a b c : Int32} {T : Nat → Nat → Int32} (h : a.toNatClampNeg = q) : exK n bcn he gu bh nb 3 a b c T = (1, (vS T (T 0 7) (T 0 8) (T 0 9) (T 0 10) (T 0 11) (T 0 12) (T 0 13 + b) (T 0 14) (T 1) (upd (T 2) q (T 2 q + b)) (T 3) (T 4) (T 5) (T 6) (T 7))) := by
  subst h
  rfl
theorem exK_4 {n bcn q : Nat} {he gu bh : Nat → Int32} {nb : Nat → Nat → Option Nat} {a b c : Int32} {T : Nat → Nat → Int32} (h : a.toNatClampNeg = q) : exK n bcn he gu bh nb 4 a b c T = (1, (vS T (T 0 7) (T 0 8) (T 0 9) (T 0 10) (T 0 11) (T 0 12) (T 0 13) (T 0 14 + T 2 q) (T 1) (upd (T 2) q 0) (T 3) (T 4) (T 5) (T 6) (T 7))) := by
  subst h
  rfl
theorem exK_5 {n bcn q c9 d9 : Nat} {he gu bh : Nat → Int32} {nb : Nat → Nat → Option Nat} {a b c : Int32} {T : Nat → Nat → Int32} (h : a.toNatClampNeg = q) (h2 : (T 5 q).toNatClampNeg = c9) (h3 : b.toNatClampNeg = d9) : exK n bcn he gu bh nb 5 a b c T = stO (nb c9 d9) (0, T) (fun j => (1, (vS T (T 0 7) (T 0 8) (T 0 9) (T 0 10) (T 0 11) (T 0 12) (T 0 13) (T 0 14) (T 1) (T 2) (T 3) (T 4) (upd (T 5) q (nI j)) (T 6) (if bh q < T 1 j then upd (T 7) q 1 else T 7)))) := by
  subst h
  subst h2
  subst h3
  rfl
theorem exK_6 {n bcn q c9 : Nat} {he gu bh : Nat → Int32} {nb : Nat → Nat → Option Nat} {a b c : Int32} {T : Nat → Nat → Int32} (h : a.toNatClampNeg = q) (h2 : (T 5 q).toNatClampNeg = c9) : exK n bcn he gu bh nb 6 a b c T = if T 1 c9 ≤ 0 then (0, T) else (1, (vS T (T 0 7) (T 0 8) (T 0 9) (T 0 10) (T 0 11) (T 0 12) (T 0 13) (T 0 14) (upd (thW nb c9 (T 1 c9 / 5) (T 1) 4).1 c9 ((thW nb c9 (T 1 c9 / 5) (T 1) 4).1 c9 - (thW nb c9 (T 1 c9 / 5) (T 1) 4).2)) (T 2) (T 3) (T 4) (T 5) (upd (T 6) q (T 6 q + 1)) (T 7))) := by
  subst h
  subst h2
  rfl
theorem exK_7 {n bcn q : Nat} {he gu bh : Nat → Int32} {nb : Nat → Nat → Option Nat} {a b c : Int32} {T : Nat → Nat → Int32} (h : a.toNatClampNeg = q) : exK n bcn he gu bh nb 7 a b c T = if 999 < T 0 7 + a then (0, T) else (1, mnN n bcn he gu bh nb T q) := by
  subst h
  rfl
set_option maxRecDepth 100000 in
set_option maxHeartbeats 16000000 in
theorem sp_X4_execute (l : Launch) (G : GT) (B3 : Nat → Nat → Int32) (ct : Nat) (vb : Nat → Int32) (f : CF) (B1 : Nat → Nat → Int32) (ro co : Int32) (n bcn : Nat) (fr : Int32) (he gu be nm nl bh fp n0 n1 n2 n3 : Nat → Int32) (T : Nat → Nat → Int32) (i k : Nat) (nb : Nat → Nat → Option Nat) (hbe : ∀ c d, c < n → d < 4 → be (c * 4 + d) = oI (nb c d)) (hnb : ∀ c d k, nb c d = some k → k < n) (M : Mem) (hA0 : M 0 = vCx B3 ct vb f) (hA1 : M 1 = vP B1 ro co (nI n) (nI bcn) fr he gu be nm nl bh fp n0 n1 n2 n3) (hA2 : M 2 = vS T (T 0 7) (T 0 8) (T 0 9) (T 0 10) (T 0 11) (T 0 12) (T 0 13) (T 0 14) (T 1) (T 2) (T 3) (T 4) (T 5) (T 6) (T 7)) (hn : n ≤ 64) (hb4 : bcn ≤ 4) (hi : i < 30) (hk : k < 8) (hvb : vb i = nI k) (hv : vOK n bcn k (f.1 i) (f.2.1 i)) (hpl : ∀ b, b < bcn → ∃ q, q < n ∧ T 5 b = nI q) : MC l G yX4_execute cX4_execute 7 (some .boolean) ({ frames := 6, cells := 0, slots := 0, locals := 141 } : Room) [4, 2, 1] lk0 [rv 0 0, iv (nI i), rv 1 0, rv 2 0] (M) (fun r9 M2 => r9 = some (iv (exK n bcn he gu bh nb k (f.1 i) (f.2.1 i) (f.2.2 i) T).1) ∧ M2 = setm M 2 (exK n bcn he gu bh nb k (f.1 i) (f.2.1 i) (f.2.2 i) T).2) := by
  obtain ⟨M0, rfl⟩ : ∃ M0, M = m3 (vCx B3 ct vb f) (vP B1 ro co (nI n) (nI bcn) fr he gu be nm nl bh fp n0 n1 n2 n3) (vS T (T 0 7) (T 0 8) (T 0 9) (T 0 10) (T 0 11) (T 0 12) (T 0 13) (T 0 14) (T 1) (T 2) (T 3) (T 4) (T 5) (T 6) (T 7)) M0 := ⟨M, (m3_of hA0 hA1 hA2).symm⟩
  clear hA0 hA1 hA2
  refine MC.of RX4 [some (rv 0 0), some (iv (nI i)), some (rv 1 0), some (rv 2 0), none, none, none] 3 (by decide +kernel) rfl rfl rfl ?_
  intro pp ee ss mm aa bb me cd ad E
  rcases (show k = 0 ∨ k = 1 ∨ k = 2 ∨ k = 3 ∨ k = 4 ∨ k = 5 ∨ k = 6 ∨ k = 7 by omega) with rfl | rfl | rfl | rfl | rfl | rfl | rfl | rfl
  ·
    refine r_aload_n E (dat dkX4_execute 0 rfl) rfl rfl ?_
    refine q_geta E fl_X4_11 (dat dkX4_execute 1 rfl) rfl rfl rfl ?_
    refine r_iload_n E (dat dkX4_execute 2 rfl) rfl rfl ?_
    refine q_val6 (k1 := 0) E (dat dkX4_execute 3 rfl) rfl rfl (by decide) (gg3_0 gaC_1) rfl (by omega) hvb (by omega) ?_
    refine r_astore_4 E (dat dkX4_execute 4 rfl) rfl rfl ?_
    refine r_aload E (dat dkX4_execute 5 rfl) rfl ?_
    refine r_ifnonnull (tgt := 15) E (dat dkX4_execute 6 rfl) rfl ?_
    refine r_aload_n E (dat dkX4_execute 9 rfl) rfl rfl ?_
    refine q_geta E fl_X4_17 (dat dkX4_execute 10 rfl) rfl rfl rfl ?_
    refine r_iload_n E (dat dkX4_execute 11 rfl) rfl rfl ?_
    refine q_iald E (dat dkX4_execute 12 rfl) rfl rfl (by decide) (gg3_0 gaC_2) rfl (by omega) ?_
    refine r_istore_5 E (dat dkX4_execute 13 rfl) rfl rfl ?_
    refine r_aload_n E (dat dkX4_execute 14 rfl) rfl rfl ?_
    refine q_geta E fl_X4_21 (dat dkX4_execute 15 rfl) rfl rfl rfl ?_
    refine r_iload_n E (dat dkX4_execute 16 rfl) rfl rfl ?_
    refine q_iald E (dat dkX4_execute 17 rfl) rfl rfl (by decide) (gg3_0 gaC_3) rfl (by omega) ?_
    refine r_istore_6 E (dat dkX4_execute 18 rfl) rfl rfl ?_
    refine q_gswm E gs_X4_69 (dat dkX4_execute 19 rfl) ?_
    refine r_aload E (dat dkX4_execute 20 rfl) rfl ?_
    refine r_callN (C := "PuddleCity$Verb") (owner := "java/lang/Enum") (x := ⟨"PuddleCity$Verb", "ordinal", "()I"⟩) E (sp_ordinal l G 0 _ (by omega)) (KRC_e E (by omega)) ow_code ow_link ow_same (va_Decl.of (E.2.2.2.2.1 _ ow_inst) (E.2.2.2.2.1 _ ow_code)) ow_sel ow_inst (by decide +kernel) rfl rfl (by decide) (Nat.le_of_ble_eq_true rfl) (dat dkX4_execute 21 rfl) ?_
    rintro _ _ ⟨rfl, hM⟩
    refine ⟨hM, ?_⟩
    clear hM
    refine q_swld (i := 0) E (by omega) rfl (dat dkX4_execute 22 rfl) ?_
    refine r_tabIn (off := 48) (tgt := 88) E (dat dkX4_execute 23 rfl) (by decide +kernel) (by decide +kernel) (by rfl) rfl ?_
    refine r_aload_n E (dat dkX4_execute 24 rfl) rfl rfl ?_
    refine r_iload E (dat dkX4_execute 25 rfl) rfl ?_
    refine q_putn E ft_X4_111 (dat dkX4_execute 26 rfl) rfl rfl rfl (sf3_2 pfS_8) ?_
    refine r_iconst (v := 1) E (dat dkX4_execute 27 rfl) rfl ?_
    refine r_zreturn E (dat dkX4_execute 28 rfl) rfl (by decide) (by decide) ?_
    exact ⟨rfl, by rw [pm3_2]; rfl⟩
  ·
    obtain ⟨q, hqn, hqa⟩ := hv.1 (by decide)
    have hcl : (nI q).toNatClampNeg = q := nI_clamp (by omega)
    have hq64 : q < 64 := by omega
    refine r_aload_n E (dat dkX4_execute 0 rfl) rfl rfl ?_
    refine q_geta E fl_X4_11 (dat dkX4_execute 1 rfl) rfl rfl rfl ?_
    refine r_iload_n E (dat dkX4_execute 2 rfl) rfl rfl ?_
    refine q_val6 (k1 := 1) E (dat dkX4_execute 3 rfl) rfl rfl (by decide) (gg3_0 gaC_1) rfl (by omega) hvb (by omega) ?_
    refine r_astore_4 E (dat dkX4_execute 4 rfl) rfl rfl ?_
    refine r_aload E (dat dkX4_execute 5 rfl) rfl ?_
    refine r_ifnonnull (tgt := 15) E (dat dkX4_execute 6 rfl) rfl ?_
    refine r_aload_n E (dat dkX4_execute 9 rfl) rfl rfl ?_
    refine q_geta E fl_X4_17 (dat dkX4_execute 10 rfl) rfl rfl rfl ?_
    refine r_iload_n E (dat dkX4_execute 11 rfl) rfl rfl ?_
    refine q_iald E (dat dkX4_execute 12 rfl) rfl rfl (by decide) (gg3_0 gaC_2) rfl (by omega) ?_
    rw [hqa]
    refine r_istore_5 E (dat dkX4_execute 13 rfl) rfl rfl ?_
    refine r_aload_n E (dat dkX4_execute 14 rfl) rfl rfl ?_
    refine q_geta E fl_X4_21 (dat dkX4_execute 15 rfl) rfl rfl rfl ?_
    refine r_iload_n E (dat dkX4_execute 16 rfl) rfl rfl ?_
    refine q_iald E (dat dkX4_execute 17 rfl) rfl rfl (by decide) (gg3_0 gaC_3) rfl (by omega) ?_
    refine r_istore_6 E (dat dkX4_execute 18 rfl) rfl rfl ?_
    refine q_gswm E gs_X4_69 (dat dkX4_execute 19 rfl) ?_
    refine r_aload E (dat dkX4_execute 20 rfl) rfl ?_
    refine r_callN (C := "PuddleCity$Verb") (owner := "java/lang/Enum") (x := ⟨"PuddleCity$Verb", "ordinal", "()I"⟩) E (sp_ordinal l G 1 _ (by omega)) (KRC_e E (by omega)) ow_code ow_link ow_same (va_Decl.of (E.2.2.2.2.1 _ ow_inst) (E.2.2.2.2.1 _ ow_code)) ow_sel ow_inst (by decide +kernel) rfl rfl (by decide) (Nat.le_of_ble_eq_true rfl) (dat dkX4_execute 21 rfl) ?_
    rintro _ _ ⟨rfl, hM⟩
    refine ⟨hM, ?_⟩
    clear hM
    refine q_swld (i := 1) E (by omega) rfl (dat dkX4_execute 22 rfl) ?_
    refine r_tabIn (off := 56) (tgt := 96) E (dat dkX4_execute 23 rfl) (by decide +kernel) (by decide +kernel) (by rfl) rfl ?_
    refine r_aload_n E (dat dkX4_execute 29 rfl) rfl rfl ?_
    refine r_iload E (dat dkX4_execute 30 rfl) rfl ?_
    refine r_iload E (dat dkX4_execute 31 rfl) rfl ?_
    refine r_aload_n E (dat dkX4_execute 32 rfl) rfl rfl ?_
    refine q_geta E fl_X4_24 (dat dkX4_execute 33 rfl) rfl rfl rfl ?_
    refine r_iload_n E (dat dkX4_execute 34 rfl) rfl rfl ?_
    refine q_iald E (dat dkX4_execute 35 rfl) rfl rfl (by decide) (gg3_0 gaC_4) rfl (by omega) ?_
    refine r_callS (μ := [2]) E (sp_X4_burstIfShut l G T (T 0 7) (T 0 8) (T 0 9) (T 0 10) (T 0 11) (T 0 12) (T 0 13) (T 0 14) (T 1) (T 2) (T 3) (T 4) (T 5) (T 6) (T 7) q (f.2.1 i) (f.2.2 i) _ rfl hq64) my_X4_burstIfShut is_X4_burstIfShut ml_X4_116 (cm_of rfl) rfl rfl (by decide) (Nat.le_of_ble_eq_true rfl) (dat dkX4_execute 36 rfl) ?_
    rintro _ _ ⟨rfl, rfl⟩
    refine ⟨_, Mrg_if (Mrg_e (i := 0) (by decide) (by decide) pm3_2 rfl) (Mrg_z rfl), ?_⟩
    refine r_zreturn E (dat dkX4_execute 37 rfl) if_b1 (by decide) (by decide) ?_
    rw [exK_1 hcl]
    by_cases h : T 4 q ≤ 0
    · simp only [if_pos h]
      refine ⟨?_, by rw [pm3_2]⟩
      first
        | rfl
        | trivial
        | exact congrArg (fun q => some (iv q)) (show opI _ = 0 from if_pos h)
    · simp only [if_neg h]
      refine ⟨?_, by rw [pm3_2, evS T]⟩
      first
        | rfl
        | trivial
        | exact congrArg (fun q => some (iv q)) (show opI _ = 1 from if_neg h)
  ·
    obtain ⟨q, hqn, hqa⟩ := hv.1 (by decide)
    have hcl : (nI q).toNatClampNeg = q := nI_clamp (by omega)
    have hq64 : q < 64 := by omega
    refine r_aload_n E (dat dkX4_execute 0 rfl) rfl rfl ?_
    refine q_geta E fl_X4_11 (dat dkX4_execute 1 rfl) rfl rfl rfl ?_
    refine r_iload_n E (dat dkX4_execute 2 rfl) rfl rfl ?_
    refine q_val6 (k1 := 2) E (dat dkX4_execute 3 rfl) rfl rfl (by decide) (gg3_0 gaC_1) rfl (by omega) hvb (by omega) ?_
    refine r_astore_4 E (dat dkX4_execute 4 rfl) rfl rfl ?_
    refine r_aload E (dat dkX4_execute 5 rfl) rfl ?_
    refine r_ifnonnull (tgt := 15) E (dat dkX4_execute 6 rfl) rfl ?_
    refine r_aload_n E (dat dkX4_execute 9 rfl) rfl rfl ?_
    refine q_geta E fl_X4_17 (dat dkX4_execute 10 rfl) rfl rfl rfl ?_
    refine r_iload_n E (dat dkX4_execute 11 rfl) rfl rfl ?_
    refine q_iald E (dat dkX4_execute 12 rfl) rfl rfl (by decide) (gg3_0 gaC_2) rfl (by omega) ?_
    rw [hqa]
    refine r_istore_5 E (dat dkX4_execute 13 rfl) rfl rfl ?_
    refine r_aload_n E (dat dkX4_execute 14 rfl) rfl rfl ?_
    refine q_geta E fl_X4_21 (dat dkX4_execute 15 rfl) rfl rfl rfl ?_
    refine r_iload_n E (dat dkX4_execute 16 rfl) rfl rfl ?_
    refine q_iald E (dat dkX4_execute 17 rfl) rfl rfl (by decide) (gg3_0 gaC_3) rfl (by omega) ?_
    refine r_istore_6 E (dat dkX4_execute 18 rfl) rfl rfl ?_
    refine q_gswm E gs_X4_69 (dat dkX4_execute 19 rfl) ?_
    refine r_aload E (dat dkX4_execute 20 rfl) rfl ?_
    refine r_callN (C := "PuddleCity$Verb") (owner := "java/lang/Enum") (x := ⟨"PuddleCity$Verb", "ordinal", "()I"⟩) E (sp_ordinal l G 2 _ (by omega)) (KRC_e E (by omega)) ow_code ow_link ow_same (va_Decl.of (E.2.2.2.2.1 _ ow_inst) (E.2.2.2.2.1 _ ow_code)) ow_sel ow_inst (by decide +kernel) rfl rfl (by decide) (Nat.le_of_ble_eq_true rfl) (dat dkX4_execute 21 rfl) ?_
    rintro _ _ ⟨rfl, hM⟩
    refine ⟨hM, ?_⟩
    clear hM
    refine q_swld (i := 2) E (by omega) rfl (dat dkX4_execute 22 rfl) ?_
    refine r_tabIn (off := 71) (tgt := 111) E (dat dkX4_execute 23 rfl) (by decide +kernel) (by decide +kernel) (by rfl) rfl ?_
    refine r_aload_n E (dat dkX4_execute 38 rfl) rfl rfl ?_
    refine r_iload E (dat dkX4_execute 39 rfl) rfl ?_
    refine r_callS (μ := [2]) E (sp_X4_shutIfOpen l G T (T 0 7) (T 0 8) (T 0 9) (T 0 10) (T 0 11) (T 0 12) (T 0 13) (T 0 14) (T 1) (T 2) (T 3) (T 4) (T 5) (T 6) (T 7) q _ rfl hq64) my_X4_shutIfOpen is_X4_shutIfOpen ml_X4_120 (cm_of rfl) rfl rfl (by decide) (Nat.le_of_ble_eq_true rfl) (dat dkX4_execute 40 rfl) ?_
    rintro _ _ ⟨rfl, rfl⟩
    refine ⟨_, Mrg_if (Mrg_z rfl) (Mrg_e (i := 0) (by decide) (by decide) pm3_2 rfl), ?_⟩
    refine r_zreturn E (dat dkX4_execute 41 rfl) op_b (by decide) (by decide) ?_
    rw [exK_2 hcl]
    by_cases h : T 4 q ≤ 0
    · simp only [if_pos h]
      refine ⟨?_, by rw [pm3_2, evS T]⟩
      first
        | rfl
        | trivial
        | exact congrArg (fun q => some (iv q)) (show opI _ = 0 from if_pos h)
    · simp only [if_neg h]
      refine ⟨?_, by rw [pm3_2]⟩
      first
        | rfl
        | trivial
        | exact congrArg (fun q => some (iv q)) (show opI _ = 1 from if_neg h)
  ·
    obtain ⟨q, hqn, hqa⟩ := hv.1 (by decide)
    have hcl : (nI q).toNatClampNeg = q := nI_clamp (by omega)
    have hq64 : q < 64 := by omega
    refine r_aload_n E (dat dkX4_execute 0 rfl) rfl rfl ?_
    refine q_geta E fl_X4_11 (dat dkX4_execute 1 rfl) rfl rfl rfl ?_
    refine r_iload_n E (dat dkX4_execute 2 rfl) rfl rfl ?_
    refine q_val6 (k1 := 3) E (dat dkX4_execute 3 rfl) rfl rfl (by decide) (gg3_0 gaC_1) rfl (by omega) hvb (by omega) ?_
    refine r_astore_4 E (dat dkX4_execute 4 rfl) rfl rfl ?_
    refine r_aload E (dat dkX4_execute 5 rfl) rfl ?_
    refine r_ifnonnull (tgt := 15) E (dat dkX4_execute 6 rfl) rfl ?_
    refine r_aload_n E (dat dkX4_execute 9 rfl) rfl rfl ?_
    refine q_geta E fl_X4_17 (dat dkX4_execute 10 rfl) rfl rfl rfl ?_
    refine r_iload_n E (dat dkX4_execute 11 rfl) rfl rfl ?_
    refine q_iald E (dat dkX4_execute 12 rfl) rfl rfl (by decide) (gg3_0 gaC_2) rfl (by omega) ?_
    rw [hqa]
    refine r_istore_5 E (dat dkX4_execute 13 rfl) rfl rfl ?_
    refine r_aload_n E (dat dkX4_execute 14 rfl) rfl rfl ?_
    refine q_geta E fl_X4_21 (dat dkX4_execute 15 rfl) rfl rfl rfl ?_
    refine r_iload_n E (dat dkX4_execute 16 rfl) rfl rfl ?_
    refine q_iald E (dat dkX4_execute 17 rfl) rfl rfl (by decide) (gg3_0 gaC_3) rfl (by omega) ?_
    refine r_istore_6 E (dat dkX4_execute 18 rfl) rfl rfl ?_
    refine q_gswm E gs_X4_69 (dat dkX4_execute 19 rfl) ?_
    refine r_aload E (dat dkX4_execute 20 rfl) rfl ?_
    refine r_callN (C := "PuddleCity$Verb") (owner := "java/lang/Enum") (x := ⟨"PuddleCity$Verb", "ordinal", "()I"⟩) E (sp_ordinal l G 3 _ (by omega)) (KRC_e E (by omega)) ow_code ow_link ow_same (va_Decl.of (E.2.2.2.2.1 _ ow_inst) (E.2.2.2.2.1 _ ow_code)) ow_sel ow_inst (by decide +kernel) rfl rfl (by decide) (Nat.le_of_ble_eq_true rfl) (dat dkX4_execute 21 rfl) ?_
    rintro _ _ ⟨rfl, hM⟩
    refine ⟨hM, ?_⟩
    clear hM
    refine q_swld (i := 3) E (by omega) rfl (dat dkX4_execute 22 rfl) ?_
    refine r_tabIn (off := 78) (tgt := 118) E (dat dkX4_execute 23 rfl) (by decide +kernel) (by decide +kernel) (by rfl) rfl ?_
    refine r_aload_n E (dat dkX4_execute 42 rfl) rfl rfl ?_
    refine r_iload E (dat dkX4_execute 43 rfl) rfl ?_
    refine r_iload E (dat dkX4_execute 44 rfl) rfl ?_
    refine r_callV (κ := 1) (μ := [2]) E (sp_X5_addLeaves l G T (T 0 7) (T 0 8) (T 0 9) (T 0 10) (T 0 11) (T 0 12) (T 0 13) (T 0 14) (T 1) (T 2) (T 3) (T 4) (T 5) (T 6) (T 7) q (f.2.1 i) _ rfl hq64) my_X5_addLeaves iv_X5_addLeaves ml_X4_124 (cm_of rfl) ⟨by decide, rfl, rfl⟩ rfl rfl rfl rfl (by decide) (Nat.le_of_ble_eq_true rfl) (dat dkX4_execute 45 rfl) ?_
    rintro _ _ ⟨rfl, rfl⟩
    refine ⟨_, Mrg_e (i := 0) (by decide) (by decide) pm3_2 rfl, ?_⟩
    refine r_iconst (v := 1) E (dat dkX4_execute 46 rfl) rfl ?_
    refine r_zreturn E (dat dkX4_execute 47 rfl) rfl (by decide) (by decide) ?_
    rw [exK_3 hcl]
    exact ⟨rfl, by rw [pm3_2]⟩
  ·
    obtain ⟨q, hqn, hqa⟩ := hv.1 (by decide)
    have hcl : (nI q).toNatClampNeg = q := nI_clamp (by omega)
    have hq64 : q < 64 := by omega
    refine r_aload_n E (dat dkX4_execute 0 rfl) rfl rfl ?_
    refine q_geta E fl_X4_11 (dat dkX4_execute 1 rfl) rfl rfl rfl ?_
    refine r_iload_n E (dat dkX4_execute 2 rfl) rfl rfl ?_
    refine q_val6 (k1 := 4) E (dat dkX4_execute 3 rfl) rfl rfl (by decide) (gg3_0 gaC_1) rfl (by omega) hvb (by omega) ?_
    refine r_astore_4 E (dat dkX4_execute 4 rfl) rfl rfl ?_
    refine r_aload E (dat dkX4_execute 5 rfl) rfl ?_
    refine r_ifnonnull (tgt := 15) E (dat dkX4_execute 6 rfl) rfl ?_
    refine r_aload_n E (dat dkX4_execute 9 rfl) rfl rfl ?_
    refine q_geta E fl_X4_17 (dat dkX4_execute 10 rfl) rfl rfl rfl ?_
    refine r_iload_n E (dat dkX4_execute 11 rfl) rfl rfl ?_
    refine q_iald E (dat dkX4_execute 12 rfl) rfl rfl (by decide) (gg3_0 gaC_2) rfl (by omega) ?_
    rw [hqa]
    refine r_istore_5 E (dat dkX4_execute 13 rfl) rfl rfl ?_
    refine r_aload_n E (dat dkX4_execute 14 rfl) rfl rfl ?_
    refine q_geta E fl_X4_21 (dat dkX4_execute 15 rfl) rfl rfl rfl ?_
    refine r_iload_n E (dat dkX4_execute 16 rfl) rfl rfl ?_
    refine q_iald E (dat dkX4_execute 17 rfl) rfl rfl (by decide) (gg3_0 gaC_3) rfl (by omega) ?_
    refine r_istore_6 E (dat dkX4_execute 18 rfl) rfl rfl ?_
    refine q_gswm E gs_X4_69 (dat dkX4_execute 19 rfl) ?_
    refine r_aload E (dat dkX4_execute 20 rfl) rfl ?_
    refine r_callN (C := "PuddleCity$Verb") (owner := "java/lang/Enum") (x := ⟨"PuddleCity$Verb", "ordinal", "()I"⟩) E (sp_ordinal l G 4 _ (by omega)) (KRC_e E (by omega)) ow_code ow_link ow_same (va_Decl.of (E.2.2.2.2.1 _ ow_inst) (E.2.2.2.2.1 _ ow_code)) ow_sel ow_inst (by decide +kernel) rfl rfl (by decide) (Nat.le_of_ble_eq_true rfl) (dat dkX4_execute 21 rfl) ?_
    rintro _ _ ⟨rfl, hM⟩
    refine ⟨hM, ?_⟩
    clear hM
    refine q_swld (i := 4) E (by omega) rfl (dat dkX4_execute 22 rfl) ?_
    refine r_tabIn (off := 88) (tgt := 128) E (dat dkX4_execute 23 rfl) (by decide +kernel) (by decide +kernel) (by rfl) rfl ?_
    refine r_aload_n E (dat dkX4_execute 48 rfl) rfl rfl ?_
    refine r_iload E (dat dkX4_execute 49 rfl) rfl ?_
    refine r_callV (κ := 1) (μ := [2]) E (sp_X5_takeLeaves l G T (T 0 7) (T 0 8) (T 0 9) (T 0 10) (T 0 11) (T 0 12) (T 0 13) (T 0 14) (T 1) (T 2) (T 3) (T 4) (T 5) (T 6) (T 7) q _ rfl hq64) my_X5_takeLeaves iv_X5_takeLeaves ml_X4_128 (cm_of rfl) ⟨by decide, rfl, rfl⟩ rfl rfl rfl rfl (by decide) (Nat.le_of_ble_eq_true rfl) (dat dkX4_execute 50 rfl) ?_
    rintro _ _ ⟨rfl, rfl⟩
    refine ⟨_, Mrg_e (i := 0) (by decide) (by decide) pm3_2 rfl, ?_⟩
    refine r_pop E (dat dkX4_execute 51 rfl) rfl ?_
    refine r_iconst (v := 1) E (dat dkX4_execute 52 rfl) rfl ?_
    refine r_zreturn E (dat dkX4_execute 53 rfl) rfl (by decide) (by decide) ?_
    rw [exK_4 hcl]
    exact ⟨rfl, by rw [pm3_2]⟩
  ·
    obtain ⟨q, hqn, hqa⟩ := hv.2.1 (by decide)
    have hcl : (nI q).toNatClampNeg = q := nI_clamp (by omega)
    obtain ⟨c9, hc9, hp9⟩ := hpl q hqn
    have hcp : (T 5 q).toNatClampNeg = c9 := by rw [hp9, nI_clamp (by omega)]
    have hq4 : q < 4 := by omega
    obtain ⟨d9, hd9, hda⟩ := hv.2.2.1 rfl
    have hdc : (nI d9).toNatClampNeg = d9 := nI_clamp (by omega)
    refine r_aload_n E (dat dkX4_execute 0 rfl) rfl rfl ?_
    refine q_geta E fl_X4_11 (dat dkX4_execute 1 rfl) rfl rfl rfl ?_
    refine r_iload_n E (dat dkX4_execute 2 rfl) rfl rfl ?_
    refine q_val6 (k1 := 5) E (dat dkX4_execute 3 rfl) rfl rfl (by decide) (gg3_0 gaC_1) rfl (by omega) hvb (by omega) ?_
    refine r_astore_4 E (dat dkX4_execute 4 rfl) rfl rfl ?_
    refine r_aload E (dat dkX4_execute 5 rfl) rfl ?_
    refine r_ifnonnull (tgt := 15) E (dat dkX4_execute 6 rfl) rfl ?_
    refine r_aload_n E (dat dkX4_execute 9 rfl) rfl rfl ?_
    refine q_geta E fl_X4_17 (dat dkX4_execute 10 rfl) rfl rfl rfl ?_
    refine r_iload_n E (dat dkX4_execute 11 rfl) rfl rfl ?_
    refine q_iald E (dat dkX4_execute 12 rfl) rfl rfl (by decide) (gg3_0 gaC_2) rfl (by omega) ?_
    rw [hqa]
    refine r_istore_5 E (dat dkX4_execute 13 rfl) rfl rfl ?_
    refine r_aload_n E (dat dkX4_execute 14 rfl) rfl rfl ?_
    refine q_geta E fl_X4_21 (dat dkX4_execute 15 rfl) rfl rfl rfl ?_
    refine r_iload_n E (dat dkX4_execute 16 rfl) rfl rfl ?_
    refine q_iald E (dat dkX4_execute 17 rfl) rfl rfl (by decide) (gg3_0 gaC_3) rfl (by omega) ?_
    rw [hda]
    refine r_istore_6 E (dat dkX4_execute 18 rfl) rfl rfl ?_
    refine q_gswm E gs_X4_69 (dat dkX4_execute 19 rfl) ?_
    refine r_aload E (dat dkX4_execute 20 rfl) rfl ?_
    refine r_callN (C := "PuddleCity$Verb") (owner := "java/lang/Enum") (x := ⟨"PuddleCity$Verb", "ordinal", "()I"⟩) E (sp_ordinal l G 5 _ (by omega)) (KRC_e E (by omega)) ow_code ow_link ow_same (va_Decl.of (E.2.2.2.2.1 _ ow_inst) (E.2.2.2.2.1 _ ow_code)) ow_sel ow_inst (by decide +kernel) rfl rfl (by decide) (Nat.le_of_ble_eq_true rfl) (dat dkX4_execute 21 rfl) ?_
    rintro _ _ ⟨rfl, hM⟩
    refine ⟨hM, ?_⟩
    clear hM
    refine q_swld (i := 5) E (by omega) rfl (dat dkX4_execute 22 rfl) ?_
    refine r_tabIn (off := 97) (tgt := 137) E (dat dkX4_execute 23 rfl) (by decide +kernel) (by decide +kernel) (by rfl) rfl ?_
    refine r_aload_n E (dat dkX4_execute 54 rfl) rfl rfl ?_
    refine r_aload_n E (dat dkX4_execute 55 rfl) rfl rfl ?_
    refine r_iload E (dat dkX4_execute 56 rfl) rfl ?_
    refine r_iload E (dat dkX4_execute 57 rfl) rfl ?_
    refine r_callS (μ := [1, 2]) E (sp_step2 l G T (T 0 7) (T 0 8) (T 0 9) (T 0 10) (T 0 11) (T 0 12) (T 0 13) (T 0 14) (T 1) (T 2) (T 3) (T 4) (T 5) (T 6) (T 7) B1 ro co n (nI bcn) fr he gu be nm nl bh fp n0 n1 n2 n3 q c9 d9 (nb c9 d9) _ rfl rfl hq4 hp9 hc9 hn hd9 (hbe c9 d9 hc9 hd9) (fun k hk2 => by have := hnb c9 d9 k hk2; omega)) my_X4_stepIfPossible is_X4_stepIfPossible ml_X4_132 (cm_of rfl) rfl rfl (by decide) (Nat.le_of_ble_eq_true rfl) (dat dkX4_execute 58 rfl) ?_
    rintro _ _ ⟨rfl, rfl⟩
    refine ⟨_, Mrg_o (Mrg_z rfl) (fun k => Mrg_e (i := 1) (by decide) (by decide) pm3_2 rfl), ?_⟩
    refine r_zreturn E (dat dkX4_execute 59 rfl) stO_b (by decide) (by decide) ?_
    rw [exK_5 hcl hcp hdc]
    cases ho : nb c9 d9 with
    | none => exact ⟨rfl, by show m3 _ _ _ M0 = _; rw [show (stO none (0, T) _ : Int32 × (Nat → Nat → Int32)).2 = vS T (T 0 7) (T 0 8) (T 0 9) (T 0 10) (T 0 11) (T 0 12) (T 0 13) (T 0 14) (T 1) (T 2) (T 3) (T 4) (T 5) (T 6) (T 7) from (evS T).symm, pm3_2]⟩
    | some j => exact ⟨rfl, by show m3 _ _ _ M0 = _; rw [pm3_2]; rfl⟩
  ·
    obtain ⟨q, hqn, hqa⟩ := hv.2.1 (by decide)
    have hcl : (nI q).toNatClampNeg = q := nI_clamp (by omega)
    obtain ⟨c9, hc9, hp9⟩ := hpl q hqn
    have hcp : (T 5 q).toNatClampNeg = c9 := by rw [hp9, nI_clamp (by omega)]
    have hq4 : q < 4 := by omega
    refine r_aload_n E (dat dkX4_execute 0 rfl) rfl rfl ?_
    refine q_geta E fl_X4_11 (dat dkX4_execute 1 rfl) rfl rfl rfl ?_
    refine r_iload_n E (dat dkX4_execute 2 rfl) rfl rfl ?_
    refine q_val6 (k1 := 6) E (dat dkX4_execute 3 rfl) rfl rfl (by decide) (gg3_0 gaC_1) rfl (by omega) hvb (by omega) ?_
    refine r_astore_4 E (dat dkX4_execute 4 rfl) rfl rfl ?_
    refine r_aload E (dat dkX4_execute 5 rfl) rfl ?_
    refine r_ifnonnull (tgt := 15) E (dat dkX4_execute 6 rfl) rfl ?_
    refine r_aload_n E (dat dkX4_execute 9 rfl) rfl rfl ?_
    refine q_geta E fl_X4_17 (dat dkX4_execute 10 rfl) rfl rfl rfl ?_
    refine r_iload_n E (dat dkX4_execute 11 rfl) rfl rfl ?_
    refine q_iald E (dat dkX4_execute 12 rfl) rfl rfl (by decide) (gg3_0 gaC_2) rfl (by omega) ?_
    rw [hqa]
    refine r_istore_5 E (dat dkX4_execute 13 rfl) rfl rfl ?_
    refine r_aload_n E (dat dkX4_execute 14 rfl) rfl rfl ?_
    refine q_geta E fl_X4_21 (dat dkX4_execute 15 rfl) rfl rfl rfl ?_
    refine r_iload_n E (dat dkX4_execute 16 rfl) rfl rfl ?_
    refine q_iald E (dat dkX4_execute 17 rfl) rfl rfl (by decide) (gg3_0 gaC_3) rfl (by omega) ?_
    refine r_istore_6 E (dat dkX4_execute 18 rfl) rfl rfl ?_
    refine q_gswm E gs_X4_69 (dat dkX4_execute 19 rfl) ?_
    refine r_aload E (dat dkX4_execute 20 rfl) rfl ?_
    refine r_callN (C := "PuddleCity$Verb") (owner := "java/lang/Enum") (x := ⟨"PuddleCity$Verb", "ordinal", "()I"⟩) E (sp_ordinal l G 6 _ (by omega)) (KRC_e E (by omega)) ow_code ow_link ow_same (va_Decl.of (E.2.2.2.2.1 _ ow_inst) (E.2.2.2.2.1 _ ow_code)) ow_sel ow_inst (by decide +kernel) rfl rfl (by decide) (Nat.le_of_ble_eq_true rfl) (dat dkX4_execute 21 rfl) ?_
    rintro _ _ ⟨rfl, hM⟩
    refine ⟨hM, ?_⟩
    clear hM
    refine q_swld (i := 6) E (by omega) rfl (dat dkX4_execute 22 rfl) ?_
    refine r_tabIn (off := 107) (tgt := 147) E (dat dkX4_execute 23 rfl) (by decide +kernel) (by decide +kernel) (by rfl) rfl ?_
    refine r_aload_n E (dat dkX4_execute 60 rfl) rfl rfl ?_
    refine r_aload_n E (dat dkX4_execute 61 rfl) rfl rfl ?_
    refine r_iload E (dat dkX4_execute 62 rfl) rfl ?_
    refine r_callS (μ := [1, 2]) E (sp_X4_throwIfPossible l G T (T 0 7) (T 0 8) (T 0 9) (T 0 10) (T 0 11) (T 0 12) (T 0 13) (T 0 14) (T 1) (T 2) (T 3) (T 4) (T 5) (T 6) (T 7) B1 ro co n (nI bcn) fr he gu be nm nl bh fp n0 n1 n2 n3 nb hbe hnb q c9 _ rfl rfl hn hq4 hp9 hc9) my_X4_throwIfPossible is_X4_throwIfPossible ml_X4_136 (cm_of rfl) rfl rfl (by decide) (Nat.le_of_ble_eq_true rfl) (dat dkX4_execute 63 rfl) ?_
    rintro _ _ ⟨rfl, rfl⟩
    refine ⟨_, Mrg_if (Mrg_z rfl) (Mrg_e (i := 1) (by decide) (by decide) pm3_2 rfl), ?_⟩
    refine r_zreturn E (dat dkX4_execute 64 rfl) op_b (by decide) (by decide) ?_
    rw [exK_6 hcl hcp]
    by_cases h : T 1 c9 ≤ 0
    · simp only [if_pos h]
      refine ⟨?_, by rw [pm3_2, evS T]⟩
      first
        | rfl
        | trivial
        | exact congrArg (fun q => some (iv q)) (show opI _ = 0 from if_pos h)
    · simp only [if_neg h]
      refine ⟨?_, by rw [pm3_2]⟩
      first
        | rfl
        | trivial
        | exact congrArg (fun q => some (iv q)) (show opI _ = 1 from if_neg h)
  ·
    obtain ⟨q, hq60, hqa⟩ := hv.2.2.2 rfl
    have hcl : (nI q).toNatClampNeg = q := nI_clamp (by omega)
    refine r_aload_n E (dat dkX4_execute 0 rfl) rfl rfl ?_
    refine q_geta E fl_X4_11 (dat dkX4_execute 1 rfl) rfl rfl rfl ?_
    refine r_iload_n E (dat dkX4_execute 2 rfl) rfl rfl ?_
    refine q_val6 (k1 := 7) E (dat dkX4_execute 3 rfl) rfl rfl (by decide) (gg3_0 gaC_1) rfl (by omega) hvb (by omega) ?_
    refine r_astore_4 E (dat dkX4_execute 4 rfl) rfl rfl ?_
    refine r_aload E (dat dkX4_execute 5 rfl) rfl ?_
    refine r_ifnonnull (tgt := 15) E (dat dkX4_execute 6 rfl) rfl ?_
    refine r_aload_n E (dat dkX4_execute 9 rfl) rfl rfl ?_
    refine q_geta E fl_X4_17 (dat dkX4_execute 10 rfl) rfl rfl rfl ?_
    refine r_iload_n E (dat dkX4_execute 11 rfl) rfl rfl ?_
    refine q_iald E (dat dkX4_execute 12 rfl) rfl rfl (by decide) (gg3_0 gaC_2) rfl (by omega) ?_
    rw [hqa]
    refine r_istore_5 E (dat dkX4_execute 13 rfl) rfl rfl ?_
    refine r_aload_n E (dat dkX4_execute 14 rfl) rfl rfl ?_
    refine q_geta E fl_X4_21 (dat dkX4_execute 15 rfl) rfl rfl rfl ?_
    refine r_iload_n E (dat dkX4_execute 16 rfl) rfl rfl ?_
    refine q_iald E (dat dkX4_execute 17 rfl) rfl rfl (by decide) (gg3_0 gaC_3) rfl (by omega) ?_
    refine r_istore_6 E (dat dkX4_execute 18 rfl) rfl rfl ?_
    refine q_gswm E gs_X4_69 (dat dkX4_execute 19 rfl) ?_
    refine r_aload E (dat dkX4_execute 20 rfl) rfl ?_
    refine r_callN (C := "PuddleCity$Verb") (owner := "java/lang/Enum") (x := ⟨"PuddleCity$Verb", "ordinal", "()I"⟩) E (sp_ordinal l G 7 _ (by omega)) (KRC_e E (by omega)) ow_code ow_link ow_same (va_Decl.of (E.2.2.2.2.1 _ ow_inst) (E.2.2.2.2.1 _ ow_code)) ow_sel ow_inst (by decide +kernel) rfl rfl (by decide) (Nat.le_of_ble_eq_true rfl) (dat dkX4_execute 21 rfl) ?_
    rintro _ _ ⟨rfl, hM⟩
    refine ⟨hM, ?_⟩
    clear hM
    refine q_swld (i := 7) E (by omega) rfl (dat dkX4_execute 22 rfl) ?_
    refine r_tabIn (off := 115) (tgt := 155) E (dat dkX4_execute 23 rfl) (by decide +kernel) (by decide +kernel) (by rfl) rfl ?_
    refine r_aload_n E (dat dkX4_execute 65 rfl) rfl rfl ?_
    refine r_aload_n E (dat dkX4_execute 66 rfl) rfl rfl ?_
    refine r_iload E (dat dkX4_execute 67 rfl) rfl ?_
    refine r_callS (μ := [1, 2]) E (sp_X4_passIfPossible l G T (T 0 7) (T 0 8) (T 0 9) (T 0 10) (T 0 11) (T 0 12) (T 0 13) (T 0 14) (T 1) (T 2) (T 3) (T 4) (T 5) (T 6) (T 7) B1 ro co n (nI bcn) fr he gu be nm nl bh fp n0 n1 n2 n3 bcn q nb hbe hnb _ rfl rfl hn (by omega) rfl hb4 hpl) my_X4_passIfPossible is_X4_passIfPossible ml_X4_140 (cm_of rfl) rfl rfl (by decide) (Nat.le_of_ble_eq_true rfl) (dat dkX4_execute 68 rfl) ?_
    rintro _ _ ⟨rfl, rfl⟩
    refine ⟨_, Mrg_if (Mrg_z rfl) (Mrg_e (i := 1) (by decide) (by decide) pm3_2 rfl), ?_⟩
    refine r_zreturn E (dat dkX4_execute 69 rfl) if_b0 (by decide) (by decide) ?_
    rw [exK_7 hcl]
    by_cases h : 999 < T 0 7 + nI q
    · simp only [if_pos h]
      exact ⟨by first | rfl | trivial, by rw [pm3_2, evS T]⟩
    · simp only [if_neg h]
      exact ⟨by first | rfl | trivial, by rw [pm3_2, evS T]⟩
