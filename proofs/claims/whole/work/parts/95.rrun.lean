/-! the reference: a script run -/
theorem sp_ex (l : Launch) (G : GT) (v : Nat) (hv8 : v < 8) (A0 : Nat → Int32) (x : PP) (T : Nat → Nat → Int32) (L : Int) (S : Nat → Int32) (i : Nat) (a b c : Int32) (M : Mem) (hA : M 0 1 = enc A0 x T) (hx : PIv x) (hv : PVi x) (hpl : PLi x T) (hz : ZI x T L) (hL : L + 9 < 2147483648) (hi : i < 30) (hS21 : M 0 21 = S) (h0 : S (4 * i) = nI v) (h1 : S (4 * i + 1) = a) (h2 : (v = 1 ∨ v = 3 ∨ v = 5) → S (4 * i + 2) = b) (h3 : v = 1 → S (4 * i + 3) = c) (hvo : vOK x.1.2.2 x.2.2.2.2.1 v a b) (hvr : vRG v a b c) : MC l G yX10_execute cX10_execute 5 (some .boolean) ({ frames := 8, cells := 0, slots := 0, locals := 177 } : Room) [9] lk0 [rv 0 0, iv (nI i)] (M) (fun r M2 => r = some (iv (exV x v a b c T).1) ∧ M2 = md M (enc A0 x (exV x v a b c T).2) ∧ ZI x (exV x v a b c T).2 (L + 9)) := by
  rcases (show v = 0 ∨ v = 1 ∨ v = 2 ∨ v = 3 ∨ v = 4 ∨ v = 5 ∨ v = 6 ∨ v = 7 by omega) with rfl | rfl | rfl | rfl | rfl | rfl | rfl | rfl
  · exact sp_ex_0 l G A0 x T L S i a b c M hA hx hv hpl hz hL hi hS21 h0 h1 h2 h3 hvo hvr
  · exact sp_ex_1 l G A0 x T L S i a b c M hA hx hv hpl hz hL hi hS21 h0 h1 h2 h3 hvo hvr
  · exact sp_ex_2 l G A0 x T L S i a b c M hA hx hv hpl hz hL hi hS21 h0 h1 h2 h3 hvo hvr
  · exact sp_ex_3 l G A0 x T L S i a b c M hA hx hv hpl hz hL hi hS21 h0 h1 h2 h3 hvo hvr
  · exact sp_ex_4 l G A0 x T L S i a b c M hA hx hv hpl hz hL hi hS21 h0 h1 h2 h3 hvo hvr
  · exact sp_ex_5 l G A0 x T L S i a b c M hA hx hv hpl hz hL hi hS21 h0 h1 h2 h3 hvo hvr
  · exact sp_ex_6 l G A0 x T L S i a b c M hA hx hv hpl hz hL hi hS21 h0 h1 h2 h3 hvo hvr
  · exact sp_ex_7 l G A0 x T L S i a b c M hA hx hv hpl hz hL hi hS21 h0 h1 h2 h3 hvo hvr
/-- what stands in the statements' array -/
def CT (S : Nat → Int32) (k : Nat) (vb : Nat → Int32) (g : CF) : Prop := ∀ j, j < k → ∃ v, vb j = nI v ∧ v < 8 ∧ S (4 * j) = nI v ∧ S (4 * j + 1) = g.1 j ∧ ((v = 1 ∨ v = 3 ∨ v = 5) → S (4 * j + 2) = g.2.1 j) ∧ (v = 1 → S (4 * j + 3) = g.2.2 j)
theorem CT_s {S S2 : Nat → Int32} {k v : Nat} {vb : Nat → Int32} {g g2 : CF} (h : CT S k vb g) (hv : v < 8) (ha : agr k g g2) (hs : stC S2 S k v (g2.1 k, g2.2.1 k, g2.2.2 k)) : CT S2 (k + 1) (upd vb k (nI v)) g2 := by
  obtain ⟨p1, p2, p3, p4, p5⟩ := hs
  intro j hj
  by_cases he : j = k
  · subst he
    exact ⟨v, upd_at, hv, p1, p2, p3, p4⟩
  · obtain ⟨v2, q1, q2, q3, q4, q5, q6⟩ := h j (by omega)
    obtain ⟨a1, a2, a3⟩ := ha j he
    exact ⟨v2, (upd_ne he).trans q1, q2, (p5 _ (by omega)).trans q3, (p5 _ (by omega)).trans (q4.trans a1.symm), fun c => (p5 _ (by omega)).trans ((q5 c).trans a2.symm), fun c => (p5 _ (by omega)).trans ((q6 c).trans a3.symm)⟩
theorem exT_s {x : PP} {vb : Nat → Int32} {g : CF} {T : Nat → Nat → Int32} {i v : Nat} (hv : vb i = nI v) (h8 : v < 8) : exT x vb g T (i + 1) = (exV x v (g.1 i) (g.2.1 i) (g.2.2 i) (exT x vb g T i)).2 ∧ exG x vb g T i = (exV x v (g.1 i) (g.2.1 i) (g.2.2 i) (exT x vb g T i)).1 := by
  have e : (vb i).toNatClampNeg = v := by rw [hv]; exact nI_clamp (by omega)
  constructor
  · show (exK _ _ _ _ _ _ (vb i).toNatClampNeg _ _ _ _).2 = _
    rw [e]; rfl
  · show (exK _ _ _ _ _ _ (vb i).toNatClampNeg _ _ _ _).1 = _
    rw [e]; rfl
def rsK (M M2 : Mem) : Prop := M2 0 2 = M 0 2 ∧ M2 0 3 = M 0 3 ∧ M2 0 10 = M 0 10 ∧ M2 0 25 = M 0 25 ∧ M2 0 0 5 = M 0 0 5 ∧ M2 0 0 25 = M 0 0 25 ∧ M2 0 0 6 = 0 ∧ M2 0 0 10 = 0
def rsBad (M M2 : Mem) (A : Nat → Int32) (Y : (Int32 × TT) × SC) (r : Option AV) : Prop := Y.1.1 = 0 ∧ r = some (iv (-1)) ∧ rsK M M2 ∧ M2 0 1 = A ∧ M2 0 4 = M 0 4 ∧ M2 0 0 4 = M 0 0 4 ∧ M2 0 0 11 = Y.1.2.2.2.2.2.1 ∧ M2 0 0 12 = Y.1.2.2.2.2.2.2 ∧ 0 < Y.1.2.2.2.2.2.1
def rsOk (M M2 : Mem) (A0 : Nat → Int32) (x : PP) (T : Nat → Nat → Int32) (L : Int) (P : Nat → Int32) (k : Nat) (Y : (Int32 × TT) × SC) (r : Option AV) : Prop := ¬ Y.1.1 = 0 ∧ r = some (iv (nI (exC (exG x Y.2.2.1 Y.2.2.2 T) Y.2.1 0))) ∧ rsK M M2 ∧ M2 0 1 = enc A0 x (exT x Y.2.2.1 Y.2.2.2 T (exC (exG x Y.2.2.1 Y.2.2.2 T) Y.2.1 0)) ∧ ZI x (exT x Y.2.2.1 Y.2.2.2 T (exC (exG x Y.2.2.1 Y.2.2.2 T) Y.2.1 0)) (L + 270) ∧ M2 0 4 = cpP (rmS P k) (enc A0 x T) (443 * rmK k) 443 ∧ M2 0 0 4 = nI (rmK k + 1) ∧ M2 0 0 11 = 0 ∧ M2 0 0 12 = -1 ∧ Y.1.2.2.2.2.2.1 = 0 ∧ Y.1.2.2.2.2.2.2 = -1