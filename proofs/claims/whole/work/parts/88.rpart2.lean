/-! one part of a setup -/
section STW
variable {b : Nat → Int32} {n : Nat} {A0 : Nat → Int32} {x : PP} {t u : TT}
theorem st_row {t4 : TT} {A2 : Nat → Int32} (hC : rC n t u) (hx : PIv x) (hg : GUz x) (h0 : CA0 A0) (w1 : tW b u wRow = 1) (h : rwP b n x t (pE A0 x) t4 A2) : pR b n A0 (rSt b n u x) t4 A2 := by
  obtain ⟨⟨a, v, z⟩, he, gu, fr, k, nl, fp, bh, r⟩ := x
  rw [show rSt b n u ((a, v, z), he, gu, fr, k, nl, fp, bh, r) = _ from if_pos w1]
  exact row_ok hC hx hg h0 h
theorem st_gut {z : Nat} (hzz : x.1.2.2 = z) (hC : rC n t u) (hx : PIv x) (w1 : ¬ tW b u wRow = 1) (w2 : tW b u wGutter = 1) : pR b n A0 (rSt b n u x) (mAd b n (mNe (mCl b n z (mAd b n t)) 1 9)) (if (mNe (mCl b n z (mAd b n t)) 1 9).2.2.2.2.1 = 0 then upd (pE A0 x) (c6 (mNv (mAd b n t) 0 (nI z - 1)).toNatClampNeg 3) (mNv (mCl b n z (mAd b n t)) 1 9) else pE A0 x) := by
  obtain ⟨⟨a, v, z2⟩, he, gu, fr, k, nl, fp, bh, r⟩ := x
  have hz2 : z2 = z := hzz
  subst hz2
  rw [show rSt b n u ((a, v, z2), he, gu, fr, k, nl, fp, bh, r) = _ from (if_neg w1).trans (if_pos w2)]
  have hz := (PIv_z hx).1
  dsimp only at hz
  exact gut_ok hC hz
theorem st_bt {t8 : TT} {A2 : Nat → Int32} (hC : rC n t u) (hn : n ≤ 600) (hx : PIv x) (h0 : CA0 A0) (w1 : ¬ tW b u wRow = 1) (w2 : ¬ tW b u wGutter = 1) (w3 : tW b u wBoots = 1) (h : btP b n x t (pE A0 x) t8 A2) : pR b n A0 (rSt b n u x) t8 A2 := by
  obtain ⟨⟨a, v, z⟩, he, gu, fr, k, nl, fp, bh, r⟩ := x
  rw [show rSt b n u ((a, v, z), he, gu, fr, k, nl, fp, bh, r) = _ from (if_neg w1).trans ((if_neg w2).trans (if_pos w3))]
  exact bt_ok hC hn hx h0 h
theorem st_rain (hC : rC n t u) (w1 : ¬ tW b u wRow = 1) (w2 : ¬ tW b u wGutter = 1) (w3 : ¬ tW b u wBoots = 1) (w4 : tW b u wRain = 1) : pR b n A0 (rSt b n u x) (mAd b n (mNe (mAd b n t) 0 9)) (if (mNe (mAd b n t) 0 9).2.2.2.2.1 = 0 then upd (pE A0 x) 3 (mNv (mAd b n t) 0 9) else pE A0 x) := by
  obtain ⟨⟨a, v, z⟩, he, gu, fr, k, nl, fp, bh, r⟩ := x
  rw [show rSt b n u ((a, v, z), he, gu, fr, k, nl, fp, bh, r) = _ from (if_neg w1).trans ((if_neg w2).trans ((if_neg w3).trans (if_pos w4)))]
  exact rain_ok hC
theorem st_no {A2 : Nat → Int32} (hC : rC n t u) (w1 : ¬ tW b u wRow = 1) (w2 : ¬ tW b u wGutter = 1) (w3 : ¬ tW b u wBoots = 1) (w4 : ¬ tW b u wRain = 1) : pR b n A0 (rSt b n u x) (mEx 0 1 t) A2 := by
  obtain ⟨⟨a, v, z⟩, he, gu, fr, k, nl, fp, bh, r⟩ := x
  rw [show rSt b n u ((a, v, z), he, gu, fr, k, nl, fp, bh, r) = _ from (if_neg w1).trans ((if_neg w2).trans ((if_neg w3).trans (if_neg w4)))]
  exact Or.inl ⟨rC_x hC (by decide), rfl⟩
theorem pR_sm {y : (Int32 × TT) × PP} {t4 : TT} {A2 : Nat → Int32} (h : pR b n A0 y t4 A2) : (¬ y.1.1 = 0 ∧ rK b n (mSm b n t4) y.1.2 ∧ A2 = pE A0 y.2) ∨ (y.1.1 = 0 ∧ rX (mSm b n t4) y.1.2) := by
  rcases h with ⟨h1, h2⟩ | ⟨u3, h1, h2, h3⟩
  · rw [mSm_x h1.1]
    exact Or.inr ⟨h2, h1⟩
  · obtain ⟨s1, s2⟩ := rK_s h2
    rw [h1]
    by_cases c : (tSm b n u3).1 = 0
    · exact Or.inr ⟨c, s2 c⟩
    · exact Or.inl ⟨c, s1 c, h3⟩
theorem tW_1 {w : List Int32} (h : ¬ tW b u w = 0) : tW b u w = 1 := by
  unfold tW isW at h ⊢
  split
  · rfl
  · rename_i q; rw [if_neg q] at h; exact absurd rfl h
theorem tW_n {w : List Int32} (h : tW b u w = 0) : ¬ tW b u w = 1 := by rw [h]; decide
theorem wd_eq {M : Mem} {w w' : List Int32} (hC : rC n t u) (hT : TI M t) (hw : w' = w) : (if 0 < M 0 0 17 then (0 : Int32) else isW b t.2.1 (sTn t) t.1 w') = tW b u w := by
  subst hw
  rw [hT.2.2.2.2.1, hC.1, if_neg (by decide)]
  unfold tW sTn
  rw [hC.2.2.2.1, hC.2.2.2.2.1, hC.2.2.2.2.2.1]
end STW
theorem px_row (l : Launch) (G : GT) (bs : Nat → Int32) (n : Nat) (A : Nat → Int32) (t : TT) (u : TT) (A0 : Nat → Int32) (x : PP) (M : Mem) (hB : M 0 10 = bs) (hn : M 0 0 10 = nI n) (hA : M 0 1 = A) (hT : TI M t) (hG : TG n t) (hn6 : n ≤ 600) (hE : A = pE A0 x) (hx : PIv x) (hg : GUz x) (h0 : CA0 A0) (hC : rC n t u) (w1 : tW bs u wRow = 1) : MC l G yX10_parseRow cX10_parseRow 5 none ({ frames := 4, cells := 0, slots := 0, locals := 89 } : Room) [9] lk0 [rv 0 0] (M) (fun r M2 => r = none ∧ ∃ t4 A2, PK M M2 A2 t4 ∧ TG n t4 ∧ pR bs n A0 (rSt bs n u x) t4 A2) := by
  subst hE
  refine MC.mono (sp_X10_parseRow l G bs n _ t A0 x M hB hn hA hT hG hn6 rfl hx) (fun r M9 h => ?_)
  obtain ⟨h1, t4, A2, h2, h3, h4⟩ := h
  exact ⟨h1, t4, A2, h4, h3, st_row hC hx hg h0 w1 h2⟩
theorem px_gut (l : Launch) (G : GT) (bs : Nat → Int32) (n : Nat) (A : Nat → Int32) (t : TT) (u : TT) (A0 : Nat → Int32) (x : PP) (M : Mem) (hB : M 0 10 = bs) (hn : M 0 0 10 = nI n) (hA : M 0 1 = A) (hT : TI M t) (hG : TG n t) (hn6 : n ≤ 600) (hE : A = pE A0 x) (hx : PIv x) (hg : GUz x) (h0 : CA0 A0) (hC : rC n t u) (w1 : ¬ tW bs u wRow = 1) (w2 : tW bs u wGutter = 1) : MC l G yX10_parseGutter cX10_parseGutter 3 none ({ frames := 5, cells := 0, slots := 0, locals := 109 } : Room) [9] lk0 [rv 0 0] (M) (fun r M2 => r = none ∧ ∃ t4 A2, PK M M2 A2 t4 ∧ TG n t4 ∧ pR bs n A0 (rSt bs n u x) t4 A2) := by
  subst hE
  refine MC.mono (sp_X10_parseGutter l G bs n _ t x.1.2.2 M hB hn hA hT hG hn6 (ce_x hx) (PIv_z hx).1) (fun r M9 h => ?_)
  obtain ⟨h1, h2, h3⟩ := h
  exact ⟨h1, _, _, h2, TG_ad (TG_ne (TG_cl (TG_ad hG))), st_gut rfl hC hx w1 w2⟩
theorem px_bts (l : Launch) (G : GT) (bs : Nat → Int32) (n : Nat) (A : Nat → Int32) (t : TT) (u : TT) (A0 : Nat → Int32) (x : PP) (M : Mem) (hB : M 0 10 = bs) (hn : M 0 0 10 = nI n) (hA : M 0 1 = A) (hT : TI M t) (hG : TG n t) (hn6 : n ≤ 600) (hE : A = pE A0 x) (hx : PIv x) (hg : GUz x) (h0 : CA0 A0) (hC : rC n t u) (w1 : ¬ tW bs u wRow = 1) (w2 : ¬ tW bs u wGutter = 1) (w3 : tW bs u wBoots = 1) : MC l G yX10_parseBoots cX10_parseBoots 3 none ({ frames := 5, cells := 0, slots := 0, locals := 109 } : Room) [9] lk0 [rv 0 0] (M) (fun r M2 => r = none ∧ ∃ t4 A2, PK M M2 A2 t4 ∧ TG n t4 ∧ pR bs n A0 (rSt bs n u x) t4 A2) := by
  subst hE
  refine MC.mono (sp_X10_parseBoots l G bs n _ t A0 x M hB hn hA hT hG hn6 rfl hx) (fun r M9 h => ?_)
  obtain ⟨h1, ⟨t4, A2, h2, h3, h4⟩, h5⟩ := h
  exact ⟨h1, t4, A2, h4, h3, st_bt hC hn6 hx h0 w1 w2 w3 h2⟩
theorem px_rain (l : Launch) (G : GT) (bs : Nat → Int32) (n : Nat) (A : Nat → Int32) (t : TT) (u : TT) (A0 : Nat → Int32) (x : PP) (M : Mem) (hB : M 0 10 = bs) (hn : M 0 0 10 = nI n) (hA : M 0 1 = A) (hT : TI M t) (hG : TG n t) (hn6 : n ≤ 600) (hE : A = pE A0 x) (hx : PIv x) (hg : GUz x) (h0 : CA0 A0) (hC : rC n t u) (w1 : ¬ tW bs u wRow = 1) (w2 : ¬ tW bs u wGutter = 1) (w3 : ¬ tW bs u wBoots = 1) (w4 : tW bs u wRain = 1) : MC l G yX10_parseRain cX10_parseRain 2 none ({ frames := 4, cells := 0, slots := 0, locals := 89 } : Room) [9] lk0 [rv 0 0] (M) (fun r M2 => r = none ∧ ∃ t4 A2, PK M M2 A2 t4 ∧ TG n t4 ∧ pR bs n A0 (rSt bs n u x) t4 A2) := by
  subst hE
  refine MC.mono (sp_X10_parseRain l G bs n _ t M hB hn hA hT hG hn6) (fun r M9 h => ?_)
  obtain ⟨h1, h2, h3⟩ := h
  exact ⟨h1, _, _, h2, TG_ad (TG_ne (TG_ad hG)), st_rain hC w1 w2 w3 w4⟩