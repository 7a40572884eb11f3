/-! one part of a setup: the reference against the class -/
def pR (b : Nat → Int32) (n : Nat) (A0 : Nat → Int32) (y : (Int32 × TT) × PP) (t' : TT) (A' : Nat → Int32) : Prop := (rX t' y.1.2 ∧ y.1.1 = 0) ∨ (∃ u3, y.1 = tSm b n u3 ∧ rK b n t' u3 ∧ A' = pE A0 y.2)
section PRO
variable {b : Nat → Int32} {n : Nat} {A0 he gu nl fp bh : Nat → Int32} {a v z k : Nat} {fr : Int32} {r : Nat → Nat → Int32} {t u : TT}
theorem rain_ok (hC : rC n t u) : pR b n A0 ((rRn b n u fr).1, (((a, v, z), he, gu, (rRn b n u fr).2, k, nl, fp, bh, r) : PP)) (mAd b n (mNe (mAd b n t) 0 9)) (if (mNe (mAd b n t) 0 9).2.2.2.2.1 = 0 then upd (pE A0 ((a, v, z), he, gu, fr, k, nl, fp, bh, r)) 3 (mNv (mAd b n t) 0 9) else pE A0 ((a, v, z), he, gu, fr, k, nl, fp, bh, r)) := by
  obtain ⟨n1, n2⟩ := rK_n (rC_K (b := b) hC) 0 9
  by_cases c : tnC b n u.1 u.2.2.2.1 0 9 = 0
  · have e : rRn b n u fr = (tSm b n (tTk 0 b n u), tV b n u.1 u.2.2.2.1) := if_pos c
    obtain ⟨f0, k1, e1⟩ := n1 c
    rw [e, if_pos f0, e1]
    exact Or.inr ⟨tTk 0 b n u, rfl, k1, pE_fr⟩
  · have e : rRn b n u fr = ((0, tTk (tnC b n u.1 u.2.2.2.1 0 9) b n u), fr) := if_neg c
    have x1 := n2 c
    rw [e, mAd_x x1.1]
    exact Or.inl ⟨x1, rfl⟩
theorem gut_ok (hC : rC n t u) (hz : z ≤ 64) : pR b n A0 ((rGt b n u z gu).1, (((a, v, z), he, (rGt b n u z gu).2, fr, k, nl, fp, bh, r) : PP)) (mAd b n (mNe (mCl b n z (mAd b n t)) 1 9)) (if (mNe (mCl b n z (mAd b n t)) 1 9).2.2.2.2.1 = 0 then upd (pE A0 ((a, v, z), he, gu, fr, k, nl, fp, bh, r)) (c6 (mNv (mAd b n t) 0 (nI z - 1)).toNatClampNeg 3) (mNv (mCl b n z (mAd b n t)) 1 9) else pE A0 ((a, v, z), he, gu, fr, k, nl, fp, bh, r)) := by
  obtain ⟨n1, n2⟩ := rK_n (rC_K (b := b) hC) 0 (nI z - 1)
  by_cases c : tnC b n u.1 u.2.2.2.1 0 (nI z - 1) = 0
  · obtain ⟨f0, k1, e1⟩ := n1 c
    obtain ⟨q, hq, hq2⟩ := nI_ex (z := z) (by omega) (tnC_in c).1 (tnC_in c).2
    have e0 : rGt b n u z gu = rGt2 b n (tTk 0 b n u) (tV b n u.1 u.2.2.2.1).toNatClampNeg gu := if_pos c
    rw [e0, e1, hq2, nI_clamp (by omega)]
    have k1' : rK b n (mCl b n z (mAd b n t)) (tTk 0 b n u) := k1
    generalize mCl b n z (mAd b n t) = t6 at k1' ⊢
    generalize tTk 0 b n u = u1 at k1' ⊢
    obtain ⟨m1, m2⟩ := rK_n k1' 1 9
    by_cases c2 : tnC b n u1.1 u1.2.2.2.1 1 9 = 0
    · obtain ⟨f1, k2, e2⟩ := m1 c2
      have e : rGt2 b n u1 q gu = (tSm b n (tTk 0 b n u1), upd gu q (tV b n u1.1 u1.2.2.2.1)) := if_pos c2
      rw [e, if_pos f1, e2]
      exact Or.inr ⟨tTk 0 b n u1, rfl, k2, pE_gu hq hz⟩
    · have e : rGt2 b n u1 q gu = ((0, tTk (tnC b n u1.1 u1.2.2.2.1 1 9) b n u1), gu) := if_neg c2
      have x1 := m2 c2
      rw [e, mAd_x x1.1]
      exact Or.inl ⟨x1, rfl⟩
  · have e : rGt b n u z gu = ((0, tTk (tnC b n u.1 u.2.2.2.1 0 (nI z - 1)) b n u), gu) := if_neg c
    have x1 := n2 c
    have e6 : mCl b n z (mAd b n t) = mNe (mAd b n t) 0 (nI z - 1) := mAd_x x1.1
    rw [e, e6, mNe_x (t := mNe (mAd b n t) 0 (nI z - 1)) x1.1, mAd_x x1.1]
    exact Or.inl ⟨x1, rfl⟩
theorem bt_8 {q : Int32} {t3 t5 t7 t8 : TT} (h5 : t5 = mAd b n (mEx q 3 t3)) (h7 : t7 = mNe (mCl b n z t5) 1 9) (h8 : t8 = mAd b n t7) (h : 0 < t3.2.2.2.2.1) : t8 = t3 := by
  have e5 : t5 = t3 := by rw [h5, mEx_x h, mAd_x h]
  have e6 : mCl b n z t3 = t3 := by
    unfold mCl
    rw [mNe_x h, mAd_x h]
  rw [h8, h7, e5, e6, mNe_x h, mAd_x h]
theorem rK_st (hn : n ≤ 600) (h : rK b n t u) : sTn t = tS b n u.1 ∧ t.1 = tP b n u.1 := by
  refine ⟨?_, h.2.2.2.1⟩
  have := (tS_le (b := b) h.2.2.1).2
  unfold sTn
  rw [h.2.2.2.2.2.1, nI_clamp (by omega)]
theorem kNw_eq {x : PP} {s P : Nat} (hx : PIv x) (hL : P - s ≤ 6) : kNw b s (P - s) x = nmS (fun i => isN b s P (x.2.2.2.2.2.2.2.2 i) (x.2.2.2.2.2.1 i).toNatClampNeg) x.2.2.2.2.1 0 := by
  refine nmS_congr _ 0 fun i _ hi => ?_
  obtain ⟨h1, h2⟩ := hx.2.2.2.2.2.1 i (by omega)
  unfold isN
  by_cases c : P - s = (x.2.2.2.2.2.1 i).toNatClampNeg ∧ (x.2.2.2.2.2.1 i).toNatClampNeg ≤ 6 ∧ ∀ j, j < (x.2.2.2.2.2.1 i).toNatClampNeg → b (s + j) = x.2.2.2.2.2.2.2.2 i j
  · rw [if_pos c]
    exact if_pos ⟨h1.trans (by rw [c.1]), fun q hq => (c.2.2 q (by omega)).symm⟩
  · rw [if_neg c]
    refine if_neg fun q => c ?_
    have e : (x.2.2.2.2.2.1 i).toNatClampNeg = P - s := by rw [q.1, nI_clamp (by omega)]
    exact ⟨e.symm, by omega, fun j hj => (q.2 j (by omega)).symm⟩
theorem bt_ok {t8 : TT} {A2 : Nat → Int32} (hC : rC n t u) (hn : n ≤ 600) (hx : PIv (((a, v, z), he, gu, fr, k, nl, fp, bh, r) : PP)) (h0 : CA0 A0) (h : btP b n ((a, v, z), he, gu, fr, k, nl, fp, bh, r) t (pE A0 ((a, v, z), he, gu, fr, k, nl, fp, bh, r)) t8 A2) :
    pR b n A0 ((rBt b n u z (fun i => (nl i).toNatClampNeg) (k, nl, fp, bh, r)).1, (((a, v, z), he, gu, fr, (rBt b n u z (fun i => (nl i).toNatClampNeg) (k, nl, fp, bh, r)).2) : PP)) t8 A2 := by
  have hz64 : z ≤ 64 := (PIv_z hx).1
  obtain ⟨t2, t3, t5, t7, q, h2, h3, hq, h5, h7, h8, hA⟩ := h
  dsimp only at h2 h3 hq h5 h7 h8 hA
  by_cases hk : 4 ≤ k
  · have e : rBt b n u z (fun i => (nl i).toNatClampNeg) (k, nl, fp, bh, r) = ((0, tFl 4 u), (k, nl, fp, bh, r)) := if_pos hk
    rw [e]
    rw [if_neg (by omega)] at h2
    have x1 := rC_x hC (show (0 : Int32) < 4 by decide)
    rw [mAd_x x1.1] at h2
    rw [← h2] at x1
    have e3 : t3 = t2 := by rw [h3, mEx_x x1.1]
    rw [bt_8 h5 h7 h8 (by rw [e3]; exact x1.1), e3]
    exact Or.inl ⟨x1, rfl⟩
  · rw [if_pos (by omega), mEx_n (a := 1) (by decide)] at h2
    have hK : rK b n t2 u := by rw [h2]; exact rC_K hC
    obtain ⟨s1, s2⟩ := rK_st hn hK
    obtain ⟨m1, m2⟩ := rK_m hK
    by_cases c1 : tmC b n u.1 = 0
    · obtain ⟨g1, g2⟩ := m1 c1
      rw [show aNm t2 = 1 from if_pos ⟨g1, by omega⟩, mEx_n (a := 1) (by decide)] at h3
      subst h3
      rw [if_neg (by rw [hK.1]; decide), s1, s2, kNw_eq hx g2] at hq
      by_cases c2 : nmS (fun i => isN b (tS b n u.1) (tP b n u.1) (r i) (nl i).toNatClampNeg) k 0 = -1
      · rw [if_pos c2] at hq
        subst hq
        rw [mEx_n (a := 1) (by decide)] at h5
        have hK5 : rK b n t5 (tTk 0 b n u) := by rw [h5]; exact rK_t hK
        obtain ⟨n1, n2⟩ := rK_n hK5 0 (nI z - 1)
        by_cases c3 : tnC b n (tTk 0 b n u).1 (tTk 0 b n u).2.2.2.1 0 (nI z - 1) = 0
        · obtain ⟨f6, k6, e6⟩ := n1 c3
          have k6' : rK b n (mCl b n z t5) (tTk 0 b n (tTk 0 b n u)) := k6
          obtain ⟨p1, p2⟩ := rK_n k6' 1 9
          by_cases c4 : tnC b n (tTk 0 b n (tTk 0 b n u)).1 (tTk 0 b n (tTk 0 b n u)).2.2.2.1 1 9 = 0
          · obtain ⟨f7, k7, e7⟩ := p1 c4
            have e : rBt b n u z (fun i => (nl i).toNatClampNeg) (k, nl, fp, bh, r) = (tSm b n (tTk 0 b n (tTk 0 b n (tTk 0 b n u))), (k + 1, upd nl k (nI (tP b n u.1 - tS b n u.1)), upd fp k (tTk 0 b n (tTk 0 b n u)).2.2.2.1, upd bh k (tTk 0 b n (tTk 0 b n (tTk 0 b n u))).2.2.2.1, cpR b (tS b n u.1) (tP b n u.1) k r)) := (if_neg hk).trans ((if_neg (fun q => q c1)).trans ((if_neg (fun q => q c2)).trans ((if_neg (fun q => q c3)).trans (if_neg (fun q => q c4)))))
            rw [e]
            refine Or.inr ⟨_, rfl, by rw [h8, h7]; exact k7, ?_⟩
            rw [hA, h7, if_pos f7, e6, e7, s1, s2]
            refine pE_bt h0 hz64 (by omega) g2 ?_ ?_
            · intro i hi
              show (if k = k then va_cpy b (r k) (tS b n u.1) 0 (tP b n u.1 - tS b n u.1) else r k) i = _
              rw [if_pos rfl]
              unfold va_cpy
              rw [if_pos ⟨Nat.zero_le _, by omega⟩]
              rfl
            · intro j hj
              exact if_neg (fun q => hj q.symm)
          · have e : rBt b n u z (fun i => (nl i).toNatClampNeg) (k, nl, fp, bh, r) = ((0, tTk (tnC b n (tTk 0 b n (tTk 0 b n u)).1 (tTk 0 b n (tTk 0 b n u)).2.2.2.1 1 9) b n (tTk 0 b n (tTk 0 b n u))), (k, upd nl k (nI (tP b n u.1 - tS b n u.1)), upd fp k (tTk 0 b n (tTk 0 b n u)).2.2.2.1, bh, cpR b (tS b n u.1) (tP b n u.1) k r)) := (if_neg hk).trans ((if_neg (fun q => q c1)).trans ((if_neg (fun q => q c2)).trans ((if_neg (fun q => q c3)).trans (if_pos c4))))
            have x1 := p2 c4
            rw [e]
            rw [← h7] at x1
            rw [h8, mAd_x x1.1]
            exact Or.inl ⟨x1, rfl⟩
        · have e : rBt b n u z (fun i => (nl i).toNatClampNeg) (k, nl, fp, bh, r) = ((0, tTk (tnC b n (tTk 0 b n u).1 (tTk 0 b n u).2.2.2.1 0 (nI z - 1)) b n (tTk 0 b n u)), (k, upd nl k (nI (tP b n u.1 - tS b n u.1)), fp, bh, cpR b (tS b n u.1) (tP b n u.1) k r)) := (if_neg hk).trans ((if_neg (fun q => q c1)).trans ((if_neg (fun q => q c2)).trans (if_pos c3)))
          have x1 := n2 c3
          have e6 : mCl b n z t5 = mNe t5 0 (nI z - 1) := mAd_x x1.1
          rw [e]
          rw [e6, mNe_x x1.1] at h7
          rw [h8, h7, mAd_x x1.1]
          exact Or.inl ⟨x1, rfl⟩
      · rw [if_neg c2] at hq
        subst hq
        have e : rBt b n u z (fun i => (nl i).toNatClampNeg) (k, nl, fp, bh, r) = ((0, tFl 3 (tTk 0 b n u)), (k, nl, fp, bh, r)) := (if_neg hk).trans ((if_neg (fun q => q c1)).trans (if_pos c2))
        have x1 : rX (mEx 0 3 t3) (tFl 3 (tTk 0 b n u)) := by
          rw [mEx_0 hK.1]
          exact ⟨(by decide : (0 : Int32) < 3), rfl, hK.2.2.2.2.2.1⟩
        have e5 : t5 = mEx 0 3 t3 := by rw [h5, mAd_x x1.1]
        have e5b : t5 = mAd b n (mEx 0 3 t5) := by rw [mEx_x (by rw [e5]; exact x1.1), mAd_x (by rw [e5]; exact x1.1)]
        rw [e, bt_8 e5b h7 h8 (by rw [e5]; exact x1.1), e5]
        exact Or.inl ⟨x1, rfl⟩
    · obtain ⟨g1, g2⟩ := m2 c1
      have e : rBt b n u z (fun i => (nl i).toNatClampNeg) (k, nl, fp, bh, r) = ((0, tTk (tmC b n u.1) b n u), (k, nl, fp, bh, r)) := (if_neg hk).trans (if_pos c1)
      rw [e, g1]
      rw [show aNm t2 = 0 from if_neg (fun q => g2 ⟨q.1, by omega⟩)] at h3
      have x1 := rK_x hK (show (0 : Int32) < 1 by decide)
      rw [← h3] at x1
      rw [bt_8 h5 h7 h8 x1.1]
      exact Or.inl ⟨x1, rfl⟩
end PRO
