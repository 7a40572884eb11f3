/-! gutters, boots, rows as the law writes them -/
theorem nI_z1 {z : Nat} (h : 0 < z) : nI z - 1 = nI (z - 1) := by
  obtain ⟨q, rfl⟩ : ∃ q, z = q + 1 := ⟨z - 1, by omega⟩
  exact nI_pred q
theorem digs_le (v : Nat) : 1 ≤ (digs v).length ∧ (digs v).length ≤ 2 := by
  unfold digs
  split <;> exact ⟨Nat.le_of_ble_eq_true rfl, Nat.le_of_ble_eq_true rfl⟩
theorem app_5 {a b c d e : List Nat} : a ++ b ++ c ++ d ++ e = a ++ (b ++ (c ++ (d ++ e))) := by simp
/-- a gutter -/
theorem PRd_gut {u v z : Nat} {he gu : Nat → Int32} {fr : Int32} {bb : BB} {c g : Nat} (hz : z ≤ 64) (hc : c < z) (hg : 1 ≤ g ∧ g ≤ 9) : PRd (cS 11 ++ digs c ++ [32] ++ digs g ++ [59]) ((u, v, z), he, gu, fr, bb) ((u, v, z), he, upd gu c (nI g), fr, bb) 1 := by
  refine PRd_1 (fun b n p t hA hn h6 ht => ?_)
  obtain ⟨l1, l2⟩ := digs_le c
  rw [app_5] at hA hn
  have hlen : (cS 11 ++ (digs c ++ ([32] ++ (digs g ++ [59])))).length = 10 + (digs c).length := by
    rw [digs_1 (show g < 10 by omega), cS_11]; simp; omega
  rw [hlen] at hn
  rw [cS_11] at hA
  have hA2 : AtT b p ([103, 117, 116, 116, 101, 114] ++ ([32] ++ (digs c ++ ([32] ++ (digs g ++ [59]))))) := hA
  obtain ⟨s1, s2, s3⟩ := kw_at (w := [103, 117, 116, 116, 101, 114]) (c := 32) (n := n) (t := t) (by decide) (by decide) (by decide) rfl (by show p + 6 < n; omega) ht (AtT_l (u := [103, 117, 116, 116, 101, 114] ++ [32]) hA)
  have hB : AtT b (p + 6) ((32 :: digs c ++ [32]) ++ (digs g ++ [59])) := by
    have := AtT_r (u := [103, 117, 116, 116, 101, 114]) hA2
    rw [show [32] ++ (digs c ++ ([32] ++ (digs g ++ [59]))) = (32 :: digs c ++ [32]) ++ (digs g ++ [59]) by simp] at this
    exact this
  have hB1 := AtT_l hB
  obtain ⟨q1, q2, q3, q4⟩ := tk_nu (va := (tNx b n t).2.2.2.1) (n := n) (by omega) (Or.inl rfl) (by omega) hB1
  have hB2 : AtT b (p + 6 + 1 + (digs c).length) (32 :: digs g ++ [59]) := by
    have h1 : AtT b (p + 6) ((32 :: digs c) ++ (32 :: digs g ++ [59])) := by
      rw [show (32 :: digs c) ++ (32 :: digs g ++ [59]) = (32 :: digs c ++ [32]) ++ (digs g ++ [59]) by simp]
      exact hB
    have := AtT_r h1
    rw [List.length_cons, show p + 6 + ((digs c).length + 1) = p + 6 + 1 + (digs c).length by omega] at this
    exact this
  obtain ⟨r1, r2, r3, r4⟩ := tk_nu (va := tV b n (p + 6) (tNx b n t).2.2.2.1) (n := n) (by omega) (Or.inr rfl) (by rw [digs_1 (show g < 10 by omega)]; show _ + 1 + 1 < n; omega) hB2
  have hs : b (p + 6 + 1 + (digs c).length + 1 + (digs g).length) = nI 59 := AtT_0 (AtT_r (u := digs g) (AtT_s hB2))
  rw [digs_1 (show g < 10 by omega)] at r2 hs
  have r2' : tP b n (p + 6 + 1 + (digs c).length) = p + 6 + 1 + (digs c).length + 1 + 1 := r2
  have hs' : b (p + 6 + 1 + (digs c).length + 1 + 1) = nI 59 := hs
  have w1 : tW b (tNx b n t) wGutter = 1 := tW_y h6 s3 s1 s2 (by omega) (kw_b (w := [103, 117, 116, 116, 101, 114]) rfl (by decide +kernel) (AtT_l hA2))
  have n1 : ¬ tW b (tNx b n t) wRow = 1 := tW_n h6 s1 s2 (by omega) (Or.inl (by decide))
  have hp1 : (tNx b n t).1 = p + 6 := s2
  have e0 : rSt b n (tNx b n t) ((u, v, z), he, gu, fr, bb) = ((rGt b n (tNx b n t) z gu).1, ((u, v, z), he, (rGt b n (tNx b n t) z gu).2, fr, bb)) := by
    unfold rSt
    dsimp only
    rw [if_neg n1, if_pos w1]
  have hki : (tNx b n t).2.1 = 1 := s3
  generalize tNx b n t = t1 at w1 n1 hp1 e0 q4 r4 hki ⊢
  obtain ⟨pp, ki, st, va, ec, eo⟩ := t1
  dsimp only at hp1
  subst hp1
  have e1 := rGt_2 (b := b) (n := n) (p := p + 6) (z := z) (ki := ki) (st := st) (va := va) (ec := ec) (eo := eo) (gu := gu) (q := c) (by rw [nI_z1 (by omega)]; exact tnC_ok (lo := 0) q3 q4 (by omega) (by omega) (by omega)) q4 (by omega) (by rw [q2]; exact tnC_ok (lo := 1) (hi := 9) r3 r4 hg.1 hg.2 (by decide))
  rw [q2] at e1
  have hp2 : (tTk 0 b n (tTk 0 b n (p + 6, ki, st, va, ec, eo))).1 = p + 6 + 1 + (digs c).length + 1 + 1 := by
    show tP b n (tP b n (p + 6)) = _
    rw [q2, r2']
  obtain ⟨z1, z2⟩ := tSm_y (n := n) (by omega) hs' hp2
  rw [e0, e1, app_5, hlen]
  refine ⟨?_, z1, by rw [z2]; omega, ?_⟩
  · exact hki
  · show ((u, v, z), he, upd gu c (tV b n (p + 6 + 1 + (digs c).length) (tV b n (p + 6) va)), fr, bb) = _
    rw [r4]
