/-! gutters, boots, rows as the law writes them -/
theorem nI_z1 {z : Nat} (h : 0 < z) : nI z - 1 = nI (z - 1) := by
  obtain ⟨q, rfl⟩ : ∃ q, z = q + 1 := ⟨z - 1, by omega⟩
  exact nI_pred q
theorem digs_le (v : Nat) : 1 ≤ (digs v).length ∧ (digs v).length ≤ 2 := by
  unfold digs
  split <;> exact ⟨Nat.le_of_ble_eq_true rfl, Nat.le_of_ble_eq_true rfl⟩
theorem app_5 {a b c d e : List Nat} : a ++ b ++ c ++ d ++ e = a ++ (b ++ (c ++ (d ++ e))) := by simp
/-- a gutter -/
theorem PRd_gut {u v z : Nat} {he gu : Nat → Int32} {fr : Int32} {bb : BB} {c g : Nat} (hz : z ≤ 64) (hc : c < z) (hg : 1 ≤ g ∧ g ≤ 9) : PRd (cS 11 ++ digs c ++ [32] ++ digs g ++ [59]) ((u, v, z), he, gu, fr, bb) ((u, v, z), he, upd gu c (nI g), fr, bb) 1 := by
  refine PRd_1 (fun b n p t hA hn h6 ht => ?_)
  obtain ⟨l1, l2⟩ := digs_le c
  rw [app_5] at hA hn
  have hlen : (cS 11 ++ (digs c ++ ([32] ++ (digs g ++ [59])))).length = 10 + (digs c).length := by
    rw [digs_1 (show g < 10 by omega), cS_11]; simp; omega
  rw [hlen] at hn
  rw [cS_11] at hA
  have hA2 : AtT b p ([103, 117, 116, 116, 101, 114] ++ ([32] ++ (digs c ++ ([32] ++ (digs g ++ [59]))))) := hA
  obtain ⟨s1, s2, s3⟩ := kw_at (w := [103, 117, 116, 116, 101, 114]) (c := 32) (n := n) (t := t) (by decide) (by decide) (by decide) rfl (by show p + 6 < n; omega) ht (AtT_l (u := [103, 117, 116, 116, 101, 114] ++ [32]) hA)
  have hB : AtT b (p + 6) ((32 :: digs c ++ [32]) ++ (digs g ++ [59])) := by
    have := AtT_r (u := [103, 117, 116, 116, 101, 114]) hA2
    rw [show [32] ++ (digs c ++ ([32] ++ (digs g ++ [59]))) = (32 :: digs c ++ [32]) ++ (digs g ++ [59]) by simp] at this
    exact this
  have hB1 := AtT_l hB
  obtain ⟨q1, q2, q3, q4⟩ := tk_nu (va := (tNx b n t).2.2.2.1) (n := n) (by omega) (Or.inl rfl) (by omega) hB1
  have hB2 : AtT b (p + 6 + 1 + (digs c).length) (32 :: digs g ++ [59]) := by
    have h1 : AtT b (p + 6) ((32 :: digs c) ++ (32 :: digs g ++ [59])) := by
      rw [show (32 :: digs c) ++ (32 :: digs g ++ [59]) = (32 :: digs c ++ [32]) ++ (digs g ++ [59]) by simp]
      exact hB
    have := AtT_r h1
    rw [List.length_cons, show p + 6 + ((digs c).length + 1) = p + 6 + 1 + (digs c).length by omega] at this
    exact this
  obtain ⟨r1, r2, r3, r4⟩ := tk_nu (va := tV b n (p + 6) (tNx b n t).2.2.2.1) (n := n) (by omega) (Or.inr rfl) (by rw [digs_1 (show g < 10 by omega)]; show _ + 1 + 1 < n; omega) hB2
  have hs : b (p + 6 + 1 + (digs c).length + 1 + (digs g).length) = nI 59 := AtT_0 (AtT_r (u := digs g) (AtT_s hB2))
  rw [digs_1 (show g < 10 by omega)] at r2 hs
  have r2' : tP b n (p + 6 + 1 + (digs c).length) = p + 6 + 1 + (digs c).length + 1 + 1 := r2
  have hs' : b (p + 6 + 1 + (digs c).length + 1 + 1) = nI 59 := hs
  have w1 : tW b (tNx b n t) wGutter = 1 := tW_y h6 s3 s1 s2 (by omega) (kw_b (w := [103, 117, 116, 116, 101, 114]) rfl (by decide +kernel) (AtT_l hA2))
  have n1 : ¬ tW b (tNx b n t) wRow = 1 := tW_n h6 s1 s2 (by omega) (Or.inl (by decide))
  have hp1 : (tNx b n t).1 = p + 6 := s2
  have e0 : rSt b n (tNx b n t) ((u, v, z), he, gu, fr, bb) = ((rGt b n (tNx b n t) z gu).1, ((u, v, z), he, (rGt b n (tNx b n t) z gu).2, fr, bb)) := by
    unfold rSt
    dsimp only
    rw [if_neg n1, if_pos w1]
  have hki : (tNx b n t).2.1 = 1 := s3
  generalize tNx b n t = t1 at w1 n1 hp1 e0 q4 r4 hki ⊢
  obtain ⟨pp, ki, st, va, ec, eo⟩ := t1
  dsimp only at hp1
  subst hp1
  have e1 := rGt_2 (b := b) (n := n) (p := p + 6) (z := z) (ki := ki) (st := st) (va := va) (ec := ec) (eo := eo) (gu := gu) (q := c) (by rw [nI_z1 (by omega)]; exact tnC_ok (lo := 0) q3 q4 (by omega) (by omega) (by omega)) q4 (by omega) (by rw [q2]; exact tnC_ok (lo := 1) (hi := 9) r3 r4 hg.1 hg.2 (by decide))
  rw [q2] at e1
  have hp2 : (tTk 0 b n (tTk 0 b n (p + 6, ki, st, va, ec, eo))).1 = p + 6 + 1 + (digs c).length + 1 + 1 := by
    show tP b n (tP b n (p + 6)) = _
    rw [q2, r2']
  obtain ⟨z1, z2⟩ := tSm_y (n := n) (by omega) hs' hp2
  rw [e0, e1, app_5, hlen]
  refine ⟨?_, z1, by rw [z2]; omega, ?_⟩
  · exact hki
  · show ((u, v, z), he, upd gu c (tV b n (p + 6 + 1 + (digs c).length) (tV b n (p + 6) va)), fr, bb) = _
    rw [r4]
/-- names as read: the k-th pair of boots has the letter a + k -/
def nmR (r : Nat → Nat → Int32) (k : Nat) : Nat → Nat → Int32 := fun j => if k = j then upd (r j) 0 (nI (97 + k)) else r j
theorem cpR_1 {b : Nat → Int32} {s P k : Nat} {r : Nat → Nat → Int32} (hP : P = s + 1) (hb : b s = nI (97 + k)) : cpR b s P k r = nmR r k := by
  subst hP
  funext j
  unfold cpR nmR
  by_cases h : k = j
  · rw [if_pos h, if_pos h]
    funext i
    unfold va_cpy upd
    by_cases hi : i = 0
    · subst hi
      rw [if_pos (by omega), if_pos rfl]
      exact hb
    · rw [if_neg (by omega), if_neg hi]
  · rw [if_neg h, if_neg h]
/-- boots -/
theorem PRd_boot {u v z k pl tl : Nat} {he gu nl fp bh : Nat → Int32} {fr : Int32} {r : Nat → Nat → Int32} (hz : z ≤ 64) (hp0 : pl < z) (ht0 : 1 ≤ tl ∧ tl ≤ 9) (hk : k = 0 ∨ (k = 1 ∧ nl 0 = nI 1 ∧ r 0 0 = nI 97)) : PRd (cS 12 ++ [97 + k] ++ [32] ++ (digs pl ++ ([32] ++ (digs tl ++ [59])))) ((u, v, z), he, gu, fr, (k, nl, fp, bh, r)) ((u, v, z), he, gu, fr, (k + 1, upd nl k (nI 1), upd fp k (nI pl), upd bh k (nI tl), nmR r k)) 1 := by
  refine PRd_1 (fun b n p t hA hn h6 ht => ?_)
  obtain ⟨l1, l2⟩ := digs_le pl
  have hk2 : k < 2 := by omega
  have hlen : (cS 12 ++ [97 + k] ++ [32] ++ (digs pl ++ ([32] ++ (digs tl ++ [59])))).length = 11 + (digs pl).length := by
    rw [digs_1 (show tl < 10 by omega), cS_12]; simp; omega
  rw [hlen] at hn
  rw [cS_12] at hA
  have hA2 : AtT b p ([98, 111, 111, 116, 115] ++ ([32] ++ ([97 + k] ++ ([32] ++ (digs pl ++ ([32] ++ (digs tl ++ [59]))))))) := hA
  obtain ⟨s1, s2, s3⟩ := kw_at (w := [98, 111, 111, 116, 115]) (c := 32) (n := n) (t := t) (by decide) (by decide) (by decide) rfl (by show p + 5 < n; omega) ht (AtT_l (u := [98, 111, 111, 116, 115] ++ [32]) hA2)
  have hA3 : AtT b (p + 5) ([32] ++ ([97 + k] ++ ([32] ++ (digs pl ++ ([32] ++ (digs tl ++ [59])))))) := AtT_r (u := [98, 111, 111, 116, 115]) hA2
  have b5 : b (p + 5) = nI 32 := AtT_0 hA3
  have b6 : b (p + 5 + 1) = nI (97 + k) := AtT_0 (AtT_s hA3)
  have b7 : b (p + 5 + 1 + 1) = nI 32 := AtT_0 (AtT_s (AtT_s hA3))
  obtain ⟨v1, v2, v3⟩ := tk_sw (n := n) (p := p + 5) (by omega) b5 b6 b7 (by omega)
  have hB : AtT b (p + 7) ((32 :: digs pl ++ [32]) ++ (digs tl ++ [59])) := by
    have := AtT_s (AtT_s hA3)
    rw [show (32 :: digs pl ++ [32]) ++ (digs tl ++ [59]) = [32] ++ (digs pl ++ ([32] ++ (digs tl ++ [59]))) by simp]
    exact this
  have hB1 := AtT_l hB
  have hB2 : AtT b (p + 7 + 1 + (digs pl).length) (32 :: digs tl ++ [59]) := by
    have h1 : AtT b (p + 7) ((32 :: digs pl) ++ (32 :: digs tl ++ [59])) := by
      rw [show (32 :: digs pl) ++ (32 :: digs tl ++ [59]) = (32 :: digs pl ++ [32]) ++ (digs tl ++ [59]) by simp]
      exact hB
    have := AtT_r h1
    rw [List.length_cons, show p + 7 + ((digs pl).length + 1) = p + 7 + 1 + (digs pl).length by omega] at this
    exact this
  have w1 : tW b (tNx b n t) wBoots = 1 := tW_y h6 s3 s1 s2 (by omega) (kw_b (w := [98, 111, 111, 116, 115]) rfl (by decide +kernel) (AtT_l hA2))
  have n1 : ¬ tW b (tNx b n t) wRow = 1 := tW_n h6 s1 s2 (by omega) (Or.inl (by decide))
  have n2 : ¬ tW b (tNx b n t) wGutter = 1 := tW_n h6 s1 s2 (by omega) (Or.inl (by decide))
  have hp1 : (tNx b n t).1 = p + 5 := s2
  have hki : (tNx b n t).2.1 = 1 := s3
  have e0 : rSt b n (tNx b n t) ((u, v, z), he, gu, fr, (k, nl, fp, bh, r)) = ((rBt b n (tNx b n t) z (fun i => (nl i).toNatClampNeg) (k, nl, fp, bh, r)).1, ((u, v, z), he, gu, fr, (rBt b n (tNx b n t) z (fun i => (nl i).toNatClampNeg) (k, nl, fp, bh, r)).2)) := by
    unfold rSt
    dsimp only
    rw [if_neg n1, if_neg n2, if_pos w1]
  generalize tNx b n t = t1 at w1 n1 n2 hp1 e0 hki ⊢
  obtain ⟨pp, ki, st, va, ec, eo⟩ := t1
  dsimp only at hp1
  subst hp1
  obtain ⟨q1, q2, q3, q4⟩ := tk_nu (va := tV b n (p + 5) va) (n := n) (by omega) (Or.inl rfl) (by omega) hB1
  obtain ⟨r1, r2, r3, r4⟩ := tk_nu (va := tV b n (p + 7) (tV b n (p + 5) va)) (n := n) (by omega) (Or.inr rfl) (by rw [digs_1 (show tl < 10 by omega)]; show _ + 1 + 1 < n; omega) hB2
  have hs : b (p + 7 + 1 + (digs pl).length + 1 + (digs tl).length) = nI 59 := AtT_0 (AtT_r (u := digs tl) (AtT_s hB2))
  rw [digs_1 (show tl < 10 by omega)] at r2 hs
  have r2' : tP b n (p + 7 + 1 + (digs pl).length) = p + 7 + 1 + (digs pl).length + 1 + 1 := r2
  have hs' : b (p + 7 + 1 + (digs pl).length + 1 + 1) = nI 59 := hs
  have a1 : tmC b n (p + 5) = 0 := by
    unfold tmC
    rw [if_pos v3, v1, v2, if_pos (by omega)]
  have a2 : nmS (fun i => isN b (tS b n (p + 5)) (tP b n (p + 5)) (r i) ((fun i => (nl i).toNatClampNeg) i)) k 0 = -1 := by
    rcases hk with rfl | ⟨rfl, h1, h2⟩
    · rfl
    · show (if isN b (tS b n (p + 5)) (tP b n (p + 5)) (r 0) ((nl 0).toNatClampNeg) = 0 then -1 else nI 0) = -1
      have : isN b (tS b n (p + 5)) (tP b n (p + 5)) (r 0) ((nl 0).toNatClampNeg) = 0 := by
        unfold isN
        rw [h1, if_neg]
        rintro ⟨-, -, h3⟩
        have h4 := h3 0 (by decide)
        rw [v1, Nat.add_zero, b6, h2] at h4
        exact absurd h4 (by decide)
      rw [this, if_pos rfl]
  have a3 : tnC b n (p + 7) (tV b n (p + 5) va) 0 (nI z - 1) = 0 := by rw [nI_z1 (by omega)]; exact tnC_ok (lo := 0) q3 q4 (by omega) (by omega) (by omega)
  have a4 : tnC b n (p + 7 + 1 + (digs pl).length) (tV b n (p + 7) (tV b n (p + 5) va)) 1 9 = 0 := tnC_ok (lo := 1) (hi := 9) r3 r4 ht0.1 ht0.2 (by decide)
  have v2' : tP b n (p + 5) = p + 7 := v2
  have e1 : rBt b n (p + 5, ki, st, va, ec, eo) z (fun i => (nl i).toNatClampNeg) (k, nl, fp, bh, r) = (tSm b n (tTk 0 b n (tTk 0 b n (tTk 0 b n (p + 5, ki, st, va, ec, eo)))), (k + 1, upd nl k (nI 1), upd fp k (nI pl), upd bh k (nI tl), nmR r k)) := by
    unfold rBt
    dsimp only
    rw [if_neg (show ¬ 4 ≤ k by omega), a1, if_neg (by decide), a2, if_neg (by decide)]
    unfold tTk
    dsimp only
    have r4' := r4
    rw [q4] at r4'
    rw [v2', a3, if_neg (by decide), q2, a4, if_neg (by decide), v1, q4, r4', cpR_1 rfl b6, show p + 7 - (p + 5 + 1) = 1 by omega]
  have hp2 : (tTk 0 b n (tTk 0 b n (tTk 0 b n (p + 5, ki, st, va, ec, eo)))).1 = p + 7 + 1 + (digs pl).length + 1 + 1 := by
    show tP b n (tP b n (tP b n (p + 5))) = _
    rw [v2', q2, r2']
  obtain ⟨z1, z2⟩ := tSm_y (n := n) (by omega) hs' hp2
  rw [e0, e1, hlen]
  exact ⟨hki, z1, by rw [z2]; omega, rfl⟩
/-- a row's numbers -/
def itT (hs : List Nat) : List Nat := hs.flatMap (fun h => [32, 48 + h])
def heA (he : Nat → Int32) (s : Nat) : List Nat → (Nat → Int32)
  | [] => he
  | h :: t => heA (upd he s (nI h)) (s + 1) t
theorem heA_at : ∀ (hs : List Nat) (he : Nat → Int32) (s k : Nat), heA he s hs k = if s ≤ k ∧ k < s + hs.length then nI (hs.getD (k - s) 0) else he k
  | [], he, s, k => by
    show he k = _
    rw [if_neg (fun h => by have h2 : k < s + 0 := h.2; omega)]
  | h :: t, he, s, k => by
    have hl : (h :: t).length = t.length + 1 := rfl
    show heA (upd he s (nI h)) (s + 1) t k = _
    rw [heA_at t (upd he s (nI h)) (s + 1) k, List.length_cons]
    by_cases h1 : s + 1 ≤ k ∧ k < s + 1 + t.length
    · rw [if_pos h1, if_pos (by omega)]
      obtain ⟨q, rfl⟩ : ∃ q, k = s + 1 + q := ⟨k - (s + 1), by omega⟩
      rw [Nat.add_sub_cancel_left, show s + 1 + q - s = q + 1 by omega]
      rfl
    · rw [if_neg h1]
      by_cases h2 : k = s
      · subst h2
        rw [if_pos (by omega), pk_us, Nat.sub_self]
        rfl
      · rw [if_neg (by omega), pk_un h2]
theorem itT_len : ∀ hs : List Nat, (itT hs).length = 2 * hs.length
  | [] => rfl
  | h :: t => by
    show ([32, 48 + h] ++ itT t).length = _
    rw [List.length_append, itT_len t]
    show 2 + 2 * t.length = 2 * (t.length + 1)
    omega
theorem rwF_it {b : Nat → Int32} {n z lea mo e : Nat} (he59 : e = 59) : ∀ (hs : List Nat) (c : Nat) (he : Nat → Int32) (t : TT) (p : Nat), t.1 = p → AtT b p (itT hs ++ [e]) → p + 2 * hs.length + 1 ≤ n → c + hs.length ≤ mo → (∀ h ∈ hs, h < 10) → ∃ t2 : TT, t2.1 = p + 2 * hs.length ∧ rwF b n z lea (mo - c) c he t = rwF b n z lea (mo - (c + hs.length)) (c + hs.length) (heA he (z + c) hs) t2
  | [], c, he, t, p, ht, hA, hn, hc, hh => ⟨t, ht, rfl⟩
  | h :: r, c, he, t, p, ht, hA, hn, hc, hh => by
    subst ht
    rw [List.length_cons] at hn hc
    have hh0 := hh h List.mem_cons_self
    have hA0 : AtT b t.1 ([32, 48 + h] ++ (itT r ++ [e])) := hA
    have hA2 : AtT b (t.1 + 2) (itT r ++ [e]) := AtT_r (u := [32, 48 + h]) hA0
    have hx : ∃ e2 tl, (itT r ++ [e]) = e2 :: tl ∧ (e2 = 32 ∨ e2 = 59) := by
      cases r with
      | nil => exact ⟨e, [], rfl, Or.inr he59⟩
      | cons a q => exact ⟨32, _, rfl, Or.inl rfl⟩
    obtain ⟨e2, tl, h1, h2⟩ := hx
    have hA1 : AtT b t.1 (32 :: digs h ++ [e2]) := by
      rw [digs_1 hh0]
      rw [h1] at hA0
      exact AtT_l (u := [32, 48 + h, e2]) (w := tl) hA0
    obtain ⟨q1, q2, q3, q4⟩ := tk_nu (va := t.2.2.2.1) (n := n) (by omega) h2 (by rw [digs_1 hh0]; show t.1 + 1 + 1 < n; omega) hA1
    rw [digs_1 hh0] at q2
    have q2' : tP b n t.1 = t.1 + 2 := q2
    have hgo := rwF_go (b := b) (n := n) (z := z) (lea := lea) (mo := mo) (c := c) (he := he) (t := t) (by omega) q3 (by rw [q4]; exact (show ¬ nI 9 < nI h from nI_nlt (by omega) (by decide)))
    obtain ⟨t2, a1, a2⟩ := rwF_it (n := n) (z := z) (lea := lea) (mo := mo) he59 r (c + 1) (upd he (z + c) (nI h)) (tNx b n t) (t.1 + 2) q2' hA2 (by omega) (by omega) (fun x hx => hh x (List.mem_cons_of_mem _ hx))
    refine ⟨t2, by rw [a1, List.length_cons]; omega, ?_⟩
    rw [q4] at hgo
    rw [← hgo, a2, List.length_cons]
    show _ = rwF b n z lea (mo - (c + (r.length + 1))) (c + (r.length + 1)) (heA (upd he (z + c) (nI h)) (z + c + 1) r) t2
    rw [show c + (r.length + 1) = c + 1 + r.length by omega]
    rfl
/-- a row -/
theorem PRd_row {u v z : Nat} {he gu : Nat → Int32} {fr : Int32} {bb : BB} {hs : List Nat} (hh : ∀ h ∈ hs, h < 10) (hu : (u = 0 ∧ z = 0 ∧ 2 ≤ hs.length ∧ hs.length ≤ 5) ∨ (0 < u ∧ u < 8 ∧ v = hs.length ∧ 0 < v)) : PRd (cS 10 ++ itT hs ++ [59]) ((u, v, z), he, gu, fr, bb) ((u + 1, hs.length, (u + 1) * hs.length), heA he z hs, gu, fr, bb) 1 := by
  refine PRd_1 (fun b n p t hA hn h6 ht => ?_)
  have hlen : (cS 10 ++ itT hs ++ [59]).length = 4 + 2 * hs.length := by
    rw [cS_10, List.length_append, List.length_append, itT_len]; show 3 + _ + 1 = _; omega
  rw [hlen] at hn
  rw [cS_10] at hA
  have hA2 : AtT b p ([114, 111, 119] ++ (itT hs ++ [59])) := by rw [← List.append_assoc]; exact hA
  have hA3 : AtT b (p + 3) (itT hs ++ [59]) := AtT_r (u := [114, 111, 119]) hA2
  have h32 : AtT b p ([114, 111, 119] ++ [32]) := by
    cases hs with
    | nil => rcases hu with h | h <;> first | (simp at h; done) | (simp at h; omega)
    | cons a q =>
      have q1 : AtT b p ([114, 111, 119] ++ ([32] ++ ([48 + a] ++ (itT q ++ [59])))) := hA2
      rw [← List.append_assoc] at q1
      exact AtT_l q1
  obtain ⟨s1, s2, s3⟩ := kw_at (w := [114, 111, 119]) (c := 32) (n := n) (t := t) (by decide) (by decide) (by decide) rfl (by show p + 3 < n; omega) ht h32
  have w1 : tW b (tNx b n t) wRow = 1 := tW_y h6 s3 s1 s2 (by omega) (kw_b (w := [114, 111, 119]) rfl (by decide +kernel) (AtT_l hA2))
  have hki : (tNx b n t).2.1 = 1 := s3
  have hp1 : (tNx b n t).1 = p + 3 := s2
  have e0 : rSt b n (tNx b n t) ((u, v, z), he, gu, fr, bb) = ((rRw b n (tNx b n t) u v z (leO u v) (moO u v) he).1, ((rRw b n (tNx b n t) u v z (leO u v) (moO u v) he).2.2, (rRw b n (tNx b n t) u v z (leO u v) (moO u v) he).2.1, gu, fr, bb)) := by
    unfold rSt
    dsimp only
    rw [if_pos w1]
  have hsm : b (p + 3 + 2 * hs.length) = nI 59 := by
    have := AtT_0 (AtT_r (u := itT hs) hA3)
    rwa [itT_len] at this
  obtain ⟨k1, k2, k3⟩ := tk_sm (n := n) (p := p + 3 + 2 * hs.length) (by omega) hsm
  have hmo : 0 + hs.length ≤ moO u v := by
    unfold moO
    rcases hu with ⟨rfl, _, _, _⟩ | ⟨h1, _, h2, _⟩
    · rw [if_pos rfl]; omega
    · rw [if_neg (by omega)]; omega
  obtain ⟨t2, a1, a2⟩ := rwF_it (n := n) (z := z) (lea := leO u v) (mo := moO u v) rfl hs 0 he (tNx b n t) (p + 3) hp1 hA3 (by omega) hmo hh
  rw [Nat.zero_add, Nat.add_zero] at a2
  rcases hu with ⟨rfl, rfl, h2, h5⟩ | ⟨h1, h8, rfl, h9⟩
  · have a3 := rwF_1 (b := b) (n := n) (z := 0) (lea := leO 0 v) (mo := moO 0 v) (c := hs.length) (he := heA he 0 hs) (t := t2) (by show hs.length < 8; omega) (by rw [a1]; exact k3) h2
    have a4 := rRw_1 (b := b) (n := n) (u := 0) (v := v) (z := 0) (lea := leO 0 v) (mo := moO 0 v) (he := he) (t := tNx b n t) (by decide) (a2.trans a3).symm
    rw [e0, a4, hlen]
    refine ⟨hki, rfl, ?_, rfl⟩
    show tP b n t2.1 = _
    rw [a1, k2]
    omega
  · have hl : leO u hs.length = hs.length := by unfold leO; rw [if_neg (by omega)]
    have hm : moO u hs.length = hs.length := by unfold moO; rw [if_neg (by omega)]
    have a3 := rwF_no (b := b) (n := n) (z := z) (lea := leO u hs.length) (mo := moO u hs.length) (c := hs.length) (he := heA he z hs) (t := t2) (by rw [hm]; exact Nat.le_refl _)
    have a4 := rRw_2 (b := b) (n := n) (u := u) (v := hs.length) (z := z) (lea := leO u hs.length) (mo := moO u hs.length) (he := he) (t := tNx b n t) h8 (a2.trans a3).symm
    obtain ⟨z1, z2⟩ := tSm_y (n := n) (by omega) hsm a1
    rw [e0, a4, hlen, hm]
    exact ⟨hki, z1, by rw [z2]; omega, rfl⟩
/-- the whole text -/
theorem rFr_ok {b : Nat → Int32} {n k : Nat} {t : TT} {bb : BB} {he : Nat → Int32} {tx : List Nat} {x : PP} (hA : AtT b 0 tx) (hn : tx.length = n) (h6 : n ≤ 600) (hk : k < 600) (h : PRd tx ((0, 0, 0), he, (fun _ => 0), 0, (0, bb.2)) x k) (hu : 2 ≤ x.1.1) : (rFr b n t bb he).1.1 = 1 ∧ (rFr b n t bb he).2 = x := by
  obtain ⟨t2, a1, a2⟩ := h b n 0 (600 - k) (0, t.2.1, t.2.2.1, t.2.2.2.1, 0, -1) hA (by omega) h6 rfl
  rw [Nat.zero_add, hn] at a1
  have e1 : (tNx b n t2).2.1 = 0 := by
    show tK b n t2.1 = 0
    rw [a1]
    have : tS b n n = n := scan_end (Nat.le_refl _)
    unfold tK
    rw [this, if_pos (Nat.le_refl _)]
  have e2 : rSs b n (600 - k) (tNx b n t2) x = ((1, tNx b n t2), x) := by
    obtain ⟨q, hq⟩ : ∃ q, 600 - k = q + 1 := ⟨600 - k - 1, by omega⟩
    rw [hq]
    exact if_pos e1
  have e3 : rSs b n 600 (tNx b n (0, t.2.1, t.2.2.1, t.2.2.2.1, 0, -1)) ((0, 0, 0), he, (fun _ => 0), 0, (0, bb.2)) = ((1, tNx b n t2), x) := by
    rw [show 600 = 600 - k + k by omega, a2, e2]
  have e4 : rFr b n t bb he = ((1, tNx b n t2), x) := by
    unfold rFr
    rw [e3]
    dsimp only
    rw [if_neg (by decide), if_neg (by omega)]
  rw [e4]
  exact ⟨rfl, rfl⟩
