/-! two texts that agree up to their length read alike -/
section CGR
variable {b b' : Nat → Int32} {n : Nat}
theorem scn_c {P : Int32 → Bool} (h : ∀ i, i < n → b i = b' i) : ∀ d p, p + d ≤ n → scn P b d p = scn P b' d p
  | 0, p, _ => rfl
  | d + 1, p, hd => by
    show (if P (b p) then scn P b d (p + 1) else p) = (if P (b' p) then scn P b' d (p + 1) else p)
    rw [h p (by omega), scn_c h d (p + 1) (by omega)]
theorem scan_c {P : Int32 → Bool} (h : ∀ i, i < n → b i = b' i) (p : Nat) : scan P b n p = scan P b' n p := by
  unfold scan
  by_cases hp : p ≤ n
  · exact scn_c h _ _ (by omega)
  · rw [show n - p = 0 by omega]; rfl
theorem tS_c (h : ∀ i, i < n → b i = b' i) (p : Nat) : tS b n p = tS b' n p := scan_c h p
theorem nvF_c (h : ∀ i, i < n → b i = b' i) {s : Nat} : ∀ d, s + d ≤ n → nvF b s d = nvF b' s d
  | 0, _ => rfl
  | d + 1, hd => by
    show 10 * nvF b s d + b (s + d) - 48 = 10 * nvF b' s d + b' (s + d) - 48
    rw [nvF_c h d (by omega), h (s + d) (by omega)]
theorem tP_c (h : ∀ i, i < n → b i = b' i) (p : Nat) : tP b n p = tP b' n p := by
  unfold tP
  rw [tS_c h p]
  by_cases hn : n ≤ tS b' n p
  · rw [if_pos hn, if_pos hn]
  · rw [if_neg hn, if_neg hn, h _ (by omega), scan_c h, scan_c h]
theorem tK_c (h : ∀ i, i < n → b i = b' i) (p : Nat) : tK b n p = tK b' n p := by
  unfold tK
  rw [tS_c h p]
  by_cases hn : n ≤ tS b' n p
  · rw [if_pos hn, if_pos hn]
  · rw [if_neg hn, if_neg hn, h _ (by omega), scan_c h, scan_c h]
theorem tV_c (h : ∀ i, i < n → b i = b' i) (p : Nat) (va : Int32) : tV b n p va = tV b' n p va := by
  unfold tV
  rw [tS_c h p]
  by_cases hn : n ≤ tS b' n p
  · rw [if_pos hn, if_pos hn]
  · rw [if_neg hn, if_neg hn, h _ (by omega), scan_c h]
    have hs := scan_le (P := cD) (b := b') (n := n) (p := tS b' n p) (by omega)
    rw [nvF_c h _ (by omega)]
theorem tnC_c (h : ∀ i, i < n → b i = b' i) (p : Nat) (va lo hi : Int32) : tnC b n p va lo hi = tnC b' n p va lo hi := by unfold tnC; rw [tK_c h, tV_c h]
theorem tmC_c (h : ∀ i, i < n → b i = b' i) (p : Nat) : tmC b n p = tmC b' n p := by unfold tmC; rw [tK_c h, tP_c h, tS_c h]
theorem tsC_c (h : ∀ i, i < n → b i = b' i) (p : Nat) : tsC b n p = tsC b' n p := by unfold tsC; rw [tK_c h]
theorem tNx_c (h : ∀ i, i < n → b i = b' i) (t : TT) : tNx b n t = tNx b' n t := by unfold tNx; rw [tP_c h, tK_c h, tS_c h, tV_c h]
theorem tTk_c (h : ∀ i, i < n → b i = b' i) (C : Int32) (t : TT) : tTk C b n t = tTk C b' n t := by unfold tTk; rw [tP_c h, tK_c h, tS_c h, tV_c h]
theorem tSm_c (h : ∀ i, i < n → b i = b' i) (t : TT) : tSm b n t = tSm b' n t := by unfold tSm; rw [tsC_c h, tTk_c h]
theorem rRn_c (h : ∀ i, i < n → b i = b' i) (t : TT) (fr : Int32) : rRn b n t fr = rRn b' n t fr := by unfold rRn; simp only [tnC_c h, tSm_c h, tTk_c h, tV_c h]
theorem rGt2_c (h : ∀ i, i < n → b i = b' i) (t : TT) (c : Nat) (gu : Nat → Int32) : rGt2 b n t c gu = rGt2 b' n t c gu := by unfold rGt2; simp only [tnC_c h, tSm_c h, tTk_c h, tV_c h]
theorem rGt_c (h : ∀ i, i < n → b i = b' i) (t : TT) (z : Nat) (gu : Nat → Int32) : rGt b n t z gu = rGt b' n t z gu := by unfold rGt; simp only [tnC_c h, tTk_c h, tV_c h, rGt2_c h]
theorem rwF_c (h : ∀ i, i < n → b i = b' i) {z lea : Nat} : ∀ (f c : Nat) (he : Nat → Int32) (t : TT), rwF b n z lea f c he t = rwF b' n z lea f c he t
  | 0, c, he, t => rfl
  | f + 1, c, he, t => by
    unfold rwF
    simp only [tK_c h, tV_c h, tNx_c h, rwF_c h f]
theorem rRw_c (h : ∀ i, i < n → b i = b' i) (t : TT) (u v z lea mo : Nat) (he : Nat → Int32) : rRw b n t u v z lea mo he = rRw b' n t u v z lea mo he := by
  unfold rRw
  simp only [rwF_c h, tSm_c h]
theorem tP_n {p q : Nat} (h1 : tS b' n p ≤ q) (h2 : q < tP b' n p) : q < n := by
  by_cases hp : p ≤ n
  · have := (tP_le (b := b') hp).2; omega
  · exfalso
    have e : tS b' n p = p := by unfold tS scan; rw [show n - p = 0 by omega]; rfl
    have e2 : tP b' n p = p := by unfold tP; rw [e, if_pos (by omega)]
    omega
theorem isN_c (h : ∀ i, i < n → b i = b' i) (p : Nat) (f : Nat → Int32) (L : Nat) : isN b (tS b' n p) (tP b' n p) f L = isN b' (tS b' n p) (tP b' n p) f L := by
  unfold isN
  by_cases h1 : tP b' n p - tS b' n p = L ∧ L ≤ 6 ∧ ∀ i, i < L → b (tS b' n p + i) = f i
  · rw [if_pos h1, if_pos ⟨h1.1, h1.2.1, fun i hi => by rw [← h _ (tP_n (p := p) (b' := b') (by omega) (by omega))]; exact h1.2.2 i hi⟩]
  · rw [if_neg h1, if_neg (fun h2 => h1 ⟨h2.1, h2.2.1, fun i hi => by rw [h _ (tP_n (p := p) (b' := b') (by omega) (by omega))]; exact h2.2.2 i hi⟩)]
theorem cpR_c (h : ∀ i, i < n → b i = b' i) (p k : Nat) (r : Nat → Nat → Int32) : cpR b (tS b' n p) (tP b' n p) k r = cpR b' (tS b' n p) (tP b' n p) k r := by
  funext j
  unfold cpR
  by_cases hj : k = j
  · rw [if_pos hj, if_pos hj]
    funext q
    unfold va_cpy
    by_cases hq : 0 ≤ q ∧ q < 0 + (tP b' n p - tS b' n p)
    · rw [if_pos hq, if_pos hq]
      exact h _ (tP_n (p := p) (b' := b') (by omega) (by omega))
    · rw [if_neg hq, if_neg hq]
  · rw [if_neg hj, if_neg hj]
theorem rBt_c (h : ∀ i, i < n → b i = b' i) (t : TT) (z : Nat) (nlN : Nat → Nat) (bb : BB) : rBt b n t z nlN bb = rBt b' n t z nlN bb := by
  obtain ⟨k, nl, fp, bh, r⟩ := bb
  unfold rBt
  simp only [tmC_c h, tnC_c h, tTk_c h, tSm_c h, tS_c h, tP_c h, isN_c h, cpR_c h]
theorem isW_c (h : ∀ i, i < n → b i = b' i) {ki : Int32} {s P : Nat} {w : List Int32} (hP : P ≤ n) : isW b ki s P w = isW b' ki s P w := by
  unfold isW
  by_cases h1 : ki = 1 ∧ P - s = w.length ∧ ∀ i, i < w.length → b (s + i) = w.getD i 0
  · rw [if_pos h1, if_pos ⟨h1.1, h1.2.1, fun i hi => by rw [← h _ (by omega)]; exact h1.2.2 i hi⟩]
  · rw [if_neg h1, if_neg (fun h2 => h1 ⟨h2.1, h2.2.1, fun i hi => by rw [h _ (by omega)]; exact h2.2.2 i hi⟩)]
theorem tW_c (h : ∀ i, i < n → b i = b' i) {t : TT} (ht : t.1 ≤ n) (w : List Int32) : tW b t w = tW b' t w := isW_c h ht
theorem rSt_c (h : ∀ i, i < n → b i = b' i) {t : TT} (ht : t.1 ≤ n) (x : PP) : rSt b n t x = rSt b' n t x := by
  obtain ⟨⟨u, v, z⟩, he, gu, fr, bb⟩ := x
  unfold rSt
  simp only [tW_c h ht, rRw_c h, rGt_c h, rBt_c h, rRn_c h]
theorem rSs_c (h : ∀ i, i < n → b i = b' i) : ∀ (f : Nat) (t : TT) (x : PP), PIv x → t.1 ≤ n → rSs b n f t x = rSs b' n f t x
  | 0, t, x, _, _ => rfl
  | f + 1, t, x, hx, ht => by
    unfold rSs
    rw [rSt_c h ht]
    by_cases h0 : t.2.1 = 0
    · rw [if_pos h0, if_pos h0]
    · rw [if_neg h0, if_neg h0]
      by_cases h1 : (rSt b' n t x).1.1 = 0
      · rw [if_pos h1, if_pos h1]
      · obtain ⟨k1, k2, k3⟩ := rSt_ok hx ht h1
        rw [if_neg h1, if_neg h1, tNx_c h, rSs_c h f _ _ k1 (tP_le k3).2]
theorem rFr_c (h : ∀ i, i < n → b i = b' i) (t : TT) (bb : BB) (he : Nat → Int32) : rFr b n t bb he = rFr b' n t bb he := by
  unfold rFr
  rw [tNx_c h, rSs_c h 600 _ _ PIv_0 (tP_le (Nat.zero_le n)).2]
theorem nu1_c (h : ∀ i, i < n → b i = b' i) : nu1 b n = nu1 b' n := by funext ct lo hi t f; unfold nu1; simp only [tnC_c h, tTk_c h, tV_c h]
theorem nu2_c (h : ∀ i, i < n → b i = b' i) : nu2 b n = nu2 b' n := by funext ct lo hi t f; unfold nu2; simp only [tnC_c h, tTk_c h, tV_c h]
theorem nu3_c (h : ∀ i, i < n → b i = b' i) : nu3 b n = nu3 b' n := by funext ct lo hi t f; unfold nu3; simp only [tnC_c h, tTk_c h, tV_c h]
theorem nuN_c (h : ∀ i, i < n → b i = b' i) : nuN b n = nuN b' n := by
  funext ct bcn nlN r t f
  unfold nuN nuG
  simp only [tmC_c h, tTk_c h, tS_c h, tP_c h, isN_c h]
theorem rNx_c (h : ∀ i, i < n → b i = b' i) (x : PP) (ct k : Nat) (t : TT) (f : CF) : rNx b n x ct k t f = rNx b' n x ct k t f := by
  unfold rNx rNum
  rw [nu1_c h, nu2_c h, nu3_c h, nuN_c h]
theorem vbF_c (h : ∀ i, i < n → b i = b' i) {t : TT} (ht : t.1 ≤ n) : vbF b t = vbF b' t := by
  unfold vbF
  have e : vbG b t.2.1 t.2.2.1.toNatClampNeg t.1 = vbG b' t.2.1 t.2.2.1.toNatClampNeg t.1 := funext fun i => isW_c h ht
  rw [e]
theorem rSl_c (h : ∀ i, i < n → b i = b' i) (x : PP) : ∀ (f : Nat) (t : TT) (s : SC), t.1 ≤ n → rSl b n x f t s = rSl b' n x f t s
  | 0, t, s, _ => rfl
  | f + 1, t, (k, vb, g), ht => by
    unfold rSl
    rw [vbF_c h ht]
    by_cases h0 : t.2.1 = 0
    · rw [if_pos h0, if_pos h0]
    · rw [if_neg h0, if_neg h0]
      cases vbF b' t with
      | none => rfl
      | some v =>
        have k3 : (tSm b' n (rNx b' n x k v t g).1.2).2.1 ≤ n := (tP_le (rNx_le ht)).2
        simp only [rNx_c h, tSm_c h, tNx_c h]
        rw [rSl_c h x f _ _ (tP_le k3).2]
theorem scR_c (h : ∀ i, i < n → b i = b' i) (x : PP) (t : TT) (s : SC) : rSl b n x 31 (tNx b n ((0, t.2.1, t.2.2.1, t.2.2.2.1, 0, -1) : TT)) s = rSl b' n x 31 (tNx b' n ((0, t.2.1, t.2.2.1, t.2.2.2.1, 0, -1) : TT)) s := by
  rw [tNx_c h, rSl_c h x 31 _ _ (tP_le (Nat.zero_le n)).2]
end CGR
