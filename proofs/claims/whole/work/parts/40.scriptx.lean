theorem tnC_rg {b : Nat → Int32} {n p : Nat} {va lo hi : Int32} (h : tnC b n p va lo hi = 0) : lo ≤ tV b n p va ∧ tV b n p va ≤ hi := by
  unfold tnC at h
  by_cases h1 : tK b n p = 2
  · rw [if_pos h1] at h
    by_cases h2 : tV b n p va < lo
    · rw [if_pos h2] at h; exact absurd h (by decide)
    · rw [if_neg h2] at h
      by_cases h3 : hi < tV b n p va
      · rw [if_pos h3] at h; exact absurd h (by decide)
      · exact ⟨Int32.not_lt.mp h2, Int32.not_lt.mp h3⟩
  · rw [if_neg h1] at h; exact absurd h (by decide)
theorem upd_at {f : Nat → Int32} {i : Nat} {v : Int32} : upd f i v i = v := if_pos rfl
theorem upd_ne {f : Nat → Int32} {i j : Nat} {v : Int32} (h : j ≠ i) : upd f i v j = f j := if_neg h
/-- rows that agree but at ct -/
def agr (ct : Nat) (f g : CF) : Prop := ∀ i, i ≠ ct → g.1 i = f.1 i ∧ g.2.1 i = f.2.1 i ∧ g.2.2 i = f.2.2 i
section NU
variable {b : Nat → Int32} {n ct z bcn : Nat} {lo hi : Int32} {t : TT} {f : CF} {nlN : Nat → Nat} {r : Nat → Nat → Int32}
theorem nu1_a : agr ct f (nu1 b n ct lo hi t f).2 := fun i h => ⟨upd_ne h, rfl, rfl⟩
theorem nu2_a : agr ct f (nu2 b n ct lo hi t f).2 := fun i h => ⟨rfl, upd_ne h, rfl⟩
theorem nu3_a : agr ct f (nu3 b n ct lo hi t f).2 := fun i h => ⟨rfl, rfl, upd_ne h⟩
theorem nuN_a : agr ct f (nuN b n ct bcn nlN r t f).2 := by
  unfold nuN
  split
  · split <;> exact fun i h => ⟨upd_ne h, rfl, rfl⟩
  · exact fun i h => ⟨rfl, rfl, rfl⟩
theorem nuA_a {x : NR} {k : TT → CF → NR} (h1 : agr ct f x.2) (h2 : ∀ t g, agr ct g (k t g).2) : agr ct f (nuA x k).2 := by
  unfold nuA
  split
  · exact h1
  · exact fun i h => ⟨(h2 _ _ i h).1.trans (h1 i h).1, (h2 _ _ i h).2.1.trans (h1 i h).2.1, (h2 _ _ i h).2.2.trans (h1 i h).2.2⟩
theorem rNum_a : ∀ k, agr ct f (rNum b n z ct bcn nlN r k t f).2
  | 0 => nu1_a
  | 1 => nuA_a nu1_a (fun _ _ => nuA_a nu2_a (fun _ _ => nu3_a))
  | 3 => nuA_a nu1_a (fun _ _ => nu2_a)
  | 5 => nuA_a nuN_a (fun _ _ => nu2_a)
  | 6 => nuN_a
  | 7 => nu1_a
  | 2 => nu1_a
  | 4 => nu1_a
  | _ + 8 => nu1_a
theorem nu1_r (h : ¬ (nu1 b n ct lo hi t f).1.1 = 0) : lo ≤ (nu1 b n ct lo hi t f).2.1 ct ∧ (nu1 b n ct lo hi t f).2.1 ct ≤ hi := by
  show lo ≤ upd _ ct _ ct ∧ upd _ ct _ ct ≤ hi
  rw [upd_at]; exact tnC_rg (fe_n h)
theorem nu2_r (h : ¬ (nu2 b n ct lo hi t f).1.1 = 0) : lo ≤ (nu2 b n ct lo hi t f).2.2.1 ct ∧ (nu2 b n ct lo hi t f).2.2.1 ct ≤ hi := by
  show lo ≤ upd _ ct _ ct ∧ upd _ ct _ ct ≤ hi
  rw [upd_at]; exact tnC_rg (fe_n h)
theorem nu3_r (h : ¬ (nu3 b n ct lo hi t f).1.1 = 0) : lo ≤ (nu3 b n ct lo hi t f).2.2.2 ct ∧ (nu3 b n ct lo hi t f).2.2.2 ct ≤ hi := by
  show lo ≤ upd _ ct _ ct ∧ upd _ ct _ ct ≤ hi
  rw [upd_at]; exact tnC_rg (fe_n h)
theorem nmS_in {g : Nat → Int32} : ∀ (f i : Nat), nmS g f i = -1 ∨ ∃ q, q < i + f ∧ nmS g f i = nI q
  | 0, i => Or.inl rfl
  | f + 1, i => by
    unfold nmS
    split
    · rcases nmS_in (g := g) f (i + 1) with h | ⟨q, h1, h2⟩
      · exact Or.inl h
      · exact Or.inr ⟨q, by omega, h2⟩
    · exact Or.inr ⟨i, by omega, rfl⟩
theorem nuN_r (h : ¬ (nuN b n ct bcn nlN r t f).1.1 = 0) : ∃ q, q < bcn ∧ (nuN b n ct bcn nlN r t f).2.1 ct = nI q := by
  unfold nuN at h ⊢
  by_cases h1 : tmC b n t.1 = 0
  · rw [if_pos h1] at h ⊢
    by_cases h2 : nuG b n bcn nlN r t = -1
    · rw [if_pos h2] at h; exact absurd rfl h
    · rw [if_neg h2]
      show ∃ q, q < bcn ∧ upd _ ct _ ct = nI q
      rw [upd_at]
      rcases nmS_in (g := fun i => isN b (tS b n t.1) (tP b n t.1) (r i) (nlN i)) bcn 0 with h3 | ⟨q, h3, h4⟩
      · exact absurd h3 h2
      · exact ⟨q, by omega, h4⟩
  · rw [if_neg h1] at h; exact absurd rfl h
end NU
/-- the other ranges of a statement's numbers -/
def vRG (k : Nat) (a b c : Int32) : Prop := (k = 0 → 0 ≤ a ∧ a ≤ 9) ∧ (k = 1 → (1 ≤ b ∧ b ≤ 20) ∧ 1 ≤ c ∧ c ≤ 60) ∧ (k = 3 → 1 ≤ b ∧ b ≤ 9) ∧ (k = 7 → 1 ≤ a)
/-- statement i is one -/
def SO (x : PP) (vb : Nat → Int32) (g : CF) (i : Nat) : Prop := ∃ v, v < 8 ∧ vb i = nI v ∧ vOK x.1.2.2 x.2.2.2.2.1 v (g.1 i) (g.2.1 i) ∧ vRG v (g.1 i) (g.2.1 i) (g.2.2 i)
theorem rN_0 {b : Nat → Int32} {n ct z bcn : Nat} {nlN : Nat → Nat} {r : Nat → Nat → Int32} {t : TT} {f : CF} : rNum b n z ct bcn nlN r 0 t f = nu1 b n ct 0 9 t f := rfl
theorem rN_1 {b : Nat → Int32} {n ct z bcn : Nat} {nlN : Nat → Nat} {r : Nat → Nat → Int32} {t : TT} {f : CF} : rNum b n z ct bcn nlN r 1 t f = nuA (nu1 b n ct 0 (nI z - 1) t f) (fun t f => nuA (nu2 b n ct 1 20 t f) (fun t f => nu3 b n ct 1 60 t f)) := rfl
theorem rN_2 {b : Nat → Int32} {n ct z bcn : Nat} {nlN : Nat → Nat} {r : Nat → Nat → Int32} {t : TT} {f : CF} : rNum b n z ct bcn nlN r 2 t f = nu1 b n ct 0 (nI z - 1) t f := rfl
theorem rN_3 {b : Nat → Int32} {n ct z bcn : Nat} {nlN : Nat → Nat} {r : Nat → Nat → Int32} {t : TT} {f : CF} : rNum b n z ct bcn nlN r 3 t f = nuA (nu1 b n ct 0 (nI z - 1) t f) (fun t f => nu2 b n ct 1 9 t f) := rfl
theorem rN_4 {b : Nat → Int32} {n ct z bcn : Nat} {nlN : Nat → Nat} {r : Nat → Nat → Int32} {t : TT} {f : CF} : rNum b n z ct bcn nlN r 4 t f = nu1 b n ct 0 (nI z - 1) t f := rfl
theorem rN_5 {b : Nat → Int32} {n ct z bcn : Nat} {nlN : Nat → Nat} {r : Nat → Nat → Int32} {t : TT} {f : CF} : rNum b n z ct bcn nlN r 5 t f = nuA (nuN b n ct bcn nlN r t f) (fun t f => nu2 b n ct 0 3 t f) := rfl
theorem rN_6 {b : Nat → Int32} {n ct z bcn : Nat} {nlN : Nat → Nat} {r : Nat → Nat → Int32} {t : TT} {f : CF} : rNum b n z ct bcn nlN r 6 t f = nuN b n ct bcn nlN r t f := rfl
theorem rN_7 {b : Nat → Int32} {n ct z bcn : Nat} {nlN : Nat → Nat} {r : Nat → Nat → Int32} {t : TT} {f : CF} : rNum b n z ct bcn nlN r 7 t f = nu1 b n ct 1 60 t f := rfl
theorem nuA_c {x : NR} {k : TT → CF → NR} (h : ¬ (nuA x k).1.1 = 0) : ¬ x.1.1 = 0 ∧ nuA x k = k x.1.2 x.2 := by
  by_cases h1 : x.1.1 = 0
  · rw [nuA_0 h1] at h; exact absurd h1 h
  · exact ⟨h1, nuA_1 h1⟩
theorem vOK_1 {z bcn k : Nat} {a b : Int32} (h : k = 1 ∨ k = 2 ∨ k = 3 ∨ k = 4) (ha : ∃ q, q < z ∧ a = nI q) : vOK z bcn k a b := ⟨fun _ => ha, by omega, by omega, by omega⟩
theorem vRG_0 {k : Nat} {a b c : Int32} (h : k = 2 ∨ k = 4 ∨ k = 5 ∨ k = 6) : vRG k a b c := ⟨by omega, by omega, by omega, by omega⟩
theorem rR_0 {b : Nat → Int32} {n ct z bcn : Nat} {nlN : Nat → Nat} {r : Nat → Nat → Int32} {t : TT} {f : CF} {R : NR} (hR : R = nu1 b n ct 0 9 t f) (h : ¬ R.1.1 = 0) : vOK z bcn 0 (R.2.1 ct) (R.2.2.1 ct) ∧ vRG 0 (R.2.1 ct) (R.2.2.1 ct) (R.2.2.2 ct) := by
  subst hR
  exact ⟨⟨by omega, by omega, by omega, by omega⟩, fun _ => nu1_r h, by omega, by omega, by omega⟩
theorem rR_1 {b : Nat → Int32} {n ct z bcn : Nat} {nlN : Nat → Nat} {r : Nat → Nat → Int32} {t : TT} {f : CF} (hz : z < 2 ^ 30) {R : NR} (hR : R = nuA (nu1 b n ct 0 (nI z - 1) t f) (fun t f => nuA (nu2 b n ct 1 20 t f) (fun t f => nu3 b n ct 1 60 t f))) (h : ¬ R.1.1 = 0) : vOK z bcn 1 (R.2.1 ct) (R.2.2.1 ct) ∧ vRG 1 (R.2.1 ct) (R.2.2.1 ct) (R.2.2.2 ct) := by
  rw [hR] at h
  obtain ⟨h1, e1⟩ := nuA_c h
  rw [e1] at h
  obtain ⟨h2, e2⟩ := nuA_c h
  rw [e2] at h
  rw [hR, e1, e2]
  have q1 := nu1_r h1
  exact ⟨vOK_1 (Or.inl rfl) (nI_ex hz q1.1 q1.2), by omega, fun _ => ⟨nu2_r h2, nu3_r h⟩, by omega, by omega⟩
theorem rR_2 {b : Nat → Int32} {n ct z bcn : Nat} {nlN : Nat → Nat} {r : Nat → Nat → Int32} {t : TT} {f : CF} (hz : z < 2 ^ 30) {R : NR} (hR : R = nu1 b n ct 0 (nI z - 1) t f) (h : ¬ R.1.1 = 0) : vOK z bcn 2 (R.2.1 ct) (R.2.2.1 ct) ∧ vRG 2 (R.2.1 ct) (R.2.2.1 ct) (R.2.2.2 ct) := by
  subst hR
  have q1 := nu1_r h
  exact ⟨vOK_1 (by omega) (nI_ex hz q1.1 q1.2), vRG_0 (by omega)⟩
theorem rR_4 {b : Nat → Int32} {n ct z bcn : Nat} {nlN : Nat → Nat} {r : Nat → Nat → Int32} {t : TT} {f : CF} (hz : z < 2 ^ 30) {R : NR} (hR : R = nu1 b n ct 0 (nI z - 1) t f) (h : ¬ R.1.1 = 0) : vOK z bcn 4 (R.2.1 ct) (R.2.2.1 ct) ∧ vRG 4 (R.2.1 ct) (R.2.2.1 ct) (R.2.2.2 ct) := by
  subst hR
  have q1 := nu1_r h
  exact ⟨vOK_1 (by omega) (nI_ex hz q1.1 q1.2), vRG_0 (by omega)⟩
theorem rR_3 {b : Nat → Int32} {n ct z bcn : Nat} {nlN : Nat → Nat} {r : Nat → Nat → Int32} {t : TT} {f : CF} (hz : z < 2 ^ 30) {R : NR} (hR : R = nuA (nu1 b n ct 0 (nI z - 1) t f) (fun t f => nu2 b n ct 1 9 t f)) (h : ¬ R.1.1 = 0) : vOK z bcn 3 (R.2.1 ct) (R.2.2.1 ct) ∧ vRG 3 (R.2.1 ct) (R.2.2.1 ct) (R.2.2.2 ct) := by
  rw [hR] at h
  obtain ⟨h1, e1⟩ := nuA_c h
  rw [e1] at h
  rw [hR, e1]
  have q1 := nu1_r h1
  exact ⟨vOK_1 (by omega) (nI_ex hz q1.1 q1.2), by omega, by omega, fun _ => nu2_r h, by omega⟩
theorem rR_5 {b : Nat → Int32} {n ct z bcn : Nat} {nlN : Nat → Nat} {r : Nat → Nat → Int32} {t : TT} {f : CF} {R : NR} (hR : R = nuA (nuN b n ct bcn nlN r t f) (fun t f => nu2 b n ct 0 3 t f)) (h : ¬ R.1.1 = 0) : vOK z bcn 5 (R.2.1 ct) (R.2.2.1 ct) ∧ vRG 5 (R.2.1 ct) (R.2.2.1 ct) (R.2.2.2 ct) := by
  rw [hR] at h
  obtain ⟨h1, e1⟩ := nuA_c h
  rw [e1] at h
  rw [hR, e1]
  have q1 := nu2_r h
  have q2 := nuN_r h1
  exact ⟨⟨by omega, fun _ => q2, fun _ => rg_ex (k := 3) (by decide) q1.1 q1.2 |>.imp fun j hj => ⟨by omega, hj.2⟩, by omega⟩, vRG_0 (by omega)⟩
theorem rR_6 {b : Nat → Int32} {n ct z bcn : Nat} {nlN : Nat → Nat} {r : Nat → Nat → Int32} {t : TT} {f : CF} {R : NR} (hR : R = nuN b n ct bcn nlN r t f) (h : ¬ R.1.1 = 0) : vOK z bcn 6 (R.2.1 ct) (R.2.2.1 ct) ∧ vRG 6 (R.2.1 ct) (R.2.2.1 ct) (R.2.2.2 ct) := by
  subst hR
  have q2 := nuN_r h
  exact ⟨⟨by omega, fun _ => q2, by omega, by omega⟩, vRG_0 (by omega)⟩
theorem rR_7 {b : Nat → Int32} {n ct z bcn : Nat} {nlN : Nat → Nat} {r : Nat → Nat → Int32} {t : TT} {f : CF} {R : NR} (hR : R = nu1 b n ct 1 60 t f) (h : ¬ R.1.1 = 0) : vOK z bcn 7 (R.2.1 ct) (R.2.2.1 ct) ∧ vRG 7 (R.2.1 ct) (R.2.2.1 ct) (R.2.2.2 ct) := by
  subst hR
  have q1 := nu1_r h
  exact ⟨⟨by omega, by omega, by omega, fun _ => rg_ex (k := 60) (by decide) (Int32.le_trans (by decide) q1.1) q1.2⟩, by omega, by omega, by omega, fun _ => q1.1⟩
theorem rNx_r {b : Nat → Int32} {n ct : Nat} {x : PP} {t : TT} {f : CF} (hx : PIv x) (v : Nat) (hv : v < 8) (h : ¬ (rNx b n x ct v t f).1.1 = 0) : vOK x.1.2.2 x.2.2.2.2.1 v ((rNx b n x ct v t f).2.1 ct) ((rNx b n x ct v t f).2.2.1 ct) ∧ vRG v ((rNx b n x ct v t f).2.1 ct) ((rNx b n x ct v t f).2.2.1 ct) ((rNx b n x ct v t f).2.2.2 ct) := by
  have h64 := (PIv_z hx).1
  generalize hR : rNx b n x ct v t f = R at h ⊢
  replace hR := hR.symm
  rcases (show v = 0 ∨ v = 1 ∨ v = 2 ∨ v = 3 ∨ v = 4 ∨ v = 5 ∨ v = 6 ∨ v = 7 by omega) with rfl | rfl | rfl | rfl | rfl | rfl | rfl | rfl
  · exact rR_0 (nlN := fun i => (x.2.2.2.2.2.1 i).toNatClampNeg) (r := x.2.2.2.2.2.2.2.2) (hR.trans rN_0) h
  · exact rR_1 (nlN := fun i => (x.2.2.2.2.2.1 i).toNatClampNeg) (r := x.2.2.2.2.2.2.2.2) (by omega) (hR.trans rN_1) h
  · exact rR_2 (nlN := fun i => (x.2.2.2.2.2.1 i).toNatClampNeg) (r := x.2.2.2.2.2.2.2.2) (by omega) (hR.trans rN_2) h
  · exact rR_3 (nlN := fun i => (x.2.2.2.2.2.1 i).toNatClampNeg) (r := x.2.2.2.2.2.2.2.2) (by omega) (hR.trans rN_3) h
  · exact rR_4 (nlN := fun i => (x.2.2.2.2.2.1 i).toNatClampNeg) (r := x.2.2.2.2.2.2.2.2) (by omega) (hR.trans rN_4) h
  · exact rR_5 (nlN := fun i => (x.2.2.2.2.2.1 i).toNatClampNeg) (r := x.2.2.2.2.2.2.2.2) (hR.trans rN_5) h
  · exact rR_6 (nlN := fun i => (x.2.2.2.2.2.1 i).toNatClampNeg) (r := x.2.2.2.2.2.2.2.2) (hR.trans rN_6) h
  · exact rR_7 (nlN := fun i => (x.2.2.2.2.2.1 i).toNatClampNeg) (r := x.2.2.2.2.2.2.2.2) (hR.trans rN_7) h
theorem SO_a {x : PP} {vb : Nat → Int32} {g g2 : CF} {ct i : Nat} {v : Int32} (ha : agr ct g g2) (hi : i < ct) (h : SO x vb g i) : SO x (upd vb ct v) g2 i := by
  obtain ⟨w, h1, h2, h3, h4⟩ := h
  obtain ⟨e1, e2, e3⟩ := ha i (by omega)
  refine ⟨w, h1, ?_, ?_, ?_⟩
  · rw [upd_ne (by omega)]; exact h2
  · rw [e1, e2]; exact h3
  · rw [e1, e2, e3]; exact h4
theorem rSl_so {b : Nat → Int32} {n : Nat} {x : PP} (hx : PIv x) : ∀ (fu : Nat) (t : TT) (k : Nat) (vb : Nat → Int32) (g : CF), k ≤ 30 → (∀ i, i < k → SO x vb g i) → (rSl b n x fu t (k, vb, g)).2.1 ≤ 30 ∧ ∀ i, i < (rSl b n x fu t (k, vb, g)).2.1 → SO x (rSl b n x fu t (k, vb, g)).2.2.1 (rSl b n x fu t (k, vb, g)).2.2.2 i
  | 0, t, k, vb, g, h30, h => ⟨h30, h⟩
  | fu + 1, t, k, vb, g, h30, h => by
    unfold rSl
    split
    · exact ⟨h30, h⟩
    · cases hv : vbF b t with
      | none => exact ⟨h30, h⟩
      | some v =>
        dsimp only
        by_cases hk : k = 30
        · rw [if_pos hk]; exact ⟨h30, h⟩
        · rw [if_neg hk]
          have hkeep : ∀ i, i < k → SO x (upd vb k (nI v)) (rNx b n x k v t g).2 i := fun i hi => SO_a (rNum_a v) hi (h i hi)
          by_cases h1 : (rNx b n x k v t g).1.1 = 0
          · rw [if_pos h1]; exact ⟨h30, hkeep⟩
          · rw [if_neg h1]
            by_cases h2 : (tSm b n (rNx b n x k v t g).1.2).1 = 0
            · rw [if_pos h2]; exact ⟨h30, hkeep⟩
            · rw [if_neg h2]
              refine rSl_so hx fu _ (k + 1) _ _ (by omega) (fun i hi => ?_)
              by_cases he : i = k
              · subst he
                have h3 := rNx_r (b := b) (n := n) (ct := i) (t := t) (f := g) hx v (vbF_lt hv) h1
                exact ⟨v, vbF_lt hv, upd_at, h3.1, h3.2⟩
              · exact hkeep i (by omega)
/-- the state after i statements -/
def exT (x : PP) (vb : Nat → Int32) (f : CF) (T : Nat → Nat → Int32) : Nat → Nat → Nat → Int32
  | 0 => T
  | i + 1 => (exK x.1.2.2 x.2.2.2.2.1 x.2.1 x.2.2.1 x.2.2.2.2.2.2.2.1 (nbx x) (vb i).toNatClampNeg (f.1 i) (f.2.1 i) (f.2.2 i) (exT x vb f T i)).2
/-- does statement i go? -/
def exG (x : PP) (vb : Nat → Int32) (f : CF) (T : Nat → Nat → Int32) (i : Nat) : Int32 := (exK x.1.2.2 x.2.2.2.2.1 x.2.1 x.2.2.1 x.2.2.2.2.2.2.2.1 (nbx x) (vb i).toNatClampNeg (f.1 i) (f.2.1 i) (f.2.2 i) (exT x vb f T i)).1
/-- the first from i on, of at most f, whose g is 0; else i + f -/
def exC (g : Nat → Int32) : Nat → Nat → Nat
  | 0, i => i
  | f + 1, i => if g i = 0 then i else exC g f (i + 1)
theorem exC_go {g : Nat → Int32} {N i : Nat} (h : i < N) (h0 : ¬ g i = 0) : exC g (N - (i + 1)) (i + 1) = exC g (N - i) i := by
  obtain ⟨f, hf⟩ : ∃ f, N - i = f + 1 := ⟨N - i - 1, by omega⟩
  rw [hf, show N - (i + 1) = f by omega]; exact (if_neg h0).symm
theorem exC_hit {g : Nat → Int32} {N i : Nat} (h : i < N) (h0 : g i = 0) : exC g (N - i) i = i := by
  obtain ⟨f, hf⟩ : ∃ f, N - i = f + 1 := ⟨N - i - 1, by omega⟩
  rw [hf]; exact if_pos h0
theorem exK_z {n bcn : Nat} {he gu bh : Nat → Int32} {nb : Nat → Nat → Option Nat} {a b c : Int32} {T : Nat → Nat → Int32} : ∀ k, (exK n bcn he gu bh nb k a b c T).1 = 0 → (exK n bcn he gu bh nb k a b c T).2 = T := by
  have one : ¬ (1 : Int32) = 0 := by decide
  have so : ∀ {A : Nat → Nat → Int32} {B : Nat → Nat → Nat → Int32} {o : Option Nat}, (stO o ((0 : Int32), A) (fun j => (1, B j))).1 = 0 → (stO o ((0 : Int32), A) (fun j => (1, B j))).2 = A := by
    intro A B o h
    cases o with
    | none => rfl
    | some j => exact absurd h one
  have ip : ∀ {A B : Nat → Nat → Int32} {p : Prop} [Decidable p], (if p then ((1 : Int32), A) else (0, B)).1 = 0 → (if p then ((1 : Int32), A) else (0, B)).2 = B := by
    intro A B p _ h
    by_cases hp : p
    · rw [if_pos hp] at h; exact absurd h one
    · rw [if_neg hp]
  have iq : ∀ {A B : Nat → Nat → Int32} {p : Prop} [Decidable p], (if p then ((0 : Int32), B) else (1, A)).1 = 0 → (if p then ((0 : Int32), B) else (1, A)).2 = B := by
    intro A B p _ h
    by_cases hp : p
    · rw [if_pos hp]
    · rw [if_neg hp] at h; exact absurd h one
  intro k
  match k with
  | 0 => exact fun h => absurd h one
  | 1 => exact fun h => ip h
  | 2 => exact fun h => iq h
  | 3 => exact fun h => absurd h one
  | 4 => exact fun h => absurd h one
  | 5 => exact fun h => so h
  | 6 => exact fun h => iq h
  | _ + 7 => exact fun h => iq h
theorem exK_pl {n bcn : Nat} {he gu bh : Nat → Int32} {nb : Nat → Nat → Option Nat} {a b c : Int32} {T : Nat → Nat → Int32} (hnb : ∀ c d k, nb c d = some k → k < n) (h : ∀ b, b < bcn → ∃ q, q < n ∧ T 5 b = nI q) : ∀ k, ∀ b9, b9 < bcn → ∃ q, q < n ∧ (exK n bcn he gu bh nb k a b c T).2 5 b9 = nI q := by
  have ip : ∀ {A B : Int32 × (Nat → Nat → Int32)} {p : Prop} [Decidable p], (∀ b9, b9 < bcn → ∃ q, q < n ∧ A.2 5 b9 = nI q) → (∀ b9, b9 < bcn → ∃ q, q < n ∧ B.2 5 b9 = nI q) → ∀ b9, b9 < bcn → ∃ q, q < n ∧ (if p then A else B).2 5 b9 = nI q := by
    intro A B p _ hA hB
    by_cases hp : p
    · rw [if_pos hp]; exact hA
    · rw [if_neg hp]; exact hB
  have so : ∀ {A : Nat → Nat → Int32} {B : Nat → Nat → Nat → Int32} {o : Option Nat}, (∀ b9, b9 < bcn → ∃ q, q < n ∧ A 5 b9 = nI q) → (∀ j, o = some j → ∀ b9, b9 < bcn → ∃ q, q < n ∧ B j 5 b9 = nI q) → ∀ b9, b9 < bcn → ∃ q, q < n ∧ (stO o ((0 : Int32), A) (fun j => (1, B j))).2 5 b9 = nI q := by
    intro A B o hA hB
    cases o with
    | none => exact hA
    | some j => exact hB j rfl
  intro k
  match k with
  | 0 => exact h
  | 1 => exact ip h h
  | 2 => exact ip h h
  | 3 => exact h
  | 4 => exact h
  | 5 =>
    refine so h (fun j ho b9 h9 => ?_)
    show ∃ q, q < n ∧ upd (T 5) a.toNatClampNeg (nI j) b9 = nI q
    by_cases he : b9 = a.toNatClampNeg
    · rw [he, upd_at]; exact ⟨j, hnb _ _ _ ho, rfl⟩
    · rw [upd_ne he]; exact h b9 h9
  | 6 => exact ip h h
  | _ + 7 => exact ip h (by intro b9 h9; show ∃ q, q < n ∧ mnN n bcn he gu bh nb T _ 5 b9 = nI q; rw [mnN_5]; exact h b9 h9)
theorem exT_pl {x : PP} (hx : PIv x) {vb : Nat → Int32} {f : CF} {T : Nat → Nat → Int32} (h : PLi x T) : ∀ i, PLi x (exT x vb f T i)
  | 0 => h
  | i + 1 => exK_pl (nbx_lt hx) (exT_pl hx h i) _
/-- a script as read -/
def scR (M : Mem) (bs : Nat → Int32) (n : Nat) (t : TT) (x : PP) : (Int32 × TT) × SC := rSl bs n x 31 (tNx bs n ((0, t.2.1, t.2.2.1, t.2.2.2.1, 0, -1) : TT)) (0, M 2 1, (M 2 2, M 2 3, M 2 4))
/-- .. and what then stands in script and text -/
def scM (M : Mem) (B0 : Nat → Nat → Int32) (bs : Nat → Int32) (n : Nat) (t : TT) (x : PP) : Mem := setm (setm M 2 (vCx (M 2) (scR M bs n t x).2.1 (scR M bs n t x).2.2.1 (scR M bs n t x).2.2.2)) 1 (vTx B0 0 bs (scR M bs n t x).1.2)
def scN (M : Mem) (bs : Nat → Int32) (n : Nat) (t : TT) (x : PP) : Nat := exC (exG x (scR M bs n t x).2.2.1 (scR M bs n t x).2.2.2 (M 3)) (scR M bs n t x).2.1 0
theorem scR_so {M : Mem} {bs : Nat → Int32} {n : Nat} {t : TT} {x : PP} (hx : PIv x) : (scR M bs n t x).2.1 ≤ 30 ∧ ∀ i, i < (scR M bs n t x).2.1 → SO x (scR M bs n t x).2.2.1 (scR M bs n t x).2.2.2 i := rSl_so hx 31 _ 0 _ _ (by decide) (fun i hi => absurd hi (Nat.not_lt_zero i))