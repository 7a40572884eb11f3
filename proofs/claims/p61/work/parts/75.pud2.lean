/-! counts and sums over the first numbers -/
def kN (b : Nat → Bool) : Nat → Nat
  | 0 => 0
  | i + 1 => if b i = true then kN b i + 1 else kN b i
def sQ (b : Nat → Bool) (w : Nat → Int32) : Nat → Int32
  | 0 => 0
  | i + 1 => if b i = true then sQ b w i + w i else sQ b w i
def sU (qu w : Nat → Int32) : Nat → Int32
  | 0 => 0
  | j + 1 => sU qu w j + w (qu j).toNatClampNeg
theorem kN_1 {b : Nat → Bool} {i : Nat} (h : b i = true) : kN b (i + 1) = kN b i + 1 := if_pos h
theorem kN_0 {b : Nat → Bool} {i : Nat} (h : ¬ b i = true) : kN b (i + 1) = kN b i := if_neg h
theorem sQ_1 {b : Nat → Bool} {w : Nat → Int32} {i : Nat} (h : b i = true) : sQ b w (i + 1) = sQ b w i + w i := if_pos h
theorem sQ_0 {b : Nat → Bool} {w : Nat → Int32} {i : Nat} (h : ¬ b i = true) : sQ b w (i + 1) = sQ b w i := if_neg h
theorem kN_s (b : Nat → Bool) (i : Nat) : kN b i ≤ kN b (i + 1) ∧ kN b (i + 1) ≤ kN b i + 1 := by
  by_cases h : b i = true
  · rw [kN_1 h]; omega
  · rw [kN_0 h]; omega
theorem kN_le (b : Nat → Bool) : ∀ n, kN b n ≤ n
  | 0 => Nat.le_refl 0
  | n + 1 => by have := kN_le b n; have := (kN_s b n).2; omega
theorem kN_mono (b : Nat → Bool) {i : Nat} : ∀ {j : Nat}, i ≤ j → kN b i ≤ kN b j
  | 0, h => by rw [show i = 0 by omega]; exact Nat.le_refl _
  | j + 1, h => by
    by_cases he : i = j + 1
    · rw [he]; exact Nat.le_refl _
    · exact Nat.le_trans (kN_mono b (show i ≤ j by omega)) (kN_s b j).1
theorem kN_lt {b : Nat → Bool} {i j : Nat} (h : i < j) (hb : b i = true) : kN b i < kN b j := by
  have h1 := kN_mono b (show i + 1 ≤ j by omega)
  rw [kN_1 hb] at h1
  omega
theorem kN_inj {b : Nat → Bool} {i j : Nat} (hi : b i = true) (hj : b j = true) (h : kN b i = kN b j) : i = j := by
  rcases Nat.lt_trichotomy i j with q | q | q
  · exact absurd (kN_lt q hi) (by omega)
  · exact q
  · exact absurd (kN_lt q hj) (by omega)
theorem kN_cg {b b' : Nat → Bool} : ∀ {n : Nat}, (∀ c, c < n → b' c = b c) → kN b' n = kN b n
  | 0, _ => rfl
  | n + 1, h => by
    have ih := kN_cg (n := n) fun c hc => h c (by omega)
    show (if b' n = true then kN b' n + 1 else kN b' n) = if b n = true then kN b n + 1 else kN b n
    rw [ih, h n (by omega)]
theorem sQ_cg {b b' : Nat → Bool} {w : Nat → Int32} : ∀ {n : Nat}, (∀ c, c < n → b' c = b c) → sQ b' w n = sQ b w n
  | 0, _ => rfl
  | n + 1, h => by
    have ih := sQ_cg (w := w) (n := n) fun c hc => h c (by omega)
    show (if b' n = true then sQ b' w n + w n else sQ b' w n) = if b n = true then sQ b w n + w n else sQ b w n
    rw [ih, h n (by omega)]
theorem kN_up {b b' : Nat → Bool} {o : Nat} (h0 : ¬ b o = true) (h1 : b' o = true) : ∀ {n : Nat}, o < n → (∀ c, c < n → c ≠ o → b' c = b c) → kN b' n = kN b n + 1
  | 0, ho, _ => absurd ho (by omega)
  | n + 1, ho, h => by
    by_cases he : o = n
    · subst he
      rw [kN_1 h1, kN_0 h0, kN_cg fun c hc => h c (by omega) (by omega)]
    · have ih := kN_up h0 h1 (n := n) (by omega) fun c hc hn => h c (by omega) hn
      show (if b' n = true then kN b' n + 1 else kN b' n) = (if b n = true then kN b n + 1 else kN b n) + 1
      rw [ih, h n (by omega) (by omega)]
      by_cases hb : b n = true
      · rw [if_pos hb, if_pos hb]
      · rw [if_neg hb, if_neg hb]
theorem i32_ac3 (a b c : Int32) : a + b + c = a + c + b := by rw [Int32.add_assoc, Int32.add_comm b c, ← Int32.add_assoc]
theorem sQ_up {b b' : Nat → Bool} {w : Nat → Int32} {o : Nat} (h0 : ¬ b o = true) (h1 : b' o = true) : ∀ {n : Nat}, o < n → (∀ c, c < n → c ≠ o → b' c = b c) → sQ b' w n = sQ b w n + w o
  | 0, ho, _ => absurd ho (by omega)
  | n + 1, ho, h => by
    by_cases he : o = n
    · subst he
      rw [sQ_1 h1, sQ_0 h0, sQ_cg fun c hc => h c (by omega) (by omega)]
    · have ih := sQ_up (w := w) h0 h1 (n := n) (by omega) fun c hc hn => h c (by omega) hn
      show (if b' n = true then sQ b' w n + w n else sQ b' w n) = (if b n = true then sQ b w n + w n else sQ b w n) + w o
      rw [ih, h n (by omega) (by omega)]
      by_cases hb : b n = true
      · rw [if_pos hb, if_pos hb, i32_ac3]
      · rw [if_neg hb, if_neg hb]
theorem kN_max {b : Nat → Bool} {o n : Nat} (ho : o < n) (h0 : ¬ b o = true) : kN b n < n := by
  have h1 := kN_up (b := b) (b' := fun c => if c = o then true else b c) h0 (if_pos rfl) ho fun c _ hc => if_neg hc
  have h2 := kN_le (fun c => if c = o then true else b c) n
  omega
theorem sU_cg {a a' w : Nat → Int32} : ∀ {n : Nat}, (∀ j, j < n → a' j = a j) → sU a' w n = sU a w n
  | 0, _ => rfl
  | n + 1, h => by
    show sU a' w n + w (a' n).toNatClampNeg = sU a w n + w (a n).toNatClampNeg
    rw [sU_cg fun j hj => h j (by omega), h n (by omega)]
theorem kN_ex {b : Nat → Bool} {k : Nat} : ∀ {n : Nat}, k < kN b n → ∃ m, m < n ∧ b m = true ∧ kN b m = k
  | 0, h => absurd h (Nat.not_lt_zero k)
  | n + 1, h => by
    by_cases hb : b n = true
    · rw [kN_1 hb] at h
      by_cases he : k = kN b n
      · exact ⟨n, by omega, hb, he.symm⟩
      · obtain ⟨m, h1, h2, h3⟩ := kN_ex (n := n) (show k < kN b n by omega)
        exact ⟨m, by omega, h2, h3⟩
    · rw [kN_0 hb] at h
      obtain ⟨m, h1, h2, h3⟩ := kN_ex (n := n) h
      exact ⟨m, by omega, h2, h3⟩
/-! the class's search: what it keeps -/
def lq (lab : Nat → Int32) (v : Int32) (c : Nat) : Bool := decide (lab c = v)
theorem lq_1 {lab : Nat → Int32} {v : Int32} {c : Nat} : lq lab v c = true ↔ lab c = v := decide_eq_true_iff
theorem lq_cg {lab lab' : Nat → Int32} {v v' : Int32} {c : Nat} (h : lab' c = v' ↔ lab c = v) : lq lab' v' c = lq lab v c := by
  by_cases hc : lab c = v
  · rw [lq_1.mpr hc]; exact lq_1.mpr (h.mpr hc)
  · have h1 : ¬ lq lab v c = true := fun q => hc (lq_1.mp q)
    have h2 : ¬ lq lab' v' c = true := fun q => hc (h.mp (lq_1.mp q))
    rw [Bool.not_eq_true] at h1 h2
    rw [h1, h2]
theorem nI_m1 {k : Nat} (h : k < 2 ^ 31) : ¬ nI k = -1 := fun q => nI_pos h (by rw [q]; decide)
def jF (n k i : Nat) (p : Nat → Nat) (w lb : Nat → Int32) (x : BT) : Prop :=
  (∀ c, c < n → x.1 c = lb c ∨ (lb c = -1 ∧ x.1 c = nI k ∧ 0 < w c ∧ p c = p i)) ∧
  (∀ j, j < x.2.2 → ∃ q, q < n ∧ x.2.1 j = nI q ∧ x.1 q = nI k) ∧
  (∀ q, q < n → x.1 q = nI k → ∃ j, j < x.2.2 ∧ x.2.1 j = nI q) ∧
  x.2.2 = kN (lq x.1 (nI k)) n ∧ sU x.2.1 w x.2.2 = sQ (lq x.1 (nI k)) w n
def xE (n : Nat) (x y : BT) : Prop := (∀ c, c < n → ¬ x.1 c = -1 → y.1 c = x.1 c) ∧ x.2.2 ≤ y.2.2 ∧ ∀ j, j < x.2.2 → y.2.1 j = x.2.1 j
theorem xE_r {n : Nat} {x : BT} : xE n x x := ⟨fun _ _ _ => rfl, Nat.le_refl _, fun _ _ => rfl⟩
theorem xE_t {n : Nat} {x y z : BT} (h : xE n x y) (g : xE n y z) : xE n x z := ⟨fun c hc hn => by rw [g.1 c hc (by rw [h.1 c hc hn]; exact hn), h.1 c hc hn], Nat.le_trans h.2.1 g.2.1, fun j hj => by rw [g.2.2 j (Nat.lt_of_lt_of_le hj h.2.1), h.2.2 j hj]⟩
section BDJ
variable {nb : Nat → Nat → Option Nat} {n k i : Nat} {p : Nat → Nat} {w lb : Nat → Int32}
theorem bD_j (hk : k < 64) (hn : n ≤ 64) (hlt : ∀ c d o, nb c d = some o → o < n) (hp : ∀ c d o, c < n → d < 4 → nb c d = some o → 0 < w c → 0 < w o → p o = p c) (hlb : ∀ c, c < n → ¬ lb c = nI k) {x : BT} (hJ : jF n k i p w lb x) {q d : Nat} (hq : q < n) (hqk : x.1 q = nI k) (hd : d < 4) :
    jF n k i p w lb (bD nb w (nI k) q d x) ∧ xE n x (bD nb w (nI k) q d x) ∧ ∀ o, nb q d = some o → 0 < w o → ¬ (bD nb w (nI k) q d x).1 o = -1 := by
  have hk1 : ¬ nI k = -1 := nI_m1 (by omega)
  have hwq : 0 < w q ∧ p q = p i := by
    rcases hJ.1 q hq with h | h
    · exact absurd (h.symm.trans hqk) (hlb q hq)
    · exact h.2.2
  cases hz : nb q d with
  | none =>
    rw [bD_0 hz]
    exact ⟨hJ, xE_r, fun o h => absurd h (by simp)⟩
  | some o =>
    have ho := hlt q d o hz
    by_cases h2 : x.1 o = -1 ∧ 0 < w o ∧ x.2.2 < 64
    · rw [bD_2 hz h2.1 h2.2.1 h2.2.2]
      obtain ⟨lab, qu, cnt⟩ := x
      obtain ⟨j1, j2, j3, j4, j5⟩ := hJ
      obtain ⟨g1, g2, g3⟩ := h2
      dsimp only at j1 j2 j3 j4 j5 g1 g3 hqk ⊢
      have hne : ¬ lq lab (nI k) o = true := fun q => hk1 ((lq_1.mp q).symm.trans g1)
      have hnew : lq (upd lab o (nI k)) (nI k) o = true := lq_1.mpr upd_at
      have hoth : ∀ c, c < n → c ≠ o → lq (upd lab o (nI k)) (nI k) c = lq lab (nI k) c := fun c _ hc => by unfold lq; rw [upd_ne hc]
      refine ⟨⟨?_, ?_, ?_, ?_, ?_⟩, ⟨?_, ?_, ?_⟩, ?_⟩
      · intro c hc
        by_cases he : c = o
        · subst he
          right
          refine ⟨?_, upd_at, g2, (hp q d c hq hd hz hwq.1 g2).trans hwq.2⟩
          rcases j1 c hc with h | h
          · rw [← h]; exact g1
          · exact h.1
        · rw [show (upd lab o (nI k), upd qu cnt (nI o), cnt + 1).1 c = lab c from upd_ne he]
          exact j1 c hc
      · intro j hj
        by_cases he : j = cnt
        · subst he
          exact ⟨o, ho, upd_at, upd_at⟩
        · have hj2 : j < cnt + 1 := hj
          obtain ⟨q2, a1, a2, a3⟩ := j2 j (by omega)
          refine ⟨q2, a1, (upd_ne he).trans a2, ?_⟩
          by_cases hqo : q2 = o
          · subst hqo; exact upd_at
          · exact (upd_ne hqo).trans a3
      · intro q2 hq2 h
        by_cases hqo : q2 = o
        · subst hqo
          exact ⟨cnt, Nat.lt_succ_self _, upd_at⟩
        · obtain ⟨j, a1, a2⟩ := j3 q2 hq2 ((upd_ne hqo).symm.trans h)
          exact ⟨j, Nat.lt_succ_of_lt a1, (upd_ne (by omega)).trans a2⟩
      · show cnt + 1 = _
        rw [kN_up hne hnew ho hoth, ← j4]
      · show sU (upd qu cnt (nI o)) w cnt + w (upd qu cnt (nI o) cnt).toNatClampNeg = _
        rw [sQ_up hne hnew ho hoth, ← j5, upd_at, nI_clamp (by omega), sU_cg (a' := upd qu cnt (nI o)) (a := qu) fun j hj => upd_ne (by omega)]
      · intro c _ hc
        exact upd_ne (by intro q; subst q; exact hc g1)
      · exact Nat.le_succ _
      · intro j hj
        exact upd_ne (by have : j < cnt := hj; omega)
      · intro o2 h3 _
        obtain rfl : o = o2 := by injection h3
        rw [upd_at]
        exact hk1
    · rw [bD_1 hz h2]
      refine ⟨hJ, xE_r, ?_⟩
      intro o2 h3 hw hm
      obtain rfl : o = o2 := by injection h3
      have := kN_max (b := lq x.1 (nI k)) ho (fun q => hk1 ((lq_1.mp q).symm.trans hm))
      rw [← hJ.2.2.2.1] at this
      exact h2 ⟨hm, hw, by omega⟩
theorem bN_j (hk : k < 64) (hn : n ≤ 64) (hlt : ∀ c d o, nb c d = some o → o < n) (hp : ∀ c d o, c < n → d < 4 → nb c d = some o → 0 < w c → 0 < w o → p o = p c) (hlb : ∀ c, c < n → ¬ lb c = nI k) {x : BT} (hJ : jF n k i p w lb x) {q : Nat} (hq : q < n) (hqk : x.1 q = nI k) : ∀ e, e ≤ 4 →
    jF n k i p w lb (bN nb w (nI k) q x e) ∧ xE n x (bN nb w (nI k) q x e) ∧ ∀ d o, d < e → nb q d = some o → 0 < w o → ¬ (bN nb w (nI k) q x e).1 o = -1
  | 0, _ => ⟨hJ, xE_r, fun d o h => absurd h (Nat.not_lt_zero d)⟩
  | e + 1, he => by
    obtain ⟨a1, a2, a3⟩ := bN_j hk hn hlt hp hlb hJ hq hqk e (by omega)
    have hk1 : ¬ nI k = -1 := nI_m1 (by omega)
    obtain ⟨b1, b2, b3⟩ := bD_j hk hn hlt hp hlb a1 hq ((a2.1 q hq (by rw [hqk]; exact hk1)).trans hqk) (show e < 4 by omega)
    refine ⟨b1, xE_t a2 b2, ?_⟩
    intro d o hd hz hw
    by_cases hde : d = e
    · subst hde; exact b3 o hz hw
    · have h1 := a3 d o (by omega) hz hw
      show ¬ (bD nb w (nI k) q e (bN nb w (nI k) q x e)).1 o = -1
      rw [b2.1 o (hlt q d o hz) h1]
      exact h1
theorem bF_j (hk : k < 64) (hn : n ≤ 64) (hlt : ∀ c d o, nb c d = some o → o < n) (hp : ∀ c d o, c < n → d < 4 → nb c d = some o → 0 < w c → 0 < w o → p o = p c) (hlb : ∀ c, c < n → ¬ lb c = nI k) : ∀ (f done : Nat) (s : BS), done + f = 64 → jF n k i p w lb s.1 → done ≤ s.1.2.2 → (∀ j, j < done → ∀ q, q < n → s.1.2.1 j = nI q → ∀ d o, d < 4 → nb q d = some o → 0 < w o → ¬ s.1.1 o = -1) → s.2.1 k = nI done → s.2.2 k = sU s.1.2.1 w done →
    jF n k i p w lb (bF nb w k f done s).1 ∧ xE n s.1 (bF nb w k f done s).1 ∧ (∀ q, q < n → (bF nb w k f done s).1.1 q = nI k → ∀ d o, d < 4 → nb q d = some o → 0 < w o → ¬ (bF nb w k f done s).1.1 o = -1) ∧ (bF nb w k f done s).2.1 k = nI (kN (lq (bF nb w k f done s).1.1 (nI k)) n) ∧ (bF nb w k f done s).2.2 k = sQ (lq (bF nb w k f done s).1.1 (nI k)) w n ∧ ∀ j, j ≠ k → (bF nb w k f done s).2.1 j = s.2.1 j ∧ (bF nb w k f done s).2.2 j = s.2.2 j := by
  have stop : ∀ (done : Nat) (s : BS), jF n k i p w lb s.1 → done = s.1.2.2 → (∀ j, j < done → ∀ q, q < n → s.1.2.1 j = nI q → ∀ d o, d < 4 → nb q d = some o → 0 < w o → ¬ s.1.1 o = -1) → s.2.1 k = nI done → s.2.2 k = sU s.1.2.1 w done →
    jF n k i p w lb s.1 ∧ xE n s.1 s.1 ∧ (∀ q, q < n → s.1.1 q = nI k → ∀ d o, d < 4 → nb q d = some o → 0 < w o → ¬ s.1.1 o = -1) ∧ s.2.1 k = nI (kN (lq s.1.1 (nI k)) n) ∧ s.2.2 k = sQ (lq s.1.1 (nI k)) w n ∧ ∀ j, j ≠ k → s.2.1 j = s.2.1 j ∧ s.2.2 j = s.2.2 j := by
    intro done s hJ he hc h1 h2
    subst he
    refine ⟨hJ, xE_r, ?_, ?_, ?_, fun j _ => ⟨rfl, rfl⟩⟩
    · intro q hq hqk
      obtain ⟨j, a1, a2⟩ := hJ.2.2.1 q hq hqk
      exact hc j a1 q hq a2
    · rw [h1, hJ.2.2.2.1]
    · rw [h2, hJ.2.2.2.2]
  intro f
  induction f with
  | zero =>
    intro done s hd hJ hle hc h1 h2
    have h3 := kN_le (lq s.1.1 (nI k)) n
    rw [← hJ.2.2.2.1] at h3
    exact stop done s hJ (by omega) hc h1 h2
  | succ f ih =>
    intro done s hd hJ hle hc h1 h2
    by_cases hlt2 : done < s.1.2.2
    · rw [show bF nb w k (f + 1) done s = bF nb w k f (done + 1) (bS nb w k s done) from if_pos hlt2]
      obtain ⟨q, hq, hqe, hqk⟩ := hJ.2.1 done hlt2
      have hcl : (s.1.2.1 done).toNatClampNeg = q := by rw [hqe]; exact nI_clamp (by omega)
      have hs : bS nb w k s done = (bN nb w (nI k) q s.1 4, upd s.2.1 k (s.2.1 k + 1), upd s.2.2 k (s.2.2 k + w q)) := by unfold bS; rw [hcl]
      obtain ⟨a1, a2, a3⟩ := bN_j (nb := nb) hk hn hlt hp hlb hJ hq hqk 4 (Nat.le_refl 4)
      rw [hs]
      have hr := ih (done + 1) (bN nb w (nI k) q s.1 4, upd s.2.1 k (s.2.1 k + 1), upd s.2.2 k (s.2.2 k + w q)) (by omega) a1 (Nat.le_trans hlt2 a2.2.1) ?_ ?_ ?_
      · refine ⟨hr.1, xE_t a2 hr.2.1, hr.2.2.1, hr.2.2.2.1, hr.2.2.2.2.1, ?_⟩
        intro j hj
        obtain ⟨b1, b2⟩ := hr.2.2.2.2.2 j hj
        exact ⟨b1.trans (upd_ne hj), b2.trans (upd_ne hj)⟩
      · intro j hj q2 hq2 he d o hd4 hz hw
        dsimp only at he ⊢
        rw [a2.2.2 j (by omega)] at he
        by_cases hjd : j = done
        · subst hjd
          rw [hqe] at he
          obtain rfl : q = q2 := (nI_eq (by omega) (by omega)).mp he
          exact a3 d o hd4 hz hw
        · have h3 := hc j (by omega) q2 hq2 he d o hd4 hz hw
          rw [a2.1 o (hlt q2 d o hz) h3]
          exact h3
      · show upd s.2.1 k (s.2.1 k + 1) k = nI (done + 1)
        rw [upd_at, h1, nI_1]
      · show upd s.2.2 k (s.2.2 k + w q) k = sU (bN nb w (nI k) q s.1 4).2.1 w (done + 1)
        rw [upd_at, h2]
        show _ = sU (bN nb w (nI k) q s.1 4).2.1 w done + w ((bN nb w (nI k) q s.1 4).2.1 done).toNatClampNeg
        rw [a2.2.2 done hlt2, hcl, sU_cg (a' := (bN nb w (nI k) q s.1 4).2.1) (a := s.1.2.1) fun j hj => a2.2.2 j (by omega)]
    · rw [show bF nb w k (f + 1) done s = s from if_neg hlt2]
      exact stop done s hJ (by omega) hc h1 h2
end BDJ
theorem kN_z {b : Nat → Bool} : ∀ {n : Nat}, (∀ c, c < n → ¬ b c = true) → kN b n = 0
  | 0, _ => rfl
  | n + 1, h => by rw [kN_0 (h n (by omega)), kN_z fun c hc => h c (by omega)]
theorem sQ_z {b : Nat → Bool} {w : Nat → Int32} : ∀ {n : Nat}, (∀ c, c < n → ¬ b c = true) → sQ b w n = 0
  | 0, _ => rfl
  | n + 1, h => by rw [sQ_0 (h n (by omega)), sQ_z fun c hc => h c (by omega)]
/-- c is reached from a in t steps over wet cells -/
def Rch (nb : Nat → Nat → Option Nat) (w : Nat → Int32) (n a : Nat) : Nat → Nat → Prop
  | 0, c => c = a
  | t + 1, c => ∃ b d, Rch nb w n a t b ∧ b < n ∧ d < 4 ∧ nb b d = some c ∧ 0 < w c
/-- p names the puddles by their least cells -/
def pdP (nb : Nat → Nat → Option Nat) (w : Nat → Int32) (n : Nat) (p : Nat → Nat) : Prop :=
  (∀ c, c < n → 0 < w c → p c ≤ c ∧ 0 < w (p c) ∧ p (p c) = p c ∧ ∃ t, Rch nb w n (p c) t c) ∧
  (∀ c d o, c < n → d < 4 → nb c d = some o → 0 < w c → 0 < w o → p o = p c)
def pdL (w : Nat → Int32) (n : Nat) (p : Nat → Nat) (L : Nat → Int32) : Prop := ∀ c, c < n → L c = if 0 < w c then nI (p c) else -1
def PL (nb : Nat → Nat → Option Nat) (w : Nat → Int32) (n : Nat) (L : Nat → Int32) : Prop := ∃ p, pdP nb w n p ∧ pdL w n p L
/-- the cell is its puddle's least -/
def rp (L : Nat → Int32) (c : Nat) : Bool := decide (L c = nI c)
theorem rp_1 {L : Nat → Int32} {c : Nat} : rp L c = true ↔ L c = nI c := decide_eq_true_iff
section PNK
variable {nb : Nat → Nat → Option Nat} {n : Nat} {p : Nat → Nat} {w L : Nat → Int32} {sz wa qu : Nat → Int32}
theorem rp_p (hn : n ≤ 64) (hP : pdP nb w n p) (hL : pdL w n p L) {c : Nat} (hc : c < n) : rp L c = true ↔ 0 < w c ∧ p c = c := by
  rw [rp_1, hL c hc]
  by_cases h : 0 < w c
  · rw [if_pos h]
    have h1 := (hP.1 c hc h).1
    exact ⟨fun q => ⟨h, (nI_eq (by omega) (by omega)).mp q⟩, fun q => by rw [q.2]⟩
  · rw [if_neg h]
    exact ⟨fun q => absurd q.symm (nI_m1 (by omega)), fun q => absurd q.1 h⟩
def kI (nb : Nat → Nat → Option Nat) (w L : Nat → Int32) (n : Nat) (p : Nat → Nat) (S : PT) (i : Nat) : Prop :=
  S.1 = kN (rp L) i ∧ (∀ c, c < n → S.2.1 c = if 0 < w c ∧ p c < i then nI (kN (rp L) (p c)) else -1) ∧
  ∀ m, m < i → rp L m = true → S.2.2.1 (kN (rp L) m) = nI (kN (lq L (nI m)) n) ∧ S.2.2.2.1 (kN (rp L) m) = sQ (lq L (nI m)) w n
theorem kI_s (hn : n ≤ 64) (hlt : ∀ c d o, nb c d = some o → o < n) (hP : pdP nb w n p) (hL : pdL w n p L) {S : PT} {i : Nat} (hi : i < n) (hK : kI nb w L n p S i) : kI nb w L n p (pS nb w S i) (i + 1) := by
  obtain ⟨k1, k2, k3⟩ := hK
  by_cases hc : 0 < w i ∧ S.2.1 i = -1
  · obtain ⟨hw, hl⟩ := hc
    rw [pS_1 hw hl]
    have hpi : p i = i := by
      have h1 := k2 i hi
      by_cases h2 : p i < i
      · rw [if_pos ⟨hw, h2⟩, hl] at h1
        have := kN_le (rp L) (p i)
        exact absurd h1.symm (nI_m1 (by omega))
      · have := (hP.1 i hi hw).1
        omega
    have hri : rp L i = true := (rp_p hn hP hL hi).mpr ⟨hw, hpi⟩
    have hk64 : kN (rp L) i < 64 := by have := kN_le (rp L) i; omega
    have hk0 : ¬ nI (kN (rp L) i) = -1 := nI_m1 (by omega)
    have hlb : ∀ c, c < n → ¬ S.2.1 c = nI (kN (rp L) i) := by
      intro c hcn h
      rw [k2 c hcn] at h
      by_cases h2 : 0 < w c ∧ p c < i
      · rw [if_pos h2] at h
        obtain ⟨a1, a2, a3, _⟩ := hP.1 c hcn h2.1
        have h3 := kN_lt h2.2 ((rp_p hn hP hL (by omega)).mpr ⟨a2, a3⟩)
        have := (nI_eq (by omega) (by omega)).mp h
        omega
      · rw [if_neg h2] at h
        exact hk0 h.symm
    have hz : ∀ c, c < n → ¬ lq S.2.1 (nI (kN (rp L) i)) c = true := fun c hcn q => hlb c hcn (lq_1.mp q)
    have hne : lq (upd S.2.1 i (nI (kN (rp L) i))) (nI (kN (rp L) i)) i = true := lq_1.mpr upd_at
    have hoth : ∀ c, c < n → c ≠ i → lq (upd S.2.1 i (nI (kN (rp L) i))) (nI (kN (rp L) i)) c = lq S.2.1 (nI (kN (rp L) i)) c := fun c _ hc => by unfold lq; rw [upd_ne hc]
    have hF := bF_j hk64 hn hlt (fun c d o a1 a2 a3 a4 a5 => hP.2 c d o a1 a2 a3 a4 a5) hlb 64 0 ((upd S.2.1 i (nI (kN (rp L) i)), upd S.2.2.2.2 0 (nI i), 1), upd S.2.2.1 (kN (rp L) i) 0, upd S.2.2.2.1 (kN (rp L) i) 0) (i := i) (p := p) (w := w) rfl ?_ (Nat.zero_le _) (fun j hj => absurd hj (Nat.not_lt_zero j)) upd_at upd_at
    rotate_left
    · refine ⟨?_, ?_, ?_, ?_, ?_⟩
      · intro c _
        by_cases he : c = i
        · subst he
          exact Or.inr ⟨hl, upd_at, hw, rfl⟩
        · exact Or.inl (upd_ne he)
      · intro j hj
        have hj1 : j < 1 := hj
        obtain rfl : j = 0 := by omega
        dsimp only
        exact ⟨i, hi, upd_at, upd_at⟩
      · intro q hq h
        by_cases he : q = i
        · subst he
          dsimp only
          exact ⟨0, Nat.zero_lt_one, upd_at⟩
        · exact absurd ((upd_ne he).symm.trans h) (hlb q hq)
      · show 1 = _
        rw [kN_up (hz i hi) hne hi hoth, kN_z hz]
      · show (0 : Int32) + w (upd S.2.2.2.2 0 (nI i) 0).toNatClampNeg = _
        rw [sQ_up (hz i hi) hne hi hoth, sQ_z hz, upd_at, nI_clamp (by omega)]
    rw [show (bF nb w (kN (rp L) i) 64 0 ((upd S.2.1 i (nI (kN (rp L) i)), upd S.2.2.2.2 0 (nI i), 1), upd S.2.2.1 (kN (rp L) i) 0, upd S.2.2.2.1 (kN (rp L) i) 0)) = pF nb w S i by unfold pF; rw [k1]] at hF
    generalize pF nb w S i = F at hF ⊢
    obtain ⟨f1, f2, f3, f4, f5, f6⟩ := hF
    have hto : ∀ c, c < n → F.1.1 c = nI (kN (rp L) i) → 0 < w c ∧ p c = i := by
      intro c hcn h
      rcases f1.1 c hcn with q | q
      · exact absurd (q.symm.trans h) (hlb c hcn)
      · exact ⟨q.2.2.1, q.2.2.2.trans hpi⟩
    have hre : ∀ t c, c < n → Rch nb w n i t c → F.1.1 c = nI (kN (rp L) i) := by
      intro t
      induction t with
      | zero =>
        intro c hcn h
        obtain rfl : c = i := h
        have h1 := f2.1 c hcn (show ¬ upd S.2.1 c (nI (kN (rp L) c)) c = -1 by rw [upd_at]; exact hk0)
        exact h1.trans upd_at
      | succ t ih =>
        intro c hcn h
        obtain ⟨b, d, g1, g2, g3, g4, g5⟩ := h
        have hb := ih b g2 g1
        obtain ⟨hb1, hb2⟩ := hto b g2 hb
        have hpc : p c = i := (hP.2 b d c g2 g3 g4 hb1 g5).trans hb2
        have hne1 := f3 b g2 hb d c g3 g4 g5
        rcases f1.1 c hcn with q | q
        · rw [q, k2 c hcn, if_neg (by omega)] at hne1
          exact absurd rfl hne1
        · exact q.2.1
    have hiff : ∀ c, c < n → (F.1.1 c = nI (kN (rp L) i) ↔ 0 < w c ∧ p c = i) := by
      intro c hcn
      refine ⟨hto c hcn, fun h => ?_⟩
      obtain ⟨t, ht⟩ := (hP.1 c hcn h.1).2.2.2
      rw [h.2] at ht
      exact hre t c hcn ht
    refine ⟨?_, ?_, ?_⟩
    · show S.1 + 1 = _
      rw [kN_1 hri, k1]
    · intro c hcn
      show F.1.1 c = _
      by_cases h : 0 < w c ∧ p c = i
      · rw [(hiff c hcn).mpr h, if_pos ⟨h.1, by omega⟩, h.2]
      · have h1 : F.1.1 c = S.2.1 c := by
          rcases f1.1 c hcn with q | q
          · exact q
          · exact absurd ⟨q.2.2.1, q.2.2.2.trans hpi⟩ h
        rw [h1, k2 c hcn]
        by_cases h2 : 0 < w c ∧ p c < i
        · rw [if_pos h2, if_pos ⟨h2.1, by omega⟩]
        · rw [if_neg h2, if_neg (fun q => by
            have h3 : ¬ p c = i := fun e => h ⟨q.1, e⟩
            exact h2 ⟨q.1, by omega⟩)]
    · intro m hm hr
      by_cases he : m = i
      · subst he
        have hcg : ∀ c, c < n → lq F.1.1 (nI (kN (rp L) m)) c = lq L (nI m) c := by
          intro c hcn
          refine lq_cg ((hiff c hcn).trans ?_)
          rw [hL c hcn]
          by_cases h : 0 < w c
          · rw [if_pos h]
            have := (hP.1 c hcn h).1
            exact ⟨fun q => by rw [q.2], fun q => ⟨h, (nI_eq (by omega) (by omega)).mp q⟩⟩
          · rw [if_neg h]
            exact ⟨fun q => absurd q.1 h, fun q => absurd q.symm (nI_m1 (by omega))⟩
        exact ⟨f4.trans (by rw [kN_cg hcg]), f5.trans (sQ_cg hcg)⟩
      · have hlt2 := kN_lt (show m < i by omega) hr
        obtain ⟨a1, a2⟩ := f6 (kN (rp L) m) (by omega)
        obtain ⟨b1, b2⟩ := k3 m (by omega) hr
        exact ⟨a1.trans ((upd_ne (by omega)).trans b1), a2.trans ((upd_ne (by omega)).trans b2)⟩
  · rw [pS_0 hc]
    have hr : ¬ rp L i = true := by
      intro q
      obtain ⟨q1, q2⟩ := (rp_p hn hP hL hi).mp q
      refine hc ⟨q1, ?_⟩
      rw [k2 i hi, if_neg (by omega)]
    have hpc : ∀ c, c < n → 0 < w c → ¬ p c = i := by
      intro c hcn hw h
      obtain ⟨_, a2, a3, _⟩ := hP.1 c hcn hw
      rw [h] at a2 a3
      exact hr ((rp_p hn hP hL hi).mpr ⟨a2, a3⟩)
    refine ⟨?_, ?_, ?_⟩
    · rw [kN_0 hr]; exact k1
    · intro c hcn
      rw [k2 c hcn]
      by_cases h2 : 0 < w c ∧ p c < i
      · rw [if_pos h2, if_pos ⟨h2.1, by omega⟩]
      · rw [if_neg h2, if_neg (fun q => by
          have h3 := hpc c hcn q.1
          exact h2 ⟨q.1, by omega⟩)]
    · intro m hm hr2
      by_cases he : m = i
      · subst he; exact absurd hr2 hr
      · exact k3 m (by omega) hr2
theorem kI_n (hn : n ≤ 64) (hlt : ∀ c d o, nb c d = some o → o < n) (hP : pdP nb w n p) (hL : pdL w n p L) : ∀ i, i ≤ n → kI nb w L n p (pN nb w (0, (fun _ => -1), sz, wa, qu) i) i
  | 0, _ => ⟨rfl, fun c _ => by rw [if_neg (by omega)]; rfl, fun m h => absurd h (Nat.not_lt_zero m)⟩
  | i + 1, h => kI_s hn hlt hP hL h (kI_n hn hlt hP hL i (by omega))
end PNK
/-- the class's puddles by the reference's least cells -/
def PR (w : Nat → Int32) (n : Nat) (L : Nat → Int32) (X : PT) : Prop :=
  X.1 = kN (rp L) n ∧ (∀ c, c < n → (L c = -1 ∧ X.2.1 c = -1) ∨ ∃ m, m ≤ c ∧ L c = nI m ∧ X.2.1 c = nI (kN (rp L) m)) ∧
  ∀ m, m < n → rp L m = true → X.2.2.1 (kN (rp L) m) = nI (kN (lq L (nI m)) n) ∧ X.2.2.2.1 (kN (rp L) m) = sQ (lq L (nI m)) w n
theorem PR_of {nb : Nat → Nat → Option Nat} {n : Nat} {w L sz wa qu : Nat → Int32} (hn : n ≤ 64) (hlt : ∀ c d o, nb c d = some o → o < n) (h : PL nb w n L) : PR w n L (pN nb w (0, (fun _ => -1), sz, wa, qu) n) := by
  obtain ⟨p, hP, hL⟩ := h
  obtain ⟨k1, k2, k3⟩ := kI_n (sz := sz) (wa := wa) (qu := qu) hn hlt hP hL n (Nat.le_refl n)
  refine ⟨k1, ?_, k3⟩
  intro c hc
  rw [k2 c hc, hL c hc]
  by_cases hw : 0 < w c
  · have h1 := (hP.1 c hc hw).1
    rw [if_pos hw, if_pos ⟨hw, by omega⟩]
    exact Or.inr ⟨p c, h1, rfl, rfl⟩
  · rw [if_neg hw, if_neg (fun q => hw q.1)]
    exact Or.inl ⟨rfl, rfl⟩
/-! the reference's search for puddles -/
def mS (f : Nat → Int32) : Nat → Nat
  | 0 => 0
  | i + 1 => mS f i + (f i).toNatClampNeg
theorem mS_cg {f g : Nat → Int32} : ∀ {n : Nat}, (∀ c, c < n → f c = g c) → mS f n = mS g n
  | 0, _ => rfl
  | n + 1, h => by
    show mS f n + (f n).toNatClampNeg = mS g n + (g n).toNatClampNeg
    rw [mS_cg fun c hc => h c (by omega), h n (by omega)]
theorem mS_u {f : Nat → Int32} {c : Nat} {v : Int32} : ∀ {n : Nat}, c < n → mS (upd f c v) n + (f c).toNatClampNeg = mS f n + v.toNatClampNeg
  | 0, h => absurd h (Nat.not_lt_zero c)
  | n + 1, h => by
    show mS (upd f c v) n + (upd f c v n).toNatClampNeg + (f c).toNatClampNeg = mS f n + (f n).toNatClampNeg + v.toNatClampNeg
    by_cases he : c = n
    · subst he
      rw [upd_at, mS_cg (f := upd f c v) (g := f) fun j hj => upd_ne (by omega)]
      omega
    · have ih := mS_u (f := f) (v := v) (n := n) (c := c) (by omega)
      rw [upd_ne (show n ≠ c by omega)]
      omega
def rI (nb : Nat → Nat → Option Nat) (w : Nat → Int32) (n : Nat) (L : Nat → Int32) : Prop := ∀ c, c < n → (w c = 0 ∧ L c = -1) ∨ (0 < w c ∧ ∃ m t, m ≤ c ∧ L c = nI m ∧ 0 < w m ∧ Rch nb w n m t c)
def xF (nb : Nat → Nat → Option Nat) (L : Nat → Int32) (c e : Nat) : Prop := ∀ d o, d < e → nb c d = some o → ¬ L o = -1 → ¬ L o < L c
section SPK
variable {nb : Nat → Nat → Option Nat} {n : Nat} {w L : Nat → Int32}
theorem PL_of (hn : n ≤ 64) (hlt : ∀ c d o, nb c d = some o → o < n) (hsy : ∀ c d o, c < n → d < 4 → nb c d = some o → ∃ e, e < 4 ∧ nb o e = some c) (hR : rI nb w n L) (hF : ∀ c, c < n → ¬ L c = -1 → xF nb L c 4) : PL nb w n L := by
  have hL : ∀ c, c < n → 0 < w c → L c = nI (L c).toNatClampNeg ∧ (L c).toNatClampNeg ≤ c ∧ 0 < w (L c).toNatClampNeg ∧ ∃ t, Rch nb w n (L c).toNatClampNeg t c := by
    intro c hc hw
    rcases hR c hc with q | ⟨_, m, t, g1, g2, g3, g4⟩
    · rw [q.1] at hw; exact absurd hw (by decide)
    · have : (L c).toNatClampNeg = m := by rw [g2]; exact nI_clamp (by omega)
      rw [this]
      exact ⟨g2, g1, g3, t, g4⟩
  have hle : ∀ c d o, c < n → d < 4 → nb c d = some o → 0 < w c → 0 < w o → (L c).toNatClampNeg ≤ (L o).toNatClampNeg := by
    intro c d o hc hd hz hw hwo
    obtain ⟨a1, a2, _⟩ := hL c hc hw
    obtain ⟨b1, b2, _⟩ := hL o (hlt c d o hz) hwo
    have ho := hlt c d o hz
    have h1 := hF c hc (by rw [a1]; exact nI_m1 (by omega)) d o hd hz (by rw [b1]; exact nI_m1 (by omega))
    rw [a1, b1] at h1
    exact Nat.not_lt.mp fun q => h1 ((nI_ltI (by omega) (by omega)).mpr q)
  have heq : ∀ c d o, c < n → d < 4 → nb c d = some o → 0 < w c → 0 < w o → (L o).toNatClampNeg = (L c).toNatClampNeg := by
    intro c d o hc hd hz hw hwo
    obtain ⟨e, he, hoe⟩ := hsy c d o hc hd hz
    exact Nat.le_antisymm (hle o e c (hlt c d o hz) he hoe hwo hw) (hle c d o hc hd hz hw hwo)
  refine ⟨fun c => (L c).toNatClampNeg, ⟨?_, heq⟩, ?_⟩
  · intro c hc hw
    obtain ⟨a1, a2, a3, t, a4⟩ := hL c hc hw
    refine ⟨a2, a3, ?_, t, a4⟩
    have hr : ∀ m, m < n → 0 < w m → ∀ t c, Rch nb w n m t c → 0 < w c ∧ (L c).toNatClampNeg = (L m).toNatClampNeg := by
      intro m hm hwm t
      induction t with
      | zero =>
        intro c h
        obtain rfl : c = m := h
        exact ⟨hwm, rfl⟩
      | succ t ih =>
        intro c h
        obtain ⟨b, d, g1, g2, g3, g4, g5⟩ := h
        obtain ⟨i1, i2⟩ := ih b g1
        exact ⟨g5, (heq b d c g2 g3 g4 i1 g5).trans i2⟩
    exact (hr _ (by omega) a3 t c a4).2.symm
  · intro c hc
    by_cases hw : 0 < w c
    · rw [if_pos hw]; exact (hL c hc hw).1
    · rw [if_neg hw]
      rcases hR c hc with q | q
      · exact q.2
      · exact absurd q.1 hw
end SPK
theorem gN_0 {u v r c k : Nat} (h : 0 < r) : gN u v r c k 0 = some (k - v) := by
  show (if 0 < r then some (k - v) else none) = _
  exact if_pos h
theorem gN_1 {u v r c k : Nat} (h : c + 1 < v) : gN u v r c k 1 = some (k + 1) := by
  show (if c + 1 < v then some (k + 1) else none) = _
  exact if_pos h
theorem gN_2 {u v r c k : Nat} (h : r + 1 < u) : gN u v r c k 2 = some (k + v) := by
  show (if r + 1 < u then some (k + v) else none) = _
  exact if_pos h
theorem gN_3 {u v r c k : Nat} (h : 0 < c) : gN u v r c k 3 = some (k - 1) := by
  show (if 0 < c then some (k - 1) else none) = _
  exact if_pos h
theorem nbx_sy {x : PP} (hx : PIv x) : ∀ c d o, c < x.1.2.2 → d < 4 → nbx x c d = some o → ∃ e, e < 4 ∧ nbx x o e = some c := by
  intro c d o hc hd h
  have h2 : c < x.1.1 * x.1.2.1 := by have := hx.2.2.1; omega
  obtain ⟨r, k, hr, hk, rfl⟩ := rc_of h2
  unfold nbx at h ⊢
  rw [gnb_rc hr hk] at h
  rcases (show d = 0 ∨ d = 1 ∨ d = 2 ∨ d = 3 by omega) with rfl | rfl | rfl | rfl
  · by_cases h0 : 0 < r
    · obtain ⟨r2, rfl⟩ : ∃ r2, r = r2 + 1 := ⟨r - 1, by omega⟩
      rw [gN_0 h0] at h
      obtain rfl : (r2 + 1) * x.1.2.1 + k - x.1.2.1 = o := by injection h
      refine ⟨2, by decide, ?_⟩
      rw [show (r2 + 1) * x.1.2.1 + k - x.1.2.1 = r2 * x.1.2.1 + k by rw [Nat.succ_mul]; omega, gnb_rc (by omega) hk]
      rw [gN_2 (by omega)]
      congr 1
      rw [Nat.succ_mul]; omega
    · rw [show gN x.1.1 x.1.2.1 r k (r * x.1.2.1 + k) 0 = none from if_neg h0] at h
      exact absurd h (by simp)
  · by_cases h0 : k + 1 < x.1.2.1
    · rw [gN_1 h0] at h
      obtain rfl : r * x.1.2.1 + k + 1 = o := by injection h
      refine ⟨3, by decide, ?_⟩
      rw [Nat.add_assoc, gnb_rc hr h0]
      rw [gN_3 (by omega)]
      congr 1
    · rw [show gN x.1.1 x.1.2.1 r k (r * x.1.2.1 + k) 1 = none from if_neg h0] at h
      exact absurd h (by simp)
  · by_cases h0 : r + 1 < x.1.1
    · rw [gN_2 h0] at h
      obtain rfl : r * x.1.2.1 + k + x.1.2.1 = o := by injection h
      refine ⟨0, by decide, ?_⟩
      rw [show r * x.1.2.1 + k + x.1.2.1 = (r + 1) * x.1.2.1 + k by rw [Nat.succ_mul]; omega, gnb_rc h0 hk]
      rw [gN_0 (by omega)]
      congr 1
      rw [Nat.succ_mul]; omega
    · rw [show gN x.1.1 x.1.2.1 r k (r * x.1.2.1 + k) 2 = none from if_neg h0] at h
      exact absurd h (by simp)
  · by_cases h0 : 0 < k
    · rw [gN_3 h0] at h
      obtain rfl : r * x.1.2.1 + k - 1 = o := by injection h
      refine ⟨1, by decide, ?_⟩
      rw [show r * x.1.2.1 + k - 1 = r * x.1.2.1 + (k - 1) by omega, gnb_rc hr (by omega)]
      rw [gN_1 (by omega)]
      congr 1
      omega
    · rw [show gN x.1.1 x.1.2.1 r k (r * x.1.2.1 + k) 3 = none from if_neg h0] at h
      exact absurd h (by simp)
/-! ways -/
def lb1 (a : Nat → Int32) (c : Nat) : Bool := decide (¬ a c = -1)
theorem lb1_1 {a : Nat → Int32} {c : Nat} : lb1 a c = true ↔ ¬ a c = -1 := decide_eq_true_iff
/-- the steps to cell c, behind a first cell and a parent -/
def wP (nb : Nat → Nat → Option Nat) (w : Nat → Int32) (h : Int32) (n f N : Nat) (se : Nat → Int32) : Prop :=
  ∀ c, c < n → se c = -1 ∨ ∃ s, s < N ∧ se c = nI s ∧ (s = 0 → c = f) ∧ (0 < s → w c ≤ h ∧ ∃ q d, q < n ∧ d < 4 ∧ nb q d = some c ∧ se q = nI (s - 1))
def wL (x : BT) (j : Nat) : Nat := (x.1 (x.2.1 j).toNatClampNeg).toNatClampNeg
def wJ (nb : Nat → Nat → Option Nat) (w : Nat → Int32) (h : Int32) (n f : Nat) (x : BT) : Prop :=
  wP nb w h n f x.2.2 x.1 ∧
  (∀ j, j < x.2.2 → ∃ q, q < n ∧ x.2.1 j = nI q ∧ ¬ x.1 q = -1) ∧
  (∀ q, q < n → ¬ x.1 q = -1 → ∃ j, j < x.2.2 ∧ x.2.1 j = nI q) ∧
  x.2.2 = kN (lb1 x.1) n ∧ x.1 f = nI 0 ∧
  ∀ j k, j ≤ k → k < x.2.2 → wL x j ≤ wL x k
section WDJ
variable {nb : Nat → Nat → Option Nat} {n f : Nat} {w : Nat → Int32} {h : Int32}
theorem wP_s {N : Nat} {se : Nat → Int32} (hP : wP nb w h n f N se) {c : Nat} (hc : c < n) (h1 : ¬ se c = -1) : ∃ s, s < N ∧ se c = nI s := by
  rcases hP c hc with q | ⟨s, a, b, _⟩
  · exact absurd q h1
  · exact ⟨s, a, b⟩
theorem wD_j (hn : n ≤ 64) (hlt : ∀ c d o, nb c d = some o → o < n) (hf : f < n) {x : BT} (hJ : wJ nb w h n f x) {q s d : Nat} (hq : q < n) (hqs : x.1 q = nI s) (hs : s < x.2.2) (hm : ∀ j, j < x.2.2 → wL x j ≤ s + 1) (hd : d < 4) :
    wJ nb w h n f (wD nb w h q d x) ∧ xE n x (wD nb w h q d x) ∧ (∀ j, j < (wD nb w h q d x).2.2 → wL (wD nb w h q d x) j ≤ s + 1) ∧ ∀ o, nb q d = some o → w o ≤ h → ∃ t, t ≤ s + 1 ∧ (wD nb w h q d x).1 o = nI t := by
  obtain ⟨j1, j2, j3, j4, j5, j6⟩ := hJ
  have hcn := kN_le (lb1 x.1) n
  rw [← j4] at hcn
  have hlab : ∀ o, o < n → ¬ x.1 o = -1 → ∃ t, t ≤ s + 1 ∧ x.1 o = nI t := by
    intro o ho h1
    obtain ⟨t, t1, t2⟩ := wP_s j1 ho h1
    obtain ⟨j, g1, g2⟩ := j3 o ho h1
    have h3 := hm j g1
    rw [show wL x j = t by unfold wL; rw [g2, nI_clamp (by omega), t2, nI_clamp (by omega)]] at h3
    exact ⟨t, h3, t2⟩
  cases hz : nb q d with
  | none =>
    rw [wD_0 hz]
    exact ⟨⟨j1, j2, j3, j4, j5, j6⟩, xE_r, hm, fun o h => absurd h (by simp)⟩
  | some o =>
    have ho := hlt q d o hz
    by_cases h2 : x.1 o = -1 ∧ w o ≤ h ∧ x.2.2 < 64
    · rw [wD_2 hz h2.1 h2.2.1 h2.2.2]
      obtain ⟨lab, qu, cnt⟩ := x
      obtain ⟨g1, g2, g3⟩ := h2
      dsimp only at j1 j2 j3 j4 j5 g1 g3 hqs hs hlab hcn ⊢
      rw [hqs, nI_1]
      have hs1 : ¬ nI (s + 1) = -1 := nI_m1 (by omega)
      have hne : ¬ lb1 lab o = true := fun q => (lb1_1.mp q) g1
      have hnew : lb1 (upd lab o (nI (s + 1))) o = true := lb1_1.mpr (by rw [upd_at]; exact hs1)
      have hoth : ∀ c, c < n → c ≠ o → lb1 (upd lab o (nI (s + 1))) c = lb1 lab c := fun c _ hc => by unfold lb1; rw [upd_ne hc]
      have hfo : f ≠ o := by
        intro e
        rw [← e, j5] at g1
        exact absurd g1 (nI_m1 (by decide))
      have hw1 : ∀ j, j < cnt → wL (upd lab o (nI (s + 1)), upd qu cnt (nI o), cnt + 1) j = wL (lab, qu, cnt) j := by
        intro j hj
        obtain ⟨q2, a1, a2, a3⟩ := j2 j hj
        show (upd lab o (nI (s + 1)) (upd qu cnt (nI o) j).toNatClampNeg).toNatClampNeg = (lab (qu j).toNatClampNeg).toNatClampNeg
        rw [upd_ne (f := qu) (show j ≠ cnt by omega), a2, nI_clamp (by omega), upd_ne (f := lab) (show q2 ≠ o by intro e; subst e; exact a3 g1)]
      have hw2 : wL (upd lab o (nI (s + 1)), upd qu cnt (nI o), cnt + 1) cnt = s + 1 := by
        unfold wL
        dsimp only
        rw [upd_at, nI_clamp (by omega), upd_at, nI_clamp (by omega)]
      refine ⟨⟨?_, ?_, ?_, ?_, ?_, ?_⟩, ⟨?_, ?_, ?_⟩, ?_, ?_⟩
      · intro c hc
        dsimp only
        by_cases he : c = o
        · subst he
          right
          refine ⟨s + 1, by omega, upd_at, fun e => absurd e (by omega), fun _ => ⟨g2, q, d, hq, hd, hz, ?_⟩⟩
          rw [show s + 1 - 1 = s by omega]
          rw [upd_ne (show q ≠ c by intro e; subst e; rw [hqs] at g1; exact nI_m1 (by omega) g1)]
          exact hqs
        · rw [upd_ne he]
          rcases j1 c hc with e | ⟨t, t1, t2, t3, t4⟩
          · exact Or.inl e
          · right
            refine ⟨t, by omega, t2, t3, fun ht => ?_⟩
            obtain ⟨t5, q2, d2, t6, t7, t8, t9⟩ := t4 ht
            refine ⟨t5, q2, d2, t6, t7, t8, ?_⟩
            rw [upd_ne (show q2 ≠ o by intro e; subst e; rw [t9] at g1; exact nI_m1 (by omega) g1)]
            exact t9
      · intro j hj
        dsimp only at hj ⊢
        by_cases he : j = cnt
        · subst he
          exact ⟨o, ho, upd_at, by rw [upd_at]; exact hs1⟩
        · obtain ⟨q2, a1, a2, a3⟩ := j2 j (by omega)
          refine ⟨q2, a1, (upd_ne he).trans a2, ?_⟩
          rw [upd_ne (show q2 ≠ o by intro e; subst e; exact a3 g1)]
          exact a3
      · intro q2 hq2 h5
        dsimp only at h5 ⊢
        by_cases hqo : q2 = o
        · subst hqo
          exact ⟨cnt, Nat.lt_succ_self _, upd_at⟩
        · rw [upd_ne hqo] at h5
          obtain ⟨j, a1, a2⟩ := j3 q2 hq2 h5
          exact ⟨j, Nat.lt_succ_of_lt a1, (upd_ne (by omega)).trans a2⟩
      · show cnt + 1 = _
        rw [kN_up hne hnew ho hoth, ← j4]
      · exact (upd_ne hfo).trans j5
      · intro j k hjk hk
        have hk2 : k < cnt + 1 := hk
        by_cases he : k = cnt
        · subst he
          rw [hw2]
          by_cases hj : j = k
          · subst hj; rw [hw2]; exact Nat.le_refl _
          · rw [hw1 j (by omega)]
            exact hm j (by show j < k; omega)
        · rw [hw1 j (by omega), hw1 k (by omega)]
          exact j6 j k hjk (by show k < cnt; omega)
      · intro c _ hc
        exact upd_ne (by intro e; subst e; exact hc g1)
      · exact Nat.le_succ _
      · intro j hj
        exact upd_ne (by have : j < cnt := hj; omega)
      · intro j hj
        have hj2 : j < cnt + 1 := hj
        by_cases he : j = cnt
        · subst he; rw [hw2]; exact Nat.le_refl _
        · rw [hw1 j (by omega)]
          exact hm j (by show j < cnt; omega)
      · intro o2 h3 _
        obtain rfl : o = o2 := by injection h3
        exact ⟨s + 1, Nat.le_refl _, upd_at⟩
    · rw [wD_1 hz h2]
      refine ⟨⟨j1, j2, j3, j4, j5, j6⟩, xE_r, hm, ?_⟩
      intro o2 h3 hw
      obtain rfl : o = o2 := by injection h3
      refine hlab o ho fun hmm => ?_
      have := kN_max (b := lb1 x.1) ho (fun e => (lb1_1.mp e) hmm)
      rw [← j4] at this
      exact h2 ⟨hmm, hw, by omega⟩
theorem wN_j (hn : n ≤ 64) (hlt : ∀ c d o, nb c d = some o → o < n) (hf : f < n) {x : BT} (hJ : wJ nb w h n f x) {q s : Nat} (hq : q < n) (hqs : x.1 q = nI s) (hs : s < x.2.2) (hm : ∀ j, j < x.2.2 → wL x j ≤ s + 1) : ∀ e, e ≤ 4 →
    wJ nb w h n f (wN nb w h q x e) ∧ xE n x (wN nb w h q x e) ∧ (∀ j, j < (wN nb w h q x e).2.2 → wL (wN nb w h q x e) j ≤ s + 1) ∧ ∀ d o, d < e → nb q d = some o → w o ≤ h → ∃ t, t ≤ s + 1 ∧ (wN nb w h q x e).1 o = nI t
  | 0, _ => ⟨hJ, xE_r, hm, fun d o h => absurd h (Nat.not_lt_zero d)⟩
  | e + 1, he => by
    obtain ⟨a1, a2, a3, a4⟩ := wN_j hn hlt hf hJ hq hqs hs hm e (by omega)
    have hcn := kN_le (lb1 x.1) n
    rw [← hJ.2.2.2.1] at hcn
    obtain ⟨b1, b2, b3, b4⟩ := wD_j (nb := nb) hn hlt hf a1 hq ((a2.1 q hq (by rw [hqs]; exact nI_m1 (by omega))).trans hqs) (Nat.lt_of_lt_of_le hs a2.2.1) a3 (show e < 4 by omega)
    refine ⟨b1, xE_t a2 b2, b3, ?_⟩
    intro d o hd hz hw
    by_cases hde : d = e
    · subst hde; exact b4 o hz hw
    · obtain ⟨t, t1, t2⟩ := a4 d o (by omega) hz hw
      exact ⟨t, t1, (b2.1 o (hlt q d o hz) (by rw [t2]; exact nI_m1 (by omega))).trans t2⟩
/-- what the class's search ends in -/
def wZ (nb : Nat → Nat → Option Nat) (w : Nat → Int32) (h : Int32) (n f : Nat) (se : Nat → Int32) : Prop :=
  wP nb w h n f 64 se ∧ se f = nI 0 ∧ ∀ q s d o, q < n → s < 64 → se q = nI s → d < 4 → nb q d = some o → w o ≤ h → ∃ t, t ≤ s + 1 ∧ se o = nI t
theorem wF_j (hn : n ≤ 64) (hlt : ∀ c d o, nb c d = some o → o < n) (hf : f < n) : ∀ (g done : Nat) (x : BT), done + g = 64 → wJ nb w h n f x → done ≤ x.2.2 → (done < x.2.2 → ∀ j, j < x.2.2 → wL x j ≤ wL x done + 1) → (∀ j, j < done → ∀ q, q < n → x.2.1 j = nI q → ∀ s d o, s < 64 → x.1 q = nI s → d < 4 → nb q d = some o → w o ≤ h → ∃ t, t ≤ s + 1 ∧ x.1 o = nI t) → wZ nb w h n f (wF nb w h g done x).1 := by
  have stop : ∀ (done : Nat) (x : BT), wJ nb w h n f x → done = x.2.2 → (∀ j, j < done → ∀ q, q < n → x.2.1 j = nI q → ∀ s d o, s < 64 → x.1 q = nI s → d < 4 → nb q d = some o → w o ≤ h → ∃ t, t ≤ s + 1 ∧ x.1 o = nI t) → wZ nb w h n f x.1 := by
    intro done x hJ he hc
    subst he
    have hcn := kN_le (lb1 x.1) n
    rw [← hJ.2.2.2.1] at hcn
    refine ⟨?_, hJ.2.2.2.2.1, ?_⟩
    · intro c hcn2
      rcases hJ.1 c hcn2 with e | ⟨t, t1, t2⟩
      · exact Or.inl e
      · exact Or.inr ⟨t, by omega, t2⟩
    · intro q s d o hq hs hqs hd hz hw
      obtain ⟨j, a1, a2⟩ := hJ.2.2.1 q hq (by rw [hqs]; exact nI_m1 (by omega))
      exact hc j a1 q hq a2 s d o hs hqs hd hz hw
  intro g
  induction g with
  | zero =>
    intro done x hd hJ hle hm hc
    have hcn := kN_le (lb1 x.1) n
    rw [← hJ.2.2.2.1] at hcn
    exact stop done x hJ (by omega) hc
  | succ g ih =>
    intro done x hd hJ hle hm hc
    have hcn := kN_le (lb1 x.1) n
    rw [← hJ.2.2.2.1] at hcn
    by_cases hlt2 : done < x.2.2
    · rw [show wF nb w h (g + 1) done x = wF nb w h g (done + 1) (wS nb w h x done) from if_pos hlt2]
      obtain ⟨q, hq, hqe, hqk⟩ := hJ.2.1 done hlt2
      have hcl : (x.2.1 done).toNatClampNeg = q := by rw [hqe]; exact nI_clamp (by omega)
      obtain ⟨s, hs, hqs⟩ := wP_s hJ.1 hq hqk
      have hwl : wL x done = s := by unfold wL; rw [hcl, hqs, nI_clamp (by omega)]
      rw [show wS nb w h x done = wN nb w h q x 4 by unfold wS; rw [hcl]]
      have hm0 := hm hlt2
      rw [hwl] at hm0
      obtain ⟨a1, a2, a3, a4⟩ := wN_j (nb := nb) hn hlt hf hJ hq hqs hs hm0 4 (Nat.le_refl 4)
      refine ih (done + 1) _ (by omega) a1 (Nat.le_trans hlt2 a2.2.1) ?_ ?_
      · intro h5 j hj
        have h6 := a3 j hj
        have h7 := a1.2.2.2.2.2 done (done + 1) (by omega) h5
        have h8 : wL (wN nb w h q x 4) done = s := by
          unfold wL
          rw [a2.2.2 done hlt2, hcl, a2.1 q hq hqk, hqs, nI_clamp (by omega)]
        omega
      · intro j hj q2 hq2 he s2 d o hs2 hqs2 hd4 hz hw
        rw [a2.2.2 j (by omega)] at he
        by_cases hjd : j = done
        · subst hjd
          rw [hqe] at he
          obtain rfl : q = q2 := (nI_eq (by omega) (by omega)).mp he
          rw [a2.1 q hq hqk, hqs] at hqs2
          obtain rfl : s = s2 := (nI_eq (by omega) (by omega)).mp hqs2
          exact a4 d o hd4 hz hw
        · have hl2 : ¬ x.1 q2 = -1 := by
            obtain ⟨q3, b1, b2, b3⟩ := hJ.2.1 j (by omega)
            rw [b2] at he
            obtain rfl : q3 = q2 := (nI_eq (by omega) (by omega)).mp he
            exact b3
          rw [a2.1 q2 hq2 hl2] at hqs2
          obtain ⟨t, t1, t2⟩ := hc j (by omega) q2 hq2 he s2 d o hs2 hqs2 hd4 hz hw
          exact ⟨t, t1, (a2.1 o (hlt q2 d o hz) (by rw [t2]; exact nI_m1 (by omega))).trans t2⟩
    · rw [show wF nb w h (g + 1) done x = x from if_neg hlt2]
      exact stop done x hJ (by omega) hc
theorem wZ_of {qu : Nat → Int32} (hn : n ≤ 64) (hlt : ∀ c d o, nb c d = some o → o < n) (hf : f < n) : wZ nb w h n f (wF nb w h 64 0 ((upd (fun _ => -1) f 0, upd qu 0 (nI f), 1) : BT)).1 := by
  have hl : ∀ c, ¬ upd (fun _ => -1) f 0 c = -1 → c = f := by
    intro c hc
    by_cases he : c = f
    · exact he
    · exact absurd (upd_ne he) hc
  refine wF_j hn hlt hf 64 0 _ rfl ⟨?_, ?_, ?_, ?_, ?_, ?_⟩ (Nat.zero_le _) ?_ (fun j hj => absurd hj (Nat.not_lt_zero j))
  · intro c _
    by_cases he : c = f
    · subst he
      dsimp only
      exact Or.inr ⟨0, Nat.zero_lt_one, upd_at, fun _ => rfl, fun e => absurd e (Nat.lt_irrefl 0)⟩
    · dsimp only
      exact Or.inl (upd_ne he)
  · intro j hj
    have hj1 : j < 1 := hj
    obtain rfl : j = 0 := by omega
    dsimp only
    exact ⟨f, hf, upd_at, by show ¬ upd (fun _ => -1) f 0 f = -1; rw [upd_at]; decide⟩
  · intro q _ hq
    obtain rfl := hl q hq
    dsimp only
    exact ⟨0, Nat.zero_lt_one, upd_at⟩
  · show 1 = _
    rw [kN_up (b := fun _ => false) (b' := lb1 (upd (fun _ => -1) f 0)) (o := f) (by decide) (lb1_1.mpr (by rw [upd_at]; decide)) hf ?_, kN_z]
    · intro c _; decide
    · intro c _ hc
      have : ¬ lb1 (upd (fun _ => -1) f 0) c = true := fun q => hc (hl c (lb1_1.mp q))
      rw [Bool.not_eq_true] at this
      exact this
  · dsimp only
    exact upd_at
  · intro j k hjk hk
    have hk1 : k < 1 := hk
    obtain rfl : k = 0 := by omega
    obtain rfl : j = 0 := by omega
    exact Nat.le_refl _
  · intro _ j hj
    have hj1 : j < 1 := hj
    obtain rfl : j = 0 := by omega
    exact Nat.le_succ _
end WDJ
/-! the reference's layers of steps -/
def lay (se : Nat → Int32) (t c : Nat) : Int32 := if se c ≤ nI t then se c else -1
theorem lay_1 {se : Nat → Int32} {t c : Nat} (h : se c ≤ nI t) : lay se t c = se c := if_pos h
theorem lay_0 {se : Nat → Int32} {t c : Nat} (h : ¬ se c ≤ nI t) : lay se t c = -1 := if_neg h
theorem lay_or (se : Nat → Int32) (t c : Nat) : lay se t c = se c ∨ lay se t c = -1 := by
  by_cases h : se c ≤ nI t
  · exact Or.inl (lay_1 h)
  · exact Or.inr (lay_0 h)
theorem lay_m {se : Nat → Int32} {t c : Nat} (h : se c = -1) : lay se t c = -1 := by
  rcases lay_or se t c with q | q
  · rw [q, h]
  · exact q
theorem lay_n {se : Nat → Int32} {t c s : Nat} (h : se c = nI s) (hs : s < 2 ^ 31) (ht : t < 2 ^ 31) : lay se t c = if s ≤ t then nI s else -1 := by
  by_cases hl : s ≤ t
  · rw [if_pos hl, lay_1 (by rw [h]; exact (nI_leI hs ht).mpr hl), h]
  · rw [if_neg hl, lay_0 (by rw [h]; exact fun q => hl ((nI_leI hs ht).mp q))]
def lyG (n : Nat) (se : Nat → Int32) (t : Nat) (st : Nat → Int32) : Prop := ∀ c, c < n → st c = lay se t c ∨ (se c = nI (t + 1) ∧ st c = nI (t + 1))
section LYN
variable {nb : Nat → Nat → Option Nat} {n f : Nat} {w se st : Nat → Int32} {h : Int32} {t : Nat}
theorem lyG_t (ht : t < 64) (hG : lyG n se t st) {c : Nat} (hc : c < n) : st c = nI t ↔ se c = nI t := by
  rcases hG c hc with q | ⟨q1, q2⟩
  · constructor
    · intro e
      rw [e] at q
      rcases lay_or se t c with r | r
      · rw [← r, ← q]
      · rw [r] at q; exact absurd q (nI_m1 (by omega))
    · intro e
      rw [q, lay_n e (by omega) (by omega), if_pos (Nat.le_refl t)]
  · constructor
    · intro e
      rw [e] at q2
      exact absurd ((nI_eq (by omega) (by omega)).mp q2) (by omega)
    · intro e
      rw [e] at q1
      exact absurd ((nI_eq (by omega) (by omega)).mp q1) (by omega)
end LYN
