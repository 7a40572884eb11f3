/-! a script's statements -/
/-- a verb or none -/
def vbO : Option Nat → AV
  | none => .inl .null
  | some k => rv 98 k
/-- the first i whose g isn't 0 -/
def vbS (g : Nat → Int32) : Nat → Nat → Option Nat
  | 0, _ => none
  | f + 1, i => if g i = 0 then vbS g f (i + 1) else some i
theorem vbS_go {g : Nat → Int32} {N i : Nat} (h : i < N) (h0 : g i = 0) : vbS g (N - (i + 1)) (i + 1) = vbS g (N - i) i := by
  obtain ⟨f, hf⟩ : ∃ f, N - i = f + 1 := ⟨N - i - 1, by omega⟩
  rw [hf, show N - (i + 1) = f by omega]; exact (if_pos h0).symm
theorem vbS_hit {g : Nat → Int32} {N i : Nat} (h : i < N) (h0 : g i ≠ 0) : vbS g (N - i) i = some i := by
  obtain ⟨f, hf⟩ : ∃ f, N - i = f + 1 := ⟨N - i - 1, by omega⟩
  rw [hf]; exact if_neg h0
theorem vbS_no {g : Nat → Int32} {N : Nat} : vbS g (N - N) N = none := by rw [Nat.sub_self]; rfl
theorem vbS_lt {g : Nat → Int32} : ∀ (f i k : Nat), vbS g f i = some k → k < i + f
  | 0, i, k, h => by cases h
  | f + 1, i, k, h => by
    unfold vbS at h
    by_cases h0 : g i = 0
    · rw [if_pos h0] at h
      have := vbS_lt f (i + 1) k h
      omega
    · rw [if_neg h0] at h
      cases h; omega
/-- the verb of the token -/
def vbG (b : Nat → Int32) (ki : Int32) (s P i : Nat) : Int32 := isW b ki s P (bytJS.getD (25 + i) [])
def vbF (b : Nat → Int32) (t : TT) : Option Nat := vbS (vbG b t.2.1 t.2.2.1.toNatClampNeg t.1) 8 0
theorem vbF_lt {b : Nat → Int32} {t : TT} {k : Nat} (h : vbF b t = some k) : k < 8 := by
  have := vbS_lt 8 0 k h
  omega
abbrev CF : Type := (Nat → Int32) × (Nat → Int32) × (Nat → Int32)
/-- numbers of a statement: the answer, the text, the three rows -/
abbrev NR : Type := (Int32 × TT) × CF
def nu1 (b : Nat → Int32) (n ct : Nat) (lo hi : Int32) (t : TT) (f : CF) : NR := ((feI (tnC b n t.1 t.2.2.2.1 lo hi) 1 0, tTk (tnC b n t.1 t.2.2.2.1 lo hi) b n t), (upd f.1 ct (tV b n t.1 t.2.2.2.1), f.2.1, f.2.2))
def nu2 (b : Nat → Int32) (n ct : Nat) (lo hi : Int32) (t : TT) (f : CF) : NR := ((feI (tnC b n t.1 t.2.2.2.1 lo hi) 1 0, tTk (tnC b n t.1 t.2.2.2.1 lo hi) b n t), (f.1, upd f.2.1 ct (tV b n t.1 t.2.2.2.1), f.2.2))
def nu3 (b : Nat → Int32) (n ct : Nat) (lo hi : Int32) (t : TT) (f : CF) : NR := ((feI (tnC b n t.1 t.2.2.2.1 lo hi) 1 0, tTk (tnC b n t.1 t.2.2.2.1 lo hi) b n t), (f.1, f.2.1, upd f.2.2 ct (tV b n t.1 t.2.2.2.1)))
/-- the boots of the token -/
def nuG (b : Nat → Int32) (n bcn : Nat) (nlN : Nat → Nat) (r : Nat → Nat → Int32) (t : TT) : Int32 := nmS (fun i => isN b (tS b n t.1) (tP b n t.1) (r i) (nlN i)) bcn 0
def nuN (b : Nat → Int32) (n ct bcn : Nat) (nlN : Nat → Nat) (r : Nat → Nat → Int32) (t : TT) (f : CF) : NR :=
  if tmC b n t.1 = 0 then (if nuG b n bcn nlN r t = -1 then ((0, tFl 3 (tTk 0 b n t)), (upd f.1 ct (nuG b n bcn nlN r t), f.2)) else ((1, tTk 0 b n t), (upd f.1 ct (nuG b n bcn nlN r t), f.2))) else ((0, tTk (tmC b n t.1) b n t), f)
/-- .. and then, if that was right -/
def nuA (x : NR) (k : TT → CF → NR) : NR := if x.1.1 = 0 then x else k x.1.2 x.2
def rNum (b : Nat → Int32) (n z ct bcn : Nat) (nlN : Nat → Nat) (r : Nat → Nat → Int32) (k : Nat) (t : TT) (f : CF) : NR := match k with
  | 0 => nu1 b n ct 0 9 t f
  | 1 => nuA (nu1 b n ct 0 (nI z - 1) t f) (fun t f => nuA (nu2 b n ct 1 20 t f) (fun t f => nu3 b n ct 1 60 t f))
  | 3 => nuA (nu1 b n ct 0 (nI z - 1) t f) (fun t f => nu2 b n ct 1 9 t f)
  | 5 => nuA (nuN b n ct bcn nlN r t f) (fun t f => nu2 b n ct 0 3 t f)
  | 6 => nuN b n ct bcn nlN r t f
  | 7 => nu1 b n ct 1 60 t f
  | _ => nu1 b n ct 0 (nI z - 1) t f
theorem nuA_0 {x : NR} {k : TT → CF → NR} (h : x.1.1 = 0) : nuA x k = x := if_pos h
theorem nuA_1 {x : NR} {k : TT → CF → NR} (h : ¬ x.1.1 = 0) : nuA x k = k x.1.2 x.2 := if_neg h
theorem fe_1 {c : Int32} (h : ¬ feI c 1 0 = 0) : feI c 1 0 = 1 := by
  rw [fe_n h]; rfl
def vCx (B3 : Nat → Nat → Int32) (ct : Nat) (vb : Nat → Int32) (f : CF) : Nat → Nat → Int32 := vC B3 (nI ct) vb f.1 f.2.1 f.2.2
set_option maxRecDepth 100000 in
set_option maxHeartbeats 4000000 in
theorem sp_X4_verbOf (l : Launch) (G : GT) (B0 : Nat → Nat → Int32) (n : Nat) (bs : Nat → Int32) (p s : Nat) (ki va ec eo : Int32) (M : Mem) (hA0 : M 0 = (vTx B0 n bs ((p, ki, nI s, va, ec, eo) : TT))) (hsp : s ≤ p) (hp : p ≤ n) (hn : n ≤ 600) : MC l G yX4_verbOf cX4_verbOf 2 (some (.object "PuddleCity$Verb")) ({ frames := 5, cells := 0, slots := 0, locals := 107 } : Room) [3] lk0 [rv 0 0] (M) (fun r9 M2 => r9 = some (vbO (vbF bs ((p, ki, nI s, va, ec, eo) : TT))) ∧ M2 = M) := by
  obtain ⟨M0, rfl⟩ : ∃ M0, M = m1 ((vTx B0 n bs ((p, ki, nI s, va, ec, eo) : TT))) M0 := ⟨M, (m1_of hA0).symm⟩
  clear hA0
  refine MC.of RX4 [some (rv 0 0), none] 1 (by decide +kernel) rfl rfl rfl ?_
  intro pp ee ss mm aa bb me cd ad E
  have ew : vbF bs ((p, ki, nI s, va, ec, eo) : TT) = vbS (vbG bs ki s p) 8 0 := by
    unfold vbF
    show vbS (vbG bs ki (nI s).toNatClampNeg p) 8 0 = _
    rw [nI_clamp (by omega)]
  refine r_iconst (v := 0) E (dat dkX4_verbOf 0 rfl) rfl ?_
  refine r_istore_1 E (dat dkX4_verbOf 1 rfl) rfl rfl ?_
  refine r_for (8) (fun k => vbS (vbG bs ki s p) (8 - k) k = vbS (vbG bs ki s p) 8 0) (fun k => m1 (vTx B0 n bs ((p, ki, nI s, va, ec, eo) : TT)) M0) (fun k => [some (rv 0 0), some (iv (nI k))]) rfl rfl rfl ?_ ?_
  · intro k hk hI kk
    refine r_iload_n E (dat dkX4_verbOf 2 rfl) rfl rfl ?_
    refine q_gvbs E gs_X4_58 (dat dkX4_verbOf 3 rfl) ?_
    refine q_vlen E (dat dkX4_verbOf 4 rfl) ?_
    refine q_icmp_ge (tgt := 37) E (dat dkX4_verbOf 5 rfl) rfl rfl rfl (by omega) (by omega) (fun h7 => ?_) (fun h7 => ?_)
    ·
      omega
    ·
      refine r_aload_n E (dat dkX4_verbOf 6 rfl) rfl rfl ?_
      refine q_gvbs E gs_X4_58 (dat dkX4_verbOf 7 rfl) ?_
      refine r_iload_n E (dat dkX4_verbOf 8 rfl) rfl rfl ?_
      refine q_vald (i := k) E (by omega) rfl (dat dkX4_verbOf 9 rfl) ?_
      refine q_word (i := k) E (by omega) gs_X4_61 (dat dkX4_verbOf 10 rfl) ?_
      refine r_callV (κ := 3) (μ := [0]) E (sp_X6_isWord l G B0 n p s ki va ec eo bs (25 + k) _ rfl (by omega) hsp hp hn) my_X6_isWord iv_X6_isWord ml_X4_65 (cm_of rfl) ⟨by decide, rfl, rfl⟩ rfl rfl rfl rfl (by decide) (Nat.le_of_ble_eq_true rfl) (dat dkX4_verbOf 11 rfl) ?_
      rintro _ _ ⟨rfl, rfl⟩
      refine ⟨_, Mrg_z rfl, ?_⟩
      refine r_if_eq (tgt := 31) E (dat dkX4_verbOf 12 rfl) rfl (fun h22 => ?_) (fun h22 => ?_)
      ·
        refine q_iinc_1 E (dat dkX4_verbOf 17 rfl) rfl rfl ?_
        refine r_goto (tgt := 2) E (dat dkX4_verbOf 18 rfl) rfl ?_
        exact kk ((vbS_go hk h22).trans hI)
      ·
        refine q_gvbs E gs_X4_58 (dat dkX4_verbOf 13 rfl) ?_
        refine r_iload_n E (dat dkX4_verbOf 14 rfl) rfl rfl ?_
        refine q_vald (i := k) E (by omega) rfl (dat dkX4_verbOf 15 rfl) ?_
        refine r_areturn E (dat dkX4_verbOf 16 rfl) ?_ (by decide) (by decide) ?_
        · exact Or.inr ⟨_, _, rfl⟩
        · rw [ew, ← hI, vbS_hit hk h22]
          exact ⟨rfl, rfl⟩
  · intro hI
    refine r_iload_n E (dat dkX4_verbOf 2 rfl) rfl rfl ?_
    refine q_gvbs E gs_X4_58 (dat dkX4_verbOf 3 rfl) ?_
    refine q_vlen E (dat dkX4_verbOf 4 rfl) ?_
    refine q_icmp_ge (tgt := 37) E (dat dkX4_verbOf 5 rfl) rfl rfl rfl (by omega) (by omega) (fun h7 => ?_) (fun h7 => ?_)
    ·
      refine r_null E (dat dkX4_verbOf 19 rfl) ?_
      refine r_areturn E (dat dkX4_verbOf 20 rfl) ?_ (by decide) (by decide) ?_
      · exact Or.inl rfl
      · rw [ew, ← hI]
        exact ⟨rfl, rfl⟩
    ·
      omega

theorem pm3_x {A0 A1 A2 : Nat → Nat → Int32} {M0 : Mem} : setm (m3 A0 A1 A2 M0) 1 A1 = m3 A0 A1 A2 M0 := pm3_1