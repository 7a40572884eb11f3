/-! the law's pairs of calls: both answer alike and keep the relation -/
def RLe (M R : Mem) (L : Int) : Prop := ∃ (x : PP) (q : Nat) (BP : Nat → Nat → Int32) (be nm A0 : Nat → Int32) (B0 : Nat → Nat → Int32) (n : Nat) (bs : Nat → Int32) (u : TT) (o h k : Nat), RLw x M R L q BP be nm A0 B0 n bs u o h k
theorem RLe.i {x : PP} {M R : Mem} {L L2 : Int} {q : Nat} {BP : Nat → Nat → Int32} {be nm A0 : Nat → Int32} {B0 : Nat → Nat → Int32} {n : Nat} {bs : Nat → Int32} {u : TT} {o h k : Nat} (H : RLw x M R L q BP be nm A0 B0 n bs u o h k) (hl : L ≤ L2) : RLe M R L2 := ⟨x, q, BP, be, nm, A0, B0, n, bs, u, o, h, k, RL_le H hl⟩
theorem nR_mt {R R1 : Mem} {k : Int32} (h : R1 0 = R 0) : nR R (mt R1 k) := by
  unfold nR
  refine ⟨?_, ?_, ?_, ?_, ?_, ?_, ?_, ?_, ?_, ?_, ?_⟩ <;> (rw [← h]; rfl)
theorem nR_i {R R1 : Mem} (h : R1 0 = R 0) : nR R R1 := by
  unfold nR
  rw [h]
  exact ⟨rfl, rfl, rfl, rfl, rfl, rfl, rfl, rfl, rfl, rfl, rfl⟩
theorem nR_ar {R : Mem} {t : Nat} {S : Nat → Int32} {k : Int32} (ht : t = 2 ∨ t = 23 ∨ t = 24) : nR R (ar t (mt R k) S) := by
  unfold nR
  rcases ht with rfl | rfl | rfl <;> exact ⟨rfl, rfl, rfl, rfl, rfl, rfl, rfl, rfl, rfl, rfl, rfl⟩
theorem nR_ra {R : Mem} {t : Nat} {S : Nat → Int32} {k : Int32} (ht : t = 2 ∨ t = 23 ∨ t = 24) : nR R (mt (ar t R S) k) := by
  unfold nR
  rcases ht with rfl | rfl | rfl <;> exact ⟨rfl, rfl, rfl, rfl, rfl, rfl, rfl, rfl, rfl, rfl, rfl⟩
theorem nI_ij {c d : Nat} (hc : c < 2 ^ 31) (hd : d < 2 ^ 31) (h : nI c = nI d) : c = d := by
  have h2 := congrArg Int32.toInt h
  rw [ni_t hc, ni_t hd] at h2
  omega
theorem ij_c {x : PP} (hx : PIv x) {a : Int32} {c d : Nat} (hc : c < x.1.2.2) (hd : d < x.1.2.2) (h1 : a = nI c) (h2 : a = nI d) : d = c := by
  have := (PIv_z hx).1
  exact nI_ij (by omega) (by omega) (h2.symm.trans h1)
theorem ij_b {x : PP} (hx : PIv x) {a : Int32} {c d : Nat} (hc : c < x.2.2.2.2.1) (hd : d < x.2.2.2.2.1) (h1 : a = nI c) (h2 : a = nI d) : d = c := by
  have := hx.2.2.2.2.1
  exact nI_ij (by omega) (by omega) (h2.symm.trans h1)
theorem ij_s {N c d : Nat} (hN : N ≤ 2 ^ 30) {a : Int32} (hc : c ≤ N) (hd : d ≤ N) (h1 : a = nI c) (h2 : a = nI d) : d = c := nI_ij (by omega) (by omega) (h2.symm.trans h1)
/-- what the law's step needs of two methods at memory N (the reference's own is N 20) -/
def PX (l : Launch) (G : GT) (N : Mem) (L2 : Int) (es : List String) (y9 : MethodName) (b9 : ByteArray) (m9 : Nat) (t9 : Option FieldType) (r9 : Room) (y10 : MethodName) (b10 : ByteArray) (m10 : Nat) (t10 : Option FieldType) (r10 : Room) (as : List AV) : Prop :=
  ∃ (post : Option AV → Mem → Prop) (XP : String → Mem → Prop) (post2 : Mem → Option AV → Mem → Prop), MCx l G y9 b9 m9 t9 r9 KC lkC (rv 0 0 :: as) N post XP ∧
    (∀ R1 : Mem, R1 0 = N 20 → MC l G y10 b10 m10 t10 r10 [9] lk0 (rv 0 0 :: as) R1 (post2 R1)) ∧
    (∀ r M', post r M' → ∃ v, r = some (iv v)) ∧ (∀ Ex M', XP Ex M' → Ex ∈ es) ∧
    (∀ v M', post (some (iv v)) M' → ∀ R1 : Mem, R1 0 = N 20 → ∀ r R', post2 R1 r R' → r = some (iv v) ∧ R' 0 0 6 = 0 ∧ RLe M' R' L2) ∧
    (∀ i Ex M', es[i]? = some Ex → XP Ex M' → ∀ R1 : Mem, R1 0 = N 20 → ∀ r R', post2 R1 r R' → (∃ b, r = some (iv b)) ∧ R' 0 0 6 = nI (i + 1) ∧ RLe M' R' L2)
/-- .. where neither throws, and the answers are compared at once -/
def PD (K : Option AV → Prop) (l : Launch) (G : GT) (N : Mem) (L2 : Int) (y9 : MethodName) (b9 : ByteArray) (m9 : Nat) (t9 : Option FieldType) (r9 : Room) (y10 : MethodName) (b10 : ByteArray) (m10 : Nat) (t10 : Option FieldType) (r10 : Room) (as : List AV) : Prop :=
  ∃ (post : Option AV → Mem → Prop) (post2 : Mem → Option AV → Mem → Prop), MC l G y9 b9 m9 t9 r9 KC lkC (rv 0 0 :: as) N post ∧
    (∀ R1 : Mem, R1 0 = N 20 → MC l G y10 b10 m10 t10 r10 [9] lk0 (rv 0 0 :: as) R1 (post2 R1)) ∧
    (∀ r M', post r M' → K r ∧ ∀ R1 : Mem, R1 0 = N 20 → ∀ r2 R', post2 R1 r2 R' → r2 = r ∧ RLe M' R' L2)
abbrev kI9 : Option AV → Prop := fun r => ∃ v, r = some (iv v)
abbrev kD : Option AV → Prop := fun r => ∃ v, r = some (.inl (.double v))
abbrev kF : Option AV → Prop := fun r => ∃ v, r = some (.inl (.float v)) ∧ vf_n64 (FP.f2d v)
theorem dq32 (a : Int32) {m : Nat} (h : m < 65) (h0 : 0 < m) : vf_n64 (FP.f2d (FP.fdiv (FP.i2f a) (FP.i2f (nI m)))) := by
  have ma : (FP.i2f a).toNat % 2 ^ 31 < 160 * 2 ^ 23 := Jvm.FP.Core.i2f_mag a
  have mb : (FP.i2f (nI m)).toNat % 2 ^ 31 < 160 * 2 ^ 23 := Jvm.FP.Core.i2f_mag (nI m)
  have h32 : Jvm.FP.Core.fIsNaN (FP.fdiv (FP.i2f a) (FP.i2f (nI m))) = false := by
    refine Jvm.FP.Core.fdiv_out ?_ ((Jvm.FP.Core.fin_bits32 _).mpr ?_) (fun q => nz32 m h h0 ((Jvm.FP.Core.zero_bits232 _).mp q))
    · rw [← Bool.not_eq_true, Jvm.FP.Core.isNaN_bits32]
      omega
    · omega
  have e : FP.f2d (FP.fdiv (FP.i2f a) (FP.i2f (nI m))) = Jvm.FP.Core.f2d (FP.fdiv (FP.i2f a) (FP.i2f (nI m))) := by
    unfold FP.f2d
    rw [h32]
    rfl
  rw [e]
  exact n64_no (Jvm.FP.Core.f2d_out h32)
theorem fb_01 {v : Int32} (h : fits .boolean (.int v) = true) : v = 0 ∨ v = 1 := by
  have h2 : (v == 0 || v == 1) = true := h
  simpa using h2
theorem nz_b {v : Int32} (h : fits .boolean (.int v) = true) : narrow .boolean (.int v) = .int v := by
  rcases fb_01 h with rfl | rfl <;> rfl
theorem nz_i {v : Int32} (h : fits .boolean (.int v) = true) : (if v = 1 then (1 : Int32) else 0) = v := by
  rcases fb_01 h with rfl | rfl <;> rfl
theorem nI_b {t N : Nat} (hN : N < 2 ^ 30) (ht : t ≤ N) : 0 ≤ nI t ∧ nI t ≤ nI N := by
  constructor
  · rw [i_le, ni_t (show t < 2 ^ 31 by omega)]
    exact Int.natCast_nonneg t
  · rw [i_le, ni_t (show t < 2 ^ 31 by omega), ni_t (show N < 2 ^ 31 by omega)]
    omega
theorem nI_4 {e : Nat} (he : e < 4) : 0 ≤ nI e ∧ nI e ≤ 3 := nI_b (N := 3) (by decide) (by omega)
theorem op_z {v : Int32} (h : 0 ≤ v.toInt) : opI v = 0 ↔ v = 0 := by
  rw [opI_0, i_le]
  constructor
  · intro h2
    have e : v.toInt = (0 : Int32).toInt := by
      have o0 : (0 : Int32).toInt = 0 := rfl
      rw [o0] at h2 ⊢
      omega
    exact Int32.toInt_inj.mp e
  · rintro rfl
    exact Int.le_refl _
theorem ps_b {m : Int32} {t : Nat} (h0 : 0 ≤ m.toInt) (h9 : m.toInt ≤ 999) (ht : t ≤ 60) (h : ¬ 999 < m + nI t) : m.toInt + t ≤ 999 := by
  have e1 : (nI t).toInt = t := ni_t (by omega)
  have e : (m + nI t).toInt = m.toInt + t := by
    rw [i_add (by rw [e1]; omega) (by rw [e1]; omega), e1]
  have h2 := Int32.not_lt.mp h
  rw [i_le, e] at h2
  exact h2
theorem nI_bv (v : Int32) : nI v.toBitVec.toNat = v := by
  apply Int32.toBitVec_inj.mp
  show BitVec.ofNat 32 v.toBitVec.toNat = v.toBitVec
  simp
theorem cs_eq {x : PP} {M : Mem} : (if (M 3 0 9 + M 3 0 10 = sm (M 3 1) x.1.2.2 + M 3 0 11 + M 3 0 12) then (if (sm (puT M x).2.2.2.1 (puT M x).1 = sm (M 3 1) x.1.2.2) then (if (sm (M 3 2) x.1.2.2 + M 3 0 14 = M 3 0 13) then (1 : Int32) else 0) else 0) else 0) = csI x M := by
  unfold csI blI
  by_cases h1 : M 3 0 9 + M 3 0 10 = sm (M 3 1) x.1.2.2 + M 3 0 11 + M 3 0 12
  · by_cases h2 : M 3 0 13 = sm (M 3 2) x.1.2.2 + M 3 0 14
    · simp [h1, h2]
    · have h3 : ¬ sm (M 3 2) x.1.2.2 + M 3 0 14 = M 3 0 13 := fun e => h2 e.symm
      simp [h1, h2, h3]
  · rw [if_neg h1, if_neg h1, if_pos rfl]
