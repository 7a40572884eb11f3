/-! the reference's minute -/
def foldC (f : (Nat → Nat → Int32) → Nat → (Nat → Nat → Int32)) (T : Nat → Nat → Int32) : Nat → (Nat → Nat → Int32)
  | 0 => T
  | i + 1 => f (foldC f T i) i
def loO (x : PP) (T : Nat → Nat → Int32) (c : Nat) : Nat := match loF (nbx x) (fun k => x.2.1 k + T 1 k) c 4 with
  | none => 0
  | some o => o
def r1C (T : Nat → Nat → Int32) (c : Nat) : Nat → Nat → Int32 := guC (raC T c) c
def r2C (x : PP) (T : Nat → Nat → Int32) (c : Nat) : Nat → Nat → Int32 := flC x T c (loO x T c)
def zm (T : Nat → Nat → Int32) : Int32 := T 0 7 - T 0 7 / 10 * 10
def r3C (x : PP) (T : Nat → Nat → Int32) (c : Nat) : Nat → Nat → Int32 := if zm (drC x T c) = 0 then evC1 (drC x T c) c else drC x T c
def r4C (x : PP) (T : Nat → Nat → Int32) (b : Nat) : Nat → Nat → Int32 := soC x T b (T 5 b).toNatClampNeg
def q1 (x : PP) (T : Nat → Nat → Int32) : Nat → (Nat → Nat → Int32) := foldC r1C (sc T 0 7 (T 0 7 + 1))
def q2 (x : PP) (T : Nat → Nat → Int32) : Nat → (Nat → Nat → Int32) := foldC (r2C x) (q1 x T x.1.2.2)
def q3 (x : PP) (T : Nat → Nat → Int32) : Nat → (Nat → Nat → Int32) := foldC (r3C x) (q2 x T x.1.2.2)
def q4 (x : PP) (T : Nat → Nat → Int32) : Nat → (Nat → Nat → Int32) := foldC (r4C x) (q3 x T x.1.2.2)
/-- one minute of the reference -/
def mmS (x : PP) (T : Nat → Nat → Int32) : Nat → Nat → Int32 := q4 x T x.2.2.2.2.1
theorem foldC_k {f : (Nat → Nat → Int32) → Nat → (Nat → Nat → Int32)} {t : Nat} (h : ∀ T c, f T c t = T t) {T : Nat → Nat → Int32} : ∀ i, foldC f T i t = T t
  | 0 => rfl
  | i + 1 => (h _ i).trans (foldC_k h i)
theorem guC_5 {T : Nat → Nat → Int32} {c : Nat} : guC T c 5 = T 5 := by
  unfold guC
  split
  · rfl
  · split <;> rfl
theorem r1C_5 {T : Nat → Nat → Int32} {c : Nat} : r1C T c 5 = T 5 := guC_5
theorem flC_5 {x : PP} {T : Nat → Nat → Int32} {c o : Nat} : flC x T c o 5 = T 5 := by
  unfold flC
  split
  · rfl
  · split <;> rfl
theorem r3C_5 {x : PP} {T : Nat → Nat → Int32} {c : Nat} : r3C x T c 5 = T 5 := by
  unfold r3C
  split
  · unfold evC1; split <;> rfl
  · rfl
theorem soC_5 {x : PP} {T : Nat → Nat → Int32} {b q : Nat} : soC x T b q 5 = T 5 := by unfold soC; split <;> rfl
theorem q3_5 {x : PP} {T : Nat → Nat → Int32} (i : Nat) : q3 x T i 5 = T 5 := (foldC_k (fun _ _ => r3C_5) i).trans ((foldC_k (fun _ _ => flC_5) _).trans ((foldC_k (fun _ _ => r1C_5) _).trans rfl))
theorem q4_5 {x : PP} {T : Nat → Nat → Int32} (i : Nat) : q4 x T i 5 = T 5 := (foldC_k (fun _ _ => soC_5) i).trans (q3_5 _)
theorem r2C_s {x : PP} {T : Nat → Nat → Int32} {c o : Nat} (h : loF (nbx x) (fun k => x.2.1 k + T 1 k) c 4 = some o) : r2C x T c = flC x T c o := by unfold r2C loO; rw [h]
theorem r4C_s {x : PP} {T : Nat → Nat → Int32} {b q : Nat} (h : T 5 b = nI q) (hq : q < 2 ^ 31) : r4C x T b = soC x T b q := by unfold r4C; rw [h, nI_clamp hq]
theorem ce_x {A0 : Nat → Int32} {x : PP} {T : Nat → Nat → Int32} (hx : PIv x) : enc A0 x T 2 * enc A0 x T 1 = nI x.1.2.2 := by
  rw [hx.2.2.1]
  exact pk_mul _ _
theorem i32_sa (a b d : Int32) : a - b + d = a + d - b := by
  rw [Int32.sub_eq_add_neg, Int32.sub_eq_add_neg, Int32.add_assoc, Int32.add_comm (-b) d, ← Int32.add_assoc]
theorem evC1_11 {T : Nat → Nat → Int32} {c : Nat} {v : Int32} (h : T 0 11 = v := by rfl) : evC1 T c 0 11 = v := by
  unfold evC1
  split
  · exact h
  · exact h
