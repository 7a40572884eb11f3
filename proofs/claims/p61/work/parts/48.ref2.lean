theorem sc_o {T : Nat → Nat → Int32} {t u c : Nat} {v : Int32} (h : u ≠ t) : sc T t c v u = T u := if_neg h
theorem sc_s {T : Nat → Nat → Int32} {t c : Nat} {v : Int32} : sc T t c v t = upd (T t) c v := if_pos rfl
theorem imin_c (a b : Int32) : imin a b = imin b a := by
  unfold imin
  by_cases h1 : b < a
  · rw [if_pos h1, if_neg (Int32.not_lt.mpr (Int32.le_of_lt h1))]
  · rw [if_neg h1]
    by_cases h2 : a < b
    · rw [if_pos h2]
    · rw [if_neg h2]
      exact Int32.le_antisymm (Int32.not_lt.mp h1) (Int32.not_lt.mp h2)
theorem imax_c (a b : Int32) : imax a b = imax b a := by
  unfold imax
  by_cases h1 : a < b
  · rw [if_pos h1, if_neg (Int32.not_lt.mpr (Int32.le_of_lt h1))]
  · rw [if_neg h1]
    by_cases h2 : b < a
    · rw [if_pos h2]
    · rw [if_neg h2]
      exact (Int32.le_antisymm (Int32.not_lt.mp h1) (Int32.not_lt.mp h2)).symm
/-- a city with at least two rows and columns -/
def PVi (x : PP) : Prop := 2 ≤ x.1.1 ∧ 2 ≤ x.1.2.1
theorem loF_sm {nb : Nat → Nat → Option Nat} {lev : Nat → Int32} {c d o : Nat} (h : nb c d = some o) : ∀ e, ∃ k, loF nb lev c (d + 1 + e) = some k
  | 0 => by
    show ∃ k, loF nb lev c (d + 1) = some k
    simp only [loF, h]
    cases hb : loF nb lev c d with
    | none => exact ⟨o, rfl⟩
    | some b =>
      dsimp only
      split
      · exact ⟨o, rfl⟩
      · exact ⟨b, rfl⟩
  | e + 1 => by
    obtain ⟨k, hk⟩ := loF_sm (lev := lev) h e
    show ∃ k, loF nb lev c (d + 1 + e + 1) = some k
    simp only [loF]
    cases h2 : nb c (d + 1 + e) with
    | none => exact ⟨k, hk⟩
    | some o2 =>
      rw [hk]
      dsimp only
      split
      · exact ⟨o2, rfl⟩
      · exact ⟨k, rfl⟩
theorem lo_ex {x : PP} (hx : PIv x) (hv : PVi x) {lev : Nat → Int32} {c : Nat} (hc : c < x.1.2.2) : ∃ o, o < x.1.2.2 ∧ loF (nbx x) lev c 4 = some o := by
  have h1 : ∃ o, loF (nbx x) lev c 4 = some o := by
    have h2 : c < x.1.1 * x.1.2.1 := by have := hx.2.2.1; omega
    obtain ⟨r, k, hr, hk, rfl⟩ := rc_of h2
    by_cases h0 : 0 < r
    · exact loF_sm (d := 0) (show nbx x (r * x.1.2.1 + k) 0 = some (r * x.1.2.1 + k - x.1.2.1) by unfold nbx; rw [gnb_rc hr hk]; exact if_pos h0) 3
    · exact loF_sm (d := 2) (show nbx x (r * x.1.2.1 + k) 2 = some (r * x.1.2.1 + k + x.1.2.1) by unfold nbx; rw [gnb_rc hr hk]; exact if_pos (by have := hv.1; omega)) 1
  obtain ⟨o, ho⟩ := h1
  exact ⟨o, loF_lt (fun d k h => nbx_lt hx c d k h) 4 o ho, ho⟩
theorem oI_nm {o : Nat} (h : o < 64) : ¬ oI (some o) = -1 := fun q : nI o = -1 => nI_pos (show o < 2 ^ 31 by omega) (by rw [q]; decide)
theorem oI_ex {o : Option Nat} (h : ¬ oI o = -1) : ∃ k, o = some k := by
  cases o with
  | none => exact absurd rfl h
  | some k => exact ⟨k, rfl⟩
theorem i32_sub2 (a b c : Int32) : a - b - c = a - (b + c) := by
  apply Int32.toBitVec_inj.mp
  simp only [Int32.toBitVec_sub, Int32.toBitVec_add]
  rw [BitVec.sub_sub]
