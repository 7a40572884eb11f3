theorem setm_setm {M : Mem} {j : Nat} {A B : Nat → Nat → Int32} : setm (setm M j A) j B = setm M j B := by
  funext g
  unfold setm
  split <;> rfl
theorem setm_self {M : Mem} {j : Nat} : setm M j (M j) = M := by
  funext g
  unfold setm
  split
  · rename_i h; rw [h]
  · rfl
theorem sett_sett {A : Nat → Nat → Int32} {t : Nat} {f g : Nat → Int32} : sett (sett A t f) t g = sett A t g := by
  funext u
  unfold sett
  split <;> rfl
/-- kind 1: a7 mi, a8 ra, a9 rd, a10 fh, a11 dr, a12 ev, a13 dp, a14 sw; b1 w, b2 lv, b3 hr, b4 ht, b5 pl, b6 sp, b7 wt -/
def vS (B : Nat → Nat → Int32) (a7 a8 a9 a10 a11 a12 a13 a14 : Int32) (b1 b2 b3 b4 b5 b6 b7 : Nat → Int32) : Nat → Nat → Int32 := fun t => if t = 0 then (fun k => if k = 7 then a7 else if k = 8 then a8 else if k = 9 then a9 else if k = 10 then a10 else if k = 11 then a11 else if k = 12 then a12 else if k = 13 then a13 else if k = 14 then a14 else B 0 k) else if t = 1 then b1 else if t = 2 then b2 else if t = 3 then b3 else if t = 4 then b4 else if t = 5 then b5 else if t = 6 then b6 else if t = 7 then b7 else B t
theorem gfS_7 {B : Nat → Nat → Int32} {a7 a8 a9 a10 a11 a12 a13 a14 : Int32} {b1 b2 b3 b4 b5 b6 b7 : Nat → Int32} : (vS B a7 a8 a9 a10 a11 a12 a13 a14 b1 b2 b3 b4 b5 b6 b7) 0 7 = a7 := rfl
theorem pfS_7 {B : Nat → Nat → Int32} {a7 a8 a9 a10 a11 a12 a13 a14 : Int32} {b1 b2 b3 b4 b5 b6 b7 : Nat → Int32} {x : Int32} : sett (vS B a7 a8 a9 a10 a11 a12 a13 a14 b1 b2 b3 b4 b5 b6 b7) 0 (upd ((vS B a7 a8 a9 a10 a11 a12 a13 a14 b1 b2 b3 b4 b5 b6 b7) 0) 7 x) = vS B x a8 a9 a10 a11 a12 a13 a14 b1 b2 b3 b4 b5 b6 b7 := by
  funext t
  by_cases h : t = 0
  · subst h
    funext k
    by_cases h2 : k = 7
    · subst h2; rfl
    · simp only [sett, upd, vS, h2, if_true, if_false]
  · simp only [sett, vS, h, if_false]
theorem gfS_8 {B : Nat → Nat → Int32} {a7 a8 a9 a10 a11 a12 a13 a14 : Int32} {b1 b2 b3 b4 b5 b6 b7 : Nat → Int32} : (vS B a7 a8 a9 a10 a11 a12 a13 a14 b1 b2 b3 b4 b5 b6 b7) 0 8 = a8 := rfl
theorem pfS_8 {B : Nat → Nat → Int32} {a7 a8 a9 a10 a11 a12 a13 a14 : Int32} {b1 b2 b3 b4 b5 b6 b7 : Nat → Int32} {x : Int32} : sett (vS B a7 a8 a9 a10 a11 a12 a13 a14 b1 b2 b3 b4 b5 b6 b7) 0 (upd ((vS B a7 a8 a9 a10 a11 a12 a13 a14 b1 b2 b3 b4 b5 b6 b7) 0) 8 x) = vS B a7 x a9 a10 a11 a12 a13 a14 b1 b2 b3 b4 b5 b6 b7 := by
  funext t
  by_cases h : t = 0
  · subst h
    funext k
    by_cases h2 : k = 8
    · subst h2; rfl
    · simp only [sett, upd, vS, h2, if_true, if_false]
  · simp only [sett, vS, h, if_false]
theorem gfS_9 {B : Nat → Nat → Int32} {a7 a8 a9 a10 a11 a12 a13 a14 : Int32} {b1 b2 b3 b4 b5 b6 b7 : Nat → Int32} : (vS B a7 a8 a9 a10 a11 a12 a13 a14 b1 b2 b3 b4 b5 b6 b7) 0 9 = a9 := rfl
theorem pfS_9 {B : Nat → Nat → Int32} {a7 a8 a9 a10 a11 a12 a13 a14 : Int32} {b1 b2 b3 b4 b5 b6 b7 : Nat → Int32} {x : Int32} : sett (vS B a7 a8 a9 a10 a11 a12 a13 a14 b1 b2 b3 b4 b5 b6 b7) 0 (upd ((vS B a7 a8 a9 a10 a11 a12 a13 a14 b1 b2 b3 b4 b5 b6 b7) 0) 9 x) = vS B a7 a8 x a10 a11 a12 a13 a14 b1 b2 b3 b4 b5 b6 b7 := by
  funext t
  by_cases h : t = 0
  · subst h
    funext k
    by_cases h2 : k = 9
    · subst h2; rfl
    · simp only [sett, upd, vS, h2, if_true, if_false]
  · simp only [sett, vS, h, if_false]
theorem gfS_10 {B : Nat → Nat → Int32} {a7 a8 a9 a10 a11 a12 a13 a14 : Int32} {b1 b2 b3 b4 b5 b6 b7 : Nat → Int32} : (vS B a7 a8 a9 a10 a11 a12 a13 a14 b1 b2 b3 b4 b5 b6 b7) 0 10 = a10 := rfl
theorem pfS_10 {B : Nat → Nat → Int32} {a7 a8 a9 a10 a11 a12 a13 a14 : Int32} {b1 b2 b3 b4 b5 b6 b7 : Nat → Int32} {x : Int32} : sett (vS B a7 a8 a9 a10 a11 a12 a13 a14 b1 b2 b3 b4 b5 b6 b7) 0 (upd ((vS B a7 a8 a9 a10 a11 a12 a13 a14 b1 b2 b3 b4 b5 b6 b7) 0) 10 x) = vS B a7 a8 a9 x a11 a12 a13 a14 b1 b2 b3 b4 b5 b6 b7 := by
  funext t
  by_cases h : t = 0
  · subst h
    funext k
    by_cases h2 : k = 10
    · subst h2; rfl
    · simp only [sett, upd, vS, h2, if_true, if_false]
  · simp only [sett, vS, h, if_false]
theorem gfS_11 {B : Nat → Nat → Int32} {a7 a8 a9 a10 a11 a12 a13 a14 : Int32} {b1 b2 b3 b4 b5 b6 b7 : Nat → Int32} : (vS B a7 a8 a9 a10 a11 a12 a13 a14 b1 b2 b3 b4 b5 b6 b7) 0 11 = a11 := rfl
theorem pfS_11 {B : Nat → Nat → Int32} {a7 a8 a9 a10 a11 a12 a13 a14 : Int32} {b1 b2 b3 b4 b5 b6 b7 : Nat → Int32} {x : Int32} : sett (vS B a7 a8 a9 a10 a11 a12 a13 a14 b1 b2 b3 b4 b5 b6 b7) 0 (upd ((vS B a7 a8 a9 a10 a11 a12 a13 a14 b1 b2 b3 b4 b5 b6 b7) 0) 11 x) = vS B a7 a8 a9 a10 x a12 a13 a14 b1 b2 b3 b4 b5 b6 b7 := by
  funext t
  by_cases h : t = 0
  · subst h
    funext k
    by_cases h2 : k = 11
    · subst h2; rfl
    · simp only [sett, upd, vS, h2, if_true, if_false]
  · simp only [sett, vS, h, if_false]
theorem gfS_12 {B : Nat → Nat → Int32} {a7 a8 a9 a10 a11 a12 a13 a14 : Int32} {b1 b2 b3 b4 b5 b6 b7 : Nat → Int32} : (vS B a7 a8 a9 a10 a11 a12 a13 a14 b1 b2 b3 b4 b5 b6 b7) 0 12 = a12 := rfl
theorem pfS_12 {B : Nat → Nat → Int32} {a7 a8 a9 a10 a11 a12 a13 a14 : Int32} {b1 b2 b3 b4 b5 b6 b7 : Nat → Int32} {x : Int32} : sett (vS B a7 a8 a9 a10 a11 a12 a13 a14 b1 b2 b3 b4 b5 b6 b7) 0 (upd ((vS B a7 a8 a9 a10 a11 a12 a13 a14 b1 b2 b3 b4 b5 b6 b7) 0) 12 x) = vS B a7 a8 a9 a10 a11 x a13 a14 b1 b2 b3 b4 b5 b6 b7 := by
  funext t
  by_cases h : t = 0
  · subst h
    funext k
    by_cases h2 : k = 12
    · subst h2; rfl
    · simp only [sett, upd, vS, h2, if_true, if_false]
  · simp only [sett, vS, h, if_false]
theorem gfS_13 {B : Nat → Nat → Int32} {a7 a8 a9 a10 a11 a12 a13 a14 : Int32} {b1 b2 b3 b4 b5 b6 b7 : Nat → Int32} : (vS B a7 a8 a9 a10 a11 a12 a13 a14 b1 b2 b3 b4 b5 b6 b7) 0 13 = a13 := rfl
theorem pfS_13 {B : Nat → Nat → Int32} {a7 a8 a9 a10 a11 a12 a13 a14 : Int32} {b1 b2 b3 b4 b5 b6 b7 : Nat → Int32} {x : Int32} : sett (vS B a7 a8 a9 a10 a11 a12 a13 a14 b1 b2 b3 b4 b5 b6 b7) 0 (upd ((vS B a7 a8 a9 a10 a11 a12 a13 a14 b1 b2 b3 b4 b5 b6 b7) 0) 13 x) = vS B a7 a8 a9 a10 a11 a12 x a14 b1 b2 b3 b4 b5 b6 b7 := by
  funext t
  by_cases h : t = 0
  · subst h
    funext k
    by_cases h2 : k = 13
    · subst h2; rfl
    · simp only [sett, upd, vS, h2, if_true, if_false]
  · simp only [sett, vS, h, if_false]
theorem gfS_14 {B : Nat → Nat → Int32} {a7 a8 a9 a10 a11 a12 a13 a14 : Int32} {b1 b2 b3 b4 b5 b6 b7 : Nat → Int32} : (vS B a7 a8 a9 a10 a11 a12 a13 a14 b1 b2 b3 b4 b5 b6 b7) 0 14 = a14 := rfl
theorem pfS_14 {B : Nat → Nat → Int32} {a7 a8 a9 a10 a11 a12 a13 a14 : Int32} {b1 b2 b3 b4 b5 b6 b7 : Nat → Int32} {x : Int32} : sett (vS B a7 a8 a9 a10 a11 a12 a13 a14 b1 b2 b3 b4 b5 b6 b7) 0 (upd ((vS B a7 a8 a9 a10 a11 a12 a13 a14 b1 b2 b3 b4 b5 b6 b7) 0) 14 x) = vS B a7 a8 a9 a10 a11 a12 a13 x b1 b2 b3 b4 b5 b6 b7 := by
  funext t
  by_cases h : t = 0
  · subst h
    funext k
    by_cases h2 : k = 14
    · subst h2; rfl
    · simp only [sett, upd, vS, h2, if_true, if_false]
  · simp only [sett, vS, h, if_false]
theorem gaS_1 {B : Nat → Nat → Int32} {a7 a8 a9 a10 a11 a12 a13 a14 : Int32} {b1 b2 b3 b4 b5 b6 b7 : Nat → Int32} : (vS B a7 a8 a9 a10 a11 a12 a13 a14 b1 b2 b3 b4 b5 b6 b7) 1 = b1 := rfl
theorem paS_1 {B : Nat → Nat → Int32} {a7 a8 a9 a10 a11 a12 a13 a14 : Int32} {b1 b2 b3 b4 b5 b6 b7 : Nat → Int32} {x : Nat → Int32} : sett (vS B a7 a8 a9 a10 a11 a12 a13 a14 b1 b2 b3 b4 b5 b6 b7) 1 x = vS B a7 a8 a9 a10 a11 a12 a13 a14 x b2 b3 b4 b5 b6 b7 := by
  funext u
  by_cases h : u = 1
  · subst h; rfl
  · simp only [sett, vS, h, if_false]
theorem gaS_2 {B : Nat → Nat → Int32} {a7 a8 a9 a10 a11 a12 a13 a14 : Int32} {b1 b2 b3 b4 b5 b6 b7 : Nat → Int32} : (vS B a7 a8 a9 a10 a11 a12 a13 a14 b1 b2 b3 b4 b5 b6 b7) 2 = b2 := rfl
theorem paS_2 {B : Nat → Nat → Int32} {a7 a8 a9 a10 a11 a12 a13 a14 : Int32} {b1 b2 b3 b4 b5 b6 b7 : Nat → Int32} {x : Nat → Int32} : sett (vS B a7 a8 a9 a10 a11 a12 a13 a14 b1 b2 b3 b4 b5 b6 b7) 2 x = vS B a7 a8 a9 a10 a11 a12 a13 a14 b1 x b3 b4 b5 b6 b7 := by
  funext u
  by_cases h : u = 2
  · subst h; rfl
  · simp only [sett, vS, h, if_false]
theorem gaS_3 {B : Nat → Nat → Int32} {a7 a8 a9 a10 a11 a12 a13 a14 : Int32} {b1 b2 b3 b4 b5 b6 b7 : Nat → Int32} : (vS B a7 a8 a9 a10 a11 a12 a13 a14 b1 b2 b3 b4 b5 b6 b7) 3 = b3 := rfl
theorem paS_3 {B : Nat → Nat → Int32} {a7 a8 a9 a10 a11 a12 a13 a14 : Int32} {b1 b2 b3 b4 b5 b6 b7 : Nat → Int32} {x : Nat → Int32} : sett (vS B a7 a8 a9 a10 a11 a12 a13 a14 b1 b2 b3 b4 b5 b6 b7) 3 x = vS B a7 a8 a9 a10 a11 a12 a13 a14 b1 b2 x b4 b5 b6 b7 := by
  funext u
  by_cases h : u = 3
  · subst h; rfl
  · simp only [sett, vS, h, if_false]
theorem gaS_4 {B : Nat → Nat → Int32} {a7 a8 a9 a10 a11 a12 a13 a14 : Int32} {b1 b2 b3 b4 b5 b6 b7 : Nat → Int32} : (vS B a7 a8 a9 a10 a11 a12 a13 a14 b1 b2 b3 b4 b5 b6 b7) 4 = b4 := rfl
theorem paS_4 {B : Nat → Nat → Int32} {a7 a8 a9 a10 a11 a12 a13 a14 : Int32} {b1 b2 b3 b4 b5 b6 b7 : Nat → Int32} {x : Nat → Int32} : sett (vS B a7 a8 a9 a10 a11 a12 a13 a14 b1 b2 b3 b4 b5 b6 b7) 4 x = vS B a7 a8 a9 a10 a11 a12 a13 a14 b1 b2 b3 x b5 b6 b7 := by
  funext u
  by_cases h : u = 4
  · subst h; rfl
  · simp only [sett, vS, h, if_false]
theorem gaS_5 {B : Nat → Nat → Int32} {a7 a8 a9 a10 a11 a12 a13 a14 : Int32} {b1 b2 b3 b4 b5 b6 b7 : Nat → Int32} : (vS B a7 a8 a9 a10 a11 a12 a13 a14 b1 b2 b3 b4 b5 b6 b7) 5 = b5 := rfl
theorem paS_5 {B : Nat → Nat → Int32} {a7 a8 a9 a10 a11 a12 a13 a14 : Int32} {b1 b2 b3 b4 b5 b6 b7 : Nat → Int32} {x : Nat → Int32} : sett (vS B a7 a8 a9 a10 a11 a12 a13 a14 b1 b2 b3 b4 b5 b6 b7) 5 x = vS B a7 a8 a9 a10 a11 a12 a13 a14 b1 b2 b3 b4 x b6 b7 := by
  funext u
  by_cases h : u = 5
  · subst h; rfl
  · simp only [sett, vS, h, if_false]
theorem gaS_6 {B : Nat → Nat → Int32} {a7 a8 a9 a10 a11 a12 a13 a14 : Int32} {b1 b2 b3 b4 b5 b6 b7 : Nat → Int32} : (vS B a7 a8 a9 a10 a11 a12 a13 a14 b1 b2 b3 b4 b5 b6 b7) 6 = b6 := rfl
theorem paS_6 {B : Nat → Nat → Int32} {a7 a8 a9 a10 a11 a12 a13 a14 : Int32} {b1 b2 b3 b4 b5 b6 b7 : Nat → Int32} {x : Nat → Int32} : sett (vS B a7 a8 a9 a10 a11 a12 a13 a14 b1 b2 b3 b4 b5 b6 b7) 6 x = vS B a7 a8 a9 a10 a11 a12 a13 a14 b1 b2 b3 b4 b5 x b7 := by
  funext u
  by_cases h : u = 6
  · subst h; rfl
  · simp only [sett, vS, h, if_false]
theorem gaS_7 {B : Nat → Nat → Int32} {a7 a8 a9 a10 a11 a12 a13 a14 : Int32} {b1 b2 b3 b4 b5 b6 b7 : Nat → Int32} : (vS B a7 a8 a9 a10 a11 a12 a13 a14 b1 b2 b3 b4 b5 b6 b7) 7 = b7 := rfl
theorem paS_7 {B : Nat → Nat → Int32} {a7 a8 a9 a10 a11 a12 a13 a14 : Int32} {b1 b2 b3 b4 b5 b6 b7 : Nat → Int32} {x : Nat → Int32} : sett (vS B a7 a8 a9 a10 a11 a12 a13 a14 b1 b2 b3 b4 b5 b6 b7) 7 x = vS B a7 a8 a9 a10 a11 a12 a13 a14 b1 b2 b3 b4 b5 b6 x := by
  funext u
  by_cases h : u = 7
  · subst h; rfl
  · simp only [sett, vS, h, if_false]
theorem evS (B : Nat → Nat → Int32) : vS B (B 0 7) (B 0 8) (B 0 9) (B 0 10) (B 0 11) (B 0 12) (B 0 13) (B 0 14) (B 1) (B 2) (B 3) (B 4) (B 5) (B 6) (B 7) = B := by
  funext t
  unfold vS
  by_cases h0 : t = 0
  · subst h0
    rw [if_pos rfl]
    funext k
    by_cases c7 : k = 7
    · subst c7; rfl
    rw [if_neg c7]
    by_cases c8 : k = 8
    · subst c8; rfl
    rw [if_neg c8]
    by_cases c9 : k = 9
    · subst c9; rfl
    rw [if_neg c9]
    by_cases c10 : k = 10
    · subst c10; rfl
    rw [if_neg c10]
    by_cases c11 : k = 11
    · subst c11; rfl
    rw [if_neg c11]
    by_cases c12 : k = 12
    · subst c12; rfl
    rw [if_neg c12]
    by_cases c13 : k = 13
    · subst c13; rfl
    rw [if_neg c13]
    by_cases c14 : k = 14
    · subst c14; rfl
    rw [if_neg c14]
    try rfl
  · rw [if_neg h0]
    by_cases c1 : t = 1
    · subst c1; rfl
    rw [if_neg c1]
    by_cases c2 : t = 2
    · subst c2; rfl
    rw [if_neg c2]
    by_cases c3 : t = 3
    · subst c3; rfl
    rw [if_neg c3]
    by_cases c4 : t = 4
    · subst c4; rfl
    rw [if_neg c4]
    by_cases c5 : t = 5
    · subst c5; rfl
    rw [if_neg c5]
    by_cases c6 : t = 6
    · subst c6; rfl
    rw [if_neg c6]
    by_cases c7 : t = 7
    · subst c7; rfl
    rw [if_neg c7]
    try rfl
/-- kind 2: a7 ro, a8 co, a9 ce, a10 bc, a11 fr; b1 he, b2 gu, b3 be, b4 nm, b5 nl, b6 bh, b7 fp, b8 n0, b9 n1, b10 n2, b11 n3 -/
def vP (B : Nat → Nat → Int32) (a7 a8 a9 a10 a11 : Int32) (b1 b2 b3 b4 b5 b6 b7 b8 b9 b10 b11 : Nat → Int32) : Nat → Nat → Int32 := fun t => if t = 0 then (fun k => if k = 7 then a7 else if k = 8 then a8 else if k = 9 then a9 else if k = 10 then a10 else if k = 11 then a11 else B 0 k) else if t = 1 then b1 else if t = 2 then b2 else if t = 3 then b3 else if t = 4 then b4 else if t = 5 then b5 else if t = 6 then b6 else if t = 7 then b7 else if t = 8 then b8 else if t = 9 then b9 else if t = 10 then b10 else if t = 11 then b11 else B t
theorem gfP_7 {B : Nat → Nat → Int32} {a7 a8 a9 a10 a11 : Int32} {b1 b2 b3 b4 b5 b6 b7 b8 b9 b10 b11 : Nat → Int32} : (vP B a7 a8 a9 a10 a11 b1 b2 b3 b4 b5 b6 b7 b8 b9 b10 b11) 0 7 = a7 := rfl
theorem pfP_7 {B : Nat → Nat → Int32} {a7 a8 a9 a10 a11 : Int32} {b1 b2 b3 b4 b5 b6 b7 b8 b9 b10 b11 : Nat → Int32} {x : Int32} : sett (vP B a7 a8 a9 a10 a11 b1 b2 b3 b4 b5 b6 b7 b8 b9 b10 b11) 0 (upd ((vP B a7 a8 a9 a10 a11 b1 b2 b3 b4 b5 b6 b7 b8 b9 b10 b11) 0) 7 x) = vP B x a8 a9 a10 a11 b1 b2 b3 b4 b5 b6 b7 b8 b9 b10 b11 := by
  funext t
  by_cases h : t = 0
  · subst h
    funext k
    by_cases h2 : k = 7
    · subst h2; rfl
    · simp only [sett, upd, vP, h2, if_true, if_false]
  · simp only [sett, vP, h, if_false]
theorem gfP_8 {B : Nat → Nat → Int32} {a7 a8 a9 a10 a11 : Int32} {b1 b2 b3 b4 b5 b6 b7 b8 b9 b10 b11 : Nat → Int32} : (vP B a7 a8 a9 a10 a11 b1 b2 b3 b4 b5 b6 b7 b8 b9 b10 b11) 0 8 = a8 := rfl
theorem pfP_8 {B : Nat → Nat → Int32} {a7 a8 a9 a10 a11 : Int32} {b1 b2 b3 b4 b5 b6 b7 b8 b9 b10 b11 : Nat → Int32} {x : Int32} : sett (vP B a7 a8 a9 a10 a11 b1 b2 b3 b4 b5 b6 b7 b8 b9 b10 b11) 0 (upd ((vP B a7 a8 a9 a10 a11 b1 b2 b3 b4 b5 b6 b7 b8 b9 b10 b11) 0) 8 x) = vP B a7 x a9 a10 a11 b1 b2 b3 b4 b5 b6 b7 b8 b9 b10 b11 := by
  funext t
  by_cases h : t = 0
  · subst h
    funext k
    by_cases h2 : k = 8
    · subst h2; rfl
    · simp only [sett, upd, vP, h2, if_true, if_false]
  · simp only [sett, vP, h, if_false]
theorem gfP_9 {B : Nat → Nat → Int32} {a7 a8 a9 a10 a11 : Int32} {b1 b2 b3 b4 b5 b6 b7 b8 b9 b10 b11 : Nat → Int32} : (vP B a7 a8 a9 a10 a11 b1 b2 b3 b4 b5 b6 b7 b8 b9 b10 b11) 0 9 = a9 := rfl
theorem pfP_9 {B : Nat → Nat → Int32} {a7 a8 a9 a10 a11 : Int32} {b1 b2 b3 b4 b5 b6 b7 b8 b9 b10 b11 : Nat → Int32} {x : Int32} : sett (vP B a7 a8 a9 a10 a11 b1 b2 b3 b4 b5 b6 b7 b8 b9 b10 b11) 0 (upd ((vP B a7 a8 a9 a10 a11 b1 b2 b3 b4 b5 b6 b7 b8 b9 b10 b11) 0) 9 x) = vP B a7 a8 x a10 a11 b1 b2 b3 b4 b5 b6 b7 b8 b9 b10 b11 := by
  funext t
  by_cases h : t = 0
  · subst h
    funext k
    by_cases h2 : k = 9
    · subst h2; rfl
    · simp only [sett, upd, vP, h2, if_true, if_false]
  · simp only [sett, vP, h, if_false]
theorem gfP_10 {B : Nat → Nat → Int32} {a7 a8 a9 a10 a11 : Int32} {b1 b2 b3 b4 b5 b6 b7 b8 b9 b10 b11 : Nat → Int32} : (vP B a7 a8 a9 a10 a11 b1 b2 b3 b4 b5 b6 b7 b8 b9 b10 b11) 0 10 = a10 := rfl
theorem pfP_10 {B : Nat → Nat → Int32} {a7 a8 a9 a10 a11 : Int32} {b1 b2 b3 b4 b5 b6 b7 b8 b9 b10 b11 : Nat → Int32} {x : Int32} : sett (vP B a7 a8 a9 a10 a11 b1 b2 b3 b4 b5 b6 b7 b8 b9 b10 b11) 0 (upd ((vP B a7 a8 a9 a10 a11 b1 b2 b3 b4 b5 b6 b7 b8 b9 b10 b11) 0) 10 x) = vP B a7 a8 a9 x a11 b1 b2 b3 b4 b5 b6 b7 b8 b9 b10 b11 := by
  funext t
  by_cases h : t = 0
  · subst h
    funext k
    by_cases h2 : k = 10
    · subst h2; rfl
    · simp only [sett, upd, vP, h2, if_true, if_false]
  · simp only [sett, vP, h, if_false]
theorem gfP_11 {B : Nat → Nat → Int32} {a7 a8 a9 a10 a11 : Int32} {b1 b2 b3 b4 b5 b6 b7 b8 b9 b10 b11 : Nat → Int32} : (vP B a7 a8 a9 a10 a11 b1 b2 b3 b4 b5 b6 b7 b8 b9 b10 b11) 0 11 = a11 := rfl
theorem pfP_11 {B : Nat → Nat → Int32} {a7 a8 a9 a10 a11 : Int32} {b1 b2 b3 b4 b5 b6 b7 b8 b9 b10 b11 : Nat → Int32} {x : Int32} : sett (vP B a7 a8 a9 a10 a11 b1 b2 b3 b4 b5 b6 b7 b8 b9 b10 b11) 0 (upd ((vP B a7 a8 a9 a10 a11 b1 b2 b3 b4 b5 b6 b7 b8 b9 b10 b11) 0) 11 x) = vP B a7 a8 a9 a10 x b1 b2 b3 b4 b5 b6 b7 b8 b9 b10 b11 := by
  funext t
  by_cases h : t = 0
  · subst h
    funext k
    by_cases h2 : k = 11
    · subst h2; rfl
    · simp only [sett, upd, vP, h2, if_true, if_false]
  · simp only [sett, vP, h, if_false]
theorem gaP_1 {B : Nat → Nat → Int32} {a7 a8 a9 a10 a11 : Int32} {b1 b2 b3 b4 b5 b6 b7 b8 b9 b10 b11 : Nat → Int32} : (vP B a7 a8 a9 a10 a11 b1 b2 b3 b4 b5 b6 b7 b8 b9 b10 b11) 1 = b1 := rfl
theorem paP_1 {B : Nat → Nat → Int32} {a7 a8 a9 a10 a11 : Int32} {b1 b2 b3 b4 b5 b6 b7 b8 b9 b10 b11 : Nat → Int32} {x : Nat → Int32} : sett (vP B a7 a8 a9 a10 a11 b1 b2 b3 b4 b5 b6 b7 b8 b9 b10 b11) 1 x = vP B a7 a8 a9 a10 a11 x b2 b3 b4 b5 b6 b7 b8 b9 b10 b11 := by
  funext u
  by_cases h : u = 1
  · subst h; rfl
  · simp only [sett, vP, h, if_false]
theorem gaP_2 {B : Nat → Nat → Int32} {a7 a8 a9 a10 a11 : Int32} {b1 b2 b3 b4 b5 b6 b7 b8 b9 b10 b11 : Nat → Int32} : (vP B a7 a8 a9 a10 a11 b1 b2 b3 b4 b5 b6 b7 b8 b9 b10 b11) 2 = b2 := rfl
theorem paP_2 {B : Nat → Nat → Int32} {a7 a8 a9 a10 a11 : Int32} {b1 b2 b3 b4 b5 b6 b7 b8 b9 b10 b11 : Nat → Int32} {x : Nat → Int32} : sett (vP B a7 a8 a9 a10 a11 b1 b2 b3 b4 b5 b6 b7 b8 b9 b10 b11) 2 x = vP B a7 a8 a9 a10 a11 b1 x b3 b4 b5 b6 b7 b8 b9 b10 b11 := by
  funext u
  by_cases h : u = 2
  · subst h; rfl
  · simp only [sett, vP, h, if_false]
theorem gaP_3 {B : Nat → Nat → Int32} {a7 a8 a9 a10 a11 : Int32} {b1 b2 b3 b4 b5 b6 b7 b8 b9 b10 b11 : Nat → Int32} : (vP B a7 a8 a9 a10 a11 b1 b2 b3 b4 b5 b6 b7 b8 b9 b10 b11) 3 = b3 := rfl
theorem paP_3 {B : Nat → Nat → Int32} {a7 a8 a9 a10 a11 : Int32} {b1 b2 b3 b4 b5 b6 b7 b8 b9 b10 b11 : Nat → Int32} {x : Nat → Int32} : sett (vP B a7 a8 a9 a10 a11 b1 b2 b3 b4 b5 b6 b7 b8 b9 b10 b11) 3 x = vP B a7 a8 a9 a10 a11 b1 b2 x b4 b5 b6 b7 b8 b9 b10 b11 := by
  funext u
  by_cases h : u = 3
  · subst h; rfl
  · simp only [sett, vP, h, if_false]
theorem gaP_4 {B : Nat → Nat → Int32} {a7 a8 a9 a10 a11 : Int32} {b1 b2 b3 b4 b5 b6 b7 b8 b9 b10 b11 : Nat → Int32} : (vP B a7 a8 a9 a10 a11 b1 b2 b3 b4 b5 b6 b7 b8 b9 b10 b11) 4 = b4 := rfl
theorem paP_4 {B : Nat → Nat → Int32} {a7 a8 a9 a10 a11 : Int32} {b1 b2 b3 b4 b5 b6 b7 b8 b9 b10 b11 : Nat → Int32} {x : Nat → Int32} : sett (vP B a7 a8 a9 a10 a11 b1 b2 b3 b4 b5 b6 b7 b8 b9 b10 b11) 4 x = vP B a7 a8 a9 a10 a11 b1 b2 b3 x b5 b6 b7 b8 b9 b10 b11 := by
  funext u
  by_cases h : u = 4
  · subst h; rfl
  · simp only [sett, vP, h, if_false]
theorem gaP_5 {B : Nat → Nat → Int32} {a7 a8 a9 a10 a11 : Int32} {b1 b2 b3 b4 b5 b6 b7 b8 b9 b10 b11 : Nat → Int32} : (vP B a7 a8 a9 a10 a11 b1 b2 b3 b4 b5 b6 b7 b8 b9 b10 b11) 5 = b5 := rfl
theorem paP_5 {B : Nat → Nat → Int32} {a7 a8 a9 a10 a11 : Int32} {b1 b2 b3 b4 b5 b6 b7 b8 b9 b10 b11 : Nat → Int32} {x : Nat → Int32} : sett (vP B a7 a8 a9 a10 a11 b1 b2 b3 b4 b5 b6 b7 b8 b9 b10 b11) 5 x = vP B a7 a8 a9 a10 a11 b1 b2 b3 b4 x b6 b7 b8 b9 b10 b11 := by
  funext u
  by_cases h : u = 5
  · subst h; rfl
  · simp only [sett, vP, h, if_false]
theorem gaP_6 {B : Nat → Nat → Int32} {a7 a8 a9 a10 a11 : Int32} {b1 b2 b3 b4 b5 b6 b7 b8 b9 b10 b11 : Nat → Int32} : (vP B a7 a8 a9 a10 a11 b1 b2 b3 b4 b5 b6 b7 b8 b9 b10 b11) 6 = b6 := rfl
theorem paP_6 {B : Nat → Nat → Int32} {a7 a8 a9 a10 a11 : Int32} {b1 b2 b3 b4 b5 b6 b7 b8 b9 b10 b11 : Nat → Int32} {x : Nat → Int32} : sett (vP B a7 a8 a9 a10 a11 b1 b2 b3 b4 b5 b6 b7 b8 b9 b10 b11) 6 x = vP B a7 a8 a9 a10 a11 b1 b2 b3 b4 b5 x b7 b8 b9 b10 b11 := by
  funext u
  by_cases h : u = 6
  · subst h; rfl
  · simp only [sett, vP, h, if_false]
theorem gaP_7 {B : Nat → Nat → Int32} {a7 a8 a9 a10 a11 : Int32} {b1 b2 b3 b4 b5 b6 b7 b8 b9 b10 b11 : Nat → Int32} : (vP B a7 a8 a9 a10 a11 b1 b2 b3 b4 b5 b6 b7 b8 b9 b10 b11) 7 = b7 := rfl
theorem paP_7 {B : Nat → Nat → Int32} {a7 a8 a9 a10 a11 : Int32} {b1 b2 b3 b4 b5 b6 b7 b8 b9 b10 b11 : Nat → Int32} {x : Nat → Int32} : sett (vP B a7 a8 a9 a10 a11 b1 b2 b3 b4 b5 b6 b7 b8 b9 b10 b11) 7 x = vP B a7 a8 a9 a10 a11 b1 b2 b3 b4 b5 b6 x b8 b9 b10 b11 := by
  funext u
  by_cases h : u = 7
  · subst h; rfl
  · simp only [sett, vP, h, if_false]
theorem gaP_8 {B : Nat → Nat → Int32} {a7 a8 a9 a10 a11 : Int32} {b1 b2 b3 b4 b5 b6 b7 b8 b9 b10 b11 : Nat → Int32} : (vP B a7 a8 a9 a10 a11 b1 b2 b3 b4 b5 b6 b7 b8 b9 b10 b11) 8 = b8 := rfl
theorem paP_8 {B : Nat → Nat → Int32} {a7 a8 a9 a10 a11 : Int32} {b1 b2 b3 b4 b5 b6 b7 b8 b9 b10 b11 : Nat → Int32} {x : Nat → Int32} : sett (vP B a7 a8 a9 a10 a11 b1 b2 b3 b4 b5 b6 b7 b8 b9 b10 b11) 8 x = vP B a7 a8 a9 a10 a11 b1 b2 b3 b4 b5 b6 b7 x b9 b10 b11 := by
  funext u
  by_cases h : u = 8
  · subst h; rfl
  · simp only [sett, vP, h, if_false]
theorem gaP_9 {B : Nat → Nat → Int32} {a7 a8 a9 a10 a11 : Int32} {b1 b2 b3 b4 b5 b6 b7 b8 b9 b10 b11 : Nat → Int32} : (vP B a7 a8 a9 a10 a11 b1 b2 b3 b4 b5 b6 b7 b8 b9 b10 b11) 9 = b9 := rfl
theorem paP_9 {B : Nat → Nat → Int32} {a7 a8 a9 a10 a11 : Int32} {b1 b2 b3 b4 b5 b6 b7 b8 b9 b10 b11 : Nat → Int32} {x : Nat → Int32} : sett (vP B a7 a8 a9 a10 a11 b1 b2 b3 b4 b5 b6 b7 b8 b9 b10 b11) 9 x = vP B a7 a8 a9 a10 a11 b1 b2 b3 b4 b5 b6 b7 b8 x b10 b11 := by
  funext u
  by_cases h : u = 9
  · subst h; rfl
  · simp only [sett, vP, h, if_false]
theorem gaP_10 {B : Nat → Nat → Int32} {a7 a8 a9 a10 a11 : Int32} {b1 b2 b3 b4 b5 b6 b7 b8 b9 b10 b11 : Nat → Int32} : (vP B a7 a8 a9 a10 a11 b1 b2 b3 b4 b5 b6 b7 b8 b9 b10 b11) 10 = b10 := rfl
theorem paP_10 {B : Nat → Nat → Int32} {a7 a8 a9 a10 a11 : Int32} {b1 b2 b3 b4 b5 b6 b7 b8 b9 b10 b11 : Nat → Int32} {x : Nat → Int32} : sett (vP B a7 a8 a9 a10 a11 b1 b2 b3 b4 b5 b6 b7 b8 b9 b10 b11) 10 x = vP B a7 a8 a9 a10 a11 b1 b2 b3 b4 b5 b6 b7 b8 b9 x b11 := by
  funext u
  by_cases h : u = 10
  · subst h; rfl
  · simp only [sett, vP, h, if_false]
theorem gaP_11 {B : Nat → Nat → Int32} {a7 a8 a9 a10 a11 : Int32} {b1 b2 b3 b4 b5 b6 b7 b8 b9 b10 b11 : Nat → Int32} : (vP B a7 a8 a9 a10 a11 b1 b2 b3 b4 b5 b6 b7 b8 b9 b10 b11) 11 = b11 := rfl
theorem paP_11 {B : Nat → Nat → Int32} {a7 a8 a9 a10 a11 : Int32} {b1 b2 b3 b4 b5 b6 b7 b8 b9 b10 b11 : Nat → Int32} {x : Nat → Int32} : sett (vP B a7 a8 a9 a10 a11 b1 b2 b3 b4 b5 b6 b7 b8 b9 b10 b11) 11 x = vP B a7 a8 a9 a10 a11 b1 b2 b3 b4 b5 b6 b7 b8 b9 b10 x := by
  funext u
  by_cases h : u = 11
  · subst h; rfl
  · simp only [sett, vP, h, if_false]
theorem evP (B : Nat → Nat → Int32) : vP B (B 0 7) (B 0 8) (B 0 9) (B 0 10) (B 0 11) (B 1) (B 2) (B 3) (B 4) (B 5) (B 6) (B 7) (B 8) (B 9) (B 10) (B 11) = B := by
  funext t
  unfold vP
  by_cases h0 : t = 0
  · subst h0
    rw [if_pos rfl]
    funext k
    by_cases c7 : k = 7
    · subst c7; rfl
    rw [if_neg c7]
    by_cases c8 : k = 8
    · subst c8; rfl
    rw [if_neg c8]
    by_cases c9 : k = 9
    · subst c9; rfl
    rw [if_neg c9]
    by_cases c10 : k = 10
    · subst c10; rfl
    rw [if_neg c10]
    by_cases c11 : k = 11
    · subst c11; rfl
    rw [if_neg c11]
    try rfl
  · rw [if_neg h0]
    by_cases c1 : t = 1
    · subst c1; rfl
    rw [if_neg c1]
    by_cases c2 : t = 2
    · subst c2; rfl
    rw [if_neg c2]
    by_cases c3 : t = 3
    · subst c3; rfl
    rw [if_neg c3]
    by_cases c4 : t = 4
    · subst c4; rfl
    rw [if_neg c4]
    by_cases c5 : t = 5
    · subst c5; rfl
    rw [if_neg c5]
    by_cases c6 : t = 6
    · subst c6; rfl
    rw [if_neg c6]
    by_cases c7 : t = 7
    · subst c7; rfl
    rw [if_neg c7]
    by_cases c8 : t = 8
    · subst c8; rfl
    rw [if_neg c8]
    by_cases c9 : t = 9
    · subst c9; rfl
    rw [if_neg c9]
    by_cases c10 : t = 10
    · subst c10; rfl
    rw [if_neg c10]
    by_cases c11 : t = 11
    · subst c11; rfl
    rw [if_neg c11]
    try rfl
/-- kind 3: a1 le, a2 po, a3 ki, a4 st, a5 va, a6 ec, a7 eo; b1 by -/
def vT (B : Nat → Nat → Int32) (a1 a2 a3 a4 a5 a6 a7 : Int32) (b1 : Nat → Int32) : Nat → Nat → Int32 := fun t => if t = 0 then (fun k => if k = 1 then a1 else if k = 2 then a2 else if k = 3 then a3 else if k = 4 then a4 else if k = 5 then a5 else if k = 6 then a6 else if k = 7 then a7 else B 0 k) else if t = 1 then b1 else B t
theorem gfT_1 {B : Nat → Nat → Int32} {a1 a2 a3 a4 a5 a6 a7 : Int32} {b1 : Nat → Int32} : (vT B a1 a2 a3 a4 a5 a6 a7 b1) 0 1 = a1 := rfl
theorem pfT_1 {B : Nat → Nat → Int32} {a1 a2 a3 a4 a5 a6 a7 : Int32} {b1 : Nat → Int32} {x : Int32} : sett (vT B a1 a2 a3 a4 a5 a6 a7 b1) 0 (upd ((vT B a1 a2 a3 a4 a5 a6 a7 b1) 0) 1 x) = vT B x a2 a3 a4 a5 a6 a7 b1 := by
  funext t
  by_cases h : t = 0
  · subst h
    funext k
    by_cases h2 : k = 1
    · subst h2; rfl
    · simp only [sett, upd, vT, h2, if_true, if_false]
  · simp only [sett, vT, h, if_false]
theorem gfT_2 {B : Nat → Nat → Int32} {a1 a2 a3 a4 a5 a6 a7 : Int32} {b1 : Nat → Int32} : (vT B a1 a2 a3 a4 a5 a6 a7 b1) 0 2 = a2 := rfl
theorem pfT_2 {B : Nat → Nat → Int32} {a1 a2 a3 a4 a5 a6 a7 : Int32} {b1 : Nat → Int32} {x : Int32} : sett (vT B a1 a2 a3 a4 a5 a6 a7 b1) 0 (upd ((vT B a1 a2 a3 a4 a5 a6 a7 b1) 0) 2 x) = vT B a1 x a3 a4 a5 a6 a7 b1 := by
  funext t
  by_cases h : t = 0
  · subst h
    funext k
    by_cases h2 : k = 2
    · subst h2; rfl
    · simp only [sett, upd, vT, h2, if_true, if_false]
  · simp only [sett, vT, h, if_false]
theorem gfT_3 {B : Nat → Nat → Int32} {a1 a2 a3 a4 a5 a6 a7 : Int32} {b1 : Nat → Int32} : (vT B a1 a2 a3 a4 a5 a6 a7 b1) 0 3 = a3 := rfl
theorem pfT_3 {B : Nat → Nat → Int32} {a1 a2 a3 a4 a5 a6 a7 : Int32} {b1 : Nat → Int32} {x : Int32} : sett (vT B a1 a2 a3 a4 a5 a6 a7 b1) 0 (upd ((vT B a1 a2 a3 a4 a5 a6 a7 b1) 0) 3 x) = vT B a1 a2 x a4 a5 a6 a7 b1 := by
  funext t
  by_cases h : t = 0
  · subst h
    funext k
    by_cases h2 : k = 3
    · subst h2; rfl
    · simp only [sett, upd, vT, h2, if_true, if_false]
  · simp only [sett, vT, h, if_false]
theorem gfT_4 {B : Nat → Nat → Int32} {a1 a2 a3 a4 a5 a6 a7 : Int32} {b1 : Nat → Int32} : (vT B a1 a2 a3 a4 a5 a6 a7 b1) 0 4 = a4 := rfl
theorem pfT_4 {B : Nat → Nat → Int32} {a1 a2 a3 a4 a5 a6 a7 : Int32} {b1 : Nat → Int32} {x : Int32} : sett (vT B a1 a2 a3 a4 a5 a6 a7 b1) 0 (upd ((vT B a1 a2 a3 a4 a5 a6 a7 b1) 0) 4 x) = vT B a1 a2 a3 x a5 a6 a7 b1 := by
  funext t
  by_cases h : t = 0
  · subst h
    funext k
    by_cases h2 : k = 4
    · subst h2; rfl
    · simp only [sett, upd, vT, h2, if_true, if_false]
  · simp only [sett, vT, h, if_false]
theorem gfT_5 {B : Nat → Nat → Int32} {a1 a2 a3 a4 a5 a6 a7 : Int32} {b1 : Nat → Int32} : (vT B a1 a2 a3 a4 a5 a6 a7 b1) 0 5 = a5 := rfl
theorem pfT_5 {B : Nat → Nat → Int32} {a1 a2 a3 a4 a5 a6 a7 : Int32} {b1 : Nat → Int32} {x : Int32} : sett (vT B a1 a2 a3 a4 a5 a6 a7 b1) 0 (upd ((vT B a1 a2 a3 a4 a5 a6 a7 b1) 0) 5 x) = vT B a1 a2 a3 a4 x a6 a7 b1 := by
  funext t
  by_cases h : t = 0
  · subst h
    funext k
    by_cases h2 : k = 5
    · subst h2; rfl
    · simp only [sett, upd, vT, h2, if_true, if_false]
  · simp only [sett, vT, h, if_false]
theorem gfT_6 {B : Nat → Nat → Int32} {a1 a2 a3 a4 a5 a6 a7 : Int32} {b1 : Nat → Int32} : (vT B a1 a2 a3 a4 a5 a6 a7 b1) 0 6 = a6 := rfl
theorem pfT_6 {B : Nat → Nat → Int32} {a1 a2 a3 a4 a5 a6 a7 : Int32} {b1 : Nat → Int32} {x : Int32} : sett (vT B a1 a2 a3 a4 a5 a6 a7 b1) 0 (upd ((vT B a1 a2 a3 a4 a5 a6 a7 b1) 0) 6 x) = vT B a1 a2 a3 a4 a5 x a7 b1 := by
  funext t
  by_cases h : t = 0
  · subst h
    funext k
    by_cases h2 : k = 6
    · subst h2; rfl
    · simp only [sett, upd, vT, h2, if_true, if_false]
  · simp only [sett, vT, h, if_false]
theorem gfT_7 {B : Nat → Nat → Int32} {a1 a2 a3 a4 a5 a6 a7 : Int32} {b1 : Nat → Int32} : (vT B a1 a2 a3 a4 a5 a6 a7 b1) 0 7 = a7 := rfl
theorem pfT_7 {B : Nat → Nat → Int32} {a1 a2 a3 a4 a5 a6 a7 : Int32} {b1 : Nat → Int32} {x : Int32} : sett (vT B a1 a2 a3 a4 a5 a6 a7 b1) 0 (upd ((vT B a1 a2 a3 a4 a5 a6 a7 b1) 0) 7 x) = vT B a1 a2 a3 a4 a5 a6 x b1 := by
  funext t
  by_cases h : t = 0
  · subst h
    funext k
    by_cases h2 : k = 7
    · subst h2; rfl
    · simp only [sett, upd, vT, h2, if_true, if_false]
  · simp only [sett, vT, h, if_false]
theorem gaT_1 {B : Nat → Nat → Int32} {a1 a2 a3 a4 a5 a6 a7 : Int32} {b1 : Nat → Int32} : (vT B a1 a2 a3 a4 a5 a6 a7 b1) 1 = b1 := rfl
theorem paT_1 {B : Nat → Nat → Int32} {a1 a2 a3 a4 a5 a6 a7 : Int32} {b1 : Nat → Int32} {x : Nat → Int32} : sett (vT B a1 a2 a3 a4 a5 a6 a7 b1) 1 x = vT B a1 a2 a3 a4 a5 a6 a7 x := by
  funext u
  by_cases h : u = 1
  · subst h; rfl
  · simp only [sett, vT, h, if_false]
theorem evT (B : Nat → Nat → Int32) : vT B (B 0 1) (B 0 2) (B 0 3) (B 0 4) (B 0 5) (B 0 6) (B 0 7) (B 1) = B := by
  funext t
  unfold vT
  by_cases h0 : t = 0
  · subst h0
    rw [if_pos rfl]
    funext k
    by_cases c1 : k = 1
    · subst c1; rfl
    rw [if_neg c1]
    by_cases c2 : k = 2
    · subst c2; rfl
    rw [if_neg c2]
    by_cases c3 : k = 3
    · subst c3; rfl
    rw [if_neg c3]
    by_cases c4 : k = 4
    · subst c4; rfl
    rw [if_neg c4]
    by_cases c5 : k = 5
    · subst c5; rfl
    rw [if_neg c5]
    by_cases c6 : k = 6
    · subst c6; rfl
    rw [if_neg c6]
    by_cases c7 : k = 7
    · subst c7; rfl
    rw [if_neg c7]
    try rfl
  · rw [if_neg h0]
    by_cases c1 : t = 1
    · subst c1; rfl
    rw [if_neg c1]
    try rfl
/-- kind 4: a4 ct; b1 vb, b2 f1, b3 f2, b4 f3 -/
def vC (B : Nat → Nat → Int32) (a4 : Int32) (b1 b2 b3 b4 : Nat → Int32) : Nat → Nat → Int32 := fun t => if t = 0 then (fun k => if k = 4 then a4 else B 0 k) else if t = 1 then b1 else if t = 2 then b2 else if t = 3 then b3 else if t = 4 then b4 else B t
theorem gfC_4 {B : Nat → Nat → Int32} {a4 : Int32} {b1 b2 b3 b4 : Nat → Int32} : (vC B a4 b1 b2 b3 b4) 0 4 = a4 := rfl
theorem pfC_4 {B : Nat → Nat → Int32} {a4 : Int32} {b1 b2 b3 b4 : Nat → Int32} {x : Int32} : sett (vC B a4 b1 b2 b3 b4) 0 (upd ((vC B a4 b1 b2 b3 b4) 0) 4 x) = vC B x b1 b2 b3 b4 := by
  funext t
  by_cases h : t = 0
  · subst h
    funext k
    by_cases h2 : k = 4
    · subst h2; rfl
    · simp only [sett, upd, vC, h2, if_true, if_false]
  · simp only [sett, vC, h, if_false]
theorem gaC_1 {B : Nat → Nat → Int32} {a4 : Int32} {b1 b2 b3 b4 : Nat → Int32} : (vC B a4 b1 b2 b3 b4) 1 = b1 := rfl
theorem paC_1 {B : Nat → Nat → Int32} {a4 : Int32} {b1 b2 b3 b4 : Nat → Int32} {x : Nat → Int32} : sett (vC B a4 b1 b2 b3 b4) 1 x = vC B a4 x b2 b3 b4 := by
  funext u
  by_cases h : u = 1
  · subst h; rfl
  · simp only [sett, vC, h, if_false]
theorem gaC_2 {B : Nat → Nat → Int32} {a4 : Int32} {b1 b2 b3 b4 : Nat → Int32} : (vC B a4 b1 b2 b3 b4) 2 = b2 := rfl
theorem paC_2 {B : Nat → Nat → Int32} {a4 : Int32} {b1 b2 b3 b4 : Nat → Int32} {x : Nat → Int32} : sett (vC B a4 b1 b2 b3 b4) 2 x = vC B a4 b1 x b3 b4 := by
  funext u
  by_cases h : u = 2
  · subst h; rfl
  · simp only [sett, vC, h, if_false]
theorem gaC_3 {B : Nat → Nat → Int32} {a4 : Int32} {b1 b2 b3 b4 : Nat → Int32} : (vC B a4 b1 b2 b3 b4) 3 = b3 := rfl
theorem paC_3 {B : Nat → Nat → Int32} {a4 : Int32} {b1 b2 b3 b4 : Nat → Int32} {x : Nat → Int32} : sett (vC B a4 b1 b2 b3 b4) 3 x = vC B a4 b1 b2 x b4 := by
  funext u
  by_cases h : u = 3
  · subst h; rfl
  · simp only [sett, vC, h, if_false]
theorem gaC_4 {B : Nat → Nat → Int32} {a4 : Int32} {b1 b2 b3 b4 : Nat → Int32} : (vC B a4 b1 b2 b3 b4) 4 = b4 := rfl
theorem paC_4 {B : Nat → Nat → Int32} {a4 : Int32} {b1 b2 b3 b4 : Nat → Int32} {x : Nat → Int32} : sett (vC B a4 b1 b2 b3 b4) 4 x = vC B a4 b1 b2 b3 x := by
  funext u
  by_cases h : u = 4
  · subst h; rfl
  · simp only [sett, vC, h, if_false]
theorem evC (B : Nat → Nat → Int32) : vC B (B 0 4) (B 1) (B 2) (B 3) (B 4) = B := by
  funext t
  unfold vC
  by_cases h0 : t = 0
  · subst h0
    rw [if_pos rfl]
    funext k
    by_cases c4 : k = 4
    · subst c4; rfl
    rw [if_neg c4]
    try rfl
  · rw [if_neg h0]
    by_cases c1 : t = 1
    · subst c1; rfl
    rw [if_neg c1]
    by_cases c2 : t = 2
    · subst c2; rfl
    rw [if_neg c2]
    by_cases c3 : t = 3
    · subst c3; rfl
    rw [if_neg c3]
    by_cases c4 : t = 4
    · subst c4; rfl
    rw [if_neg c4]
    try rfl
/-- kind 5: a4 ct; b1 lb, b2 sz, b3 wa, b4 qu -/
def vU (B : Nat → Nat → Int32) (a4 : Int32) (b1 b2 b3 b4 : Nat → Int32) : Nat → Nat → Int32 := fun t => if t = 0 then (fun k => if k = 4 then a4 else B 0 k) else if t = 1 then b1 else if t = 2 then b2 else if t = 3 then b3 else if t = 4 then b4 else B t
theorem gfU_4 {B : Nat → Nat → Int32} {a4 : Int32} {b1 b2 b3 b4 : Nat → Int32} : (vU B a4 b1 b2 b3 b4) 0 4 = a4 := rfl
theorem pfU_4 {B : Nat → Nat → Int32} {a4 : Int32} {b1 b2 b3 b4 : Nat → Int32} {x : Int32} : sett (vU B a4 b1 b2 b3 b4) 0 (upd ((vU B a4 b1 b2 b3 b4) 0) 4 x) = vU B x b1 b2 b3 b4 := by
  funext t
  by_cases h : t = 0
  · subst h
    funext k
    by_cases h2 : k = 4
    · subst h2; rfl
    · simp only [sett, upd, vU, h2, if_true, if_false]
  · simp only [sett, vU, h, if_false]
theorem gaU_1 {B : Nat → Nat → Int32} {a4 : Int32} {b1 b2 b3 b4 : Nat → Int32} : (vU B a4 b1 b2 b3 b4) 1 = b1 := rfl
theorem paU_1 {B : Nat → Nat → Int32} {a4 : Int32} {b1 b2 b3 b4 : Nat → Int32} {x : Nat → Int32} : sett (vU B a4 b1 b2 b3 b4) 1 x = vU B a4 x b2 b3 b4 := by
  funext u
  by_cases h : u = 1
  · subst h; rfl
  · simp only [sett, vU, h, if_false]
theorem gaU_2 {B : Nat → Nat → Int32} {a4 : Int32} {b1 b2 b3 b4 : Nat → Int32} : (vU B a4 b1 b2 b3 b4) 2 = b2 := rfl
theorem paU_2 {B : Nat → Nat → Int32} {a4 : Int32} {b1 b2 b3 b4 : Nat → Int32} {x : Nat → Int32} : sett (vU B a4 b1 b2 b3 b4) 2 x = vU B a4 b1 x b3 b4 := by
  funext u
  by_cases h : u = 2
  · subst h; rfl
  · simp only [sett, vU, h, if_false]
theorem gaU_3 {B : Nat → Nat → Int32} {a4 : Int32} {b1 b2 b3 b4 : Nat → Int32} : (vU B a4 b1 b2 b3 b4) 3 = b3 := rfl
theorem paU_3 {B : Nat → Nat → Int32} {a4 : Int32} {b1 b2 b3 b4 : Nat → Int32} {x : Nat → Int32} : sett (vU B a4 b1 b2 b3 b4) 3 x = vU B a4 b1 b2 x b4 := by
  funext u
  by_cases h : u = 3
  · subst h; rfl
  · simp only [sett, vU, h, if_false]
theorem gaU_4 {B : Nat → Nat → Int32} {a4 : Int32} {b1 b2 b3 b4 : Nat → Int32} : (vU B a4 b1 b2 b3 b4) 4 = b4 := rfl
theorem paU_4 {B : Nat → Nat → Int32} {a4 : Int32} {b1 b2 b3 b4 : Nat → Int32} {x : Nat → Int32} : sett (vU B a4 b1 b2 b3 b4) 4 x = vU B a4 b1 b2 b3 x := by
  funext u
  by_cases h : u = 4
  · subst h; rfl
  · simp only [sett, vU, h, if_false]
theorem evU (B : Nat → Nat → Int32) : vU B (B 0 4) (B 1) (B 2) (B 3) (B 4) = B := by
  funext t
  unfold vU
  by_cases h0 : t = 0
  · subst h0
    rw [if_pos rfl]
    funext k
    by_cases c4 : k = 4
    · subst c4; rfl
    rw [if_neg c4]
    try rfl
  · rw [if_neg h0]
    by_cases c1 : t = 1
    · subst c1; rfl
    rw [if_neg c1]
    by_cases c2 : t = 2
    · subst c2; rfl
    rw [if_neg c2]
    by_cases c3 : t = 3
    · subst c3; rfl
    rw [if_neg c3]
    by_cases c4 : t = 4
    · subst c4; rfl
    rw [if_neg c4]
    try rfl
/-- kind 6: ; b1 st, b2 qu -/
def vW (B : Nat → Nat → Int32) (b1 b2 : Nat → Int32) : Nat → Nat → Int32 := fun t => if t = 0 then (fun k => B 0 k) else if t = 1 then b1 else if t = 2 then b2 else B t
theorem gaW_1 {B : Nat → Nat → Int32} {b1 b2 : Nat → Int32} : (vW B  b1 b2) 1 = b1 := rfl
theorem paW_1 {B : Nat → Nat → Int32} {b1 b2 : Nat → Int32} {x : Nat → Int32} : sett (vW B  b1 b2) 1 x = vW B  x b2 := by
  funext u
  by_cases h : u = 1
  · subst h; rfl
  · simp only [sett, vW, h, if_false]
theorem gaW_2 {B : Nat → Nat → Int32} {b1 b2 : Nat → Int32} : (vW B  b1 b2) 2 = b2 := rfl
theorem paW_2 {B : Nat → Nat → Int32} {b1 b2 : Nat → Int32} {x : Nat → Int32} : sett (vW B  b1 b2) 2 x = vW B  b1 x := by
  funext u
  by_cases h : u = 2
  · subst h; rfl
  · simp only [sett, vW, h, if_false]
theorem evW (B : Nat → Nat → Int32) : vW B  (B 1) (B 2) = B := by
  funext t
  unfold vW
  by_cases h0 : t = 0
  · subst h0
    rw [if_pos rfl]
  · rw [if_neg h0]
    by_cases c1 : t = 1
    · subst c1; rfl
    rw [if_neg c1]
    by_cases c2 : t = 2
    · subst c2; rfl
    rw [if_neg c2]
    try rfl
/-- kind 7: a1 ol, a2 ct; b1 ss -/
def vH (B : Nat → Nat → Int32) (a1 a2 : Int32) (b1 : Nat → Int32) : Nat → Nat → Int32 := fun t => if t = 0 then (fun k => if k = 1 then a1 else if k = 2 then a2 else B 0 k) else if t = 1 then b1 else B t
theorem gfH_1 {B : Nat → Nat → Int32} {a1 a2 : Int32} {b1 : Nat → Int32} : (vH B a1 a2 b1) 0 1 = a1 := rfl
theorem pfH_1 {B : Nat → Nat → Int32} {a1 a2 : Int32} {b1 : Nat → Int32} {x : Int32} : sett (vH B a1 a2 b1) 0 (upd ((vH B a1 a2 b1) 0) 1 x) = vH B x a2 b1 := by
  funext t
  by_cases h : t = 0
  · subst h
    funext k
    by_cases h2 : k = 1
    · subst h2; rfl
    · simp only [sett, upd, vH, h2, if_true, if_false]
  · simp only [sett, vH, h, if_false]
theorem gfH_2 {B : Nat → Nat → Int32} {a1 a2 : Int32} {b1 : Nat → Int32} : (vH B a1 a2 b1) 0 2 = a2 := rfl
theorem pfH_2 {B : Nat → Nat → Int32} {a1 a2 : Int32} {b1 : Nat → Int32} {x : Int32} : sett (vH B a1 a2 b1) 0 (upd ((vH B a1 a2 b1) 0) 2 x) = vH B a1 x b1 := by
  funext t
  by_cases h : t = 0
  · subst h
    funext k
    by_cases h2 : k = 2
    · subst h2; rfl
    · simp only [sett, upd, vH, h2, if_true, if_false]
  · simp only [sett, vH, h, if_false]
theorem gaH_1 {B : Nat → Nat → Int32} {a1 a2 : Int32} {b1 : Nat → Int32} : (vH B a1 a2 b1) 1 = b1 := rfl
theorem paH_1 {B : Nat → Nat → Int32} {a1 a2 : Int32} {b1 : Nat → Int32} {x : Nat → Int32} : sett (vH B a1 a2 b1) 1 x = vH B a1 a2 x := by
  funext u
  by_cases h : u = 1
  · subst h; rfl
  · simp only [sett, vH, h, if_false]
theorem evH (B : Nat → Nat → Int32) : vH B (B 0 1) (B 0 2) (B 1) = B := by
  funext t
  unfold vH
  by_cases h0 : t = 0
  · subst h0
    rw [if_pos rfl]
    funext k
    by_cases c1 : k = 1
    · subst c1; rfl
    rw [if_neg c1]
    by_cases c2 : k = 2
    · subst c2; rfl
    rw [if_neg c2]
    try rfl
  · rw [if_neg h0]
    by_cases c1 : t = 1
    · subst c1; rfl
    rw [if_neg c1]
    try rfl
/-- kind 8: a9 pn, a10 sn, a11 sv, a12 ol; b9 ou -/
def vO (B : Nat → Nat → Int32) (a9 a10 a11 a12 : Int32) (b9 : Nat → Int32) : Nat → Nat → Int32 := fun t => if t = 0 then (fun k => if k = 9 then a9 else if k = 10 then a10 else if k = 11 then a11 else if k = 12 then a12 else B 0 k) else if t = 9 then b9 else B t
theorem gfO_9 {B : Nat → Nat → Int32} {a9 a10 a11 a12 : Int32} {b9 : Nat → Int32} : (vO B a9 a10 a11 a12 b9) 0 9 = a9 := rfl
theorem pfO_9 {B : Nat → Nat → Int32} {a9 a10 a11 a12 : Int32} {b9 : Nat → Int32} {x : Int32} : sett (vO B a9 a10 a11 a12 b9) 0 (upd ((vO B a9 a10 a11 a12 b9) 0) 9 x) = vO B x a10 a11 a12 b9 := by
  funext t
  by_cases h : t = 0
  · subst h
    funext k
    by_cases h2 : k = 9
    · subst h2; rfl
    · simp only [sett, upd, vO, h2, if_true, if_false]
  · simp only [sett, vO, h, if_false]
theorem gfO_10 {B : Nat → Nat → Int32} {a9 a10 a11 a12 : Int32} {b9 : Nat → Int32} : (vO B a9 a10 a11 a12 b9) 0 10 = a10 := rfl
theorem pfO_10 {B : Nat → Nat → Int32} {a9 a10 a11 a12 : Int32} {b9 : Nat → Int32} {x : Int32} : sett (vO B a9 a10 a11 a12 b9) 0 (upd ((vO B a9 a10 a11 a12 b9) 0) 10 x) = vO B a9 x a11 a12 b9 := by
  funext t
  by_cases h : t = 0
  · subst h
    funext k
    by_cases h2 : k = 10
    · subst h2; rfl
    · simp only [sett, upd, vO, h2, if_true, if_false]
  · simp only [sett, vO, h, if_false]
theorem gfO_11 {B : Nat → Nat → Int32} {a9 a10 a11 a12 : Int32} {b9 : Nat → Int32} : (vO B a9 a10 a11 a12 b9) 0 11 = a11 := rfl
theorem pfO_11 {B : Nat → Nat → Int32} {a9 a10 a11 a12 : Int32} {b9 : Nat → Int32} {x : Int32} : sett (vO B a9 a10 a11 a12 b9) 0 (upd ((vO B a9 a10 a11 a12 b9) 0) 11 x) = vO B a9 a10 x a12 b9 := by
  funext t
  by_cases h : t = 0
  · subst h
    funext k
    by_cases h2 : k = 11
    · subst h2; rfl
    · simp only [sett, upd, vO, h2, if_true, if_false]
  · simp only [sett, vO, h, if_false]
theorem gfO_12 {B : Nat → Nat → Int32} {a9 a10 a11 a12 : Int32} {b9 : Nat → Int32} : (vO B a9 a10 a11 a12 b9) 0 12 = a12 := rfl
theorem pfO_12 {B : Nat → Nat → Int32} {a9 a10 a11 a12 : Int32} {b9 : Nat → Int32} {x : Int32} : sett (vO B a9 a10 a11 a12 b9) 0 (upd ((vO B a9 a10 a11 a12 b9) 0) 12 x) = vO B a9 a10 a11 x b9 := by
  funext t
  by_cases h : t = 0
  · subst h
    funext k
    by_cases h2 : k = 12
    · subst h2; rfl
    · simp only [sett, upd, vO, h2, if_true, if_false]
  · simp only [sett, vO, h, if_false]
theorem gaO_9 {B : Nat → Nat → Int32} {a9 a10 a11 a12 : Int32} {b9 : Nat → Int32} : (vO B a9 a10 a11 a12 b9) 9 = b9 := rfl
theorem paO_9 {B : Nat → Nat → Int32} {a9 a10 a11 a12 : Int32} {b9 : Nat → Int32} {x : Nat → Int32} : sett (vO B a9 a10 a11 a12 b9) 9 x = vO B a9 a10 a11 a12 x := by
  funext u
  by_cases h : u = 9
  · subst h; rfl
  · simp only [sett, vO, h, if_false]
theorem evO (B : Nat → Nat → Int32) : vO B (B 0 9) (B 0 10) (B 0 11) (B 0 12) (B 9) = B := by
  funext t
  unfold vO
  by_cases h0 : t = 0
  · subst h0
    rw [if_pos rfl]
    funext k
    by_cases c9 : k = 9
    · subst c9; rfl
    rw [if_neg c9]
    by_cases c10 : k = 10
    · subst c10; rfl
    rw [if_neg c10]
    by_cases c11 : k = 11
    · subst c11; rfl
    rw [if_neg c11]
    by_cases c12 : k = 12
    · subst c12; rfl
    rw [if_neg c12]
    try rfl
  · rw [if_neg h0]
    by_cases c9 : t = 9
    · subst c9; rfl
    rw [if_neg c9]
    try rfl
def m1 (A0 : Nat → Nat → Int32) (M0 : Mem) : Mem := fun j => if j = 0 then A0 else M0 j
theorem gm1_0 {A0 : Nat → Nat → Int32} {M0 : Mem} : m1 A0 M0 0 = A0 := rfl
theorem pm1_0 {A0 : Nat → Nat → Int32} {M0 : Mem} {Z : Nat → Nat → Int32} : setm (m1 A0 M0) 0 Z = m1 Z M0 := by
  funext j
  by_cases h : j = 0
  · subst h; rfl
  · simp only [setm, m1, h, if_false]
theorem sf1_0 {A0 : Nat → Nat → Int32} {M0 : Mem} {Z : Nat → Nat → Int32} {k : Nat} {x : Int32} (h : sett A0 0 (upd (A0 0) k x) = Z) : setm (m1 A0 M0) 0 (sett (m1 A0 M0 0) 0 (upd (m1 A0 M0 0 0) k x)) = m1 Z M0 := by
  rw [gm1_0, h, pm1_0]
theorem sa1_0 {A0 : Nat → Nat → Int32} {M0 : Mem} {Z : Nat → Nat → Int32} {t : Nat} {f : Nat → Int32} (h : sett A0 t f = Z) : setm (m1 A0 M0) 0 (sett (m1 A0 M0 0) t f) = m1 Z M0 := by
  rw [gm1_0, h, pm1_0]
theorem gg1_0 {A0 : Nat → Nat → Int32} {M0 : Mem} {t : Nat} {f : Nat → Int32} (h : A0 t = f) : m1 A0 M0 0 t = f := h
theorem go1_0 {A0 : Nat → Nat → Int32} {M0 : Mem} {k : Nat} {x : Int32} (h : A0 0 k = x) : m1 A0 M0 0 0 k = x := h
def m2 (A0 A1 : Nat → Nat → Int32) (M0 : Mem) : Mem := fun j => if j = 0 then A0 else if j = 1 then A1 else M0 j
theorem gm2_0 {A0 A1 : Nat → Nat → Int32} {M0 : Mem} : m2 A0 A1 M0 0 = A0 := rfl
theorem pm2_0 {A0 A1 : Nat → Nat → Int32} {M0 : Mem} {Z : Nat → Nat → Int32} : setm (m2 A0 A1 M0) 0 Z = m2 Z A1 M0 := by
  funext j
  by_cases h : j = 0
  · subst h; rfl
  · simp only [setm, m2, h, if_false]
theorem sf2_0 {A0 A1 : Nat → Nat → Int32} {M0 : Mem} {Z : Nat → Nat → Int32} {k : Nat} {x : Int32} (h : sett A0 0 (upd (A0 0) k x) = Z) : setm (m2 A0 A1 M0) 0 (sett (m2 A0 A1 M0 0) 0 (upd (m2 A0 A1 M0 0 0) k x)) = m2 Z A1 M0 := by
  rw [gm2_0, h, pm2_0]
theorem sa2_0 {A0 A1 : Nat → Nat → Int32} {M0 : Mem} {Z : Nat → Nat → Int32} {t : Nat} {f : Nat → Int32} (h : sett A0 t f = Z) : setm (m2 A0 A1 M0) 0 (sett (m2 A0 A1 M0 0) t f) = m2 Z A1 M0 := by
  rw [gm2_0, h, pm2_0]
theorem gg2_0 {A0 A1 : Nat → Nat → Int32} {M0 : Mem} {t : Nat} {f : Nat → Int32} (h : A0 t = f) : m2 A0 A1 M0 0 t = f := h
theorem go2_0 {A0 A1 : Nat → Nat → Int32} {M0 : Mem} {k : Nat} {x : Int32} (h : A0 0 k = x) : m2 A0 A1 M0 0 0 k = x := h
theorem gm2_1 {A0 A1 : Nat → Nat → Int32} {M0 : Mem} : m2 A0 A1 M0 1 = A1 := rfl
theorem pm2_1 {A0 A1 : Nat → Nat → Int32} {M0 : Mem} {Z : Nat → Nat → Int32} : setm (m2 A0 A1 M0) 1 Z = m2 A0 Z M0 := by
  funext j
  by_cases h : j = 1
  · subst h; rfl
  · simp only [setm, m2, h, if_false]
theorem sf2_1 {A0 A1 : Nat → Nat → Int32} {M0 : Mem} {Z : Nat → Nat → Int32} {k : Nat} {x : Int32} (h : sett A1 0 (upd (A1 0) k x) = Z) : setm (m2 A0 A1 M0) 1 (sett (m2 A0 A1 M0 1) 0 (upd (m2 A0 A1 M0 1 0) k x)) = m2 A0 Z M0 := by
  rw [gm2_1, h, pm2_1]
theorem sa2_1 {A0 A1 : Nat → Nat → Int32} {M0 : Mem} {Z : Nat → Nat → Int32} {t : Nat} {f : Nat → Int32} (h : sett A1 t f = Z) : setm (m2 A0 A1 M0) 1 (sett (m2 A0 A1 M0 1) t f) = m2 A0 Z M0 := by
  rw [gm2_1, h, pm2_1]
theorem gg2_1 {A0 A1 : Nat → Nat → Int32} {M0 : Mem} {t : Nat} {f : Nat → Int32} (h : A1 t = f) : m2 A0 A1 M0 1 t = f := h
theorem go2_1 {A0 A1 : Nat → Nat → Int32} {M0 : Mem} {k : Nat} {x : Int32} (h : A1 0 k = x) : m2 A0 A1 M0 1 0 k = x := h
def m3 (A0 A1 A2 : Nat → Nat → Int32) (M0 : Mem) : Mem := fun j => if j = 0 then A0 else if j = 1 then A1 else if j = 2 then A2 else M0 j
theorem gm3_0 {A0 A1 A2 : Nat → Nat → Int32} {M0 : Mem} : m3 A0 A1 A2 M0 0 = A0 := rfl
theorem pm3_0 {A0 A1 A2 : Nat → Nat → Int32} {M0 : Mem} {Z : Nat → Nat → Int32} : setm (m3 A0 A1 A2 M0) 0 Z = m3 Z A1 A2 M0 := by
  funext j
  by_cases h : j = 0
  · subst h; rfl
  · simp only [setm, m3, h, if_false]
theorem sf3_0 {A0 A1 A2 : Nat → Nat → Int32} {M0 : Mem} {Z : Nat → Nat → Int32} {k : Nat} {x : Int32} (h : sett A0 0 (upd (A0 0) k x) = Z) : setm (m3 A0 A1 A2 M0) 0 (sett (m3 A0 A1 A2 M0 0) 0 (upd (m3 A0 A1 A2 M0 0 0) k x)) = m3 Z A1 A2 M0 := by
  rw [gm3_0, h, pm3_0]
theorem sa3_0 {A0 A1 A2 : Nat → Nat → Int32} {M0 : Mem} {Z : Nat → Nat → Int32} {t : Nat} {f : Nat → Int32} (h : sett A0 t f = Z) : setm (m3 A0 A1 A2 M0) 0 (sett (m3 A0 A1 A2 M0 0) t f) = m3 Z A1 A2 M0 := by
  rw [gm3_0, h, pm3_0]
theorem gg3_0 {A0 A1 A2 : Nat → Nat → Int32} {M0 : Mem} {t : Nat} {f : Nat → Int32} (h : A0 t = f) : m3 A0 A1 A2 M0 0 t = f := h
theorem go3_0 {A0 A1 A2 : Nat → Nat → Int32} {M0 : Mem} {k : Nat} {x : Int32} (h : A0 0 k = x) : m3 A0 A1 A2 M0 0 0 k = x := h
theorem gm3_1 {A0 A1 A2 : Nat → Nat → Int32} {M0 : Mem} : m3 A0 A1 A2 M0 1 = A1 := rfl
theorem pm3_1 {A0 A1 A2 : Nat → Nat → Int32} {M0 : Mem} {Z : Nat → Nat → Int32} : setm (m3 A0 A1 A2 M0) 1 Z = m3 A0 Z A2 M0 := by
  funext j
  by_cases h : j = 1
  · subst h; rfl
  · simp only [setm, m3, h, if_false]
theorem sf3_1 {A0 A1 A2 : Nat → Nat → Int32} {M0 : Mem} {Z : Nat → Nat → Int32} {k : Nat} {x : Int32} (h : sett A1 0 (upd (A1 0) k x) = Z) : setm (m3 A0 A1 A2 M0) 1 (sett (m3 A0 A1 A2 M0 1) 0 (upd (m3 A0 A1 A2 M0 1 0) k x)) = m3 A0 Z A2 M0 := by
  rw [gm3_1, h, pm3_1]
theorem sa3_1 {A0 A1 A2 : Nat → Nat → Int32} {M0 : Mem} {Z : Nat → Nat → Int32} {t : Nat} {f : Nat → Int32} (h : sett A1 t f = Z) : setm (m3 A0 A1 A2 M0) 1 (sett (m3 A0 A1 A2 M0 1) t f) = m3 A0 Z A2 M0 := by
  rw [gm3_1, h, pm3_1]
theorem gg3_1 {A0 A1 A2 : Nat → Nat → Int32} {M0 : Mem} {t : Nat} {f : Nat → Int32} (h : A1 t = f) : m3 A0 A1 A2 M0 1 t = f := h
theorem go3_1 {A0 A1 A2 : Nat → Nat → Int32} {M0 : Mem} {k : Nat} {x : Int32} (h : A1 0 k = x) : m3 A0 A1 A2 M0 1 0 k = x := h
theorem gm3_2 {A0 A1 A2 : Nat → Nat → Int32} {M0 : Mem} : m3 A0 A1 A2 M0 2 = A2 := rfl
theorem pm3_2 {A0 A1 A2 : Nat → Nat → Int32} {M0 : Mem} {Z : Nat → Nat → Int32} : setm (m3 A0 A1 A2 M0) 2 Z = m3 A0 A1 Z M0 := by
  funext j
  by_cases h : j = 2
  · subst h; rfl
  · simp only [setm, m3, h, if_false]
theorem sf3_2 {A0 A1 A2 : Nat → Nat → Int32} {M0 : Mem} {Z : Nat → Nat → Int32} {k : Nat} {x : Int32} (h : sett A2 0 (upd (A2 0) k x) = Z) : setm (m3 A0 A1 A2 M0) 2 (sett (m3 A0 A1 A2 M0 2) 0 (upd (m3 A0 A1 A2 M0 2 0) k x)) = m3 A0 A1 Z M0 := by
  rw [gm3_2, h, pm3_2]
theorem sa3_2 {A0 A1 A2 : Nat → Nat → Int32} {M0 : Mem} {Z : Nat → Nat → Int32} {t : Nat} {f : Nat → Int32} (h : sett A2 t f = Z) : setm (m3 A0 A1 A2 M0) 2 (sett (m3 A0 A1 A2 M0 2) t f) = m3 A0 A1 Z M0 := by
  rw [gm3_2, h, pm3_2]
theorem gg3_2 {A0 A1 A2 : Nat → Nat → Int32} {M0 : Mem} {t : Nat} {f : Nat → Int32} (h : A2 t = f) : m3 A0 A1 A2 M0 2 t = f := h
theorem go3_2 {A0 A1 A2 : Nat → Nat → Int32} {M0 : Mem} {k : Nat} {x : Int32} (h : A2 0 k = x) : m3 A0 A1 A2 M0 2 0 k = x := h
/-- g up to i, f from there -/
def fil (g f : Nat → Int32) (i : Nat) : Nat → Int32 := fun k => if k < i then g k else f k
theorem fil_0 {g f : Nat → Int32} : fil g f 0 = f := by funext k; unfold fil; rw [if_neg (Nat.not_lt_zero k)]
theorem fil_at {g f : Nat → Int32} {i : Nat} : fil g f i i = f i := if_neg (Nat.lt_irrefl i)
theorem fil_upd {g f : Nat → Int32} {i : Nat} {v : Int32} (h : v = g i) : upd (fil g f i) i v = fil g f (i + 1) := by
  funext k
  unfold upd fil
  by_cases h1 : k = i
  · subst h1; rw [if_pos rfl, if_pos (Nat.lt_succ_self k), h]
  · rw [if_neg h1]
    by_cases h2 : k < i
    · rw [if_pos h2, if_pos (by omega)]
    · rw [if_neg h2, if_neg (by omega)]
def lk0 : Nat → Nat → Nat := fun _ _ => 0
section RQ
variable {p : Program} {l : Launch} {e : Env} {R : Room} {s : State} {m : MethodId} {args : Array Value} {below : List Frame} {meth : Method} {c : Code} {G : GT} {Y : LV} {nL : Nat} {Q : State → Prop} {M : Mem} {k n pc : Nat} {L : List (Option AV)} {S : List AV} {cc : ByteArray} {own : String} {ret : Option FieldType}
theorem vp_nI {x : Int32} {i N : Nat} (hx : x = nI i) (hi : i < N) (hN : N ≤ 4096) : vp_in x N := by rw [hx]; exact vp_in_nI hi (by omega)
theorem cl_nI {x : Int32} {i N : Nat} (hx : x = nI i) (hi : i < N) (hN : N ≤ 4096) : x.toNatClampNeg = i := by rw [hx]; exact nI_clamp (by omega)
theorem q_iald (E : EN p s m args meth c G Y cc own nL ret) {j t N i : Nat} {x : Int32} {f : Nat → Int32} (hd : decode cc pc = .ok (.iaload, 1)) (ha : ae (kdY Y j) t = some (0, N)) (hj : okb Y j t = true) (hN : N ≤ 4096) (hg : M j t = f) (hx : x = nI i) (hi : i < N) (kk : WM p l e R s m args below meth c G Y nL Q M k n (pc + 1) L (iv (f i) :: S)) : WM p l e R s m args below meth c G Y nL Q M k n pc L (iv x :: rv j t :: S) := r_iald E hd ha hj (vp_nI hx hi hN) (by rw [cl_nI hx hi hN, hg]; exact kk)
theorem q_bald (E : EN p s m args meth c G Y cc own nL ret) {j t N i : Nat} {x : Int32} {f : Nat → Int32} (hd : decode cc pc = .ok (.baload, 1)) (ha : ae (kdY Y j) t = some (1, N)) (hj : okb Y j t = true) (hN : N ≤ 4096) (hg : M j t = f) (hx : x = nI i) (hi : i < N) (kk : WM p l e R s m args below meth c G Y nL Q M k n (pc + 1) L (iv (f i) :: S)) : WM p l e R s m args below meth c G Y nL Q M k n pc L (iv x :: rv j t :: S) := r_bald E hd ha hj (vp_nI hx hi hN) (by rw [cl_nI hx hi hN, hg]; exact kk)
theorem q_zald (E : EN p s m args meth c G Y cc own nL ret) {j t N i : Nat} {x : Int32} {f : Nat → Int32} (hd : decode cc pc = .ok (.baload, 1)) (ha : ae (kdY Y j) t = some (2, N)) (hj : okb Y j t = true) (hN : N ≤ 4096) (hg : M j t = f) (hx : x = nI i) (hi : i < N) (kk : WM p l e R s m args below meth c G Y nL Q M k n (pc + 1) L (iv (f i) :: S)) : WM p l e R s m args below meth c G Y nL Q M k n pc L (iv x :: rv j t :: S) := r_zald E hd ha hj (vp_nI hx hi hN) (by rw [cl_nI hx hi hN, hg]; exact kk)
theorem q_iast (E : EN p s m args meth c G Y cc own nL ret) {j t N i : Nat} {x y : Int32} {f : Nat → Int32} {M2 : (Nat → Int32) → Mem} (hd : decode cc pc = .ok (.iastore, 1)) (ha : ae (kdY Y j) t = some (0, N)) (hj : okb Y j t = true) (hN : N ≤ 4096) (hg : M j t = f) (hs : ∀ f, setm M j (sett (M j) t f) = M2 f) (hx : x = nI i) (hi : i < N) (kk : WM p l e R s m args below meth c G Y nL Q (M2 (upd f i y)) k n (pc + 1) L S) : WM p l e R s m args below meth c G Y nL Q M k n pc L (iv y :: iv x :: rv j t :: S) := r_iast E hd ha hj (vp_nI hx hi hN) (by rw [cl_nI hx hi hN, hg, hs]; exact kk)
theorem q_bast (E : EN p s m args meth c G Y cc own nL ret) {j t N i : Nat} {x y z : Int32} {f : Nat → Int32} {M2 : (Nat → Int32) → Mem} (hd : decode cc pc = .ok (.bastore, 1)) (ha : ae (kdY Y j) t = some (1, N)) (hj : okb Y j t = true) (hN : N ≤ 4096) (hg : M j t = f) (hs : ∀ f, setm M j (sett (M j) t f) = M2 f) (hx : x = nI i) (hi : i < N) (hz : vp_nar .byte y = z) (kk : WM p l e R s m args below meth c G Y nL Q (M2 (upd f i z)) k n (pc + 1) L S) : WM p l e R s m args below meth c G Y nL Q M k n pc L (iv y :: iv x :: rv j t :: S) := r_bast E hd ha hj (vp_nI hx hi hN) hz (by rw [cl_nI hx hi hN, hg, hs]; exact kk)
theorem q_zast (E : EN p s m args meth c G Y cc own nL ret) {j t N i : Nat} {x y z : Int32} {f : Nat → Int32} {M2 : (Nat → Int32) → Mem} (hd : decode cc pc = .ok (.bastore, 1)) (ha : ae (kdY Y j) t = some (2, N)) (hj : okb Y j t = true) (hN : N ≤ 4096) (hg : M j t = f) (hs : ∀ f, setm M j (sett (M j) t f) = M2 f) (hx : x = nI i) (hi : i < N) (hz : vp_nar .boolean y = z) (kk : WM p l e R s m args below meth c G Y nL Q (M2 (upd f i z)) k n (pc + 1) L S) : WM p l e R s m args below meth c G Y nL Q M k n pc L (iv y :: iv x :: rv j t :: S) := r_zast E hd ha hj (vp_nI hx hi hN) hz (by rw [cl_nI hx hi hN, hg, hs]; exact kk)
theorem q_getn (E : EN p s m args meth c G Y cc own nL ret) {idx κ f j : Nat} {x : Int32} (hF : FL own idx κ f) (hd : decode cc pc = .ok (.getfield idx, 3)) (hκ : kdY Y j = κ) (hj : okb Y j 0 = true) (h0 : fk κ f = 0) (hg : M j 0 f = x) (kk : WM p l e R s m args below meth c G Y nL Q M k n (pc + 3) L (iv x :: S)) : WM p l e R s m args below meth c G Y nL Q M k n pc L (rv j 0 :: S) := r_getf E hF hd hκ hj (by unfold fv; rw [hκ, h0, ← hg]; rfl) kk
theorem q_geta (E : EN p s m args meth c G Y cc own nL ret) {idx κ f j : Nat} (hF : FL own idx κ f) (hd : decode cc pc = .ok (.getfield idx, 3)) (hκ : kdY Y j = κ) (hj : okb Y j 0 = true) (h0 : fk κ f = 1) (kk : WM p l e R s m args below meth c G Y nL Q M k n (pc + 3) L (rv j (f + 1) :: S)) : WM p l e R s m args below meth c G Y nL Q M k n pc L (rv j 0 :: S) := r_getf E hF hd hκ hj (by unfold fv; rw [hκ, h0]; rfl) kk
theorem q_getl (E : EN p s m args meth c G Y cc own nL ret) {idx κ f j : Nat} (hF : FL own idx κ f) (hd : decode cc pc = .ok (.getfield idx, 3)) (hκ : kdY Y j = κ) (hj : okb Y j 0 = true) (h0 : fk κ f = 2) (kk : WM p l e R s m args below meth c G Y nL Q M k n (pc + 3) L (rv (Y.2.1 j f) 0 :: S)) : WM p l e R s m args below meth c G Y nL Q M k n pc L (rv j 0 :: S) := r_getf E hF hd hκ hj (by unfold fv; rw [hκ, h0]; rfl) kk
theorem q_getd (E : EN p s m args meth c G Y cc own nL ret) {idx κ f j : Nat} {q : Nat} (hF : FL own idx κ f) (hd : decode cc pc = .ok (.getfield idx, 3)) (hκ : kdY Y j = κ) (hj : okb Y j 0 = true) (h0 : fk κ f = 3) (hg : (M j 0 f).toNatClampNeg = q) (kk : WM p l e R s m args below meth c G Y nL Q M k n (pc + 3) L (rv q 0 :: S)) : WM p l e R s m args below meth c G Y nL Q M k n pc L (rv j 0 :: S) := r_getf E hF hd hκ hj (by unfold fv; rw [hκ, h0, ← hg]; rfl) kk
theorem q_putn (E : EN p s m args meth c G Y cc own nL ret) {idx κ f j : Nat} {x : Int32} {M2 : Mem} (hF : FLt own idx κ f .int) (hd : decode cc pc = .ok (.putfield idx, 3)) (hκ : kdY Y j = κ) (hj : okb Y j 0 = true) (h0 : fk κ f = 0) (hs : setm M j (sett (M j) 0 (upd (M j 0) f x)) = M2) (kk : WM p l e R s m args below meth c G Y nL Q M2 k n (pc + 3) L S) : WM p l e R s m args below meth c G Y nL Q M k n pc L (iv x :: rv j 0 :: S) := r_putf (x := x) E hF hd hκ hj (a := iv x) (by unfold fv; rw [hκ, h0, sett_s]; simp [upd]) rfl rfl (by rw [hs]; exact kk)
theorem q_putz (E : EN p s m args meth c G Y cc own nL ret) {idx κ f j : Nat} {x : Int32} {M2 : Mem} (hF : FLt own idx κ f .boolean) (hd : decode cc pc = .ok (.putfield idx, 3)) (hκ : kdY Y j = κ) (hj : okb Y j 0 = true) (h0 : fk κ f = 0) (hx : narrow .boolean (.int x) = .int x) (hx2 : fits .boolean (.int x) = true) (hs : setm M j (sett (M j) 0 (upd (M j 0) f x)) = M2) (kk : WM p l e R s m args below meth c G Y nL Q M2 k n (pc + 3) L S) : WM p l e R s m args below meth c G Y nL Q M k n pc L (iv x :: rv j 0 :: S) := r_putf (x := x) E hF hd hκ hj (a := iv x) (by unfold fv; rw [hκ, h0, sett_s]; simp [upd]) hx hx2 (by rw [hs]; exact kk)
theorem nlt {a b : Nat} (ha : a < 2 ^ 31) (hb : b < 2 ^ 31) : (nI a < nI b ↔ a < b) ∧ (nI a ≤ nI b ↔ a ≤ b) ∧ (nI a = nI b ↔ a = b) := ⟨nI_ltI ha hb, nI_leI ha hb, nI_eq ha hb⟩
theorem q_icmp_eq (E : EN p s m args meth c G Y cc own nL ret) {x y : Int32} {a b : Nat} {off : Int} {tgt : Nat} (hd : decode cc pc = .ok (.if_icmp .eq off, 3)) (ht : (pc : Int) + off = (tgt : Int)) (hx : x = nI a) (hy : y = nI b) (ha : a < 2 ^ 31) (hb : b < 2 ^ 31) (kt : a = b → WM p l e R s m args below meth c G Y nL Q M k n tgt L S) (kf : a ≠ b → WM p l e R s m args below meth c G Y nL Q M k n (pc + 3) L S) : WM p l e R s m args below meth c G Y nL Q M k n pc L (iv y :: iv x :: S) := by
  subst hx; subst hy
  exact r_icmp_eq E hd ht (fun h => kt ((nI_eq ha hb).mp h)) (fun h => kf (fun h3 => h ((nI_eq ha hb).mpr h3)))
theorem q_icmp_ne (E : EN p s m args meth c G Y cc own nL ret) {x y : Int32} {a b : Nat} {off : Int} {tgt : Nat} (hd : decode cc pc = .ok (.if_icmp .ne off, 3)) (ht : (pc : Int) + off = (tgt : Int)) (hx : x = nI a) (hy : y = nI b) (ha : a < 2 ^ 31) (hb : b < 2 ^ 31) (kt : a ≠ b → WM p l e R s m args below meth c G Y nL Q M k n tgt L S) (kf : a = b → WM p l e R s m args below meth c G Y nL Q M k n (pc + 3) L S) : WM p l e R s m args below meth c G Y nL Q M k n pc L (iv y :: iv x :: S) := by
  subst hx; subst hy
  exact r_icmp_ne E hd ht (fun h => kt (fun h3 => h ((nI_eq ha hb).mpr h3))) (fun h => kf ((nI_eq ha hb).mp h))
theorem q_icmp_lt (E : EN p s m args meth c G Y cc own nL ret) {x y : Int32} {a b : Nat} {off : Int} {tgt : Nat} (hd : decode cc pc = .ok (.if_icmp .lt off, 3)) (ht : (pc : Int) + off = (tgt : Int)) (hx : x = nI a) (hy : y = nI b) (ha : a < 2 ^ 31) (hb : b < 2 ^ 31) (kt : a < b → WM p l e R s m args below meth c G Y nL Q M k n tgt L S) (kf : b ≤ a → WM p l e R s m args below meth c G Y nL Q M k n (pc + 3) L S) : WM p l e R s m args below meth c G Y nL Q M k n pc L (iv y :: iv x :: S) := by
  subst hx; subst hy
  exact r_icmp_lt E hd ht (fun h => kt ((nI_ltI ha hb).mp h)) (fun h => kf (Nat.not_lt.mp fun h3 => h ((nI_ltI ha hb).mpr h3)))
theorem q_icmp_ge (E : EN p s m args meth c G Y cc own nL ret) {x y : Int32} {a b : Nat} {off : Int} {tgt : Nat} (hd : decode cc pc = .ok (.if_icmp .ge off, 3)) (ht : (pc : Int) + off = (tgt : Int)) (hx : x = nI a) (hy : y = nI b) (ha : a < 2 ^ 31) (hb : b < 2 ^ 31) (kt : b ≤ a → WM p l e R s m args below meth c G Y nL Q M k n tgt L S) (kf : a < b → WM p l e R s m args below meth c G Y nL Q M k n (pc + 3) L S) : WM p l e R s m args below meth c G Y nL Q M k n pc L (iv y :: iv x :: S) := by
  subst hx; subst hy
  exact r_icmp_ge E hd ht (fun h => kt ((nI_leI hb ha).mp h)) (fun h => kf (Nat.not_le.mp fun h3 => h ((nI_leI hb ha).mpr h3)))
theorem q_icmp_gt (E : EN p s m args meth c G Y cc own nL ret) {x y : Int32} {a b : Nat} {off : Int} {tgt : Nat} (hd : decode cc pc = .ok (.if_icmp .gt off, 3)) (ht : (pc : Int) + off = (tgt : Int)) (hx : x = nI a) (hy : y = nI b) (ha : a < 2 ^ 31) (hb : b < 2 ^ 31) (kt : b < a → WM p l e R s m args below meth c G Y nL Q M k n tgt L S) (kf : a ≤ b → WM p l e R s m args below meth c G Y nL Q M k n (pc + 3) L S) : WM p l e R s m args below meth c G Y nL Q M k n pc L (iv y :: iv x :: S) := by
  subst hx; subst hy
  exact r_icmp_gt E hd ht (fun h => kt ((nI_ltI hb ha).mp h)) (fun h => kf (Nat.not_lt.mp fun h3 => h ((nI_ltI hb ha).mpr h3)))
theorem q_icmp_le (E : EN p s m args meth c G Y cc own nL ret) {x y : Int32} {a b : Nat} {off : Int} {tgt : Nat} (hd : decode cc pc = .ok (.if_icmp .le off, 3)) (ht : (pc : Int) + off = (tgt : Int)) (hx : x = nI a) (hy : y = nI b) (ha : a < 2 ^ 31) (hb : b < 2 ^ 31) (kt : a ≤ b → WM p l e R s m args below meth c G Y nL Q M k n tgt L S) (kf : b < a → WM p l e R s m args below meth c G Y nL Q M k n (pc + 3) L S) : WM p l e R s m args below meth c G Y nL Q M k n pc L (iv y :: iv x :: S) := by
  subst hx; subst hy
  exact r_icmp_le E hd ht (fun h => kt ((nI_leI ha hb).mp h)) (fun h => kf (Nat.not_le.mp fun h3 => h ((nI_leI ha hb).mpr h3)))
theorem q_iinc_0 (E : EN p s m args meth c G Y cc own nL ret) {a : Nat} {zz : Option AV} {t : List (Option AV)} (hd : decode cc pc = .ok (.iinc 0 1, 3)) (hn : t.length + 1 = nL) (kk : WM p l e R s m args below meth c G Y nL Q M k n (pc + 3) (some (iv (nI (a + 1))) :: t) S) : WM p l e R s m args below meth c G Y nL Q M k n pc (some (iv (nI a)) :: t) S := r_iinc_0 (zz := zz) E hd hn (by rw [show nI a + Int32.ofInt 1 = nI (a + 1) from nI_1 a]; exact kk)
theorem q_iinc_1 (E : EN p s m args meth c G Y cc own nL ret) {a : Nat} {x0 : Option AV} {t : List (Option AV)} (hd : decode cc pc = .ok (.iinc 1 1, 3)) (hn : t.length + 2 = nL) (hc : ac2 x0 = false) (kk : WM p l e R s m args below meth c G Y nL Q M k n (pc + 3) (x0 :: some (iv (nI (a + 1))) :: t) S) : WM p l e R s m args below meth c G Y nL Q M k n pc (x0 :: some (iv (nI a)) :: t) S := r_iinc_1 E hd hn hc (by rw [show nI a + Int32.ofInt 1 = nI (a + 1) from nI_1 a]; exact kk)
theorem q_iinc_2 (E : EN p s m args meth c G Y cc own nL ret) {a : Nat} {x0 x1 : Option AV} {t : List (Option AV)} (hd : decode cc pc = .ok (.iinc 2 1, 3)) (hn : t.length + 3 = nL) (hc : ac2 x1 = false) (kk : WM p l e R s m args below meth c G Y nL Q M k n (pc + 3) (x0 :: x1 :: some (iv (nI (a + 1))) :: t) S) : WM p l e R s m args below meth c G Y nL Q M k n pc (x0 :: x1 :: some (iv (nI a)) :: t) S := r_iinc_2 E hd hn hc (by rw [show nI a + Int32.ofInt 1 = nI (a + 1) from nI_1 a]; exact kk)
theorem q_iinc_3 (E : EN p s m args meth c G Y cc own nL ret) {a : Nat} {x0 x1 x2 : Option AV} {t : List (Option AV)} (hd : decode cc pc = .ok (.iinc 3 1, 3)) (hn : t.length + 4 = nL) (hc : ac2 x2 = false) (kk : WM p l e R s m args below meth c G Y nL Q M k n (pc + 3) (x0 :: x1 :: x2 :: some (iv (nI (a + 1))) :: t) S) : WM p l e R s m args below meth c G Y nL Q M k n pc (x0 :: x1 :: x2 :: some (iv (nI a)) :: t) S := r_iinc_3 E hd hn hc (by rw [show nI a + Int32.ofInt 1 = nI (a + 1) from nI_1 a]; exact kk)
theorem q_iinc_4 (E : EN p s m args meth c G Y cc own nL ret) {a : Nat} {x0 x1 x2 x3 : Option AV} {t : List (Option AV)} (hd : decode cc pc = .ok (.iinc 4 1, 3)) (hn : t.length + 5 = nL) (hc : ac2 x3 = false) (kk : WM p l e R s m args below meth c G Y nL Q M k n (pc + 3) (x0 :: x1 :: x2 :: x3 :: some (iv (nI (a + 1))) :: t) S) : WM p l e R s m args below meth c G Y nL Q M k n pc (x0 :: x1 :: x2 :: x3 :: some (iv (nI a)) :: t) S := r_iinc_4 E hd hn hc (by rw [show nI a + Int32.ofInt 1 = nI (a + 1) from nI_1 a]; exact kk)
theorem q_iinc_5 (E : EN p s m args meth c G Y cc own nL ret) {a : Nat} {x0 x1 x2 x3 x4 : Option AV} {t : List (Option AV)} (hd : decode cc pc = .ok (.iinc 5 1, 3)) (hn : t.length + 6 = nL) (hc : ac2 x4 = false) (kk : WM p l e R s m args below meth c G Y nL Q M k n (pc + 3) (x0 :: x1 :: x2 :: x3 :: x4 :: some (iv (nI (a + 1))) :: t) S) : WM p l e R s m args below meth c G Y nL Q M k n pc (x0 :: x1 :: x2 :: x3 :: x4 :: some (iv (nI a)) :: t) S := r_iinc_5 E hd hn hc (by rw [show nI a + Int32.ofInt 1 = nI (a + 1) from nI_1 a]; exact kk)
theorem q_iinc_6 (E : EN p s m args meth c G Y cc own nL ret) {a : Nat} {x0 x1 x2 x3 x4 x5 : Option AV} {t : List (Option AV)} (hd : decode cc pc = .ok (.iinc 6 1, 3)) (hn : t.length + 7 = nL) (hc : ac2 x5 = false) (kk : WM p l e R s m args below meth c G Y nL Q M k n (pc + 3) (x0 :: x1 :: x2 :: x3 :: x4 :: x5 :: some (iv (nI (a + 1))) :: t) S) : WM p l e R s m args below meth c G Y nL Q M k n pc (x0 :: x1 :: x2 :: x3 :: x4 :: x5 :: some (iv (nI a)) :: t) S := r_iinc_6 E hd hn hc (by rw [show nI a + Int32.ofInt 1 = nI (a + 1) from nI_1 a]; exact kk)
theorem q_iinc_7 (E : EN p s m args meth c G Y cc own nL ret) {a : Nat} {x0 x1 x2 x3 x4 x5 x6 : Option AV} {t : List (Option AV)} (hd : decode cc pc = .ok (.iinc 7 1, 3)) (hn : t.length + 8 = nL) (hc : ac2 x6 = false) (kk : WM p l e R s m args below meth c G Y nL Q M k n (pc + 3) (x0 :: x1 :: x2 :: x3 :: x4 :: x5 :: x6 :: some (iv (nI (a + 1))) :: t) S) : WM p l e R s m args below meth c G Y nL Q M k n pc (x0 :: x1 :: x2 :: x3 :: x4 :: x5 :: x6 :: some (iv (nI a)) :: t) S := r_iinc_7 E hd hn hc (by rw [show nI a + Int32.ofInt 1 = nI (a + 1) from nI_1 a]; exact kk)
theorem q_iinc_8 (E : EN p s m args meth c G Y cc own nL ret) {a : Nat} {x0 x1 x2 x3 x4 x5 x6 x7 : Option AV} {t : List (Option AV)} (hd : decode cc pc = .ok (.iinc 8 1, 3)) (hn : t.length + 9 = nL) (hc : ac2 x7 = false) (kk : WM p l e R s m args below meth c G Y nL Q M k n (pc + 3) (x0 :: x1 :: x2 :: x3 :: x4 :: x5 :: x6 :: x7 :: some (iv (nI (a + 1))) :: t) S) : WM p l e R s m args below meth c G Y nL Q M k n pc (x0 :: x1 :: x2 :: x3 :: x4 :: x5 :: x6 :: x7 :: some (iv (nI a)) :: t) S := r_iinc_8 E hd hn hc (by rw [show nI a + Int32.ofInt 1 = nI (a + 1) from nI_1 a]; exact kk)
theorem q_iinc_9 (E : EN p s m args meth c G Y cc own nL ret) {a : Nat} {x0 x1 x2 x3 x4 x5 x6 x7 x8 : Option AV} {t : List (Option AV)} (hd : decode cc pc = .ok (.iinc 9 1, 3)) (hn : t.length + 10 = nL) (hc : ac2 x8 = false) (kk : WM p l e R s m args below meth c G Y nL Q M k n (pc + 3) (x0 :: x1 :: x2 :: x3 :: x4 :: x5 :: x6 :: x7 :: x8 :: some (iv (nI (a + 1))) :: t) S) : WM p l e R s m args below meth c G Y nL Q M k n pc (x0 :: x1 :: x2 :: x3 :: x4 :: x5 :: x6 :: x7 :: x8 :: some (iv (nI a)) :: t) S := r_iinc_9 E hd hn hc (by rw [show nI a + Int32.ofInt 1 = nI (a + 1) from nI_1 a]; exact kk)
theorem q_iinc_10 (E : EN p s m args meth c G Y cc own nL ret) {a : Nat} {x0 x1 x2 x3 x4 x5 x6 x7 x8 x9 : Option AV} {t : List (Option AV)} (hd : decode cc pc = .ok (.iinc 10 1, 3)) (hn : t.length + 11 = nL) (hc : ac2 x9 = false) (kk : WM p l e R s m args below meth c G Y nL Q M k n (pc + 3) (x0 :: x1 :: x2 :: x3 :: x4 :: x5 :: x6 :: x7 :: x8 :: x9 :: some (iv (nI (a + 1))) :: t) S) : WM p l e R s m args below meth c G Y nL Q M k n pc (x0 :: x1 :: x2 :: x3 :: x4 :: x5 :: x6 :: x7 :: x8 :: x9 :: some (iv (nI a)) :: t) S := r_iinc_10 E hd hn hc (by rw [show nI a + Int32.ofInt 1 = nI (a + 1) from nI_1 a]; exact kk)
theorem q_iinc_11 (E : EN p s m args meth c G Y cc own nL ret) {a : Nat} {x0 x1 x2 x3 x4 x5 x6 x7 x8 x9 x10 : Option AV} {t : List (Option AV)} (hd : decode cc pc = .ok (.iinc 11 1, 3)) (hn : t.length + 12 = nL) (hc : ac2 x10 = false) (kk : WM p l e R s m args below meth c G Y nL Q M k n (pc + 3) (x0 :: x1 :: x2 :: x3 :: x4 :: x5 :: x6 :: x7 :: x8 :: x9 :: x10 :: some (iv (nI (a + 1))) :: t) S) : WM p l e R s m args below meth c G Y nL Q M k n pc (x0 :: x1 :: x2 :: x3 :: x4 :: x5 :: x6 :: x7 :: x8 :: x9 :: x10 :: some (iv (nI a)) :: t) S := r_iinc_11 E hd hn hc (by rw [show nI a + Int32.ofInt 1 = nI (a + 1) from nI_1 a]; exact kk)
theorem q_iinc_12 (E : EN p s m args meth c G Y cc own nL ret) {a : Nat} {x0 x1 x2 x3 x4 x5 x6 x7 x8 x9 x10 x11 : Option AV} {t : List (Option AV)} (hd : decode cc pc = .ok (.iinc 12 1, 3)) (hn : t.length + 13 = nL) (hc : ac2 x11 = false) (kk : WM p l e R s m args below meth c G Y nL Q M k n (pc + 3) (x0 :: x1 :: x2 :: x3 :: x4 :: x5 :: x6 :: x7 :: x8 :: x9 :: x10 :: x11 :: some (iv (nI (a + 1))) :: t) S) : WM p l e R s m args below meth c G Y nL Q M k n pc (x0 :: x1 :: x2 :: x3 :: x4 :: x5 :: x6 :: x7 :: x8 :: x9 :: x10 :: x11 :: some (iv (nI a)) :: t) S := r_iinc_12 E hd hn hc (by rw [show nI a + Int32.ofInt 1 = nI (a + 1) from nI_1 a]; exact kk)
/-- the same place, said otherwise -/
theorem r_eq {M2 : Mem} {L2 : List (Option AV)} (hM : M2 = M) (hL : L2 = L) (kk : WM p l e R s m args below meth c G Y nL Q M2 k n pc L2 S) : WM p l e R s m args below meth c G Y nL Q M k n pc L S := by
  subst hM; subst hL; exact kk
/-- a counted loop: the modules and the locals are said for each i -/
theorem r_for (N : Nat) (I : Nat → Prop) (Mi : Nat → Mem) (Li : Nat → List (Option AV)) (h0 : I 0) (hM : Mi 0 = M) (hL : Li 0 = L) (step : ∀ i, i < N → I i → (I (i + 1) → WM p l e R s m args below meth c G Y nL Q (Mi (i + 1)) k n pc (Li (i + 1)) S) → WM p l e R s m args below meth c G Y nL Q (Mi i) k n pc (Li i) S) (fin : I N → WM p l e R s m args below meth c G Y nL Q (Mi N) k n pc (Li N) S) : WM p l e R s m args below meth c G Y nL Q M k n pc L S := by
  have h : ∀ d i, i + d = N → I i → WM p l e R s m args below meth c G Y nL Q (Mi i) k n pc (Li i) S := by
    intro d
    induction d with
    | zero => intro i hi hI; have : i = N := by omega
              subst this; exact fin hI
    | succ d ih => intro i hi hI; exact step i (by omega) hI (ih (i + 1) (by omega))
  subst hM; subst hL
  exact h N 0 (by omega) h0
/-- a loop with a measure -/
theorem r_while {β : Type} (μ : β → Nat) (I : β → Prop) (Mi : β → Mem) (Li : β → List (Option AV)) (x : β) (h0 : I x) (hM : Mi x = M) (hL : Li x = L) (step : ∀ x, I x → (∀ y, I y → μ y < μ x → WM p l e R s m args below meth c G Y nL Q (Mi y) k n pc (Li y) S) → WM p l e R s m args below meth c G Y nL Q (Mi x) k n pc (Li x) S) : WM p l e R s m args below meth c G Y nL Q M k n pc L S := by
  have h : ∀ d x, μ x < d → I x → WM p l e R s m args below meth c G Y nL Q (Mi x) k n pc (Li x) S := by
    intro d
    induction d with
    | zero => intro x hx; omega
    | succ d ih => intro x hx hI; exact step x hI (fun y hy hlt => ih y (by omega) hy)
  subst hM; subst hL
  exact h (μ x + 1) x (by omega) h0
end RQ
