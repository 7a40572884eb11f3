/-! the StringBuilder: its cells, its text -/
abbrev sO (b n : Nat) : va_E := .inr (1, [.ref b, .int 0, .int 0, .int (nI n)])
def gr (N q : Nat) : Nat := if q ≤ N then N else 2 * N + 2
/-- N bytes that hold the text -/
def SBt (N : Nat) (f : Nat → Int32) (tx : List Nat) : Prop := tx.length ≤ N ∧ Fit8 f ∧ (∀ i, i < tx.length → f i = nI (tx.getD i 0)) ∧ ∀ c ∈ tx, c < 128
/-- behind an append -/
def SBp (G : GT) (a : Nat) (tx : List Nat) (N : Nat) (w : List Nat) : Option Value → va_W → Prop := fun r w2 => r = some (.ref a) ∧ ∃ (b' : Nat) (f' : Nat → Int32), w2 = [(a, sO b' (tx ++ w).length), (b', bA G (gr N (tx ++ w).length) f')] ∧ SBt (gr N (tx ++ w).length) f' (tx ++ w)
/-- there is room, or it can be made -/
def SBq (N q : Nat) : Prop := q ≤ 142 ∧ N ≤ 142 ∧ (q ≤ N ∨ (N ≤ 70 ∧ q ≤ 2 * N + 2))
theorem gr_le {N q : Nat} (h : SBq N q) : q ≤ gr N q := by
  obtain ⟨h1, h2, h3⟩ := h
  unfold gr; split <;> omega
theorem gr_big {N q : Nat} (h : SBq N q) : gr N q ≤ 142 := by
  obtain ⟨h1, h2, h3⟩ := h
  unfold gr; split <;> omega
theorem shl_0 {x : Int32} : x <<< ((0 : Int32) &&& 31) = x := by
  rw [show ((0 : Int32) &&& 31) = 0 by decide]
  exact Int32.toBitVec_inj.mp (by simp)
theorem imax_n {a b z : Nat} (hz : z = max a b) (ha : a < 2 ^ 31) (hb : b < 2 ^ 31) : imax (nI a) (nI b) = nI z := by
  subst hz
  unfold imax
  by_cases h : a < b
  · rw [if_pos (nI_lt h hb), Nat.max_eq_right (Nat.le_of_lt h)]
  · rw [if_neg (nI_nlt (Nat.not_lt.mp h) ha), Nat.max_eq_left (Nat.not_lt.mp h)]
theorem imin_r {a b : Nat} (h : b ≤ a) (ha : a < 2 ^ 31) : imin (nI a) (nI b) = nI b := by
  rw [imin_c]; exact imin_l h ha
theorem sub_00 {x : Int32} : x - 0 = x := by grind
theorem nI_2 (a : Nat) : nI a + 2 = nI (a + 2) := nI_add a 2
theorem nI_dec {a : Nat} (h : 0 < a) : nI a + Int32.ofInt (-1) = nI (a - 1) := by
  obtain ⟨b, rfl⟩ : ∃ b, a = b + 1 := ⟨a - 1, by omega⟩
  exact pk_m1 b
/-- the digits of a number below 100 -/
def digs (v : Nat) : List Nat := if v < 10 then [48 + v] else [48 + v / 10, 48 + v % 10]
theorem digs_1 {v : Nat} (h : v < 10) : digs v = [48 + v] := if_pos h
theorem digs_2 {v : Nat} (h : ¬ v < 10) : digs v = [48 + v / 10, 48 + v % 10] := if_neg h
theorem ten_all : ∀ v, v < 100 → tenI.getD v 0 = nI (48 + v / 10) ∧ oneI.getD v 0 = nI (48 + v % 10) := by decide +kernel
theorem fit_all : ∀ v, v < 128 → vp_nar .byte (nI v) = nI v ∧ vp_nar .byte (nI v).toInt8.toInt32 = nI v ∧ fits .byte (.int (nI v)) = true := by decide +kernel
theorem neg_all : ∀ v, v < 100 → (¬ (-(nI v)) ≤ -100) ∧ (v < 10 → ¬ (-(nI v)) ≤ -10) ∧ (¬ v < 10 → (-(nI v)) ≤ -10) ∧ (v < 10 → (-9 : Int32) ≤ -(nI v)) ∧ (¬ v < 10 → ¬ (-9 : Int32) ≤ -(nI v)) ∧ - -(nI v) = nI v := by decide +kernel
theorem neg_100 : ∀ v, v < 100 → (-100 : Int32) < -(nI v) := by decide +kernel
/-- a String constant's text -/
def cS (i : Nat) : List Nat := (bytJS.getD i []).map (·.toNatClampNeg)
theorem cS_len : ∀ i, i < 14 → (cS i).length = lenJS.getD i 0 := by decide +kernel
theorem cS_at0 : ∀ i, i < 14 → ∀ j, j < lenJS.getD i 0 → bJS i j = nI ((cS i).getD j 0) ∧ (cS i).getD j 0 < 128 := by decide +kernel
theorem bJS_fit {i : Nat} (hi : i < 14) (j : Nat) : fits .byte (.int (bJS i j)) = true := by
  rcases Nat.lt_or_ge j (lenJS.getD i 0) with h | h
  · obtain ⟨h1, h2⟩ := cS_at0 i hi j h
    rw [h1]
    exact (fit_all _ h2).2.2
  · have h2 : (bytJS.getD i []).length ≤ j := by rw [← ch_len i hi]; exact h
    unfold bJS
    rw [List.getD_eq_getElem?_getD, List.getElem?_eq_none h2]
    rfl
theorem Fit8_upd {f : Nat → Int32} {i : Nat} {x : Int32} (hf : Fit8 f) (hx : fits .byte (.int x) = true) : Fit8 (upd f i x) := by
  intro j
  by_cases h : j = i
  · subst h; rw [pk_us]; exact hx
  · rw [pk_un h]; exact hf j
theorem Fit8_cpy {f g : Nat → Int32} {sp dp n : Nat} (hf : Fit8 f) (hg : Fit8 g) : Fit8 (va_cpy f g sp dp n) := by
  intro j
  unfold va_cpy
  split
  · exact hf _
  · exact hg _
theorem Fit8_0 : Fit8 (fun _ => 0) := fun _ => rfl
theorem getD_l {a b : List Nat} {i : Nat} (h : i < a.length) : (a ++ b).getD i 0 = a.getD i 0 := by
  rw [List.getD_eq_getElem?_getD, List.getD_eq_getElem?_getD, List.getElem?_append_left h]
theorem getD_r {a b : List Nat} {i : Nat} (h : a.length ≤ i) : (a ++ b).getD i 0 = b.getD (i - a.length) 0 := by
  rw [List.getD_eq_getElem?_getD, List.getD_eq_getElem?_getD, List.getElem?_append_right h]
theorem SBt_of {N M : Nat} {f g : Nat → Int32} {tx w : List Nat} (h : SBt N f tx) (hM : (tx ++ w).length ≤ M) (hg : Fit8 g) (h1 : ∀ j, j < tx.length → g j = f j) (h2 : ∀ j, j < w.length → g (tx.length + j) = nI (w.getD j 0)) (hw : ∀ c ∈ w, c < 128) : SBt M g (tx ++ w) := by
  refine ⟨hM, hg, fun i hi => ?_, fun c hc => (List.mem_append.mp hc).elim (h.2.2.2 c) (hw c)⟩
  rcases Nat.lt_or_ge i tx.length with hl | hl
  · rw [h1 i hl, h.2.2.1 i hl, getD_l hl]
  · rw [List.length_append] at hi
    have := h2 (i - tx.length) (by omega)
    rw [show tx.length + (i - tx.length) = i by omega] at this
    rw [this, getD_r hl]
theorem getD_mem {a : List Nat} {i : Nat} (h : i < a.length) : a.getD i 0 ∈ a := by
  rw [List.getD_eq_getElem?_getD, List.getElem?_eq_getElem h]
  exact List.getElem_mem h
theorem digs_lt {v : Nat} (hv : v < 100) : ∀ c ∈ digs v, c < 128 := by
  intro c hc
  unfold digs at hc
  split at hc
  · simp at hc; omega
  · simp at hc; omega
theorem cS_lt {i : Nat} (hi : i < 14) : ∀ c ∈ cS i, c < 128 := (by decide +kernel : ∀ i, i < 14 → ∀ c ∈ cS i, c < 128) i hi
theorem pv_0 : Cond.selects "java/lang/StringBuilder" yJ5_isLatin1_aae02 yJ5_isLatin1_aae02 ∈ BIG := bg_5 128 (by decide +kernel)
theorem pv_gv : Cond.selects "java/lang/StringBuilder" yJ5_getValue_6d5f1 yJ5_getValue_6d5f1 ∈ BIG := bg_5 234 (by decide +kernel)
theorem pv_len : Cond.selects "java/lang/StringBuilder" yJ5_length_8abf5 yJ4_length_8abf5 ∈ BIG := bg_5 239 (by decide +kernel)
theorem sm_lat : Cond.sameMethod RJ5 RJ5 "isLatin1" "()Z" ∈ BIG := bg_5 127 (by decide +kernel)
theorem sm_gv : Cond.sameMethod RJ5 RJ5 "getValue" "()[B" ∈ BIG := bg_5 233 (by decide +kernel)
theorem sm_len : Cond.sameMethod RJ5 RJ5 "length" "()I" ∈ BIG := bg_5 238 (by decide +kernel)
theorem sm_ens : Cond.sameMethod RJ5 RJ5 "ensureCapacityInternal" "(I)V" ∈ BIG := bg_6 42 (by decide +kernel)
theorem sm_cap : Cond.sameMethod RJ5 RJ5 "newCapacity" "(I)I" ∈ BIG := bg_6 43 (by decide +kernel)
theorem sm_put : Cond.sameMethod RJ5 RJ5 "putStringAt" "(ILjava/lang/String;)V" ∈ BIG := bg_6 44 (by decide +kernel)
theorem sm_inf : Cond.sameMethod RJ5 RJ5 "inflateIfNeededFor" "(Ljava/lang/String;)V" ∈ BIG := bg_6 45 (by decide +kernel)
theorem sm_as : Cond.sameMethod RJ5 RJ5 "append" "(Ljava/lang/String;)Ljava/lang/AbstractStringBuilder;" ∈ BIG := bg_6 40 (by decide +kernel)
theorem sm_ac : Cond.sameMethod RJ5 RJ5 "append" "(C)Ljava/lang/AbstractStringBuilder;" ∈ BIG := bg_6 47 (by decide +kernel)
theorem sm_ai : Cond.sameMethod RJ5 RJ5 "append" "(I)Ljava/lang/AbstractStringBuilder;" ∈ BIG := bg_6 48 (by decide +kernel)
theorem su_sb : Cond.superclass RJ4 RJ5 ∈ BIG := bg_5 84 (by decide +kernel)
theorem pr_ens : yJ5_ensureCapacityInternal_d00df ∈ pvW := by simp [pvW]
theorem pr_cap : yJ5_newCapacity_0f7a4 ∈ pvW := by simp [pvW]
theorem pr_put : yJ5_putStringAt_47b60 ∈ pvW := by simp [pvW]
theorem pr_inf : yJ5_inflateIfNeededFor_a7421 ∈ pvW := by simp [pvW]
theorem ac_J7 : Cond.methodLink RJ7 150 arraycopyName ∈ BIG := bg_5 124 (by decide +kernel)
theorem ac_J0 : Cond.methodLink RJ0 212 arraycopyName ∈ BIG := bg_5 178 (by decide +kernel)
theorem cn_J5 : Cond.constant RJ5 39 2147483647 ∈ BIG := bg_5 112 (by decide +kernel)
theorem cn_J8 : Cond.constant RJ8 200 2147483639 ∈ BIG := bg_5 108 (by decide +kernel)
