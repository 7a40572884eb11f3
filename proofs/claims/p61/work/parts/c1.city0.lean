/-! PuddleCity() -/
theorem D_iff {A : Nat → Prop} {ws : va_W} : va_D A ws ↔ (ws.map (fun x => x.1)).Nodup ∧ ∀ x ∈ ws, A x.1 := by
  unfold List.Nodup
  rw [List.pairwise_map, List.pairwise_iff_getElem]
  constructor
  · rintro ⟨h1, h2⟩
    refine ⟨fun i j hi hj hij he => ?_, fun x hx => ?_⟩
    · have := h1 i j _ _ (List.getElem?_eq_getElem hi) (List.getElem?_eq_getElem hj) he
      omega
    · obtain ⟨i, hi⟩ := List.getElem?_of_mem hx
      exact h2 i x hi
  · rintro ⟨h1, h2⟩
    refine ⟨fun i j x z hx hz he => ?_, fun i x hx => h2 x (List.mem_of_getElem? hx)⟩
    obtain ⟨hi, ei⟩ := List.getElem?_eq_some_iff.mp hx
    obtain ⟨hj, ej⟩ := List.getElem?_eq_some_iff.mp hz
    rcases Nat.lt_trichotomy i j with h | h | h
    · exact absurd (by rw [ei, ej]; exact he) (h1 i j hi hj h)
    · exact h
    · exact absurd (by rw [ei, ej]; exact he.symm) (h1 j i hj hi h)
theorem P_perm {D : va_G} {cl : List vw_C} {w w2 : va_W} {H : Heap} (h : w.Perm w2) (hP : va_P D cl w H) : va_P D cl w2 H := va_P_of (fun x hx => va_P_at hP (h.mem_iff.mpr hx))
theorem D_perm {A : Nat → Prop} {w w2 : va_W} (h : w.Perm w2) (hD : va_D A w) : va_D A w2 := by
  rw [D_iff] at hD ⊢
  exact ⟨(h.map _).nodup_iff.mp hD.1, fun x hx => hD.2 x (h.mem_iff.mpr hx)⟩
def iniM : Mem := fun j => match j with
  | 0 => (fun t k => if t = 0 ∧ k = 9 then 17 else if t = 0 ∧ k = 10 then 18 else 0)
  | 1 => zT0 0
  | 2 => zS0 0
  | _ => fun _ _ => 0
abbrev z1 : Nat → Int32 := fun _ => 0
abbrev z2 : Nat → Nat → Int32 := fun _ _ => 0
/-- the first setup's bytes, and its reading -/
def fsB : Nat → Int32 := paF (fun _ => 0) 0 0 76
def fsR : (Int32 × TT) × PP := rFr fsB 76 ((0, 0, 0, 0, 0, -1) : TT) ((0, z1, z1, z1, rw4 z1 z1 z1 z1) : BB) z1
def ctyM : Mem := setm (setm (setm (setm (setm iniM 1 (vTx (zT0 0) 76 fsB (0, 0, 0, 0, 0, -1))) 17 (vPx z2 (rFb fsR z1) z1 fsR.2)) 1 (vTx (zT0 0) 76 fsB fsR.1.2)) 1 (vTx (zT0 0) 0 fsB fsR.1.2)) 3 (stT fsR.2 z2)
theorem fsB_lt : ∀ i, i < 76 → fits .byte (.int (fsB i)) = true := by decide +kernel
theorem fsB_fit (i : Nat) : fits .byte (.int (fsB i)) = true := by
  by_cases h : i < 76
  · exact fsB_lt i h
  · have e : fsB i = 0 := if_neg (by omega)
    rw [e]; rfl
