/-! History() -/
theorem arr_congr {cI : ClassId} {N : Nat} {f g : Nat → Value} (h : ∀ j, j < N → f j = g j) : arrV cI N f = arrV cI N g := by
  have hs : (arrV cI N f).slots = (arrV cI N g).slots := by
    apply Array.ext_getElem?
    intro i
    rcases Nat.lt_or_ge i N with hi | hi
    · rw [arrV_read cI f hi, arrV_read cI g hi, h i hi]
    · rw [Array.getElem?_eq_none (by rw [arrV_size]; exact hi), Array.getElem?_eq_none (by rw [arrV_size]; exact hi)]
  show ({ arrV cI N f with slots := (arrV cI N f).slots } : Cell) = _
  rw [hs]
  rfl
theorem P_fn {D : va_G} {cl : List vw_C} {w : va_W} {x : Nat × va_E} {q N : Nat} {cA : ClassId} {f g : Nat → Option Nat} {H : Heap} (h : ∀ j, j < N → f j = g j) (hP : va_P D cl (x :: (q, .inl (cA, N, .inr (.inr (.inr (.inr f))))) :: w) H) : va_P D cl (x :: (q, .inl (cA, N, .inr (.inr (.inr (.inr g))))) :: w) H := by
  intro i z hz
  match i with
  | 0 => exact hP 0 z hz
  | 1 =>
    have hz2 : (q, Sum.inl (cA, N, Sum.inr (Sum.inr (Sum.inr (Sum.inr g))))) = z := Option.some.inj hz
    subst hz2
    have h1 : H[q]? = some (arrV cA N (fun j => va_rf (f j))) := hP 1 _ rfl
    show H[q]? = some (arrV cA N (fun j => va_rf (g j)))
    rw [h1]
    exact congrArg some (arr_congr (fun j hj => by rw [h j hj]))
  | i + 2 => exact hP (i + 2) z hz
theorem D_fn {A : Nat → Prop} {w : va_W} {x : Nat × va_E} {q : Nat} {e e2 : va_E} (hD : va_D A (x :: (q, e) :: w)) : va_D A (x :: (q, e2) :: w) := hD.set (p := 1) rfl
def lkN : Nat → Nat → Nat := fun _ i => i + 1
