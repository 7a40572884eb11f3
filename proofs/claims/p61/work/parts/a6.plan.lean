/-! Plan() -/
theorem P_fnp {D : va_G} {cl : List vw_C} {w : va_W} {p q N : Nat} {cA : ClassId} {f g : Nat → Option Nat} {H : Heap} (hp : w[p]? = some (q, .inl (cA, N, .inr (.inr (.inr (.inr f)))))) (h : ∀ j, j < N → f j = g j) (hP : va_P D cl w H) : va_P D cl (w.set p (q, .inl (cA, N, .inr (.inr (.inr (.inr g)))))) H := by
  intro i z hz
  by_cases hi : p = i
  · subst hi
    rw [List.getElem?_set_self (List.getElem?_eq_some_iff.mp hp).1] at hz
    have hz2 : (q, Sum.inl (cA, N, Sum.inr (Sum.inr (Sum.inr (Sum.inr g))))) = z := Option.some.inj hz
    subst hz2
    have h1 : H[q]? = some (arrV cA N (fun j => va_rf (f j))) := hP p _ hp
    show H[q]? = some (arrV cA N (fun j => va_rf (g j)))
    rw [h1]
    exact congrArg some (arr_congr (fun j hj => by rw [h j hj]))
  · rw [List.getElem?_set_ne hi] at hz
    exact hP i z hz
def zP0 : Mem := zM
