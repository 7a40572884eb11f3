set_option maxHeartbeats 16000000 in
theorem whole_start {p : Program} {e : Env} {s : State} {m : MethodId} {below : List Frame} {meth : Method} {c : Code} (l : Launch) (hflags : l.flags = flags0) {b L : Nat} {xs : Nat → Int32} (hL : L ≤ 260) (C0 : lw_At p s m meth c b L xs) : W p l e room_1 s m #[Value.ref b] below meth c s.heap [] 0 0 (lw_Z below #[Value.ref b] s) (entryFrame m ([Value.ref b] : List Value).toArray 9) := by
  obtain ⟨hx, hb, hr, hml, hown, hts, hX, hbl, hlocks, hgv⟩ := id C0
  have hst : l.stackTraces = false := by unfold Launch.stackTraces; rw [hflags]; decide +kernel
  have hB : ∀ w ∈ BIG, w.before #[Value.ref b] s = true := fun w hw => hts w (List.mem_filter.mp hw).1
  have hNW : ∀ w ∈ NW, va_Nw w s := fun w hw => by
    have h4 := (List.mem_filter.mp hw).2
    refine va_tabs ?_ rfl (hts w (List.mem_filter.mp hw).1)
    cases w <;> first | rfl | (simp [isNest] at h4)
  have hV : va_AO "PuddleCity$Verb" s := va_AO.of (hts _ (tb_1 (List.mem_of_getElem? (i := 77) (by decide +kernel))))
  have hSt : va_AO "PuddleCity$State" s := va_AO.of (hts _ (tb_1 (List.mem_of_getElem? (i := 169) (by decide +kernel))))
  have hPV : bPV s := by
    intro y hy
    have hm : Cond.privateMethod y ∈ lw_tbl := by
      unfold pvW at hy
      simp only [List.mem_cons, List.not_mem_nil, or_false] at hy
      rcases hy with rfl | rfl | rfl | rfl
      · exact (tb_5 (List.mem_of_getElem? (i := 97) (by decide +kernel)))
      · exact (tb_5 (List.mem_of_getElem? (i := 101) (by decide +kernel)))
      · exact (tb_5 (List.mem_of_getElem? (i := 147) (by decide +kernel)))
      · exact (tb_5 (List.mem_of_getElem? (i := 151) (by decide +kernel)))
    exact va_tabs rfl rfl (hts _ hm)
  have hbA : bAO s := ⟨(hts _ (tb_1 (List.mem_of_getElem? (i := 227) (by decide +kernel))) : (Cond.arrayOver (.array .byte)).before #[Value.ref b] s = true), (hts _ (tb_3 (List.mem_of_getElem? (i := 25) (by decide +kernel))) : (Cond.arrayOver (.array .int)).before #[Value.ref b] s = true), hPV⟩
  obtain ⟨D, ca, hK0⟩ := K_start hB hV hSt hbA
  have hno : ∀ a : Nat, a < s.heap.size → ¬ (fun q : Nat => s.heap.size ≤ q) a := fun a h => Nat.not_le.mpr h
  have hnr : narrow_1.before #[Value.ref b] s = true := by
    rw [Cond.before_and, Bool.and_eq_true] at hgv
    exact hgv.2
  obtain ⟨cs, hGX, hcs⟩ := GX_start hnr hts hno hX hbl (D := D) (ca := ca)
  have hK := hK0 (L, xs) (lenJS.getD 13 0, fun j => (bytJS.getD 13 []).getD j 0)
  have hG : GF (D, ca, (L, xs), (lenJS.getD 13 0, fun j => (bytJS.getD 13 []).getD j 0)) ([], lk0, cs) (fun q => s.heap.size ≤ q) s s.heap := ⟨hNW, hK, hGX⟩
  have E : EX p s m #[Value.ref b] meth c (D, ca, (L, xs), (lenJS.getD 13 0, fun j => (bytJS.getD 13 []).getD j 0)) (fun q => s.heap.size ≤ q) cL_law RL 9 false := ⟨hx, hb, hml, hown, hB, fun h => absurd h (by decide), hlocks, hK, fun _ h => h, fun h => absurd h (by decide), hV, hSt, hNW, hbA⟩
  have hl := lv_entry ([.ref b]) (n := 9) (Nat.le_of_ble_eq_true rfl)
  rw [lg_entry_eq]
  generalize (lg_sl ([.ref b]) ++ List.replicate (9 - (lg_sl ([.ref b])).length) Slot.unset).toArray = ls at hl ⊢
  exact law_entry hst E hG hr hcs (by show L ≤ 4096; omega) s.heap [] ls (fun i q h => absurd h (by simp)) ⟨fun i j x z h => absurd h (by simp), fun i q h => absurd h (by simp)⟩ va_S.rf hl
