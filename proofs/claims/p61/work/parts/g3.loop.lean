section LWE
variable {p : Program} {l : Launch} {e : Env} {s : State} {m : MethodId} {below : List Frame} {meth : Method} {c : Code} {G : GT} {b : Nat}
theorem law_ret1 {ad : Nat → Nat → Nat} (E : EN p s m #[Value.ref b] meth c G (YK ad) cL_law RL 9 (some .boolean)) (hA : ∀ q, AS (YK ad) s.heap.size q → s.heap.size ≤ q) : RET1 p l e s m #[Value.ref b] below meth c G ad (lw_Z below #[Value.ref b] s) := by
  intro M k n pc L hk hn hd H locs ls hP hS hl
  obtain ⟨hx, hb, hml, hown, hts, hr, hlk, hG, hD⟩ := E
  refine va_forget (fun q hq => hA _ (hS.2.2 q hq)) ?_
  refine W.widen hk hn ?_
  exact lw_ret hx hb hr hlk hd
set_option maxRecDepth 100000 in
set_option maxHeartbeats 16000000 in
theorem law_entry {cs : Nat → Nat → Nat} (hst : l.stackTraces = false) (E : EX p s m #[Value.ref b] meth c G (fun q => s.heap.size ≤ q) cL_law RL 9 false) (hG : GF G ([], lk0, cs) (fun q => s.heap.size ≤ q) s s.heap) (hr : meth.sig.returnType = some .boolean) (hcs : cs 99 103 = b) (hN : G.2.2.1.1 ≤ 4096) :
    NM p l e room_1 s m #[Value.ref b] below meth c G (fun q => s.heap.size ≤ q) 9 (lw_Z below #[Value.ref b] s) [] 0 0 0 [some (.inl (.ref b)), none, none, none, none, none, none, none, none] [] := by
  have hAX : AX s := E.2.2.2.2.2.2.2.2.2.2
  refine n_new E (dat dkL_law_k0 0 rfl) (ci := 9) (C := RX9) (T := TX9) (N := 13) (ty0 := tyX9) (fs := [.null, .null, .null, .null, .null, .null, .null, .null, .null, .null, .null, .int 0, .int 0]) rfl inB9 tyX9_ok (bg_1 27 (by decide +kernel)) (bg_1 28 (by decide +kernel)) (bg_1 1 (by decide +kernel)) (by decide +kernel) (Nat.le_of_ble_eq_true rfl) (Nat.le_of_ble_eq_true rfl) (fun b1 => ?_)
  refine n_dup E (dat dkL_law_k0 1 rfl) rfl ?_
  refine n_callG E hG (sp_X9_init1 l G) my_X9_init rfl ii_X9_init ml_L_234 ⟨Nat.le_of_ble_eq_true rfl, Nat.le_of_ble_eq_true rfl, Nat.le_of_ble_eq_true rfl, Nat.le_of_ble_eq_true rfl⟩ (Nat.le_of_ble_eq_true rfl) (dat dkL_law_k0 2 rfl) (fun d1 M1 hd1 h97 hM1 => ?_)
  subst hd1
  subst hM1
  refine n_astore_n (i := 1) (L2 := [some (.inl (.ref b)), some (.inl (.ref (d1 0 0))), none, none, none, none, none, none, none]) E (dat dkL_law_k0 3 rfl) rfl (Nat.le_of_ble_eq_true rfl) rfl (hc_of 0 rfl rfl) rfl ?_
  refine n_new E (dat dkL_law_k0 4 rfl) (ci := 10) (C := RL) (T := TL) (N := 21) (ty0 := tyL) (fs := [.null, .null, .null, .null, .null, .null, .null, .null, .null, .null, .null, .null, .int 0, .int 0, .int 0, .int 0, .int 0, .int 0, .int 0, .int 0, .int 0]) rfl inBL tyL_ok (bg_3 18 (by decide +kernel)) (bg_3 19 (by decide +kernel)) (bg_1 0 (by decide +kernel)) (by decide +kernel) (Nat.le_of_ble_eq_true rfl) (Nat.le_of_ble_eq_true rfl) (fun b2 => ?_)
  refine n_dup E (dat dkL_law_k0 5 rfl) rfl ?_
  refine n_callK E (sp_L_init l G) my_L_init rfl ii_L_init ml_L_235 ⟨Nat.le_of_ble_eq_true rfl, Nat.le_of_ble_eq_true rfl, Nat.le_of_ble_eq_true rfl, Nat.le_of_ble_eq_true rfl⟩ (Nat.le_of_ble_eq_true rfl) (dat dkL_law_k0 6 rfl) (fun d2 hd2 => ?_)
  subst hd2
  refine n_astore_n (i := 2) (L2 := [some (.inl (.ref b)), some (.inl (.ref (d1 0 0))), some (.inl (.ref (d2 0 0))), none, none, none, none, none, none]) E (dat dkL_law_k0 7 rfl) rfl (Nat.le_of_ble_eq_true rfl) rfl (hc_of 1 rfl rfl) rfl ?_
  refine n_wm E hG hr (Y := (KL, lkC, adL d1 d2)) (M := lawM) (L' := [some (rv 99 103), some (rv 0 0), some (rv 19 0), none, none, none, none, none, none]) (S' := []) (ws2 := wl G (KL, lkC, adL d1 d2) lawM) (fun i hi => ?_) (fun H h => ?_) (fun h => ?_) rfl (fun q h => Or.inr h) ?_ rfl (fun E2 hAS => ?_)
  · show adL d1 d2 (97 + i) = cs (97 + i)
    rw [adL_o (by omega)]
    exact h97 i hi
  · refine law_P (va_P_of fun x hx => va_P_at h ?_) (va_P_of fun x hx => va_P_at h ?_)
    · exact List.mem_append_left _ (List.mem_append_right _ hx)
    · exact List.mem_append_right _ hx
  · exact law_D h
  · have e1 : adL d1 d2 99 103 = b := by
      rw [adL_o (by decide), show d1 99 = cs 99 from h97 2 (by decide)]
      exact hcs
    show [(0, Value.ref (adL d1 d2 99 103)), (1, Value.ref (d1 0 0)), (2, Value.ref (d2 0 0))] = _
    rw [e1]
    rfl
  refine law_main (M0 := lawM) ⟨E2, hAX, by decide, by decide⟩ hN (law_ret1 E2 hAS) hst (fun j hj => if_pos hj) (Nat.le_of_ble_eq_true rfl) (Nat.le_of_ble_eq_true rfl) ?_ (fun j hj => rfl)
  show (fun _ _ => 0 : Nat → Nat → Int32) = _
  funext t k
  unfold ZF
  split
  · rfl
  · split
    · rfl
    · split
      · rfl
      · split
        · rfl
        · split
          · rfl
          · split <;> rfl
end LWE
