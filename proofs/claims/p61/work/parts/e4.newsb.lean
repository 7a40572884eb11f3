/-! new StringBuilder() in the law -/
section LNB
variable {p : Program} {l : Launch} {e : Env} {s : State} {m : MethodId} {args : Array Value} {below : List Frame} {meth : Method} {c : Code} {G : GT} {ad : Nat → Nat → Nat} {Q : State → Prop} {M M0 : Mem} {k n : Nat} {L : List (Option AV)} {Z : Nat → Nat → Int32}
theorem law_newSB (C0 : LCx p s m args meth c G ad cL_law RL 9 (some .boolean) M0) (h19 : M 19 = Z) (hj : ∀ j, j < 19 → M j = M0 j) (hL : LOK L) (hL0 : ∀ z, lvl (Yz ad z) 0 L = lvl (YK ad) 0 L) (hk : k + 2 ≤ 600086) (hn : n + 20 ≤ 7301442) (kk : LWt p l e room_1 s m args below meth c G ad cL_law RL (some .boolean) 9 Q M0 [] Z (k + 2) (n + 20) 140 L [rv 20 0]) : WM p l e room_1 s m args below meth c G (YK ad) 9 Q M k n 133 L [] := by
  intro H locs ls hP hS hl
  obtain ⟨E0, hX, h9, h10⟩ := C0
  have hok : eOK (YK ad) M := eOK_KL (κs := []) (by simp) (by rw [hj 0 (by decide)]; exact h9) (by rw [hj 0 (by decide)]; exact h10)
  have hD0 := E0.2.2.2.2.2.2.2.2 M
  obtain ⟨hx, hb, hml, hown, hts, hr, hlk0, hG, hD⟩ := id E0
  have hA : ∀ q : Nat, s.heap.size ≤ q → AS (YK ad) s.heap.size q := fun q hq => Or.inr hq
  have hGz : GF G (yz ad) (AS (YK ad) s.heap.size) s s.heap := GF.heap (Y := YK ad) (A := AS (YK ad) s.heap.size) (H := s.heap) (fun i hi => rfl) (fun _ h => h) (fun _ _ _ => rfl) hG
  generalize hA0 : wl G (YK ad) M = A0 at hP hD0
  refine va_new (D := G.1) (ci := 1) (fs := [.null, .int 0, .int 0, .int 0]) hx hb hts inBJ4 tyJ4 tyJ4_ok hown (hts _ (bg_5 55 (by decide +kernel))) (hts _ (bg_5 56 (by decide +kernel))) (hts _ (bg_1 17 (by decide +kernel))) hG.2.1 hP hD0 hS hA rfl (by decide) (by show k + 1 ≤ 600086; omega) (by show n + 4 ≤ 7301442; omega) (dat dkL_law_k1 26 rfl) (fun q H1 hP1 hD1 hS1 => ?_)
  refine lv_dup hx hb (dat dkL_law_k1 27 rfl) rfl ?_
  have hC := app_at (A := A0) (cs := [(q, (.inr (1, [.null, .int 0, .int 0, .int 0]) : va_E))])
  have hR := app_at0 (A := A0) (cs := [(q, (.inr (1, [.null, .int 0, .int 0, .int 0]) : va_E))])
  have hrun := va_runI (p := p) (l := l) (e := e) (R := room_1) (s := s) (m := m) (args := args) (below := below) (meth := meth) (c := c) (H := H1) (locs := locs) (cells := k + 1) (slots := n + 4) (As := []) (rest := [.ref q]) (b := q) (own := RL) (n := 0) (nL := 9) (Ts := BIG) (g := F0 m 137 ls [.ref q, .ref q]) (index := 242)
    ⟨hx, hb, hml, hown, hts⟩ (sp_J4_init l G ad q H1.size)
    ⟨callB_of (ws' := BIG) 0 hts (big_good my_J4_init_da8c8.2.1) rfl rfl rfl (hts _ my_J4_init_da8c8.1) (hts _ ml_L_242) ⟨my_J4_init_da8c8.2.2.1, my_J4_init_da8c8.2.2.2.1, my_J4_init_da8c8.2.2.2.2⟩ ⟨by decide, by decide⟩, rfl, hts _ ii_J4_init_da8c8⟩
    ⟨PNw.blind, fun U hU hW => z_pre (as := [.inl (.ref q)]) hC (nd_shift _ _) hP1 hD1 hS1 hA hX hGz hU hW⟩ rfl rfl hl.1 rfl (Nat.le_of_ble_eq_true rfl) (dat dkL_law_k1 28 rfl) ⟨by show k + 1 + 1 ≤ 600086; omega, by show n + 4 + 16 ≤ 7301442; omega⟩
  refine z_on (Y := YK ad) (S := [.inl (.ref q)]) (L := L) hC hR (nd_range _) shift_dis hA hP1 hD1 hS1 hl hrun ?_
  rintro _ w2 ⟨rfl, b2, rfl⟩
  intro H2 locs2 ls2 hP2 hD2 hS2 hl2
  obtain ⟨qb, hqb0, hqb1⟩ : ∃ qb : Nat → Nat, qb 0 = q ∧ qb 1 = b2 := ⟨fun t => if t = 0 then q else b2, rfl, rfl⟩
  rw [← hqb0, ← hqb1] at hP2 hD2
  have hκ : SBk 12 16 := Or.inl ⟨rfl, rfl⟩
  have hok2 : eOK (YK ad) (setm M 20 (sbM 0 (fun _ => 0))) := eOK_KL (κs := []) (M := setm M 20 (sbM 0 (fun _ => 0))) (by simp) (by rw [setm_n (show (0 : Nat) ≠ 20 by decide), hj 0 (by decide)]; exact h9) (by rw [setm_n (show (0 : Nat) ≠ 20 by decide), hj 0 (by decide)]; exact h10)
  have hX1 : A0 ++ [(qb 0, sO (qb 1) 0), (qb 1, bA G 16 (fun _ => 0))] = wl G (eY (YK ad) 12 qb) (setm M 20 (sbM 0 (fun _ => 0))) := by
    rw [← hA0, ← wl_same (M := M) (M' := setm M 20 (sbM 0 (fun _ => 0))) (fun j hj2 => setm_n (by have : j < 20 := hj2; omega))]
    exact (sb_wl (G := G) (qa := qb) hok2 hκ setm_s).symm
  have hD3 : va_D (AS (YK ad) s.heap.size) (wl G (YK ad) M ++ (KT 12).map (fun t => (qb t, ceY G (eY (YK ad) 12 qb) (sbM 0 (fun _ => 0)) (YK ad).1.length t))) := by
    rw [sb_cells (Y := YK ad) hκ, hA0]
    exact hD2
  obtain ⟨E2, hAS2⟩ := EN_ext E0 hok hD3
  have h2 := kk 12 16 qb (fun _ => 0) (setm M 20 (sbM 0 (fun _ => 0))) hκ E2 hAS2 ⟨Nat.zero_le _, Fit8_0, fun i hi => absurd hi (Nat.not_lt_zero i), fun c hc => by simp at hc⟩ setm_s (by rw [setm_n (by decide)]; exact h19) (fun j hj2 => by rw [setm_n (by omega)]; exact hj j hj2) H2 locs2 ls2 (by rw [← hX1]; exact hP2) ⟨hS2.1, fun z g1 g2 => hS2.2.1 z g1 (fun g => g2 ((hAS2 z).mpr g)), fun z hz => (hAS2 _).mpr (hS2.2.2 z hz)⟩ (by rw [hL ad 12 qb, hL0]; exact hl2)
  have h3 : [rv 20 0].map (cv (eY (YK ad) 12 qb)) = [Value.ref q] := by
    rw [← hqb0]
    exact congrArg (fun z => [z]) (congrArg Value.ref (show (if 20 = KL.length then qb 0 else ad 20 0) = qb 0 from if_pos rfl))
  rw [h3] at h2
  exact h2
end LNB
