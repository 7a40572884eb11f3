/-! constructors that call others -/
theorem AX.same {s U : State} (hv : s.vm = U.vm) (h : AX s) : AX U := by
  have ha : s.vm.Alike U.vm := by rw [hv]; exact Vm.Alike.refl U.vm
  refine ⟨va_AO.moved ha h.1, va_AO.moved ha h.2.1, fun w hw => va_Nw.same ?_ hv (h.2.2.1 w hw), bAO.moved ha h.2.2.2⟩
  have := (List.mem_filter.mp hw).2
  cases w <;> first | rfl | (simp [isNest] at this)
theorem AX.warm {s U : State} (hW : s.WarmedH U.vm) (h : AX s) : AX U := by
  refine ⟨va_AO.moved hW.alike h.1, va_AO.moved hW.alike h.2.1, fun w hw => ?_, bAO.moved hW.alike h.2.2.2⟩
  have h4 := (List.mem_filter.mp hw).2
  have h5 := h.2.2.1 w hw
  cases w <;> first | exact va_Nw.warmF hW h5 | exact va_Nw.warmM hW h5 | exact nw_cast hW h5 | exact nw_decl hW h5 | (simp [isNest] at h4)
theorem PN9.blind {G : GT} {a sz : Nat} {ws : va_W} : FrameBlind (PN9 G a ws sz) := by
  rintro v U g mk ⟨h0, h1, h2, h3, h4, h5⟩
  exact ⟨h0, h1, h2, h3, va_K.moved (u := U) (Vm.Alike.refl U.vm) h4, AX.same (s := U) rfl h5⟩
section RN2
variable {p : Program} {l : Launch} {e : Env} {R : Room} {s : State} {m : MethodId} {args : Array Value} {below : List Frame} {meth : Method} {c : Code} {G : GT} {A : Nat → Prop} {nL : Nat} {Q : State → Prop} {ws : va_W} {k n pc : Nat} {L : List (Option AV)} {S : List Value} {cc : ByteArray} {own : String} {ct : Bool}
theorem n_dup (E : EX p s m args meth c G A cc own nL ct) {v : Value} (hd : decode cc pc = .ok (.dup, 1)) (hv : v.category = 1) (kk : NM p l e R s m args below meth c G A nL Q ws k n (pc + 1) L (v :: v :: S)) : NM p l e R s m args below meth c G A nL Q ws k n pc L (v :: S) := fun H locs ls hP hD hS hl => lv_dup E.1 E.2.1 hd hv (kk H locs ls hP hD hS hl)
theorem n_new (E : EX p s m args meth c G A cc own nL ct) {idx ci N : Nat} {C : String} {T : u_T} {ty0 : Nat → FieldType} {fs : List Value} (hd : decode cc pc = .ok (.new idx, 3)) (hci : vwCl[ci]? = some (C, T, N)) (hin : ∀ w ∈ u_ws C T N, w ∈ BIG) (hty : ∀ k, k < N → parseFieldDescriptor (T k).2.2.1 = some (ty0 k)) (h1 : Cond.classLink own idx C ∈ BIG) (h2 : Cond.instantiable C N ∈ BIG) (h3 : Cond.initialized C ∈ BIG) (hfs : ∀ j, j < N → defaultValue (ty0 j) = vp_V fs j) (hc : k + 1 ≤ R.cells) (hs : n + N ≤ R.slots)
    (kk : ∀ q : Nat, NM p l e R s m args below meth c G A nL Q (ws ++ [(q, .inr (ci, fs))]) (k + 1) (n + N) (pc + 3) L (.ref q :: S)) : NM p l e R s m args below meth c G A nL Q ws k n pc L S := by
  intro H locs ls hP hD hS hl
  obtain ⟨hx, hb, hml, hown, hts, hr, hlk, hK, hA, hi9, hX⟩ := E
  exact va_new (D := G.1) hx hb hts hin ty0 hty hown (hts _ h1) (hts _ h2) (hts _ h3) hK hP hD hS hA hci hfs hc hs hd (fun q H1 hP1 hD1 hS1 => kk q H1 locs ls hP1 hD1 hS1 hl)
/-- another's constructor on the object that stands last -/
theorem n_callK (E : EX p s m args meth c G A cc own nL ct) {idx ci b : Nat} {y : MethodName} {bs : ByteArray} {maxL : Nat} {rm : Room} {fs : List Value} {ks : List Nat} {lk : Nat → Nat → Nat} {M2 : Mem} (hM : CK l G y bs maxL rm ci fs ks lk M2) (hy : MYo y bs maxL none 0) (hn0 : y.name = "<init>") (hi : Cond.instanceMethod y ∈ BIG) (hlk : Cond.methodLink own idx y ∈ BIG)
    (hroom : rm.frames + 1 ≤ R.frames ∧ 8 + (maxL + 11) + rm.locals ≤ R.locals ∧ k + rm.cells ≤ R.cells ∧ n + rm.slots ≤ R.slots) (hst8 : (S.map fun v => v.category).sum ≤ 8) (hd : decode cc pc = .ok (.invokespecial idx, 3))
    (kk : ∀ ad : Nat → Nat → Nat, ad 0 0 = b → NM p l e R s m args below meth c G A nL Q (ws ++ wl G (ks, lk, ad) M2) (k + rm.cells) (n + rm.slots) (pc + 3) L S) : NM p l e R s m args below meth c G A nL Q (ws ++ [(b, .inr (ci, fs))]) k n pc L (.ref b :: S) := by
  intro H locs ls hP hD hS hl
  obtain ⟨hx, hb, hml, hown, hts, hr, hlk0, hK, hA, hi9, hX⟩ := E
  obtain ⟨hy1, hy2, hy3, hy4, hy5⟩ := hy
  have hbi : (ws ++ [(b, .inr (ci, fs))])[ws.length]? = some (b, .inr (ci, fs)) := by rw [List.getElem?_append_right (Nat.le_refl _), Nat.sub_self]; rfl
  have hAb : A b := hD.2 _ _ hbi
  have hrun := va_runI (p := p) (l := l) (e := e) (R := R) (s := s) (m := m) (args := args) (below := below) (meth := meth) (c := c) (H := H) (locs := locs) (cells := k) (slots := n) (b := b) (As := []) (rest := S) (own := own) (n := 0) (nL := nL) (Ts := BIG) (g := F0 m pc ls (.ref b :: S)) (index := idx)
    ⟨hx, hb, hml, hown, hts⟩ (hM b H.size)
    ⟨callB_of (ws' := BIG) 0 hts (big_good hy2) rfl rfl rfl (hts _ hy1) (hts _ hlk) ⟨hy3, hy4, hy5⟩ ⟨hroom.1, hroom.2.1⟩, hn0, hts _ hi⟩
    ⟨PN9.blind, fun U hU hW => ⟨rfl, by rw [hU], (by
        rw [hU]
        intro i q hq
        cases i with
        | zero =>
          have : (b, Sum.inr (ci, fs)) = q := Option.some.inj hq
          exact this ▸ hP _ _ hbi
        | succ i => cases hq), ⟨fun i j x z hx hz _ => by
          have h1 := (List.getElem?_eq_some_iff.mp hx).1
          have h2 := (List.getElem?_eq_some_iff.mp hz).1
          have h3 : i < 1 := h1
          have h4 : j < 1 := h2
          omega, fun i q hq => (by
          cases i with
          | zero =>
            have : (b, Sum.inr (ci, fs)) = q := Option.some.inj hq
            exact this ▸ Or.inl rfl
          | succ i => cases hq)⟩, va_K.moved hW.alike hK, AX.warm hW hX⟩⟩ rfl rfl hl.1 rfl (lv_room hst8) hd ⟨hroom.2.2.1, hroom.2.2.2⟩
  intro T hT X
  obtain ⟨v, st₀, t, T', Lw, g0, X', hLf, e1, e2, ⟨⟨ad, ha, hv, hP', hD'⟩, hF⟩, go⟩ := hrun T hT X
  have hv2 : v = none := by injection hv
  subst hv2
  have hz := hF.1
  have hk1 := hF.2
  rw [g0] at hz hk1
  have hAA : ∀ q, AK b H.size q → A q := fun q h => h.elim (fun e => e ▸ hAb) (fun h => hA q (Nat.le_trans hS.1 h))
  have hw : ∀ (i : Nat) (q : Nat × va_E), ws[i]? = some q → q.1 < H.size ∧ q.1 ≠ b := by
    intro i q hq
    have hi2 : (ws ++ [(b, .inr (ci, fs))])[i]? = some q := by rw [List.getElem?_append_left (List.getElem?_eq_some_iff.mp hq).1]; exact hq
    refine ⟨(hP _ _ hi2).lt, fun h => ?_⟩
    have := hD.1 _ _ _ _ hi2 hbi h
    have h5 := (List.getElem?_eq_some_iff.mp hq).1
    omega
  have hwP : va_P G.1 vwCl ws T'.heap := fun i q hq => by
    have hi2 : (ws ++ [(b, .inr (ci, fs))])[i]? = some q := by rw [List.getElem?_append_left (List.getElem?_eq_some_iff.mp hq).1]; exact hq
    refine (hP _ _ hi2).kept ?_
    rw [e1]
    exact hk1 _ (hw i q hq).1 (fun h => h.elim (fun h => (hw i q hq).2 h) (fun h => Nat.not_le.mpr (hw i q hq).1 h))
  have hwD : va_D A ws := ⟨fun i j x z hx hz h => hD.1 i j x z (by rw [List.getElem?_append_left (List.getElem?_eq_some_iff.mp hx).1]; exact hx) (by rw [List.getElem?_append_left (List.getElem?_eq_some_iff.mp hz).1]; exact hz) h, fun i q hq => hD.2 i q (by rw [List.getElem?_append_left (List.getElem?_eq_some_iff.mp hq).1]; exact hq)⟩
  have hSn : va_S A s.heap T'.heap (locs ++ Lw) := by
    refine ⟨Nat.le_trans hS.1 (by rw [e1]; exact hz), fun q h1 h2 => ?_, fun q hq => ?_⟩
    · rw [e1, hk1 q (Nat.lt_of_lt_of_le h1 hS.1) (fun h => h2 (hAA q h))]
      exact hS.2.1 q h1 h2
    · rcases List.mem_append.mp hq with h | h
      · exact hS.2.2 q h
      · exact hAA _ (hLf q h)
  obtain ⟨t2, a1, b1⟩ := kk ad ha T'.heap (locs ++ Lw) ls (hwP.app (by rw [e1]; exact hP')) (hwD.app (hD'.weaken (fun _ q _ h => hAA q.1 h)) (fun i j x z hx hz h => by
    have h1 := hw i x hx
    rcases hD'.2 j z hz with h2 | h2
    · exact h1.2 (h.trans h2)
    · rw [h] at h1; exact Nat.not_le.mpr h1.1 h2)) hSn hl T' rfl X'
  exact ⟨t2, go t2 a1, b1⟩
/-- .. a private one; another's constructor on the object that stands last -/
theorem n_callKN (E : EX p s m args meth c G A cc own nL ct) {idx ci b : Nat} {y : MethodName} {bs : ByteArray} {maxL : Nat} {rm : Room} {fs : List Value} {ks : List Nat} {lk : Nat → Nat → Nat} {M2 : Mem} (hM : CK l G y bs maxL rm ci fs ks lk M2) (hy : MYo y bs maxL none 0) (hn0 : y.name = "<init>") (hi : Cond.instanceMethod y ∈ BIG) {host : String} (hlk : Cond.methodLinkNest own idx y host ∈ NW)
    (hroom : rm.frames + 1 ≤ R.frames ∧ 8 + (maxL + 11) + rm.locals ≤ R.locals ∧ k + rm.cells ≤ R.cells ∧ n + rm.slots ≤ R.slots) (hst8 : (S.map fun v => v.category).sum ≤ 8) (hd : decode cc pc = .ok (.invokespecial idx, 3))
    (kk : ∀ ad : Nat → Nat → Nat, ad 0 0 = b → NM p l e R s m args below meth c G A nL Q (ws ++ wl G (ks, lk, ad) M2) (k + rm.cells) (n + rm.slots) (pc + 3) L S) : NM p l e R s m args below meth c G A nL Q (ws ++ [(b, .inr (ci, fs))]) k n pc L (.ref b :: S) := by
  intro H locs ls hP hD hS hl
  obtain ⟨hx, hb, hml, hown, hts, hr, hlk0, hK, hA, hi9, hX⟩ := E
  obtain ⟨hy1, hy2, hy3, hy4, hy5⟩ := hy
  have hbi : (ws ++ [(b, .inr (ci, fs))])[ws.length]? = some (b, .inr (ci, fs)) := by rw [List.getElem?_append_right (Nat.le_refl _), Nat.sub_self]; rfl
  have hAb : A b := hD.2 _ _ hbi
  have hrun := va_runIN (host := host) (p := p) (l := l) (e := e) (R := R) (s := s) (m := m) (args := args) (below := below) (meth := meth) (c := c) (H := H) (locs := locs) (cells := k) (slots := n) (b := b) (As := []) (rest := S) (own := own) (n := 0) (nL := nL) (Ts := BIG) (g := F0 m pc ls (.ref b :: S)) (index := idx)
    ⟨hx, hb, hml, hown, hts⟩ (hM b H.size)
    ⟨va_cnB (ws' := BIG) 0 hts (big_good hy2) rfl rfl rfl (hX.2.2.1 _ hlk) (hts _ hy1) ⟨hy3, hy4, hy5⟩ ⟨hroom.1, hroom.2.1⟩, hn0, hts _ hi⟩
    ⟨PN9.blind, fun U hU hW => ⟨rfl, by rw [hU], (by
        rw [hU]
        intro i q hq
        cases i with
        | zero =>
          have : (b, Sum.inr (ci, fs)) = q := Option.some.inj hq
          exact this ▸ hP _ _ hbi
        | succ i => cases hq), ⟨fun i j x z hx hz _ => by
          have h1 := (List.getElem?_eq_some_iff.mp hx).1
          have h2 := (List.getElem?_eq_some_iff.mp hz).1
          have h3 : i < 1 := h1
          have h4 : j < 1 := h2
          omega, fun i q hq => (by
          cases i with
          | zero =>
            have : (b, Sum.inr (ci, fs)) = q := Option.some.inj hq
            exact this ▸ Or.inl rfl
          | succ i => cases hq)⟩, va_K.moved hW.alike hK, AX.warm hW hX⟩⟩ rfl rfl hl.1 rfl (lv_room hst8) hd ⟨hroom.2.2.1, hroom.2.2.2⟩
  intro T hT X
  obtain ⟨v, st₀, t, T', Lw, g0, X', hLf, e1, e2, ⟨⟨ad, ha, hv, hP', hD'⟩, hF⟩, go⟩ := hrun T hT X
  have hv2 : v = none := by injection hv
  subst hv2
  have hz := hF.1
  have hk1 := hF.2
  rw [g0] at hz hk1
  have hAA : ∀ q, AK b H.size q → A q := fun q h => h.elim (fun e => e ▸ hAb) (fun h => hA q (Nat.le_trans hS.1 h))
  have hw : ∀ (i : Nat) (q : Nat × va_E), ws[i]? = some q → q.1 < H.size ∧ q.1 ≠ b := by
    intro i q hq
    have hi2 : (ws ++ [(b, .inr (ci, fs))])[i]? = some q := by rw [List.getElem?_append_left (List.getElem?_eq_some_iff.mp hq).1]; exact hq
    refine ⟨(hP _ _ hi2).lt, fun h => ?_⟩
    have := hD.1 _ _ _ _ hi2 hbi h
    have h5 := (List.getElem?_eq_some_iff.mp hq).1
    omega
  have hwP : va_P G.1 vwCl ws T'.heap := fun i q hq => by
    have hi2 : (ws ++ [(b, .inr (ci, fs))])[i]? = some q := by rw [List.getElem?_append_left (List.getElem?_eq_some_iff.mp hq).1]; exact hq
    refine (hP _ _ hi2).kept ?_
    rw [e1]
    exact hk1 _ (hw i q hq).1 (fun h => h.elim (fun h => (hw i q hq).2 h) (fun h => Nat.not_le.mpr (hw i q hq).1 h))
  have hwD : va_D A ws := ⟨fun i j x z hx hz h => hD.1 i j x z (by rw [List.getElem?_append_left (List.getElem?_eq_some_iff.mp hx).1]; exact hx) (by rw [List.getElem?_append_left (List.getElem?_eq_some_iff.mp hz).1]; exact hz) h, fun i q hq => hD.2 i q (by rw [List.getElem?_append_left (List.getElem?_eq_some_iff.mp hq).1]; exact hq)⟩
  have hSn : va_S A s.heap T'.heap (locs ++ Lw) := by
    refine ⟨Nat.le_trans hS.1 (by rw [e1]; exact hz), fun q h1 h2 => ?_, fun q hq => ?_⟩
    · rw [e1, hk1 q (Nat.lt_of_lt_of_le h1 hS.1) (fun h => h2 (hAA q h))]
      exact hS.2.1 q h1 h2
    · rcases List.mem_append.mp hq with h | h
      · exact hS.2.2 q h
      · exact hAA _ (hLf q h)
  obtain ⟨t2, a1, b1⟩ := kk ad ha T'.heap (locs ++ Lw) ls (hwP.app (by rw [e1]; exact hP')) (hwD.app (hD'.weaken (fun _ q _ h => hAA q.1 h)) (fun i j x z hx hz h => by
    have h1 := hw i x hx
    rcases hD'.2 j z hz with h2 | h2
    · exact h1.2 (h.trans h2)
    · rw [h] at h1; exact Nat.not_le.mpr h1.1 h2)) hSn hl T' rfl X'
  exact ⟨t2, go t2 a1, b1⟩
end RN2
