/-! constructors that use the constants: from an explicit world over to the modules' -/
theorem nP_of {D : va_G} {cl : List vw_C} {A : Nat → Prop} {w w2 : va_W} (h : w = w2) : (∀ H, va_P D cl w H → va_P D cl w2 H) ∧ (va_D A w → va_D A w2) := by subst h; exact ⟨fun _ h => h, id⟩
def PG9 (G : GT) (cs : Nat → Nat → Nat) (a : Nat) (ws : va_W) (sz : Nat) : Array Value → State → Prop := va_Pc [.ref a] (fun U => U.heap.size = sz ∧ va_P G.1 vwCl ws U.heap ∧ va_D (AK a sz) ws ∧ AX U ∧ GF G ([], lk0, cs) (AK a sz) U U.heap)
def QG9 (G : GT) (cs : Nat → Nat → Nat) (ks : List Nat) (lk : Nat → Nat → Nat) (a : Nat) (post : Mem → Prop) (sz : Nat) : Array Value → State → Outcome → State → Prop := fun _ st oc t => (∃ (ad : Nat → Nat → Nat) (M2 : Mem), ad 0 0 = a ∧ (∀ i, i < 3 → ad (97 + i) = cs (97 + i)) ∧ oc = .returned none ∧ post M2 ∧ va_P G.1 vwCl (wl G (ks, lk, ad) M2) t.heap ∧ va_D (AK a sz) (wl G (ks, lk, ad) M2)) ∧ va_F (AK a sz) st t
/-- a constructor's contract where it may use the constants -/
def CG (l : Launch) (G : GT) (y : MethodName) (b : ByteArray) (maxL : Nat) (rm : Room) (ci : Nat) (fs : List Value) (ks : List Nat) (lk : Nat → Nat → Nat) (post : Mem → Prop) : Prop :=
  ∀ (cs : Nat → Nat → Nat) (a sz : Nat), Met l y (.code y b maxL none :: BIG) rm (PG9 G cs a [(a, .inr (ci, fs))] sz) (QG9 G cs ks lk a post sz) rm.cells rm.slots (AK a sz)
theorem PG9.blind {G : GT} {cs : Nat → Nat → Nat} {a sz : Nat} {ws : va_W} : FrameBlind (PG9 G cs a ws sz) := by
  rintro v U g mk ⟨h0, h1, h2, h3, h4, h5⟩
  exact ⟨h0, h1, h2, h3, AX.same (s := U) rfl h4, GF.same (s := U) rfl h5⟩
theorem CG.of {l : Launch} {G : GT} {y : MethodName} {b : ByteArray} {maxL : Nat} {rm : Room} {ci : Nat} {fs : List Value} {ks : List Nat} {lk : Nat → Nat → Nat} {post : Mem → Prop} (own : String) (hy : plainName y.cls = true) (ho : y.cls = own) (hn : y.name = "<init>") (h1 : 1 ≤ maxL)
    (body : ∀ (p : Program) (e : Env) (s : State) (m : MethodId) (args : Array Value) (below : List Frame) (meth : Method) (c : Code) (a : Nat) (cs : Nat → Nat → Nat), meth.sig.returnType = none → EX p s m args meth c G (AK a s.heap.size) b own maxL true → GF G ([], lk0, cs) (AK a s.heap.size) s s.heap → NM p l e rm s m args below meth c G (AK a s.heap.size) maxL (MQ below (QG9 G cs ks lk a post s.heap.size) args s rm.cells rm.slots (AK a s.heap.size)) [(a, .inr (ci, fs))] 0 0 0 (some (.inl (.ref a)) :: List.replicate (maxL - 1) none) []) : CG l G y b maxL rm ci fs ks lk post := by
  intro cs a sz
  refine Met.ofW (cc := b) (maxL := maxL) (ret := none) hy rfl ?_
  intro p e s m args below meth c s₁ B hml hv
  obtain ⟨rfl, rfl, hP, hD, hX, hG⟩ := hv
  have hts := atoms_spec (ws := .code y b maxL none :: BIG) B.pre
  have hE : EX p s m ([Value.ref a].toArray) meth c G (AK a s.heap.size) b own maxL true := ⟨B.exec, B.bytes, hml, ho ▸ findClass_of_methodNamed B.named, fun w hw => hts w (List.mem_cons_of_mem _ hw), fun _ => B.returns, B.notSynchronized, hG.2.1, fun q hq => Or.inr hq, fun _ => hn ▸ (name_of_methodNamed B.named B.method).1, hX⟩
  have hl := lv_entry ([.ref a]) (n := maxL) h1
  rw [lg_entry_eq]
  generalize (lg_sl ([.ref a]) ++ List.replicate (maxL - (lg_sl ([.ref a])).length) Slot.unset).toArray = ls at hl ⊢
  have hl2 : lv_has ls maxL (lvl Y0 0 (some (.inl (.ref a)) :: List.replicate (maxL - 1) none)) := by
    rw [show lvl Y0 0 (some (.inl (.ref a)) :: List.replicate (maxL - 1) none) = (0, Value.ref a) :: lvl Y0 1 (List.replicate (maxL - 1) none) from rfl, lvl_none]
    exact hl
  exact body p e s m _ below meth c a cs B.returns hE hG s.heap [] ls hP hD va_S.rf hl2
section RN5
variable {p : Program} {l : Launch} {e : Env} {R : Room} {s : State} {m : MethodId} {args : Array Value} {below : List Frame} {meth : Method} {c : Code} {G : GT} {A : Nat → Prop} {nL : Nat} {Q : State → Prop} {ws : va_W} {k n pc : Nat} {L : List (Option AV)} {S : List Value} {cc : ByteArray} {own : String} {ct : Bool}
/-- such a constructor on the object that stands last -/
theorem n_callG (E : EX p s m args meth c G A cc own nL ct) {cs : Nat → Nat → Nat} (hG : GF G ([], lk0, cs) A s s.heap) {idx ci b : Nat} {y : MethodName} {bs : ByteArray} {maxL : Nat} {rm : Room} {fs : List Value} {ks : List Nat} {lk : Nat → Nat → Nat} {post : Mem → Prop} (hM : CG l G y bs maxL rm ci fs ks lk post) (hy : MYo y bs maxL none 0) (hn0 : y.name = "<init>") (hi : Cond.instanceMethod y ∈ BIG) (hlk : Cond.methodLink own idx y ∈ BIG)
    (hroom : rm.frames + 1 ≤ R.frames ∧ 8 + (maxL + 11) + rm.locals ≤ R.locals ∧ k + rm.cells ≤ R.cells ∧ n + rm.slots ≤ R.slots) (hst8 : (S.map fun v => v.category).sum ≤ 8) (hd : decode cc pc = .ok (.invokespecial idx, 3))
    (kk : ∀ (ad : Nat → Nat → Nat) (M2 : Mem), ad 0 0 = b → (∀ i, i < 3 → ad (97 + i) = cs (97 + i)) → post M2 → NM p l e R s m args below meth c G A nL Q (ws ++ wl G (ks, lk, ad) M2) (k + rm.cells) (n + rm.slots) (pc + 3) L S) : NM p l e R s m args below meth c G A nL Q (ws ++ [(b, .inr (ci, fs))]) k n pc L (.ref b :: S) := by
  intro H locs ls hP hD hS hl
  obtain ⟨hx, hb, hml, hown, hts, hr, hlk0, hK, hA, hi9, hX⟩ := E
  obtain ⟨hy1, hy2, hy3, hy4, hy5⟩ := hy
  have hbi : (ws ++ [(b, .inr (ci, fs))])[ws.length]? = some (b, .inr (ci, fs)) := by rw [List.getElem?_append_right (Nat.le_refl _), Nat.sub_self]; rfl
  have hAb : A b := hD.2 _ _ hbi
  have hAA : ∀ q, AK b H.size q → A q := fun q h => h.elim (fun e => e ▸ hAb) (fun h => hA q (Nat.le_trans hS.1 h))
  have hrun := va_runI (p := p) (l := l) (e := e) (R := R) (s := s) (m := m) (args := args) (below := below) (meth := meth) (c := c) (H := H) (locs := locs) (cells := k) (slots := n) (b := b) (As := []) (rest := S) (own := own) (n := 0) (nL := nL) (Ts := BIG) (g := F0 m pc ls (.ref b :: S)) (index := idx)
    ⟨hx, hb, hml, hown, hts⟩ (hM cs b H.size)
    ⟨callB_of (ws' := BIG) 0 hts (big_good hy2) rfl rfl rfl (hts _ hy1) (hts _ hlk) ⟨hy3, hy4, hy5⟩ ⟨hroom.1, hroom.2.1⟩, hn0, hts _ hi⟩
    ⟨PG9.blind, fun U hU hW => ⟨rfl, by rw [hU], (by
        rw [hU]
        intro i q hq
        cases i with
        | zero =>
          have : (b, Sum.inr (ci, fs)) = q := Option.some.inj hq
          exact this ▸ hP _ _ hbi
        | succ i => cases hq), ⟨fun i j x z hx hz _ => by
          have h1 := (List.getElem?_eq_some_iff.mp hx).1
          have h2 := (List.getElem?_eq_some_iff.mp hz).1
          have h3 : i < 1 := h1
          have h4 : j < 1 := h2
          omega, fun i q hq => (by
          cases i with
          | zero =>
            have : (b, Sum.inr (ci, fs)) = q := Option.some.inj hq
            exact this ▸ Or.inl rfl
          | succ i => cases hq)⟩, AX.warm hW hX, (by
        rw [hU]
        exact GF.warm hW (GF.heap (Y := ([], lk0, cs)) (Y2 := ([], lk0, cs)) (A := A) (H := s.heap) (fun _ _ => rfl) hAA hS.2.1 hG))⟩⟩ rfl rfl hl.1 rfl (lv_room hst8) hd ⟨hroom.2.2.1, hroom.2.2.2⟩
  intro T hT X
  obtain ⟨v, st₀, t, T', Lw, g0, X', hLf, e1, e2, ⟨⟨ad, M2, ha, h97, hv, hpo, hP', hD'⟩, hF⟩, go⟩ := hrun T hT X
  have hv2 : v = none := by injection hv
  subst hv2
  have hz := hF.1
  have hk1 := hF.2
  rw [g0] at hz hk1
  have hw : ∀ (i : Nat) (q : Nat × va_E), ws[i]? = some q → q.1 < H.size ∧ q.1 ≠ b := by
    intro i q hq
    have hi2 : (ws ++ [(b, .inr (ci, fs))])[i]? = some q := by rw [List.getElem?_append_left (List.getElem?_eq_some_iff.mp hq).1]; exact hq
    refine ⟨(hP _ _ hi2).lt, fun h => ?_⟩
    have := hD.1 _ _ _ _ hi2 hbi h
    have h5 := (List.getElem?_eq_some_iff.mp hq).1
    omega
  have hwP : va_P G.1 vwCl ws T'.heap := fun i q hq => by
    have hi2 : (ws ++ [(b, .inr (ci, fs))])[i]? = some q := by rw [List.getElem?_append_left (List.getElem?_eq_some_iff.mp hq).1]; exact hq
    refine (hP _ _ hi2).kept ?_
    rw [e1]
    exact hk1 _ (hw i q hq).1 (fun h => h.elim (fun h => (hw i q hq).2 h) (fun h => Nat.not_le.mpr (hw i q hq).1 h))
  have hwD : va_D A ws := ⟨fun i j x z hx hz h => hD.1 i j x z (by rw [List.getElem?_append_left (List.getElem?_eq_some_iff.mp hx).1]; exact hx) (by rw [List.getElem?_append_left (List.getElem?_eq_some_iff.mp hz).1]; exact hz) h, fun i q hq => hD.2 i q (by rw [List.getElem?_append_left (List.getElem?_eq_some_iff.mp hq).1]; exact hq)⟩
  have hSn : va_S A s.heap T'.heap (locs ++ Lw) := by
    refine ⟨Nat.le_trans hS.1 (by rw [e1]; exact hz), fun q h1 h2 => ?_, fun q hq => ?_⟩
    · rw [e1, hk1 q (Nat.lt_of_lt_of_le h1 hS.1) (fun h => h2 (hAA q h))]
      exact hS.2.1 q h1 h2
    · rcases List.mem_append.mp hq with h | h
      · exact hS.2.2 q h
      · exact hAA _ (hLf q h)
  obtain ⟨t2, a1, b1⟩ := kk ad M2 ha h97 hpo T'.heap (locs ++ Lw) ls (hwP.app (by rw [e1]; exact hP')) (hwD.app (hD'.weaken (fun _ q _ h => hAA q.1 h)) (fun i j x z hx hz h => by
    have h1 := hw i x hx
    rcases hD'.2 j z hz with h2 | h2
    · exact h1.2 (h.trans h2)
    · rw [h] at h1; exact Nat.not_le.mpr h1.1 h2)) hSn hl T' rfl X'
  exact ⟨t2, go t2 a1, b1⟩
/-- over to the modules' world -/
theorem n_wm (E : EX p s m args meth c G A cc own nL ct) {cs : Nat → Nat → Nat} (hG : GF G ([], lk0, cs) A s s.heap) {ret : Option FieldType} (hret : meth.sig.returnType = ret) {Y : LV} {M : Mem} {L' : List (Option AV)} {S' : List AV} {ws2 : va_W}
    (h97 : ∀ i, i < 3 → Y.2.2 (97 + i) = cs (97 + i)) (hP : ∀ H, va_P G.1 vwCl ws H → va_P G.1 vwCl ws2 H) (hD : va_D A ws → va_D A ws2) (hw : wl G Y M = ws2) (hA1 : ∀ q, A q → AS Y s.heap.size q) (hL : lvl Y 0 L' = lvl Y0 0 L) (hS : S'.map (cv Y) = S)
    (kk : EN p s m args meth c G Y cc own nL ret → (∀ q, AS Y s.heap.size q → A q) → WM p l e R s m args below meth c G Y nL Q M k n pc L' S') : NM p l e R s m args below meth c G A nL Q ws k n pc L S := by
  intro H locs ls hP0 hD0 hS0 hl
  have hD2 := hD hD0
  have hAS : ∀ q, AS Y s.heap.size q → A q := by
    rintro q (⟨x, hx, rfl⟩ | h)
    · obtain ⟨i, hi⟩ := List.getElem?_of_mem hx
      have h1 : (wl G Y M)[i]? = some (Y.2.2 x.1 x.2, ceY G Y (M x.1) x.1 x.2) := by unfold wl; rw [List.getElem?_map, hi]; rfl
      rw [hw] at h1
      exact hD2.2 i _ h1
    · exact E.2.2.2.2.2.2.2.2.1 q h
  have hDD : ∀ M', va_D (AS Y s.heap.size) (wl G Y M') := by
    intro M'
    have e : ∀ (i : Nat) (x : Nat × va_E), (wl G Y M')[i]? = some x → ∃ y, ws2[i]? = some (x.1, y) := by
      intro i x hx
      rw [← hw]
      unfold wl at hx ⊢
      rw [List.getElem?_map] at hx ⊢
      cases hk : (KY Y)[i]? with
      | none => rw [hk] at hx; cases hx
      | some z =>
        rw [hk] at hx
        have h2 := Option.some.inj hx
        subst h2
        exact ⟨_, rfl⟩
    refine ⟨fun i j x z hx hz h => ?_, fun i x hx => hA1 _ ?_⟩
    · obtain ⟨y1, e1⟩ := e i x hx
      obtain ⟨y2, e2⟩ := e j z hz
      exact hD2.1 i j _ _ e1 e2 h
    · obtain ⟨y1, e1⟩ := e i x hx
      exact hD2.2 i (x.1, y1) e1
  have hGY : GF G Y (AS Y s.heap.size) s s.heap := GF.heap (Y := ([], lk0, cs)) (A := A) (H := s.heap) h97 hAS (fun _ _ _ => rfl) hG
  obtain ⟨hx, hb, hml, hown, hts, hr, hlk, hK, hA, hin, hX⟩ := E
  subst hS
  exact kk ⟨hx, hb, hml, hown, hts, hret, hlk, hGY, hDD⟩ hAS H locs ls (by rw [hw]; exact hP H hP0) ⟨hS0.1, fun q h1 h2 => hS0.2.1 q h1 (fun h => h2 (hA1 q h)), fun q hq => hA1 _ (hS0.2.2 q hq)⟩ (by rw [hL]; exact hl)
/-- the end of such a constructor -/
theorem r_vretG {Y : LV} {M : Mem} {cs : Nat → Nat → Nat} {a mc ms : Nat} {post : Mem → Prop} (E : EN p s m args meth c G Y cc own nL none) (hd : decode cc pc = .ok (.return_, 1)) (hk : k ≤ mc) (hn : n ≤ ms) (ha : Y.2.2 0 0 = a) (h97 : ∀ i, i < 3 → Y.2.2 (97 + i) = cs (97 + i)) (hAS : ∀ q, AS Y s.heap.size q → AK a s.heap.size q) (hp : post M) : WM p l e R s m args below meth c G Y nL (MQ below (QG9 G cs Y.1 Y.2.1 a post s.heap.size) args s mc ms (AK a s.heap.size)) M k n pc L [] := by
  intro H locs ls hP hS hl
  obtain ⟨hx, hb, hml, hown, hts, hr, hlk, hG, hD⟩ := E
  refine W.widen hk hn ?_
  refine W.vret (hlocks := hlk) hx hb hr (fun t ht hW => ⟨⟨Y.2.2, M, ha, h97, rfl, hp, by rw [ht]; exact hP, (hD M).weaken (fun _ q _ h => hAS q.1 h)⟩, ?_⟩) (fun q hq => hAS _ (hS.2.2 q hq)) hd
  have h1 := hS.F ht
  exact ⟨h1.1, fun q h2 h3 => h1.2 q h2 (fun h => h3 (hAS q h))⟩
end RN5
