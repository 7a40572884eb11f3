/-! contracts over explicit cells -/
def PNw (G : GT) (cs : Nat → Nat → Nat) (as : List AV) (wc : va_W) (sz : Nat) : Array Value → State → Prop := va_Pc (as.map (cv (yz cs))) (fun U => U.heap.size = sz ∧ va_P G.1 vwCl wc U.heap ∧ va_D (va_A wc sz) wc ∧ AX U ∧ GF G (yz cs) (va_A wc sz) U U.heap)
def QNw (G : GT) (wc : va_W) (post : Option Value → va_W → Prop) (sz : Nat) : Array Value → State → Outcome → State → Prop := fun _ st oc t => (∃ (r : Option Value) (w2 : va_W), oc = .returned r ∧ post r w2 ∧ va_P G.1 vwCl w2 t.heap ∧ va_D (va_A wc sz) w2) ∧ va_F (va_A wc sz) st t
def NC (l : Launch) (G : GT) (y : MethodName) (b : ByteArray) (maxL : Nat) (ret : Option FieldType) (rm : Room) (cs : Nat → Nat → Nat) (as : List AV) (wc : va_W) (post : Option Value → va_W → Prop) : Prop :=
  ∀ (sz : Nat), Met l y (.code y b maxL ret :: BIG) rm (PNw G cs as wc sz) (QNw G wc post sz) rm.cells rm.slots (va_A wc sz)
theorem PNw.blind {G : GT} {cs : Nat → Nat → Nat} {as : List AV} {wc : va_W} {sz : Nat} : FrameBlind (PNw G cs as wc sz) := by
  rintro v U g mk ⟨h0, h1, h2, h3, h4, h5⟩
  exact ⟨h0, h1, h2, h3, AX.same (s := U) rfl h4, GF.same (s := U) rfl h5⟩
theorem NC.of {l : Launch} {G : GT} {y : MethodName} {b : ByteArray} {maxL : Nat} {ret : Option FieldType} {rm : Room} {cs : Nat → Nat → Nat} {as : List AV} {wc : va_W} {post : Option Value → va_W → Prop} (own : String) (L0 : List (Option AV)) (z : Nat)
    (hy : plainName y.cls = true) (ho : y.cls = own) (hL : entL as ++ List.replicate z none = L0) (hn : L0.length = maxL)
    (body : ∀ (p : Program) (e : Env) (s : State) (m : MethodId) (args : Array Value) (below : List Frame) (meth : Method) (c : Code), EZ p s m args meth c G (yz cs) (va_A wc s.heap.size) b own maxL ret → meth.name = y.name → WZ p l e rm s m args below meth c G (yz cs) (va_A wc s.heap.size) maxL (MQ below (QNw G wc post s.heap.size) args s rm.cells rm.slots (va_A wc s.heap.size)) wc 0 0 0 L0 []) : NC l G y b maxL ret rm cs as wc post := by
  intro sz
  refine Met.ofW (cc := b) (maxL := maxL) (ret := ret) hy rfl ?_
  intro p e s m args below meth c s₁ B hml hv
  obtain ⟨rfl, rfl, hP, hD, hX, hG⟩ := hv
  have hts := atoms_spec (ws := .code y b maxL ret :: BIG) B.pre
  have hE : EZ p s m (as.map (cv (yz cs))).toArray meth c G (yz cs) (va_A wc s.heap.size) b own maxL ret := ⟨B.exec, B.bytes, hml, ho ▸ findClass_of_methodNamed B.named, fun w hw => hts w (List.mem_cons_of_mem _ hw), B.returns, B.notSynchronized, hG, fun q hq => Or.inr hq, hX⟩
  have hlen : (entL as).length + z = maxL := by rw [← hn, ← hL]; simp
  have hl := lv_entry (as.map (cv (yz cs))) (n := maxL) (by rw [lg_len]; omega)
  rw [lg_entry_eq]
  generalize (lg_sl (as.map (cv (yz cs))) ++ List.replicate (maxL - (lg_sl (as.map (cv (yz cs)))).length) Slot.unset).toArray = ls at hl ⊢
  have hl2 : lv_has ls maxL (lvl (yz cs) 0 L0) := by rw [← hL, lvl_ent]; exact hl
  exact body p e s m _ below meth c hE (name_of_methodNamed B.named B.method).1 s.heap [] ls hP hD va_S.rf hl2
theorem good_big {ws : List Cond} (h : ∀ w ∈ ws, w ∈ BIG) : GoodIn BIG ws := fun w hw => ⟨h w hw, good_of_word (List.mem_filter.mp (h w hw)).2⟩
theorem in_app {l1 : List Cond} {y : MethodName} {b : ByteArray} {maxL : Nat} {ret : Option FieldType} (h1 : ∀ w ∈ l1, w ∈ BIG) (hc : Cond.code y b maxL ret ∈ BIG) : ∀ w ∈ l1 ++ (.code y b maxL ret :: BIG), w ∈ BIG := fun w hw => (List.mem_append.mp hw).elim (h1 w) (fun h => (List.mem_cons.mp h).elim (fun e => e ▸ hc) id)
theorem sub_of0 {f : Nat → Option (Nat × va_E)} : ∀ {is : List Nat} {wc : va_W}, is.map f = wc.map some → is.filterMap f = wc
  | [], [], _ => rfl
  | [], _ :: _, h => by cases h
  | _ :: _, [], h => by cases h
  | a :: t, b :: u, h => by
    have h1 : f a = some b := (List.cons.inj h).1
    have h2 := sub_of0 (List.cons.inj h).2
    rw [List.filterMap_cons_some h1, h2]
theorem sub_of {ws wc : va_W} {is : List Nat} (h : is.map (fun i => ws[i]?) = wc.map some) : is.filterMap (fun i => ws[i]?) = wc := sub_of0 h
section RZ2
variable {p : Program} {l : Launch} {e : Env} {R : Room} {s : State} {m : MethodId} {args : Array Value} {below : List Frame} {meth : Method} {c : Code} {G : GT} {cs : Nat → Nat → Nat} {nL : Nat} {Q : State → Prop} {A : Nat → Prop} {ws : va_W} {k n pc : Nat} {L : List (Option AV)} {S : List AV} {cc : ByteArray} {own : String} {ret : Option FieldType}
theorem z_pre {as : List AV} {wc : va_W} {isC : List Nat} {H : Heap} {locs : List Loc} (hC : isC.map (fun i => ws[i]?) = wc.map some) (hnC : va_nd isC = true) (hP : va_P G.1 vwCl ws H) (hD : va_D A ws) (hS : va_S A s.heap H locs) (hA : ∀ q : Nat, s.heap.size ≤ q → A q) (hX : AX s) (hG : GF G (yz cs) A s s.heap) {U : State} (hU : U.heap = H) (hW : s.WarmedH U.vm) : PNw G cs as wc H.size (as.map (cv (yz cs))).toArray U := by
  refine ⟨rfl, by rw [hU], ?_, (hD.sub isC hnC hC).self, AX.warm hW hX, ?_⟩
  · rw [hU]
    exact hP.sub isC (sub_of hC)
  · rw [hU]
    exact GF.warm hW (GF.heap (Y := yz cs) (Y2 := yz cs) (A := A) (H := s.heap) (fun _ _ => rfl) (va_free hD hS hA isC hC) hS.2.1 hG)
theorem z_on {Y : LV} {wc wr : va_W} {post : Option Value → va_W → Prop} {mc ms : Nat} {H : Heap} {locs : List Loc} {ls : Array Slot} {st : List Value} {a : Array Value} {isC isR : List Nat} (hC : isC.map (fun i => ws[i]?) = wc.map some) (hR : isR.map (fun i => ws[i]?) = wr.map some) (hn : va_nd isR = true) (hdis : ∀ i ∈ isR, i ∉ isC) (hA : ∀ q : Nat, s.heap.size ≤ q → A q)
    (hP : va_P G.1 vwCl ws H) (hD : va_D A ws) (hS : va_S A s.heap H locs) (hl : lv_has ls nL (lvl Y 0 L)) (hr : va_Run p l e R s m args below meth c H locs k n mc ms (F0 m pc ls st) (S.map (cv Y)) (QNw G wc post H.size a) (va_A wc H.size))
    (kk : ∀ r w2, post r w2 → WZ p l e R s m args below meth c G Y A nL Q (wr ++ w2) (k + mc) (n + ms) (pc + 3) L ((r.map Sum.inl).toList ++ S)) : W p l e R s m args below meth c H locs k n Q (F0 m pc ls st) := by
  intro T hT X
  obtain ⟨v, st₀, t, T', Lw, h0, X', hLf, e1, e2, ⟨⟨r, w2, hv, hp, hP', hD'⟩, hF⟩, go⟩ := hr T hT X
  have hv2 : v = r := by injection hv
  subst hv2
  have hst : v.toList ++ S.map (cv Y) = ((v.map Sum.inl).toList ++ S).map (cv Y) := by
    cases v <;> rfl
  have hz := hF.1
  have hk1 := hF.2
  rw [h0] at hz hk1
  have hfr := va_free hD hS hA isC hC
  obtain ⟨hPn, hDn⟩ := va_join hP hD isC isR hC hR hn hdis (H1 := T'.heap) (fun q h1 h2 => by rw [e1]; exact hk1 q h1 h2) hfr (by rw [e1]; exact hP') hD'
  have hSn : va_S A s.heap T'.heap (locs ++ Lw) := by
    refine ⟨Nat.le_trans hS.1 (by rw [e1]; exact hz), fun q h1 h2 => ?_, fun q hq => ?_⟩
    · rw [e1, hk1 q (Nat.lt_of_lt_of_le h1 hS.1) (fun h => h2 (hfr q h))]
      exact hS.2.1 q h1 h2
    · rcases List.mem_append.mp hq with h | h
      · exact hS.2.2 q h
      · exact hfr _ (hLf q h)
  obtain ⟨t2, a1, b1⟩ := kk v w2 hp T'.heap (locs ++ Lw) ls hPn hDn hSn hl T' rfl X'
  rw [← hst] at a1
  exact ⟨t2, go t2 a1, b1⟩
theorem st_map {Y : LV} {as S st : List AV} (h : as.reverse ++ S = st) : st.map (cv Y) = (as.map (cv Y)).reverse ++ S.map (cv Y) := by
  rw [← h, List.map_append, List.map_reverse]
/-- a static method -/
theorem z_callS (E : EZ p s m args meth c G (yz cs) A cc own nL ret) {idx : Nat} {y : MethodName} {b : ByteArray} {maxL N : Nat} {ret' : Option FieldType} {rm : Room} {as : List AV} {wc wr : va_W} {post : Option Value → va_W → Prop} {isC isR : List Nat} {st : List AV}
    (hM : NC l G y b maxL ret' rm cs as wc post) (hy : MYo y b maxL ret' N) (hi : Cond.static y ∈ BIG) (hlk : Cond.methodLink own idx y ∈ BIG) (hC : isC.map (fun i => ws[i]?) = wc.map some) (hnC : va_nd isC = true) (hR : isR.map (fun i => ws[i]?) = wr.map some) (hn : va_nd isR = true) (hdis : ∀ i ∈ isR, i ∉ isC)
    (hN : as.length = N) (hst : as.reverse ++ S = st) (hroom : rm.frames + 1 ≤ R.frames ∧ 8 + (maxL + 11) + rm.locals ≤ R.locals ∧ k + rm.cells ≤ R.cells ∧ n + rm.slots ≤ R.slots) (hst8 : (S.map fun v => if ac2 (some v) then 2 else 1).sum ≤ 8) (hd : decode cc pc = .ok (.invokestatic idx, 3))
    (kk : ∀ r w2, post r w2 → WZ p l e R s m args below meth c G (yz cs) A nL Q (wr ++ w2) (k + rm.cells) (n + rm.slots) (pc + 3) L ((r.map Sum.inl).toList ++ S)) : WZ p l e R s m args below meth c G (yz cs) A nL Q ws k n pc L st := by
  intro H locs ls hP hD hS hl
  obtain ⟨hx, hb, hml, hown, hts, hr, hlk0, hG, hA, hX⟩ := E
  obtain ⟨hy1, hy2, hy3, hy4, hy5⟩ := hy
  have hrun := va_runS (p := p) (l := l) (e := e) (R := R) (s := s) (m := m) (args := args) (below := below) (meth := meth) (c := c) (H := H) (locs := locs) (cells := k) (slots := n) (As := as.map (cv (yz cs))) (rest := S.map (cv (yz cs))) (own := own) (n := N) (nL := nL) (Ts := BIG) (g := F0 m pc ls (st.map (cv (yz cs)))) (index := idx)
    ⟨hx, hb, hml, hown, hts⟩ (hM H.size) (ret := ret')
    ⟨callB_of (ws' := BIG) N hts (big_good hy2) rfl rfl rfl (hts _ hy1) (hts _ hlk) ⟨hy3, hy4, hy5⟩ ⟨hroom.1, hroom.2.1⟩, hts _ hi⟩
    ⟨PNw.blind, fun U hU hW => z_pre (as := as) hC hnC hP hD hS hA hX hG hU hW⟩ rfl (by simpa using hN) hl.1 (st_map hst)
    (lv_room (by rw [cat_sum]; exact hst8)) hd ⟨hroom.2.2.1, hroom.2.2.2⟩
  exact z_on hC hR hn hdis hA hP hD hS hl hrun kk
/-- a method that another class declares -/
theorem z_callU (E : EZ p s m args meth c G (yz cs) A cc own nL ret) {idx : Nat} {x y : MethodName} {owner C : String} {b : ByteArray} {maxL N ci NF q0 a : Nat} {T : u_T} {fs : List Value} {ret' : Option FieldType} {rm : Room} {as : List AV} {wc wr : va_W} {post : Option Value → va_W → Prop} {isC isR : List Nat} {st : List AV}
    (hM : NC l G y b maxL ret' rm cs (.inl (.ref a) :: as) wc post) (hy : MYo y b maxL ret' N) (hyx : y = ⟨owner, x.name, x.desc⟩) (how : owner ≠ "java/lang/invoke/MethodHandle" ∧ owner ≠ "java/lang/invoke/VarHandle") (hsm : Cond.sameMethod x.cls owner x.name x.desc ∈ BIG) (hsel : Cond.selects C x y ∈ BIG) (hi : Cond.instanceMethod y ∈ BIG) (hlk : Cond.methodLink own idx x ∈ BIG) (hq : ws[q0]? = some (a, .inr (ci, fs))) (hci : vwCl[ci]? = some (C, T, NF))
    (hC : isC.map (fun i => ws[i]?) = wc.map some) (hnC : va_nd isC = true) (hR : isR.map (fun i => ws[i]?) = wr.map some) (hn : va_nd isR = true) (hdis : ∀ i ∈ isR, i ∉ isC)
    (hN : as.length = N) (hst : as.reverse ++ .inl (.ref a) :: S = st) (hroom : rm.frames + 1 ≤ R.frames ∧ 8 + (maxL + 11) + rm.locals ≤ R.locals ∧ k + rm.cells ≤ R.cells ∧ n + rm.slots ≤ R.slots) (hst8 : (S.map fun v => if ac2 (some v) then 2 else 1).sum ≤ 8) (hd : decode cc pc = .ok (.invokevirtual idx, 3))
    (kk : ∀ r w2, post r w2 → WZ p l e R s m args below meth c G (yz cs) A nL Q (wr ++ w2) (k + rm.cells) (n + rm.slots) (pc + 3) L ((r.map Sum.inl).toList ++ S)) : WZ p l e R s m args below meth c G (yz cs) A nL Q ws k n pc L st := by
  intro H locs ls hP hD hS hl
  obtain ⟨hx, hb, hml, hown, hts, hr, hlk0, hG, hA, hX⟩ := E
  obtain ⟨hy1, hy2, hy3, hy4, hy5⟩ := hy
  have hgood : GoodIn BIG (va_wsU own idx C owner x y (.code y b maxL ret' :: BIG)) := good_big (by
    unfold va_wsU
    refine in_app (fun w hw => ?_) hy2
    simp only [List.mem_cons, List.not_mem_nil, or_false] at hw
    rcases hw with rfl | rfl | rfl | rfl | rfl
    · exact hlk
    · exact hsm
    · exact hsel
    · exact hi
    · exact hy1)
  have hpd : (parseMethodDescriptor x.desc).map (fun d => d.parameters.length) = some N := by
    have := hy5
    rw [hyx] at this
    exact this
  have hrcv := va_recv hG.2.1 hP hci hq
  have hrun := va_runU (p := p) (l := l) (e := e) (R := R) (s := s) (m := m) (args := args) (below := below) (meth := meth) (c := c) (H := H) (locs := locs) (cells := k) (slots := n) (b := a) (As := as.map (cv (yz cs))) (rest := S.map (cv (yz cs))) (own := own) (C := C) (n := N) (nL := nL) (Ts := BIG) (g := F0 m pc ls (st.map (cv (yz cs)))) (index := idx)
    ⟨hx, hb, hml, hown, hts⟩ (hM H.size) (va_cwU (ws' := BIG) N hts hgood rfl rfl rfl hyx ⟨how.1, how.2, hpd⟩ ⟨hroom.1, hroom.2.1⟩)
    ⟨PNw.blind, hrcv, fun U hU hW => z_pre (as := .inl (.ref a) :: as) hC hnC hP hD hS hA hX hG hU hW⟩ rfl (by simpa using hN) hl.1 (by
      show st.map (cv (yz cs)) = _
      rw [← hst, List.map_append, List.map_reverse]
      rfl)
    (lv_room (by rw [cat_sum]; exact hst8)) hd ⟨hroom.2.2.1, hroom.2.2.2⟩
  exact z_on hC hR hn hdis hA hP hD hS hl hrun kk
/-- the superclass's own -/
theorem z_callSU (E : EZ p s m args meth c G (yz cs) A cc own nL ret) {idx : Nat} {y : MethodName} {C : String} {b : ByteArray} {maxL N ci NF q0 a : Nat} {T : u_T} {fs : List Value} {ret' : Option FieldType} {rm : Room} {as : List AV} {wc wr : va_W} {post : Option Value → va_W → Prop} {isC isR : List Nat} {st : List AV}
    (hM : NC l G y b maxL ret' rm cs (.inl (.ref a) :: as) wc post) (hy : MYo y b maxL ret' N) (hno : y.name ≠ "<init>") (hsm : Cond.sameMethod y.cls y.cls y.name y.desc ∈ BIG) (hsu : Cond.superclass own y.cls ∈ BIG) (hi : Cond.instanceMethod y ∈ BIG) (hlk : Cond.methodLink own idx y ∈ BIG) (hq : ws[q0]? = some (a, .inr (ci, fs))) (hci : vwCl[ci]? = some (C, T, NF))
    (hC : isC.map (fun i => ws[i]?) = wc.map some) (hnC : va_nd isC = true) (hR : isR.map (fun i => ws[i]?) = wr.map some) (hn : va_nd isR = true) (hdis : ∀ i ∈ isR, i ∉ isC)
    (hN : as.length = N) (hst : as.reverse ++ .inl (.ref a) :: S = st) (hroom : rm.frames + 1 ≤ R.frames ∧ 8 + (maxL + 11) + rm.locals ≤ R.locals ∧ k + rm.cells ≤ R.cells ∧ n + rm.slots ≤ R.slots) (hst8 : (S.map fun v => if ac2 (some v) then 2 else 1).sum ≤ 8) (hd : decode cc pc = .ok (.invokespecial idx, 3))
    (kk : ∀ r w2, post r w2 → WZ p l e R s m args below meth c G (yz cs) A nL Q (wr ++ w2) (k + rm.cells) (n + rm.slots) (pc + 3) L ((r.map Sum.inl).toList ++ S)) : WZ p l e R s m args below meth c G (yz cs) A nL Q ws k n pc L st := by
  intro H locs ls hP hD hS hl
  obtain ⟨hx, hb, hml, hown, hts, hr, hlk0, hG, hA, hX⟩ := E
  obtain ⟨hy1, hy2, hy3, hy4, hy5⟩ := hy
  have hgood : GoodIn BIG (va_wsSU own idx y (.code y b maxL ret' :: BIG)) := good_big (by
    unfold va_wsSU
    refine in_app (fun w hw => ?_) hy2
    simp only [List.mem_cons, List.not_mem_nil, or_false] at hw
    rcases hw with rfl | rfl | rfl | rfl | rfl
    · exact hlk
    · exact hsm
    · exact hsu
    · exact hi
    · exact hy1)
  have hrcv := va_recv hG.2.1 hP hci hq
  have hrun := va_runSU (p := p) (l := l) (e := e) (R := R) (s := s) (m := m) (args := args) (below := below) (meth := meth) (c := c) (H := H) (locs := locs) (cells := k) (slots := n) (b := a) (As := as.map (cv (yz cs))) (rest := S.map (cv (yz cs))) (own := own) (C := C) (n := N) (nL := nL) (Ts := BIG) (g := F0 m pc ls (st.map (cv (yz cs)))) (index := idx)
    (hG.2.1.1 _ _ hci).2 ⟨hx, hb, hml, hown, hts⟩ (hM H.size) (va_cwSU (ws' := BIG) N hts hgood rfl rfl rfl ⟨hno, hy5⟩ ⟨hroom.1, hroom.2.1⟩)
    ⟨PNw.blind, hrcv, fun U hU hW => z_pre (as := .inl (.ref a) :: as) hC hnC hP hD hS hA hX hG hU hW⟩ rfl (by simpa using hN) hl.1 (by
      show st.map (cv (yz cs)) = _
      rw [← hst, List.map_append, List.map_reverse]
      rfl)
    (lv_room (by rw [cat_sum]; exact hst8)) hd ⟨hroom.2.2.1, hroom.2.2.2⟩
  exact z_on hC hR hn hdis hA hP hD hS hl hrun kk
end RZ2
