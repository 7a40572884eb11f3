/-! methods that may throw: 'XP E M': thrown is a new E, the modules then are M -/
def QX (G : GT) (Y : LV) (XP : String → Mem → Prop) : String → State → State → Prop := fun E st t => ∃ M' : Mem, XP E M' ∧ va_P G.1 vwCl (wl G Y M') t.heap ∧ va_F (AS Y st.heap.size) st t
def MCx (l : Launch) (G : GT) (y : MethodName) (b : ByteArray) (maxL : Nat) (ret : Option FieldType) (rm : Room) (ks : List Nat) (lk : Nat → Nat → Nat) (as : List AV) (M : Mem) (post : Option AV → Mem → Prop) (XP : String → Mem → Prop) : Prop :=
  ∀ (ad : Nat → Nat → Nat) (sz : Nat), vx_Met l y (.code y b maxL ret :: BIG) rm (PCm G (ks, lk, ad) as M sz) (QCm G (ks, lk, ad) post sz) (QX G (ks, lk, ad) XP) rm.cells rm.slots (AS (ks, lk, ad) sz)
theorem MCx.of {l : Launch} {G : GT} {y : MethodName} {b : ByteArray} {maxL : Nat} {ret : Option FieldType} {rm : Room} {ks : List Nat} {lk : Nat → Nat → Nat} {as : List AV} {M : Mem} {post : Option AV → Mem → Prop} {XP : String → Mem → Prop} (own : String) (L0 : List (Option AV)) (z : Nat)
    (hy : plainName y.cls = true) (ho : y.cls = own) (hL : entL as ++ List.replicate z none = L0) (hn : L0.length = maxL)
    (body : ∀ (p : Program) (e : Env) (s : State) (m : MethodId) (args : Array Value) (below : List Frame) (meth : Method) (c : Code) (ad : Nat → Nat → Nat), EN p s m args meth c G (ks, lk, ad) b own maxL ret → (∀ x ∈ c.exceptionTable.toList, False) → WM p l e rm s m args below meth c G (ks, lk, ad) maxL (vx_MQ below (QCm G (ks, lk, ad) post s.heap.size) (QX G (ks, lk, ad) XP) args s rm.cells rm.slots (AS (ks, lk, ad) s.heap.size)) M 0 0 0 L0 []) : MCx l G y b maxL ret rm ks lk as M post XP := by
  intro ad sz
  refine vx_ofW (cc := b) (maxL := maxL) (ret := ret) hy rfl ?_
  intro p e s m args below meth c s₁ B hml hnt hv
  obtain ⟨rfl, rfl, hP, hD, hG⟩ := hv
  have hts := atoms_spec (ws := .code y b maxL ret :: BIG) B.pre
  have hE : EN p s m (as.map (cv (ks, lk, ad))).toArray meth c G (ks, lk, ad) b own maxL ret := ⟨B.exec, B.bytes, hml, ho ▸ findClass_of_methodNamed B.named, fun w hw => hts w (List.mem_cons_of_mem _ hw), B.returns, B.notSynchronized, hG, hD⟩
  have hlen : (entL as).length + z = maxL := by rw [← hn, ← hL]; simp
  have hl := lv_entry (as.map (cv (ks, lk, ad))) (n := maxL) (by rw [lg_len]; omega)
  rw [lg_entry_eq]
  generalize (lg_sl (as.map (cv (ks, lk, ad))) ++ List.replicate (maxL - (lg_sl (as.map (cv (ks, lk, ad)))).length) Slot.unset).toArray = ls at hl ⊢
  have hl2 : lv_has ls maxL (lvl (ks, lk, ad) 0 L0) := by rw [← hL, lvl_ent]; exact hl
  exact body p e s m _ below meth c ad hE hnt s.heap [] ls hP va_S.rf hl2
theorem MCx.mono {l : Launch} {G : GT} {y : MethodName} {b : ByteArray} {maxL : Nat} {ret : Option FieldType} {rm : Room} {ks : List Nat} {lk : Nat → Nat → Nat} {as : List AV} {M : Mem} {post post' : Option AV → Mem → Prop} {XP XP' : String → Mem → Prop} (h : MCx l G y b maxL ret rm ks lk as M post XP) (hp : ∀ r M', post r M' → post' r M') (hx : ∀ E M', XP E M' → XP' E M') : MCx l G y b maxL ret rm ks lk as M post' XP' := by
  intro ad sz p e ha hc hk s m args below hf happ hP hK
  obtain ⟨n, o, h1, h2, h3, h4⟩ := h ad sz p e ha hc hk s m args below hf happ hP hK
  refine ⟨n, o, h1, h2, h3, ?_⟩
  rcases h4 with ⟨⟨⟨r, M', q1, q2, q3⟩, q4⟩, q5⟩ | ⟨q, ho, E, ce, L, ⟨M', x1, x2⟩, x3⟩
  · exact Or.inl ⟨⟨⟨r, M', q1, hp r M' q2, q3⟩, q4⟩, q5⟩
  · exact Or.inr ⟨q, ho, E, ce, L, ⟨M', hx E M' x1, x2⟩, x3⟩
/-- a method that throws nothing -/
theorem MCx.ofMC {l : Launch} {G : GT} {y : MethodName} {b : ByteArray} {maxL : Nat} {ret : Option FieldType} {rm : Room} {ks : List Nat} {lk : Nat → Nat → Nat} {as : List AV} {M : Mem} {post : Option AV → Mem → Prop} {XP : String → Mem → Prop} (h : MC l G y b maxL ret rm ks lk as M post) : MCx l G y b maxL ret rm ks lk as M post XP := by
  intro ad sz p e ha hc hk s m args below hf happ hP hK
  obtain ⟨n, o, h1, h2, h3, h4⟩ := h ad sz p e ha hc hk s m args below hf happ hP hK
  exact ⟨n, o, h1, h2, h3, Or.inl h4⟩
theorem va_P_kept {G : GT} {Y : LV} {M : Mem} {H H1 : Heap} (h : va_P G.1 vwCl (wl G Y M) H) (hq : ∀ q : Nat, q < H.size → H1[q]? = H[q]?) : va_P G.1 vwCl (wl G Y M) H1 := va_P_of fun x hx => (va_P_at h hx).kept (hq _ (va_P_at h hx).lt)
/-- the words of throwing an E in 'own' -/
def XW (own : String) (ik ic : Nat) (cls : String) : Prop := Bundle.fit cls = true ∧ (∀ w ∈ Cond.classLink own ik cls :: Cond.initialized cls :: vx_atS own ic cls ["java/lang/RuntimeException", "java/lang/Exception"], w ∈ lw_tbl ∧ (goodWord w || isNest w) = true) ∧ (∀ w ∈ Cond.classLink own ik cls :: Cond.initialized cls :: vx_atS own ic cls ["java/lang/RuntimeException", "java/lang/Exception"], vx_ot w = true)
section RX
variable {p : Program} {l : Launch} {e : Env} {R : Room} {s : State} {m : MethodId} {args : Array Value} {below : List Frame} {meth : Method} {c : Code} {G : GT} {Y : LV} {nL : Nat} {Q : State → Prop} {M : Mem} {k n pc : Nat} {L : List (Option AV)} {S : List AV} {cc : ByteArray} {own : String} {ret : Option FieldType}

theorem en_word (E : EN p s m args meth c G Y cc own nL ret) {w : Cond} (h : w ∈ lw_tbl ∧ (goodWord w || isNest w) = true) : w.before args s = true := by
  obtain ⟨hx, hb, hml, hown, hts, hr, hlk, ⟨hnw, hK, hX⟩, hD⟩ := E
  obtain ⟨h1, h2⟩ := h
  rw [Bool.or_eq_true] at h2
  rcases h2 with h2 | h2
  · exact hts w (List.mem_filter.mpr ⟨h1, h2⟩)
  · refine va_Nw.use ?_ (hnw w (List.mem_filter.mpr ⟨h1, h2⟩))
    cases w <;> first | rfl | (simp [isNest] at h2)
/-- a return of a method that may throw -/
theorem r_xq {Qc : Array Value → State → Outcome → State → Prop} {XC : String → State → State → Prop} {mc ms : Nat} {free : Addr → Prop} (kk : WM p l e R s m args below meth c G Y nL (MQ below Qc args s mc ms free) M k n pc L S) : WM p l e R s m args below meth c G Y nL (vx_MQ below Qc XC args s mc ms free) M k n pc L S := fun H locs ls hP hS hl => vx_ret (kk H locs ls hP hS hl)
theorem r_throw (E : EN p s m args meth c G Y cc own nL ret) {Qc : Array Value → State → Outcome → State → Prop} {XP : String → Mem → Prop} {mc ms ik is ic i : Nat} {cls : String} (hnt : ∀ x ∈ c.exceptionTable.toList, False) (hl : l.stackTraces = false) (hw : XW own ik ic cls) (hi : i < 14) (ho : JSo.getD i "" = own) (his : JSk.getD i 0 = is)
    (d0 : decode cc pc = .ok (.new ik, 3)) (d3 : decode cc (pc + 3) = .ok (.dup, 1)) (d4 : decode cc (pc + 4) = .ok (.ldc_w is, 3)) (d7 : decode cc (pc + 7) = .ok (.invokespecial ic, 3)) (d10 : decode cc (pc + 10) = .ok (.athrow, 1))
    (hR : 6 ≤ R.frames ∧ (S.map fun v => if ac2 (some v) then 2 else 1).sum + 82 ≤ R.locals ∧ k + 1 ≤ R.cells ∧ n + 6 ≤ R.slots) (hc : k + 1 ≤ mc) (hs : n + 6 ≤ ms) (hp : XP cls M) : WM p l e R s m args below meth c G Y nL (vx_MQ below Qc (QX G Y XP) args s mc ms (AS Y s.heap.size)) M k n pc L S := by
  intro H locs ls hP hS hls
  have E0 := E
  obtain ⟨hx, hb, hml, hown, hts, hr, hlk, ⟨hnw, hK, hX⟩, hD⟩ := E
  obtain ⟨w1, w2, w3⟩ := hw
  obtain ⟨z1, z2, z3, z4, z5, z6, z7, z8, -⟩ := hX.2.2
  subst ho; subst his
  refine vx_throwSW (names := ["java/lang/RuntimeException", "java/lang/Exception"]) (A := AS Y s.heap.size) hx hb hl hown w1 (by decide +kernel) (en_word E0 (w2 _ List.mem_cons_self)) (en_word E0 (w2 _ (List.mem_cons_of_mem _ List.mem_cons_self))) (hX.1 i hi).1 (fun w hw => en_word E0 (w2 w (List.mem_cons_of_mem _ (List.mem_cons_of_mem _ hw)))) w3 z7 z8 hS (hls.1.trans hml.symm) d0 d3 d4 d7 d10 (fun x hx => (hnt x hx).elim) (by show 2 + 3 < R.frames; omega) (by rw [cat_sum]; show _ + (13 * 3 + 43) ≤ _; omega) hR.2.2.1 hR.2.2.2 hlk (fun t ht hz hk => ?_) hS.2.2 hc hs
  exact ⟨M, hp, va_P_kept hP hk, Nat.le_trans hS.1 hz, fun q h1 h2 => (hk q (Nat.lt_of_lt_of_le h1 hS.1)).trans (hS.2.1 q h1 h2)⟩
/-- behind a call that returned or threw -/
theorem run_onX {Y2 : LV} {μ : List Nat} {post : Option AV → Mem → Prop} {XP : String → Mem → Prop} {mc ms : Nat} {H : Heap} {locs : List Loc} {ls : Array Slot} {st : List Value} {ks' : List Nat} {lk' : Nat → Nat → Nat} {a : Array Value} (hC : CM Y.1 Y.2.1 ks' lk' μ) (hD : va_D (AS Y s.heap.size) (wl G Y M)) (hP : va_P G.1 vwCl (wl G Y M) H) (hS : va_S (AS Y s.heap.size) s.heap H locs) (hl : lv_has ls nL (lvl Y 0 L))
    (hr : vx_Run p l e R s m args below meth c H locs k n mc ms (F0 m pc ls st) (S.map (cv Y)) (QCm G (cY Y ks' lk' μ) post H.size a) (QX G (cY Y ks' lk' μ) XP) (AS (cY Y ks' lk' μ) H.size))
    (kx : ∀ E M', XP E M' → ∃ M2, Mrg ks'.length μ M M' M2 ∧ ∀ (H1 : Heap) (locs1 : List Loc) (ce : Cell) (q : Addr), va_P G.1 vwCl (wl G Y M2) H1 → va_S (AS Y s.heap.size) s.heap H1 locs1 → H1[q]? = some ce → ce.vm = .none → s.vm.findClass E = some ce.cls → vx_W p l e R s m args below meth c H1 locs1 (k + mc) (n + ms) Q (F0 m pc ls (S.map (cv Y))) q)
    (kk : ∀ r M', post r M' → ∃ M2, Mrg ks'.length μ M M' M2 ∧ WM p l e R s m args below meth c G Y nL Q M2 (k + mc) (n + ms) (pc + 3) L ((r.map (ren μ)).toList ++ S)) : W p l e R s m args below meth c H locs k n Q (F0 m pc ls st) := by
  have keep : ∀ {M' M2 : Mem} {T' t st₀ : State} {Lw : List Loc}, Mrg ks'.length μ M M' M2 → st₀.heap = H → T'.heap = t.heap → (∀ z ∈ Lw, AS (cY Y ks' lk' μ) H.size z.base) → va_P G.1 vwCl (wl G (cY Y ks' lk' μ) M') t.heap → st₀.heap.size ≤ t.heap.size → (∀ q, q < st₀.heap.size → ¬ AS (cY Y ks' lk' μ) H.size q → t.heap[q]? = st₀.heap[q]?) → va_P G.1 vwCl (wl G Y M2) T'.heap ∧ va_S (AS Y s.heap.size) s.heap T'.heap (locs ++ Lw) := by
    intro M' M2 T' t st₀ Lw hM2 h0 e1 hLf hP' hz hk1
    rw [h0] at hz hk1
    refine ⟨call_post (s := s) hC hP hD hM2 (by rw [e1]; exact hP') (fun q h1 h2 => by rw [e1]; exact hk1 q h1 h2), Nat.le_trans hS.1 (by rw [e1]; exact hz), fun q h1 h2 => ?_, fun q hq => ?_⟩
    · rw [e1, hk1 q (Nat.lt_of_lt_of_le h1 hS.1) (fun h => h2 (AS_ren hC hS.1 h))]
      exact hS.2.1 q h1 h2
    · rcases List.mem_append.mp hq with h | h
      · exact hS.2.2 q h
      · exact AS_ren hC hS.1 (hLf q h)
  intro T hT X
  rcases hr T hT X with ⟨v, st₀, t, T', Lw, h0, X', hLf, e1, e2, ⟨⟨r, M', hv, hp, hP'⟩, hF⟩, go⟩ | ⟨q, st₀, t, T', Lw, E, ce, h0, X', hLf, e1, e2, ⟨M', hp, hP', hF⟩, hce, hcv, hcl, st9⟩
  · obtain ⟨M2, hM2, hk⟩ := kk r M' hp
    have hv2 : v = r.map (cv (cY Y ks' lk' μ)) := by injection hv
    have hst : v.toList ++ S.map (cv Y) = ((r.map (ren μ)).toList ++ S).map (cv Y) := by
      rw [hv2]
      cases r with
      | none => rfl
      | some r => rcases r with r | ⟨j, u⟩ <;> rfl
    obtain ⟨hPn, hSn⟩ := keep hM2 h0 e1 hLf hP' hF.1 hF.2
    obtain ⟨t2, a1, b1⟩ := hk T'.heap (locs ++ Lw) ls hPn hSn hl T' rfl X'
    rw [← hst] at a1
    exact ⟨t2, go t2 a1, b1⟩
  · obtain ⟨M2, hM2, hk⟩ := kx E M' hp
    obtain ⟨hPn, hSn⟩ := keep hM2 h0 e1 hLf hP' hF.1 (fun q h1 h2 => hF.2 q h1 (by rw [h0]; exact h2))
    obtain ⟨t2, a1, b1⟩ := hk T'.heap (locs ++ Lw) ce q hPn hSn (by rw [e1]; exact hce) hcv hcl T' rfl X'
    exact ⟨t2, st9.trans a1, b1⟩
theorem x_out {Qc : Array Value → State → Outcome → State → Prop} {XP : String → Mem → Prop} {mc ms : Nat} {H1 : Heap} {locs1 : List Loc} {ls : Array Slot} {st : List Value} {C : String} {ce : Cell} {q : Addr} {M2 : Mem} (hnt : ∀ x ∈ c.exceptionTable.toList, False) (hlk : meth.locks = false) (hP : va_P G.1 vwCl (wl G Y M2) H1) (hS : va_S (AS Y s.heap.size) s.heap H1 locs1) (hce : H1[q]? = some ce) (hv : ce.vm = .none) (hcl : s.vm.findClass C = some ce.cls) (hp : XP C M2) (hk : k ≤ mc) (hn : n ≤ ms) :
    vx_W p l e R s m args below meth c H1 locs1 k n (vx_MQ below Qc (QX G Y XP) args s mc ms (AS Y s.heap.size)) (F0 m pc ls st) q :=
  vx_out (fun x hx => (hnt x hx).elim) hlk hce hv hcl (fun t ht _ => ⟨M2, hp, by rw [ht]; exact hP, hS.F ht⟩) hS.2.2 hk hn
theorem r_callVX (E : EN p s m args meth c G Y cc own nL ret) {idx : Nat} {y : MethodName} {b : ByteArray} {maxL N : Nat} {ret' : Option FieldType} {rm : Room} {ks' : List Nat} {lk' : Nat → Nat → Nat} {as : List AV} {post : Option AV → Mem → Prop} {XP XP' : String → Mem → Prop} {Qc : Array Value → State → Outcome → State → Prop} {mc ms : Nat} {μ : List Nat} {st : List AV} {κ ci : Nat} {T : u_T} {NF : Nat} (hnt : ∀ x ∈ c.exceptionTable.toList, False)
    (hM : MCx l G y b maxL ret' rm ks' lk' (rv 0 0 :: as) (vw μ M) post XP) (hy : MYo y b maxL ret' N) (hi : Cond.instanceMethod y ∈ BIG ∧ Cond.selects y.cls y y ∈ BIG) (hlk : Cond.methodLink own idx y ∈ BIG) (hC : CM Y.1 Y.2.1 ks' lk' μ) (hκ : κ < 16 ∧ oc κ = some ci ∧ vwCl[ci]? = some (y.cls, T, NF)) (hkd : kdY Y (mu μ 0) = κ) (hok : okb Y (mu μ 0) 0 = true)
    (hN : as.length = N) (hst : (as.map (ren μ)).reverse ++ rv (mu μ 0) 0 :: S = st) (hroom : rm.frames + 1 ≤ R.frames ∧ 8 + (maxL + 11) + rm.locals ≤ R.locals ∧ k + rm.cells ≤ R.cells ∧ n + rm.slots ≤ R.slots) (hst8 : (S.map fun v => if ac2 (some v) then 2 else 1).sum ≤ 8) (hd : decode cc pc = .ok (.invokevirtual idx, 3)) (hmc : k + rm.cells ≤ mc) (hms : n + rm.slots ≤ ms)
    (kx : ∀ E M', XP E M' → ∃ M2, Mrg ks'.length μ M M' M2 ∧ XP' E M2)
    (kk : ∀ r M', post r M' → ∃ M2, Mrg ks'.length μ M M' M2 ∧ WM p l e R s m args below meth c G Y nL (vx_MQ below Qc (QX G Y XP') args s mc ms (AS Y s.heap.size)) M2 (k + rm.cells) (n + rm.slots) (pc + 3) L ((r.map (ren μ)).toList ++ S)) : WM p l e R s m args below meth c G Y nL (vx_MQ below Qc (QX G Y XP') args s mc ms (AS Y s.heap.size)) M k n pc L st := by
  intro H locs ls hP hS hl
  obtain ⟨hx, hb, hml, hown, hts, hr, hlk0, hG, hD⟩ := E
  obtain ⟨hy1, hy2, hy3, hy4, hy5⟩ := hy
  obtain ⟨q0, hq, hw⟩ := wl_at (G := G) (M := M) (okb_ok hok)
  rw [ob_ce hkd hκ.1 hκ.2.1] at hw
  have hrcv := va_recv hG.2.1 hP hκ.2.2 hw
  have hrun := vx_runV (p := p) (l := l) (e := e) (R := R) (s := s) (m := m) (args := args) (below := below) (meth := meth) (c := c) (H := H) (locs := locs) (cells := k) (slots := n) (As := as.map (cv (cY Y ks' lk' μ))) (rest := S.map (cv Y)) (b := Y.2.2 (mu μ 0) 0) (own := own) (C := y.cls) (n := N) (nL := nL) (Ts := BIG) (g := F0 m pc ls (st.map (cv Y))) (index := idx)
    ⟨hx, hb, hml, hown, hts⟩ (hM (fun j t => Y.2.2 (mu μ j) t) H.size) (ret := ret')
    ⟨callB_of (ws' := BIG) N hts (big_good hy2) rfl rfl rfl (hts _ hy1) (hts _ hlk) ⟨hy3, hy4, hy5⟩ ⟨hroom.1, hroom.2.1⟩, hts _ hi.1, hts _ hi.2⟩
    ⟨PCm.blind, hrcv, fun U hU hW => call_pre (as := rv 0 0 :: as) hC hP hS hG hD hU hW⟩ rfl (by simpa using hN) hl.1
    (by
      show st.map (cv Y) = _
      rw [← hst, List.map_append, List.map_reverse, List.map_map]
      congr 2
      refine List.map_congr_left (fun a _ => ?_)
      rcases a with v | ⟨j, u⟩ <;> rfl)
    (lv_room (by rw [cat_sum]; exact hst8)) hd ⟨hroom.2.2.1, hroom.2.2.2⟩
  exact run_onX (Y2 := Y) hC (hD M) hP hS hl hrun (fun E M' hp => by
    obtain ⟨M2, g1, g2⟩ := kx E M' hp
    exact ⟨M2, g1, fun H1 locs1 ce q a1 a2 a3 a4 a5 => x_out hnt hlk0 a1 a2 a3 a4 a5 g2 hmc hms⟩) kk
theorem r_callSX (E : EN p s m args meth c G Y cc own nL ret) {idx : Nat} {y : MethodName} {b : ByteArray} {maxL N : Nat} {ret' : Option FieldType} {rm : Room} {ks' : List Nat} {lk' : Nat → Nat → Nat} {as : List AV} {post : Option AV → Mem → Prop} {XP XP' : String → Mem → Prop} {Qc : Array Value → State → Outcome → State → Prop} {mc ms : Nat} {μ : List Nat} {st : List AV} (hnt : ∀ x ∈ c.exceptionTable.toList, False)
    (hM : MCx l G y b maxL ret' rm ks' lk' as (vw μ M) post XP) (hy : MYo y b maxL ret' N) (hi : Cond.static y ∈ BIG) (hlk : Cond.methodLink own idx y ∈ BIG) (hC : CM Y.1 Y.2.1 ks' lk' μ)
    (hN : as.length = N) (hst : (as.map (ren μ)).reverse ++ S = st) (hroom : rm.frames + 1 ≤ R.frames ∧ 8 + (maxL + 11) + rm.locals ≤ R.locals ∧ k + rm.cells ≤ R.cells ∧ n + rm.slots ≤ R.slots) (hst8 : (S.map fun v => if ac2 (some v) then 2 else 1).sum ≤ 8) (hd : decode cc pc = .ok (.invokestatic idx, 3)) (hmc : k + rm.cells ≤ mc) (hms : n + rm.slots ≤ ms)
    (kx : ∀ E M', XP E M' → ∃ M2, Mrg ks'.length μ M M' M2 ∧ XP' E M2)
    (kk : ∀ r M', post r M' → ∃ M2, Mrg ks'.length μ M M' M2 ∧ WM p l e R s m args below meth c G Y nL (vx_MQ below Qc (QX G Y XP') args s mc ms (AS Y s.heap.size)) M2 (k + rm.cells) (n + rm.slots) (pc + 3) L ((r.map (ren μ)).toList ++ S)) : WM p l e R s m args below meth c G Y nL (vx_MQ below Qc (QX G Y XP') args s mc ms (AS Y s.heap.size)) M k n pc L st := by
  intro H locs ls hP hS hl
  obtain ⟨hx, hb, hml, hown, hts, hr, hlk0, hG, hD⟩ := E
  obtain ⟨hy1, hy2, hy3, hy4, hy5⟩ := hy
  have hrun := vx_runS (p := p) (l := l) (e := e) (R := R) (s := s) (m := m) (args := args) (below := below) (meth := meth) (c := c) (H := H) (locs := locs) (cells := k) (slots := n) (As := as.map (cv (cY Y ks' lk' μ))) (rest := S.map (cv Y)) (own := own) (n := N) (nL := nL) (Ts := BIG) (g := F0 m pc ls (st.map (cv Y))) (index := idx)
    ⟨hx, hb, hml, hown, hts⟩ (hM (fun j t => Y.2.2 (mu μ j) t) H.size) (ret := ret')
    ⟨callB_of (ws' := BIG) N hts (big_good hy2) rfl rfl rfl (hts _ hy1) (hts _ hlk) ⟨hy3, hy4, hy5⟩ ⟨hroom.1, hroom.2.1⟩, hts _ hi⟩
    ⟨PCm.blind, fun U hU hW => call_pre (as := as) hC hP hS hG hD hU hW⟩ rfl (by simpa using hN) hl.1
    (by
      show st.map (cv Y) = _
      rw [← hst, List.map_append, List.map_reverse, List.map_map]
      congr 2
      refine List.map_congr_left (fun a _ => ?_)
      rcases a with v | ⟨j, u⟩ <;> rfl)
    (lv_room (by rw [cat_sum]; exact hst8)) hd ⟨hroom.2.2.1, hroom.2.2.2⟩
  exact run_onX (Y2 := Y) hC (hD M) hP hS hl hrun (fun E M' hp => by
    obtain ⟨M2, g1, g2⟩ := kx E M' hp
    exact ⟨M2, g1, fun H1 locs1 ce q a1 a2 a3 a4 a5 => x_out hnt hlk0 a1 a2 a3 a4 a5 g2 hmc hms⟩) kk
end RX
theorem xw_oob : XW RX9 310 314 "java/lang/IndexOutOfBoundsException" := ⟨by decide +kernel, by decide +kernel, by decide +kernel⟩
theorem xw_arg : XW RX9 334 338 "java/lang/IllegalArgumentException" := ⟨by decide +kernel, by decide +kernel, by decide +kernel⟩
theorem xw_ste : XW RX9 339 343 "java/lang/IllegalStateException" := ⟨by decide +kernel, by decide +kernel, by decide +kernel⟩
