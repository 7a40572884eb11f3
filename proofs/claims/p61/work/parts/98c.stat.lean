/-! the law's static methods: they call a method of the class and catch -/
theorem cm_nil0 {ks : List Nat} {lk : Nat → Nat → Nat} {ks' : List Nat} (h : ∀ j, j < ks'.length → j < ks.length ∧ ks'.getD j 0 = ks.getD j 0) : CM ks lk ks' lk [] := by
  have hm : ∀ j, mu [] j = j := fun j => rfl
  exact ⟨by simp, fun j hj => h j hj, fun i j _ _ h => h, fun j _ _ i _ => rfl, fun j _ _ => ⟨rfl, rfl⟩⟩
/-- the class and the law's city -/
abbrev KL : List Nat := [8, 3, 4, 1, 1, 1, 7, 1, 1, 1, 1, 1, 1, 1, 1, 5, 6, 2, 2, 9]
theorem cm_KL : CM KL lkC KC lkC [] := cm_nil0 (by decide)
theorem MC.ofX {l : Launch} {G : GT} {y : MethodName} {b : ByteArray} {maxL : Nat} {ret : Option FieldType} {rm : Room} {ks : List Nat} {lk : Nat → Nat → Nat} {as : List AV} {M : Mem} {post : Option AV → Mem → Prop} {XP : String → Mem → Prop} (h : MCx l G y b maxL ret rm ks lk as M post XP) (hx : ∀ E M', ¬ XP E M') : MC l G y b maxL ret rm ks lk as M post := by
  intro ad sz p e ha hc hk s m args below hf happ hP hK
  obtain ⟨n, o, h1, h2, h3, h4⟩ := h ad sz p e ha hc hk s m args below hf happ hP hK
  refine ⟨n, o, h1, h2, h3, ?_⟩
  rcases h4 with h5 | ⟨q, ho, E, ce, L, ⟨M', x1, x2⟩, x3⟩
  · exact h5
  · exact absurd x1 (hx E M')
def MCw (l : Launch) (G : GT) (y : MethodName) (b : ByteArray) (maxL : Nat) (ret : Option FieldType) (hh : List (Nat × Nat × Nat × Nat)) (rm : Room) (ks : List Nat) (lk : Nat → Nat → Nat) (as : List AV) (M : Mem) (post : Option AV → Mem → Prop) : Prop :=
  ∀ (ad : Nat → Nat → Nat) (sz : Nat), Met l y (.codeWith y b maxL ret hh :: BIG) rm (PCm G (ks, lk, ad) as M sz) (QCm G (ks, lk, ad) post sz) rm.cells rm.slots (AS (ks, lk, ad) sz)
theorem MCw.of {l : Launch} {G : GT} {y : MethodName} {b : ByteArray} {maxL : Nat} {ret : Option FieldType} {hh : List (Nat × Nat × Nat × Nat)} {rm : Room} {ks : List Nat} {lk : Nat → Nat → Nat} {as : List AV} {M : Mem} {post : Option AV → Mem → Prop} (own : String) (L0 : List (Option AV)) (z : Nat)
    (hy : plainName y.cls = true) (ho : y.cls = own) (hL : entL as ++ List.replicate z none = L0) (hn : L0.length = maxL)
    (body : ∀ (p : Program) (e : Env) (s : State) (m : MethodId) (args : Array Value) (below : List Frame) (meth : Method) (c : Code) (ad : Nat → Nat → Nat), EN p s m args meth c G (ks, lk, ad) b own maxL ret → c.exceptionTable.toList = tableOf hh → WM p l e rm s m args below meth c G (ks, lk, ad) maxL (MQ below (QCm G (ks, lk, ad) post s.heap.size) args s rm.cells rm.slots (AS (ks, lk, ad) s.heap.size)) M 0 0 0 L0 []) : MCw l G y b maxL ret hh rm ks lk as M post := by
  intro ad sz
  refine MetFree.of_bodyS (code := b) (maxLocals := maxL) (ret := ret) hy ?_ ?_
  · intro args s m h hn
    obtain ⟨m9, meth, c, hn9, h1, h2, h3, h4, -, h5, h6, -⟩ := Cond.codeWith_spec (atoms_spec (ws := .codeWith y b maxL ret hh :: BIG) h _ List.mem_cons_self)
    cases hn.symm.trans hn9
    exact ⟨meth, c, h1, h2, h3, h4, h5, h6⟩
  · intro p e s m args below meth c s₁ B hml hv _
    obtain ⟨rfl, rfl, hP, hD, hG⟩ := hv
    have hts := atoms_spec (ws := .codeWith y b maxL ret hh :: BIG) B.pre
    have htab : c.exceptionTable.toList = tableOf hh := vx_table (x := y) B (hts _ List.mem_cons_self)
    have hE : EN p s m (as.map (cv (ks, lk, ad))).toArray meth c G (ks, lk, ad) b own maxL ret := ⟨B.exec, B.bytes, hml, ho ▸ findClass_of_methodNamed B.named, fun w hw => hts w (List.mem_cons_of_mem _ hw), B.returns, B.notSynchronized, hG, hD⟩
    have hlen : (entL as).length + z = maxL := by rw [← hn, ← hL]; simp
    have hl := lv_entry (as.map (cv (ks, lk, ad))) (n := maxL) (by rw [lg_len]; omega)
    have hh0 : s₁.heap = s.heap := by rw [B.state]; rfl
    have key : W p l e rm s m (as.map (cv (ks, lk, ad))).toArray below meth c s.heap [] 0 0 (MQ below (QCm G (ks, lk, ad) post s.heap.size) (as.map (cv (ks, lk, ad))).toArray s rm.cells rm.slots (AS (ks, lk, ad) s.heap.size)) (entryFrame m (as.map (cv (ks, lk, ad))).toArray maxL) := by
      rw [lg_entry_eq]
      generalize (lg_sl (as.map (cv (ks, lk, ad))) ++ List.replicate (maxL - (lg_sl (as.map (cv (ks, lk, ad)))).length) Slot.unset).toArray = ls at hl ⊢
      have hl2 : lv_has ls maxL (lvl (ks, lk, ad) 0 L0) := by rw [← hL, lvl_ent]; exact hl
      exact body p e s m _ below meth c ad hE htab s.heap [] ls hP va_S.rf hl2
    obtain ⟨t, a1, o, b1, b2, b3⟩ := key s₁ hh0 (Stand.of_body B)
    exact ⟨t, o, a1, b1, b2, b3⟩
section RS9
variable {p : Program} {l : Launch} {e : Env} {R : Room} {s : State} {m : MethodId} {args : Array Value} {below : List Frame} {meth : Method} {c : Code} {G : GT} {Y : LV} {nL : Nat} {Q : State → Prop} {M : Mem} {k n pc : Nat} {L : List (Option AV)} {S : List AV} {cc : ByteArray} {own : String} {ret : Option FieldType}
/-- a reference that is no module's is stored -/
theorem r_astX (E : EN p s m args meth c G Y cc own nL ret) {a : Fin 4} {i q : Nat} {L2 : List (Option AV)} (hd : decode cc pc = .ok (.astore_n a, 1)) (ha : (a : Nat) = i) (hi : i < L.length) (hn : L.length = nL) (hc : ∀ z, z + 1 = i → ac2 ((L[z]?).getD none) = false) (hL : L.set i (some (.inl (.ref q))) = L2) (kk : WM p l e R s m args below meth c G Y nL Q M k n (pc + 1) L2 S) : WM p l e R s m args below meth c G Y nL Q M k n pc L (.inl (.ref q) :: S) := fun H locs ls hP hS hl => lv_astore_n E.1 E.2.1 hd ha hl (hn ▸ hi) rfl (fun ls2 hl2 => kk H locs ls2 hP hS (hL ▸ lvl_set rfl hi hc hl2))
theorem r_astX4 (E : EN p s m args meth c G Y cc own nL ret) {i q : Nat} {L2 : List (Option AV)} (hd : decode cc pc = .ok (.astore i, 2)) (hi : i < L.length) (hn : L.length = nL) (hc : ∀ z, z + 1 = i → ac2 ((L[z]?).getD none) = false) (hL : L.set i (some (.inl (.ref q))) = L2) (kk : WM p l e R s m args below meth c G Y nL Q M k n (pc + 2) L2 S) : WM p l e R s m args below meth c G Y nL Q M k n pc L (.inl (.ref q) :: S) := fun H locs ls hP hS hl => lv_astore E.1 E.2.1 hd hl (hn ▸ hi) rfl (fun ls2 hl2 => kk H locs ls2 hP hS (hL ▸ lvl_set rfl hi hc hl2))
/-- a handler of the table takes an exception of class Ex -/
def HD (s : State) (own : String) (tbl : List ExceptionTableEntry) (pc : Nat) (Ex : String) (tgt : Nat) : Prop :=
  ∃ (pre : List ExceptionTableEntry) (x : ExceptionTableEntry) (suf : List ExceptionTableEntry) (name : String), tbl = pre ++ x :: suf ∧ (∀ z ∈ pre, covers z pc = false ∨ (z.catchType ≠ 0 ∧ ∃ nm : String, Cond.classLink own z.catchType nm ∈ BIG ∧ va_Nc Ex nm s)) ∧ covers x pc = true ∧ x.catchType ≠ 0 ∧ Cond.classLink own x.catchType name ∈ BIG ∧ Cond.castable Ex name ∈ NW ∧ x.handlerPc = tgt
theorem r_callVC (E : EN p s m args meth c G Y cc own nL ret) {idx : Nat} {y : MethodName} {b : ByteArray} {maxL N : Nat} {ret' : Option FieldType} {rm : Room} {ks' : List Nat} {lk' : Nat → Nat → Nat} {as : List AV} {post : Option AV → Mem → Prop} {XP : String → Mem → Prop} {μ : List Nat} {st : List AV} {κ ci : Nat} {T : u_T} {NF : Nat} {tbl : List ExceptionTableEntry} (htab : c.exceptionTable.toList = tbl)
    (hM : MCx l G y b maxL ret' rm ks' lk' (rv 0 0 :: as) (vw μ M) post XP) (hy : MYo y b maxL ret' N) (hi : Cond.instanceMethod y ∈ BIG ∧ Cond.selects y.cls y y ∈ BIG) (hlk : Cond.methodLink own idx y ∈ BIG) (hC : CM Y.1 Y.2.1 ks' lk' μ) (hκ : κ < 16 ∧ oc κ = some ci ∧ vwCl[ci]? = some (y.cls, T, NF)) (hkd : kdY Y (mu μ 0) = κ) (hok : okb Y (mu μ 0) 0 = true)
    (hN : as.length = N) (hst : (as.map (ren μ)).reverse ++ rv (mu μ 0) 0 :: S = st) (hroom : rm.frames + 1 ≤ R.frames ∧ 8 + (maxL + 11) + rm.locals ≤ R.locals ∧ k + rm.cells ≤ R.cells ∧ n + rm.slots ≤ R.slots) (hst8 : (S.map fun v => if ac2 (some v) then 2 else 1).sum ≤ 8) (hd : decode cc pc = .ok (.invokevirtual idx, 3))
    (kx : ∀ Ex M', XP Ex M' → ∃ M2, Mrg ks'.length μ M M' M2 ∧ ∃ tgt, HD s own tbl pc Ex tgt ∧ ∀ q : Nat, WM p l e R s m args below meth c G Y nL Q M2 (k + rm.cells) (n + rm.slots) tgt L [.inl (.ref q)])
    (kk : ∀ r M', post r M' → ∃ M2, Mrg ks'.length μ M M' M2 ∧ WM p l e R s m args below meth c G Y nL Q M2 (k + rm.cells) (n + rm.slots) (pc + 3) L ((r.map (ren μ)).toList ++ S)) : WM p l e R s m args below meth c G Y nL Q M k n pc L st := by
  intro H locs ls hP hS hl
  have E0 := E
  obtain ⟨hx, hb, hml, hown, hts, hr, hlk0, hG, hD⟩ := E
  obtain ⟨hy1, hy2, hy3, hy4, hy5⟩ := hy
  obtain ⟨q0, hq, hw⟩ := wl_at (G := G) (M := M) (okb_ok hok)
  rw [ob_ce hkd hκ.1 hκ.2.1] at hw
  have hrcv := va_recv hG.2.1 hP hκ.2.2 hw
  have hrun := vx_runV (p := p) (l := l) (e := e) (R := R) (s := s) (m := m) (args := args) (below := below) (meth := meth) (c := c) (H := H) (locs := locs) (cells := k) (slots := n) (As := as.map (cv (cY Y ks' lk' μ))) (rest := S.map (cv Y)) (b := Y.2.2 (mu μ 0) 0) (own := own) (C := y.cls) (n := N) (nL := nL) (Ts := BIG) (g := F0 m pc ls (st.map (cv Y))) (index := idx)
    ⟨hx, hb, hml, hown, hts⟩ (hM (fun j t => Y.2.2 (mu μ j) t) H.size) (ret := ret')
    ⟨callB_of (ws' := BIG) N hts (big_good hy2) rfl rfl rfl (hts _ hy1) (hts _ hlk) ⟨hy3, hy4, hy5⟩ ⟨hroom.1, hroom.2.1⟩, hts _ hi.1, hts _ hi.2⟩
    ⟨PCm.blind, hrcv, fun U hU hW => call_pre (as := rv 0 0 :: as) hC hP hS hG hD hU hW⟩ rfl (by simpa using hN) hl.1
    (by
      show st.map (cv Y) = _
      rw [← hst, List.map_append, List.map_reverse, List.map_map]
      congr 2
      refine List.map_congr_left (fun a _ => ?_)
      rcases a with v | ⟨j, u⟩ <;> rfl)
    (lv_room (by rw [cat_sum]; exact hst8)) hd ⟨hroom.2.2.1, hroom.2.2.2⟩
  refine run_onX (Y2 := Y) hC (hD M) hP hS hl hrun (fun Ex M' hp => ?_) kk
  obtain ⟨M2, g1, tgt, ⟨pre, x, suf, name, h1, h2, h3, h4, h5, h6, rfl⟩, g2⟩ := kx Ex M' hp
  refine ⟨M2, g1, fun H1 locs1 ce q a1 a2 a3 a4 a5 => ?_⟩
  refine vx_catch (E := Ex) (name := name) hown pre x suf (htab.trans h1) (fun z hz => ?_) h3 h4 (hts _ h5) (va_Nw.use rfl (hG.1 _ h6)) a3 a4 a5 ?_
  · rcases h2 z hz with h | ⟨h7, nm, h8, h9⟩
    · exact Or.inl h
    · exact Or.inr ⟨h7, nm, hts _ h8, h9⟩
  · exact g2 q H1 locs1 ls a1 a2 hl
/-- a static method with a table is called -/
theorem r_callSW (E : EN p s m args meth c G Y cc own nL ret) {idx : Nat} {y : MethodName} {b : ByteArray} {maxL N : Nat} {ret' : Option FieldType} {hh : List (Nat × Nat × Nat × Nat)} {rm : Room} {ks' : List Nat} {lk' : Nat → Nat → Nat} {as : List AV} {post : Option AV → Mem → Prop} {μ : List Nat} {st : List AV}
    (hM : MCw l G y b maxL ret' hh rm ks' lk' as (vw μ M) post) (hini : Cond.initialized y.cls ∈ BIG) (hcw : Cond.codeWith y b maxL ret' hh ∈ BIG) (hy : y.cls ≠ "java/lang/invoke/MethodHandle" ∧ y.cls ≠ "java/lang/invoke/VarHandle" ∧ (parseMethodDescriptor y.desc).map (fun d => d.parameters.length) = some N) (hi : Cond.static y ∈ BIG) (hlk : Cond.methodLink own idx y ∈ BIG) (hC : CM Y.1 Y.2.1 ks' lk' μ)
    (hN : as.length = N) (hst : (as.map (ren μ)).reverse ++ S = st) (hroom : rm.frames + 1 ≤ R.frames ∧ 8 + (maxL + 11) + rm.locals ≤ R.locals ∧ k + rm.cells ≤ R.cells ∧ n + rm.slots ≤ R.slots) (hst8 : (S.map fun v => if ac2 (some v) then 2 else 1).sum ≤ 8) (hd : decode cc pc = .ok (.invokestatic idx, 3))
    (kk : ∀ r M', post r M' → ∃ M2, Mrg ks'.length μ M M' M2 ∧ WM p l e R s m args below meth c G Y nL Q M2 (k + rm.cells) (n + rm.slots) (pc + 3) L ((r.map (ren μ)).toList ++ S)) : WM p l e R s m args below meth c G Y nL Q M k n pc L st := by
  intro H locs ls hP hS hl
  obtain ⟨hx, hb, hml, hown, hts, hr, hlk0, hG, hD⟩ := E
  have hgood : GoodIn BIG (va_wsS own idx y (Cond.codeWith y b maxL ret' hh :: BIG)) := by
    intro w hw
    have hb : w ∈ BIG := by
      unfold va_wsS at hw
      rcases List.mem_append.mp hw with h | h
      · rcases List.mem_cons.mp h with rfl | h
        · exact hlk
        · rcases List.mem_cons.mp h with rfl | h
          · exact hi
          · rcases List.mem_cons.mp h with rfl | h
            · exact hini
            · cases h
      · exact (List.mem_cons.mp h).elim (fun e => e ▸ hcw) id
    exact ⟨hb, good_of_word (List.mem_filter.mp hb).2⟩
  have hrun := vx_runSW (p := p) (l := l) (e := e) (R := R) (s := s) (m := m) (args := args) (below := below) (meth := meth) (c := c) (H := H) (locs := locs) (cells := k) (slots := n) (As := as.map (cv (cY Y ks' lk' μ))) (rest := S.map (cv Y)) (own := own) (n := N) (nL := nL) (Ts := BIG) (g := F0 m pc ls (st.map (cv Y))) (index := idx)
    ⟨hx, hb, hml, hown, hts⟩ (hM (fun j t => Y.2.2 (mu μ j) t) H.size) (ret := ret')
    (vx_cwSW (ws' := BIG) N hts hgood rfl rfl rfl hy ⟨hroom.1, hroom.2.1⟩)
    ⟨PCm.blind, fun U hU hW => call_pre (as := as) hC hP hS hG hD hU hW⟩ rfl (by simpa using hN) hl.1
    (by
      show st.map (cv Y) = _
      rw [← hst, List.map_append, List.map_reverse, List.map_map]
      congr 2
      refine List.map_congr_left (fun a _ => ?_)
      rcases a with v | ⟨j, u⟩ <;> rfl)
    (lv_room (by rw [cat_sum]; exact hst8)) hd ⟨hroom.2.2.1, hroom.2.2.2⟩
  exact run_on (Y2 := Y) hC (hD M) hP hS hl hrun kk
end RS9

theorem cl_L_141 : Cond.classLink "PuddleCityLaw" 141 "java/lang/IllegalStateException" ∈ BIG := bg_4 78 (by decide +kernel)
theorem ca_ste : Cond.castable "java/lang/IllegalStateException" "java/lang/IllegalStateException" ∈ NW := nw_3 227 (by decide +kernel)
theorem cw_ref : Cond.codeWith yL_isRefused cL_isRefused 5 (some .boolean) [(0, 49, 50, 141)] ∈ BIG := bg_4 77 ⟨rfl, rfl⟩
theorem st_ref : Cond.static yL_isRefused ∈ BIG := bg_4 76 (by decide +kernel)
set_option maxHeartbeats 4000000 in
theorem sp_L_ref0 (l : Launch) (G : GT) (a b : Int32) (M : Mem) (hM : MCx l G yX9_burst cX9_burst 4 (some .int) ({ frames := 7, cells := 16, slots := 96, locals := 104 } : Room) KC lkC [rv 0 0, iv a, iv 1, iv 1] M (fun _ _ => False) (fun E M2 => E = steN ∧ M2 = M)) : MCw l G yL_isRefused cL_isRefused 5 (some .boolean) [(0, 49, 50, 141)] ({ frames := 8, cells := 16, slots := 96, locals := 127 } : Room) KC lkC [rv 0 0, iv (nI 0), iv a, iv b] M (fun r M2 => r = some (iv 1) ∧ M2 = M) := by
  refine MCw.of RL [some (rv 0 0), some (iv (nI 0)), some (iv a), some (iv b), none] 1 (by decide +kernel) rfl rfl rfl ?_
  intro pp ee ss mm aa bb me cd ad E htab
  refine r_iload_n E (dat dkL_isRefused 0 rfl) rfl rfl ?_
  refine r_if_ne (tgt := 14) E (dat dkL_isRefused 1 rfl) rfl (fun h => absurd rfl h) (fun h => ?_)
  refine r_aload_n E (dat dkL_isRefused 2 rfl) rfl rfl ?_
  refine r_iload_n E (dat dkL_isRefused 3 rfl) rfl rfl ?_
  refine r_iconst (v := 1) E (dat dkL_isRefused 4 rfl) rfl ?_
  refine r_iconst (v := 1) E (dat dkL_isRefused 5 rfl) rfl ?_
  refine r_callVC (κ := 8) (μ := []) E (htab.trans rfl) hM my_X9_burst iv_X9_burst ml_L_128 cm_id ⟨by decide, rfl, rfl⟩ rfl rfl rfl rfl (by decide) (Nat.le_of_ble_eq_true rfl) (dat dkL_isRefused 6 rfl) ?_ ?_
  · rintro Ex M' ⟨rfl, rfl⟩
    refine ⟨_, Mrg_0, 50, ⟨[], ⟨0, 49, 50, 141⟩, [], "java/lang/IllegalStateException", rfl, (fun z hz => (nomatch hz)), rfl, by decide, cl_L_141, ca_ste, rfl⟩, fun q => ?_⟩
    refine r_astX4 (i := 4) E (dat dkL_isRefused 29 rfl) (Nat.le_of_ble_eq_true rfl) rfl (hc_of 3 rfl rfl) rfl ?_
    refine r_iconst (v := 1) E (dat dkL_isRefused 30 rfl) rfl ?_
    exact r_zreturn E (dat dkL_isRefused 31 rfl) rfl (by decide) (by decide) ⟨rfl, rfl⟩
  · intro r M' hp
    exact hp.elim
set_option maxHeartbeats 4000000 in
theorem sp_L_ref1 (l : Launch) (G : GT) (a b : Int32) (M : Mem) (hM : MCx l G yX9_shut cX9_shut 2 (some .int) ({ frames := 7, cells := 6, slots := 36, locals := 103 } : Room) KC lkC [rv 0 0, iv a] M (fun _ _ => False) (fun E M2 => E = steN ∧ M2 = M)) : MCw l G yL_isRefused cL_isRefused 5 (some .boolean) [(0, 49, 50, 141)] ({ frames := 8, cells := 16, slots := 96, locals := 127 } : Room) KC lkC [rv 0 0, iv (nI 1), iv a, iv b] M (fun r M2 => r = some (iv 1) ∧ M2 = M) := by
  refine MCw.of RL [some (rv 0 0), some (iv (nI 1)), some (iv a), some (iv b), none] 1 (by decide +kernel) rfl rfl rfl ?_
  intro pp ee ss mm aa bb me cd ad E htab
  refine r_iload_n E (dat dkL_isRefused 0 rfl) rfl rfl ?_
  refine r_if_ne (tgt := 14) E (dat dkL_isRefused 1 rfl) rfl (fun h => ?_) (fun h => absurd h (by decide))
  refine r_iload_n E (dat dkL_isRefused 8 rfl) rfl rfl ?_
  refine r_iconst (v := 1) E (dat dkL_isRefused 9 rfl) rfl ?_
  refine r_icmp_ne (tgt := 27) E (dat dkL_isRefused 10 rfl) rfl (fun h => absurd rfl h) (fun h => ?_)
  refine r_aload_n E (dat dkL_isRefused 11 rfl) rfl rfl ?_
  refine r_iload_n E (dat dkL_isRefused 12 rfl) rfl rfl ?_
  refine r_callVC (κ := 8) (μ := []) E (htab.trans rfl) hM my_X9_shut iv_X9_shut ml_L_132 cm_id ⟨by decide, rfl, rfl⟩ rfl rfl rfl rfl (by decide) (Nat.le_of_ble_eq_true rfl) (dat dkL_isRefused 13 rfl) ?_ ?_
  · rintro Ex M' ⟨rfl, rfl⟩
    refine ⟨_, Mrg_0, 50, ⟨[], ⟨0, 49, 50, 141⟩, [], "java/lang/IllegalStateException", rfl, (fun z hz => (nomatch hz)), rfl, by decide, cl_L_141, ca_ste, rfl⟩, fun q => ?_⟩
    refine r_astX4 (i := 4) E (dat dkL_isRefused 29 rfl) (Nat.le_of_ble_eq_true rfl) rfl (hc_of 3 rfl rfl) rfl ?_
    refine r_iconst (v := 1) E (dat dkL_isRefused 30 rfl) rfl ?_
    exact r_zreturn E (dat dkL_isRefused 31 rfl) rfl (by decide) (by decide) ⟨rfl, rfl⟩
  · intro r M' hp
    exact hp.elim
set_option maxHeartbeats 4000000 in
theorem sp_L_ref2 (l : Launch) (G : GT) (a b : Int32) (M : Mem) (hM : MCx l G yX9_walk cX9_walk 3 (some .int) ({ frames := 7, cells := 14, slots := 84, locals := 104 } : Room) KC lkC [rv 0 0, iv a, iv b] M (fun _ _ => False) (fun E M2 => E = steN ∧ M2 = M)) : MCw l G yL_isRefused cL_isRefused 5 (some .boolean) [(0, 49, 50, 141)] ({ frames := 8, cells := 16, slots := 96, locals := 127 } : Room) KC lkC [rv 0 0, iv (nI 2), iv a, iv b] M (fun r M2 => r = some (iv 1) ∧ M2 = M) := by
  refine MCw.of RL [some (rv 0 0), some (iv (nI 2)), some (iv a), some (iv b), none] 1 (by decide +kernel) rfl rfl rfl ?_
  intro pp ee ss mm aa bb me cd ad E htab
  refine r_iload_n E (dat dkL_isRefused 0 rfl) rfl rfl ?_
  refine r_if_ne (tgt := 14) E (dat dkL_isRefused 1 rfl) rfl (fun h => ?_) (fun h => absurd h (by decide))
  refine r_iload_n E (dat dkL_isRefused 8 rfl) rfl rfl ?_
  refine r_iconst (v := 1) E (dat dkL_isRefused 9 rfl) rfl ?_
  refine r_icmp_ne (tgt := 27) E (dat dkL_isRefused 10 rfl) rfl (fun h => ?_) (fun h => absurd h (by decide))
  refine r_iload_n E (dat dkL_isRefused 15 rfl) rfl rfl ?_
  refine r_iconst (v := 2) E (dat dkL_isRefused 16 rfl) rfl ?_
  refine r_icmp_ne (tgt := 41) E (dat dkL_isRefused 17 rfl) rfl (fun h => absurd rfl h) (fun h => ?_)
  refine r_aload_n E (dat dkL_isRefused 18 rfl) rfl rfl ?_
  refine r_iload_n E (dat dkL_isRefused 19 rfl) rfl rfl ?_
  refine r_iload_n E (dat dkL_isRefused 20 rfl) rfl rfl ?_
  refine r_callVC (κ := 8) (μ := []) E (htab.trans rfl) hM my_X9_walk iv_X9_walk ml_L_135 cm_id ⟨by decide, rfl, rfl⟩ rfl rfl rfl rfl (by decide) (Nat.le_of_ble_eq_true rfl) (dat dkL_isRefused 21 rfl) ?_ ?_
  · rintro Ex M' ⟨rfl, rfl⟩
    refine ⟨_, Mrg_0, 50, ⟨[], ⟨0, 49, 50, 141⟩, [], "java/lang/IllegalStateException", rfl, (fun z hz => (nomatch hz)), rfl, by decide, cl_L_141, ca_ste, rfl⟩, fun q => ?_⟩
    refine r_astX4 (i := 4) E (dat dkL_isRefused 29 rfl) (Nat.le_of_ble_eq_true rfl) rfl (hc_of 3 rfl rfl) rfl ?_
    refine r_iconst (v := 1) E (dat dkL_isRefused 30 rfl) rfl ?_
    exact r_zreturn E (dat dkL_isRefused 31 rfl) rfl (by decide) (by decide) ⟨rfl, rfl⟩
  · intro r M' hp
    exact hp.elim
set_option maxHeartbeats 4000000 in
theorem sp_L_ref3 (l : Launch) (G : GT) (a b : Int32) (M : Mem) (hM : MCx l G yX9_splash cX9_splash 2 (some .int) ({ frames := 7, cells := 10, slots := 60, locals := 103 } : Room) KC lkC [rv 0 0, iv a] M (fun _ _ => False) (fun E M2 => E = steN ∧ M2 = M)) : MCw l G yL_isRefused cL_isRefused 5 (some .boolean) [(0, 49, 50, 141)] ({ frames := 8, cells := 16, slots := 96, locals := 127 } : Room) KC lkC [rv 0 0, iv (nI 3), iv a, iv b] M (fun r M2 => r = some (iv 1) ∧ M2 = M) := by
  refine MCw.of RL [some (rv 0 0), some (iv (nI 3)), some (iv a), some (iv b), none] 1 (by decide +kernel) rfl rfl rfl ?_
  intro pp ee ss mm aa bb me cd ad E htab
  refine r_iload_n E (dat dkL_isRefused 0 rfl) rfl rfl ?_
  refine r_if_ne (tgt := 14) E (dat dkL_isRefused 1 rfl) rfl (fun h => ?_) (fun h => absurd h (by decide))
  refine r_iload_n E (dat dkL_isRefused 8 rfl) rfl rfl ?_
  refine r_iconst (v := 1) E (dat dkL_isRefused 9 rfl) rfl ?_
  refine r_icmp_ne (tgt := 27) E (dat dkL_isRefused 10 rfl) rfl (fun h => ?_) (fun h => absurd h (by decide))
  refine r_iload_n E (dat dkL_isRefused 15 rfl) rfl rfl ?_
  refine r_iconst (v := 2) E (dat dkL_isRefused 16 rfl) rfl ?_
  refine r_icmp_ne (tgt := 41) E (dat dkL_isRefused 17 rfl) rfl (fun h => ?_) (fun h => absurd h (by decide))
  refine r_aload_n E (dat dkL_isRefused 23 rfl) rfl rfl ?_
  refine r_iload_n E (dat dkL_isRefused 24 rfl) rfl rfl ?_
  refine r_callVC (κ := 8) (μ := []) E (htab.trans rfl) hM my_X9_splash iv_X9_splash ml_L_138 cm_id ⟨by decide, rfl, rfl⟩ rfl rfl rfl rfl (by decide) (Nat.le_of_ble_eq_true rfl) (dat dkL_isRefused 25 rfl) ?_ ?_
  · rintro Ex M' ⟨rfl, rfl⟩
    refine ⟨_, Mrg_0, 50, ⟨[], ⟨0, 49, 50, 141⟩, [], "java/lang/IllegalStateException", rfl, (fun z hz => (nomatch hz)), rfl, by decide, cl_L_141, ca_ste, rfl⟩, fun q => ?_⟩
    refine r_astX4 (i := 4) E (dat dkL_isRefused 29 rfl) (Nat.le_of_ble_eq_true rfl) rfl (hc_of 3 rfl rfl) rfl ?_
    refine r_iconst (v := 1) E (dat dkL_isRefused 30 rfl) rfl ?_
    exact r_zreturn E (dat dkL_isRefused 31 rfl) rfl (by decide) (by decide) ⟨rfl, rfl⟩
  · intro r M' hp
    exact hp.elim
