/-! a method whose class may stand uninitialised as far as the tables say (Enum.ordinal): a contract without that word. Follows MetFree.of_bodySF, Steps.callFree and Back.of_free of the library. -/
def MetN (l : Launch) (y : MethodName) (rm : Room) (Pc : Array Value → State → Prop) (Qc : Array Value → State → Outcome → State → Prop) (mc ms : Nat) (free : Addr → Prop) : Prop :=
  ∀ (p : Program) (e : Env), l.admits e → FairCas e.choices → FairClock e.choices → ∀ (s : State) (m : MethodId) (args : Array Value) (below : List Frame), s.frames = .invoking m args :: below → s.status = .running → s.curStatus? = some .runnable → s.alone = true → s.methodNamed? y = some m → s.hears m below = true → s.hasRoom e.platform rm = true → (∀ w ∈ BIG, w.before args s = true) → Pc args s →
    ∃ n o, (∀ k, k < n → Within (stepsAlone p.tables e k s) below) ∧ (stepsAlone p.tables e n s).status = .running ∧ Ended (stepsAlone p.tables e n s) below o ∧ Qc args s o (stepsAlone p.tables e n s) ∧ ∃ L, FrameEnd s o (stepsAlone p.tables e n s) L mc ms ∧ ∀ q ∈ L, free q.base
def MCN (l : Launch) (G : GT) (y : MethodName) (rm : Room) (ks : List Nat) (lk : Nat → Nat → Nat) (as : List AV) (M : Mem) (post : Option AV → Mem → Prop) : Prop :=
  ∀ (ad : Nat → Nat → Nat) (sz : Nat), MetN l y rm (PCm G (ks, lk, ad) as M sz) (QCm G (ks, lk, ad) post sz) rm.cells rm.slots (AS (ks, lk, ad) sz)
theorem MCN.of {l : Launch} {G : GT} {y : MethodName} {b : ByteArray} {maxL : Nat} {ret : Option FieldType} {rm : Room} {ks : List Nat} {lk : Nat → Nat → Nat} {as : List AV} {M : Mem} {post : Option AV → Mem → Prop} (own : String) (L0 : List (Option AV)) (z : Nat)
    (hy : plainName y.cls = true) (ho : y.cls = own) (hcw : Cond.code y b maxL ret ∈ BIG) (hL : entL as ++ List.replicate z none = L0) (hn : L0.length = maxL)
    (body : ∀ (p : Program) (e : Env) (s : State) (m : MethodId) (args : Array Value) (below : List Frame) (meth : Method) (c : Code) (ad : Nat → Nat → Nat), EN p s m args meth c G (ks, lk, ad) b own maxL ret → WM p l e rm s m args below meth c G (ks, lk, ad) maxL (MQ below (QCm G (ks, lk, ad) post s.heap.size) args s rm.cells rm.slots (AS (ks, lk, ad) s.heap.size)) M 0 0 0 L0 []) : MCN l G y rm ks lk as M post := by
  intro ad sz p e ha hc hk s m args below hf hrun hable halone hname hhears hroom hts hv
  obtain ⟨rfl, rfl, hP, hD, hG⟩ := hv
  obtain ⟨meth, c, hmeth, hcode, hbytes, hlocals, hret, hlocks, -⟩ := Cond.code_spec hname (hts _ hcw)
  have hcur := State.cur_lt_of_frames hf
  have hf1 : (s.setFrames (.java (entryFrame m (as.map (cv (ks, lk, ad))).toArray maxL) :: below)).frames = .java (entryFrame m (as.map (cv (ks, lk, ad))).toArray maxL) :: below := State.frames_setFrames _ hcur
  have ht1 := State.topJava?_of_frames hf1
  have hplain : (s.setFrames (.java (entryFrame m (as.map (cv (ks, lk, ad))).toArray maxL) :: below)).plainMethod m := State.plainMethod.of_named (s := s) (plainFor_of_name hy) hname hmeth
  have hAt : At (s.setFrames (.java (entryFrame m (as.map (cv (ks, lk, ad))).toArray maxL) :: below)) m c below :=
    ⟨by rw [ht1]; rfl, ⟨[], by rw [hf1]; rfl⟩, hrun, by simpa using hable, by simpa using halone, by rw [State.code?_eq]; simp [State.setFrames, hmeth, hcode], hplain⟩
  have hstep : (stepThread p.tables e s).1 = (s.setFrames (.java (entryFrame m (as.map (cv (ks, lk, ad))).toArray maxL) :: below)).setTop (entryFrame m (as.map (cv (ks, lk, ad))).toArray maxL) := by
    have hfull : e.platform.stackFull (s.setFrames below).me (s.setFrames below).frames c.maxLocals = false := by
      obtain ⟨-, h1, -, h2⟩ := State.hasRoom_stack hroom
      rw [hf, List.length_cons] at h1
      rw [State.localsInUse_invoking hf hmeth hcode] at h2
      have hw := stackUse_le_stackWeight below
      rw [State.frames_setFrames _ hcur]
      exact Platform.stackFull_eq_false (by rw [State.stackLimits_setFrames]; omega) (by rw [State.stackLimits_setFrames]; omega)
    rw [stepThread_invoking hf, (doInvoke_java (s := s.setFrames below) (e := e) (meth := meth) (code := c) hmeth hcode hlocks hfull).1, State.setTop_self ht1]
    simp only [State.pushFrame, State.frames_setFrames _ hcur, State.setFrames_setFrames, hlocals, entryFrame]
  obtain ⟨tt0, htt, -⟩ := State.frames_cons hf
  have X : Stand p l e rm s m (as.map (cv (ks, lk, ad))).toArray below meth c (s.setFrames (.java (entryFrame m (as.map (cv (ks, lk, ad))).toArray maxL) :: below)) [] 0 0 :=
    ⟨ha, hc, hk, hf, hroom, hhears, hmeth, hcode, hAt, by rw [hf1]; rfl, State.WarmedH.refl s, by rw [State.stackLimits_setFrames], by rw [State.stackBytes_setFrames], (State.sameButNew.refl s htt).setFrames _ hcur⟩
  have hE : EN p s m (as.map (cv (ks, lk, ad))).toArray meth c G (ks, lk, ad) b own maxL ret := ⟨by cases p <;> rfl, hbytes, hlocals, ho ▸ findClass_of_methodNamed hname, hts, hret, hlocks, hG, hD⟩
  have hlen : (entL as).length + z = maxL := by rw [← hn, ← hL]; simp
  have hl := lv_entry (as.map (cv (ks, lk, ad))) (n := maxL) (by rw [lg_len]; omega)
  have hb := body p e s m (as.map (cv (ks, lk, ad))).toArray below meth c ad hE s.heap []
  have hgo : ∃ t, Steps p.tables e below ((s.setFrames (.java (entryFrame m (as.map (cv (ks, lk, ad))).toArray maxL) :: below)).setTop (entryFrame m (as.map (cv (ks, lk, ad))).toArray maxL)) t ∧ MQ below (QCm G (ks, lk, ad) post s.heap.size) (as.map (cv (ks, lk, ad))).toArray s rm.cells rm.slots (AS (ks, lk, ad) s.heap.size) t := by
    rw [lg_entry_eq]
    rw [lg_entry_eq] at X
    generalize (lg_sl (as.map (cv (ks, lk, ad))) ++ List.replicate (maxL - (lg_sl (as.map (cv (ks, lk, ad)))).length) Slot.unset).toArray = ls at hl X ⊢
    exact hb ls hP va_S.rf (by rw [← hL, lvl_ent]; exact hl) _ rfl X
  obtain ⟨s₂, hs, o, hr, he, hp⟩ := hgo
  obtain ⟨n, hn2, hw⟩ := Steps.head (tb := p.tables) (e := e) ⟨hrun, hable, halone⟩ ⟨[.invoking m (as.map (cv (ks, lk, ad))).toArray], hf, by simp, by simp⟩ (hstep ▸ hs)
  exact ⟨n, o, hw, hn2 ▸ hr, hn2 ▸ he, hn2 ▸ hp⟩
theorem backN {l : Launch} {R : Room} {p : Program} {e : Env} {below : List Frame} {s : State} {sargs : Array Value} {y : MethodName} {len W9 : Nat} {rm : Room} {Pc : Array Value → State → Prop} {Qc : Array Value → State → Outcome → State → Prop} {mc ms : Nat} {free : Addr → Prop} {bytes : ByteArray} {maxL : Nat} {ret : Option FieldType}
    (hM : MetN l y rm Pc Qc mc ms free) (hblind : FrameBlind Pc) (hrc : rm.cells = mc) (hrs : rm.slots = ms) (hframes : rm.frames + 1 ≤ R.frames) (hlocals : W9 + (maxL + 11) + rm.locals ≤ R.locals)
    (hws : ∀ w ∈ BIG, ∀ a' U, s.WarmedH U.vm → w.before a' U = true) (hcode : Cond.code y bytes maxL ret ∈ BIG) : Back l R p e below s sargs y len W9 (PreOf R mc ms Pc) (PostOf Qc mc ms free) := by
  intro m meth c A g ig mk a X hg hsize hdg hW hn hp
  obtain ⟨hp1, hp2, hp3⟩ := hp
  have h1 : ∀ w ∈ BIG, w.before a A.U = true := fun w hw => hws w hw _ _ X.warmed
  obtain ⟨U, Ls, c0, s0⟩ := A
  dsimp only [Pt.U, Pt.locs, Pt.cells, Pt.slots] at h1 hp1 hp2 hp3 X hn ⊢
  obtain ⟨methY, cY, hmY, hcY, -, hlY, -⟩ := Cond.code_spec hn (h1 _ hcode)
  have h : At U g.method c below := by rw [hg]; exact X.here
  have hroom : (U.calling g mk a).hasRoom e.platform rm = true := X.room_calling (g := g) (R' := rm) hsize hmY hcY hframes (by rw [hlY]; omega) (by omega) (by omega)
  have hcode' : (U.calling g mk a).code? g.method = some c := by
    have := h.code
    rw [State.code?_eq] at this ⊢
    simpa [State.calling, State.pushFrame, State.setFrames] using this
  have hf' : (U.calling g mk a).frames = .invoking mk a :: .java g :: U.frames.tail := State.frames_calling h.top g mk a
  have hable : (U.calling g mk a).curStatus? = some .runnable := by simpa [State.calling] using h.runnable
  have halone : (U.calling g mk a).alone = true := by simpa [State.calling] using h.alone
  have hhears : (U.calling g mk a).hears mk (.java g :: U.frames.tail) = true := by simp [State.hears, hcode', hdg, Except.toOption]
  obtain ⟨n, o, hw, hr, hend, hq, L, hfe, hL⟩ := hM p e X.admits X.cas X.clock (U.calling g mk a) mk a (.java g :: U.frames.tail) hf' h.running hable halone hn hhears hroom (fun w hw => by rw [State.calling_eq h.top, Cond.before_setFrames]; exact h1 w hw) (hblind _ _ _ _ hp3)
  obtain ⟨mid, hmid⟩ := h.above
  have hfr : (U.setTop g).frames = (.java g :: mid) ++ below := by rw [State.frames_setTop' g h.top, hmid]; rfl
  have hft : (U.setTop g).frames = .java g :: U.frames.tail := State.frames_setTop' g h.top
  obtain ⟨tt0, htt, -⟩ := State.frames_cons hft
  have hgo : (U.calling g mk a).goesOn := ⟨h.running, hable, halone⟩
  have hstep : (stepThread p.tables e (U.calling g mk a)).1 = (doInvoke e (U.setTop g) [] mk a).1 := by
    have hf9 : ((U.setTop g).pushFrame (.invoking mk a)).frames = .invoking mk a :: (U.setTop g).frames := by rw [hft]; exact hf'
    show (stepThread p.tables e ((U.setTop g).pushFrame (.invoking mk a))).1 = _
    rw [stepThread_invoking hf9, doInvoke_state e (U.setTop g) [], State.pushFrame, State.setFrames_setFrames, State.setFrames_self htt]
  obtain ⟨k, rfl⟩ : ∃ k, n = k + 1 := by
    cases n with
    | zero => exact absurd ⟨[.invoking mk a], hf', by simp, by simp⟩ hend.not_within
    | succ k => exact ⟨k, rfl⟩
  have hsteps : Steps p.tables e below (doInvoke e (U.setTop g) [] mk a).1 (stepsAlone p.tables e (k + 1) (U.calling g mk a)) := by
    rw [stepsAlone_succ _ hgo, hstep]
    refine ⟨k, rfl, fun j hj => ?_⟩
    have := hw (j + 1) (by omega)
    rw [stepsAlone_succ _ hgo, hstep, ← hft, hfr] at this
    exact this.weaken
  generalize stepsAlone p.tables e (k + 1) (U.calling g mk a) = s₂ at hr hend hq hfe hsteps
  obtain ⟨⟨v, rfl⟩, hW₂, e2, q2, q3, q4, q5, q6⟩ := id hfe
  have e3 : s₂ = ({ (U.calling g mk a).setFrames s₂.frames with heap := s₂.heap, slotsUsed := s₂.slotsUsed } : State).setVm s₂.vm := by
    have : s₂ = ({ s₂ with vm := (U.calling g mk a).vm } : State).setVm s₂.vm := rfl
    rw [e2] at this
    exact this
  obtain ⟨c₂, i₂, len₂, hc₂, hd₂, hf₂⟩ := hend
  have hW' : U.WarmedH s₂.vm := hW₂
  have hcc : c₂ = c := by
    have h1 : s₂.code? g.method = U.code? g.method := by
      rw [State.code?_eq, State.code?_eq, hW'.alike.method?]
    exact Option.some.inj (hc₂.symm.trans (h1.trans h.code))
  subst hcc
  have hlen : len₂ = len := by rw [hdg] at hd₂; cases hd₂; rfl
  subst hlen
  obtain ⟨g₀, hg0⟩ := Option.isSome_iff_exists.mp h.top
  obtain ⟨r, hr0⟩ := State.topJava?_eq_some.mp hg0
  have hs₂ : s₂ = (({ U with heap := s₂.heap, slotsUsed := s₂.slotsUsed } : State).setVm s₂.vm).setTop { g with pc := g.pc + len₂, stack := v.toList ++ g.stack } := by
    have hr' : (({ U with heap := s₂.heap, slotsUsed := s₂.slotsUsed } : State).setVm s₂.vm).frames = .java g₀ :: r := hr0
    refine e3.trans ?_
    rw [hf₂, State.calling_eq h.top, State.setFrames_setFrames, State.setTop_of_frames _ hr', hr0]
    rfl
  have hsame : U.sameButNew ({ U with heap := s₂.heap, slotsUsed := s₂.slotsUsed } : State) L mc ms := by
    refine ⟨?_, q2, q3, q4, q5, q6⟩
    obtain ⟨t, ht, -⟩ := State.frames_cons hr0
    show ({ U with heap := s₂.heap, slotsUsed := s₂.slotsUsed } : State) = { U.setFrames U.frames with heap := s₂.heap, slotsUsed := s₂.slotsUsed }
    rw [State.setFrames_self ht]
  subst hg
  refine ⟨v, ⟨(({ U with heap := s₂.heap, slotsUsed := s₂.slotsUsed } : State).setVm s₂.vm), Ls ++ L, c0 + mc, s0 + ms⟩,
    ⟨X.admits, X.cas, X.clock, X.frames, X.room, X.hears, X.method, X.code, (X.here.setHeapUsed s₂.heap s₂.slotsUsed).setVm hW'.alike, X.tail, State.WarmedH.trans X.warmed hW', X.limits, X.bytes, X.same.trans (hsame.setVm s.vm)⟩,
    ⟨g, mk, s₂, L, rfl, rfl, hq, rfl, hL, rfl, rfl⟩, ?_⟩
  show Steps p.tables e below _ ((({ U with heap := s₂.heap, slotsUsed := s₂.slotsUsed } : State).setVm s₂.vm).setTop { g with pc := g.pc + len₂, stack := v.toList ++ g.stack })
  rw [← hs₂]
  exact hsteps
section RN
variable {p : Program} {l : Launch} {e : Env} {R : Room} {s : State} {m : MethodId} {args : Array Value} {below : List Frame} {meth : Method} {c : Code} {G : GT} {Y : LV} {nL : Nat} {Q : State → Prop} {M : Mem} {k n pc : Nat} {L : List (Option AV)} {S : List AV} {cc : ByteArray} {own : String} {ret : Option FieldType}

theorem r_callN (E : EN p s m args meth c G Y cc own nL ret) {idx : Nat} {C owner : String} {x y : MethodName} {b : ByteArray} {maxL N : Nat} {ret' : Option FieldType} {rm : Room} {as : List AV} {post : Option AV → Mem → Prop} {q t : Nat} {st : List AV}
    (hM : MCN l G y rm [] lk0 (rv q t :: as) M post) (hR : KRC Y s q t C) (hcode : Cond.code y b maxL ret' ∈ BIG) (hlink : Cond.methodLink own idx x ∈ BIG) (hsame : Cond.sameMethod x.cls owner x.name x.desc ∈ BIG) (hdecl : va_Decl s ⟨owner, x.name, x.desc⟩) (hsel : Cond.selects C x y ∈ BIG) (hinst : Cond.instanceMethod y ∈ BIG) (hdd : owner ≠ "java/lang/invoke/MethodHandle" ∧ owner ≠ "java/lang/invoke/VarHandle" ∧ (parseMethodDescriptor x.desc).map (fun d => d.parameters.length) = some N)
    (hN : as.length = N) (hst : (as.map (ren [])).reverse ++ rv q t :: S = st) (hroom : rm.frames + 1 ≤ R.frames ∧ 8 + (maxL + 11) + rm.locals ≤ R.locals ∧ k + rm.cells ≤ R.cells ∧ n + rm.slots ≤ R.slots) (hst8 : (S.map fun v => if ac2 (some v) then 2 else 1).sum ≤ 8) (hd : decode cc pc = .ok (.invokevirtual idx, 3))
    (kk : ∀ r M', post r M' → M' = M ∧ WM p l e R s m args below meth c G Y nL Q M (k + rm.cells) (n + rm.slots) (pc + 3) L ((r.map (ren [])).toList ++ S)) : WM p l e R s m args below meth c G Y nL Q M k n pc L st := by
  intro H locs ls hP hS hl
  obtain ⟨hx, hb, hml, hown, hts, hr, hlk0, hG, hD⟩ := E
  have hstk : st.map (cv Y) = (as.map (cv (cY Y [] lk0 []))).reverse ++ Value.ref (Y.2.2 q t) :: S.map (cv Y) := by
    rw [← hst, List.map_append, List.map_reverse, List.map_map]
    congr 2
    refine List.map_congr_left (fun a _ => ?_)
    rcases a with v | ⟨j, u⟩ <;> rfl
  have hK : Back l R p e below s args y 3 8 (PreOf R rm.cells rm.slots (PCm G (cY Y [] lk0 []) (rv q t :: as) M H.size)) (PostOf (QCm G (cY Y [] lk0 []) post H.size) rm.cells rm.slots (AS (cY Y [] lk0 []) H.size)) :=
    backN (bytes := b) (maxL := maxL) (ret := ret') (hM (fun j t => Y.2.2 (mu [] j) t) H.size) PCm.blind rfl rfl hroom.1 hroom.2.1 (fun w hw a' U hW => word_at hW (good_of_word (List.mem_filter.mp hw).2) (hts w hw)) hcode
  have hrun : va_Run p l e R s m args below meth c H locs k n rm.cells rm.slots (F0 m pc ls (st.map (cv Y))) (S.map (cv Y)) (QCm G (cY Y [] lk0 []) post H.size (Value.ref (Y.2.2 q t) :: as.map (cv (cY Y [] lk0 []))).toArray) (AS (cY Y [] lk0 []) H.size) := by
    obtain ⟨cellB, hcB, hoB, hclB⟩ := hR hS
    intro T hT X
    obtain ⟨v, vm₁, ⟨U', l2, c2, s2⟩, hW₁, X', ⟨g', mk, t9, L9, e1, e2, hq, h1, hL, h2, h3⟩, st9⟩ := va_callVU X hx (C := C) (owner := owner) hown (hts _ hlink) (hts _ hsame) hdecl ⟨hdd.1, hdd.2.1⟩ (hts _ hsel) (hts _ hinst) (hts _ hcode) hK (by rw [hT]; exact hcB) hoB hclB (g := F0 m pc ls (st.map (cv Y))) rfl (hl.1.trans hml.symm) (argsL := as.map (cv (cY Y [] lk0 []))) (rest := S.map (cv Y)) (fun sig h => by
        have h2 := hdd.2.2
        rw [h] at h2
        rw [List.length_map, hN]
        exact (Option.some.inj h2).symm) hstk (lv_room (by rw [cat_sum]; exact hst8)) (by rw [hb]; exact hd)
      (fun vm₁ hW₁ => ⟨hroom.2.2.1, hroom.2.2.2, call_pre (as := rv q t :: as) cm_nil hP hS hG hD hT hW₁⟩)
    dsimp only [Pt.U, Pt.locs, Pt.cells, Pt.slots] at X' e1 e2 h1 h2 h3 st9
    subst h1; subst h2; subst h3
    exact ⟨v, (T.setVm vm₁).calling g' mk (Value.ref (Y.2.2 q t) :: as.map (cv (cY Y [] lk0 []))).toArray, t9, U', L9, hT, X', hL, e1, e2, hq, st9⟩
  exact run_on (Y2 := Y) cm_nil (hD M) hP hS hl hrun (fun r M' hp => ⟨M, ⟨fun j hj => absurd hj (Nat.not_lt_zero j), fun _ _ => rfl⟩, (kk r M' hp).2⟩)
end RN
theorem ow_link : Cond.methodLink RX4 74 ⟨"PuddleCity$Verb", "ordinal", "()I"⟩ ∈ BIG := bg_3 67 (by decide +kernel)
theorem ow_same : Cond.sameMethod "PuddleCity$Verb" "java/lang/Enum" "ordinal" "()I" ∈ BIG := bg_3 68 (by decide +kernel)
theorem ow_sel : Cond.selects "PuddleCity$Verb" ⟨"PuddleCity$Verb", "ordinal", "()I"⟩ yJx29ce0_ordinal_8abf5 ∈ BIG := bg_3 70 (by decide +kernel)
theorem ow_inst : Cond.instanceMethod yJx29ce0_ordinal_8abf5 ∈ BIG := bg_3 71 (by decide +kernel)
theorem ow_code : Cond.code yJx29ce0_ordinal_8abf5 cJx29ce0_ordinal_8abf5 1 (some .int) ∈ BIG := bg_3 72 (by decide +kernel)
set_option maxRecDepth 100000 in
theorem sp_ordinal (l : Launch) (G : GT) (i : Nat) (M : Mem) (hi : i < 8) : MCN l G yJx29ce0_ordinal_8abf5 ({ frames := 0, cells := 0, slots := 0, locals := 0 } : Room) [] lk0 [rv 98 i] M (fun r M2 => r = some (iv (nI i)) ∧ M2 = M) := by
  refine MCN.of RJx29ce0 [some (rv 98 i)] 0 (by decide +kernel) rfl ow_code rfl rfl ?_
  intro pp ee ss mm aa bb me cd ad E
  refine r_aload_n E (dat dkJx29ce0_ordinal_8abf5 0 rfl) rfl rfl ?_
  refine q_ord (i := i) E hi gs_Jx29ce0_7 (dat dkJx29ce0_ordinal_8abf5 1 rfl) ?_
  refine r_ireturn E (dat dkJx29ce0_ordinal_8abf5 2 rfl) (by decide) (by decide) ?_
  exact ⟨rfl, rfl⟩