/-! constructors: a machine over an explicit world -/
def Y0 : LV := ([], (fun _ _ => 0), (fun _ _ => 0))
/-- the classes of arrays of references -/
def AX (U : State) : Prop := va_AO "PuddleCity$Verb" U ∧ va_AO "PuddleCity$State" U ∧ (∀ w ∈ NW, va_Nw w U) ∧ bAO U
abbrev aO (G : GT) (i N : Nat) : va_E := .inl (G.2.1 i, (N, .inr (.inr (.inr (.inr (fun _ => none))))))
abbrev aN (G : GT) (i N : Nat) : va_E := .inl (G.2.1 i, (N, arC Y0 i 0 (fun _ => 0)))
def EX (p : Program) (s : State) (m : MethodId) (args : Array Value) (meth : Method) (c : Code) (G : GT) (A : Nat → Prop) (cc : ByteArray) (own : String) (nL : Nat) (ct : Bool) : Prop :=
  p.tables.exec = Jvm.exec ∧ c.code = cc ∧ c.maxLocals = nL ∧ s.vm.findClass own = some m.cls ∧ (∀ w ∈ BIG, w.before args s = true) ∧ (ct = true → meth.sig.returnType = none) ∧ meth.locks = false ∧ va_K G.1 vwCl (tyG G) s ∧ (∀ q : Nat, s.heap.size ≤ q → A q) ∧ (ct = true → meth.name = "<init>") ∧ AX s
def NM (p : Program) (l : Launch) (e : Env) (R : Room) (s : State) (m : MethodId) (args : Array Value) (below : List Frame) (meth : Method) (c : Code) (G : GT) (A : Nat → Prop) (nL : Nat) (Q : State → Prop) (ws : va_W) (k n : Nat) (pc : Nat) (L : List (Option AV)) (S : List Value) : Prop :=
  ∀ (H : Heap) (locs : List Loc) (ls : Array Slot), va_P G.1 vwCl ws H → va_D A ws → va_S A s.heap H locs → lv_has ls nL (lvl Y0 0 L) → W p l e R s m args below meth c H locs k n Q (F0 m pc ls S)
section RN
variable {p : Program} {l : Launch} {e : Env} {R : Room} {s : State} {m : MethodId} {args : Array Value} {below : List Frame} {meth : Method} {c : Code} {G : GT} {A : Nat → Prop} {nL : Nat} {Q : State → Prop} {ws : va_W} {k n pc : Nat} {L : List (Option AV)} {S : List Value} {cc : ByteArray} {own : String} {ct : Bool}
theorem n_ws {ws2 : va_W} (h : ws = ws2) (kk : NM p l e R s m args below meth c G A nL Q ws2 k n pc L S) : NM p l e R s m args below meth c G A nL Q ws k n pc L S := h ▸ kk
theorem n_aload_n (E : EX p s m args meth c G A cc own nL ct) {a : Fin 4} {i q : Nat} (hd : decode cc pc = .ok (.aload_n a, 1)) (hi : (a : Nat) = i) (hL : L[i]? = some (some (.inl (.ref q)))) (kk : NM p l e R s m args below meth c G A nL Q ws k n (pc + 1) L (.ref q :: S)) : NM p l e R s m args below meth c G A nL Q ws k n pc L S := fun H locs ls hP hD hS hl => lv_aload_n E.1 E.2.1 hd hi (lvl_at hl hL) (kk H locs ls hP hD hS hl)
theorem n_bipush (E : EX p s m args meth c G A cc own nL ct) {a : Int} {v : Int32} (hd : decode cc pc = .ok (.bipush a, 2)) (hv : (Int8.ofInt a).toInt32 = v) (kk : NM p l e R s m args below meth c G A nL Q ws k n (pc + 2) L (.int v :: S)) : NM p l e R s m args below meth c G A nL Q ws k n pc L S := fun H locs ls hP hD hS hl => lv_bipush E.1 E.2.1 hd hv (kk H locs ls hP hD hS hl)
theorem n_sipush (E : EX p s m args meth c G A cc own nL ct) {a : Int} {v : Int32} (hd : decode cc pc = .ok (.sipush a, 3)) (hv : (Int16.ofInt a).toInt32 = v) (kk : NM p l e R s m args below meth c G A nL Q ws k n (pc + 3) L (.int v :: S)) : NM p l e R s m args below meth c G A nL Q ws k n pc L S := fun H locs ls hP hD hS hl => lv_sipush E.1 E.2.1 hd hv (kk H locs ls hP hD hS hl)
theorem n_iconst (E : EX p s m args meth c G A cc own nL ct) {a : Int} {v : Int32} (hd : decode cc pc = .ok (.iconst a, 1)) (hv : Int32.ofInt a = v) (kk : NM p l e R s m args below meth c G A nL Q ws k n (pc + 1) L (.int v :: S)) : NM p l e R s m args below meth c G A nL Q ws k n pc L S := fun H locs ls hP hD hS hl => lv_iconst E.1 E.2.1 hd hv (kk H locs ls hP hD hS hl)
theorem n_objI (E : EX p s m args meth c G A cc own nL ct) {idx q : Nat} (hd : decode cc pc = .ok (.invokespecial idx, 3)) (h1 : Cond.methodLink own idx objectInit ∈ BIG) (h2 : Cond.instanceMethod objectInit ∈ BIG) (h3 : Cond.code objectInit ⟨#[0xb1]⟩ 1 none ∈ BIG) (hf : 1 ≤ R.frames) (ho : 12 ≤ R.locals) (kk : NM p l e R s m args below meth c G A nL Q ws k n (pc + 3) L []) : NM p l e R s m args below meth c G A nL Q ws k n pc L [.ref q] := by
  intro H locs ls hP hD hS hl
  obtain ⟨hx, hb, hml, hown, hts, hr, hlk, hK, hA, hin, hX⟩ := E
  refine W.objInit hx hb hown (hts _ h1) (hts _ h2) (hts _ h3) rfl (by rw [hml]; exact hl.1) rfl hd hf ho ?_
  exact W.eq (g2 := F0 m (pc + 3) ls []) rfl (kk H locs ls hP hD hS hl)
theorem n_newa (E : EX p s m args meth c G A cc own nL ct) {atype : ArrayType} {ty : FieldType} {i N : Nat} {x : Int32} (hd : decode cc pc = .ok (.newarray atype, 2)) (hty : newarray.typeOf atype = ty) (hw : Cond.arrayClass (newarray.typeOf atype) ∈ BIG) (hti : (tyG G)[i]? = some (G.2.1 i, ty)) (hra : ∀ cA, va_RA s cA ty → s.vm.findClass ("[" ++ ty.toString) = some cA)
    (ha : ∀ cA : ClassId, vp_cell cA (N, arC Y0 i 0 (fun _ => 0)) = arrV cA N (fun _ => defaultValue ty)) (h0 : ¬ x < 0) (hN : x.toNatClampNeg = N) (hB : N * componentBytes ty ≤ 536870912) (hc : k + 1 ≤ R.cells) (hs : n + N ≤ R.slots)
    (kk : ∀ q : Nat, NM p l e R s m args below meth c G A nL Q (ws ++ [(q, .inl (G.2.1 i, (N, arC Y0 i 0 (fun _ => 0))))]) (k + 1) (n + N) (pc + 2) L (.ref q :: S)) : NM p l e R s m args below meth c G A nL Q ws k n pc L (.int x :: S) := by
  intro H locs ls hP hD hS hl
  obtain ⟨hx, hb, hml, hown, hts, hr, hlk, hK, hA, hin, hX⟩ := E
  refine va_newa (D := G.1) (a0 := (N, arC Y0 i 0 (fun _ => 0))) hx hb (hts _ hw) hty hK hP hD hS hA ha h0 hN hB hc hs hd (fun q cA H1 hK1 hP1 hD1 hS1 => ?_)
  have e1 := hra _ (hK1.2 (tyG G).length (cA, ty) (by rw [List.getElem?_append_right (Nat.le_refl _), Nat.sub_self]; rfl)).2
  have e2 := hra _ (hK.2 i (G.2.1 i, ty) hti).2
  have e3 : cA = G.2.1 i := Option.some.inj (e1.symm.trans e2)
  subst e3
  exact kk q H1 locs ls hP1 hD1 hS1 hl
/-- an array of references -/
theorem n_newq (E : EX p s m args meth c G A cc own nL ct) {idx i N : Nat} {C : String} {x : Int32} (hd : decode cc pc = .ok (.anewarray idx, 3)) (hw : Cond.classLink own idx C ∈ BIG) (ho : va_AO C s) (hti : (tyG G)[i]? = some (G.2.1 i, .object C)) (h0 : ¬ x < 0) (hN : x.toNatClampNeg = N) (hB : N * 4 ≤ 536870912) (hc : k + 1 ≤ R.cells) (hs : n + N ≤ R.slots)
    (kk : ∀ q : Nat, NM p l e R s m args below meth c G A nL Q (ws ++ [(q, .inl (G.2.1 i, (N, .inr (.inr (.inr (.inr (fun _ => none)))))))]) (k + 1) (n + N) (pc + 3) L (.ref q :: S)) : NM p l e R s m args below meth c G A nL Q ws k n pc L (.int x :: S) := by
  intro H locs ls hP hD hS hl
  obtain ⟨hx, hb, hml, hown, hts, hr, hlk, hK, hA, hin, hX⟩ := E
  refine va_newq (D := G.1) hx hb hown (hts _ hw) ho hK hP hD hS hA h0 hN hB hc hs hd (fun q cA H1 hK1 hP1 hD1 hS1 => ?_)
  obtain ⟨_, _, _, _, _, e1⟩ := (hK1.2 (tyG G).length (cA, .object C) (by rw [List.getElem?_append_right (Nat.le_refl _), Nat.sub_self]; rfl)).2
  obtain ⟨_, _, _, _, _, e2⟩ := (hK.2 i (G.2.1 i, .object C) hti).2
  have e3 : cA = G.2.1 i := Option.some.inj (e1.symm.trans e2)
  subst e3
  exact kk q H1 locs ls hP1 hD1 hS1 hl
/-- a final field -/
theorem n_putF (E : EX p s m args meth c G A cc own nL ct) {idx ci N q j q0 : Nat} {C : String} {T : u_T} {ty0 : Nat → FieldType} {ty : FieldType} {v : Value} {fs : List Value} (hd : decode cc pc = .ok (.putfield idx, 3)) (hci : vwCl[ci]? = some (C, T, N)) (hin : ∀ w ∈ u_ws C T N, w ∈ BIG) (hty : ∀ k, k < N → parseFieldDescriptor (T k).2.2.1 = some (ty0 k)) (hnm : ∀ a, a < N → ∀ b, b < N → a ≠ b → (T a).2.1 ≠ (T b).2.1) (hj : j < N) (hw : Cond.fieldLink own idx (T j).1 (T j).2.1 (T j).2.2.1 ∈ BIG) (hf : (T j).2.2.2 = true) (ho : (T j).1 = own) (ht : parseFieldDescriptor (T j).2.2.1 = some ty) (hv : narrow ty v = v) (hfit : fits ty v = true)
    (hq : ws[q0]? = some (q, .inr (ci, fs))) (hl9 : j < fs.length) (kk : NM p l e R s m args below meth c G A nL Q (ws.set q0 (q, .inr (ci, fs.set j v))) k n (pc + 3) L S) (h9 : ct = true := by rfl) : NM p l e R s m args below meth c G A nL Q ws k n pc L (v :: .ref q :: S) := by
  intro H locs ls hP hD hS hl
  obtain ⟨hx, hb, hml, hown, hts, hr, hlk, hK, hA, hi9, hX⟩ := E
  exact va_putF (D := G.1) hx hb hts hin ty0 hty hnm hown hK hP hD hS q0 hq hci j hj (hts _ hw) (fun _ h => h) hf (hi9 h9) ho ht hv hfit hl9 hd (fun H1 locs1 hP1 hD1 hS1 => kk H1 locs1 ls hP1 hD1 hS1 hl)
/-- .. one that is not final -/
theorem n_put (E : EX p s m args meth c G A cc own nL ct) {idx ci N q j q0 : Nat} {C : String} {T : u_T} {ty0 : Nat → FieldType} {ty : FieldType} {v : Value} {fs : List Value} (hd : decode cc pc = .ok (.putfield idx, 3)) (hci : vwCl[ci]? = some (C, T, N)) (hin : ∀ w ∈ u_ws C T N, w ∈ BIG) (hty : ∀ k, k < N → parseFieldDescriptor (T k).2.2.1 = some (ty0 k)) (hnm : ∀ a, a < N → ∀ b, b < N → a ≠ b → (T a).2.1 ≠ (T b).2.1) (hj : j < N) (hw : Cond.fieldLink own idx (T j).1 (T j).2.1 (T j).2.2.1 ∈ BIG) (hf : (T j).2.2.2 = false) (ht : parseFieldDescriptor (T j).2.2.1 = some ty) (hv : narrow ty v = v) (hfit : fits ty v = true)
    (hq : ws[q0]? = some (q, .inr (ci, fs))) (hl9 : j < fs.length) (kk : NM p l e R s m args below meth c G A nL Q (ws.set q0 (q, .inr (ci, fs.set j v))) k n (pc + 3) L S) : NM p l e R s m args below meth c G A nL Q ws k n pc L (v :: .ref q :: S) := by
  intro H locs ls hP hD hS hl
  obtain ⟨hx, hb, hml, hown, hts, hr, hlk, hK, hA, hi9, hX⟩ := E
  exact va_put (D := G.1) hx hb hts hin ty0 hty hnm hown hK hP hD hS q0 hq hci j hj (hts _ hw) (fun _ h => h) hf ht hv hfit hl9 hd (fun H1 locs1 hP1 hD1 hS1 => kk H1 locs1 ls hP1 hD1 hS1 hl)
theorem n_vret (E : EX p s m args meth c G A cc own nL ct) {mc ms : Nat} {Qc : Array Value → State → Outcome → State → Prop} (hd : decode cc pc = .ok (.return_, 1)) (hk : k ≤ mc) (hn : n ≤ ms) (hQ : ∀ t, va_P G.1 vwCl ws t.heap → va_D A ws → va_F A s t → Qc args s (.returned none) t) (h9 : ct = true := by rfl) : NM p l e R s m args below meth c G A nL (MQ below Qc args s mc ms A) ws k n pc L [] := by
  intro H locs ls hP hD hS hl
  obtain ⟨hx, hb, hml, hown, hts, hr, hlk, hK, hA, hin, hX⟩ := E
  refine W.widen hk hn ?_
  exact W.vret (hlocks := hlk) hx hb (hr h9) (fun t ht hW => hQ t (by rw [ht]; exact hP) hD (hS.F ht)) hS.2.2 hd
end RN
/-- which addresses a constructor writes -/
def AK (a sz : Nat) : Nat → Prop := fun q => q = a ∨ sz ≤ q
def PN9 (G : GT) (a : Nat) (ws : va_W) (sz : Nat) : Array Value → State → Prop := va_Pc [.ref a] (fun U => U.heap.size = sz ∧ va_P G.1 vwCl ws U.heap ∧ va_D (AK a sz) ws ∧ va_K G.1 vwCl (tyG G) U ∧ AX U)
def QN9 (G : GT) (ks : List Nat) (lk : Nat → Nat → Nat) (a : Nat) (M2 : Mem) (sz : Nat) : Array Value → State → Outcome → State → Prop := fun _ st oc t => (∃ ad : Nat → Nat → Nat, ad 0 0 = a ∧ oc = .returned none ∧ va_P G.1 vwCl (wl G (ks, lk, ad) M2) t.heap ∧ va_D (AK a sz) (wl G (ks, lk, ad) M2)) ∧ va_F (AK a sz) st t
/-- a constructor's contract: from the bare object to its modules -/
def CK (l : Launch) (G : GT) (y : MethodName) (b : ByteArray) (maxL : Nat) (rm : Room) (ci : Nat) (fs : List Value) (ks : List Nat) (lk : Nat → Nat → Nat) (M2 : Mem) : Prop :=
  ∀ (a sz : Nat), Met l y (.code y b maxL none :: BIG) rm (PN9 G a [(a, .inr (ci, fs))] sz) (QN9 G ks lk a M2 sz) rm.cells rm.slots (AK a sz)
theorem CK.of {l : Launch} {G : GT} {y : MethodName} {b : ByteArray} {maxL : Nat} {rm : Room} {ci : Nat} {fs : List Value} {ks : List Nat} {lk : Nat → Nat → Nat} {M2 : Mem} (own : String) (hy : plainName y.cls = true) (ho : y.cls = own) (hn : y.name = "<init>") (h1 : 1 ≤ maxL)
    (body : ∀ (p : Program) (e : Env) (s : State) (m : MethodId) (args : Array Value) (below : List Frame) (meth : Method) (c : Code) (a : Nat), EX p s m args meth c G (AK a s.heap.size) b own maxL true → NM p l e rm s m args below meth c G (AK a s.heap.size) maxL (MQ below (QN9 G ks lk a M2 s.heap.size) args s rm.cells rm.slots (AK a s.heap.size)) [(a, .inr (ci, fs))] 0 0 0 (some (.inl (.ref a)) :: List.replicate (maxL - 1) none) []) : CK l G y b maxL rm ci fs ks lk M2 := by
  intro a sz
  refine Met.ofW (cc := b) (maxL := maxL) (ret := none) hy rfl ?_
  intro p e s m args below meth c s₁ B hml hv
  obtain ⟨rfl, rfl, hP, hD, hK, hX⟩ := hv
  have hts := atoms_spec (ws := .code y b maxL none :: BIG) B.pre
  have hE : EX p s m ([Value.ref a].toArray) meth c G (AK a s.heap.size) b own maxL true := ⟨B.exec, B.bytes, hml, ho ▸ findClass_of_methodNamed B.named, fun w hw => hts w (List.mem_cons_of_mem _ hw), fun _ => B.returns, B.notSynchronized, hK, fun q hq => Or.inr hq, fun _ => hn ▸ (name_of_methodNamed B.named B.method).1, hX⟩
  have hl := lv_entry ([.ref a]) (n := maxL) h1
  rw [lg_entry_eq]
  generalize (lg_sl ([.ref a]) ++ List.replicate (maxL - (lg_sl ([.ref a])).length) Slot.unset).toArray = ls at hl ⊢
  have hl2 : lv_has ls maxL (lvl Y0 0 (some (.inl (.ref a)) :: List.replicate (maxL - 1) none)) := by
    rw [show lvl Y0 0 (some (.inl (.ref a)) :: List.replicate (maxL - 1) none) = (0, Value.ref a) :: lvl Y0 1 (List.replicate (maxL - 1) none) from rfl, lvl_none]
    exact hl
  exact body p e s m _ below meth c a hE s.heap [] ls hP hD va_S.rf hl2
theorem oi_2 : Cond.instanceMethod objectInit ∈ BIG := bg_1 33 (by decide +kernel)
theorem oi_3 : Cond.code objectInit ⟨#[0xb1]⟩ 1 none ∈ BIG := bg_1 34 (by decide +kernel)
theorem an_byte : Cond.arrayClass .byte ∈ BIG := bg_1 69 (by decide +kernel)
theorem an_bool : Cond.arrayClass .boolean ∈ BIG := bg_1 161 (by decide +kernel)
def zM : Mem := fun _ _ _ => 0
/-- Ways() -/
theorem sp_X8_init (l : Launch) (G : GT) : CK l G yX8_init cX8_init 1 ({ frames := 1, cells := 2, slots := 128, locals := 12 } : Room) 8 [.null, .null] [6] lk0 zM := by
  refine CK.of RX8 (by decide) rfl rfl (Nat.le_refl _) (fun p e s m args below meth c a E => ?_)
  refine n_aload_n E (dat dkX8_init 0 rfl) rfl rfl ?_
  refine n_objI E (dat dkX8_init 1 rfl) (bg_1 212 (by decide +kernel)) oi_2 oi_3 (Nat.le_refl _) (Nat.le_refl _) ?_
  refine n_aload_n E (dat dkX8_init 2 rfl) rfl rfl ?_
  refine n_bipush E (dat dkX8_init 3 rfl) (v := 64) rfl ?_
  refine n_newa E (atype := .int) (ty := .int) (i := 0) (N := 64) (dat dkX8_init 4 rfl) rfl an_int rfl (fun _ h => h) (fun _ => rfl) (by decide) rfl (Nat.le_of_ble_eq_true rfl) (Nat.le_of_ble_eq_true rfl) (Nat.le_of_ble_eq_true rfl) (fun q1 => ?_)
  refine n_putF E (dat dkX8_init 5 rfl) (ty := .array .int) (j := 0) (q0 := 0) (ci := 8) (C := RX8) (T := TX8) (N := 2) rfl inB8 tyX8_ok nmX8 (by decide) (bg_1 213 (by decide +kernel)) rfl rfl (by decide +kernel) rfl rfl rfl (Nat.le_of_ble_eq_true rfl) ?_
  refine n_aload_n E (dat dkX8_init 6 rfl) rfl rfl ?_
  refine n_bipush E (dat dkX8_init 7 rfl) (v := 64) rfl ?_
  refine n_newa E (atype := .int) (ty := .int) (i := 0) (N := 64) (dat dkX8_init 8 rfl) rfl an_int rfl (fun _ h => h) (fun _ => rfl) (by decide) rfl (Nat.le_of_ble_eq_true rfl) (Nat.le_of_ble_eq_true rfl) (Nat.le_of_ble_eq_true rfl) (fun q2 => ?_)
  refine n_putF E (dat dkX8_init 9 rfl) (ty := .array .int) (j := 1) (q0 := 0) (ci := 8) (C := RX8) (T := TX8) (N := 2) rfl inB8 tyX8_ok nmX8 (by decide) (bg_1 214 (by decide +kernel)) rfl rfl (by decide +kernel) rfl rfl rfl (Nat.le_of_ble_eq_true rfl) ?_
  refine n_vret E (dat dkX8_init 10 rfl) (Nat.le_of_ble_eq_true rfl) (Nat.le_of_ble_eq_true rfl) (fun t hP hD hF => ⟨⟨fun _ t => if t = 0 then a else if t = 1 then q1 else q2, rfl, rfl, ?_, ?_⟩, hF⟩)
  · exact hP
  · exact hD
