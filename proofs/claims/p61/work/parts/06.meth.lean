/-! a method's contract: from any heap that holds the modules M it returns with 'post' (the answer, the modules afterwards) -/
theorem GF.same {G : GT} {Y : LV} {A : Nat → Prop} {s U : State} {H : Heap} (h : s.vm = U.vm) (hG : GF G Y A s H) : GF G Y A U H := by
  obtain ⟨h1, h2, h3⟩ := hG
  have ha : s.vm.Alike U.vm := by rw [h]; exact Vm.Alike.refl U.vm
  refine ⟨fun w hw => va_Nw.same ?_ h (h1 w hw), va_K.moved ha h2, fun i hi => (h3.1 i hi).moved ha ((h3.1 i hi).1.same h.symm), h3.2.1.moved ha, h3.2.2.moved ha⟩
  have := (List.mem_filter.mp hw).2
  cases w <;> first | rfl | (simp [isNest] at this)
theorem nw_cast {a b : String} {s U : State} (hW : s.WarmedH U.vm) (h : va_Nw (.castable a b) s) : va_Nw (.castable a b) U := va_tabs rfl (rfl : (s.setVm U.vm).vm = U.vm) (by rw [Cond.castable_setVm hW.alike]; exact h)
theorem nw_decl {y : MethodName} {s U : State} (hW : s.WarmedH U.vm) (h : va_Nw (.declares y) s) : va_Nw (.declares y) U := va_tabs rfl (rfl : (s.setVm U.vm).vm = U.vm) (by rw [Cond.declares_setVm hW.alike]; exact h)
theorem GF.warm {G : GT} {Y : LV} {A : Nat → Prop} {s U : State} {H : Heap} (hW : s.WarmedH U.vm) (hG : GF G Y A s H) : GF G Y A U H := by
  obtain ⟨h1, h2, h3⟩ := hG
  refine ⟨fun w hw => ?_, va_K.moved hW.alike h2, fun i hi => (h3.1 i hi).moved hW.alike ((h3.1 i hi).1.warm hW), h3.2.1.moved hW.alike, h3.2.2.moved hW.alike⟩
  have h4 := (List.mem_filter.mp hw).2
  have h5 := h1 w hw
  cases w <;> first | exact va_Nw.warmF hW h5 | exact va_Nw.warmM hW h5 | exact nw_cast hW h5 | exact nw_decl hW h5 | (simp [isNest] at h4)
theorem GF.heap {G : GT} {Y Y2 : LV} {A B : Nat → Prop} {s : State} {H H1 : Heap} (hc : ∀ i, i < 3 → Y2.2.2 (97 + i) = Y.2.2 (97 + i)) (hB : ∀ q, B q → A q) (hq : ∀ q, q < H.size → ¬ A q → H1[q]? = H[q]?) (hG : GF G Y A s H) : GF G Y2 B s H1 := ⟨hG.1, hG.2.1, hG.2.2.kept hc hB hq⟩
def PCm (G : GT) (Y : LV) (as : List AV) (M : Mem) (sz : Nat) : Array Value → State → Prop := va_Pc (as.map (cv Y)) (fun U => U.heap.size = sz ∧ va_P G.1 vwCl (wl G Y M) U.heap ∧ (∀ M' : Mem, va_D (AS Y sz) (wl G Y M')) ∧ GF G Y (AS Y sz) U U.heap)
def QCm (G : GT) (Y : LV) (post : Option AV → Mem → Prop) (sz : Nat) : Array Value → State → Outcome → State → Prop := fun _ st oc t => (∃ (r : Option AV) (M' : Mem), oc = .returned (r.map (cv Y)) ∧ post r M' ∧ va_P G.1 vwCl (wl G Y M') t.heap) ∧ va_F (AS Y sz) st t
def MC (l : Launch) (G : GT) (y : MethodName) (b : ByteArray) (maxL : Nat) (ret : Option FieldType) (rm : Room) (ks : List Nat) (lk : Nat → Nat → Nat) (as : List AV) (M : Mem) (post : Option AV → Mem → Prop) : Prop :=
  ∀ (ad : Nat → Nat → Nat) (sz : Nat), Met l y (.code y b maxL ret :: BIG) rm (PCm G (ks, lk, ad) as M sz) (QCm G (ks, lk, ad) post sz) rm.cells rm.slots (AS (ks, lk, ad) sz)
theorem PCm.blind {G : GT} {Y : LV} {as : List AV} {M : Mem} {sz : Nat} : FrameBlind (PCm G Y as M sz) := by
  rintro a U g mk ⟨h0, h1, h2, h3, h4⟩
  exact ⟨h0, h1, h2, h3, GF.same (s := U) rfl h4⟩
def entL : List AV → List (Option AV)
  | [] => []
  | a :: t => if ac2 (some a) then some a :: none :: entL t else some a :: entL t
theorem lvl_none {Y : LV} : ∀ (k i : Nat), lvl Y i (List.replicate k none) = []
  | 0, _ => rfl
  | k + 1, i => lvl_none k (i + 1)
theorem ac2_cv2 {Y : LV} {v : AV} (h : ac2 (some v) = true) : (cv Y v).category = 2 := by
  rcases v with v | q
  · cases v <;> first | rfl | (simp [ac2] at h)
  · simp [ac2] at h
theorem lvl_ent {Y : LV} : ∀ (as : List AV) (i k : Nat), lvl Y i (entL as ++ List.replicate k none) = lv_args i (as.map (cv Y))
  | [], i, k => lvl_none k i
  | a :: t, i, k => by
    cases h : ac2 (some a) with
    | true =>
      have h2 := ac2_cv2 (Y := Y) h
      show lvl Y i ((if ac2 (some a) then some a :: none :: entL t else some a :: entL t) ++ _) = (i, cv Y a) :: lv_args (if (cv Y a).category = 2 then i + 2 else i + 1) (t.map (cv Y))
      rw [if_pos h, if_pos h2, ← lvl_ent t (i + 2) k]
      rfl
    | false =>
      have h2 := ac2_cv (Y := Y) h
      show lvl Y i ((if ac2 (some a) then some a :: none :: entL t else some a :: entL t) ++ _) = (i, cv Y a) :: lv_args (if (cv Y a).category = 2 then i + 2 else i + 1) (t.map (cv Y))
      rw [if_neg (by rw [h]; decide), if_neg (by omega), ← lvl_ent t (i + 1) k]
      rfl
theorem lg_len {Y : LV} : ∀ (as : List AV), (lg_sl (as.map (cv Y))).length = (entL as).length
  | [] => rfl
  | a :: t => by
    have ih := lg_len (Y := Y) t
    show (lg_sl (cv Y a :: t.map (cv Y))).length = (if ac2 (some a) then some a :: none :: entL t else some a :: entL t).length
    unfold lg_sl at ih ⊢
    rw [List.flatMap_cons, List.length_append, ih]
    cases h : ac2 (some a) with
    | true => rw [if_pos (ac2_cv2 h)]; simp; omega
    | false => rw [if_neg (by rw [ac2_cv h]; decide)]; simp; omega
theorem MC.of {l : Launch} {G : GT} {y : MethodName} {b : ByteArray} {maxL : Nat} {ret : Option FieldType} {rm : Room} {ks : List Nat} {lk : Nat → Nat → Nat} {as : List AV} {M : Mem} {post : Option AV → Mem → Prop} (own : String) (L0 : List (Option AV)) (z : Nat)
    (hy : plainName y.cls = true) (ho : y.cls = own) (hL : entL as ++ List.replicate z none = L0) (hn : L0.length = maxL)
    (body : ∀ (p : Program) (e : Env) (s : State) (m : MethodId) (args : Array Value) (below : List Frame) (meth : Method) (c : Code) (ad : Nat → Nat → Nat), EN p s m args meth c G (ks, lk, ad) b own maxL ret → WM p l e rm s m args below meth c G (ks, lk, ad) maxL (MQ below (QCm G (ks, lk, ad) post s.heap.size) args s rm.cells rm.slots (AS (ks, lk, ad) s.heap.size)) M 0 0 0 L0 []) : MC l G y b maxL ret rm ks lk as M post := by
  intro ad sz
  refine Met.ofW (cc := b) (maxL := maxL) (ret := ret) hy rfl ?_
  intro p e s m args below meth c s₁ B hml hv
  obtain ⟨rfl, rfl, hP, hD, hG⟩ := hv
  have hts := atoms_spec (ws := .code y b maxL ret :: BIG) B.pre
  have hE : EN p s m (as.map (cv (ks, lk, ad))).toArray meth c G (ks, lk, ad) b own maxL ret := ⟨B.exec, B.bytes, hml, ho ▸ findClass_of_methodNamed B.named, fun w hw => hts w (List.mem_cons_of_mem _ hw), B.returns, B.notSynchronized, hG, hD⟩
  have hlen : (entL as).length + z = maxL := by rw [← hn, ← hL]; simp
  have hl := lv_entry (as.map (cv (ks, lk, ad))) (n := maxL) (by rw [lg_len]; omega)
  rw [lg_entry_eq]
  generalize (lg_sl (as.map (cv (ks, lk, ad))) ++ List.replicate (maxL - (lg_sl (as.map (cv (ks, lk, ad)))).length) Slot.unset).toArray = ls at hl ⊢
  have hl2 : lv_has ls maxL (lvl (ks, lk, ad) 0 L0) := by rw [← hL, lvl_ent]; exact hl
  exact body p e s m _ below meth c ad hE s.heap [] ls hP va_S.rf hl2
section RE
variable {p : Program} {l : Launch} {e : Env} {R : Room} {s : State} {m : MethodId} {args : Array Value} {below : List Frame} {meth : Method} {c : Code} {G : GT} {Y : LV} {nL : Nat} {Q : State → Prop} {M : Mem} {k n pc mc ms : Nat} {L : List (Option AV)} {S : List AV} {cc : ByteArray} {own : String} {ret : Option FieldType} {post : Option AV → Mem → Prop}
/-- the same modules, said otherwise -/
theorem r_mem {M' : Mem} (hM : M' = M) (kk : WM p l e R s m args below meth c G Y nL Q M' k n pc L S) : WM p l e R s m args below meth c G Y nL Q M k n pc L S := hM ▸ kk
/-- .. where they agree on all that is in the heap -/
theorem wl_congr {M M' : Mem} (h : ∀ j t, (j, t) ∈ KY Y → ceY G Y (M' j) j t = ceY G Y (M j) j t) : wl G Y M' = wl G Y M := by
  unfold wl
  refine List.map_congr_left ?_
  rintro ⟨j, t⟩ hq
  show (_, ceY G Y (M' j) j t) = (_, ceY G Y (M j) j t)
  rw [h j t hq]
theorem r_ireturn {v : Int32} (E : EN p s m args meth c G Y cc own nL (some .int)) (hd : decode cc pc = .ok (.ireturn, 1)) (hk : k ≤ mc) (hn : n ≤ ms) (hp : post (some (iv v)) M) : WM p l e R s m args below meth c G Y nL (MQ below (QCm G Y post s.heap.size) args s mc ms (AS Y s.heap.size)) M k n pc L [iv v] := by
  intro H locs ls hP hS hl
  obtain ⟨hx, hb, hml, hown, hts, hr, hlk, hG, hD⟩ := E
  refine W.widen hk hn ?_
  exact W.iret (v := v) (hlocks := hlk) hx hb hr (fun t ht hW => ⟨⟨some (iv v), M, rfl, hp, by rw [ht]; exact hP⟩, hS.F ht⟩) hS.2.2 hd
theorem r_zreturn {v : Int32} {ty : FieldType} (E : EN p s m args meth c G Y cc own nL (some ty)) (hd : decode cc pc = .ok (.ireturn, 1)) (hv : narrow ty (.int v) = .int v) (hk : k ≤ mc) (hn : n ≤ ms) (hp : post (some (iv v)) M) : WM p l e R s m args below meth c G Y nL (MQ below (QCm G Y post s.heap.size) args s mc ms (AS Y s.heap.size)) M k n pc L [iv v] := by
  intro H locs ls hP hS hl
  obtain ⟨hx, hb, hml, hown, hts, hr, hlk, hG, hD⟩ := E
  refine W.widen hk hn ?_
  exact W.zret (v := v) (hlocks := hlk) hx hb hr hv (fun t ht hW => ⟨⟨some (iv v), M, rfl, hp, by rw [ht]; exact hP⟩, hS.F ht⟩) hS.2.2 hd
theorem r_vreturn (E : EN p s m args meth c G Y cc own nL none) (hd : decode cc pc = .ok (.return_, 1)) (hk : k ≤ mc) (hn : n ≤ ms) (hp : post none M) : WM p l e R s m args below meth c G Y nL (MQ below (QCm G Y post s.heap.size) args s mc ms (AS Y s.heap.size)) M k n pc L [] := by
  intro H locs ls hP hS hl
  obtain ⟨hx, hb, hml, hown, hts, hr, hlk, hG, hD⟩ := E
  refine W.widen hk hn ?_
  exact W.vret (hlocks := hlk) hx hb hr (fun t ht hW => ⟨⟨none, M, rfl, hp, by rw [ht]; exact hP⟩, hS.F ht⟩) hS.2.2 hd
theorem r_areturn {v : AV} {C : String} (E : EN p s m args meth c G Y cc own nL (some (.object C))) (hd : decode cc pc = .ok (.areturn, 1)) (hv : v = .inl .null ∨ ∃ j t, v = rv j t) (hk : k ≤ mc) (hn : n ≤ ms) (hp : post (some v) M) : WM p l e R s m args below meth c G Y nL (MQ below (QCm G Y post s.heap.size) args s mc ms (AS Y s.heap.size)) M k n pc L [v] := by
  intro H locs ls hP hS hl
  obtain ⟨hx, hb, hml, hown, hts, hr, hlk, hG, hD⟩ := E
  refine W.widen hk hn ?_
  refine W.aret (v := cv Y v) (hlocks := hlk) hx hb hr (Or.inl ⟨C, rfl⟩) ?_ (fun t ht hW => ⟨⟨some v, M, rfl, hp, by rw [ht]; exact hP⟩, hS.F ht⟩) hS.2.2 hd
  rcases hv with rfl | ⟨j, t, rfl⟩
  · exact Or.inl rfl
  · exact Or.inr ⟨_, rfl⟩
end RE
