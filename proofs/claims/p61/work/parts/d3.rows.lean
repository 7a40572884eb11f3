/-! more rows over explicit cells: fields, byte arrays, copies, new cells, the returns -/
abbrev bA (G : GT) (N : Nat) (f : Nat → Int32) : va_E := .inl (G.2.1 1, (N, .inl f))
theorem fits8 {x : Int32} (h1 : -128 ≤ x) (h2 : x ≤ 127) : fits .byte (.int x) = true := by
  show (decide (-128 ≤ x) && decide (x ≤ 127)) = true
  simp [h1, h2]
def Fit8 (f : Nat → Int32) : Prop := ∀ i, fits .byte (.int (f i)) = true
theorem clone_cell {cA : ClassId} {N : Nat} {f : Nat → Int32} (hf : Fit8 f) : ∀ (i : Nat) (v : Value), (vp_cell cA (N, .inl f)).slots[i]? = some v → fits .byte v = true := by
  intro i v h
  have hlt : i < N := by
    have := (Array.getElem?_eq_some_iff.mp h).1
    rwa [show (vp_cell cA (N, .inl f)).slots.size = N from arrV_size _ _ _] at this
  have h2 : (arrV cA N (fun j => .int (f j))).slots[i]? = some (.int (f i)) := arrV_read _ _ hlt
  have h3 : some v = some (Value.int (f i)) := h.symm.trans h2
  injection h3 with h4
  rw [h4]
  exact hf i
section VCT
variable {p : Program} {l : Launch} {e : Env} {R : Room} {s : State} {m : MethodId} {args : Array Value} {below : List Frame} {meth : Method} {c : Code} {H : Heap} {locs : List Loc} {cells slots : Nat} {Q : State → Prop}
variable {pc : Nat} {ls : Array Slot} {rest : List Value} {D : va_G} {cl : List vw_C} {A : Nat → Prop} {a : Nat} {tys : List (ClassId × FieldType)} {ws : va_W}
/-- from bytes that nobody writes into a cell -/
theorem va_copyT {cc : ByteArray} (hexec : p.tables.exec = Jvm.exec) (hb : c.code = cc) (hml : c.maxLocals = ls.size) {own : String} {index : Nat} (hown : s.vm.findClass own = some m.cls) (hlink : (Cond.methodLink own index arraycopyName).before args s = true) (hnat : (Cond.native arraycopyName).before args s = true) (hstat : (Cond.static arraycopyName).before args s = true) (hini : (Cond.initialized "java/lang/System").before args s = true)
    (hK : va_K D cl tys s) (hP : va_P D cl ws H) (hD : va_D A ws) (hS : va_S A s.heap H locs) {b0 n0 : Nat} {f : Nat → Int32} (hX : va_T .byte b0 n0 (fun j => .int (f j)) A s s.heap) (q1 t1 : Nat) {c1 : ClassId} {n1 : Nat} {g : Nat → Int32} (ha1 : ws[q1]? = some (a, .inl (c1, n1, .inl g))) (ht1 : tys[t1]? = some (c1, .byte))
    {sp dp n : Int32} (h1 : ¬ sp < 0) (h2 : ¬ dp < 0) (h3 : ¬ n < 0) (h4 : sp.toNatClampNeg + n.toNatClampNeg ≤ n0) (h5 : dp.toNatClampNeg + n.toNatClampNeg ≤ n1) (hfit : ∀ i, i < n.toNatClampNeg → fits .byte (.int (f (sp.toNatClampNeg + i))) = true)
    (hframes : 1 ≤ R.frames) (hlocals : (rest.map fun v => v.category).sum + (nativeFrameWords "java/lang/System" "arraycopy" 5 + 11) ≤ R.locals) (hdg : decode cc pc = .ok (.invokestatic index, 3))
    (kk : ∀ (H1 : Heap) (locs1 : List Loc), va_P D cl (ws.set q1 (a, .inl (c1, n1, .inl (va_cpy f g sp.toNatClampNeg dp.toNatClampNeg n.toNatClampNeg)))) H1 → va_D A (ws.set q1 (a, .inl (c1, n1, .inl (va_cpy f g sp.toNatClampNeg dp.toNatClampNeg n.toNatClampNeg)))) → va_S A s.heap H1 locs1 → W p l e R s m args below meth c H1 locs1 cells slots Q (F0 m (pc + 3) ls rest)) : W p l e R s m args below meth c H locs cells slots Q (F0 m pc ls (.int n :: .int dp :: .ref a :: .int sp :: .ref b0 :: rest)) := by
  have nn : ∀ z : Int32, ¬ z < 0 → z.toInt = (z.toNatClampNeg : Int) := by
    intro z hz
    have hz0 : (0 : Int) ≤ z.toInt := by
      have := Int32.not_lt.mp hz
      simpa using Int32.le_iff_toInt_le.mp this
    show z.toInt = ((z.toInt.toNat : Nat) : Int)
    omega
  intro T hT X
  obtain ⟨scr, g1, g2, g3, g4, g5, g6, g7⟩ := hX
  have hc0 : H[b0]? = some scr := by rw [hS.2.1 b0 (Array.getElem?_eq_some_iff.mp g1).1 g7]; exact g1
  have hc1 : H[a]? = some (vp_cell c1 (n1, .inl g)) := hP q1 _ ha1
  obtain ⟨hs6, k0, hk0, cm0, hkk0⟩ := g2
  obtain ⟨-, k1, hk1, cm1, hkk1⟩ := (hK.2 t1 _ ht1).1 n1 (fun j => .int (g j))
  obtain ⟨vm', X', step⟩ := X.arraycopy hexec hown hlink hnat hstat hini (src := b0) (dst := a) (cs := scr) (cd := vp_cell c1 (n1, .inl g)) (srcPos := sp) (destPos := dp) (n := n) (by rw [hT]; exact hc0) (by rw [hT]; exact hc1)
    hs6 (fun _ h => by cases h) g3 (fun h => by cases h) hk0 hk1 hkk0 hkk1 (by simp [refKind]) h1 h2 h3
    (by rw [nn sp h1, nn n h3]; omega)
    (by rw [nn dp h2, nn n h3]; show ¬ _ > ((arrV c1 n1 (fun j => .int (g j))).slots.size : Int); rw [arrV_size]; omega)
    (fun vm₁ _ i hi => by
      have e : scr.slots.getD (sp.toNatClampNeg + i) .null = .int (f (sp.toNatClampNeg + i)) := by
        rw [Array.getD_eq_getD_getElem?, g6 _ (by omega)]
        rfl
      refine ⟨?_, ?_⟩
      · rw [e]
        exact hfit i hi
      · rw [e]
        exact trivial)
    (g := F0 m pc ls (.int n :: .int dp :: .ref a :: .int sp :: .ref b0 :: rest)) rfl (by rw [hml]) (rest := rest) rfl (by rw [hb]; exact hdg) hframes (by show 2 * 0 + _ + _ ≤ _; omega)
  have e1 : copied scr (vp_cell c1 (n1, .inl g)) sp dp n = vp_cell c1 (n1, .inl (va_cpy f g sp.toNatClampNeg dp.toNatClampNeg n.toNatClampNeg)) := va_copiedX (fun z => .int z) scr c1 f g g6 h4
  rw [e1] at X' step
  have hl : a < H.size := (Array.getElem?_eq_some_iff.mp hc1).1
  have hheap : ((T.setVm vm').setCell a (vp_cell c1 (n1, .inl (va_cpy f g sp.toNatClampNeg dp.toNatClampNeg n.toNatClampNeg)))).heap = H.setIfInBounds a (vp_cell c1 (n1, .inl (va_cpy f g sp.toNatClampNeg dp.toNatClampNeg n.toNatClampNeg))) := by rw [← hT]; rfl
  have oq : ∀ q : Nat, q ≠ a → (H.setIfInBounds a (vp_cell c1 (n1, .inl (va_cpy f g sp.toNatClampNeg dp.toNatClampNeg n.toNatClampNeg))))[q]? = H[q]? := fun q hq => by simp [Array.getElem?_setIfInBounds, Ne.symm hq]
  obtain ⟨t, a1, b1⟩ := kk _ _ (hP.set hD ha1 (show (H.setIfInBounds a _)[a]? = some _ by simp [Array.getElem?_setIfInBounds, hl]) oq) (hD.set ha1) ⟨by simp; exact hS.1, fun q g1 g2 => by
      rw [oq q (fun e => g2 (by rw [e]; exact hD.2 q1 _ ha1))]
      exact hS.2.1 q g1 g2, fun q hq => by
      rcases List.mem_append.mp hq with h | h
      · exact hS.2.2 q h
      · obtain ⟨z, -, hz⟩ := List.mem_map.mp h
        rw [← hz]
        exact hD.2 q1 _ ha1⟩ _ hheap X'
  exact ⟨t, step t a1, b1⟩
end VCT
section RZ3
variable {p : Program} {l : Launch} {e : Env} {R : Room} {s : State} {m : MethodId} {args : Array Value} {below : List Frame} {meth : Method} {c : Code} {G : GT} {cs : Nat → Nat → Nat} {nL : Nat} {Q : State → Prop} {A : Nat → Prop} {ws ws2 : va_W} {k n pc : Nat} {L L2 : List (Option AV)} {S : List AV} {cc : ByteArray} {own : String} {ret : Option FieldType}
theorem z_ws (h : ws = ws2) (kk : WZ p l e R s m args below meth c G (yz cs) A nL Q ws2 k n pc L S) : WZ p l e R s m args below meth c G (yz cs) A nL Q ws k n pc L S := h ▸ kk
theorem z_alR_n (E : EZ p s m args meth c G (yz cs) A cc own nL ret) {a : Fin 4} {i q : Nat} (hd : decode cc pc = .ok (.aload_n a, 1)) (hi : (a : Nat) = i) (hL : L[i]? = some (some (.inl (.ref q)))) (kk : WZ p l e R s m args below meth c G (yz cs) A nL Q ws k n (pc + 1) L (.inl (.ref q) :: S)) : WZ p l e R s m args below meth c G (yz cs) A nL Q ws k n pc L S := fun H locs ls hP hD hS hl => lv_aload_n E.1 E.2.1 hd hi (lvl_at hl hL) (kk H locs ls hP hD hS hl)
theorem z_alR (E : EZ p s m args meth c G (yz cs) A cc own nL ret) {i q : Nat} (hd : decode cc pc = .ok (.aload i, 2)) (hL : L[i]? = some (some (.inl (.ref q)))) (kk : WZ p l e R s m args below meth c G (yz cs) A nL Q ws k n (pc + 2) L (.inl (.ref q) :: S)) : WZ p l e R s m args below meth c G (yz cs) A nL Q ws k n pc L S := fun H locs ls hP hD hS hl => lv_aload E.1 E.2.1 hd (lvl_at hl hL) (kk H locs ls hP hD hS hl)
theorem z_asR_n (E : EZ p s m args meth c G (yz cs) A cc own nL ret) {a : Fin 4} {i q : Nat} (hd : decode cc pc = .ok (.astore_n a, 1)) (ha : (a : Nat) = i) (hi : i < L.length) (hn : L.length = nL) (hc : ∀ z, z + 1 = i → ac2 ((L[z]?).getD none) = false) (hL : L.set i (some (.inl (.ref q))) = L2) (kk : WZ p l e R s m args below meth c G (yz cs) A nL Q ws k n (pc + 1) L2 S) : WZ p l e R s m args below meth c G (yz cs) A nL Q ws k n pc L (.inl (.ref q) :: S) := fun H locs ls hP hD hS hl => lv_astore_n E.1 E.2.1 hd ha hl (hn ▸ hi) rfl (fun ls2 hl2 => kk H locs ls2 hP hD hS (hL ▸ lvl_set (v := .inl (.ref q)) rfl hi hc hl2))
theorem z_asR (E : EZ p s m args meth c G (yz cs) A cc own nL ret) {i q : Nat} (hd : decode cc pc = .ok (.astore i, 2)) (hi : i < L.length) (hn : L.length = nL) (hc : ∀ z, z + 1 = i → ac2 ((L[z]?).getD none) = false) (hL : L.set i (some (.inl (.ref q))) = L2) (kk : WZ p l e R s m args below meth c G (yz cs) A nL Q ws k n (pc + 2) L2 S) : WZ p l e R s m args below meth c G (yz cs) A nL Q ws k n pc L (.inl (.ref q) :: S) := fun H locs ls hP hD hS hl => lv_astore E.1 E.2.1 hd hl (hn ▸ hi) rfl (fun ls2 hl2 => kk H locs ls2 hP hD hS (hL ▸ lvl_set (v := .inl (.ref q)) rfl hi hc hl2))
theorem z_dupx1 (E : EZ p s m args meth c G (yz cs) A cc own nL ret) {a b : AV} (hd : decode cc pc = .ok (.dup_x1, 1)) (hc : ac2 (some a) = false) (hc2 : ac2 (some b) = false) (kk : WZ p l e R s m args below meth c G (yz cs) A nL Q ws k n (pc + 1) L (a :: b :: a :: S)) : WZ p l e R s m args below meth c G (yz cs) A nL Q ws k n pc L (a :: b :: S) := fun H locs ls hP hD hS hl => lv_dup_x1 E.1 E.2.1 hd (ac2_cv hc) (ac2_cv hc2) (kk H locs ls hP hD hS hl)
theorem z_nnul (E : EZ p s m args meth c G (yz cs) A cc own nL ret) {j t : Nat} {off : Int} {tgt : Nat} (hd : decode cc pc = .ok (.ifnonnull off, 3)) (ht : (pc : Int) + off = (tgt : Int)) (kk : WZ p l e R s m args below meth c G (yz cs) A nL Q ws k n tgt L S) : WZ p l e R s m args below meth c G (yz cs) A nL Q ws k n pc L (rv j t :: S) := fun H locs ls hP hD hS hl => lv_ifnonnull E.1 E.2.1 hd ht (kk H locs ls hP hD hS hl)
theorem z_null (E : EZ p s m args meth c G (yz cs) A cc own nL ret) (hd : decode cc pc = .ok (.aconst_null, 1)) (kk : WZ p l e R s m args below meth c G (yz cs) A nL Q ws k n (pc + 1) L (.inl .null :: S)) : WZ p l e R s m args below meth c G (yz cs) A nL Q ws k n pc L S := fun H locs ls hP hD hS hl => lv_null E.1 E.2.1 hd (kk H locs ls hP hD hS hl)
theorem z_obj (E : EZ p s m args meth c G (yz cs) A cc own nL ret) {idx q : Nat} (hd : decode cc pc = .ok (.invokespecial idx, 3)) (h1 : Cond.methodLink own idx objectInit ∈ BIG) (hf : 1 ≤ R.frames) (ho : 12 ≤ R.locals) (kk : WZ p l e R s m args below meth c G (yz cs) A nL Q ws k n (pc + 3) L []) : WZ p l e R s m args below meth c G (yz cs) A nL Q ws k n pc L [.inl (.ref q)] := by
  intro H locs ls hP hD hS hl
  obtain ⟨hx, hb, hml, hown, hts, hr, hlk, hG, hA, hX⟩ := E
  refine W.objInit hx hb hown (hts _ h1) (hts _ oi_2) (hts _ oi_3) rfl (by rw [hml]; exact hl.1) rfl hd hf ho ?_
  exact W.eq (g2 := F0 m (pc + 3) ls []) rfl (kk H locs ls hP hD hS hl)
theorem z_get (E : EZ p s m args meth c G (yz cs) A cc own nL ret) {idx ci NF a f : Nat} {C : String} {T : u_T} {fs : List Value} {v : Value} (q0 : Nat) (hw : ws[q0]? = some (a, .inr (ci, fs))) (hci : vwCl[ci]? = some (C, T, NF)) (hin : ∀ w ∈ u_ws C T NF, w ∈ BIG) (hf : f < NF) (hlk : Cond.fieldLink own idx (T f).1 (T f).2.1 (T f).2.2.1 ∈ BIG) (hv : fs[f]? = some v) (hd : decode cc pc = .ok (.getfield idx, 3)) (kk : WZ p l e R s m args below meth c G (yz cs) A nL Q ws k n (pc + 3) L (.inl v :: S)) : WZ p l e R s m args below meth c G (yz cs) A nL Q ws k n pc L (.inl (.ref a) :: S) := by
  intro H locs ls hP hD hS hl
  obtain ⟨hx, hb, hml, hown, hts, hr, hlk0, ⟨hnw, hK, hX⟩, hA, hAX⟩ := E
  exact va_get (D := G.1) hx hb hts hin hown hK hP q0 hw hci f hf (hts _ hlk) (fun _ h9 => h9) hv hd (kk H locs ls hP hD hS hl)
theorem z_put (E : EZ p s m args meth c G (yz cs) A cc own nL ret) {idx ci NF a f : Nat} {C : String} {T : u_T} {ty0 : Nat → FieldType} {ty : FieldType} {fs : List Value} {v : Value} (q0 : Nat) (hw : ws[q0]? = some (a, .inr (ci, fs))) (hci : vwCl[ci]? = some (C, T, NF)) (hin : ∀ w ∈ u_ws C T NF, w ∈ BIG) (hty : ∀ k, k < NF → parseFieldDescriptor (T k).2.2.1 = some (ty0 k)) (hnm : ∀ a, a < NF → ∀ b, b < NF → a ≠ b → (T a).2.1 ≠ (T b).2.1) (hf : f < NF) (hlk : Cond.fieldLink own idx (T f).1 (T f).2.1 (T f).2.2.1 ∈ BIG) (hfin : (T f).2.2.2 = false) (hd0 : parseFieldDescriptor (T f).2.2.1 = some ty) (hn : narrow ty v = v) (hfit : fits ty v = true) (hl0 : f < fs.length) (hw2 : ws.set q0 (a, .inr (ci, fs.set f v)) = ws2) (hd : decode cc pc = .ok (.putfield idx, 3)) (kk : WZ p l e R s m args below meth c G (yz cs) A nL Q ws2 k n (pc + 3) L S) : WZ p l e R s m args below meth c G (yz cs) A nL Q ws k n pc L (.inl v :: .inl (.ref a) :: S) := by
  intro H locs ls hP hD hS hl
  obtain ⟨hx, hb, hml, hown, hts, hr, hlk0, ⟨hnw, hK, hX⟩, hA, hAX⟩ := E
  exact va_put (D := G.1) hx hb hts hin ty0 hty hnm hown hK hP hD hS q0 hw hci f hf (hts _ hlk) (fun _ h9 => h9) hfin hd0 hn hfit hl0 hd (fun H1 locs1 hP1 hD1 hS1 => kk H1 locs1 ls (hw2 ▸ hP1) (hw2 ▸ hD1) hS1 hl)
theorem z_putF (E : EZ p s m args meth c G (yz cs) A cc own nL ret) (hini : meth.name = "<init>") {idx ci NF a f : Nat} {C : String} {T : u_T} {ty0 : Nat → FieldType} {ty : FieldType} {fs : List Value} {v : Value} (q0 : Nat) (hw : ws[q0]? = some (a, .inr (ci, fs))) (hci : vwCl[ci]? = some (C, T, NF)) (hin : ∀ w ∈ u_ws C T NF, w ∈ BIG) (hty : ∀ k, k < NF → parseFieldDescriptor (T k).2.2.1 = some (ty0 k)) (hnm : ∀ a, a < NF → ∀ b, b < NF → a ≠ b → (T a).2.1 ≠ (T b).2.1) (hf : f < NF) (hlk : Cond.fieldLink own idx (T f).1 (T f).2.1 (T f).2.2.1 ∈ BIG) (hfin : (T f).2.2.2 = true) (hdecl : (T f).1 = own) (hd0 : parseFieldDescriptor (T f).2.2.1 = some ty) (hn : narrow ty v = v) (hfit : fits ty v = true) (hl0 : f < fs.length) (hw2 : ws.set q0 (a, .inr (ci, fs.set f v)) = ws2) (hd : decode cc pc = .ok (.putfield idx, 3)) (kk : WZ p l e R s m args below meth c G (yz cs) A nL Q ws2 k n (pc + 3) L S) : WZ p l e R s m args below meth c G (yz cs) A nL Q ws k n pc L (.inl v :: .inl (.ref a) :: S) := by
  intro H locs ls hP hD hS hl
  obtain ⟨hx, hb, hml, hown, hts, hr, hlk0, ⟨hnw, hK, hX⟩, hA, hAX⟩ := E
  exact va_putF (D := G.1) hx hb hts hin ty0 hty hnm hown hK hP hD hS q0 hw hci f hf (hts _ hlk) (fun _ h9 => h9) hfin hini hdecl hd0 hn hfit hl0 hd (fun H1 locs1 hP1 hD1 hS1 => kk H1 locs1 ls (hw2 ▸ hP1) (hw2 ▸ hD1) hS1 hl)
theorem z_alen (E : EZ p s m args meth c G (yz cs) A cc own nL ret) {a N : Nat} {f : Nat → Int32} (q0 : Nat) (hw : ws[q0]? = some (a, bA G N f)) (hd : decode cc pc = .ok (.arraylength, 1)) (kk : WZ p l e R s m args below meth c G (yz cs) A nL Q ws k n (pc + 1) L (iv (nI N) :: S)) : WZ p l e R s m args below meth c G (yz cs) A nL Q ws k n pc L (.inl (.ref a) :: S) := by
  intro H locs ls hP hD hS hl
  obtain ⟨hx, hb, hml, hown, hts, hr, hlk0, ⟨hnw, hK, hX⟩, hA, hAX⟩ := E
  exact va_alen hx hb hK hP q0 1 hw (ty := .byte) rfl (v := nI N) rfl hd (kk H locs ls hP hD hS hl)
theorem z_bast (E : EZ p s m args meth c G (yz cs) A cc own nL ret) {a N i : Nat} {f : Nat → Int32} {x y z : Int32} (q0 : Nat) (hw : ws[q0]? = some (a, bA G N f)) (hx0 : x = nI i) (hi : i < N) (hN : N ≤ 4096) (hz : vp_nar .byte y = z) (hw2 : ws.set q0 (a, bA G N (upd f i z)) = ws2) (hd : decode cc pc = .ok (.bastore, 1)) (kk : WZ p l e R s m args below meth c G (yz cs) A nL Q ws2 k n (pc + 1) L S) : WZ p l e R s m args below meth c G (yz cs) A nL Q ws k n pc L (iv y :: iv x :: .inl (.ref a) :: S) := by
  intro H locs ls hP hD hS hl
  obtain ⟨hx, hb, hml, hown, hts, hr, hlk0, ⟨hnw, hK, hX⟩, hA, hAX⟩ := E
  subst hz
  exact va_bast hx hb hK hP hD hS q0 1 hw rfl (vp_nI hx0 hi hN) hd (fun H1 locs1 hP1 hD1 hS1 => by
    rw [cl_nI hx0 hi hN] at hP1 hD1
    exact kk H1 locs1 ls (hw2 ▸ hP1) (hw2 ▸ hD1) hS1 hl)
theorem z_tens (E : EZ p s m args meth c G (yz cs) A cc own nL ret) {idx : Nat} (hlk : Cond.fieldLink own idx "java/lang/Integer" "DigitTens" "[B" ∈ BIG) (hd : decode cc pc = .ok (.getstatic idx, 3)) (kk : WZ p l e R s m args below meth c G (yz cs) A nL Q ws k n (pc + 3) L (rv 99 100 :: S)) : WZ p l e R s m args below meth c G (yz cs) A nL Q ws k n pc L S := by
  intro H locs ls hP hD hS hl
  obtain ⟨hx, hb, hml, hown, hts, hr, hlk0, ⟨hnw, hK, hX⟩, hA, hAX⟩ := E
  exact va_gets hx hb hX.2.2.2.2.1 hS hown (hts _ hlk) (fun _ h => h) hd (kk H locs ls hP hD hS hl)
theorem z_ones (E : EZ p s m args meth c G (yz cs) A cc own nL ret) {idx : Nat} (hlk : Cond.fieldLink own idx "java/lang/Integer" "DigitOnes" "[B" ∈ BIG) (hd : decode cc pc = .ok (.getstatic idx, 3)) (kk : WZ p l e R s m args below meth c G (yz cs) A nL Q ws k n (pc + 3) L (rv 99 101 :: S)) : WZ p l e R s m args below meth c G (yz cs) A nL Q ws k n pc L S := by
  intro H locs ls hP hD hS hl
  obtain ⟨hx, hb, hml, hown, hts, hr, hlk0, ⟨hnw, hK, hX⟩, hA, hAX⟩ := E
  exact va_gets hx hb hX.2.2.2.2.2.2.1 hS hown (hts _ hlk) (fun _ h => h) hd (kk H locs ls hP hD hS hl)
theorem z_tensA (E : EZ p s m args meth c G (yz cs) A cc own nL ret) {i : Nat} {x : Int32} (hx0 : x = nI i) (hi : i < 100) (hd : decode cc pc = .ok (.baload, 1)) (kk : WZ p l e R s m args below meth c G (yz cs) A nL Q ws k n (pc + 1) L (iv (tenI.getD i 0) :: S)) : WZ p l e R s m args below meth c G (yz cs) A nL Q ws k n pc L (iv x :: rv 99 100 :: S) := by
  intro H locs ls hP hD hS hl
  obtain ⟨hx, hb, hml, hown, hts, hr, hlk0, ⟨hnw, hK, hX⟩, hA, hAX⟩ := E
  exact va_tb hx hb hX.2.2.2.2.2.1 hS (vp_nI hx0 hi (by omega)) (by rw [cl_nI hx0 hi (by omega)]; rfl) hd (kk H locs ls hP hD hS hl)
theorem z_onesA (E : EZ p s m args meth c G (yz cs) A cc own nL ret) {i : Nat} {x : Int32} (hx0 : x = nI i) (hi : i < 100) (hd : decode cc pc = .ok (.baload, 1)) (kk : WZ p l e R s m args below meth c G (yz cs) A nL Q ws k n (pc + 1) L (iv (oneI.getD i 0) :: S)) : WZ p l e R s m args below meth c G (yz cs) A nL Q ws k n pc L (iv x :: rv 99 101 :: S) := by
  intro H locs ls hP hD hS hl
  obtain ⟨hx, hb, hml, hown, hts, hr, hlk0, ⟨hnw, hK, hX⟩, hA, hAX⟩ := E
  exact va_tb hx hb hX.2.2.2.2.2.2.2.1 hS (vp_nI hx0 hi (by omega)) (by rw [cl_nI hx0 hi (by omega)]; rfl) hd (kk H locs ls hP hD hS hl)
theorem z_copyC (E : EZ p s m args meth c G (yz cs) A cc own nL ret) {idx a a0 N N0 sp dp q : Nat} {f g : Nat → Int32} {x y z : Int32} (q0 q1 : Nat) (hw0 : ws[q0]? = some (a0, bA G N0 f)) (hw1 : ws[q1]? = some (a, bA G N g)) (hx0 : x = nI sp) (hy0 : y = nI dp) (hz0 : z = nI q) (h4 : sp + q ≤ N0) (h5 : dp + q ≤ N) (hN0 : N0 ≤ 4096) (hN : N ≤ 4096) (hfit : Fit8 f) (hlk : Cond.methodLink own idx arraycopyName ∈ BIG) (hR : 1 ≤ R.frames ∧ (S.map fun v => if ac2 (some v) then 2 else 1).sum + (nativeFrameWords "java/lang/System" "arraycopy" 5 + 11) ≤ R.locals) (hw2 : ws.set q1 (a, bA G N (va_cpy f g sp dp q)) = ws2) (hd : decode cc pc = .ok (.invokestatic idx, 3))
    (kk : WZ p l e R s m args below meth c G (yz cs) A nL Q ws2 k n (pc + 3) L S) : WZ p l e R s m args below meth c G (yz cs) A nL Q ws k n pc L (iv z :: iv y :: .inl (.ref a) :: iv x :: .inl (.ref a0) :: S) := by
  intro H locs ls hP hD hS hl
  obtain ⟨hx, hb, hml, hown, hts, hr, hlk0, ⟨hnw, hK, hX⟩, hA, hAX⟩ := E
  subst hx0; subst hy0; subst hz0
  have c1 : (nI sp).toNatClampNeg = sp := nI_clamp (by omega)
  have c2 : (nI dp).toNatClampNeg = dp := nI_clamp (by omega)
  have c3 : (nI q).toNatClampNeg = q := nI_clamp (by omega)
  refine va_copyi hx hb (hml.trans hl.1.symm) hown (hts _ hlk) (hts _ w_ac2) (hts _ w_ac1) (hts _ w_ac3) hK hP hD hS q0 q1 1 1 (ty := .byte) hw0 hw1 rfl rfl rfl (nI_pos (by omega)) (nI_pos (by omega)) (nI_pos (by omega)) (by rw [c1, c3]; exact h4) (by rw [c2, c3]; exact h5) (fun i _ => hfit _) hR.1 (by rw [cat_sum]; exact hR.2) hd (fun H1 locs1 hP1 hD1 hS1 => ?_)
  rw [c1, c2, c3] at hP1 hD1
  exact kk H1 locs1 ls (hw2 ▸ hP1) (hw2 ▸ hD1) hS1 hl
theorem z_copyS (E : EZ p s m args meth c G (yz cs) A cc own nL ret) {idx a i N dp q : Nat} {g : Nat → Int32} {x y z : Int32} (q1 : Nat) (hi : i < 14) (hw1 : ws[q1]? = some (a, bA G N g)) (hx0 : x = nI 0) (hy0 : y = nI dp) (hz0 : z = nI q) (h4 : q ≤ lenJS.getD i 0) (h5 : dp + q ≤ N) (hN : N ≤ 4096) (hfit : ∀ j, fits .byte (.int (bJS i j)) = true) (hlk : Cond.methodLink own idx arraycopyName ∈ BIG) (hR : 1 ≤ R.frames ∧ (S.map fun v => if ac2 (some v) then 2 else 1).sum + (nativeFrameWords "java/lang/System" "arraycopy" 5 + 11) ≤ R.locals) (hw2 : ws.set q1 (a, bA G N (va_cpy (bJS i) g 0 dp q)) = ws2) (hd : decode cc pc = .ok (.invokestatic idx, 3))
    (kk : WZ p l e R s m args below meth c G (yz cs) A nL Q ws2 k n (pc + 3) L S) : WZ p l e R s m args below meth c G (yz cs) A nL Q ws k n pc L (iv z :: iv y :: .inl (.ref a) :: iv x :: rv 99 i :: S) := by
  intro H locs ls hP hD hS hl
  obtain ⟨hx, hb, hml, hown, hts, hr, hlk0, ⟨hnw, hK, hX⟩, hA, hAX⟩ := E
  subst hx0; subst hy0; subst hz0
  have h9 := lenJS_le i hi
  have c1 : (nI 0).toNatClampNeg = 0 := rfl
  have c2 : (nI dp).toNatClampNeg = dp := nI_clamp (by omega)
  have c3 : (nI q).toNatClampNeg = q := nI_clamp (by omega)
  refine va_copyT hx hb (hml.trans hl.1.symm) hown (hts _ hlk) (hts _ w_ac2) (hts _ w_ac1) (hts _ w_ac3) hK hP hD hS (f := bJS i) (hX.1 i hi).2.2.2.2 q1 1 hw1 rfl (nI_pos (by omega)) (nI_pos (by omega)) (nI_pos (by omega)) (by rw [c1, c3]; omega) (by rw [c2, c3]; exact h5) (fun i _ => hfit _) hR.1 (by rw [cat_sum]; exact hR.2) hd (fun H1 locs1 hP1 hD1 hS1 => ?_)
  rw [c1, c2, c3] at hP1 hD1
  exact kk H1 locs1 ls (hw2 ▸ hP1) (hw2 ▸ hD1) hS1 hl
theorem z_newB (E : EZ p s m args meth c G (yz cs) A cc own nL ret) {N : Nat} {x : Int32} (hx0 : x = nI N) (hN : N ≤ 4096) (hc : k + 1 ≤ R.cells) (hs : n + N ≤ R.slots) (hd : decode cc pc = .ok (.newarray .byte, 2))
    (kk : ∀ q : Nat, WZ p l e R s m args below meth c G (yz cs) A nL Q (ws ++ [(q, bA G N (fun _ => 0))]) (k + 1) (n + N) (pc + 2) L (.inl (.ref q) :: S)) : WZ p l e R s m args below meth c G (yz cs) A nL Q ws k n pc L (iv x :: S) := by
  intro H locs ls hP hD hS hl
  obtain ⟨hx, hb, hml, hown, hts, hr, hlk0, ⟨hnw, hK, hX⟩, hA, hAX⟩ := E
  subst hx0
  refine va_newa (D := G.1) (N' := N) (atype := .byte) (a0 := (N, .inl (fun _ => 0))) hx hb (hts _ an_byte) (ty := .byte) rfl hK hP hD hS hA (fun cA => rfl) (nI_pos (by omega)) (nI_clamp (by omega)) (by show N * 1 ≤ _; omega) hc hs hd (fun q cA H1 hK1 hP1 hD1 hS1 => ?_)
  have e1 : s.vm.findClass ("[" ++ (FieldType.byte).toString) = some cA := (hK1.2 (tyG G).length (cA, .byte) (by rw [List.getElem?_append_right (Nat.le_refl _), Nat.sub_self]; rfl)).2
  have e2 : s.vm.findClass ("[" ++ (FieldType.byte).toString) = some (G.2.1 1) := (hK.2 1 (G.2.1 1, .byte) rfl).2
  have e3 : cA = G.2.1 1 := Option.some.inj (e1.symm.trans e2)
  subst e3
  exact kk q H1 locs ls hP1 hD1 hS1 hl
theorem z_newO (E : EZ p s m args meth c G (yz cs) A cc own nL ret) {idx ci NF : Nat} {C : String} {T : u_T} {ty0 : Nat → FieldType} {fs : List Value} (hci : vwCl[ci]? = some (C, T, NF)) (hin : ∀ w ∈ u_ws C T NF, w ∈ BIG) (hty : ∀ k, k < NF → parseFieldDescriptor (T k).2.2.1 = some (ty0 k)) (hcl : Cond.classLink own idx C ∈ BIG) (hinst : Cond.instantiable C NF ∈ BIG) (hini : Cond.initialized C ∈ BIG) (hfs : ∀ j, j < NF → defaultValue (ty0 j) = vp_V fs j) (hc : k + 1 ≤ R.cells) (hs : n + NF ≤ R.slots) (hd : decode cc pc = .ok (.new idx, 3))
    (kk : ∀ q : Nat, WZ p l e R s m args below meth c G (yz cs) A nL Q (ws ++ [(q, .inr (ci, fs))]) (k + 1) (n + NF) (pc + 3) L (.inl (.ref q) :: S)) : WZ p l e R s m args below meth c G (yz cs) A nL Q ws k n pc L S := by
  intro H locs ls hP hD hS hl
  obtain ⟨hx, hb, hml, hown, hts, hr, hlk0, ⟨hnw, hK, hX⟩, hA, hAX⟩ := E
  exact va_new (D := G.1) hx hb hts hin ty0 hty hown (hts _ hcl) (hts _ hinst) (hts _ hini) hK hP hD hS hA hci hfs hc hs hd (fun q H1 hP1 hD1 hS1 => kk q H1 locs ls hP1 hD1 hS1 hl)
theorem w_cl1 : Cond.methodLink "java/util/Arrays" 310 ⟨"[B", "clone", "()Ljava/lang/Object;"⟩ ∈ BIG := bg_5 116 (by decide +kernel)
theorem w_cl2 : Cond.classLink "java/util/Arrays" 311 "[B" ∈ BIG := bg_5 122 (by decide +kernel)
theorem z_clone (E : EZ p s m args meth c G (yz cs) A cc "java/util/Arrays" nL ret) {a N : Nat} {f : Nat → Int32} (q0 : Nat) (hw : ws[q0]? = some (a, bA G N f)) (hf : Fit8 f) (hfr : 1 ≤ R.frames) (hlo : (S.map fun v => if ac2 (some v) then 2 else 1).sum + 14 ≤ R.locals) (hc : k + 1 ≤ R.cells) (hs : n + N ≤ R.slots) (hd : decode cc pc = .ok (.invokevirtual 310, 3))
    (kk : ∀ q : Nat, WZ p l e R s m args below meth c G (yz cs) A nL Q (ws ++ [(q, bA G N f)]) (k + 1) (n + N) (pc + 3) L (.inl (.ref q) :: S)) : WZ p l e R s m args below meth c G (yz cs) A nL Q ws k n pc L (.inl (.ref a) :: S) := by
  intro H locs ls hP hD hS hl
  obtain ⟨hx, hb, hml, hown, hts, hr, hlk0, ⟨hnw, hK, hX⟩, hA, hAX⟩ := E
  exact va_clone (D := G.1) hx hb (hml.trans hl.1.symm) hown (hts _ w_cl1) (hts _ (bg_5 117 (by decide +kernel))) (hts _ (bg_5 118 (by decide +kernel))) (hts _ (bg_5 119 (by decide +kernel))) (hts _ (bg_5 120 (by decide +kernel))) (hnw _ (nw_5 121 (by decide +kernel))) hK hP hD hS hA q0 1 hw rfl (hK.2 1 (G.2.1 1, .byte) rfl).2 (clone_cell hf) hfr (by rw [cat_sum]; exact hlo) hc hs hd (fun q H1 _ hP1 hD1 hS1 => kk q H1 locs ls hP1 hD1 hS1 hl)
theorem z_castB (E : EZ p s m args meth c G (yz cs) A cc "java/util/Arrays" nL ret) {a N : Nat} {f : Nat → Int32} (q0 : Nat) (hw : ws[q0]? = some (a, bA G N f)) (hd : decode cc pc = .ok (.checkcast 311, 3)) (kk : WZ p l e R s m args below meth c G (yz cs) A nL Q ws k n (pc + 3) L (.inl (.ref a) :: S)) : WZ p l e R s m args below meth c G (yz cs) A nL Q ws k n pc L (.inl (.ref a) :: S) := by
  intro H locs ls hP hD hS hl
  obtain ⟨hx, hb, hml, hown, hts, hr, hlk0, ⟨hnw, hK, hX⟩, hA, hAX⟩ := E
  exact va_castA (nm := "[B") hx hb hown (hts _ w_cl2) hP q0 hw (hK.2 1 (G.2.1 1, .byte) rfl).2 hd (kk H locs ls hP hD hS hl)
variable {post : Option Value → va_W → Prop} {wc : va_W} {mc ms : Nat}
theorem z_ireturn (E : EZ p s m args meth c G (yz cs) (va_A wc s.heap.size) cc own nL (some .int)) {v : Int32} (hd : decode cc pc = .ok (.ireturn, 1)) (hk : k ≤ mc) (hn : n ≤ ms) (hp : post (some (.int v)) ws) : WZ p l e R s m args below meth c G (yz cs) (va_A wc s.heap.size) nL (MQ below (QNw G wc post s.heap.size) args s mc ms (va_A wc s.heap.size)) ws k n pc L [iv v] := by
  intro H locs ls hP hD hS hl
  obtain ⟨hx, hb, hml, hown, hts, hr, hlk, hG, hA, hX⟩ := E
  refine W.widen hk hn ?_
  exact W.iret (v := v) (hlocks := hlk) hx hb hr (fun t ht hW => ⟨⟨some (.int v), ws, rfl, hp, by rw [ht]; exact hP, hD⟩, hS.F ht⟩) hS.2.2 hd
theorem z_zreturn {ty : FieldType} (E : EZ p s m args meth c G (yz cs) (va_A wc s.heap.size) cc own nL (some ty)) {v : Int32} (hv : narrow ty (.int v) = .int v) (hd : decode cc pc = .ok (.ireturn, 1)) (hk : k ≤ mc) (hn : n ≤ ms) (hp : post (some (.int v)) ws) : WZ p l e R s m args below meth c G (yz cs) (va_A wc s.heap.size) nL (MQ below (QNw G wc post s.heap.size) args s mc ms (va_A wc s.heap.size)) ws k n pc L [iv v] := by
  intro H locs ls hP hD hS hl
  obtain ⟨hx, hb, hml, hown, hts, hr, hlk, hG, hA, hX⟩ := E
  refine W.widen hk hn ?_
  exact W.zret (v := v) (hlocks := hlk) hx hb hr hv (fun t ht hW => ⟨⟨some (.int v), ws, rfl, hp, by rw [ht]; exact hP, hD⟩, hS.F ht⟩) hS.2.2 hd
theorem z_vreturn (E : EZ p s m args meth c G (yz cs) (va_A wc s.heap.size) cc own nL none) (hd : decode cc pc = .ok (.return_, 1)) (hk : k ≤ mc) (hn : n ≤ ms) (hp : post none ws) : WZ p l e R s m args below meth c G (yz cs) (va_A wc s.heap.size) nL (MQ below (QNw G wc post s.heap.size) args s mc ms (va_A wc s.heap.size)) ws k n pc L [] := by
  intro H locs ls hP hD hS hl
  obtain ⟨hx, hb, hml, hown, hts, hr, hlk, hG, hA, hX⟩ := E
  refine W.widen hk hn ?_
  exact W.vret (hlocks := hlk) hx hb hr (fun t ht hW => ⟨⟨none, ws, rfl, hp, by rw [ht]; exact hP, hD⟩, hS.F ht⟩) hS.2.2 hd
theorem z_areturn {ty : FieldType} (E : EZ p s m args meth c G (yz cs) (va_A wc s.heap.size) cc own nL (some ty)) {a : Nat} (hty : (∃ C, ty = .object C) ∨ ∃ t, ty = .array t) (hd : decode cc pc = .ok (.areturn, 1)) (hk : k ≤ mc) (hn : n ≤ ms) (hp : post (some (.ref a)) ws) : WZ p l e R s m args below meth c G (yz cs) (va_A wc s.heap.size) nL (MQ below (QNw G wc post s.heap.size) args s mc ms (va_A wc s.heap.size)) ws k n pc L [.inl (.ref a)] := by
  intro H locs ls hP hD hS hl
  obtain ⟨hx, hb, hml, hown, hts, hr, hlk, hG, hA, hX⟩ := E
  refine W.widen hk hn ?_
  exact W.aret (v := .ref a) (hlocks := hlk) hx hb hr hty (Or.inr ⟨_, rfl⟩) (fun t ht hW => ⟨⟨some (.ref a), ws, rfl, hp, by rw [ht]; exact hP, hD⟩, hS.F ht⟩) hS.2.2 hd
/-- a method of a String constant -/
theorem z_callK (E : EZ p s m args meth c G (yz cs) A cc own nL ret) {idx i : Nat} {y : MethodName} {b : ByteArray} {maxL N : Nat} {ret' : Option FieldType} {rm : Room} {as : List AV} {wc wr : va_W} {post : Option Value → va_W → Prop} {isC isR : List Nat} {st : List AV}
    (hi0 : i < 14) (hM : NC l G y b maxL ret' rm cs (rv 97 i :: as) wc post) (hyc : y.cls = "java/lang/String") (hy : MYo y b maxL ret' N) (hi : Cond.instanceMethod y ∈ BIG ∧ Cond.selects y.cls y y ∈ BIG) (hlk : Cond.methodLink own idx y ∈ BIG) (hC : isC.map (fun i => ws[i]?) = wc.map some) (hnC : va_nd isC = true) (hR : isR.map (fun i => ws[i]?) = wr.map some) (hn : va_nd isR = true) (hdis : ∀ i ∈ isR, i ∉ isC)
    (hN : as.length = N) (hst : as.reverse ++ rv 97 i :: S = st) (hroom : rm.frames + 1 ≤ R.frames ∧ 8 + (maxL + 11) + rm.locals ≤ R.locals ∧ k + rm.cells ≤ R.cells ∧ n + rm.slots ≤ R.slots) (hst8 : (S.map fun v => if ac2 (some v) then 2 else 1).sum ≤ 8) (hd : decode cc pc = .ok (.invokevirtual idx, 3))
    (kk : ∀ r w2, post r w2 → WZ p l e R s m args below meth c G (yz cs) A nL Q (wr ++ w2) (k + rm.cells) (n + rm.slots) (pc + 3) L ((r.map Sum.inl).toList ++ S)) : WZ p l e R s m args below meth c G (yz cs) A nL Q ws k n pc L st := by
  intro H locs ls hP hD hS hl
  obtain ⟨hx, hb, hml, hown, hts, hr, hlk0, hG, hA, hX⟩ := E
  obtain ⟨hy1, hy2, hy3, hy4, hy5⟩ := hy
  obtain ⟨cell, g1, g2, g3, -⟩ := (hG.2.2.1 i hi0).2.1.kept hS.2.1
  have hrun := va_runV (p := p) (l := l) (e := e) (R := R) (s := s) (m := m) (args := args) (below := below) (meth := meth) (c := c) (H := H) (locs := locs) (cells := k) (slots := n) (As := as.map (cv (yz cs))) (rest := S.map (cv (yz cs))) (b := cs 97 i) (own := own) (C := y.cls) (n := N) (nL := nL) (Ts := BIG) (g := F0 m pc ls (st.map (cv (yz cs)))) (index := idx)
    ⟨hx, hb, hml, hown, hts⟩ (hM H.size) (ret := ret')
    ⟨callB_of (ws' := BIG) N hts (big_good hy2) rfl rfl rfl (hts _ hy1) (hts _ hlk) ⟨hy3, hy4, hy5⟩ ⟨hroom.1, hroom.2.1⟩, hts _ hi.1, hts _ hi.2⟩
    ⟨PNw.blind, ⟨cell, g1, g2, hyc ▸ g3⟩, fun U hU hW => z_pre (as := rv 97 i :: as) hC hnC hP hD hS hA hX hG hU hW⟩ rfl (by simpa using hN) hl.1
    (by
      show st.map (cv (yz cs)) = _
      rw [← hst, List.map_append, List.map_reverse]
      rfl)
    (lv_room (by rw [cat_sum]; exact hst8)) hd ⟨hroom.2.2.1, hroom.2.2.2⟩
  exact z_on hC hR hn hdis hA hP hD hS hl hrun kk
/-- a constructor with arguments -/
theorem z_callI (E : EZ p s m args meth c G (yz cs) A cc own nL ret) {idx a : Nat} {y : MethodName} {b : ByteArray} {maxL N : Nat} {rm : Room} {as : List AV} {wc wr : va_W} {post : Option Value → va_W → Prop} {isC isR : List Nat} {st : List AV}
    (hM : NC l G y b maxL none rm cs (.inl (.ref a) :: as) wc post) (hno : y.name = "<init>") (hy : MYo y b maxL none N) (hi : Cond.instanceMethod y ∈ BIG) (hlk : Cond.methodLink own idx y ∈ BIG) (hC : isC.map (fun i => ws[i]?) = wc.map some) (hnC : va_nd isC = true) (hR : isR.map (fun i => ws[i]?) = wr.map some) (hn : va_nd isR = true) (hdis : ∀ i ∈ isR, i ∉ isC)
    (hN : as.length = N) (hst : as.reverse ++ .inl (.ref a) :: S = st) (hroom : rm.frames + 1 ≤ R.frames ∧ 8 + (maxL + 11) + rm.locals ≤ R.locals ∧ k + rm.cells ≤ R.cells ∧ n + rm.slots ≤ R.slots) (hst8 : (S.map fun v => if ac2 (some v) then 2 else 1).sum ≤ 8) (hd : decode cc pc = .ok (.invokespecial idx, 3))
    (kk : ∀ r w2, post r w2 → WZ p l e R s m args below meth c G (yz cs) A nL Q (wr ++ w2) (k + rm.cells) (n + rm.slots) (pc + 3) L ((r.map Sum.inl).toList ++ S)) : WZ p l e R s m args below meth c G (yz cs) A nL Q ws k n pc L st := by
  intro H locs ls hP hD hS hl
  obtain ⟨hx, hb, hml, hown, hts, hr, hlk0, hG, hA, hX⟩ := E
  obtain ⟨hy1, hy2, hy3, hy4, hy5⟩ := hy
  have hrun := va_runI (p := p) (l := l) (e := e) (R := R) (s := s) (m := m) (args := args) (below := below) (meth := meth) (c := c) (H := H) (locs := locs) (cells := k) (slots := n) (As := as.map (cv (yz cs))) (rest := S.map (cv (yz cs))) (b := a) (own := own) (n := N) (nL := nL) (Ts := BIG) (g := F0 m pc ls (st.map (cv (yz cs)))) (index := idx)
    ⟨hx, hb, hml, hown, hts⟩ (hM H.size)
    ⟨callB_of (ws' := BIG) N hts (big_good hy2) rfl rfl rfl (hts _ hy1) (hts _ hlk) ⟨hy3, hy4, hy5⟩ ⟨hroom.1, hroom.2.1⟩, hno, hts _ hi⟩
    ⟨PNw.blind, fun U hU hW => z_pre (as := .inl (.ref a) :: as) hC hnC hP hD hS hA hX hG hU hW⟩ rfl (by simpa using hN) hl.1
    (by
      show st.map (cv (yz cs)) = _
      rw [← hst, List.map_append, List.map_reverse]
      rfl)
    (lv_room (by rw [cat_sum]; exact hst8)) hd ⟨hroom.2.2.1, hroom.2.2.2⟩
  exact z_on hC hR hn hdis hA hP hD hS hl hrun kk
/-- a method that the receiver's class overrides -/
theorem z_callO (E : EZ p s m args meth c G (yz cs) A cc own nL ret) {idx : Nat} {x y : MethodName} {owner C : String} {b b0 : ByteArray} {maxL m0 N ci NF q0 a : Nat} {r0 : Option FieldType} {T : u_T} {fs : List Value} {ret' : Option FieldType} {rm : Room} {as : List AV} {wc wr : va_W} {post : Option Value → va_W → Prop} {isC isR : List Nat} {st : List AV}
    (hM : NC l G y b maxL ret' rm cs (.inl (.ref a) :: as) wc post) (hy : MYo y b maxL ret' N) (how : owner ≠ "java/lang/invoke/MethodHandle" ∧ owner ≠ "java/lang/invoke/VarHandle") (hpx : (parseMethodDescriptor x.desc).map (fun d => d.parameters.length) = some N) (h0 : Cond.code ⟨owner, x.name, x.desc⟩ b0 m0 r0 ∈ BIG) (hi0 : Cond.instanceMethod ⟨owner, x.name, x.desc⟩ ∈ BIG) (hsm : Cond.sameMethod x.cls owner x.name x.desc ∈ BIG) (hsel : Cond.selects C x y ∈ BIG) (hi : Cond.instanceMethod y ∈ BIG) (hlk : Cond.methodLink own idx x ∈ BIG) (hq : ws[q0]? = some (a, .inr (ci, fs))) (hci : vwCl[ci]? = some (C, T, NF))
    (hC : isC.map (fun i => ws[i]?) = wc.map some) (hnC : va_nd isC = true) (hR : isR.map (fun i => ws[i]?) = wr.map some) (hn : va_nd isR = true) (hdis : ∀ i ∈ isR, i ∉ isC)
    (hN : as.length = N) (hst : as.reverse ++ .inl (.ref a) :: S = st) (hroom : rm.frames + 1 ≤ R.frames ∧ 8 + (maxL + 11) + rm.locals ≤ R.locals ∧ k + rm.cells ≤ R.cells ∧ n + rm.slots ≤ R.slots) (hst8 : (S.map fun v => if ac2 (some v) then 2 else 1).sum ≤ 8) (hd : decode cc pc = .ok (.invokevirtual idx, 3))
    (kk : ∀ r w2, post r w2 → WZ p l e R s m args below meth c G (yz cs) A nL Q (wr ++ w2) (k + rm.cells) (n + rm.slots) (pc + 3) L ((r.map Sum.inl).toList ++ S)) : WZ p l e R s m args below meth c G (yz cs) A nL Q ws k n pc L st := by
  intro H locs ls hP hD hS hl
  obtain ⟨hx, hb, hml, hown, hts, hr, hlk0, hG, hA, hX⟩ := E
  obtain ⟨hy1, hy2, hy3, hy4, hy5⟩ := hy
  have hgood : GoodIn BIG (va_wsO own idx C owner x y (.code y b maxL ret' :: BIG)) := good_big (by
    unfold va_wsO
    refine in_app (fun w hw => ?_) hy2
    simp only [List.mem_cons, List.not_mem_nil, or_false] at hw
    rcases hw with rfl | rfl | rfl | rfl | rfl | rfl
    · exact hlk
    · exact hsm
    · exact hi0
    · exact hsel
    · exact hi
    · exact hy1)
  have hrcv := va_recv hG.2.1 hP hci hq
  have hrun := va_runU (p := p) (l := l) (e := e) (R := R) (s := s) (m := m) (args := args) (below := below) (meth := meth) (c := c) (H := H) (locs := locs) (cells := k) (slots := n) (b := a) (As := as.map (cv (yz cs))) (rest := S.map (cv (yz cs))) (own := own) (C := C) (n := N) (nL := nL) (Ts := BIG) (g := F0 m pc ls (st.map (cv (yz cs)))) (index := idx)
    ⟨hx, hb, hml, hown, hts⟩ (hM H.size) (va_cwO (ws' := BIG) N hts hgood rfl rfl rfl h0 ⟨how.1, how.2, hpx⟩ ⟨hroom.1, hroom.2.1⟩)
    ⟨PNw.blind, hrcv, fun U hU hW => z_pre (as := .inl (.ref a) :: as) hC hnC hP hD hS hA hX hG hU hW⟩ rfl (by simpa using hN) hl.1 (by
      show st.map (cv (yz cs)) = _
      rw [← hst, List.map_append, List.map_reverse]
      rfl)
    (lv_room (by rw [cat_sum]; exact hst8)) hd ⟨hroom.2.2.1, hroom.2.2.2⟩
  exact z_on hC hR hn hdis hA hP hD hS hl hrun kk
/-- a private method of the superclass -/
theorem sel_priv {C : String} {x0 y0 y : MethodName} {s : State} {args : Array Value} (h0 : (Cond.selects C x0 y0).before args s = true) (he : y0.cls = y.cls) (hy : y.cls ≠ "java/lang/invoke/MethodHandle" ∧ y.cls ≠ "java/lang/invoke/VarHandle") (hpriv : (Cond.privateMethod y).before args s = true) (hinst : (Cond.instanceMethod y).before args s = true) : (Cond.selects C y y).before args s = true := by
  obtain ⟨c2, r2, m2, q1, q2, q3, q4, kP, hkP, hkPi⟩ := Cond.selects_spec h0
  obtain ⟨mk, methM, hnamed, hmethM, -, -⟩ := Cond.instanceMethod_spec hinst
  have hfound : s.methodFound? y.cls y.name y.desc = some mk := State.methodFound?_of_named hnamed hy
  have hcls : mk.cls = m2.cls := Option.some.inj ((findClass_of_methodNamed hnamed).symm.trans (he ▸ findClass_of_methodNamed q3))
  have hsel : selectMethod {} s.vm c2 mk = .method mk := selectMethod_private hmethM (Cond.privateMethod_at hpriv mk methM hnamed hmethM)
  simp only [Cond.before, Cond.holds, Cond.value, q1, hfound, hnamed, hsel, hcls, hkP]
  simp; exact hkPi
theorem z_callP (E : EZ p s m args meth c G (yz cs) A cc own nL ret) {idx : Nat} {x0 y0 y : MethodName} {C : String} {b : ByteArray} {maxL N ci NF q0 a : Nat} {T : u_T} {fs : List Value} {ret' : Option FieldType} {rm : Room} {as : List AV} {wc wr : va_W} {post : Option Value → va_W → Prop} {isC isR : List Nat} {st : List AV}
    (hM : NC l G y b maxL ret' rm cs (.inl (.ref a) :: as) wc post) (hy : MYo y b maxL ret' N) (h0 : Cond.selects C x0 y0 ∈ BIG) (he : y0.cls = y.cls) (hpr : y ∈ pvW) (hsm : Cond.sameMethod y.cls y.cls y.name y.desc ∈ BIG) (hi : Cond.instanceMethod y ∈ BIG) (hlk : Cond.methodLink own idx y ∈ BIG) (hq : ws[q0]? = some (a, .inr (ci, fs))) (hci : vwCl[ci]? = some (C, T, NF))
    (hC : isC.map (fun i => ws[i]?) = wc.map some) (hnC : va_nd isC = true) (hR : isR.map (fun i => ws[i]?) = wr.map some) (hn : va_nd isR = true) (hdis : ∀ i ∈ isR, i ∉ isC)
    (hN : as.length = N) (hst : as.reverse ++ .inl (.ref a) :: S = st) (hroom : rm.frames + 1 ≤ R.frames ∧ 8 + (maxL + 11) + rm.locals ≤ R.locals ∧ k + rm.cells ≤ R.cells ∧ n + rm.slots ≤ R.slots) (hst8 : (S.map fun v => if ac2 (some v) then 2 else 1).sum ≤ 8) (hd : decode cc pc = .ok (.invokevirtual idx, 3))
    (kk : ∀ r w2, post r w2 → WZ p l e R s m args below meth c G (yz cs) A nL Q (wr ++ w2) (k + rm.cells) (n + rm.slots) (pc + 3) L ((r.map Sum.inl).toList ++ S)) : WZ p l e R s m args below meth c G (yz cs) A nL Q ws k n pc L st := by
  intro H locs ls hP hD hS hl
  obtain ⟨hx, hb, hml, hown, hts, hr, hlk0, hG, hA, hX⟩ := E
  obtain ⟨hy1, hy2, hy3, hy4, hy5⟩ := hy
  have hsel := sel_priv (hts _ h0) he ⟨hy3, hy4⟩ (va_Nw.use rfl (hX.2.2.2.2.2 y hpr)) (hts _ hi)
  have cw : va_CU R s args own C y.cls idx y y b maxL ret' (.code y b maxL ret' :: BIG) rm rm.cells rm.slots N := ⟨⟨rfl, rfl, hroom.1, hroom.2.1, pay_in hts (big_good hy2), List.mem_cons_self⟩, hts _ hy2, hts _ hy1, ⟨hy3, hy4⟩, fun sig h => by
    rw [h] at hy5
    exact (Option.some.inj hy5).symm, hts _ hlk, hts _ hsm, va_Decl.of (x := ⟨y.cls, y.name, y.desc⟩) (hts _ hi) (hts _ hy2), hsel, hts _ hi⟩
  have hrcv := va_recv hG.2.1 hP hci hq
  have hrun := va_runU (p := p) (l := l) (e := e) (R := R) (s := s) (m := m) (args := args) (below := below) (meth := meth) (c := c) (H := H) (locs := locs) (cells := k) (slots := n) (b := a) (As := as.map (cv (yz cs))) (rest := S.map (cv (yz cs))) (own := own) (C := C) (n := N) (nL := nL) (Ts := BIG) (g := F0 m pc ls (st.map (cv (yz cs)))) (index := idx)
    ⟨hx, hb, hml, hown, hts⟩ (hM H.size) cw
    ⟨PNw.blind, hrcv, fun U hU hW => z_pre (as := .inl (.ref a) :: as) hC hnC hP hD hS hA hX hG hU hW⟩ rfl (by simpa using hN) hl.1 (by
      show st.map (cv (yz cs)) = _
      rw [← hst, List.map_append, List.map_reverse]
      rfl)
    (lv_room (by rw [cat_sum]; exact hst8)) hd ⟨hroom.2.2.1, hroom.2.2.2⟩
  exact z_on hC hR hn hdis hA hP hD hS hl hrun kk
/-- the same cells in another order, or fewer -/
theorem z_perm (is : List Nat) (hs : is.map (fun i => ws[i]?) = ws2.map some) (hn : va_nd is = true) (kk : WZ p l e R s m args below meth c G (yz cs) A nL Q ws2 k n pc L S) : WZ p l e R s m args below meth c G (yz cs) A nL Q ws k n pc L S := fun H locs ls hP hD hS hl => kk H locs ls (hP.sub is (sub_of hs)) (hD.sub is hn hs) hS hl
end RZ3
theorem va_D_nil {A : Nat → Prop} : va_D A [] := ⟨fun _ _ _ _ h => by simp at h, fun _ _ h => by simp at h⟩
/-- a contract without a world -/
theorem NC.ofMC {l : Launch} {G : GT} {y : MethodName} {b : ByteArray} {maxL : Nat} {ret : Option FieldType} {rm : Room} {cs : Nat → Nat → Nat} {as : List AV} {M : Mem} {post : Option AV → Mem → Prop} (h : MC l G y b maxL ret rm [] lk0 as M post) : NC l G y b maxL ret rm cs as [] (fun r w2 => w2 = [] ∧ ∃ r0 M', r = r0.map (cv (yz cs)) ∧ post r0 M') := by
  intro sz
  have hA : AS ([], lk0, cs) sz = va_A [] sz := by
    funext a
    refine propext ⟨fun h => ?_, fun h => ?_⟩
    · rcases h with ⟨q, hq, -⟩ | h
      · cases hq
      · exact Or.inr h
    · rcases h with ⟨k, e, hk⟩ | h
      · cases hk
      · exact Or.inr h
  have h0 := h cs sz
  rw [hA] at h0
  intro p e ha hc hk s m args below hf happ hP hK
  have hP2 : PCm G ([], lk0, cs) as M sz args s := by
    obtain ⟨g0, g1, g2, g3, g4, g5⟩ := hP
    refine ⟨g0, g1, ?_, fun M' => ?_, ?_⟩
    · exact g2
    · rw [hA]; exact g3
    · rw [hA]; exact g5
  obtain ⟨n, o, h1, h2, h3, ⟨⟨r, M', q1, q2, q3⟩, q4⟩, q5⟩ := h0 p e ha hc hk s m args below hf happ hP2 hK
  refine ⟨n, o, h1, h2, h3, ⟨⟨r.map (cv (yz cs)), [], q1, ⟨rfl, r, M', rfl, q2⟩, q3, va_D_nil⟩, ?_⟩, q5⟩
  rw [hA] at q4
  exact q4
