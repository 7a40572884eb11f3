/-! the law's body: rows -/
abbrev KL : List Nat := [8, 3, 4, 1, 1, 1, 7, 1, 1, 1, 1, 1, 1, 1, 1, 5, 6, 2, 2, 10, 9]
theorem cm_LO : CM KL lkC KO lkC [] := cm_nil0 (by decide)
theorem cm_LC : CM KL lkC KC lkC [] := cm_nil0 (by decide)
theorem cm_LR : CM KL lkC [9] lk0 [20] := cm_of rfl
theorem ini_L : Cond.initialized RL ∈ BIG := bg_1 0 (by decide +kernel)
theorem loV_m {N M' : Mem} {v : Int32} : Mrg KO.length [] N (loV N M' v) (loV N M' v) := by
  have hm : ∀ j, mu [] j = j := fun j => rfl
  refine ⟨fun j hj => by rw [hm], fun g hg => ?_⟩
  have h20 : 20 ≤ g := Nat.le_of_not_lt (fun h => hg g h (hm g))
  unfold loV loX
  rw [setm_n (by omega), if_neg (by omega)]
theorem loX_m2 {N M' : Mem} : Mrg KO.length [] N (loX N M') (loX N M') := by
  have hm : ∀ j, mu [] j = j := fun j => rfl
  refine ⟨fun j hj => by rw [hm], fun g hg => ?_⟩
  have h20 : 20 ≤ g := Nat.le_of_not_lt (fun h => hg g h (hm g))
  unfold loX
  rw [if_neg (by omega)]
/-- behind a call of the reference -/
theorem Mrg_R {N R' : Mem} : Mrg 1 [20] N R' (setm N 20 (R' 0)) := by
  refine ⟨fun j hj => ?_, fun g hg => ?_⟩
  · obtain rfl : j = 0 := by omega
    exact setm_s
  · exact setm_n (fun e => hg 0 (by decide) e.symm)
theorem RLe_tr {M' R' N2 : Mem} {L : Int} (h : RLe M' R' L) (hj : ∀ j, j < 19 → N2 j = M' j) (h20 : N2 20 = R' 0) : RLe N2 (vw [20] N2) L := by
  obtain ⟨x, q, BP, be, nm, A0, B0, n, bs, u, o, h, k, H⟩ := h
  have hq := H.1.1
  refine ⟨x, q, BP, be, nm, A0, B0, n, bs, u, o, h, k, RL_c (RL_r H (nR_i (R1 := vw [20] N2) h20)) ⟨hj 0 (by omega), hj 1 (by omega), hj 3 (by omega), hj 5 (by omega), hj 6 (by omega), hj q (by omega), fun j h7 h15 => hj j (by omega)⟩⟩
theorem RLe_up {M R : Mem} {L L2 : Int} (h : RLe M R L) (hl : L ≤ L2) : RLe M R L2 := by
  obtain ⟨x, q, BP, be, nm, A0, B0, n, bs, u, o, h, k, H⟩ := h
  exact RLe.i H hl
theorem loV_lt {N M' Z : Mem} {v : Int32} {j : Nat} (h : j < 19) : setm (loV N M' v) 20 (Z 0) j = M' j := by
  unfold loV loX
  rw [setm_n (by omega), setm_n (by omega), if_pos h]
theorem loX_lt {N M' Z : Mem} {j : Nat} (h : j < 19) : setm (loX N M') 20 (Z 0) j = M' j := by
  unfold loX
  rw [setm_n (by omega), if_pos h]
theorem lg_self (x : Int64) : lg_cmp x x = 0 := by
  unfold lg_cmp
  rw [if_neg (by simp), if_pos rfl]
theorem lvl_set2 {Y : LV} {ls : Array Slot} {nL : Nat} {L : List (Option AV)} {i : Nat} {x : UInt64} (hi : i + 1 < L.length) (hc : ∀ j, j + 1 = i → ac2 ((L[j]?).getD none) = false)
    (h : lv_has ls nL ((i, Value.double x) :: (lvl Y 0 L).filter (fun q => !(q.1 == i) && (!(q.1 == i + 1) && !(q.1 + 1 == i && q.2.category == 2))))) : lv_has ls nL (lvl Y 0 ((L.set i (some (.inl (.double x)))).set (i + 1) none)) := by
  refine lv_mono h ?_
  rintro ⟨k, w⟩ hq
  obtain ⟨n, u, h1, h2, h3⟩ := (lvl_mem _ _ _ _).mp hq
  rw [List.getElem?_set, List.length_set] at h1
  by_cases h9 : i + 1 = n
  · rw [if_pos h9, if_pos hi] at h1; cases h1
  · rw [if_neg h9, List.getElem?_set] at h1
    by_cases he : i = n
    · subst he
      rw [if_pos rfl, if_pos (by omega)] at h1
      have hu : (Sum.inl (Value.double x) : AV) = u := Option.some.inj (Option.some.inj h1)
      rw [h2, h3, ← hu, Nat.zero_add]
      exact List.mem_cons_self
    · rw [if_neg he] at h1
      refine List.mem_cons_of_mem _ (List.mem_filter.mpr ⟨(lvl_mem _ _ _ _).mpr ⟨n, u, h1, h2, h3⟩, ?_⟩)
      have hk : k = n := by omega
      subst hk
      have h4 : (k == i) = false := by simpa using fun e : k = i => he e.symm
      have h5 : (k == i + 1) = false := by simpa using fun e : k = i + 1 => h9 e.symm
      by_cases h6 : k + 1 = i
      · have h7 := hc k h6
        rw [h1] at h7
        have h8 := ac2_cv (Y := Y) h7
        simp [h4, h5, h3, h8]
      · have h7 : (k + 1 == i) = false := by simpa using h6
        simp [h4, h5, h7]
section RLW
variable {p : Program} {l : Launch} {e : Env} {R : Room} {s : State} {m : MethodId} {args : Array Value} {below : List Frame} {meth : Method} {c : Code} {G : GT} {Y : LV} {nL : Nat} {Q : State → Prop} {M : Mem} {k n pc : Nat} {L : List (Option AV)} {S : List AV} {cc : ByteArray} {own : String} {ret : Option FieldType}
theorem r_aldX (E : EN p s m args meth c G Y cc own nL ret) {a : Fin 4} {i q : Nat} (hd : decode cc pc = .ok (.aload_n a, 1)) (hi : (a : Nat) = i) (hL : L[i]? = some (some (.inl (.ref q)))) (kk : WM p l e R s m args below meth c G Y nL Q M k n (pc + 1) L (.inl (.ref q) :: S)) : WM p l e R s m args below meth c G Y nL Q M k n pc L S := fun H locs ls hP hS hl => lv_aload_n E.1 E.2.1 hd hi (lvl_at hl hL) (kk H locs ls hP hS hl)
/-- the script's ints -/
theorem r_sld (E : EN p s m args meth c G Y cc own nL ret) {b Ls j : Nat} {xs : Nat → Int32} {i : Int32} (hX : va_X b Ls xs s s.heap) (hb : b < s.heap.size) (hA : ¬ AS Y s.heap.size b) (hL : Ls ≤ 3072) (hi : i = nI j) (hj : j < Ls) (hd : decode cc pc = .ok (.iaload, 1)) (kk : WM p l e R s m args below meth c G Y nL Q M k n (pc + 1) L (iv (xs j) :: S)) : WM p l e R s m args below meth c G Y nL Q M k n pc L (iv i :: .inl (.ref b) :: S) := by
  intro H locs ls hP hS hl
  subst hi
  have hc : (nI j).toNatClampNeg = j := nI_clamp (by omega)
  refine va_sld (A := AS Y s.heap.size) E.1 E.2.1 hX hb hA hS (i := nI j) ?_ hd ?_
  · rintro (h | h)
    · exact nI_pos (show j < 2 ^ 31 by omega) h
    · rw [hc] at h; omega
  · rw [hc]
    exact kk H locs ls hP hS hl
theorem r_slen (E : EN p s m args meth c G Y cc own nL ret) {b Ls : Nat} {xs : Nat → Int32} (hX : va_X b Ls xs s s.heap) (hb : b < s.heap.size) (hA : ¬ AS Y s.heap.size b) (hd : decode cc pc = .ok (.arraylength, 1)) (kk : WM p l e R s m args below meth c G Y nL Q M k n (pc + 1) L (iv (nI Ls) :: S)) : WM p l e R s m args below meth c G Y nL Q M k n pc L (.inl (.ref b) :: S) := fun H locs ls hP hS hl => va_slen (A := AS Y s.heap.size) E.1 E.2.1 hX hb hA hS hd (kk H locs ls hP hS hl)
theorem r_dld (E : EN p s m args meth c G Y cc own nL ret) {i : Nat} {x : UInt64} (hd : decode cc pc = .ok (.dload i, 2)) (hL : L[i]? = some (some (.inl (.double x)))) (kk : WM p l e R s m args below meth c G Y nL Q M k n (pc + 2) L (.inl (.double x) :: S)) : WM p l e R s m args below meth c G Y nL Q M k n pc L S := fun H locs ls hP hS hl => lv_dload E.1 E.2.1 hd (lvl_at hl hL) (kk H locs ls hP hS hl)
theorem r_dst (E : EN p s m args meth c G Y cc own nL ret) {i : Nat} {x : UInt64} {L2 : List (Option AV)} (hd : decode cc pc = .ok (.dstore i, 2)) (hi : i + 1 < L.length) (hn : L.length = nL) (hc : ∀ z, z + 1 = i → ac2 ((L[z]?).getD none) = false) (hL : (L.set i (some (.inl (.double x)))).set (i + 1) none = L2) (kk : WM p l e R s m args below meth c G Y nL Q M k n (pc + 2) L2 S) : WM p l e R s m args below meth c G Y nL Q M k n pc L (.inl (.double x) :: S) := fun H locs ls hP hS hl => lv_dstore E.1 E.2.1 hd hl (hn ▸ hi) rfl (fun ls2 hl2 => kk H locs ls2 hP hS (hL ▸ lvl_set2 hi hc hl2))
theorem r_dcmp (E : EN p s m args meth c G Y cc own nL ret) {op : CmpOp} {x y : UInt64} (hd : decode cc pc = .ok (.dcmp op, 1)) (kk : WM p l e R s m args below meth c G Y nL Q M k n (pc + 1) L (iv (Op.cmpValue (FP.dcmp x y) op) :: S)) : WM p l e R s m args below meth c G Y nL Q M k n pc L (.inl (.double y) :: .inl (.double x) :: S) := fun H locs ls hP hS hl => lv_dcmp E.1 E.2.1 hd (kk H locs ls hP hS hl)
theorem r_f2d (E : EN p s m args meth c G Y cc own nL ret) {x : UInt32} (hd : decode cc pc = .ok (.f2d, 1)) (hne : vf_n64 (FP.f2d x)) (kk : WM p l e R s m args below meth c G Y nL Q M k n (pc + 1) L (.inl (.double (FP.f2d x)) :: S)) : WM p l e R s m args below meth c G Y nL Q M k n pc L (.inl (.float x) :: S) := fun H locs ls hP hS hl => lv_f2d E.1 E.2.1 hd hne (kk H locs ls hP hS hl)
theorem r_wid {k2 n2 : Nat} (h1 : k ≤ k2) (h2 : n ≤ n2) (kk : WM p l e R s m args below meth c G Y nL Q M k2 n2 pc L S) : WM p l e R s m args below meth c G Y nL Q M k n pc L S := fun H locs ls hP hS hl => W.widen h1 h2 (kk H locs ls hP hS hl)
end RLW
theorem sp_X10_thrown (l : Launch) (G : GT) (M : Mem) : MC l G yX10_thrown cX10_thrown 1 (some .int) ({ frames := 0, cells := 0, slots := 0, locals := 0 } : Room) [9] lk0 [rv 0 0] M (fun r M2 => r = some (iv (M 0 0 6)) ∧ M2 = M) := by
  refine MC.of RX10 [some (rv 0 0)] 0 (by decide +kernel) rfl rfl rfl ?_
  intro pp ee ss mm aa bb me cd ad E
  refine r_aload_n E (dat dkX10_thrown 0 rfl) rfl rfl ?_
  refine q_getn E fl_X10_67 (dat dkX10_thrown 1 rfl) rfl rfl rfl rfl ?_
  refine r_ireturn E (dat dkX10_thrown 2 rfl) (by decide) (by decide) ?_
  exact ⟨rfl, rfl⟩
theorem Mrg_T {N : Mem} : Mrg 1 [20] N (vw [20] N) N := Mrg_0
