section RS
variable {p : Program} {l : Launch} {e : Env} {R : Room} {s : State} {m : MethodId} {args : Array Value} {below : List Frame} {meth : Method} {c : Code} {G : GT} {Y : LV} {nL : Nat} {Q : State → Prop} {M : Mem} {k n pc : Nat} {L : List (Option AV)} {S : List AV} {cc : ByteArray} {own : String} {ret : Option FieldType}

theorem q_ldc (E : EN p s m args meth c G Y cc own nL ret) {idx i : Nat} (hi : i < 14) (ho : JSo.getD i "" = own) (hk : JSk.getD i 0 = idx) (hd : decode cc pc = .ok (.ldc idx, 2)) (kk : WM p l e R s m args below meth c G Y nL Q M k n (pc + 2) L (rv 97 i :: S)) : WM p l e R s m args below meth c G Y nL Q M k n pc L S := by
  intro H locs ls hP hS hl
  obtain ⟨hx, hb, hml, hown, hts, hr, hlk, ⟨hnw, hK, hX⟩, hD⟩ := E
  subst ho; subst hk
  exact va_ldcS hx hb hown (hX.1 i hi).1 hd (kk H locs ls hP hS hl)
theorem q_sval (E : EN p s m args meth c G Y cc own nL ret) {idx i : Nat} (hi : i < 14) (hlink : Cond.fieldLink own idx "java/lang/String" "value" "[B" ∈ BIG) (hd : decode cc pc = .ok (.getfield idx, 3)) (kk : WM p l e R s m args below meth c G Y nL Q M k n (pc + 3) L (rv 99 i :: S)) : WM p l e R s m args below meth c G Y nL Q M k n pc L (rv 97 i :: S) := by
  intro H locs ls hP hS hl
  obtain ⟨hx, hb, hml, hown, hts, hr, hlk, ⟨hnw, hK, hX⟩, hD⟩ := E
  exact vk_getf hx hb (hX.1 i hi).2.2.2.1 hS hown (hts _ hlink) (fun _ h => h) hd (kk H locs ls hP hS hl)
theorem q_scod (E : EN p s m args meth c G Y cc own nL ret) {idx i : Nat} (hi : i < 14) (hlink : Cond.fieldLink own idx "java/lang/String" "coder" "B" ∈ BIG) (hd : decode cc pc = .ok (.getfield idx, 3)) (kk : WM p l e R s m args below meth c G Y nL Q M k n (pc + 3) L (iv 0 :: S)) : WM p l e R s m args below meth c G Y nL Q M k n pc L (rv 97 i :: S) := by
  intro H locs ls hP hS hl
  obtain ⟨hx, hb, hml, hown, hts, hr, hlk, ⟨hnw, hK, hX⟩, hD⟩ := E
  exact vk_getf hx hb (hX.1 i hi).2.2.1 hS hown (hts _ hlink) (fun _ h => h) hd (kk H locs ls hP hS hl)
theorem q_slen (E : EN p s m args meth c G Y cc own nL ret) {i : Nat} (hi : i < 14) (hd : decode cc pc = .ok (.arraylength, 1)) (kk : WM p l e R s m args below meth c G Y nL Q M k n (pc + 1) L (iv (nI (lenJS.getD i 0)) :: S)) : WM p l e R s m args below meth c G Y nL Q M k n pc L (rv 99 i :: S) := by
  intro H locs ls hP hS hl
  obtain ⟨hx, hb, hml, hown, hts, hr, hlk, ⟨hnw, hK, hX⟩, hD⟩ := E
  exact va_tlen hx hb (hX.1 i hi).2.2.2.2 hS rfl hd (kk H locs ls hP hS hl)
theorem lenJS_le : ∀ i, i < 14 → lenJS.getD i 0 ≤ 100 := by decide +kernel
def bJS (i k : Nat) : Int32 := (bytJS.getD i []).getD k 0
theorem q_sbld (E : EN p s m args meth c G Y cc own nL ret) {i k1 : Nat} {x : Int32} (hi : i < 14) (hk : k1 < lenJS.getD i 0) (hxk : x = nI k1) (hd : decode cc pc = .ok (.baload, 1)) (kk : WM p l e R s m args below meth c G Y nL Q M k n (pc + 1) L (iv (bJS i k1) :: S)) : WM p l e R s m args below meth c G Y nL Q M k n pc L (iv x :: rv 99 i :: S) := by
  intro H locs ls hP hS hl
  obtain ⟨hx, hb, hml, hown, hts, hr, hlk, ⟨hnw, hK, hX⟩, hD⟩ := E
  have h1 := lenJS_le i hi
  exact va_tb hx hb (hX.1 i hi).2.2.2.2 hS (vp_nI hxk hk (by omega)) (by rw [cl_nI hxk hk (by omega)]; rfl) hd (kk H locs ls hP hS hl)
theorem q_gcs (E : EN p s m args meth c G Y cc own nL ret) {idx : Nat} (hlink : Cond.fieldLink own idx "java/lang/String" "COMPACT_STRINGS" "Z" ∈ BIG) (hd : decode cc pc = .ok (.getstatic idx, 3)) (kk : WM p l e R s m args below meth c G Y nL Q M k n (pc + 3) L (iv 1 :: S)) : WM p l e R s m args below meth c G Y nL Q M k n pc L S := by
  intro H locs ls hP hS hl
  obtain ⟨hx, hb, hml, hown, hts, hr, hlk, ⟨hnw, hK, hX⟩, hD⟩ := E
  exact va_gets hx hb hX.2.2.1 hS hown (hts _ hlink) (fun _ h => h) hd (kk H locs ls hP hS hl)
theorem q_gfmt (E : EN p s m args meth c G Y cc own nL ret) {idx : Nat} (hlink : Cond.fieldLink own idx "jdk/internal/util/Preconditions" "SIOOBE_FORMATTER" "Ljava/util/function/BiFunction;" ∈ BIG) (hd : decode cc pc = .ok (.getstatic idx, 3)) (kk : WM p l e R s m args below meth c G Y nL Q M k n (pc + 3) L (rv 99 102 :: S)) (kn : WM p l e R s m args below meth c G Y nL Q M k n (pc + 3) L (.inl .null :: S)) : WM p l e R s m args below meth c G Y nL Q M k n pc L S := by
  intro H locs ls hP hS hl
  obtain ⟨hx, hb, hml, hown, hts, hr, hlk, ⟨hnw, hK, hX⟩, hD⟩ := E
  rcases hX.2.2.2.1 with h9 | h9
  · exact va_gets hx hb h9 hS hown (hts _ hlink) (fun _ h => h) hd (kk H locs ls hP hS hl)
  · exact va_gets hx hb h9 hS hown (hts _ hlink) (fun _ h => h) hd (kn H locs ls hP hS hl)
theorem r_tabIn (E : EN p s m args meth c G Y cc own nL ret) {dflt lo hi off : Int} {offs : Array Int} {len tgt : Nat} {x : Int32} (hd : decode cc pc = .ok (.tableswitch dflt lo hi offs, len)) (h1 : ¬ x.toInt < lo) (h2 : ¬ hi < x.toInt) (ho : offs[(x.toInt - lo).toNat]? = some off) (ht : (pc : Int) + off = (tgt : Int)) (kk : WM p l e R s m args below meth c G Y nL Q M k n tgt L S) : WM p l e R s m args below meth c G Y nL Q M k n pc L (iv x :: S) := fun H locs ls hP hS hl => lv_tableIn E.1 E.2.1 hd h1 h2 ho ht (kk H locs ls hP hS hl)
theorem r_tabOut (E : EN p s m args meth c G Y cc own nL ret) {dflt lo hi : Int} {offs : Array Int} {len tgt : Nat} {x : Int32} (hd : decode cc pc = .ok (.tableswitch dflt lo hi offs, len)) (h1 : x.toInt < lo ∨ hi < x.toInt) (ht : (pc : Int) + dflt = (tgt : Int)) (kk : WM p l e R s m args below meth c G Y nL Q M k n tgt L S) : WM p l e R s m args below meth c G Y nL Q M k n pc L (iv x :: S) := fun H locs ls hP hS hl => lv_tableOut E.1 E.2.1 hd h1 ht (kk H locs ls hP hS hl)

/-- a constant's class -/
def KRC (Y : LV) (s : State) (q t : Nat) (C : String) : Prop := ∀ {H : Heap} {locs : List Loc}, va_S (AS Y s.heap.size) s.heap H locs → ∃ cell : Cell, H[Y.2.2 q t]? = some cell ∧ cell.vm.isStatics = false ∧ s.vm.findClass C = some cell.cls
theorem KRC_s (E : EN p s m args meth c G Y cc own nL ret) {i : Nat} (hi : i < 14) : KRC Y s 97 i "java/lang/String" := by
  intro H locs hS
  obtain ⟨hx, hb, hml, hown, hts, hr, hlk, ⟨hnw, hK, hX⟩, hD⟩ := E
  obtain ⟨cell, h1, h2, h3, -⟩ := (hX.1 i hi).2.1.kept hS.2.1
  exact ⟨cell, h1, h2, h3⟩
theorem cm_nil {ks : List Nat} {lk : Nat → Nat → Nat} : CM ks lk [] lk0 [] := cm_of rfl
theorem r_callK (E : EN p s m args meth c G Y cc own nL ret) {idx : Nat} {y : MethodName} {b : ByteArray} {maxL N : Nat} {ret' : Option FieldType} {rm : Room} {as : List AV} {post : Option AV → Mem → Prop} {q t : Nat} {st : List AV}
    (hM : MC l G y b maxL ret' rm [] lk0 (rv q t :: as) M post) (hR : KRC Y s q t y.cls) (hy : MYo y b maxL ret' N) (hi : Cond.instanceMethod y ∈ BIG ∧ Cond.selects y.cls y y ∈ BIG) (hlk : Cond.methodLink own idx y ∈ BIG)
    (hN : as.length = N) (hst : (as.map (ren [])).reverse ++ rv q t :: S = st) (hroom : rm.frames + 1 ≤ R.frames ∧ 8 + (maxL + 11) + rm.locals ≤ R.locals ∧ k + rm.cells ≤ R.cells ∧ n + rm.slots ≤ R.slots) (hst8 : (S.map fun v => if ac2 (some v) then 2 else 1).sum ≤ 8) (hd : decode cc pc = .ok (.invokevirtual idx, 3))
    (kk : ∀ r M', post r M' → M' = M ∧ WM p l e R s m args below meth c G Y nL Q M (k + rm.cells) (n + rm.slots) (pc + 3) L ((r.map (ren [])).toList ++ S)) : WM p l e R s m args below meth c G Y nL Q M k n pc L st := by
  intro H locs ls hP hS hl
  obtain ⟨hx, hb, hml, hown, hts, hr, hlk0, hG, hD⟩ := E
  obtain ⟨hy1, hy2, hy3, hy4, hy5⟩ := hy
  have hrun := va_runV (p := p) (l := l) (e := e) (R := R) (s := s) (m := m) (args := args) (below := below) (meth := meth) (c := c) (H := H) (locs := locs) (cells := k) (slots := n) (As := as.map (cv (cY Y [] lk0 []))) (rest := S.map (cv Y)) (b := Y.2.2 q t) (own := own) (C := y.cls) (n := N) (nL := nL) (Ts := BIG) (g := F0 m pc ls (st.map (cv Y))) (index := idx)
    ⟨hx, hb, hml, hown, hts⟩ (hM (fun j t => Y.2.2 (mu [] j) t) H.size) (ret := ret')
    ⟨callB_of (ws' := BIG) N hts (big_good hy2) rfl rfl rfl (hts _ hy1) (hts _ hlk) ⟨hy3, hy4, hy5⟩ ⟨hroom.1, hroom.2.1⟩, hts _ hi.1, hts _ hi.2⟩
    ⟨PCm.blind, hR hS, fun U hU hW => call_pre (as := rv q t :: as) cm_nil hP hS hG hD hU hW⟩ rfl (by simpa using hN) hl.1
    (by
      show st.map (cv Y) = _
      rw [← hst, List.map_append, List.map_reverse, List.map_map]
      congr 2
      refine List.map_congr_left (fun a _ => ?_)
      rcases a with v | ⟨j, u⟩ <;> rfl)
    (lv_room (by rw [cat_sum]; exact hst8)) hd ⟨hroom.2.2.1, hroom.2.2.2⟩
  exact run_on (Y2 := Y) cm_nil (hD M) hP hS hl hrun (fun r M' hp => ⟨M, ⟨fun j hj => absurd hj (Nat.not_lt_zero j), fun _ _ => rfl⟩, (kk r M' hp).2⟩)

end RS
theorem sh_0 {x : Int32} : x >>> ((0 : Int32) &&& 31) = x := by
  rw [show ((0 : Int32) &&& 31) = 0 from by decide]
  exact Int32.shiftRight_zero
theorem ch_all : ∀ i, i < 14 → ∀ b ∈ bytJS.getD i [], ((b &&& 255).toUInt32 % 65536).toInt32 = b ∧ narrow .char (.int b) = .int b := by decide +kernel
theorem ch_len : ∀ i, i < 14 → lenJS.getD i 0 = (bytJS.getD i []).length := by decide +kernel
theorem ch_mem {i a : Nat} (hi : i < 14) (ha : a < lenJS.getD i 0) : bJS i a ∈ bytJS.getD i [] := by
  rw [ch_len i hi] at ha
  unfold bJS
  generalize bytJS.getD i [] = l at ha ⊢
  rw [List.getD_eq_getElem?_getD, List.getElem?_eq_getElem ha]
  exact List.getElem_mem ha
theorem ch_id {i a : Nat} (hi : i < 14) (ha : a < lenJS.getD i 0) : ((bJS i a &&& 255).toUInt32 % 65536).toInt32 = bJS i a := (ch_all i hi _ (ch_mem hi ha)).1
theorem ch_nar {i a : Nat} (hi : i < 14) (ha : a < lenJS.getD i 0) : narrow .char (.int (bJS i a)) = .int (bJS i a) := (ch_all i hi _ (ch_mem hi ha)).2

set_option maxRecDepth 100000 in
set_option maxHeartbeats 4000000 in
theorem sp_J0_coder_7d493 (l : Launch) (G : GT) (i : Nat) (M : Mem) (hi : i < 14) : MC l G yJ0_coder_7d493 cJ0_coder_7d493 1 (some .byte) ({ frames := 0, cells := 0, slots := 0, locals := 0 } : Room) [] lk0 [rv 97 i] (M) (fun r M2 => r = some (iv (0)) ∧ M2 = M) := by
  refine MC.of RJ0 [some (rv 97 i)] 0 (by decide +kernel) rfl rfl rfl ?_
  intro pp ee ss mm aa bb me cd ad E
  refine q_gcs E gs_J0_38 (dat dkJ0_coder_7d493 0 rfl) ?_
  refine r_if_eq (tgt := 13) E (dat dkJ0_coder_7d493 1 rfl) rfl (fun h3 => ?_) (fun h3 => ?_)
  ·
    exact absurd h3 (by decide)
  ·
    refine r_aload_n E (dat dkJ0_coder_7d493 2 rfl) rfl rfl ?_
    refine q_scod (i := i) E (by omega) gs_J0_15 (dat dkJ0_coder_7d493 3 rfl) ?_
    refine r_goto (tgt := 14) E (dat dkJ0_coder_7d493 4 rfl) rfl ?_
    refine r_zreturn E (dat dkJ0_coder_7d493 6 rfl) rfl (by decide) (by decide) ?_
    exact ⟨rfl, rfl⟩

set_option maxRecDepth 100000 in
set_option maxHeartbeats 4000000 in
theorem sp_J0_length_8abf5 (l : Launch) (G : GT) (i : Nat) (M : Mem) (hi : i < 14) : MC l G yJ0_length_8abf5 cJ0_length_8abf5 1 (some .int) ({ frames := 1, cells := 0, slots := 0, locals := 20 } : Room) [] lk0 [rv 97 i] (M) (fun r M2 => r = some (iv (nI (lenJS.getD i 0))) ∧ M2 = M) := by
  refine MC.of RJ0 [some (rv 97 i)] 0 (by decide +kernel) rfl rfl rfl ?_
  intro pp ee ss mm aa bb me cd ad E
  refine r_aload_n E (dat dkJ0_length_8abf5 0 rfl) rfl rfl ?_
  refine q_sval (i := i) E (by omega) gs_J0_9 (dat dkJ0_length_8abf5 1 rfl) ?_
  refine q_slen (i := i) E (by omega) (dat dkJ0_length_8abf5 2 rfl) ?_
  refine r_aload_n E (dat dkJ0_length_8abf5 3 rfl) rfl rfl ?_
  refine r_callK E (sp_J0_coder_7d493 l G i M hi) (KRC_s E (by omega)) my_J0_coder_7d493 iv_J0_coder_7d493 ml_J0_335  rfl rfl (by decide) (Nat.le_of_ble_eq_true rfl) (dat dkJ0_length_8abf5 4 rfl) ?_
  rintro _ _ ⟨rfl, hM⟩
  refine ⟨hM, ?_⟩
  clear hM
  refine r_ishr E (dat dkJ0_length_8abf5 5 rfl) ?_
  refine r_ireturn E (dat dkJ0_length_8abf5 6 rfl) (by decide) (by decide) ?_
  exact ⟨by rw [sh_0], rfl⟩

set_option maxRecDepth 100000 in
set_option maxHeartbeats 4000000 in
theorem sp_J0_isLatin1_aae02 (l : Launch) (G : GT) (i : Nat) (M : Mem) (hi : i < 14) : MC l G yJ0_isLatin1_aae02 cJ0_isLatin1_aae02 1 (some .boolean) ({ frames := 0, cells := 0, slots := 0, locals := 0 } : Room) [] lk0 [rv 97 i] (M) (fun r M2 => r = some (iv (1)) ∧ M2 = M) := by
  refine MC.of RJ0 [some (rv 97 i)] 0 (by decide +kernel) rfl rfl rfl ?_
  intro pp ee ss mm aa bb me cd ad E
  refine q_gcs E gs_J0_38 (dat dkJ0_isLatin1_aae02 0 rfl) ?_
  refine r_if_eq (tgt := 17) E (dat dkJ0_isLatin1_aae02 1 rfl) rfl (fun h3 => ?_) (fun h3 => ?_)
  ·
    exact absurd h3 (by decide)
  ·
    refine r_aload_n E (dat dkJ0_isLatin1_aae02 2 rfl) rfl rfl ?_
    refine q_scod (i := i) E (by omega) gs_J0_15 (dat dkJ0_isLatin1_aae02 3 rfl) ?_
    refine r_if_ne (tgt := 17) E (dat dkJ0_isLatin1_aae02 4 rfl) rfl (fun h10 => ?_) (fun h10 => ?_)
    ·
      exact absurd rfl h10
    ·
      refine r_iconst (v := 1) E (dat dkJ0_isLatin1_aae02 5 rfl) rfl ?_
      refine r_goto (tgt := 18) E (dat dkJ0_isLatin1_aae02 6 rfl) rfl ?_
      refine r_zreturn E (dat dkJ0_isLatin1_aae02 8 rfl) rfl (by decide) (by decide) ?_
      exact ⟨rfl, rfl⟩

set_option maxRecDepth 100000 in
set_option maxHeartbeats 4000000 in
theorem sp_J3_checkIndex_8e157 (l : Launch) (G : GT) (a b q t : Nat) (M : Mem) (hab : a < b) (hb : b < 4096) : MC l G yJ3_checkIndex_8e157 cJ3_checkIndex_8e157 3 (some .int) ({ frames := 0, cells := 0, slots := 0, locals := 0 } : Room) [] lk0 [iv (nI a), iv (nI b), rv q t] (M) (fun r M2 => r = some (iv (nI a)) ∧ M2 = M) := by
  refine MC.of RJ3 [some (iv (nI a)), some (iv (nI b)), some (rv q t)] 0 (by decide +kernel) rfl rfl rfl ?_
  intro pp ee ss mm aa bb me cd ad E
  refine r_iload_n E (dat dkJ3_checkIndex_8e157 0 rfl) rfl rfl ?_
  refine r_if_lt (tgt := 9) E (dat dkJ3_checkIndex_8e157 1 rfl) rfl (fun h1 => ?_) (fun h1 => ?_)
  ·
    exact absurd h1 (nI_pos (by omega))
  ·
    refine r_iload_n E (dat dkJ3_checkIndex_8e157 2 rfl) rfl rfl ?_
    refine r_iload_n E (dat dkJ3_checkIndex_8e157 3 rfl) rfl rfl ?_
    refine q_icmp_lt (tgt := 16) E (dat dkJ3_checkIndex_8e157 4 rfl) rfl rfl rfl (by omega) (by omega) (fun h6 => ?_) (fun h6 => ?_)
    ·
      refine r_iload_n E (dat dkJ3_checkIndex_8e157 10 rfl) rfl rfl ?_
      refine r_ireturn E (dat dkJ3_checkIndex_8e157 11 rfl) (by decide) (by decide) ?_
      exact ⟨rfl, rfl⟩
    ·
      omega

set_option maxRecDepth 100000 in
set_option maxHeartbeats 4000000 in
theorem sp_J3_checkIndexN (l : Launch) (G : GT) (a b : Nat) (M : Mem) (hab : a < b) (hb : b < 4096) : MC l G yJ3_checkIndex_8e157 cJ3_checkIndex_8e157 3 (some .int) ({ frames := 0, cells := 0, slots := 0, locals := 0 } : Room) [] lk0 [iv (nI a), iv (nI b), .inl .null] (M) (fun r M2 => r = some (iv (nI a)) ∧ M2 = M) := by
  refine MC.of RJ3 [some (iv (nI a)), some (iv (nI b)), some (.inl .null)] 0 (by decide +kernel) rfl rfl rfl ?_
  intro pp ee ss mm aa bb me cd ad E
  refine r_iload_n E (dat dkJ3_checkIndex_8e157 0 rfl) rfl rfl ?_
  refine r_if_lt (tgt := 9) E (dat dkJ3_checkIndex_8e157 1 rfl) rfl (fun h1 => ?_) (fun h1 => ?_)
  ·
    exact absurd h1 (nI_pos (by omega))
  ·
    refine r_iload_n E (dat dkJ3_checkIndex_8e157 2 rfl) rfl rfl ?_
    refine r_iload_n E (dat dkJ3_checkIndex_8e157 3 rfl) rfl rfl ?_
    refine q_icmp_lt (tgt := 16) E (dat dkJ3_checkIndex_8e157 4 rfl) rfl rfl rfl (by omega) (by omega) (fun h6 => ?_) (fun h6 => ?_)
    ·
      refine r_iload_n E (dat dkJ3_checkIndex_8e157 10 rfl) rfl rfl ?_
      refine r_ireturn E (dat dkJ3_checkIndex_8e157 11 rfl) (by decide) (by decide) ?_
      exact ⟨rfl, rfl⟩
    ·
      omega

set_option maxRecDepth 100000 in
set_option maxHeartbeats 4000000 in
theorem sp_J0_checkIndex_df160 (l : Launch) (G : GT) (a b : Nat) (M : Mem) (hab : a < b) (hb : b < 4096) : MC l G yJ0_checkIndex_df160 cJ0_checkIndex_df160 2 none ({ frames := 1, cells := 0, slots := 0, locals := 22 } : Room) [] lk0 [iv (nI a), iv (nI b)] (M) (fun r M2 => r = none ∧ M2 = M) := by
  refine MC.of RJ0 [some (iv (nI a)), some (iv (nI b))] 0 (by decide +kernel) rfl rfl rfl ?_
  intro pp ee ss mm aa bb me cd ad E
  refine r_iload_n E (dat dkJ0_checkIndex_df160 0 rfl) rfl rfl ?_
  refine r_iload_n E (dat dkJ0_checkIndex_df160 1 rfl) rfl rfl ?_
  refine q_gfmt E gs_J0_1053 (dat dkJ0_checkIndex_df160 2 rfl) ?_ ?_
  ·
    refine r_callS (μ := []) E (sp_J3_checkIndex_8e157 l G a b 99 102 M hab hb) my_J3_checkIndex_8e157 is_J3_checkIndex_8e157 ml_J0_1059 cm_nil rfl rfl (by decide) (Nat.le_of_ble_eq_true rfl) (dat dkJ0_checkIndex_df160 3 rfl) ?_
    rintro _ _ ⟨rfl, hM⟩
    refine ⟨_, Mrg_z hM, ?_⟩
    clear hM
    refine r_pop E (dat dkJ0_checkIndex_df160 4 rfl) rfl ?_
    refine r_vreturn E (dat dkJ0_checkIndex_df160 5 rfl) (by decide) (by decide) ?_
    exact ⟨rfl, rfl⟩
  ·
    refine r_callS (μ := []) E (sp_J3_checkIndexN l G a b M hab hb) my_J3_checkIndex_8e157 is_J3_checkIndex_8e157 ml_J0_1059 cm_nil rfl rfl (by decide) (Nat.le_of_ble_eq_true rfl) (dat dkJ0_checkIndex_df160 3 rfl) ?_
    rintro _ _ ⟨rfl, hM⟩
    refine ⟨_, Mrg_z hM, ?_⟩
    clear hM
    refine r_pop E (dat dkJ0_checkIndex_df160 4 rfl) rfl ?_
    refine r_vreturn E (dat dkJ0_checkIndex_df160 5 rfl) (by decide) (by decide) ?_
    exact ⟨rfl, rfl⟩


set_option maxRecDepth 100000 in
set_option maxHeartbeats 4000000 in
theorem sp_J1_charAt_3b067 (l : Launch) (G : GT) (i a : Nat) (M : Mem) (hi : i < 14) (ha : a < lenJS.getD i 0) : MC l G yJ1_charAt_3b067 cJ1_charAt_3b067 2 (some .char) ({ frames := 2, cells := 0, slots := 0, locals := 43 } : Room) [] lk0 [rv 99 i, iv (nI a)] (M) (fun r M2 => r = some (iv (bJS i a)) ∧ M2 = M) := by
  refine MC.of RJ1 [some (rv 99 i), some (iv (nI a))] 0 (by decide +kernel) rfl rfl rfl ?_
  intro pp ee ss mm aa bb me cd ad E
  refine r_iload_n E (dat dkJ1_charAt_3b067 0 rfl) rfl rfl ?_
  refine r_aload_n E (dat dkJ1_charAt_3b067 1 rfl) rfl rfl ?_
  refine q_slen (i := i) E (by omega) (dat dkJ1_charAt_3b067 2 rfl) ?_
  refine r_callS (μ := []) E (sp_J0_checkIndex_df160 l G a (lenJS.getD i 0) M ha (by have := lenJS_le i hi; omega)) my_J0_checkIndex_df160 is_J0_checkIndex_df160 ml_J1_9 cm_nil rfl rfl (by decide) (Nat.le_of_ble_eq_true rfl) (dat dkJ1_charAt_3b067 3 rfl) ?_
  rintro _ _ ⟨rfl, hM⟩
  refine ⟨_, Mrg_z hM, ?_⟩
  clear hM
  refine r_aload_n E (dat dkJ1_charAt_3b067 4 rfl) rfl rfl ?_
  refine r_iload_n E (dat dkJ1_charAt_3b067 5 rfl) rfl rfl ?_
  refine q_sbld (i := i) (k1 := a) E (by omega) (by assumption) rfl (dat dkJ1_charAt_3b067 6 rfl) ?_
  refine r_sipush (v := 255) E (dat dkJ1_charAt_3b067 7 rfl) rfl ?_
  refine r_iand E (dat dkJ1_charAt_3b067 8 rfl) ?_
  refine r_i2c E (dat dkJ1_charAt_3b067 9 rfl) ?_
  rw [ch_id hi ha]
  refine r_zreturn E (dat dkJ1_charAt_3b067 10 rfl) (ch_nar hi ha) (by decide) (by decide) ?_
  exact ⟨rfl, rfl⟩

set_option maxRecDepth 100000 in
set_option maxHeartbeats 4000000 in
theorem sp_J0_charAt_5068e (l : Launch) (G : GT) (i a : Nat) (M : Mem) (hi : i < 14) (ha : a < lenJS.getD i 0) : MC l G yJ0_charAt_5068e cJ0_charAt_5068e 2 (some .char) ({ frames := 3, cells := 0, slots := 0, locals := 64 } : Room) [] lk0 [rv 97 i, iv (nI a)] (M) (fun r M2 => r = some (iv (bJS i a)) ∧ M2 = M) := by
  refine MC.of RJ0 [some (rv 97 i), some (iv (nI a))] 0 (by decide +kernel) rfl rfl rfl ?_
  intro pp ee ss mm aa bb me cd ad E
  refine r_aload_n E (dat dkJ0_charAt_5068e 0 rfl) rfl rfl ?_
  refine r_callK E (sp_J0_isLatin1_aae02 l G i M hi) (KRC_s E (by omega)) my_J0_isLatin1_aae02 iv_J0_isLatin1_aae02 ml_J0_492  rfl rfl (by decide) (Nat.le_of_ble_eq_true rfl) (dat dkJ0_charAt_5068e 1 rfl) ?_
  rintro _ _ ⟨rfl, hM⟩
  refine ⟨hM, ?_⟩
  clear hM
  refine r_if_eq (tgt := 16) E (dat dkJ0_charAt_5068e 2 rfl) rfl (fun h4 => ?_) (fun h4 => ?_)
  ·
    exact absurd h4 (by decide)
  ·
    refine r_aload_n E (dat dkJ0_charAt_5068e 3 rfl) rfl rfl ?_
    refine q_sval (i := i) E (by omega) gs_J0_9 (dat dkJ0_charAt_5068e 4 rfl) ?_
    refine r_iload_n E (dat dkJ0_charAt_5068e 5 rfl) rfl rfl ?_
    refine r_callS (μ := []) E (sp_J1_charAt_3b067 l G i a M hi ha) my_J1_charAt_3b067 is_J1_charAt_3b067 ml_J0_495 cm_nil rfl rfl (by decide) (Nat.le_of_ble_eq_true rfl) (dat dkJ0_charAt_5068e 6 rfl) ?_
    rintro _ _ ⟨rfl, hM⟩
    refine ⟨_, Mrg_z hM, ?_⟩
    clear hM
    refine r_zreturn E (dat dkJ0_charAt_5068e 7 rfl) (ch_nar hi ha) (by decide) (by decide) ?_
    exact ⟨rfl, rfl⟩
