/-! the class's methods, its state said by T; a receiver of any number -/
section RKc
variable {p : Program} {l : Launch} {e : Env} {R : Room} {s : State} {m : MethodId} {args : Array Value} {below : List Frame} {meth : Method} {c : Code} {G : GT} {Y : LV} {nL : Nat} {Q : State → Prop} {M : Mem} {k n pc : Nat} {L : List (Option AV)} {S : List AV} {cc : ByteArray} {own : String} {ret : Option FieldType}
theorem r_cut {M2 : Mem} {pc2 : Nat} {L2 : List (Option AV)} {S2 : List AV} (h : WM p l e R s m args below meth c G Y nL Q M2 k n pc2 L2 S2 → WM p l e R s m args below meth c G Y nL Q M k n pc L S) (kk : WM p l e R s m args below meth c G Y nL Q M2 k n pc2 L2 S2) : WM p l e R s m args below meth c G Y nL Q M k n pc L S := h kk

theorem r_callVj (E : EN p s m args meth c G Y cc own nL ret) {idx : Nat} {y : MethodName} {b : ByteArray} {maxL N : Nat} {ret' : Option FieldType} {rm : Room} {ks' : List Nat} {lk' : Nat → Nat → Nat} {as : List AV} {post : Option AV → Mem → Prop} {μ : List Nat} {st : List AV} {κ ci j0 : Nat} {T : u_T} {NF : Nat}
    (hM : MC l G y b maxL ret' rm ks' lk' (rv j0 0 :: as) (vw μ M) post) (hy : MYo y b maxL ret' N) (hi : Cond.instanceMethod y ∈ BIG ∧ Cond.selects y.cls y y ∈ BIG) (hlk : Cond.methodLink own idx y ∈ BIG) (hC : CM Y.1 Y.2.1 ks' lk' μ) (hκ : κ < 16 ∧ oc κ = some ci ∧ vwCl[ci]? = some (y.cls, T, NF)) (hkd : kdY Y (mu μ j0) = κ) (hok : okb Y (mu μ j0) 0 = true)
    (hN : as.length = N) (hst : (as.map (ren μ)).reverse ++ rv (mu μ j0) 0 :: S = st) (hroom : rm.frames + 1 ≤ R.frames ∧ 8 + (maxL + 11) + rm.locals ≤ R.locals ∧ k + rm.cells ≤ R.cells ∧ n + rm.slots ≤ R.slots) (hst8 : (S.map fun v => if ac2 (some v) then 2 else 1).sum ≤ 8) (hd : decode cc pc = .ok (.invokevirtual idx, 3))
    (kk : ∀ r M', post r M' → ∃ M2, Mrg ks'.length μ M M' M2 ∧ WM p l e R s m args below meth c G Y nL Q M2 (k + rm.cells) (n + rm.slots) (pc + 3) L ((r.map (ren μ)).toList ++ S)) : WM p l e R s m args below meth c G Y nL Q M k n pc L st := by
  intro H locs ls hP hS hl
  obtain ⟨hx, hb, hml, hown, hts, hr, hlk0, hG, hD⟩ := E
  obtain ⟨hy1, hy2, hy3, hy4, hy5⟩ := hy
  obtain ⟨q0, hq, hw⟩ := wl_at (G := G) (M := M) (okb_ok hok)
  rw [ob_ce hkd hκ.1 hκ.2.1] at hw
  have hrcv := va_recv hG.2.1 hP hκ.2.2 hw
  have hcat : ∀ S : List AV, ((S.map (cv Y)).map fun v => v.category).sum = (S.map fun v => if ac2 (some v) then 2 else 1).sum := by
    intro S
    rw [List.map_map]
    congr 1
    refine List.map_congr_left (fun a _ => ?_)
    show (cv Y a).category = _
    cases h : ac2 (some a) with
    | true => rw [ac2_cv2 h]; rfl
    | false => rw [ac2_cv h]; rfl
  have hrun := va_runV (p := p) (l := l) (e := e) (R := R) (s := s) (m := m) (args := args) (below := below) (meth := meth) (c := c) (H := H) (locs := locs) (cells := k) (slots := n) (As := as.map (cv (cY Y ks' lk' μ))) (rest := S.map (cv Y)) (b := Y.2.2 (mu μ j0) 0) (own := own) (C := y.cls) (n := N) (nL := nL) (Ts := BIG) (g := F0 m pc ls (st.map (cv Y))) (index := idx)
    ⟨hx, hb, hml, hown, hts⟩ (hM (fun j t => Y.2.2 (mu μ j) t) H.size) (ret := ret')
    ⟨callB_of (ws' := BIG) N hts (big_good hy2) rfl rfl rfl (hts _ hy1) (hts _ hlk) ⟨hy3, hy4, hy5⟩ ⟨hroom.1, hroom.2.1⟩, hts _ hi.1, hts _ hi.2⟩
    ⟨PCm.blind, hrcv, fun U hU hW => call_pre (as := rv j0 0 :: as) hC hP hS hG hD hU hW⟩ rfl (by simpa using hN) hl.1
    (by
      show st.map (cv Y) = _
      rw [← hst, List.map_append, List.map_reverse, List.map_map]
      congr 2
      refine List.map_congr_left (fun a _ => ?_)
      rcases a with v | ⟨j, u⟩ <;> rfl)
    (lv_room (by rw [hcat]; exact hst8)) hd ⟨hroom.2.2.1, hroom.2.2.2⟩
  exact run_on (Y2 := Y) hC (hD M) hP hS hl hrun kk
end RKc
theorem kd_waterOn (l : Launch) (hst : l.stackTraces = false) (G : GT) {x : PP} {be nm : Nat → Int32} {BP : Nat → Nat → Int32} {q : Nat} {M : Mem} {T : Nat → Nat → Int32} (h3 : M 3 = T) (hC : CI x be nm BP q M) {c : Nat} (hc : c < x.1.2.2) : MC l G yX9_waterOn cX9_waterOn 2 (some .int) ({ frames := 7, cells := 4, slots := 24, locals := 103 } : Room) KC lkC [rv 0 0, iv (nI c)] M (fun r M2 => r = some (iv (T 1 c)) ∧ M2 = M) := by
  subst h3
  exact kc_waterOn l hst G  hC hc
theorem kd_levelOf (l : Launch) (hst : l.stackTraces = false) (G : GT) {x : PP} {be nm : Nat → Int32} {BP : Nat → Nat → Int32} {q : Nat} {M : Mem} {T : Nat → Nat → Int32} (h3 : M 3 = T) (hC : CI x be nm BP q M) {c : Nat} (hc : c < x.1.2.2) : MC l G yX9_levelOf cX9_levelOf 2 (some .int) ({ frames := 7, cells := 4, slots := 24, locals := 103 } : Room) KC lkC [rv 0 0, iv (nI c)] M (fun r M2 => r = some (iv (x.2.1 c + T 1 c)) ∧ M2 = M) := by
  subst h3
  exact kc_levelOf l hst G  hC hc
theorem kd_leavesOn (l : Launch) (hst : l.stackTraces = false) (G : GT) {x : PP} {be nm : Nat → Int32} {BP : Nat → Nat → Int32} {q : Nat} {M : Mem} {T : Nat → Nat → Int32} (h3 : M 3 = T) (hC : CI x be nm BP q M) {c : Nat} (hc : c < x.1.2.2) : MC l G yX9_leavesOn cX9_leavesOn 2 (some .int) ({ frames := 7, cells := 4, slots := 24, locals := 103 } : Room) KC lkC [rv 0 0, iv (nI c)] M (fun r M2 => r = some (iv (T 2 c)) ∧ M2 = M) := by
  subst h3
  exact kc_leavesOn l hst G  hC hc
theorem kd_hydrantRate (l : Launch) (hst : l.stackTraces = false) (G : GT) {x : PP} {be nm : Nat → Int32} {BP : Nat → Nat → Int32} {q : Nat} {M : Mem} {T : Nat → Nat → Int32} (h3 : M 3 = T) (hC : CI x be nm BP q M) {c : Nat} (hc : c < x.1.2.2) : MC l G yX9_hydrantRate cX9_hydrantRate 2 (some .int) ({ frames := 7, cells := 4, slots := 24, locals := 103 } : Room) KC lkC [rv 0 0, iv (nI c)] M (fun r M2 => r = some (iv (T 3 c)) ∧ M2 = M) := by
  subst h3
  exact kc_hydrantRate l hst G  hC hc
theorem kd_hydrantMinutes (l : Launch) (hst : l.stackTraces = false) (G : GT) {x : PP} {be nm : Nat → Int32} {BP : Nat → Nat → Int32} {q : Nat} {M : Mem} {T : Nat → Nat → Int32} (h3 : M 3 = T) (hC : CI x be nm BP q M) {c : Nat} (hc : c < x.1.2.2) : MC l G yX9_hydrantMinutes cX9_hydrantMinutes 2 (some .int) ({ frames := 7, cells := 4, slots := 24, locals := 103 } : Room) KC lkC [rv 0 0, iv (nI c)] M (fun r M2 => r = some (iv (T 4 c)) ∧ M2 = M) := by
  subst h3
  exact kc_hydrantMinutes l hst G  hC hc
theorem kd_gutterFlow (l : Launch) (hst : l.stackTraces = false) (G : GT) {x : PP} {be nm : Nat → Int32} {BP : Nat → Nat → Int32} {q : Nat} {M : Mem} {T : Nat → Nat → Int32} (h3 : M 3 = T) (hC : CI x be nm BP q M) {c : Nat} (hc : c < x.1.2.2) : MC l G yX9_gutterFlow cX9_gutterFlow 2 (some .int) ({ frames := 7, cells := 4, slots := 24, locals := 103 } : Room) KC lkC [rv 0 0, iv (nI c)] M (fun r M2 => r = some (iv (imax (x.2.2.1 c - T 2 c) 0)) ∧ M2 = M) := by
  subst h3
  exact kc_gutterFlow l hst G  hC hc
theorem kd_flowsTo (l : Launch) (hst : l.stackTraces = false) (G : GT) {x : PP} {be nm : Nat → Int32} {BP : Nat → Nat → Int32} {q : Nat} {M : Mem} {T : Nat → Nat → Int32} (h3 : M 3 = T) (hC : CI x be nm BP q M) {c : Nat} (hc : c < x.1.2.2) : MC l G yX9_flowsTo cX9_flowsTo 3 (some .int) ({ frames := 7, cells := 4, slots := 24, locals := 103 } : Room) KC lkC [rv 0 0, iv (nI c)] M (fun r M2 => r = some (iv (if (flO x.2.1 (T 1) c (loF (nbx x) (fun k => x.2.1 k + T 1 k) c 4)) ≤ 0 then -1 else oI (loF (nbx x) (fun k => x.2.1 k + T 1 k) c 4))) ∧ M2 = M) := by
  subst h3
  exact kc_flowsTo l hst G  hC hc
theorem kd_flowFrom (l : Launch) (hst : l.stackTraces = false) (G : GT) {x : PP} {be nm : Nat → Int32} {BP : Nat → Nat → Int32} {q : Nat} {M : Mem} {T : Nat → Nat → Int32} (h3 : M 3 = T) (hC : CI x be nm BP q M) {c : Nat} (hc : c < x.1.2.2) : MC l G yX9_flowFrom cX9_flowFrom 2 (some .int) ({ frames := 7, cells := 4, slots := 24, locals := 103 } : Room) KC lkC [rv 0 0, iv (nI c)] M (fun r M2 => r = some (iv ((flO x.2.1 (T 1) c (loF (nbx x) (fun k => x.2.1 k + T 1 k) c 4)))) ∧ M2 = M) := by
  subst h3
  exact kc_flowFrom l hst G  hC hc
theorem kd_placeOf (l : Launch) (hst : l.stackTraces = false) (G : GT) {x : PP} {be nm : Nat → Int32} {BP : Nat → Nat → Int32} {q : Nat} {M : Mem} {T : Nat → Nat → Int32} (h3 : M 3 = T) (hC : CI x be nm BP q M) {b : Nat} (hb : b < x.2.2.2.2.1) : MC l G yX9_placeOf cX9_placeOf 2 (some .int) ({ frames := 7, cells := 8, slots := 48, locals := 103 } : Room) KC lkC [rv 0 0, iv (nI b)] M (fun r M2 => r = some (iv (T 5 b)) ∧ M2 = M) := by
  subst h3
  exact kc_placeOf l hst G  hC hb
theorem kd_splashesOf (l : Launch) (hst : l.stackTraces = false) (G : GT) {x : PP} {be nm : Nat → Int32} {BP : Nat → Nat → Int32} {q : Nat} {M : Mem} {T : Nat → Nat → Int32} (h3 : M 3 = T) (hC : CI x be nm BP q M) {b : Nat} (hb : b < x.2.2.2.2.1) : MC l G yX9_splashesOf cX9_splashesOf 2 (some .int) ({ frames := 7, cells := 8, slots := 48, locals := 103 } : Room) KC lkC [rv 0 0, iv (nI b)] M (fun r M2 => r = some (iv (T 6 b)) ∧ M2 = M) := by
  subst h3
  exact kc_splashesOf l hst G  hC hb
theorem kd_isWet (l : Launch) (hst : l.stackTraces = false) (G : GT) {x : PP} {be nm : Nat → Int32} {BP : Nat → Nat → Int32} {q : Nat} {M : Mem} {T : Nat → Nat → Int32} (h3 : M 3 = T) (hC : CI x be nm BP q M) {b : Nat} (hb : b < x.2.2.2.2.1) (hwt : WTi T) : MC l G yX9_isWet cX9_isWet 2 (some .boolean) ({ frames := 7, cells := 8, slots := 48, locals := 103 } : Room) KC lkC [rv 0 0, iv (nI b)] M (fun r M2 => r = some (iv (T 7 b)) ∧ M2 = M) := by
  subst h3
  exact kc_isWet l hst G  hC hb hwt
theorem kd_puddleOf (l : Launch) (hst : l.stackTraces = false) (G : GT) {x : PP} {be nm : Nat → Int32} {BP : Nat → Nat → Int32} {q : Nat} {M : Mem} {T : Nat → Nat → Int32} (h3 : M 3 = T) {p9 : Nat → Nat} {Lq : Nat → Int32} (hP : pdP (nbx x) (T 1) x.1.2.2 p9) (hL : pdL (T 1) x.1.2.2 p9 Lq) (hC : CI x be nm BP q M) {c : Nat} (hc : c < x.1.2.2) : MC l G yX9_puddleOf cX9_puddleOf 2 (some .int) ({ frames := 7, cells := 4, slots := 24, locals := 103 } : Room) KC lkC [rv 0 0, iv (nI c)] M (fun r M2 => r = some (iv (if 0 < T 1 c then nI (kN (rp Lq) (p9 c)) else -1)) ∧ ∃ Z, M2 = setm M 15 Z) := by
  subst h3
  exact kc_puddleOf l hst G hP hL hC hc
theorem kd_puddleCount (l : Launch) (G : GT) {x : PP} {be nm : Nat → Int32} {BP : Nat → Nat → Int32} {q : Nat} {M : Mem} {T : Nat → Nat → Int32} (h3 : M 3 = T) {p9 : Nat → Nat} {Lq : Nat → Int32} (hP : pdP (nbx x) (T 1) x.1.2.2 p9) (hL : pdL (T 1) x.1.2.2 p9 Lq) (hC : CI x be nm BP q M) : MC l G yX9_puddleCount cX9_puddleCount 1 (some .int) ({ frames := 4, cells := 0, slots := 0, locals := 94 } : Room) KC lkC [rv 0 0] M (fun r M2 => r = some (iv (nI (kN (rp Lq) x.1.2.2))) ∧ ∃ Z, M2 = setm M 15 Z) := by
  subst h3
  exact kc_puddleCount l G hP hL hC 
theorem kd_puddleSize (l : Launch) (hst : l.stackTraces = false) (G : GT) {x : PP} {be nm : Nat → Int32} {BP : Nat → Nat → Int32} {q : Nat} {M : Mem} {T : Nat → Nat → Int32} (h3 : M 3 = T) {p9 : Nat → Nat} {Lq : Nat → Int32} (hP : pdP (nbx x) (T 1) x.1.2.2 p9) (hL : pdL (T 1) x.1.2.2 p9 Lq) (hC : CI x be nm BP q M) {m : Nat} (hm : m < x.1.2.2) (hr : rp Lq m = true) : MC l G yX9_puddleSize cX9_puddleSize 2 (some .int) ({ frames := 7, cells := 8, slots := 48, locals := 115 } : Room) KC lkC [rv 0 0, iv (nI (kN (rp Lq) m))] M (fun r M2 => r = some (iv (nI (kN (lq Lq (nI m)) x.1.2.2))) ∧ ∃ Z, M2 = setm M 15 Z) := by
  subst h3
  exact kc_puddleSize l hst G hP hL hC hm hr
theorem kd_puddleWater (l : Launch) (hst : l.stackTraces = false) (G : GT) {x : PP} {be nm : Nat → Int32} {BP : Nat → Nat → Int32} {q : Nat} {M : Mem} {T : Nat → Nat → Int32} (h3 : M 3 = T) {p9 : Nat → Nat} {Lq : Nat → Int32} (hP : pdP (nbx x) (T 1) x.1.2.2 p9) (hL : pdL (T 1) x.1.2.2 p9 Lq) (hC : CI x be nm BP q M) {m : Nat} (hm : m < x.1.2.2) (hr : rp Lq m = true) : MC l G yX9_puddleWater cX9_puddleWater 2 (some .int) ({ frames := 7, cells := 8, slots := 48, locals := 115 } : Room) KC lkC [rv 0 0, iv (nI (kN (rp Lq) m))] M (fun r M2 => r = some (iv (sQ (lq Lq (nI m)) (T 1) x.1.2.2)) ∧ ∃ Z, M2 = setm M 15 Z) := by
  subst h3
  exact kc_puddleWater l hst G hP hL hC hm hr
theorem kd_setRain (l : Launch) (hst : l.stackTraces = false) (G : GT) {x : PP} {be nm : Nat → Int32} {BP : Nat → Nat → Int32} {q : Nat} {M : Mem} {T : Nat → Nat → Int32} (h3 : M 3 = T) {o h : Nat} (hC : CI x be nm BP q M) (ho1 : M 6 0 1 = nI o) (hh1 : M 6 0 2 = nI h) (ho8 : o < 8) (hh8 : h ≤ 8) (hwt : WTi T) (a : Int32) (h0 : 0 ≤ a) (h9 : a ≤ 9) : MC l G yX9_setRain cX9_setRain 3 (some .int) ({ frames := 7, cells := 4, slots := 24, locals := 104 } : Room) KC lkC [rv 0 0, iv a] M (fun r M2 => r = some (iv (T 0 8)) ∧ M2 = setm (kpM M o h) 3 (raT T a)) := by
  subst h3
  exact kc_setRain l hst G  hC ho1 hh1 ho8 hh8 hwt a h0 h9
theorem kd_passMinutes (l : Launch) (hst : l.stackTraces = false) (G : GT) {x : PP} {be nm : Nat → Int32} {BP : Nat → Nat → Int32} {q : Nat} {M : Mem} {T : Nat → Nat → Int32} (h3 : M 3 = T) {o h : Nat} (hC : CI x be nm BP q M) (ho1 : M 6 0 1 = nI o) (hh1 : M 6 0 2 = nI h) (ho8 : o < 8) (hh8 : h ≤ 8) (hwt : WTi T) (t : Nat) (h1 : 1 ≤ t) (h60 : t ≤ 60) (h9 : (T 0 7).toInt + 60 ≤ 999) (h0 : 0 ≤ (T 0 7).toInt) (hpl : PLi x T) : MC l G yX9_passMinutes cX9_passMinutes 3 (some .int) ({ frames := 7, cells := 6, slots := 36, locals := 118 } : Room) KC lkC [rv 0 0, iv (nI t)] M (fun r M2 => r = some (iv (mnX x T t 0 11 - T 0 11)) ∧ M2 = setm (kpM M o h) 3 (mnX x T t)) := by
  subst h3
  exact kc_passMinutes l hst G  hC ho1 hh1 ho8 hh8 hwt t h1 h60 h9 h0 hpl
theorem kd_burst (l : Launch) (hst : l.stackTraces = false) (G : GT) {x : PP} {be nm : Nat → Int32} {BP : Nat → Nat → Int32} {q : Nat} {M : Mem} {T : Nat → Nat → Int32} (h3 : M 3 = T) {o h : Nat} (hC : CI x be nm BP q M) (ho1 : M 6 0 1 = nI o) (hh1 : M 6 0 2 = nI h) (ho8 : o < 8) (hh8 : h ≤ 8) (hwt : WTi T) (c a b : Nat) (hc : c < x.1.2.2) (a1 : 1 ≤ a) (a2 : a ≤ 20) (b1 : 1 ≤ b) (b2 : b ≤ 60) (h0 : T 4 c = 0) : MC l G yX9_burst cX9_burst 4 (some .int) ({ frames := 7, cells := 16, slots := 96, locals := 104 } : Room) KC lkC [rv 0 0, iv (nI c), iv (nI a), iv (nI b)] M (fun r M2 => r = some (iv (sm (cO (opT T c (nI a) (nI b) 4)) x.1.2.2)) ∧ M2 = setm (kpM M o h) 3 (opT T c (nI a) (nI b))) := by
  subst h3
  exact kc_burst l hst G  hC ho1 hh1 ho8 hh8 hwt c a b hc a1 a2 b1 b2 h0
theorem kd_shut (l : Launch) (hst : l.stackTraces = false) (G : GT) {x : PP} {be nm : Nat → Int32} {BP : Nat → Nat → Int32} {q : Nat} {M : Mem} {T : Nat → Nat → Int32} (h3 : M 3 = T) {o h : Nat} (hC : CI x be nm BP q M) (ho1 : M 6 0 1 = nI o) (hh1 : M 6 0 2 = nI h) (ho8 : o < 8) (hh8 : h ≤ 8) (hwt : WTi T) (c : Nat) (hc : c < x.1.2.2) (h0 : 0 < T 4 c) : MC l G yX9_shut cX9_shut 2 (some .int) ({ frames := 7, cells := 6, slots := 36, locals := 103 } : Room) KC lkC [rv 0 0, iv (nI c)] M (fun r M2 => r = some (iv (T 4 c)) ∧ M2 = setm (kpM M o h) 3 (shT T c)) := by
  subst h3
  exact kc_shut l hst G  hC ho1 hh1 ho8 hh8 hwt c hc h0
theorem kd_dropLeaves (l : Launch) (hst : l.stackTraces = false) (G : GT) {x : PP} {be nm : Nat → Int32} {BP : Nat → Nat → Int32} {q : Nat} {M : Mem} {T : Nat → Nat → Int32} (h3 : M 3 = T) {o h : Nat} (hC : CI x be nm BP q M) (ho1 : M 6 0 1 = nI o) (hh1 : M 6 0 2 = nI h) (ho8 : o < 8) (hh8 : h ≤ 8) (hwt : WTi T) (c a : Nat) (hc : c < x.1.2.2) (a1 : 1 ≤ a) (a2 : a ≤ 9) : MC l G yX9_dropLeaves cX9_dropLeaves 3 (some .int) ({ frames := 7, cells := 8, slots := 48, locals := 104 } : Room) KC lkC [rv 0 0, iv (nI c), iv (nI a)] M (fun r M2 => r = some (iv (lvT T c (nI a) 2 c)) ∧ M2 = setm (kpM M o h) 3 (lvT T c (nI a))) := by
  subst h3
  exact kc_dropLeaves l hst G  hC ho1 hh1 ho8 hh8 hwt c a hc a1 a2
theorem kd_sweep (l : Launch) (hst : l.stackTraces = false) (G : GT) {x : PP} {be nm : Nat → Int32} {BP : Nat → Nat → Int32} {q : Nat} {M : Mem} {T : Nat → Nat → Int32} (h3 : M 3 = T) {o h : Nat} (hC : CI x be nm BP q M) (ho1 : M 6 0 1 = nI o) (hh1 : M 6 0 2 = nI h) (ho8 : o < 8) (hh8 : h ≤ 8) (hwt : WTi T) (c : Nat) (hc : c < x.1.2.2) : MC l G yX9_sweep cX9_sweep 2 (some .int) ({ frames := 7, cells := 4, slots := 24, locals := 103 } : Room) KC lkC [rv 0 0, iv (nI c)] M (fun r M2 => r = some (iv (T 2 c)) ∧ M2 = setm (kpM M o h) 3 (swT T c)) := by
  subst h3
  exact kc_sweep l hst G  hC ho1 hh1 ho8 hh8 hwt c hc
theorem kd_walk (l : Launch) (hst : l.stackTraces = false) (G : GT) {x : PP} {be nm : Nat → Int32} {BP : Nat → Nat → Int32} {q : Nat} {M : Mem} {T : Nat → Nat → Int32} (h3 : M 3 = T) {o h : Nat} (hC : CI x be nm BP q M) (ho1 : M 6 0 1 = nI o) (hh1 : M 6 0 2 = nI h) (ho8 : o < 8) (hh8 : h ≤ 8) (hwt : WTi T) (b d f j : Nat) (hpl : PLi x T) (hb : b < x.2.2.2.2.1) (hd : d < 4) (hf : T 5 b = nI f) (hf2 : f < x.1.2.2) (hj : nbx x f d = some j) : MC l G yX9_walk cX9_walk 3 (some .int) ({ frames := 7, cells := 14, slots := 84, locals := 104 } : Room) KC lkC [rv 0 0, iv (nI b), iv (nI d)] M (fun r M2 => r = some (iv (nI j)) ∧ M2 = setm (kpM M o h) 3 (wkT x.2.2.2.2.2.2.2.1 T b j)) := by
  subst h3
  exact kc_walk l hst G  hC ho1 hh1 ho8 hh8 hwt b d f j hpl hb hd hf hf2 hj
theorem kd_splash (l : Launch) (hst : l.stackTraces = false) (G : GT) {x : PP} {be nm : Nat → Int32} {BP : Nat → Nat → Int32} {q : Nat} {M : Mem} {T : Nat → Nat → Int32} (h3 : M 3 = T) {o h : Nat} (hC : CI x be nm BP q M) (ho1 : M 6 0 1 = nI o) (hh1 : M 6 0 2 = nI h) (ho8 : o < 8) (hh8 : h ≤ 8) (hwt : WTi T) (b f : Nat) (hpl : PLi x T) (hb : b < x.2.2.2.2.1) (hf : T 5 b = nI f) (hf2 : f < x.1.2.2) (h0 : 0 < T 1 f) : MC l G yX9_splash cX9_splash 2 (some .int) ({ frames := 7, cells := 10, slots := 60, locals := 103 } : Room) KC lkC [rv 0 0, iv (nI b)] M (fun r M2 => r = some (iv (thR x T f)) ∧ M2 = setm (kpM M o h) 3 (thT x T b f)) := by
  subst h3
  exact kc_splash l hst G  hC ho1 hh1 ho8 hh8 hwt b f hpl hb hf hf2 h0
theorem kd_minute (l : Launch) (G : GT) {M : Mem} {T : Nat → Nat → Int32} (h3 : M 3 = T) : MC l G yX9_minute cX9_minute 1 (some .int) ({ frames := 0, cells := 0, slots := 0, locals := 0 } : Room) KC lkC [rv 0 0] M (fun r M2 => r = some (iv (T 0 7)) ∧ M2 = M) := by
  subst h3
  exact sp_X9_minute l G M
theorem kd_rain (l : Launch) (G : GT) {M : Mem} {T : Nat → Nat → Int32} (h3 : M 3 = T) : MC l G yX9_rain cX9_rain 1 (some .int) ({ frames := 0, cells := 0, slots := 0, locals := 0 } : Room) KC lkC [rv 0 0] M (fun r M2 => r = some (iv (T 0 8)) ∧ M2 = M) := by
  subst h3
  exact sp_X9_rain l G M
theorem kd_rained (l : Launch) (G : GT) {M : Mem} {T : Nat → Nat → Int32} (h3 : M 3 = T) : MC l G yX9_rained cX9_rained 1 (some .int) ({ frames := 0, cells := 0, slots := 0, locals := 0 } : Room) KC lkC [rv 0 0] M (fun r M2 => r = some (iv (T 0 9)) ∧ M2 = M) := by
  subst h3
  exact sp_X9_rained l G M
theorem kd_fromHydrants (l : Launch) (G : GT) {M : Mem} {T : Nat → Nat → Int32} (h3 : M 3 = T) : MC l G yX9_fromHydrants cX9_fromHydrants 1 (some .int) ({ frames := 0, cells := 0, slots := 0, locals := 0 } : Room) KC lkC [rv 0 0] M (fun r M2 => r = some (iv (T 0 10)) ∧ M2 = M) := by
  subst h3
  exact sp_X9_fromHydrants l G M
theorem kd_drained (l : Launch) (G : GT) {M : Mem} {T : Nat → Nat → Int32} (h3 : M 3 = T) : MC l G yX9_drained cX9_drained 1 (some .int) ({ frames := 0, cells := 0, slots := 0, locals := 0 } : Room) KC lkC [rv 0 0] M (fun r M2 => r = some (iv (T 0 11)) ∧ M2 = M) := by
  subst h3
  exact sp_X9_drained l G M
theorem kd_evaporated (l : Launch) (G : GT) {M : Mem} {T : Nat → Nat → Int32} (h3 : M 3 = T) : MC l G yX9_evaporated cX9_evaporated 1 (some .int) ({ frames := 0, cells := 0, slots := 0, locals := 0 } : Room) KC lkC [rv 0 0] M (fun r M2 => r = some (iv (T 0 12)) ∧ M2 = M) := by
  subst h3
  exact sp_X9_evaporated l G M
theorem kd_isConsistent (l : Launch) (G : GT) {x : PP} {be nm : Nat → Int32} {BP : Nat → Nat → Int32} {q : Nat} {M : Mem} {T : Nat → Nat → Int32} {L : Int} (h3 : M 3 = T) (hC : CI x be nm BP q M) (hZ : ZI x T L) (hc : CNi x T) (hpl : PLi x T) : MC l G yX9_isConsistent cX9_isConsistent 3 (some .boolean) ({ frames := 4, cells := 0, slots := 0, locals := 94 } : Room) KC lkC [rv 0 0] M (fun r M2 => r = some (iv 1) ∧ ∃ Z, M2 = setm M 15 Z) := by
  subst h3
  refine MC.mono (sp_X9_isConsistent l G BP be nm x q M hC.1 hC.2.1 hC.2.2.1 hC.2.2.2.1 hC.2.2.2.2 hpl (fun c hcc => i_le.mpr (by rw [i_0]; exact hZ.1.2.2.2.2.1 c hcc))) (fun r M2 h => ?_)
  obtain ⟨rfl, rfl⟩ := h
  rw [cs_1 hC.2.2.2.1 hZ hc]
  exact ⟨rfl, _, rfl⟩
theorem kw_burst (l : Launch) (hst : l.stackTraces = false) (G : GT) {x : PP} {be nm : Nat → Int32} {BP : Nat → Nat → Int32} {q : Nat} {M : Mem} {T : Nat → Nat → Int32} (h3 : M 3 = T) {o h : Nat} (hC : CI x be nm BP q M) (ho1 : M 6 0 1 = nI o) (hh1 : M 6 0 2 = nI h) (ho8 : o < 8) (hh8 : h ≤ 8) (hwt : WTi T) (c : Nat) (hc : c < x.1.2.2) (h0 : 0 < T 4 c) : MCx l G yX9_burst cX9_burst 4 (some .int) ({ frames := 7, cells := 16, slots := 96, locals := 104 } : Room) KC lkC [rv 0 0, iv (nI c), iv 1, iv 1] M (fun _ _ => False) (fun E M2 => E = steN ∧ M2 = M) := by
  subst h3
  exact kx_burst l hst G hC ho1 hh1 ho8 hh8 hwt c hc h0
theorem kw_shut (l : Launch) (hst : l.stackTraces = false) (G : GT) {x : PP} {be nm : Nat → Int32} {BP : Nat → Nat → Int32} {q : Nat} {M : Mem} {T : Nat → Nat → Int32} (h3 : M 3 = T) {o h : Nat} (hC : CI x be nm BP q M) (ho1 : M 6 0 1 = nI o) (hh1 : M 6 0 2 = nI h) (ho8 : o < 8) (hh8 : h ≤ 8) (hwt : WTi T) (c : Nat) (hc : c < x.1.2.2) (h0 : T 4 c = 0) : MCx l G yX9_shut cX9_shut 2 (some .int) ({ frames := 7, cells := 6, slots := 36, locals := 103 } : Room) KC lkC [rv 0 0, iv (nI c)] M (fun _ _ => False) (fun E M2 => E = steN ∧ M2 = M) := by
  subst h3
  exact kx_shut l hst G hC ho1 hh1 ho8 hh8 hwt c hc h0
theorem kw_walk (l : Launch) (hst : l.stackTraces = false) (G : GT) {x : PP} {be nm : Nat → Int32} {BP : Nat → Nat → Int32} {q : Nat} {M : Mem} {T : Nat → Nat → Int32} (h3 : M 3 = T) {o h : Nat} (hC : CI x be nm BP q M) (ho1 : M 6 0 1 = nI o) (hh1 : M 6 0 2 = nI h) (ho8 : o < 8) (hh8 : h ≤ 8) (hwt : WTi T) (b d f : Nat) (hpl : PLi x T) (hb : b < x.2.2.2.2.1) (hd : d < 4) (hf : T 5 b = nI f) (hf2 : f < x.1.2.2) (hj : nbx x f d = none) : MCx l G yX9_walk cX9_walk 3 (some .int) ({ frames := 7, cells := 14, slots := 84, locals := 104 } : Room) KC lkC [rv 0 0, iv (nI b), iv (nI d)] M (fun _ _ => False) (fun E M2 => E = steN ∧ M2 = M) := by
  subst h3
  exact kx_walk l hst G hC ho1 hh1 ho8 hh8 hwt b d f hpl hb hd hf hf2 hj
theorem kw_splash (l : Launch) (hst : l.stackTraces = false) (G : GT) {x : PP} {be nm : Nat → Int32} {BP : Nat → Nat → Int32} {q : Nat} {M : Mem} {T : Nat → Nat → Int32} (h3 : M 3 = T) {o h : Nat} (hC : CI x be nm BP q M) (ho1 : M 6 0 1 = nI o) (hh1 : M 6 0 2 = nI h) (ho8 : o < 8) (hh8 : h ≤ 8) (hwt : WTi T) (b f : Nat) (hpl : PLi x T) (hb : b < x.2.2.2.2.1) (hf : T 5 b = nI f) (hf2 : f < x.1.2.2) (h0 : T 1 f = 0) : MCx l G yX9_splash cX9_splash 2 (some .int) ({ frames := 7, cells := 10, slots := 60, locals := 103 } : Room) KC lkC [rv 0 0, iv (nI b)] M (fun _ _ => False) (fun E M2 => E = steN ∧ M2 = M) := by
  subst h3
  exact kx_splash l hst G hC ho1 hh1 ho8 hh8 hwt b f hpl hb hf hf2 h0
