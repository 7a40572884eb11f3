/-! rows that touch the heap -/
def okb (Y : LV) (j t : Nat) : Bool := decide (j < Y.1.length) && (KT (kdY Y j)).contains t
theorem okb_ok {Y : LV} {j t : Nat} (h : okb Y j t = true) : okY Y j t := by
  simp only [okb, Bool.and_eq_true, decide_eq_true_eq, List.contains_iff_mem] at h
  exact h
theorem KT_obj : ∀ κ, κ < 16 → ∀ t ∈ KT κ, ae κ t = none → t = 0 := by decide +kernel
theorem KT_obj' {κ t : Nat} (ht : t ∈ KT κ) (h : ae κ t = none) : t = 0 := by
  rcases Nat.lt_or_ge κ 16 with h1 | h1
  · exact KT_obj κ h1 t ht h
  · rw [KT_big κ h1] at ht; cases ht
theorem KT_cls : ∀ κ, κ < 16 → (oc κ).isSome = true → ae κ 0 = none := by decide +kernel
theorem ceY_congr {G : GT} {Y : LV} {S S' : Nat → Nat → Int32} {j t : Nat} (ht : t ∈ KT (kdY Y j)) (h : S' t = S t) : ceY G Y S' j t = ceY G Y S j t := by
  unfold ceY
  cases ha : ae (kdY Y j) t with
  | some q => simp only [h]
  | none =>
    have h0 := KT_obj' ht ha
    subst h0
    have : ∀ k, fv Y j k S' = fv Y j k S := fun k => by unfold fv; rw [h]
    simp only [this]
theorem map_setm {α β : Type} {K : List α} {f g : α → β} {i : Nat} {k : α} (hn : K.Nodup) (hi : K[i]? = some k) (hfg : ∀ a ∈ K, a ≠ k → g a = f a) : (K.map f).set i (g k) = K.map g := by
  apply List.ext_getElem?
  intro n
  rw [List.getElem?_set]
  by_cases h : i = n
  · subst h
    obtain ⟨hlt, he⟩ := List.getElem?_eq_some_iff.mp hi
    rw [if_pos rfl, List.length_map, if_pos hlt, List.getElem?_map, hi]
    rfl
  · rw [if_neg h, List.getElem?_map, List.getElem?_map]
    cases hk : K[n]? with
    | none => rfl
    | some a =>
      have hne : a ≠ k := by
        intro e
        subst e
        exact h (nd_inj hn hi hk)
      simp [hfg a (List.mem_of_getElem? hk) hne]
theorem setm_s {M : Mem} {j : Nat} {S : Nat → Nat → Int32} : setm M j S j = S := if_pos rfl
theorem setm_n {M : Mem} {j g : Nat} {S : Nat → Nat → Int32} (h : g ≠ j) : setm M j S g = M g := if_neg h
theorem sett_s {S : Nat → Nat → Int32} {t : Nat} {f : Nat → Int32} : sett S t f t = f := if_pos rfl
theorem sett_n {S : Nat → Nat → Int32} {t u : Nat} {f : Nat → Int32} (h : u ≠ t) : sett S t f u = S u := if_neg h
theorem wl_set {G : GT} {Y : LV} {M : Mem} {j t q0 : Nat} (hq : (KY Y)[q0]? = some (j, t)) {f : Nat → Int32} {x : va_E} (hx : ceY G Y (sett (M j) t f) j t = x) : (wl G Y M).set q0 (Y.2.2 j t, x) = wl G Y (setm M j (sett (M j) t f)) := by
  have h1 : (Y.2.2 j t, x) = (fun q : Nat × Nat => (Y.2.2 q.1 q.2, ceY G Y (setm M j (sett (M j) t f) q.1) q.1 q.2)) (j, t) := by
    show (_, x) = (_, ceY G Y (setm M j (sett (M j) t f) j) j t)
    rw [setm_s, hx]
  unfold wl
  rw [h1]
  refine map_setm (g := fun q : Nat × Nat => (Y.2.2 q.1 q.2, ceY G Y (setm M j (sett (M j) t f) q.1) q.1 q.2)) (k := (j, t)) (KY_nodup Y) hq ?_
  rintro ⟨a, b⟩ hm hne
  obtain ⟨-, hb⟩ := KY_mem.mp hm
  show (_, ceY G Y (setm M j (sett (M j) t f) a) a b) = (_, ceY G Y (M a) a b)
  by_cases ha : a = j
  · subst ha
    rw [setm_s]
    rw [ceY_congr hb (sett_n (fun e => hne (by rw [e])))]
  · rw [setm_n ha]
section RH
variable {p : Program} {l : Launch} {e : Env} {R : Room} {s : State} {m : MethodId} {args : Array Value} {below : List Frame} {meth : Method} {c : Code} {G : GT} {Y : LV} {nL : Nat} {Q : State → Prop} {M : Mem} {k n pc : Nat} {L : List (Option AV)} {S : List AV} {cc : ByteArray} {own : String} {ret : Option FieldType}
theorem ob_ce {κ ci : Nat} {j : Nat} (hκ : kdY Y j = κ) (hk : κ < 16) (ho : oc κ = some ci) (Z : Nat → Nat → Int32) : ceY G Y Z j 0 = .inr (ci, (List.range (fn κ)).map (fun k => cv Y (fv Y j k Z))) := by
  unfold ceY
  rw [hκ, KT_cls κ hk (by rw [ho]; rfl), ho]
  rfl
theorem r_getf (E : EN p s m args meth c G Y cc own nL ret) {idx κ f j : Nat} (hF : FL own idx κ f) (hd : decode cc pc = .ok (.getfield idx, 3)) (hκ : kdY Y j = κ) (hj : okb Y j 0 = true) {v : AV} (hv : fv Y j f (M j) = v) (kk : WM p l e R s m args below meth c G Y nL Q M k n (pc + 3) L (v :: S)) : WM p l e R s m args below meth c G Y nL Q M k n pc L (rv j 0 :: S) := by
  intro H locs ls hP hS hl
  obtain ⟨hx, hb, hml, hown, hts, hr, hlk, ⟨hnw, hK, hX⟩, hD⟩ := E
  obtain ⟨ci, N, C, T, ty0, h12, h1, h2, h3, h4, h5, h6, h7, h8⟩ := hF
  obtain ⟨q0, hq, hw⟩ := wl_at (G := G) (M := M) (okb_ok hj)
  rw [ob_ce hκ h12 h1] at hw
  subst h2
  have hv2 : ((List.range (fn κ)).map (fun k => cv Y (fv Y j k (M j))))[f]? = some (cv Y v) := by
    rw [List.getElem?_map, List.getElem?_range h7, ← hv]
    rfl
  rcases h8 with h8 | ⟨host, h8⟩
  · exact va_get (D := G.1) hx hb hts h4 hown hK hP q0 hw h3 f h7 (hts _ h8) (fun _ h9 => h9) hv2 hd (kk H locs ls hP hS hl)
  · exact va_getN (D := G.1) (host := host) hx hb hts h4 hown hK hP q0 hw h3 f h7 (va_Nw.use rfl (hnw _ h8)) (fun _ h9 => h9) hv2 hd (kk H locs ls hP hS hl)
theorem r_putf (E : EN p s m args meth c G Y cc own nL ret) {idx κ f j : Nat} {ty : FieldType} (hF : FLt own idx κ f ty) (hd : decode cc pc = .ok (.putfield idx, 3)) (hκ : kdY Y j = κ) (hj : okb Y j 0 = true) {a : AV} {x : Int32} (hv : fv Y j f (sett (M j) 0 (upd (M j 0) f x)) = a) (hn : narrow ty (cv Y a) = cv Y a) (hf : fits ty (cv Y a) = true) (kk : WM p l e R s m args below meth c G Y nL Q (setm M j (sett (M j) 0 (upd (M j 0) f x))) k n (pc + 3) L S) : WM p l e R s m args below meth c G Y nL Q M k n pc L (a :: rv j 0 :: S) := by
  intro H locs ls hP hS hl
  obtain ⟨hx, hb, hml, hown, hts, hr, hlk, ⟨hnw, hK, hX⟩, hD⟩ := E
  obtain ⟨ci, N, C, T, ty0, h12, h1, h2, h3, h4, h5, h6, h7, h8, h9, h10⟩ := hF
  obtain ⟨q0, hq, hw⟩ := wl_at (G := G) (M := M) (okb_ok hj)
  rw [ob_ce hκ h12 h1] at hw
  subst h2
  have hce : ceY G Y (sett (M j) 0 (upd (M j 0) f x)) j 0 = .inr (ci, ((List.range (fn κ)).map (fun k => cv Y (fv Y j k (M j)))).set f (cv Y a)) := by
    rw [ob_ce hκ h12 h1]
    congr 2
    symm
    have h11 : cv Y a = (fun k => cv Y (fv Y j k (sett (M j) 0 (upd (M j 0) f x)))) f := by rw [← hv]
    rw [h11]
    refine map_setm (g := fun k => cv Y (fv Y j k (sett (M j) 0 (upd (M j 0) f x)))) (k := f) List.nodup_range (List.getElem?_range h7) ?_
    intro b _ hb
    have : fv Y j b (sett (M j) 0 (upd (M j 0) f x)) = fv Y j b (M j) := by
      unfold fv
      rw [sett_s]
      have h12 : upd (M j 0) f x b = M j 0 b := by simp [upd, hb]
      rw [h12]
    show cv Y _ = cv Y _
    rw [this]
  have hset := wl_set (G := G) hq hce
  have hlen : f < ((List.range (fn κ)).map (fun k => cv Y (fv Y j k (M j)))).length := by simpa using h7
  rcases h8 with h8 | ⟨host, h8⟩
  · exact va_put (D := G.1) hx hb hts h4 ty0 h5 h6 hown hK hP (hD M) hS q0 hw h3 f h7 (hts _ h8) (fun _ h => h) h9 h10 hn hf hlen hd (fun H1 locs1 hP1 _ hS1 => kk H1 locs1 ls (by rw [← hset]; exact hP1) hS1 hl)
  · exact va_putN (D := G.1) (host := host) hx hb hts h4 ty0 h5 h6 hown hK hP (hD M) hS q0 hw h3 f h7 (va_Nw.use rfl (hnw _ h8)) (fun _ h => h) h9 h10 hn hf hlen hd (fun H1 locs1 hP1 _ hS1 => kk H1 locs1 ls (by rw [← hset]; exact hP1) hS1 hl)
theorem ar_ce {j t : Nat} {q : Nat × Nat} (ha : ae (kdY Y j) t = some q) (Z : Nat → Nat → Int32) : ceY G Y Z j t = .inl (G.2.1 q.1, (q.2, arC Y q.1 j (Z t))) := by
  unfold ceY
  rw [ha]
theorem r_iald (E : EN p s m args meth c G Y cc own nL ret) {j t N : Nat} {i : Int32} (hd : decode cc pc = .ok (.iaload, 1)) (ha : ae (kdY Y j) t = some (0, N)) (hj : okb Y j t = true) (hi : vp_in i N) (kk : WM p l e R s m args below meth c G Y nL Q M k n (pc + 1) L (iv (M j t i.toNatClampNeg) :: S)) : WM p l e R s m args below meth c G Y nL Q M k n pc L (iv i :: rv j t :: S) := by
  intro H locs ls hP hS hl
  obtain ⟨hx, hb, hml, hown, hts, hr, hlk, ⟨hnw, hK, hX⟩, hD⟩ := E
  obtain ⟨q0, hq, hw⟩ := wl_at (G := G) (M := M) (okb_ok hj)
  rw [ar_ce ha] at hw
  exact va_iald (D := G.1) hx hb hK hP q0 0 hw rfl hi hd (kk H locs ls hP hS hl)
theorem r_bald (E : EN p s m args meth c G Y cc own nL ret) {j t N : Nat} {i : Int32} (hd : decode cc pc = .ok (.baload, 1)) (ha : ae (kdY Y j) t = some (1, N)) (hj : okb Y j t = true) (hi : vp_in i N) (kk : WM p l e R s m args below meth c G Y nL Q M k n (pc + 1) L (iv (M j t i.toNatClampNeg) :: S)) : WM p l e R s m args below meth c G Y nL Q M k n pc L (iv i :: rv j t :: S) := by
  intro H locs ls hP hS hl
  obtain ⟨hx, hb, hml, hown, hts, hr, hlk, ⟨hnw, hK, hX⟩, hD⟩ := E
  obtain ⟨q0, hq, hw⟩ := wl_at (G := G) (M := M) (okb_ok hj)
  rw [ar_ce ha] at hw
  exact va_bald (D := G.1) hx hb hK hP q0 1 hw rfl hi hd (kk H locs ls hP hS hl)
theorem r_zald (E : EN p s m args meth c G Y cc own nL ret) {j t N : Nat} {i : Int32} (hd : decode cc pc = .ok (.baload, 1)) (ha : ae (kdY Y j) t = some (2, N)) (hj : okb Y j t = true) (hi : vp_in i N) (kk : WM p l e R s m args below meth c G Y nL Q M k n (pc + 1) L (iv (M j t i.toNatClampNeg) :: S)) : WM p l e R s m args below meth c G Y nL Q M k n pc L (iv i :: rv j t :: S) := by
  intro H locs ls hP hS hl
  obtain ⟨hx, hb, hml, hown, hts, hr, hlk, ⟨hnw, hK, hX⟩, hD⟩ := E
  obtain ⟨q0, hq, hw⟩ := wl_at (G := G) (M := M) (okb_ok hj)
  rw [ar_ce ha] at hw
  exact va_zald (D := G.1) hx hb hK hP q0 2 hw rfl hi hd (kk H locs ls hP hS hl)
theorem r_iast (E : EN p s m args meth c G Y cc own nL ret) {j t N : Nat} {i x : Int32} (hd : decode cc pc = .ok (.iastore, 1)) (ha : ae (kdY Y j) t = some (0, N)) (hj : okb Y j t = true) (hi : vp_in i N) (kk : WM p l e R s m args below meth c G Y nL Q (setm M j (sett (M j) t (upd (M j t) i.toNatClampNeg x))) k n (pc + 1) L S) : WM p l e R s m args below meth c G Y nL Q M k n pc L (iv x :: iv i :: rv j t :: S) := by
  intro H locs ls hP hS hl
  obtain ⟨hx, hb, hml, hown, hts, hr, hlk, ⟨hnw, hK, hX⟩, hD⟩ := E
  obtain ⟨q0, hq, hw⟩ := wl_at (G := G) (M := M) (okb_ok hj)
  rw [ar_ce ha] at hw
  exact va_iast (D := G.1) hx hb hK hP (hD M) hS q0 0 hw rfl hi hd (fun H1 locs1 hP1 _ hS1 => kk H1 locs1 ls (by rw [← wl_set hq ((ar_ce ha _).trans (by rw [sett_s]))]; exact hP1) hS1 hl)
theorem r_bast (E : EN p s m args meth c G Y cc own nL ret) {j t N : Nat} {i x y : Int32} (hd : decode cc pc = .ok (.bastore, 1)) (ha : ae (kdY Y j) t = some (1, N)) (hj : okb Y j t = true) (hi : vp_in i N) (hy : vp_nar .byte x = y) (kk : WM p l e R s m args below meth c G Y nL Q (setm M j (sett (M j) t (upd (M j t) i.toNatClampNeg y))) k n (pc + 1) L S) : WM p l e R s m args below meth c G Y nL Q M k n pc L (iv x :: iv i :: rv j t :: S) := by
  intro H locs ls hP hS hl
  obtain ⟨hx, hb, hml, hown, hts, hr, hlk, ⟨hnw, hK, hX⟩, hD⟩ := E
  obtain ⟨q0, hq, hw⟩ := wl_at (G := G) (M := M) (okb_ok hj)
  rw [ar_ce ha] at hw
  subst hy
  exact va_bast (D := G.1) hx hb hK hP (hD M) hS q0 1 hw rfl hi hd (fun H1 locs1 hP1 _ hS1 => kk H1 locs1 ls (by rw [← wl_set hq ((ar_ce ha _).trans (by rw [sett_s]))]; exact hP1) hS1 hl)
theorem r_zast (E : EN p s m args meth c G Y cc own nL ret) {j t N : Nat} {i x y : Int32} (hd : decode cc pc = .ok (.bastore, 1)) (ha : ae (kdY Y j) t = some (2, N)) (hj : okb Y j t = true) (hi : vp_in i N) (hy : vp_nar .boolean x = y) (kk : WM p l e R s m args below meth c G Y nL Q (setm M j (sett (M j) t (upd (M j t) i.toNatClampNeg y))) k n (pc + 1) L S) : WM p l e R s m args below meth c G Y nL Q M k n pc L (iv x :: iv i :: rv j t :: S) := by
  intro H locs ls hP hS hl
  obtain ⟨hx, hb, hml, hown, hts, hr, hlk, ⟨hnw, hK, hX⟩, hD⟩ := E
  obtain ⟨q0, hq, hw⟩ := wl_at (G := G) (M := M) (okb_ok hj)
  rw [ar_ce ha] at hw
  subst hy
  exact va_zast (D := G.1) hx hb hK hP (hD M) hS q0 2 hw rfl hi hd (fun H1 locs1 hP1 _ hS1 => kk H1 locs1 ls (by rw [← wl_set hq ((ar_ce ha _).trans (by rw [sett_s]))]; exact hP1) hS1 hl)
theorem r_alen (E : EN p s m args meth c G Y cc own nL ret) {j t ca N : Nat} {v : Int32} (hd : decode cc pc = .ok (.arraylength, 1)) (ha : ae (kdY Y j) t = some (ca, N)) (hc : ca < 14) (hj : okb Y j t = true) (hv : Int32.ofNat N = v) (kk : WM p l e R s m args below meth c G Y nL Q M k n (pc + 1) L (iv v :: S)) : WM p l e R s m args below meth c G Y nL Q M k n pc L (rv j t :: S) := by
  intro H locs ls hP hS hl
  obtain ⟨hx, hb, hml, hown, hts, hr, hlk, ⟨hnw, hK, hX⟩, hD⟩ := E
  obtain ⟨q0, hq, hw⟩ := wl_at (G := G) (M := M) (okb_ok hj)
  rw [ar_ce ha] at hw
  have ht : ∃ ty, (tyG G)[ca]? = some (G.2.1 ca, ty) := by
    have : ca = 0 ∨ ca = 1 ∨ ca = 2 ∨ ca = 3 ∨ ca = 4 ∨ ca = 5 ∨ ca = 6 ∨ ca = 7 ∨ ca = 8 ∨ ca = 9 ∨ ca = 10 ∨ ca = 11 ∨ ca = 12 ∨ ca = 13 := by omega
    rcases this with rfl | rfl | rfl | rfl | rfl | rfl | rfl | rfl | rfl | rfl | rfl | rfl | rfl | rfl <;> exact ⟨_, rfl⟩
  obtain ⟨ty, ht⟩ := ht
  exact va_alen (D := G.1) hx hb hK hP q0 ca hw ht hv hd (kk H locs ls hP hS hl)
end RH
