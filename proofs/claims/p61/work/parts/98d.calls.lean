/-- what the law's calls know of the class's modules -/
def CI (x : PP) (be nm : Nat → Int32) (BP : Nat → Nat → Int32) (q : Nat) (M : Mem) : Prop := (M 0 0 9).toNatClampNeg = q ∧ (q = 17 ∨ q = 18) ∧ M q = vPx BP be nm x ∧ PIv x ∧ BEx be x
theorem nI_ij {a b : Nat} (ha : a < 64) (hb : b < 64) (h : nI a = nI b) : a = b := (nI_eq (by omega) (by omega)).mp h
theorem ce_64 {x : PP} (hx : PIv x) : x.1.2.2 ≤ 64 := (PIv_z hx).1
theorem nI_le1 {a : Nat} (h : 1 ≤ a) (h2 : a < 2 ^ 31) : (1 : Int32) ≤ nI a := (nI_leI (a := 1) (by decide) h2).mpr h
theorem nI_pos0 (d : Nat) (h : d < 2 ^ 31 := by omega) : (0 : Int32) ≤ nI d := (nI_leI (a := 0) (by decide) h).mpr (Nat.zero_le d)
theorem kc_waterOn (l : Launch) (hst : l.stackTraces = false) (G : GT) {x : PP} {be nm : Nat → Int32} {BP : Nat → Nat → Int32} {q : Nat} {M : Mem} (hC : CI x be nm BP q M) {c : Nat} (hc : c < x.1.2.2) : MC l G yX9_waterOn cX9_waterOn 2 (some .int) ({ frames := 7, cells := 4, slots := 24, locals := 103 } : Room) KC lkC [rv 0 0, iv (nI c)] M (fun r M2 => r = some (iv (M 3 1 c)) ∧ M2 = M) :=
  MC.ofX (MCx.mono (sp_X9_waterOn l hst G BP be nm x q (nI c) M hC.1 hC.2.1 hC.2.2.1 hC.2.2.2.1) (fun r M2 h => by
    obtain ⟨rfl, c2, hc2, e, rfl⟩ := h
    have h64 := ce_64 hC.2.2.2.1
    rw [nI_ij (by omega) (by omega) e]
    exact ⟨rfl, rfl⟩) (fun E M2 h => h)) (fun E M2 h => h.2.2 ⟨c, hc, rfl⟩)
theorem kc_levelOf (l : Launch) (hst : l.stackTraces = false) (G : GT) {x : PP} {be nm : Nat → Int32} {BP : Nat → Nat → Int32} {q : Nat} {M : Mem} (hC : CI x be nm BP q M) {c : Nat} (hc : c < x.1.2.2) : MC l G yX9_levelOf cX9_levelOf 2 (some .int) ({ frames := 7, cells := 4, slots := 24, locals := 103 } : Room) KC lkC [rv 0 0, iv (nI c)] M (fun r M2 => r = some (iv (x.2.1 c + M 3 1 c)) ∧ M2 = M) :=
  MC.ofX (MCx.mono (sp_X9_levelOf l hst G BP be nm x q (nI c) M hC.1 hC.2.1 hC.2.2.1 hC.2.2.2.1) (fun r M2 h => by
    obtain ⟨rfl, c2, hc2, e, rfl⟩ := h
    have h64 := ce_64 hC.2.2.2.1
    rw [nI_ij (by omega) (by omega) e]
    exact ⟨rfl, rfl⟩) (fun E M2 h => h)) (fun E M2 h => h.2.2 ⟨c, hc, rfl⟩)
theorem kc_leavesOn (l : Launch) (hst : l.stackTraces = false) (G : GT) {x : PP} {be nm : Nat → Int32} {BP : Nat → Nat → Int32} {q : Nat} {M : Mem} (hC : CI x be nm BP q M) {c : Nat} (hc : c < x.1.2.2) : MC l G yX9_leavesOn cX9_leavesOn 2 (some .int) ({ frames := 7, cells := 4, slots := 24, locals := 103 } : Room) KC lkC [rv 0 0, iv (nI c)] M (fun r M2 => r = some (iv (M 3 2 c)) ∧ M2 = M) :=
  MC.ofX (MCx.mono (sp_X9_leavesOn l hst G BP be nm x q (nI c) M hC.1 hC.2.1 hC.2.2.1 hC.2.2.2.1) (fun r M2 h => by
    obtain ⟨rfl, c2, hc2, e, rfl⟩ := h
    have h64 := ce_64 hC.2.2.2.1
    rw [nI_ij (by omega) (by omega) e]
    exact ⟨rfl, rfl⟩) (fun E M2 h => h)) (fun E M2 h => h.2.2 ⟨c, hc, rfl⟩)
theorem kc_hydrantRate (l : Launch) (hst : l.stackTraces = false) (G : GT) {x : PP} {be nm : Nat → Int32} {BP : Nat → Nat → Int32} {q : Nat} {M : Mem} (hC : CI x be nm BP q M) {c : Nat} (hc : c < x.1.2.2) : MC l G yX9_hydrantRate cX9_hydrantRate 2 (some .int) ({ frames := 7, cells := 4, slots := 24, locals := 103 } : Room) KC lkC [rv 0 0, iv (nI c)] M (fun r M2 => r = some (iv (M 3 3 c)) ∧ M2 = M) :=
  MC.ofX (MCx.mono (sp_X9_hydrantRate l hst G BP be nm x q (nI c) M hC.1 hC.2.1 hC.2.2.1 hC.2.2.2.1) (fun r M2 h => by
    obtain ⟨rfl, c2, hc2, e, rfl⟩ := h
    have h64 := ce_64 hC.2.2.2.1
    rw [nI_ij (by omega) (by omega) e]
    exact ⟨rfl, rfl⟩) (fun E M2 h => h)) (fun E M2 h => h.2.2 ⟨c, hc, rfl⟩)
theorem kc_hydrantMinutes (l : Launch) (hst : l.stackTraces = false) (G : GT) {x : PP} {be nm : Nat → Int32} {BP : Nat → Nat → Int32} {q : Nat} {M : Mem} (hC : CI x be nm BP q M) {c : Nat} (hc : c < x.1.2.2) : MC l G yX9_hydrantMinutes cX9_hydrantMinutes 2 (some .int) ({ frames := 7, cells := 4, slots := 24, locals := 103 } : Room) KC lkC [rv 0 0, iv (nI c)] M (fun r M2 => r = some (iv (M 3 4 c)) ∧ M2 = M) :=
  MC.ofX (MCx.mono (sp_X9_hydrantMinutes l hst G BP be nm x q (nI c) M hC.1 hC.2.1 hC.2.2.1 hC.2.2.2.1) (fun r M2 h => by
    obtain ⟨rfl, c2, hc2, e, rfl⟩ := h
    have h64 := ce_64 hC.2.2.2.1
    rw [nI_ij (by omega) (by omega) e]
    exact ⟨rfl, rfl⟩) (fun E M2 h => h)) (fun E M2 h => h.2.2 ⟨c, hc, rfl⟩)
theorem kc_gutterFlow (l : Launch) (hst : l.stackTraces = false) (G : GT) {x : PP} {be nm : Nat → Int32} {BP : Nat → Nat → Int32} {q : Nat} {M : Mem} (hC : CI x be nm BP q M) {c : Nat} (hc : c < x.1.2.2) : MC l G yX9_gutterFlow cX9_gutterFlow 2 (some .int) ({ frames := 7, cells := 4, slots := 24, locals := 103 } : Room) KC lkC [rv 0 0, iv (nI c)] M (fun r M2 => r = some (iv (imax (x.2.2.1 c - M 3 2 c) 0)) ∧ M2 = M) :=
  MC.ofX (MCx.mono (sp_X9_gutterFlow l hst G BP be nm x q (nI c) M hC.1 hC.2.1 hC.2.2.1 hC.2.2.2.1) (fun r M2 h => by
    obtain ⟨rfl, c2, hc2, e, rfl⟩ := h
    have h64 := ce_64 hC.2.2.2.1
    rw [nI_ij (by omega) (by omega) e]
    exact ⟨rfl, rfl⟩) (fun E M2 h => h)) (fun E M2 h => h.2.2 ⟨c, hc, rfl⟩)
theorem kc_flowsTo (l : Launch) (hst : l.stackTraces = false) (G : GT) {x : PP} {be nm : Nat → Int32} {BP : Nat → Nat → Int32} {q : Nat} {M : Mem} (hC : CI x be nm BP q M) {c : Nat} (hc : c < x.1.2.2) : MC l G yX9_flowsTo cX9_flowsTo 3 (some .int) ({ frames := 7, cells := 4, slots := 24, locals := 103 } : Room) KC lkC [rv 0 0, iv (nI c)] M (fun r M2 => r = some (iv (if (flO x.2.1 (M 3 1) c (loF (nbx x) (fun k => x.2.1 k + M 3 1 k) c 4)) ≤ 0 then -1 else oI (loF (nbx x) (fun k => x.2.1 k + M 3 1 k) c 4))) ∧ M2 = M) :=
  MC.ofX (MCx.mono (sp_X9_flowsTo l hst G BP be nm x q (nI c) M hC.1 hC.2.1 hC.2.2.1 hC.2.2.2.1 hC.2.2.2.2) (fun r M2 h => by
    obtain ⟨rfl, c2, hc2, e, rfl⟩ := h
    have h64 := ce_64 hC.2.2.2.1
    rw [nI_ij (by omega) (by omega) e]
    exact ⟨rfl, rfl⟩) (fun E M2 h => h)) (fun E M2 h => h.2.2 ⟨c, hc, rfl⟩)
theorem kc_flowFrom (l : Launch) (hst : l.stackTraces = false) (G : GT) {x : PP} {be nm : Nat → Int32} {BP : Nat → Nat → Int32} {q : Nat} {M : Mem} (hC : CI x be nm BP q M) {c : Nat} (hc : c < x.1.2.2) : MC l G yX9_flowFrom cX9_flowFrom 2 (some .int) ({ frames := 7, cells := 4, slots := 24, locals := 103 } : Room) KC lkC [rv 0 0, iv (nI c)] M (fun r M2 => r = some (iv ((flO x.2.1 (M 3 1) c (loF (nbx x) (fun k => x.2.1 k + M 3 1 k) c 4)))) ∧ M2 = M) :=
  MC.ofX (MCx.mono (sp_X9_flowFrom l hst G BP be nm x q (nI c) M hC.1 hC.2.1 hC.2.2.1 hC.2.2.2.1 hC.2.2.2.2) (fun r M2 h => by
    obtain ⟨rfl, c2, hc2, e, rfl⟩ := h
    have h64 := ce_64 hC.2.2.2.1
    rw [nI_ij (by omega) (by omega) e]
    exact ⟨rfl, rfl⟩) (fun E M2 h => h)) (fun E M2 h => h.2.2 ⟨c, hc, rfl⟩)
theorem kc_placeOf (l : Launch) (hst : l.stackTraces = false) (G : GT) {x : PP} {be nm : Nat → Int32} {BP : Nat → Nat → Int32} {q : Nat} {M : Mem} (hC : CI x be nm BP q M) {b : Nat} (hb : b < x.2.2.2.2.1) : MC l G yX9_placeOf cX9_placeOf 2 (some .int) ({ frames := 7, cells := 8, slots := 48, locals := 103 } : Room) KC lkC [rv 0 0, iv (nI b)] M (fun r M2 => r = some (iv (M 3 5 b)) ∧ M2 = M) :=
  MC.ofX (MCx.mono (sp_X9_placeOf l hst G BP be nm x q (nI b) M hC.1 hC.2.1 hC.2.2.1 hC.2.2.2.1) (fun r M2 h => by
    obtain ⟨rfl, c2, hc2, e, rfl⟩ := h
    have h4 := hC.2.2.2.1.2.2.2.2.1
    rw [nI_ij (by omega) (by omega) e]
    exact ⟨rfl, rfl⟩) (fun E M2 h => h)) (fun E M2 h => h.2.2 ⟨b, hb, rfl⟩)
theorem kc_splashesOf (l : Launch) (hst : l.stackTraces = false) (G : GT) {x : PP} {be nm : Nat → Int32} {BP : Nat → Nat → Int32} {q : Nat} {M : Mem} (hC : CI x be nm BP q M) {b : Nat} (hb : b < x.2.2.2.2.1) : MC l G yX9_splashesOf cX9_splashesOf 2 (some .int) ({ frames := 7, cells := 8, slots := 48, locals := 103 } : Room) KC lkC [rv 0 0, iv (nI b)] M (fun r M2 => r = some (iv (M 3 6 b)) ∧ M2 = M) :=
  MC.ofX (MCx.mono (sp_X9_splashesOf l hst G BP be nm x q (nI b) M hC.1 hC.2.1 hC.2.2.1 hC.2.2.2.1) (fun r M2 h => by
    obtain ⟨rfl, c2, hc2, e, rfl⟩ := h
    have h4 := hC.2.2.2.1.2.2.2.2.1
    rw [nI_ij (by omega) (by omega) e]
    exact ⟨rfl, rfl⟩) (fun E M2 h => h)) (fun E M2 h => h.2.2 ⟨b, hb, rfl⟩)
theorem kc_isWet (l : Launch) (hst : l.stackTraces = false) (G : GT) {x : PP} {be nm : Nat → Int32} {BP : Nat → Nat → Int32} {q : Nat} {M : Mem} (hC : CI x be nm BP q M) {b : Nat} (hb : b < x.2.2.2.2.1) (hwt : WTi (M 3)) : MC l G yX9_isWet cX9_isWet 2 (some .boolean) ({ frames := 7, cells := 8, slots := 48, locals := 103 } : Room) KC lkC [rv 0 0, iv (nI b)] M (fun r M2 => r = some (iv (M 3 7 b)) ∧ M2 = M) :=
  MC.ofX (MCx.mono (sp_X9_isWet l hst G BP be nm x q (nI b) M hC.1 hC.2.1 hC.2.2.1 hC.2.2.2.1 (fun i hi => by
    rcases wt_01 hwt hi with h | h <;> rw [h] <;> rfl)) (fun r M2 h => by
    obtain ⟨rfl, c2, hc2, e, rfl⟩ := h
    have h4 := hC.2.2.2.1.2.2.2.2.1
    rw [nI_ij (by omega) (by omega) e]
    exact ⟨rfl, rfl⟩) (fun E M2 h => h)) (fun E M2 h => h.2.2 ⟨b, hb, rfl⟩)
theorem puT_PR {x : PP} {M : Mem} (hx : PIv x) {p9 : Nat → Nat} {Lq : Nat → Int32} (hP : pdP (nbx x) (M 3 1) x.1.2.2 p9) (hL : pdL (M 3 1) x.1.2.2 p9 Lq) : PR (M 3 1) x.1.2.2 Lq (puT M x) := PR_of (ce_64 hx) (nbx_lt hx) ⟨p9, hP, hL⟩
theorem kc_puddleOf (l : Launch) (hst : l.stackTraces = false) (G : GT) {x : PP} {be nm : Nat → Int32} {BP : Nat → Nat → Int32} {q : Nat} {M : Mem} {p9 : Nat → Nat} {Lq : Nat → Int32} (hP : pdP (nbx x) (M 3 1) x.1.2.2 p9) (hL : pdL (M 3 1) x.1.2.2 p9 Lq) (hC : CI x be nm BP q M) {c : Nat} (hc : c < x.1.2.2) : MC l G yX9_puddleOf cX9_puddleOf 2 (some .int) ({ frames := 7, cells := 4, slots := 24, locals := 103 } : Room) KC lkC [rv 0 0, iv (nI c)] M (fun r M2 => r = some (iv (if 0 < M 3 1 c then nI (kN (rp Lq) (p9 c)) else -1)) ∧ ∃ Z, M2 = setm M 15 Z) :=
  MC.ofX (MCx.mono (sp_X9_puddleOf l hst G BP be nm x q (nI c) M hC.1 hC.2.1 hC.2.2.1 hC.2.2.2.1 hC.2.2.2.2) (fun r M2 h => by
    obtain ⟨rfl, c2, hc2, e, rfl⟩ := h
    have h64 := ce_64 hC.2.2.2.1
    rw [← nI_ij (by omega) (by omega) e]
    refine ⟨?_, _, rfl⟩
    have h2 := (puT_PR hC.2.2.2.1 hP hL).2.1 c hc
    have h3 := hL c hc
    by_cases hw : 0 < M 3 1 c
    · rw [if_pos hw] at h3 ⊢
      rcases h2 with ⟨h4, -⟩ | ⟨m, hm, h4, h5⟩
      · rw [h3] at h4
        exact absurd h4 (nI_m1 (by have := (hP.1 c hc hw).1; omega))
      · rw [h5, show m = p9 c from nI_ij (by omega) (by have := (hP.1 c hc hw).1; omega) (h4.symm.trans h3)]
    · rw [if_neg hw] at h3 ⊢
      rcases h2 with ⟨-, h4⟩ | ⟨m, hm, h4, h5⟩
      · rw [h4]
      · rw [h3] at h4
        exact absurd h4.symm (nI_m1 (by omega))) (fun E M2 h => h)) (fun E M2 h => h.2.2 ⟨c, hc, rfl⟩)
theorem kc_puddleCount (l : Launch) (G : GT) {x : PP} {be nm : Nat → Int32} {BP : Nat → Nat → Int32} {q : Nat} {M : Mem} {p9 : Nat → Nat} {Lq : Nat → Int32} (hP : pdP (nbx x) (M 3 1) x.1.2.2 p9) (hL : pdL (M 3 1) x.1.2.2 p9 Lq) (hC : CI x be nm BP q M) : MC l G yX9_puddleCount cX9_puddleCount 1 (some .int) ({ frames := 4, cells := 0, slots := 0, locals := 94 } : Room) KC lkC [rv 0 0] M (fun r M2 => r = some (iv (nI (kN (rp Lq) x.1.2.2))) ∧ ∃ Z, M2 = setm M 15 Z) :=
  MC.mono (sp_X9_puddleCount l G BP be nm x q M hC.1 hC.2.1 hC.2.2.1 hC.2.2.2.1 hC.2.2.2.2) (fun r M2 h => by
    obtain ⟨rfl, rfl⟩ := h
    rw [(puT_PR hC.2.2.2.1 hP hL).1]
    exact ⟨rfl, _, rfl⟩)
theorem kc_puddleSize (l : Launch) (hst : l.stackTraces = false) (G : GT) {x : PP} {be nm : Nat → Int32} {BP : Nat → Nat → Int32} {q : Nat} {M : Mem} {p9 : Nat → Nat} {Lq : Nat → Int32} (hP : pdP (nbx x) (M 3 1) x.1.2.2 p9) (hL : pdL (M 3 1) x.1.2.2 p9 Lq) (hC : CI x be nm BP q M) {m : Nat} (hm : m < x.1.2.2) (hr : rp Lq m = true) : MC l G yX9_puddleSize cX9_puddleSize 2 (some .int) ({ frames := 7, cells := 8, slots := 48, locals := 115 } : Room) KC lkC [rv 0 0, iv (nI (kN (rp Lq) m))] M (fun r M2 => r = some (iv (nI (kN (lq Lq (nI m)) x.1.2.2))) ∧ ∃ Z, M2 = setm M 15 Z) :=
  MC.ofX (MCx.mono (sp_X9_puddleSize l hst G BP be nm x q (nI (kN (rp Lq) m)) M hC.1 hC.2.1 hC.2.2.1 hC.2.2.2.1 hC.2.2.2.2) (fun r M2 h => by
    obtain ⟨rfl, k, hk, e, rfl⟩ := h
    have h64 := ce_64 hC.2.2.2.1
    have hR := puT_PR hC.2.2.2.1 hP hL
    have h1 := kN_le (rp Lq) m
    have h2 := kN_le (rp Lq) x.1.2.2
    rw [hR.1] at hk
    rw [← nI_ij (by omega) (by omega) e, ((hR.2.2 m hm hr).1)]
    exact ⟨rfl, _, rfl⟩) (fun E M2 h => h)) (fun E M2 h => h.2.2 ⟨kN (rp Lq) m, by rw [(puT_PR hC.2.2.2.1 hP hL).1]; exact kN_lt hm hr, rfl⟩)
theorem kc_puddleWater (l : Launch) (hst : l.stackTraces = false) (G : GT) {x : PP} {be nm : Nat → Int32} {BP : Nat → Nat → Int32} {q : Nat} {M : Mem} {p9 : Nat → Nat} {Lq : Nat → Int32} (hP : pdP (nbx x) (M 3 1) x.1.2.2 p9) (hL : pdL (M 3 1) x.1.2.2 p9 Lq) (hC : CI x be nm BP q M) {m : Nat} (hm : m < x.1.2.2) (hr : rp Lq m = true) : MC l G yX9_puddleWater cX9_puddleWater 2 (some .int) ({ frames := 7, cells := 8, slots := 48, locals := 115 } : Room) KC lkC [rv 0 0, iv (nI (kN (rp Lq) m))] M (fun r M2 => r = some (iv (sQ (lq Lq (nI m)) (M 3 1) x.1.2.2)) ∧ ∃ Z, M2 = setm M 15 Z) :=
  MC.ofX (MCx.mono (sp_X9_puddleWater l hst G BP be nm x q (nI (kN (rp Lq) m)) M hC.1 hC.2.1 hC.2.2.1 hC.2.2.2.1 hC.2.2.2.2) (fun r M2 h => by
    obtain ⟨rfl, k, hk, e, rfl⟩ := h
    have h64 := ce_64 hC.2.2.2.1
    have hR := puT_PR hC.2.2.2.1 hP hL
    have h1 := kN_le (rp Lq) m
    have h2 := kN_le (rp Lq) x.1.2.2
    rw [hR.1] at hk
    rw [← nI_ij (by omega) (by omega) e, ((hR.2.2 m hm hr).2)]
    exact ⟨rfl, _, rfl⟩) (fun E M2 h => h)) (fun E M2 h => h.2.2 ⟨kN (rp Lq) m, by rw [(puT_PR hC.2.2.2.1 hP hL).1]; exact kN_lt hm hr, rfl⟩)
theorem kc_setRain (l : Launch) (hst : l.stackTraces = false) (G : GT) {x : PP} {be nm : Nat → Int32} {BP : Nat → Nat → Int32} {q : Nat} {M : Mem} {o h : Nat} (hC : CI x be nm BP q M) (ho1 : M 6 0 1 = nI o) (hh1 : M 6 0 2 = nI h) (ho8 : o < 8) (hh8 : h ≤ 8) (hwt : WTi (M 3)) (a : Int32) (h0 : 0 ≤ a) (h9 : a ≤ 9) : MC l G yX9_setRain cX9_setRain 3 (some .int) ({ frames := 7, cells := 4, slots := 24, locals := 104 } : Room) KC lkC [rv 0 0, iv a] M (fun r M2 => r = some (iv (M 3 0 8)) ∧ M2 = setm (kpM M o h) 3 (raT (M 3) a)) :=
  MC.ofX (MCx.mono (sp_X9_setRain l hst G BP be nm x q o h a M hC.1 hC.2.1 hC.2.2.1 hC.2.2.2.1 ho1 hh1 ho8 hh8 hwt) (fun r M2 hp => by
    obtain ⟨-, rfl, rfl⟩ := hp
    exact ⟨rfl, rfl⟩) (fun E M2 h => h)) (fun E M2 hp => by
    exact hp.2.2 ⟨h0, h9⟩)
theorem kc_passMinutes (l : Launch) (hst : l.stackTraces = false) (G : GT) {x : PP} {be nm : Nat → Int32} {BP : Nat → Nat → Int32} {q : Nat} {M : Mem} {o h : Nat} (hC : CI x be nm BP q M) (ho1 : M 6 0 1 = nI o) (hh1 : M 6 0 2 = nI h) (ho8 : o < 8) (hh8 : h ≤ 8) (hwt : WTi (M 3)) (t : Nat) (h1 : 1 ≤ t) (h60 : t ≤ 60) (h9 : (M 3 0 7).toInt + 60 ≤ 999) (h0 : 0 ≤ (M 3 0 7).toInt) (hpl : PLi x (M 3)) : MC l G yX9_passMinutes cX9_passMinutes 3 (some .int) ({ frames := 7, cells := 6, slots := 36, locals := 118 } : Room) KC lkC [rv 0 0, iv (nI t)] M (fun r M2 => r = some (iv (mnX x (M 3) t 0 11 - M 3 0 11)) ∧ M2 = setm (kpM M o h) 3 (mnX x (M 3) t)) :=
  MC.ofX (MCx.mono (sp_X9_passMinutes l hst G BP be nm x q o h (nI t) M hC.1 hC.2.1 hC.2.2.1 hC.2.2.2.1 ho1 hh1 ho8 hh8 hwt hC.2.2.2.2 hpl) (fun r M2 hp => by
    obtain ⟨t2, h2, e, -, -, rfl, rfl⟩ := hp
    rw [nI_ij (by omega) (by omega) e]
    exact ⟨rfl, rfl⟩) (fun E M2 h => h)) (fun E M2 hp => by
    obtain ⟨-, hp⟩ := hp
    have e1 : (1 : Int32) ≤ nI t := nI_le1 h1 (by omega)
    have e2 : nI t ≤ (60 : Int32) := (nI_leI (b := 60) (by omega) (by decide)).mpr h60
    rcases hp with ⟨-, hp⟩ | ⟨-, -, hp⟩
    · exact hp ⟨e1, e2⟩
    · have h3 := i_lt.mp hp
      rw [i_add (by rw [ni_t (by omega)]; omega) (by rw [ni_t (by omega)]; omega), ni_t (by omega), show (999 : Int32).toInt = 999 from rfl] at h3
      omega)
theorem kc_burst (l : Launch) (hst : l.stackTraces = false) (G : GT) {x : PP} {be nm : Nat → Int32} {BP : Nat → Nat → Int32} {q : Nat} {M : Mem} {o h : Nat} (hC : CI x be nm BP q M) (ho1 : M 6 0 1 = nI o) (hh1 : M 6 0 2 = nI h) (ho8 : o < 8) (hh8 : h ≤ 8) (hwt : WTi (M 3)) (c a b : Nat) (hc : c < x.1.2.2) (a1 : 1 ≤ a) (a2 : a ≤ 20) (b1 : 1 ≤ b) (b2 : b ≤ 60) (h0 : M 3 4 c = 0) : MC l G yX9_burst cX9_burst 4 (some .int) ({ frames := 7, cells := 16, slots := 96, locals := 104 } : Room) KC lkC [rv 0 0, iv (nI c), iv (nI a), iv (nI b)] M (fun r M2 => r = some (iv (sm (cO (opT (M 3) c (nI a) (nI b) 4)) x.1.2.2)) ∧ M2 = setm (kpM M o h) 3 (opT (M 3) c (nI a) (nI b))) :=
  MC.ofX (MCx.mono (sp_X9_burst l hst G BP be nm x q o h (nI c) (nI a) (nI b) M hC.1 hC.2.1 hC.2.2.1 hC.2.2.2.1 ho1 hh1 ho8 hh8 hwt) (fun r M2 hp => by
    obtain ⟨c2, hc2, e, -, -, -, rfl, rfl⟩ := hp
    have h64 := ce_64 hC.2.2.2.1
    rw [nI_ij (by omega) (by omega) e]
    exact ⟨rfl, rfl⟩) (fun E M2 h => h)) (fun E M2 hp => by
    have h64 := ce_64 hC.2.2.2.1
    have e1 : ((1 : Int32) ≤ nI a ∧ nI a ≤ 20) ∧ (1 : Int32) ≤ nI b ∧ nI b ≤ 60 := ⟨⟨nI_le1 a1 (by omega), (nI_leI (b := 20) (by omega) (by decide)).mpr a2⟩, nI_le1 b1 (by omega), (nI_leI (b := 60) (by omega) (by decide)).mpr b2⟩
    rcases hp.2 with ⟨-, hp⟩ | ⟨-, -, hp⟩ | ⟨-, c2, hc2, e, -, -, hp⟩
    · exact hp ⟨c, hc, rfl⟩
    · exact hp e1
    · rw [← nI_ij (by omega) (by omega) e, h0] at hp
      exact hp rfl)
theorem kc_shut (l : Launch) (hst : l.stackTraces = false) (G : GT) {x : PP} {be nm : Nat → Int32} {BP : Nat → Nat → Int32} {q : Nat} {M : Mem} {o h : Nat} (hC : CI x be nm BP q M) (ho1 : M 6 0 1 = nI o) (hh1 : M 6 0 2 = nI h) (ho8 : o < 8) (hh8 : h ≤ 8) (hwt : WTi (M 3)) (c : Nat) (hc : c < x.1.2.2) (h0 : 0 < M 3 4 c) : MC l G yX9_shut cX9_shut 2 (some .int) ({ frames := 7, cells := 6, slots := 36, locals := 103 } : Room) KC lkC [rv 0 0, iv (nI c)] M (fun r M2 => r = some (iv (M 3 4 c)) ∧ M2 = setm (kpM M o h) 3 (shT (M 3) c)) :=
  MC.ofX (MCx.mono (sp_X9_shut l hst G BP be nm x q o h (nI c) M hC.1 hC.2.1 hC.2.2.1 hC.2.2.2.1 ho1 hh1 ho8 hh8 hwt) (fun r M2 hp => by
    obtain ⟨c2, hc2, e, -, rfl, rfl⟩ := hp
    have h64 := ce_64 hC.2.2.2.1
    rw [nI_ij (by omega) (by omega) e]
    exact ⟨rfl, rfl⟩) (fun E M2 h => h)) (fun E M2 hp => by
    have h64 := ce_64 hC.2.2.2.1
    rcases hp.2 with ⟨-, hp⟩ | ⟨-, c2, hc2, e, hp⟩
    · exact hp ⟨c, hc, rfl⟩
    · rw [← nI_ij (by omega) (by omega) e] at hp
      exact absurd (opI_0.mp hp) (Int32.not_le.mpr h0))
theorem kc_dropLeaves (l : Launch) (hst : l.stackTraces = false) (G : GT) {x : PP} {be nm : Nat → Int32} {BP : Nat → Nat → Int32} {q : Nat} {M : Mem} {o h : Nat} (hC : CI x be nm BP q M) (ho1 : M 6 0 1 = nI o) (hh1 : M 6 0 2 = nI h) (ho8 : o < 8) (hh8 : h ≤ 8) (hwt : WTi (M 3)) (c a : Nat) (hc : c < x.1.2.2) (a1 : 1 ≤ a) (a2 : a ≤ 9) : MC l G yX9_dropLeaves cX9_dropLeaves 3 (some .int) ({ frames := 7, cells := 8, slots := 48, locals := 104 } : Room) KC lkC [rv 0 0, iv (nI c), iv (nI a)] M (fun r M2 => r = some (iv (lvT (M 3) c (nI a) 2 c)) ∧ M2 = setm (kpM M o h) 3 (lvT (M 3) c (nI a))) :=
  MC.ofX (MCx.mono (sp_X9_dropLeaves l hst G BP be nm x q o h (nI c) (nI a) M hC.1 hC.2.1 hC.2.2.1 hC.2.2.2.1 ho1 hh1 ho8 hh8 hwt) (fun r M2 hp => by
    obtain ⟨c2, hc2, e, -, rfl, rfl⟩ := hp
    have h64 := ce_64 hC.2.2.2.1
    rw [nI_ij (by omega) (by omega) e]
    exact ⟨rfl, rfl⟩) (fun E M2 h => h)) (fun E M2 hp => by
    rcases hp.2 with ⟨-, hp⟩ | ⟨-, -, hp⟩
    · exact hp ⟨c, hc, rfl⟩
    · exact hp ⟨nI_le1 a1 (by omega), (nI_leI (b := 9) (by omega) (by decide)).mpr a2⟩)
theorem kc_sweep (l : Launch) (hst : l.stackTraces = false) (G : GT) {x : PP} {be nm : Nat → Int32} {BP : Nat → Nat → Int32} {q : Nat} {M : Mem} {o h : Nat} (hC : CI x be nm BP q M) (ho1 : M 6 0 1 = nI o) (hh1 : M 6 0 2 = nI h) (ho8 : o < 8) (hh8 : h ≤ 8) (hwt : WTi (M 3)) (c : Nat) (hc : c < x.1.2.2) : MC l G yX9_sweep cX9_sweep 2 (some .int) ({ frames := 7, cells := 4, slots := 24, locals := 103 } : Room) KC lkC [rv 0 0, iv (nI c)] M (fun r M2 => r = some (iv (M 3 2 c)) ∧ M2 = setm (kpM M o h) 3 (swT (M 3) c)) :=
  MC.ofX (MCx.mono (sp_X9_sweep l hst G BP be nm x q o h (nI c) M hC.1 hC.2.1 hC.2.2.1 hC.2.2.2.1 ho1 hh1 ho8 hh8 hwt) (fun r M2 hp => by
    obtain ⟨c2, hc2, e, rfl, rfl⟩ := hp
    have h64 := ce_64 hC.2.2.2.1
    rw [nI_ij (by omega) (by omega) e]
    exact ⟨rfl, rfl⟩) (fun E M2 h => h)) (fun E M2 hp => by
    exact hp.2.2 ⟨c, hc, rfl⟩)
theorem kc_walk (l : Launch) (hst : l.stackTraces = false) (G : GT) {x : PP} {be nm : Nat → Int32} {BP : Nat → Nat → Int32} {q : Nat} {M : Mem} {o h : Nat} (hC : CI x be nm BP q M) (ho1 : M 6 0 1 = nI o) (hh1 : M 6 0 2 = nI h) (ho8 : o < 8) (hh8 : h ≤ 8) (hwt : WTi (M 3)) (b d f j : Nat) (hpl : PLi x (M 3)) (hb : b < x.2.2.2.2.1) (hd : d < 4) (hf : M 3 5 b = nI f) (hf2 : f < x.1.2.2) (hj : nbx x f d = some j) : MC l G yX9_walk cX9_walk 3 (some .int) ({ frames := 7, cells := 14, slots := 84, locals := 104 } : Room) KC lkC [rv 0 0, iv (nI b), iv (nI d)] M (fun r M2 => r = some (iv (nI j)) ∧ M2 = setm (kpM M o h) 3 (wkT x.2.2.2.2.2.2.2.1 (M 3) b j)) :=
  MC.ofX (MCx.mono (sp_X9_walk l hst G BP be nm x q o h (nI b) (nI d) M hC.1 hC.2.1 hC.2.2.1 hC.2.2.2.1 ho1 hh1 ho8 hh8 hwt hC.2.2.2.2 hpl) (fun r M2 hp => by
    obtain ⟨b2, hb2, e, e2, he2, e3, f2, hf3, hf4, j2, hj2, rfl, rfl⟩ := hp
    have h64 := ce_64 hC.2.2.2.1
    have h4 := hC.2.2.2.1.2.2.2.2.1
    have eb := nI_ij (by omega) (by omega) e
    have ed := nI_ij (by omega) (by omega) e3
    subst eb ed
    rw [hf] at hf4
    have ef := nI_ij (by omega) (by omega) hf4
    subst ef
    rw [hj] at hj2
    cases hj2
    exact ⟨congrArg some (congrArg iv upd_at), rfl⟩) (fun E M2 h => h)) (fun E M2 hp => by
    have h64 := ce_64 hC.2.2.2.1
    have h4 := hC.2.2.2.1.2.2.2.2.1
    rcases hp.2 with ⟨-, hp⟩ | ⟨-, -, hp⟩ | ⟨-, b2, hb2, e, e2, he2, e3, f2, hf3, hf4, hj2⟩
    · exact hp ⟨b, hb, rfl⟩
    · exact hp ⟨nI_pos0 d, (nI_leI (b := 3) (by omega) (by decide)).mpr (by omega)⟩
    · have eb := nI_ij (by omega) (by omega) e
      have ed := nI_ij (by omega) (by omega) e3
      subst eb ed
      rw [hf] at hf4
      have ef := nI_ij (by omega) (by omega) hf4
      subst ef
      rw [hj] at hj2
      cases hj2)
theorem kc_splash (l : Launch) (hst : l.stackTraces = false) (G : GT) {x : PP} {be nm : Nat → Int32} {BP : Nat → Nat → Int32} {q : Nat} {M : Mem} {o h : Nat} (hC : CI x be nm BP q M) (ho1 : M 6 0 1 = nI o) (hh1 : M 6 0 2 = nI h) (ho8 : o < 8) (hh8 : h ≤ 8) (hwt : WTi (M 3)) (b f : Nat) (hpl : PLi x (M 3)) (hb : b < x.2.2.2.2.1) (hf : M 3 5 b = nI f) (hf2 : f < x.1.2.2) (h0 : 0 < M 3 1 f) : MC l G yX9_splash cX9_splash 2 (some .int) ({ frames := 7, cells := 10, slots := 60, locals := 103 } : Room) KC lkC [rv 0 0, iv (nI b)] M (fun r M2 => r = some (iv (thR x (M 3) f)) ∧ M2 = setm (kpM M o h) 3 (thT x (M 3) b f)) :=
  MC.ofX (MCx.mono (sp_X9_splash l hst G BP be nm x q o h (nI b) M hC.1 hC.2.1 hC.2.2.1 hC.2.2.2.1 ho1 hh1 ho8 hh8 hwt hC.2.2.2.2 hpl) (fun r M2 hp => by
    obtain ⟨b2, hb2, e, f2, hf3, hf4, -, rfl, rfl⟩ := hp
    have h64 := ce_64 hC.2.2.2.1
    have h4 := hC.2.2.2.1.2.2.2.2.1
    have eb := nI_ij (by omega) (by omega) e
    subst eb
    rw [hf] at hf4
    have ef := nI_ij (by omega) (by omega) hf4
    subst ef
    exact ⟨rfl, rfl⟩) (fun E M2 h => h)) (fun E M2 hp => by
    have h64 := ce_64 hC.2.2.2.1
    have h4 := hC.2.2.2.1.2.2.2.2.1
    rcases hp.2 with ⟨-, hp⟩ | ⟨-, b2, hb2, e, f2, hf3, hf4, hp⟩
    · exact hp ⟨b, hb, rfl⟩
    · have eb := nI_ij (by omega) (by omega) e
      subst eb
      rw [hf] at hf4
      have ef := nI_ij (by omega) (by omega) hf4
      subst ef
      exact absurd (opI_0.mp hp) (Int32.not_le.mpr h0))
theorem kx_burst (l : Launch) (hst : l.stackTraces = false) (G : GT) {x : PP} {be nm : Nat → Int32} {BP : Nat → Nat → Int32} {q : Nat} {M : Mem} {o h : Nat} (hC : CI x be nm BP q M) (ho1 : M 6 0 1 = nI o) (hh1 : M 6 0 2 = nI h) (ho8 : o < 8) (hh8 : h ≤ 8) (hwt : WTi (M 3)) (c : Nat) (hc : c < x.1.2.2) (h0 : 0 < M 3 4 c) : MCx l G yX9_burst cX9_burst 4 (some .int) ({ frames := 7, cells := 16, slots := 96, locals := 104 } : Room) KC lkC [rv 0 0, iv (nI c), iv 1, iv 1] M (fun _ _ => False) (fun E M2 => E = steN ∧ M2 = M) :=
  MCx.mono (sp_X9_burst l hst G BP be nm x q o h (nI c) 1 1 M hC.1 hC.2.1 hC.2.2.1 hC.2.2.2.1 ho1 hh1 ho8 hh8 hwt) (fun r M2 hp => by
    obtain ⟨c2, hc2, e, -, -, h9, -⟩ := hp
    have h64 := ce_64 hC.2.2.2.1
    rw [← nI_ij (by omega) (by omega) e] at h9
    exact absurd (opI_0.mp h9) (Int32.not_le.mpr h0)) (fun E M2 hp => by
    obtain ⟨rfl, hp⟩ := hp
    rcases hp with ⟨-, hp⟩ | ⟨-, -, hp⟩ | ⟨h9, -⟩
    · exact absurd ⟨c, hc, rfl⟩ hp
    · exact absurd ⟨⟨by decide, by decide⟩, by decide, by decide⟩ hp
    · exact ⟨h9, rfl⟩)
theorem kx_shut (l : Launch) (hst : l.stackTraces = false) (G : GT) {x : PP} {be nm : Nat → Int32} {BP : Nat → Nat → Int32} {q : Nat} {M : Mem} {o h : Nat} (hC : CI x be nm BP q M) (ho1 : M 6 0 1 = nI o) (hh1 : M 6 0 2 = nI h) (ho8 : o < 8) (hh8 : h ≤ 8) (hwt : WTi (M 3)) (c : Nat) (hc : c < x.1.2.2) (h0 : M 3 4 c = 0) : MCx l G yX9_shut cX9_shut 2 (some .int) ({ frames := 7, cells := 6, slots := 36, locals := 103 } : Room) KC lkC [rv 0 0, iv (nI c)] M (fun _ _ => False) (fun E M2 => E = steN ∧ M2 = M) :=
  MCx.mono (sp_X9_shut l hst G BP be nm x q o h (nI c) M hC.1 hC.2.1 hC.2.2.1 hC.2.2.2.1 ho1 hh1 ho8 hh8 hwt) (fun r M2 hp => by
    obtain ⟨c2, hc2, e, h9, -⟩ := hp
    have h64 := ce_64 hC.2.2.2.1
    rw [← nI_ij (by omega) (by omega) e, h0] at h9
    exact h9 rfl) (fun E M2 hp => by
    obtain ⟨rfl, hp⟩ := hp
    rcases hp with ⟨-, hp⟩ | ⟨h9, -⟩
    · exact absurd ⟨c, hc, rfl⟩ hp
    · exact ⟨h9, rfl⟩)
theorem kx_walk (l : Launch) (hst : l.stackTraces = false) (G : GT) {x : PP} {be nm : Nat → Int32} {BP : Nat → Nat → Int32} {q : Nat} {M : Mem} {o h : Nat} (hC : CI x be nm BP q M) (ho1 : M 6 0 1 = nI o) (hh1 : M 6 0 2 = nI h) (ho8 : o < 8) (hh8 : h ≤ 8) (hwt : WTi (M 3)) (b d f : Nat) (hpl : PLi x (M 3)) (hb : b < x.2.2.2.2.1) (hd : d < 4) (hf : M 3 5 b = nI f) (hf2 : f < x.1.2.2) (hj : nbx x f d = none) : MCx l G yX9_walk cX9_walk 3 (some .int) ({ frames := 7, cells := 14, slots := 84, locals := 104 } : Room) KC lkC [rv 0 0, iv (nI b), iv (nI d)] M (fun _ _ => False) (fun E M2 => E = steN ∧ M2 = M) :=
  MCx.mono (sp_X9_walk l hst G BP be nm x q o h (nI b) (nI d) M hC.1 hC.2.1 hC.2.2.1 hC.2.2.2.1 ho1 hh1 ho8 hh8 hwt hC.2.2.2.2 hpl) (fun r M2 hp => by
    obtain ⟨b2, hb2, e, e2, he2, e3, f2, hf3, hf4, j2, hj2, -⟩ := hp
    have h64 := ce_64 hC.2.2.2.1
    have h4 := hC.2.2.2.1.2.2.2.2.1
    have eb := nI_ij (by omega) (by omega) e
    have ed := nI_ij (by omega) (by omega) e3
    subst eb ed
    rw [hf] at hf4
    have ef := nI_ij (by omega) (by omega) hf4
    subst ef
    rw [hj] at hj2
    cases hj2) (fun E M2 hp => by
    obtain ⟨rfl, hp⟩ := hp
    rcases hp with ⟨-, hp⟩ | ⟨-, -, hp⟩ | ⟨h9, -⟩
    · exact absurd ⟨b, hb, rfl⟩ hp
    · exact absurd ⟨nI_pos0 d, (nI_leI (b := 3) (by omega) (by decide)).mpr (by omega)⟩ hp
    · exact ⟨h9, rfl⟩)
theorem kx_splash (l : Launch) (hst : l.stackTraces = false) (G : GT) {x : PP} {be nm : Nat → Int32} {BP : Nat → Nat → Int32} {q : Nat} {M : Mem} {o h : Nat} (hC : CI x be nm BP q M) (ho1 : M 6 0 1 = nI o) (hh1 : M 6 0 2 = nI h) (ho8 : o < 8) (hh8 : h ≤ 8) (hwt : WTi (M 3)) (b f : Nat) (hpl : PLi x (M 3)) (hb : b < x.2.2.2.2.1) (hf : M 3 5 b = nI f) (hf2 : f < x.1.2.2) (h0 : M 3 1 f = 0) : MCx l G yX9_splash cX9_splash 2 (some .int) ({ frames := 7, cells := 10, slots := 60, locals := 103 } : Room) KC lkC [rv 0 0, iv (nI b)] M (fun _ _ => False) (fun E M2 => E = steN ∧ M2 = M) :=
  MCx.mono (sp_X9_splash l hst G BP be nm x q o h (nI b) M hC.1 hC.2.1 hC.2.2.1 hC.2.2.2.1 ho1 hh1 ho8 hh8 hwt hC.2.2.2.2 hpl) (fun r M2 hp => by
    obtain ⟨b2, hb2, e, f2, hf3, hf4, h9, -⟩ := hp
    have h64 := ce_64 hC.2.2.2.1
    have h4 := hC.2.2.2.1.2.2.2.2.1
    have eb := nI_ij (by omega) (by omega) e
    subst eb
    rw [hf] at hf4
    have ef := nI_ij (by omega) (by omega) hf4
    subst ef
    rw [h0] at h9
    exact h9 rfl) (fun E M2 hp => by
    obtain ⟨rfl, hp⟩ := hp
    rcases hp with ⟨-, hp⟩ | ⟨h9, -⟩
    · exact absurd ⟨b, hb, rfl⟩ hp
    · exact ⟨h9, rfl⟩)
