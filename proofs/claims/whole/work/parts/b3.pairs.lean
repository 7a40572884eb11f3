set_option maxHeartbeats 4000000 in
theorem pa_heightOf (l : Launch) (hst : l.stackTraces = false) (G : GT) {N : Mem} {L : Int} (H : RLe N (vw [20] N) L) (hL0 : 0 ≤ L) (hL : L + 300 < 2147483648) (a : Int32) : PX l G N (L + 279) [oobN] yX9_heightOf cX9_heightOf 2 (some .int) ({ frames := 7, cells := 4, slots := 24, locals := 103 } : Room) yX10_heightOf cX10_heightOf 2 (some .int) ({ frames := 4, cells := 0, slots := 0, locals := 89 } : Room) [iv a] := by
  obtain ⟨x, q, BP, be, nm, A0, B0, n, bs, u, o, h, k, H⟩ := H
  have H0 := H
  obtain ⟨⟨hq, hpn, hsn, hP⟩, ⟨hx, hv, hbe⟩, ⟨⟨hz, hpl, hwt⟩, hE⟩, ⟨hT, hn6, hby, hB, hn10, h11, h12⟩, ⟨ho1, hh1, ho8, hh8, hHR, hR4⟩, hws, ⟨hsv, hw5, hsave⟩, ⟨hk16, hk, hk2, hout⟩⟩ := H0
  have h1R : ∀ R1 : Mem, R1 0 = N 20 → RLw x N R1 L q BP be nm A0 B0 n bs u o h k := fun R1 e => RL_r H (nR_i e)
  refine ⟨_, _, fun R1 => _, (sp_X9_heightOf l hst G BP be nm x q a N hpn hq hP hx), fun R1 h1 => sp_X10_heightOf l G A0 x (N 3) a R1 (h1R R1 h1).2.2.1.2 hx, ?_, ?_, ?_, ?_⟩
  · rintro r M' ⟨-, c, -, -, e⟩; exact ⟨_, e⟩
  · rintro Ex M' ⟨rfl, -⟩; exact List.mem_singleton.mpr rfl
  · rintro v M' ⟨rfl, c, hc, ha, hr⟩ R1 h1 r R' (⟨c2, hc2, ha2, rfl, hr2⟩ | ⟨hn, -, -⟩)
    · have e := ij_c hx hc hc2 ha ha2
      subst e
      exact ⟨hr2.trans hr.symm, rfl, RLe.i (RL_r H (nR_mt h1)) (by omega)⟩
    · exact absurd ⟨c, hc, ha⟩ hn
  · rintro i Ex M' hi ⟨-, rfl, hn⟩ R1 h1 r R' (⟨c2, hc2, ha2, -, -⟩ | ⟨-, rfl, rfl⟩)
    · exact absurd ⟨c2, hc2, ha2⟩ hn
    · obtain rfl : i = 0 := by
        rcases i with - | i
        · rfl
        · cases hi
      exact ⟨⟨_, rfl⟩, rfl, RLe.i (RL_r H (nR_mt h1)) (by omega)⟩
set_option maxHeartbeats 4000000 in
theorem pa_waterOn (l : Launch) (hst : l.stackTraces = false) (G : GT) {N : Mem} {L : Int} (H : RLe N (vw [20] N) L) (hL0 : 0 ≤ L) (hL : L + 300 < 2147483648) (a : Int32) : PX l G N (L + 279) [oobN] yX9_waterOn cX9_waterOn 2 (some .int) ({ frames := 7, cells := 4, slots := 24, locals := 103 } : Room) yX10_waterOn cX10_waterOn 2 (some .int) ({ frames := 4, cells := 0, slots := 0, locals := 89 } : Room) [iv a] := by
  obtain ⟨x, q, BP, be, nm, A0, B0, n, bs, u, o, h, k, H⟩ := H
  have H0 := H
  obtain ⟨⟨hq, hpn, hsn, hP⟩, ⟨hx, hv, hbe⟩, ⟨⟨hz, hpl, hwt⟩, hE⟩, ⟨hT, hn6, hby, hB, hn10, h11, h12⟩, ⟨ho1, hh1, ho8, hh8, hHR, hR4⟩, hws, ⟨hsv, hw5, hsave⟩, ⟨hk16, hk, hk2, hout⟩⟩ := H0
  have h1R : ∀ R1 : Mem, R1 0 = N 20 → RLw x N R1 L q BP be nm A0 B0 n bs u o h k := fun R1 e => RL_r H (nR_i e)
  refine ⟨_, _, fun R1 => _, (sp_X9_waterOn l hst G BP be nm x q a N hpn hq hP hx), fun R1 h1 => sp_X10_waterOn l G A0 x (N 3) a R1 (h1R R1 h1).2.2.1.2 hx, ?_, ?_, ?_, ?_⟩
  · rintro r M' ⟨-, c, -, -, e⟩; exact ⟨_, e⟩
  · rintro Ex M' ⟨rfl, -⟩; exact List.mem_singleton.mpr rfl
  · rintro v M' ⟨rfl, c, hc, ha, hr⟩ R1 h1 r R' (⟨c2, hc2, ha2, rfl, hr2⟩ | ⟨hn, -, -⟩)
    · have e := ij_c hx hc hc2 ha ha2
      subst e
      exact ⟨hr2.trans hr.symm, rfl, RLe.i (RL_r H (nR_mt h1)) (by omega)⟩
    · exact absurd ⟨c, hc, ha⟩ hn
  · rintro i Ex M' hi ⟨-, rfl, hn⟩ R1 h1 r R' (⟨c2, hc2, ha2, -, -⟩ | ⟨-, rfl, rfl⟩)
    · exact absurd ⟨c2, hc2, ha2⟩ hn
    · obtain rfl : i = 0 := by
        rcases i with - | i
        · rfl
        · cases hi
      exact ⟨⟨_, rfl⟩, rfl, RLe.i (RL_r H (nR_mt h1)) (by omega)⟩
set_option maxHeartbeats 4000000 in
theorem pa_levelOf (l : Launch) (hst : l.stackTraces = false) (G : GT) {N : Mem} {L : Int} (H : RLe N (vw [20] N) L) (hL0 : 0 ≤ L) (hL : L + 300 < 2147483648) (a : Int32) : PX l G N (L + 279) [oobN] yX9_levelOf cX9_levelOf 2 (some .int) ({ frames := 7, cells := 4, slots := 24, locals := 103 } : Room) yX10_levelOf cX10_levelOf 2 (some .int) ({ frames := 3, cells := 0, slots := 0, locals := 67 } : Room) [iv a] := by
  obtain ⟨x, q, BP, be, nm, A0, B0, n, bs, u, o, h, k, H⟩ := H
  have H0 := H
  obtain ⟨⟨hq, hpn, hsn, hP⟩, ⟨hx, hv, hbe⟩, ⟨⟨hz, hpl, hwt⟩, hE⟩, ⟨hT, hn6, hby, hB, hn10, h11, h12⟩, ⟨ho1, hh1, ho8, hh8, hHR, hR4⟩, hws, ⟨hsv, hw5, hsave⟩, ⟨hk16, hk, hk2, hout⟩⟩ := H0
  have h1R : ∀ R1 : Mem, R1 0 = N 20 → RLw x N R1 L q BP be nm A0 B0 n bs u o h k := fun R1 e => RL_r H (nR_i e)
  refine ⟨_, _, fun R1 => _, (sp_X9_levelOf l hst G BP be nm x q a N hpn hq hP hx), fun R1 h1 => sp_X10_levelOf l G A0 x (N 3) a R1 (h1R R1 h1).2.2.1.2 hx, ?_, ?_, ?_, ?_⟩
  · rintro r M' ⟨-, c, -, -, e⟩; exact ⟨_, e⟩
  · rintro Ex M' ⟨rfl, -⟩; exact List.mem_singleton.mpr rfl
  · rintro v M' ⟨rfl, c, hc, ha, hr⟩ R1 h1 r R' (⟨c2, hc2, ha2, rfl, hr2⟩ | ⟨hn, -, -⟩)
    · have e := ij_c hx hc hc2 ha ha2
      subst e
      exact ⟨hr2.trans hr.symm, rfl, RLe.i (RL_r H (nR_mt h1)) (by omega)⟩
    · exact absurd ⟨c, hc, ha⟩ hn
  · rintro i Ex M' hi ⟨-, rfl, hn⟩ R1 h1 r R' (⟨c2, hc2, ha2, -, -⟩ | ⟨-, rfl, rfl⟩)
    · exact absurd ⟨c2, hc2, ha2⟩ hn
    · obtain rfl : i = 0 := by
        rcases i with - | i
        · rfl
        · cases hi
      exact ⟨⟨_, rfl⟩, rfl, RLe.i (RL_r H (nR_mt h1)) (by omega)⟩
set_option maxHeartbeats 4000000 in
theorem pa_leavesOn (l : Launch) (hst : l.stackTraces = false) (G : GT) {N : Mem} {L : Int} (H : RLe N (vw [20] N) L) (hL0 : 0 ≤ L) (hL : L + 300 < 2147483648) (a : Int32) : PX l G N (L + 279) [oobN] yX9_leavesOn cX9_leavesOn 2 (some .int) ({ frames := 7, cells := 4, slots := 24, locals := 103 } : Room) yX10_leavesOn cX10_leavesOn 2 (some .int) ({ frames := 4, cells := 0, slots := 0, locals := 89 } : Room) [iv a] := by
  obtain ⟨x, q, BP, be, nm, A0, B0, n, bs, u, o, h, k, H⟩ := H
  have H0 := H
  obtain ⟨⟨hq, hpn, hsn, hP⟩, ⟨hx, hv, hbe⟩, ⟨⟨hz, hpl, hwt⟩, hE⟩, ⟨hT, hn6, hby, hB, hn10, h11, h12⟩, ⟨ho1, hh1, ho8, hh8, hHR, hR4⟩, hws, ⟨hsv, hw5, hsave⟩, ⟨hk16, hk, hk2, hout⟩⟩ := H0
  have h1R : ∀ R1 : Mem, R1 0 = N 20 → RLw x N R1 L q BP be nm A0 B0 n bs u o h k := fun R1 e => RL_r H (nR_i e)
  refine ⟨_, _, fun R1 => _, (sp_X9_leavesOn l hst G BP be nm x q a N hpn hq hP hx), fun R1 h1 => sp_X10_leavesOn l G A0 x (N 3) a R1 (h1R R1 h1).2.2.1.2 hx, ?_, ?_, ?_, ?_⟩
  · rintro r M' ⟨-, c, -, -, e⟩; exact ⟨_, e⟩
  · rintro Ex M' ⟨rfl, -⟩; exact List.mem_singleton.mpr rfl
  · rintro v M' ⟨rfl, c, hc, ha, hr⟩ R1 h1 r R' (⟨c2, hc2, ha2, rfl, hr2⟩ | ⟨hn, -, -⟩)
    · have e := ij_c hx hc hc2 ha ha2
      subst e
      exact ⟨hr2.trans hr.symm, rfl, RLe.i (RL_r H (nR_mt h1)) (by omega)⟩
    · exact absurd ⟨c, hc, ha⟩ hn
  · rintro i Ex M' hi ⟨-, rfl, hn⟩ R1 h1 r R' (⟨c2, hc2, ha2, -, -⟩ | ⟨-, rfl, rfl⟩)
    · exact absurd ⟨c2, hc2, ha2⟩ hn
    · obtain rfl : i = 0 := by
        rcases i with - | i
        · rfl
        · cases hi
      exact ⟨⟨_, rfl⟩, rfl, RLe.i (RL_r H (nR_mt h1)) (by omega)⟩
set_option maxHeartbeats 4000000 in
theorem pa_gutterCapacity (l : Launch) (hst : l.stackTraces = false) (G : GT) {N : Mem} {L : Int} (H : RLe N (vw [20] N) L) (hL0 : 0 ≤ L) (hL : L + 300 < 2147483648) (a : Int32) : PX l G N (L + 279) [oobN] yX9_gutterCapacity cX9_gutterCapacity 2 (some .int) ({ frames := 7, cells := 4, slots := 24, locals := 103 } : Room) yX10_gutterCapacity cX10_gutterCapacity 2 (some .int) ({ frames := 4, cells := 0, slots := 0, locals := 89 } : Room) [iv a] := by
  obtain ⟨x, q, BP, be, nm, A0, B0, n, bs, u, o, h, k, H⟩ := H
  have H0 := H
  obtain ⟨⟨hq, hpn, hsn, hP⟩, ⟨hx, hv, hbe⟩, ⟨⟨hz, hpl, hwt⟩, hE⟩, ⟨hT, hn6, hby, hB, hn10, h11, h12⟩, ⟨ho1, hh1, ho8, hh8, hHR, hR4⟩, hws, ⟨hsv, hw5, hsave⟩, ⟨hk16, hk, hk2, hout⟩⟩ := H0
  have h1R : ∀ R1 : Mem, R1 0 = N 20 → RLw x N R1 L q BP be nm A0 B0 n bs u o h k := fun R1 e => RL_r H (nR_i e)
  refine ⟨_, _, fun R1 => _, (sp_X9_gutterCapacity l hst G BP be nm x q a N hpn hq hP hx), fun R1 h1 => sp_X10_gutterCapacity l G A0 x (N 3) a R1 (h1R R1 h1).2.2.1.2 hx, ?_, ?_, ?_, ?_⟩
  · rintro r M' ⟨-, c, -, -, e⟩; exact ⟨_, e⟩
  · rintro Ex M' ⟨rfl, -⟩; exact List.mem_singleton.mpr rfl
  · rintro v M' ⟨rfl, c, hc, ha, hr⟩ R1 h1 r R' (⟨c2, hc2, ha2, rfl, hr2⟩ | ⟨hn, -, -⟩)
    · have e := ij_c hx hc hc2 ha ha2
      subst e
      exact ⟨hr2.trans hr.symm, rfl, RLe.i (RL_r H (nR_mt h1)) (by omega)⟩
    · exact absurd ⟨c, hc, ha⟩ hn
  · rintro i Ex M' hi ⟨-, rfl, hn⟩ R1 h1 r R' (⟨c2, hc2, ha2, -, -⟩ | ⟨-, rfl, rfl⟩)
    · exact absurd ⟨c2, hc2, ha2⟩ hn
    · obtain rfl : i = 0 := by
        rcases i with - | i
        · rfl
        · cases hi
      exact ⟨⟨_, rfl⟩, rfl, RLe.i (RL_r H (nR_mt h1)) (by omega)⟩
set_option maxHeartbeats 4000000 in
theorem pa_gutterFlow (l : Launch) (hst : l.stackTraces = false) (G : GT) {N : Mem} {L : Int} (H : RLe N (vw [20] N) L) (hL0 : 0 ≤ L) (hL : L + 300 < 2147483648) (a : Int32) : PX l G N (L + 279) [oobN] yX9_gutterFlow cX9_gutterFlow 2 (some .int) ({ frames := 7, cells := 4, slots := 24, locals := 103 } : Room) yX10_gutterFlow cX10_gutterFlow 2 (some .int) ({ frames := 3, cells := 0, slots := 0, locals := 67 } : Room) [iv a] := by
  obtain ⟨x, q, BP, be, nm, A0, B0, n, bs, u, o, h, k, H⟩ := H
  have H0 := H
  obtain ⟨⟨hq, hpn, hsn, hP⟩, ⟨hx, hv, hbe⟩, ⟨⟨hz, hpl, hwt⟩, hE⟩, ⟨hT, hn6, hby, hB, hn10, h11, h12⟩, ⟨ho1, hh1, ho8, hh8, hHR, hR4⟩, hws, ⟨hsv, hw5, hsave⟩, ⟨hk16, hk, hk2, hout⟩⟩ := H0
  have h1R : ∀ R1 : Mem, R1 0 = N 20 → RLw x N R1 L q BP be nm A0 B0 n bs u o h k := fun R1 e => RL_r H (nR_i e)
  refine ⟨_, _, fun R1 => _, (sp_X9_gutterFlow l hst G BP be nm x q a N hpn hq hP hx), fun R1 h1 => sp_X10_gutterFlow l G A0 x (N 3) a R1 (h1R R1 h1).2.2.1.2 hx, ?_, ?_, ?_, ?_⟩
  · rintro r M' ⟨-, c, -, -, e⟩; exact ⟨_, e⟩
  · rintro Ex M' ⟨rfl, -⟩; exact List.mem_singleton.mpr rfl
  · rintro v M' ⟨rfl, c, hc, ha, hr⟩ R1 h1 r R' (⟨c2, hc2, ha2, rfl, hr2⟩ | ⟨hn, -, -⟩)
    · have e := ij_c hx hc hc2 ha ha2
      subst e
      exact ⟨hr2.trans hr.symm, rfl, RLe.i (RL_r H (nR_mt h1)) (by omega)⟩
    · exact absurd ⟨c, hc, ha⟩ hn
  · rintro i Ex M' hi ⟨-, rfl, hn⟩ R1 h1 r R' (⟨c2, hc2, ha2, -, -⟩ | ⟨-, rfl, rfl⟩)
    · exact absurd ⟨c2, hc2, ha2⟩ hn
    · obtain rfl : i = 0 := by
        rcases i with - | i
        · rfl
        · cases hi
      exact ⟨⟨_, rfl⟩, rfl, RLe.i (RL_r H (nR_mt h1)) (by omega)⟩
set_option maxHeartbeats 4000000 in
theorem pa_isPlugged (l : Launch) (hst : l.stackTraces = false) (G : GT) {N : Mem} {L : Int} (H : RLe N (vw [20] N) L) (hL0 : 0 ≤ L) (hL : L + 300 < 2147483648) (a : Int32) : PX l G N (L + 279) [oobN] yX9_isPlugged cX9_isPlugged 2 (some .boolean) ({ frames := 7, cells := 4, slots := 24, locals := 103 } : Room) yX10_isPlugged cX10_isPlugged 2 (some .boolean) ({ frames := 3, cells := 0, slots := 0, locals := 67 } : Room) [iv a] := by
  obtain ⟨x, q, BP, be, nm, A0, B0, n, bs, u, o, h, k, H⟩ := H
  have H0 := H
  obtain ⟨⟨hq, hpn, hsn, hP⟩, ⟨hx, hv, hbe⟩, ⟨⟨hz, hpl, hwt⟩, hE⟩, ⟨hT, hn6, hby, hB, hn10, h11, h12⟩, ⟨ho1, hh1, ho8, hh8, hHR, hR4⟩, hws, ⟨hsv, hw5, hsave⟩, ⟨hk16, hk, hk2, hout⟩⟩ := H0
  have h1R : ∀ R1 : Mem, R1 0 = N 20 → RLw x N R1 L q BP be nm A0 B0 n bs u o h k := fun R1 e => RL_r H (nR_i e)
  refine ⟨_, _, fun R1 => _, (sp_X9_isPlugged l hst G BP be nm x q a N hpn hq hP hx), fun R1 h1 => sp_X10_isPlugged l G A0 x (N 3) a R1 (h1R R1 h1).2.2.1.2 hx, ?_, ?_, ?_, ?_⟩
  · rintro r M' ⟨-, c, -, -, e⟩; exact ⟨_, e⟩
  · rintro Ex M' ⟨rfl, -⟩; exact List.mem_singleton.mpr rfl
  · rintro v M' ⟨rfl, c, hc, ha, hr⟩ R1 h1 r R' (⟨c2, hc2, ha2, rfl, hr2⟩ | ⟨hn, -, -⟩)
    · have e := ij_c hx hc hc2 ha ha2
      subst e
      exact ⟨hr2.trans hr.symm, rfl, RLe.i (RL_r H (nR_mt h1)) (by omega)⟩
    · exact absurd ⟨c, hc, ha⟩ hn
  · rintro i Ex M' hi ⟨-, rfl, hn⟩ R1 h1 r R' (⟨c2, hc2, ha2, -, -⟩ | ⟨-, rfl, rfl⟩)
    · exact absurd ⟨c2, hc2, ha2⟩ hn
    · obtain rfl : i = 0 := by
        rcases i with - | i
        · rfl
        · cases hi
      exact ⟨⟨_, rfl⟩, rfl, RLe.i (RL_r H (nR_mt h1)) (by omega)⟩
set_option maxHeartbeats 4000000 in
theorem pa_hydrantRate (l : Launch) (hst : l.stackTraces = false) (G : GT) {N : Mem} {L : Int} (H : RLe N (vw [20] N) L) (hL0 : 0 ≤ L) (hL : L + 300 < 2147483648) (a : Int32) : PX l G N (L + 279) [oobN] yX9_hydrantRate cX9_hydrantRate 2 (some .int) ({ frames := 7, cells := 4, slots := 24, locals := 103 } : Room) yX10_hydrantRate cX10_hydrantRate 2 (some .int) ({ frames := 4, cells := 0, slots := 0, locals := 89 } : Room) [iv a] := by
  obtain ⟨x, q, BP, be, nm, A0, B0, n, bs, u, o, h, k, H⟩ := H
  have H0 := H
  obtain ⟨⟨hq, hpn, hsn, hP⟩, ⟨hx, hv, hbe⟩, ⟨⟨hz, hpl, hwt⟩, hE⟩, ⟨hT, hn6, hby, hB, hn10, h11, h12⟩, ⟨ho1, hh1, ho8, hh8, hHR, hR4⟩, hws, ⟨hsv, hw5, hsave⟩, ⟨hk16, hk, hk2, hout⟩⟩ := H0
  have h1R : ∀ R1 : Mem, R1 0 = N 20 → RLw x N R1 L q BP be nm A0 B0 n bs u o h k := fun R1 e => RL_r H (nR_i e)
  refine ⟨_, _, fun R1 => _, (sp_X9_hydrantRate l hst G BP be nm x q a N hpn hq hP hx), fun R1 h1 => sp_X10_hydrantRate l G A0 x (N 3) a R1 (h1R R1 h1).2.2.1.2 hx, ?_, ?_, ?_, ?_⟩
  · rintro r M' ⟨-, c, -, -, e⟩; exact ⟨_, e⟩
  · rintro Ex M' ⟨rfl, -⟩; exact List.mem_singleton.mpr rfl
  · rintro v M' ⟨rfl, c, hc, ha, hr⟩ R1 h1 r R' (⟨c2, hc2, ha2, rfl, hr2⟩ | ⟨hn, -, -⟩)
    · have e := ij_c hx hc hc2 ha ha2
      subst e
      exact ⟨hr2.trans hr.symm, rfl, RLe.i (RL_r H (nR_mt h1)) (by omega)⟩
    · exact absurd ⟨c, hc, ha⟩ hn
  · rintro i Ex M' hi ⟨-, rfl, hn⟩ R1 h1 r R' (⟨c2, hc2, ha2, -, -⟩ | ⟨-, rfl, rfl⟩)
    · exact absurd ⟨c2, hc2, ha2⟩ hn
    · obtain rfl : i = 0 := by
        rcases i with - | i
        · rfl
        · cases hi
      exact ⟨⟨_, rfl⟩, rfl, RLe.i (RL_r H (nR_mt h1)) (by omega)⟩
set_option maxHeartbeats 4000000 in
theorem pa_hydrantMinutes (l : Launch) (hst : l.stackTraces = false) (G : GT) {N : Mem} {L : Int} (H : RLe N (vw [20] N) L) (hL0 : 0 ≤ L) (hL : L + 300 < 2147483648) (a : Int32) : PX l G N (L + 279) [oobN] yX9_hydrantMinutes cX9_hydrantMinutes 2 (some .int) ({ frames := 7, cells := 4, slots := 24, locals := 103 } : Room) yX10_hydrantMinutes cX10_hydrantMinutes 2 (some .int) ({ frames := 4, cells := 0, slots := 0, locals := 89 } : Room) [iv a] := by
  obtain ⟨x, q, BP, be, nm, A0, B0, n, bs, u, o, h, k, H⟩ := H
  have H0 := H
  obtain ⟨⟨hq, hpn, hsn, hP⟩, ⟨hx, hv, hbe⟩, ⟨⟨hz, hpl, hwt⟩, hE⟩, ⟨hT, hn6, hby, hB, hn10, h11, h12⟩, ⟨ho1, hh1, ho8, hh8, hHR, hR4⟩, hws, ⟨hsv, hw5, hsave⟩, ⟨hk16, hk, hk2, hout⟩⟩ := H0
  have h1R : ∀ R1 : Mem, R1 0 = N 20 → RLw x N R1 L q BP be nm A0 B0 n bs u o h k := fun R1 e => RL_r H (nR_i e)
  refine ⟨_, _, fun R1 => _, (sp_X9_hydrantMinutes l hst G BP be nm x q a N hpn hq hP hx), fun R1 h1 => sp_X10_hydrantMinutes l G A0 x (N 3) a R1 (h1R R1 h1).2.2.1.2 hx, ?_, ?_, ?_, ?_⟩
  · rintro r M' ⟨-, c, -, -, e⟩; exact ⟨_, e⟩
  · rintro Ex M' ⟨rfl, -⟩; exact List.mem_singleton.mpr rfl
  · rintro v M' ⟨rfl, c, hc, ha, hr⟩ R1 h1 r R' (⟨c2, hc2, ha2, rfl, hr2⟩ | ⟨hn, -, -⟩)
    · have e := ij_c hx hc hc2 ha ha2
      subst e
      exact ⟨hr2.trans hr.symm, rfl, RLe.i (RL_r H (nR_mt h1)) (by omega)⟩
    · exact absurd ⟨c, hc, ha⟩ hn
  · rintro i Ex M' hi ⟨-, rfl, hn⟩ R1 h1 r R' (⟨c2, hc2, ha2, -, -⟩ | ⟨-, rfl, rfl⟩)
    · exact absurd ⟨c2, hc2, ha2⟩ hn
    · obtain rfl : i = 0 := by
        rcases i with - | i
        · rfl
        · cases hi
      exact ⟨⟨_, rfl⟩, rfl, RLe.i (RL_r H (nR_mt h1)) (by omega)⟩
set_option maxHeartbeats 4000000 in
theorem pa_flowsTo (l : Launch) (hst : l.stackTraces = false) (G : GT) {N : Mem} {L : Int} (H : RLe N (vw [20] N) L) (hL0 : 0 ≤ L) (hL : L + 300 < 2147483648) (a : Int32) : PX l G N (L + 279) [oobN] yX9_flowsTo cX9_flowsTo 3 (some .int) ({ frames := 7, cells := 4, slots := 24, locals := 103 } : Room) yX10_flowsTo cX10_flowsTo 2 (some .int) ({ frames := 5, cells := 0, slots := 0, locals := 109 } : Room) [iv a] := by
  obtain ⟨x, q, BP, be, nm, A0, B0, n, bs, u, o, h, k, H⟩ := H
  have H0 := H
  obtain ⟨⟨hq, hpn, hsn, hP⟩, ⟨hx, hv, hbe⟩, ⟨⟨hz, hpl, hwt⟩, hE⟩, ⟨hT, hn6, hby, hB, hn10, h11, h12⟩, ⟨ho1, hh1, ho8, hh8, hHR, hR4⟩, hws, ⟨hsv, hw5, hsave⟩, ⟨hk16, hk, hk2, hout⟩⟩ := H0
  have h1R : ∀ R1 : Mem, R1 0 = N 20 → RLw x N R1 L q BP be nm A0 B0 n bs u o h k := fun R1 e => RL_r H (nR_i e)
  refine ⟨_, _, fun R1 => _, (sp_X9_flowsTo l hst G BP be nm x q a N hpn hq hP hx hbe), fun R1 h1 => sp_X10_flowsTo l G A0 x (N 3) a R1 (h1R R1 h1).2.2.1.2 hx hv, ?_, ?_, ?_, ?_⟩
  · rintro r M' ⟨-, c, -, -, e⟩; exact ⟨_, e⟩
  · rintro Ex M' ⟨rfl, -⟩; exact List.mem_singleton.mpr rfl
  · rintro v M' ⟨rfl, c, hc, ha, hr⟩ R1 h1 r R' (⟨c2, hc2, ha2, rfl, hr2⟩ | ⟨hn, -, -⟩)
    · have e := ij_c hx hc hc2 ha ha2
      subst e
      exact ⟨hr2.trans hr.symm, rfl, RLe.i (RL_r H (nR_mt h1)) (by omega)⟩
    · exact absurd ⟨c, hc, ha⟩ hn
  · rintro i Ex M' hi ⟨-, rfl, hn⟩ R1 h1 r R' (⟨c2, hc2, ha2, -, -⟩ | ⟨-, rfl, rfl⟩)
    · exact absurd ⟨c2, hc2, ha2⟩ hn
    · obtain rfl : i = 0 := by
        rcases i with - | i
        · rfl
        · cases hi
      exact ⟨⟨_, rfl⟩, rfl, RLe.i (RL_r H (nR_mt h1)) (by omega)⟩
set_option maxHeartbeats 4000000 in
theorem pa_flowFrom (l : Launch) (hst : l.stackTraces = false) (G : GT) {N : Mem} {L : Int} (H : RLe N (vw [20] N) L) (hL0 : 0 ≤ L) (hL : L + 300 < 2147483648) (a : Int32) : PX l G N (L + 279) [oobN] yX9_flowFrom cX9_flowFrom 2 (some .int) ({ frames := 7, cells := 4, slots := 24, locals := 103 } : Room) yX10_flowFrom cX10_flowFrom 2 (some .int) ({ frames := 5, cells := 0, slots := 0, locals := 109 } : Room) [iv a] := by
  obtain ⟨x, q, BP, be, nm, A0, B0, n, bs, u, o, h, k, H⟩ := H
  have H0 := H
  obtain ⟨⟨hq, hpn, hsn, hP⟩, ⟨hx, hv, hbe⟩, ⟨⟨hz, hpl, hwt⟩, hE⟩, ⟨hT, hn6, hby, hB, hn10, h11, h12⟩, ⟨ho1, hh1, ho8, hh8, hHR, hR4⟩, hws, ⟨hsv, hw5, hsave⟩, ⟨hk16, hk, hk2, hout⟩⟩ := H0
  have h1R : ∀ R1 : Mem, R1 0 = N 20 → RLw x N R1 L q BP be nm A0 B0 n bs u o h k := fun R1 e => RL_r H (nR_i e)
  refine ⟨_, _, fun R1 => _, (sp_X9_flowFrom l hst G BP be nm x q a N hpn hq hP hx hbe), fun R1 h1 => sp_X10_flowFrom l G A0 x (N 3) a R1 (h1R R1 h1).2.2.1.2 hx hv, ?_, ?_, ?_, ?_⟩
  · rintro r M' ⟨-, c, -, -, e⟩; exact ⟨_, e⟩
  · rintro Ex M' ⟨rfl, -⟩; exact List.mem_singleton.mpr rfl
  · rintro v M' ⟨rfl, c, hc, ha, hr⟩ R1 h1 r R' (⟨c2, hc2, ha2, rfl, hr2⟩ | ⟨hn, -, -⟩)
    · have e := ij_c hx hc hc2 ha ha2
      subst e
      exact ⟨hr2.trans hr.symm, rfl, RLe.i (RL_r H (nR_mt h1)) (by omega)⟩
    · exact absurd ⟨c, hc, ha⟩ hn
  · rintro i Ex M' hi ⟨-, rfl, hn⟩ R1 h1 r R' (⟨c2, hc2, ha2, -, -⟩ | ⟨-, rfl, rfl⟩)
    · exact absurd ⟨c2, hc2, ha2⟩ hn
    · obtain rfl : i = 0 := by
        rcases i with - | i
        · rfl
        · cases hi
      exact ⟨⟨_, rfl⟩, rfl, RLe.i (RL_r H (nR_mt h1)) (by omega)⟩
set_option maxHeartbeats 4000000 in
theorem pa_placeOf (l : Launch) (hst : l.stackTraces = false) (G : GT) {N : Mem} {L : Int} (H : RLe N (vw [20] N) L) (hL0 : 0 ≤ L) (hL : L + 300 < 2147483648) (a : Int32) : PX l G N (L + 279) [oobN] yX9_placeOf cX9_placeOf 2 (some .int) ({ frames := 7, cells := 8, slots := 48, locals := 103 } : Room) yX10_placeOf cX10_placeOf 2 (some .int) ({ frames := 4, cells := 0, slots := 0, locals := 89 } : Room) [iv a] := by
  obtain ⟨x, q, BP, be, nm, A0, B0, n, bs, u, o, h, k, H⟩ := H
  have H0 := H
  obtain ⟨⟨hq, hpn, hsn, hP⟩, ⟨hx, hv, hbe⟩, ⟨⟨hz, hpl, hwt⟩, hE⟩, ⟨hT, hn6, hby, hB, hn10, h11, h12⟩, ⟨ho1, hh1, ho8, hh8, hHR, hR4⟩, hws, ⟨hsv, hw5, hsave⟩, ⟨hk16, hk, hk2, hout⟩⟩ := H0
  have h1R : ∀ R1 : Mem, R1 0 = N 20 → RLw x N R1 L q BP be nm A0 B0 n bs u o h k := fun R1 e => RL_r H (nR_i e)
  refine ⟨_, _, fun R1 => _, (sp_X9_placeOf l hst G BP be nm x q a N hpn hq hP hx), fun R1 h1 => sp_X10_placeOf l G A0 x (N 3) a R1 (h1R R1 h1).2.2.1.2 hx, ?_, ?_, ?_, ?_⟩
  · rintro r M' ⟨-, c, -, -, e⟩; exact ⟨_, e⟩
  · rintro Ex M' ⟨rfl, -⟩; exact List.mem_singleton.mpr rfl
  · rintro v M' ⟨rfl, c, hc, ha, hr⟩ R1 h1 r R' (⟨c2, hc2, ha2, rfl, hr2⟩ | ⟨hn, -, -⟩)
    · have e := ij_b hx hc hc2 ha ha2
      subst e
      exact ⟨hr2.trans hr.symm, rfl, RLe.i (RL_r H (nR_mt h1)) (by omega)⟩
    · exact absurd ⟨c, hc, ha⟩ hn
  · rintro i Ex M' hi ⟨-, rfl, hn⟩ R1 h1 r R' (⟨c2, hc2, ha2, -, -⟩ | ⟨-, rfl, rfl⟩)
    · exact absurd ⟨c2, hc2, ha2⟩ hn
    · obtain rfl : i = 0 := by
        rcases i with - | i
        · rfl
        · cases hi
      exact ⟨⟨_, rfl⟩, rfl, RLe.i (RL_r H (nR_mt h1)) (by omega)⟩
set_option maxHeartbeats 4000000 in
theorem pa_bootHeight (l : Launch) (hst : l.stackTraces = false) (G : GT) {N : Mem} {L : Int} (H : RLe N (vw [20] N) L) (hL0 : 0 ≤ L) (hL : L + 300 < 2147483648) (a : Int32) : PX l G N (L + 279) [oobN] yX9_bootHeight cX9_bootHeight 2 (some .int) ({ frames := 7, cells := 8, slots := 48, locals := 103 } : Room) yX10_bootHeight cX10_bootHeight 2 (some .int) ({ frames := 4, cells := 0, slots := 0, locals := 89 } : Room) [iv a] := by
  obtain ⟨x, q, BP, be, nm, A0, B0, n, bs, u, o, h, k, H⟩ := H
  have H0 := H
  obtain ⟨⟨hq, hpn, hsn, hP⟩, ⟨hx, hv, hbe⟩, ⟨⟨hz, hpl, hwt⟩, hE⟩, ⟨hT, hn6, hby, hB, hn10, h11, h12⟩, ⟨ho1, hh1, ho8, hh8, hHR, hR4⟩, hws, ⟨hsv, hw5, hsave⟩, ⟨hk16, hk, hk2, hout⟩⟩ := H0
  have h1R : ∀ R1 : Mem, R1 0 = N 20 → RLw x N R1 L q BP be nm A0 B0 n bs u o h k := fun R1 e => RL_r H (nR_i e)
  refine ⟨_, _, fun R1 => _, (sp_X9_bootHeight l hst G BP be nm x q a N hpn hq hP hx), fun R1 h1 => sp_X10_bootHeight l G A0 x (N 3) a R1 (h1R R1 h1).2.2.1.2 hx, ?_, ?_, ?_, ?_⟩
  · rintro r M' ⟨-, c, -, -, e⟩; exact ⟨_, e⟩
  · rintro Ex M' ⟨rfl, -⟩; exact List.mem_singleton.mpr rfl
  · rintro v M' ⟨rfl, c, hc, ha, hr⟩ R1 h1 r R' (⟨c2, hc2, ha2, rfl, hr2⟩ | ⟨hn, -, -⟩)
    · have e := ij_b hx hc hc2 ha ha2
      subst e
      exact ⟨hr2.trans hr.symm, rfl, RLe.i (RL_r H (nR_mt h1)) (by omega)⟩
    · exact absurd ⟨c, hc, ha⟩ hn
  · rintro i Ex M' hi ⟨-, rfl, hn⟩ R1 h1 r R' (⟨c2, hc2, ha2, -, -⟩ | ⟨-, rfl, rfl⟩)
    · exact absurd ⟨c2, hc2, ha2⟩ hn
    · obtain rfl : i = 0 := by
        rcases i with - | i
        · rfl
        · cases hi
      exact ⟨⟨_, rfl⟩, rfl, RLe.i (RL_r H (nR_mt h1)) (by omega)⟩
set_option maxHeartbeats 4000000 in
theorem pa_splashesOf (l : Launch) (hst : l.stackTraces = false) (G : GT) {N : Mem} {L : Int} (H : RLe N (vw [20] N) L) (hL0 : 0 ≤ L) (hL : L + 300 < 2147483648) (a : Int32) : PX l G N (L + 279) [oobN] yX9_splashesOf cX9_splashesOf 2 (some .int) ({ frames := 7, cells := 8, slots := 48, locals := 103 } : Room) yX10_splashesOf cX10_splashesOf 2 (some .int) ({ frames := 4, cells := 0, slots := 0, locals := 89 } : Room) [iv a] := by
  obtain ⟨x, q, BP, be, nm, A0, B0, n, bs, u, o, h, k, H⟩ := H
  have H0 := H
  obtain ⟨⟨hq, hpn, hsn, hP⟩, ⟨hx, hv, hbe⟩, ⟨⟨hz, hpl, hwt⟩, hE⟩, ⟨hT, hn6, hby, hB, hn10, h11, h12⟩, ⟨ho1, hh1, ho8, hh8, hHR, hR4⟩, hws, ⟨hsv, hw5, hsave⟩, ⟨hk16, hk, hk2, hout⟩⟩ := H0
  have h1R : ∀ R1 : Mem, R1 0 = N 20 → RLw x N R1 L q BP be nm A0 B0 n bs u o h k := fun R1 e => RL_r H (nR_i e)
  refine ⟨_, _, fun R1 => _, (sp_X9_splashesOf l hst G BP be nm x q a N hpn hq hP hx), fun R1 h1 => sp_X10_splashesOf l G A0 x (N 3) a R1 (h1R R1 h1).2.2.1.2 hx, ?_, ?_, ?_, ?_⟩
  · rintro r M' ⟨-, c, -, -, e⟩; exact ⟨_, e⟩
  · rintro Ex M' ⟨rfl, -⟩; exact List.mem_singleton.mpr rfl
  · rintro v M' ⟨rfl, c, hc, ha, hr⟩ R1 h1 r R' (⟨c2, hc2, ha2, rfl, hr2⟩ | ⟨hn, -, -⟩)
    · have e := ij_b hx hc hc2 ha ha2
      subst e
      exact ⟨hr2.trans hr.symm, rfl, RLe.i (RL_r H (nR_mt h1)) (by omega)⟩
    · exact absurd ⟨c, hc, ha⟩ hn
  · rintro i Ex M' hi ⟨-, rfl, hn⟩ R1 h1 r R' (⟨c2, hc2, ha2, -, -⟩ | ⟨-, rfl, rfl⟩)
    · exact absurd ⟨c2, hc2, ha2⟩ hn
    · obtain rfl : i = 0 := by
        rcases i with - | i
        · rfl
        · cases hi
      exact ⟨⟨_, rfl⟩, rfl, RLe.i (RL_r H (nR_mt h1)) (by omega)⟩
set_option maxHeartbeats 4000000 in
theorem pa_nameByte (l : Launch) (hst : l.stackTraces = false) (G : GT) {N : Mem} {L : Int} (H : RLe N (vw [20] N) L) (hL0 : 0 ≤ L) (hL : L + 300 < 2147483648) (a b : Int32) : PX l G N (L + 279) [oobN] yX9_nameByte cX9_nameByte 3 (some .int) ({ frames := 7, cells := 8, slots := 48, locals := 103 } : Room) yX10_nameByte cX10_nameByte 3 (some .int) ({ frames := 3, cells := 0, slots := 0, locals := 67 } : Room) [iv a, iv b] := by
  obtain ⟨x, q, BP, be, nm, A0, B0, n, bs, u, o, h, k, H⟩ := H
  have H0 := H
  obtain ⟨⟨hq, hpn, hsn, hP⟩, ⟨hx, hv, hbe⟩, ⟨⟨hz, hpl, hwt⟩, hE⟩, ⟨hT, hn6, hby, hB, hn10, h11, h12⟩, ⟨ho1, hh1, ho8, hh8, hHR, hR4⟩, hws, ⟨hsv, hw5, hsave⟩, ⟨hk16, hk, hk2, hout⟩⟩ := H0
  have h1R : ∀ R1 : Mem, R1 0 = N 20 → RLw x N R1 L q BP be nm A0 B0 n bs u o h k := fun R1 e => RL_r H (nR_i e)
  refine ⟨_, _, fun R1 => _, (sp_X9_nameByte l hst G BP be nm x q a b N hpn hq hP hx), fun R1 h1 => sp_X10_nameByte l G A0 x (N 3) a b R1 (h1R R1 h1).2.2.1.2 hx, ?_, ?_, ?_, ?_⟩
  · rintro r M' ⟨-, c, -, -, e⟩; exact ⟨_, e⟩
  · rintro Ex M' ⟨rfl, -⟩; exact List.mem_singleton.mpr rfl
  · rintro v M' ⟨rfl, c, hc, ha, hr⟩ R1 h1 r R' (⟨c2, hc2, ha2, rfl, hr2⟩ | ⟨hn, -, -⟩)
    · have e := ij_b hx hc hc2 ha ha2
      subst e
      exact ⟨hr2.trans hr.symm, rfl, RLe.i (RL_r H (nR_mt h1)) (by omega)⟩
    · exact absurd ⟨c, hc, ha⟩ hn
  · rintro i Ex M' hi ⟨-, rfl, hn⟩ R1 h1 r R' (⟨c2, hc2, ha2, -, -⟩ | ⟨-, rfl, rfl⟩)
    · exact absurd ⟨c2, hc2, ha2⟩ hn
    · obtain rfl : i = 0 := by
        rcases i with - | i
        · rfl
        · cases hi
      exact ⟨⟨_, rfl⟩, rfl, RLe.i (RL_r H (nR_mt h1)) (by omega)⟩
set_option maxHeartbeats 4000000 in
theorem pa_isWet (l : Launch) (hst : l.stackTraces = false) (G : GT) {N : Mem} {L : Int} (H : RLe N (vw [20] N) L) (hL0 : 0 ≤ L) (hL : L + 300 < 2147483648) (a : Int32) : PX l G N (L + 279) [oobN] yX9_isWet cX9_isWet 2 (some .boolean) ({ frames := 7, cells := 8, slots := 48, locals := 103 } : Room) yX10_isWet cX10_isWet 2 (some .boolean) ({ frames := 4, cells := 0, slots := 0, locals := 89 } : Room) [iv a] := by
  obtain ⟨x, q, BP, be, nm, A0, B0, n, bs, u, o, h, k, H⟩ := H
  have H0 := H
  obtain ⟨⟨hq, hpn, hsn, hP⟩, ⟨hx, hv, hbe⟩, ⟨⟨hz, hpl, hwt⟩, hE⟩, ⟨hT, hn6, hby, hB, hn10, h11, h12⟩, ⟨ho1, hh1, ho8, hh8, hHR, hR4⟩, hws, ⟨hsv, hw5, hsave⟩, ⟨hk16, hk, hk2, hout⟩⟩ := H0
  have h1R : ∀ R1 : Mem, R1 0 = N 20 → RLw x N R1 L q BP be nm A0 B0 n bs u o h k := fun R1 e => RL_r H (nR_i e)
  refine ⟨_, _, fun R1 => _, (sp_X9_isWet l hst G BP be nm x q a N hpn hq hP hx (fun i hi => nz_b (hwt i hi))), fun R1 h1 => sp_X10_isWet l G A0 x (N 3) a R1 (h1R R1 h1).2.2.1.2 hx, ?_, ?_, ?_, ?_⟩
  · rintro r M' ⟨-, c, -, -, e⟩; exact ⟨_, e⟩
  · rintro Ex M' ⟨rfl, -⟩; exact List.mem_singleton.mpr rfl
  · rintro v M' ⟨rfl, c, hc, ha, hr⟩ R1 h1 r R' (⟨c2, hc2, ha2, rfl, hr2⟩ | ⟨hn, -, -⟩)
    · have e := ij_b hx hc hc2 ha ha2
      subst e
      exact ⟨(hr2.trans (congrArg (fun z => some (iv z)) (nz_i (hwt _ (Nat.lt_of_lt_of_le hc hx.2.2.2.2.1))))).trans hr.symm, rfl, RLe.i (RL_r H (nR_mt h1)) (by omega)⟩
    · exact absurd ⟨c, hc, ha⟩ hn
  · rintro i Ex M' hi ⟨-, rfl, hn⟩ R1 h1 r R' (⟨c2, hc2, ha2, -, -⟩ | ⟨-, rfl, rfl⟩)
    · exact absurd ⟨c2, hc2, ha2⟩ hn
    · obtain rfl : i = 0 := by
        rcases i with - | i
        · rfl
        · cases hi
      exact ⟨⟨_, rfl⟩, rfl, RLe.i (RL_r H (nR_mt h1)) (by omega)⟩
set_option maxHeartbeats 4000000 in
theorem pa_neighbour (l : Launch) (hst : l.stackTraces = false) (G : GT) {N : Mem} {L : Int} (H : RLe N (vw [20] N) L) (hL0 : 0 ≤ L) (hL : L + 300 < 2147483648) (a b : Int32) : PX l G N (L + 279) [oobN, argN] yX9_neighbour cX9_neighbour 3 (some .int) ({ frames := 7, cells := 8, slots := 48, locals := 104 } : Room) yX10_neighbour cX10_neighbour 3 (some .int) ({ frames := 2, cells := 0, slots := 0, locals := 52 } : Room) [iv a, iv b] := by
  obtain ⟨x, q, BP, be, nm, A0, B0, n, bs, u, o, h, k, H⟩ := H
  have H0 := H
  obtain ⟨⟨hq, hpn, hsn, hP⟩, ⟨hx, hv, hbe⟩, ⟨⟨hz, hpl, hwt⟩, hE⟩, ⟨hT, hn6, hby, hB, hn10, h11, h12⟩, ⟨ho1, hh1, ho8, hh8, hHR, hR4⟩, hws, ⟨hsv, hw5, hsave⟩, ⟨hk16, hk, hk2, hout⟩⟩ := H0
  have h1R : ∀ R1 : Mem, R1 0 = N 20 → RLw x N R1 L q BP be nm A0 B0 n bs u o h k := fun R1 e => RL_r H (nR_i e)
  refine ⟨_, _, fun R1 => _, (sp_X9_neighbour l hst G BP be nm x q a b N hpn hq hP hx hbe), fun R1 h1 => sp_X10_neighbour l G A0 x (N 3) a b R1 (h1R R1 h1).2.2.1.2 hx, ?_, ?_, ?_, ?_⟩
  · rintro r M' ⟨-, c, -, -, e, -, -, hr⟩; exact ⟨_, hr⟩
  · rintro Ex M' ⟨-, ⟨rfl, -⟩ | ⟨rfl, -⟩⟩ <;> simp
  · rintro v M' ⟨rfl, c, hc, ha, e, he, hd, hr⟩ R1 h1 r R' (⟨c2, hc2, ha2, e2, he2, hd2, rfl, hr2⟩ | ⟨hn, -, -⟩ | ⟨⟨-, hn⟩, -, -⟩)
    · have e1 := ij_c hx hc hc2 ha ha2
      have e3 := ij_s (N := 4) (by decide) (Nat.le_of_lt he) (Nat.le_of_lt he2) hd hd2
      subst e1; subst e3
      exact ⟨hr2.trans hr.symm, rfl, RLe.i (RL_r H (nR_mt h1)) (by omega)⟩
    · exact absurd ⟨c, hc, ha⟩ hn
    · exact absurd (hd ▸ nI_4 he) hn
  · rintro i Ex M' hi ⟨rfl, hh⟩ R1 h1 r R' hr2
    rcases i with - | - | i
    · obtain rfl : oobN = Ex := Option.some.inj hi
      rcases hh with ⟨-, hn⟩ | ⟨h9, -⟩
      · rcases hr2 with ⟨c2, hc2, ha2, -⟩ | ⟨-, rfl, rfl⟩ | ⟨⟨ho, -⟩, -⟩
        · exact absurd ⟨c2, hc2, ha2⟩ hn
        · exact ⟨⟨_, rfl⟩, rfl, RLe.i (RL_r H (nR_mt h1)) (by omega)⟩
        · exact absurd ho hn
      · exact absurd h9 (by decide)
    · obtain rfl : argN = Ex := Option.some.inj hi
      rcases hh with ⟨h9, -⟩ | ⟨-, ho, hn⟩
      · exact absurd h9 (by decide)
      · rcases hr2 with ⟨c2, hc2, ha2, e2, he2, hd2, -⟩ | ⟨hn2, -, -⟩ | ⟨-, rfl, rfl⟩
        · exact absurd (hd2 ▸ nI_4 he2) hn
        · exact absurd ho hn2
        · exact ⟨⟨_, rfl⟩, rfl, RLe.i (RL_r H (nR_mt h1)) (by omega)⟩
    · cases hi
set_option maxHeartbeats 4000000 in
theorem pa_puddleOf (l : Launch) (hst : l.stackTraces = false) (G : GT) {N : Mem} {L : Int} (H : RLe N (vw [20] N) L) (hL0 : 0 ≤ L) (hL : L + 300 < 2147483648) (a : Int32) : PX l G N (L + 279) [oobN] yX9_puddleOf cX9_puddleOf 2 (some .int) ({ frames := 7, cells := 4, slots := 24, locals := 103 } : Room) yX10_puddleOf cX10_puddleOf 4 (some .int) ({ frames := 4, cells := 0, slots := 0, locals := 98 } : Room) [iv a] := by
  obtain ⟨x, q, BP, be, nm, A0, B0, n, bs, u, o, h, k, H⟩ := H
  have H0 := H
  obtain ⟨⟨hq, hpn, hsn, hP⟩, ⟨hx, hv, hbe⟩, ⟨⟨hz, hpl, hwt⟩, hE⟩, ⟨hT, hn6, hby, hB, hn10, h11, h12⟩, ⟨ho1, hh1, ho8, hh8, hHR, hR4⟩, hws, ⟨hsv, hw5, hsave⟩, ⟨hk16, hk, hk2, hout⟩⟩ := H0
  have h1R : ∀ R1 : Mem, R1 0 = N 20 → RLw x N R1 L q BP be nm A0 B0 n bs u o h k := fun R1 e => RL_r H (nR_i e)
  have hw0 : ∀ c, c < x.1.2.2 → 0 ≤ N 3 1 c := fun c hc => i_le.mpr (hz.1.2.2.2.2.1 c hc)
  refine ⟨_, _, fun R1 => _, (sp_X9_puddleOf l hst G BP be nm x q a N hpn hq hP hx hbe), fun R1 h1 => sp_X10_puddleOf l G A0 x (N 3) R1 (N 15 2) (N 15 3) (N 15 4) a (h1R R1 h1).2.2.1.2 hx hw0, ?_, ?_, ?_, ?_⟩
  · rintro r M' ⟨-, c, -, -, e⟩; exact ⟨_, e⟩
  · rintro Ex M' ⟨rfl, -⟩; exact List.mem_singleton.mpr rfl
  · rintro v M' ⟨rfl, c, hc, ha, hr⟩ R1 h1 r R' (⟨c2, hc2, ha2, ⟨L9, rfl⟩, hr2⟩ | ⟨hn, -, -⟩)
    · have e := ij_c hx hc hc2 ha ha2
      subst e
      exact ⟨hr2.trans hr.symm, rfl, RLe.i (RL_c (RL_r (h1R R1 h1) (nR_ar (by omega))) (nC_1 hq (by omega))) (by omega)⟩
    · exact absurd ⟨c, hc, ha⟩ hn
  · rintro i Ex M' hi ⟨-, rfl, hn⟩ R1 h1 r R' (⟨c2, hc2, ha2, -, -⟩ | ⟨-, rfl, rfl⟩)
    · exact absurd ⟨c2, hc2, ha2⟩ hn
    · obtain rfl : i = 0 := by
        rcases i with - | i
        · rfl
        · cases hi
      exact ⟨⟨_, rfl⟩, rfl, RLe.i (RL_r H (nR_mt h1)) (by omega)⟩
set_option maxHeartbeats 4000000 in
theorem pa_puddleSize (l : Launch) (hst : l.stackTraces = false) (G : GT) {N : Mem} {L : Int} (H : RLe N (vw [20] N) L) (hL0 : 0 ≤ L) (hL : L + 300 < 2147483648) (a : Int32) : PX l G N (L + 279) [oobN] yX9_puddleSize cX9_puddleSize 2 (some .int) ({ frames := 7, cells := 8, slots := 48, locals := 115 } : Room) yX10_puddleSize cX10_puddleSize 2 (some .int) ({ frames := 6, cells := 0, slots := 0, locals := 141 } : Room) [iv a] := by
  obtain ⟨x, q, BP, be, nm, A0, B0, n, bs, u, o, h, k, H⟩ := H
  have H0 := H
  obtain ⟨⟨hq, hpn, hsn, hP⟩, ⟨hx, hv, hbe⟩, ⟨⟨hz, hpl, hwt⟩, hE⟩, ⟨hT, hn6, hby, hB, hn10, h11, h12⟩, ⟨ho1, hh1, ho8, hh8, hHR, hR4⟩, hws, ⟨hsv, hw5, hsave⟩, ⟨hk16, hk, hk2, hout⟩⟩ := H0
  have h1R : ∀ R1 : Mem, R1 0 = N 20 → RLw x N R1 L q BP be nm A0 B0 n bs u o h k := fun R1 e => RL_r H (nR_i e)
  have hw0 : ∀ c, c < x.1.2.2 → 0 ≤ N 3 1 c := fun c hc => i_le.mpr (hz.1.2.2.2.2.1 c hc)
  refine ⟨_, _, fun R1 => _, (sp_X9_puddleSize l hst G BP be nm x q a N hpn hq hP hx hbe), fun R1 h1 => sp_X10_puddleSize l G A0 x (N 3) R1 (N 15 2) (N 15 3) (N 15 4) a (h1R R1 h1).2.2.1.2 hx hw0, ?_, ?_, ?_, ?_⟩
  · rintro r M' ⟨-, c, -, -, e⟩; exact ⟨_, e⟩
  · rintro Ex M' ⟨rfl, -⟩; exact List.mem_singleton.mpr rfl
  · rintro v M' ⟨rfl, c, hc, ha, hr⟩ R1 h1 r R' (⟨c2, hc2, ha2, ⟨L9, rfl⟩, hr2⟩ | ⟨hn, -, -⟩)
    · have e := ij_s (N := 64) (by decide) (Nat.le_trans (Nat.le_of_lt hc) (Nat.le_trans puT_le (PIv_z hx).1)) (Nat.le_trans (Nat.le_of_lt hc2) (Nat.le_trans (puT_le (M := N)) (PIv_z hx).1)) ha ha2
      subst e
      exact ⟨hr2.trans hr.symm, rfl, RLe.i (RL_c (RL_r (h1R R1 h1) (nR_ra (by omega))) (nC_1 hq (by omega))) (by omega)⟩
    · exact absurd ⟨c, hc, ha⟩ hn
  · rintro i Ex M' hi ⟨-, rfl, hn⟩ R1 h1 r R' (⟨c2, hc2, ha2, -, -⟩ | ⟨-, ⟨L9, rfl⟩, rfl⟩)
    · exact absurd ⟨c2, hc2, ha2⟩ hn
    · obtain rfl : i = 0 := by
        rcases i with - | i
        · rfl
        · cases hi
      exact ⟨⟨_, rfl⟩, rfl, RLe.i (RL_c (RL_r (h1R R1 h1) (nR_ra (by omega))) (nC_1 hq (by omega))) (by omega)⟩
set_option maxHeartbeats 4000000 in
theorem pa_puddleWater (l : Launch) (hst : l.stackTraces = false) (G : GT) {N : Mem} {L : Int} (H : RLe N (vw [20] N) L) (hL0 : 0 ≤ L) (hL : L + 300 < 2147483648) (a : Int32) : PX l G N (L + 279) [oobN] yX9_puddleWater cX9_puddleWater 2 (some .int) ({ frames := 7, cells := 8, slots := 48, locals := 115 } : Room) yX10_puddleWater cX10_puddleWater 2 (some .int) ({ frames := 6, cells := 0, slots := 0, locals := 141 } : Room) [iv a] := by
  obtain ⟨x, q, BP, be, nm, A0, B0, n, bs, u, o, h, k, H⟩ := H
  have H0 := H
  obtain ⟨⟨hq, hpn, hsn, hP⟩, ⟨hx, hv, hbe⟩, ⟨⟨hz, hpl, hwt⟩, hE⟩, ⟨hT, hn6, hby, hB, hn10, h11, h12⟩, ⟨ho1, hh1, ho8, hh8, hHR, hR4⟩, hws, ⟨hsv, hw5, hsave⟩, ⟨hk16, hk, hk2, hout⟩⟩ := H0
  have h1R : ∀ R1 : Mem, R1 0 = N 20 → RLw x N R1 L q BP be nm A0 B0 n bs u o h k := fun R1 e => RL_r H (nR_i e)
  have hw0 : ∀ c, c < x.1.2.2 → 0 ≤ N 3 1 c := fun c hc => i_le.mpr (hz.1.2.2.2.2.1 c hc)
  refine ⟨_, _, fun R1 => _, (sp_X9_puddleWater l hst G BP be nm x q a N hpn hq hP hx hbe), fun R1 h1 => sp_X10_puddleWater l G A0 x (N 3) R1 (N 15 2) (N 15 3) (N 15 4) a (h1R R1 h1).2.2.1.2 hx hw0, ?_, ?_, ?_, ?_⟩
  · rintro r M' ⟨-, c, -, -, e⟩; exact ⟨_, e⟩
  · rintro Ex M' ⟨rfl, -⟩; exact List.mem_singleton.mpr rfl
  · rintro v M' ⟨rfl, c, hc, ha, hr⟩ R1 h1 r R' (⟨c2, hc2, ha2, ⟨L9, rfl⟩, hr2⟩ | ⟨hn, -, -⟩)
    · have e := ij_s (N := 64) (by decide) (Nat.le_trans (Nat.le_of_lt hc) (Nat.le_trans puT_le (PIv_z hx).1)) (Nat.le_trans (Nat.le_of_lt hc2) (Nat.le_trans (puT_le (M := N)) (PIv_z hx).1)) ha ha2
      subst e
      exact ⟨hr2.trans hr.symm, rfl, RLe.i (RL_c (RL_r (h1R R1 h1) (nR_ra (by omega))) (nC_1 hq (by omega))) (by omega)⟩
    · exact absurd ⟨c, hc, ha⟩ hn
  · rintro i Ex M' hi ⟨-, rfl, hn⟩ R1 h1 r R' (⟨c2, hc2, ha2, -, -⟩ | ⟨-, ⟨L9, rfl⟩, rfl⟩)
    · exact absurd ⟨c2, hc2, ha2⟩ hn
    · obtain rfl : i = 0 := by
        rcases i with - | i
        · rfl
        · cases hi
      exact ⟨⟨_, rfl⟩, rfl, RLe.i (RL_c (RL_r (h1R R1 h1) (nR_ra (by omega))) (nC_1 hq (by omega))) (by omega)⟩
set_option maxHeartbeats 4000000 in
theorem pa_dryWay (l : Launch) (hst : l.stackTraces = false) (G : GT) {N : Mem} {L : Int} (H : RLe N (vw [20] N) L) (hL0 : 0 ≤ L) (hL : L + 300 < 2147483648) (a b : Int32) : PX l G N (L + 279) [oobN] yX9_dryWay cX9_dryWay 3 (some .int) ({ frames := 7, cells := 12, slots := 72, locals := 103 } : Room) yX10_dryWay cX10_dryWay 6 (some .int) ({ frames := 3, cells := 0, slots := 0, locals := 78 } : Room) [iv a, iv b] := by
  obtain ⟨x, q, BP, be, nm, A0, B0, n, bs, u, o, h, k, H⟩ := H
  have H0 := H
  obtain ⟨⟨hq, hpn, hsn, hP⟩, ⟨hx, hv, hbe⟩, ⟨⟨hz, hpl, hwt⟩, hE⟩, ⟨hT, hn6, hby, hB, hn10, h11, h12⟩, ⟨ho1, hh1, ho8, hh8, hHR, hR4⟩, hws, ⟨hsv, hw5, hsave⟩, ⟨hk16, hk, hk2, hout⟩⟩ := H0
  have h1R : ∀ R1 : Mem, R1 0 = N 20 → RLw x N R1 L q BP be nm A0 B0 n bs u o h k := fun R1 e => RL_r H (nR_i e)
  refine ⟨_, _, fun R1 => _, (sp_X9_dryWay l hst G BP be nm x q a b N hpn hq hP hx hbe hpl), fun R1 h1 => sp_X10_dryWay l G A0 x (N 3) R1 (N 16 2) a b (h1R R1 h1).2.2.1.2 hx hpl, ?_, ?_, ?_, ?_⟩
  · rintro r M' ⟨b9, -, -, c, -, -, f, -, -, -, e⟩; exact ⟨_, e⟩
  · rintro Ex M' ⟨rfl, -⟩; exact List.mem_singleton.mpr rfl
  · rintro v M' ⟨b9, hb9, ha, c, hc, hd, f, hf, h5, rfl, hr⟩ R1 h1 r R' (⟨b2, hb2, ha2, c2, hc2, hd2, f2, hf2, h52, ⟨L9, rfl⟩, hr2⟩ | ⟨hn, -, -⟩)
    · have e1 := ij_b hx hb9 hb2 ha ha2
      have e2 := ij_c hx hc hc2 hd hd2
      subst e1; subst e2
      have e3 := ij_c hx hf hf2 h5 h52
      subst e3
      exact ⟨hr2.trans hr.symm, rfl, RLe.i (RL_c (RL_r (h1R R1 h1) (nR_ar (by omega))) (nC_1 hq (by omega))) (by omega)⟩
    · exact absurd ⟨⟨b9, hb9, ha⟩, c, hc, hd⟩ hn
  · rintro i Ex M' hi ⟨-, rfl, hn⟩ R1 h1 r R' (⟨b2, hb2, ha2, c2, hc2, hd2, -⟩ | ⟨-, rfl, rfl⟩)
    · exact absurd ⟨⟨b2, hb2, ha2⟩, c2, hc2, hd2⟩ hn
    · obtain rfl : i = 0 := by
        rcases i with - | i
        · rfl
        · cases hi
      exact ⟨⟨_, rfl⟩, rfl, RLe.i (RL_r H (nR_mt h1)) (by omega)⟩
set_option maxHeartbeats 4000000 in
theorem pa_waterAfter (l : Launch) (hst : l.stackTraces = false) (G : GT) {N : Mem} {L : Int} (H : RLe N (vw [20] N) L) (hL0 : 0 ≤ L) (hL : L + 300 < 2147483648) (a b : Int32) : PX l G N (L + 279) [oobN, argN] yX9_waterAfter cX9_waterAfter 3 (some .int) ({ frames := 7, cells := 8, slots := 48, locals := 118 } : Room) yX10_waterAfter cX10_waterAfter 5 (some .int) ({ frames := 8, cells := 0, slots := 0, locals := 177 } : Room) [iv a, iv b] := by
  obtain ⟨x, q, BP, be, nm, A0, B0, n, bs, u, o, h, k, H⟩ := H
  have H0 := H
  obtain ⟨⟨hq, hpn, hsn, hP⟩, ⟨hx, hv, hbe⟩, ⟨⟨hz, hpl, hwt⟩, hE⟩, ⟨hT, hn6, hby, hB, hn10, h11, h12⟩, ⟨ho1, hh1, ho8, hh8, hHR, hR4⟩, hws, ⟨hsv, hw5, hsave⟩, ⟨hk16, hk, hk2, hout⟩⟩ := H0
  have h1R : ∀ R1 : Mem, R1 0 = N 20 → RLw x N R1 L q BP be nm A0 B0 n bs u o h k := fun R1 e => RL_r H (nR_i e)
  refine ⟨_, _, fun R1 => _, (sp_X9_waterAfter l hst G BP be nm x q a b N hpn hq hP hx hbe hpl hwt), fun R1 h1 => sp_X10_waterAfter l G A0 x (N 3) (R1 0 2) a b (1856 * (N 3 0 7).toInt) R1 (h1R R1 h1).2.2.1.2 hx rfl hpl hv hz.1 (by have := hz.2.1.2; omega), ?_, ?_, ?_, ?_⟩
  · rintro r M' ⟨c, -, -, t, -, -, -, hr⟩; exact ⟨_, hr⟩
  · rintro Ex M' ⟨-, ⟨rfl, -⟩ | ⟨rfl, -⟩⟩ <;> simp
  · rintro v M' ⟨c, hc, ha, e, he, hd, rfl, hr⟩ R1 h1 r R' (⟨c2, hc2, ha2, e2, he2, hd2, rfl, hr2⟩ | ⟨hn, -, -⟩ | ⟨⟨-, hn⟩, -, -⟩)
    · have e1 := ij_c hx hc hc2 ha ha2
      have e3 := ij_s (N := 100) (by decide) he he2 hd hd2
      subst e1; subst e3
      exact ⟨hr2.trans hr.symm, rfl, RLe.i (RL_c (RL_r (h1R R1 h1) (nR_ar (by omega))) (nC_1 hq (by omega))) (by omega)⟩
    · exact absurd ⟨c, hc, ha⟩ hn
    · exact absurd (hd ▸ nI_b (by decide) he) hn
  · rintro i Ex M' hi ⟨rfl, hh⟩ R1 h1 r R' hr2
    rcases i with - | - | i
    · obtain rfl : oobN = Ex := Option.some.inj hi
      rcases hh with ⟨-, hn⟩ | ⟨h9, -⟩
      · rcases hr2 with ⟨c2, hc2, ha2, -⟩ | ⟨-, rfl, rfl⟩ | ⟨⟨ho, -⟩, -⟩
        · exact absurd ⟨c2, hc2, ha2⟩ hn
        · exact ⟨⟨_, rfl⟩, rfl, RLe.i (RL_r H (nR_mt h1)) (by omega)⟩
        · exact absurd ho hn
      · exact absurd h9 (by decide)
    · obtain rfl : argN = Ex := Option.some.inj hi
      rcases hh with ⟨h9, -⟩ | ⟨-, ho, hn⟩
      · exact absurd h9 (by decide)
      · rcases hr2 with ⟨c2, hc2, ha2, e2, he2, hd2, -⟩ | ⟨hn2, -, -⟩ | ⟨-, rfl, rfl⟩
        · exact absurd (hd2 ▸ nI_b (by decide) he2) hn
        · exact absurd ho hn2
        · exact ⟨⟨_, rfl⟩, rfl, RLe.i (RL_r H (nR_mt h1)) (by omega)⟩
    · cases hi
set_option maxHeartbeats 4000000 in
theorem pa_minutesUntilDry (l : Launch) (hst : l.stackTraces = false) (G : GT) {N : Mem} {L : Int} (H : RLe N (vw [20] N) L) (hL0 : 0 ≤ L) (hL : L + 300 < 2147483648) (a : Int32) : PX l G N (L + 279) [oobN] yX9_minutesUntilDry cX9_minutesUntilDry 3 (some .int) ({ frames := 7, cells := 4, slots := 24, locals := 118 } : Room) yX10_minutesUntilDry cX10_minutesUntilDry 5 (some .int) ({ frames := 7, cells := 0, slots := 0, locals := 154 } : Room) [iv a] := by
  obtain ⟨x, q, BP, be, nm, A0, B0, n, bs, u, o, h, k, H⟩ := H
  have H0 := H
  obtain ⟨⟨hq, hpn, hsn, hP⟩, ⟨hx, hv, hbe⟩, ⟨⟨hz, hpl, hwt⟩, hE⟩, ⟨hT, hn6, hby, hB, hn10, h11, h12⟩, ⟨ho1, hh1, ho8, hh8, hHR, hR4⟩, hws, ⟨hsv, hw5, hsave⟩, ⟨hk16, hk, hk2, hout⟩⟩ := H0
  have h1R : ∀ R1 : Mem, R1 0 = N 20 → RLw x N R1 L q BP be nm A0 B0 n bs u o h k := fun R1 e => RL_r H (nR_i e)
  refine ⟨_, _, fun R1 => _, (sp_X9_minutesUntilDry l hst G BP be nm x q a N hpn hq hP hx hbe hpl hwt), fun R1 h1 => sp_X10_minutesUntilDry l G A0 x (N 3) (R1 0 2) a (1856 * (N 3 0 7).toInt) R1 (h1R R1 h1).2.2.1.2 hx rfl hpl hv hz.1 (by have := hz.2.1.2; omega), ?_, ?_, ?_, ?_⟩
  · rintro r M' ⟨-, c, -, -, hr⟩; exact ⟨_, hr⟩
  · rintro Ex M' ⟨rfl, -⟩; exact List.mem_singleton.mpr rfl
  · rintro v M' ⟨⟨Z, rfl⟩, c, hc, ha, hr⟩ R1 h1 r R' (⟨c2, hc2, ha2, rfl, hr2⟩ | ⟨hn, -, -⟩)
    · have e1 := ij_c hx hc hc2 ha ha2
      subst e1
      exact ⟨hr2.trans hr.symm, rfl, RLe.i (RL_c (RL_r (h1R R1 h1) (nR_ar (by omega))) (nC_1 hq (by omega))) (by omega)⟩
    · exact absurd ⟨c, hc, ha⟩ hn
  · rintro i Ex M' hi ⟨-, rfl, hn⟩ R1 h1 r R' (⟨c2, hc2, ha2, -, -⟩ | ⟨-, rfl, rfl⟩)
    · exact absurd ⟨c2, hc2, ha2⟩ hn
    · obtain rfl : i = 0 := by
        rcases i with - | i
        · rfl
        · cases hi
      exact ⟨⟨_, rfl⟩, rfl, RLe.i (RL_r H (nR_mt h1)) (by omega)⟩
set_option maxHeartbeats 4000000 in
theorem pa_drainedAfter (l : Launch) (hst : l.stackTraces = false) (G : GT) {N : Mem} {L : Int} (H : RLe N (vw [20] N) L) (hL0 : 0 ≤ L) (hL : L + 300 < 2147483648) (a : Int32) : PX l G N (L + 279) [argN] yX9_drainedAfter cX9_drainedAfter 2 (some .int) ({ frames := 7, cells := 4, slots := 24, locals := 118 } : Room) yX10_drainedAfter cX10_drainedAfter 4 (some .int) ({ frames := 8, cells := 0, slots := 0, locals := 177 } : Room) [iv a] := by
  obtain ⟨x, q, BP, be, nm, A0, B0, n, bs, u, o, h, k, H⟩ := H
  have H0 := H
  obtain ⟨⟨hq, hpn, hsn, hP⟩, ⟨hx, hv, hbe⟩, ⟨⟨hz, hpl, hwt⟩, hE⟩, ⟨hT, hn6, hby, hB, hn10, h11, h12⟩, ⟨ho1, hh1, ho8, hh8, hHR, hR4⟩, hws, ⟨hsv, hw5, hsave⟩, ⟨hk16, hk, hk2, hout⟩⟩ := H0
  have h1R : ∀ R1 : Mem, R1 0 = N 20 → RLw x N R1 L q BP be nm A0 B0 n bs u o h k := fun R1 e => RL_r H (nR_i e)
  refine ⟨_, _, fun R1 => _, (sp_X9_drainedAfter l hst G BP be nm x q a N hpn hq hP hx hbe hpl hwt), fun R1 h1 => sp_X10_drainedAfter l G A0 x (N 3) (R1 0 2) a (1856 * (N 3 0 7).toInt) R1 (h1R R1 h1).2.2.1.2 hx rfl hpl hv hz.1 (by have := hz.2.1.2; omega), ?_, ?_, ?_, ?_⟩
  · rintro r M' ⟨t, -, -, -, hr⟩; exact ⟨_, hr⟩
  · rintro Ex M' ⟨-, rfl, -⟩; exact List.mem_singleton.mpr rfl
  · rintro v M' ⟨e, he, hd, rfl, hr⟩ R1 h1 r R' (⟨e2, he2, hd2, rfl, hr2⟩ | ⟨hn, -, -⟩)
    · have e3 := ij_s (N := 100) (by decide) he he2 hd hd2
      subst e3
      exact ⟨hr2.trans hr.symm, rfl, RLe.i (RL_c (RL_r (h1R R1 h1) (nR_ar (by omega))) (nC_1 hq (by omega))) (by omega)⟩
    · exact absurd (hd ▸ nI_b (by decide) he) hn
  · rintro i Ex M' hi ⟨rfl, -, hn⟩ R1 h1 r R' (⟨e2, he2, hd2, -, -⟩ | ⟨-, rfl, rfl⟩)
    · exact absurd (hd2 ▸ nI_b (by decide) he2) hn
    · obtain rfl : i = 0 := by
        rcases i with - | i
        · rfl
        · cases hi
      exact ⟨⟨_, rfl⟩, rfl, RLe.i (RL_r H (nR_mt h1)) (by omega)⟩
set_option maxHeartbeats 4000000 in
theorem pa_setRain (l : Launch) (hst : l.stackTraces = false) (G : GT) {N : Mem} {L : Int} (H : RLe N (vw [20] N) L) (hL0 : 0 ≤ L) (hL : L + 300 < 2147483648) (a : Int32) : PX l G N (L + 279) [argN] yX9_setRain cX9_setRain 3 (some .int) ({ frames := 7, cells := 4, slots := 24, locals := 104 } : Room) yX10_setRain cX10_setRain 2 (some .int) ({ frames := 1, cells := 0, slots := 0, locals := 25 } : Room) [iv a] := by
  obtain ⟨x, q, BP, be, nm, A0, B0, n, bs, u, o, h, k, H⟩ := H
  have H0 := H
  obtain ⟨⟨hq, hpn, hsn, hP⟩, ⟨hx, hv, hbe⟩, ⟨⟨hz, hpl, hwt⟩, hE⟩, ⟨hT, hn6, hby, hB, hn10, h11, h12⟩, ⟨ho1, hh1, ho8, hh8, hHR, hR4⟩, hws, ⟨hsv, hw5, hsave⟩, ⟨hk16, hk, hk2, hout⟩⟩ := H0
  have h1R : ∀ R1 : Mem, R1 0 = N 20 → RLw x N R1 L q BP be nm A0 B0 n bs u o h k := fun R1 e => RL_r H (nR_i e)
  refine ⟨_, _, fun R1 => _, (sp_X9_setRain l hst G BP be nm x q o h a N hpn hq hP hx ho1 hh1 ho8 hh8 hwt), fun R1 h1 => sp_X10_setRain l G A0 x (N 3) (R1 0 4) h a R1 (h1R R1 h1).2.2.1.2 hx rfl (h1R R1 h1).2.2.2.2.1.2.2.2.2.2 hh8, ?_, ?_, ?_, ?_⟩
  · rintro r M' ⟨-, -, hr⟩; exact ⟨_, hr⟩
  · rintro Ex M' ⟨-, rfl, -⟩; exact List.mem_singleton.mpr rfl
  · rintro v M' ⟨h9, rfl, hr⟩ R1 h1 r R' (⟨-, rfl, hr2⟩ | ⟨hn, -⟩)
    · exact ⟨hr2.trans hr.symm, rfl, RLe.i (RL_chg (h1R R1 h1) (L2 := L) (by omega) (gd_ra ⟨hz, hpl, hwt⟩ h9.1 h9.2)) (by omega)⟩
    · exact absurd h9 hn
  · rintro i Ex M' hi ⟨rfl, -, hn⟩ R1 h1 r R' (⟨h9, -⟩ | ⟨-, rfl, rfl⟩)
    · exact absurd h9 hn
    · obtain rfl : i = 0 := by
        rcases i with - | i
        · rfl
        · cases hi
      exact ⟨⟨_, rfl⟩, rfl, RLe.i (RL_r H (nR_mt h1)) (by omega)⟩
set_option maxHeartbeats 4000000 in
theorem pa_burst (l : Launch) (hst : l.stackTraces = false) (G : GT) {N : Mem} {L : Int} (H : RLe N (vw [20] N) L) (hL0 : 0 ≤ L) (hL : L + 300 < 2147483648) (a b d : Int32) : PX l G N (L + 279) [oobN, argN, steN] yX9_burst cX9_burst 4 (some .int) ({ frames := 7, cells := 16, slots := 96, locals := 104 } : Room) yX10_burst cX10_burst 6 (some .int) ({ frames := 4, cells := 0, slots := 0, locals := 87 } : Room) [iv a, iv b, iv d] := by
  obtain ⟨x, q, BP, be, nm, A0, B0, n, bs, u, o, h, k, H⟩ := H
  have H0 := H
  obtain ⟨⟨hq, hpn, hsn, hP⟩, ⟨hx, hv, hbe⟩, ⟨⟨hz, hpl, hwt⟩, hE⟩, ⟨hT, hn6, hby, hB, hn10, h11, h12⟩, ⟨ho1, hh1, ho8, hh8, hHR, hR4⟩, hws, ⟨hsv, hw5, hsave⟩, ⟨hk16, hk, hk2, hout⟩⟩ := H0
  have h1R : ∀ R1 : Mem, R1 0 = N 20 → RLw x N R1 L q BP be nm A0 B0 n bs u o h k := fun R1 e => RL_r H (nR_i e)
  refine ⟨_, _, fun R1 => _, (sp_X9_burst l hst G BP be nm x q o h a b d N hpn hq hP hx ho1 hh1 ho8 hh8 hwt), fun R1 h1 => sp_X10_burst l G A0 x (N 3) (R1 0 4) h a b d R1 (h1R R1 h1).2.2.1.2 hx rfl (h1R R1 h1).2.2.2.2.1.2.2.2.2.2 hh8, ?_, ?_, ?_, ?_⟩
  · rintro r M' ⟨c, -, -, -, -, -, -, hr⟩; exact ⟨_, hr⟩
  · rintro Ex M' ⟨-, ⟨rfl, -⟩ | ⟨rfl, -⟩ | ⟨rfl, -⟩⟩ <;> simp
  · rintro v M' ⟨c, hc, ha, hd, hf, ho, rfl, hr⟩ R1 h1 r R' (⟨c2, hc2, ha2, -, -, ho2, rfl, hr2⟩ | ⟨hn, -⟩ | ⟨⟨-, hn⟩, -⟩ | ⟨⟨c2, hc2, ha2, -, -, ho2⟩, -⟩)
    · have e1 := ij_c hx hc hc2 ha ha2
      subst e1
      exact ⟨hr2.trans hr.symm, rfl, RLe.i (RL_chg (h1R R1 h1) (L2 := L) (by omega) (gd_op ⟨hz, hpl, hwt⟩ hd.1 hd.2 hf.1 hf.2)) (by omega)⟩
    · exact absurd ⟨c, hc, ha⟩ hn
    · exact absurd ⟨hd, hf⟩ hn
    · have e1 := ij_c hx hc hc2 ha ha2
      subst e1
      exact absurd ((op_z (hz.1.2.2.1 _ hc).1).mp ho) ho2
  · rintro i Ex M' hi ⟨rfl, hh⟩ R1 h1 r R' hr2
    rcases i with - | - | - | i
    · obtain rfl : oobN = Ex := Option.some.inj hi
      rcases hh with ⟨-, hn⟩ | ⟨h9, -⟩ | ⟨h9, -⟩
      · rcases hr2 with ⟨c2, hc2, ha2, -⟩ | ⟨-, rfl, rfl⟩ | ⟨⟨ho, -⟩, -⟩ | ⟨⟨c2, hc2, ha2, -⟩, -⟩
        · exact absurd ⟨c2, hc2, ha2⟩ hn
        · exact ⟨⟨_, rfl⟩, rfl, RLe.i (RL_r H (nR_mt h1)) (by omega)⟩
        · exact absurd ho hn
        · exact absurd ⟨c2, hc2, ha2⟩ hn
      · exact absurd h9 (by decide)
      · exact absurd h9 (by decide)
    · obtain rfl : argN = Ex := Option.some.inj hi
      rcases hh with ⟨h9, -⟩ | ⟨-, ho, hn⟩ | ⟨h9, -⟩
      · exact absurd h9 (by decide)
      · rcases hr2 with ⟨c2, hc2, ha2, hd, hf, -⟩ | ⟨hn2, -, -⟩ | ⟨-, rfl, rfl⟩ | ⟨⟨c2, hc2, ha2, hd, hf, -⟩, -⟩
        · exact absurd ⟨hd, hf⟩ hn
        · exact absurd ho hn2
        · exact ⟨⟨_, rfl⟩, rfl, RLe.i (RL_r H (nR_mt h1)) (by omega)⟩
        · exact absurd ⟨hd, hf⟩ hn
      · exact absurd h9 (by decide)
    · obtain rfl : steN = Ex := Option.some.inj hi
      rcases hh with ⟨h9, -⟩ | ⟨h9, -⟩ | ⟨-, c, hc, ha, hd, hf, hn⟩
      · exact absurd h9 (by decide)
      · exact absurd h9 (by decide)
      · rcases hr2 with ⟨c2, hc2, ha2, -, -, ho2, -⟩ | ⟨hn2, -, -⟩ | ⟨⟨-, hn2⟩, -⟩ | ⟨-, rfl, rfl⟩
        · have e1 := ij_c hx hc hc2 ha ha2
          subst e1
          exact absurd ((op_z (hz.1.2.2.1 _ hc).1).mpr ho2) hn
        · exact absurd ⟨c, hc, ha⟩ hn2
        · exact absurd ⟨hd, hf⟩ hn2
        · exact ⟨⟨_, rfl⟩, rfl, RLe.i (RL_r H (nR_mt h1)) (by omega)⟩
    · cases hi
set_option maxHeartbeats 4000000 in
theorem pa_shut (l : Launch) (hst : l.stackTraces = false) (G : GT) {N : Mem} {L : Int} (H : RLe N (vw [20] N) L) (hL0 : 0 ≤ L) (hL : L + 300 < 2147483648) (a : Int32) : PX l G N (L + 279) [oobN, steN] yX9_shut cX9_shut 2 (some .int) ({ frames := 7, cells := 6, slots := 36, locals := 103 } : Room) yX10_shut cX10_shut 3 (some .int) ({ frames := 3, cells := 0, slots := 0, locals := 64 } : Room) [iv a] := by
  obtain ⟨x, q, BP, be, nm, A0, B0, n, bs, u, o, h, k, H⟩ := H
  have H0 := H
  obtain ⟨⟨hq, hpn, hsn, hP⟩, ⟨hx, hv, hbe⟩, ⟨⟨hz, hpl, hwt⟩, hE⟩, ⟨hT, hn6, hby, hB, hn10, h11, h12⟩, ⟨ho1, hh1, ho8, hh8, hHR, hR4⟩, hws, ⟨hsv, hw5, hsave⟩, ⟨hk16, hk, hk2, hout⟩⟩ := H0
  have h1R : ∀ R1 : Mem, R1 0 = N 20 → RLw x N R1 L q BP be nm A0 B0 n bs u o h k := fun R1 e => RL_r H (nR_i e)
  refine ⟨_, _, fun R1 => _, (sp_X9_shut l hst G BP be nm x q o h a N hpn hq hP hx ho1 hh1 ho8 hh8 hwt), fun R1 h1 => sp_X10_shut l G A0 x (N 3) (R1 0 4) h a R1 (h1R R1 h1).2.2.1.2 hx rfl (h1R R1 h1).2.2.2.2.1.2.2.2.2.2 hh8, ?_, ?_, ?_, ?_⟩
  · rintro r M' ⟨c, -, -, -, -, hr⟩; exact ⟨_, hr⟩
  · rintro Ex M' ⟨-, ⟨rfl, -⟩ | ⟨rfl, -⟩⟩ <;> simp
  · rintro v M' ⟨c, hc, ha, ho, rfl, hr⟩ R1 h1 r R' (⟨c2, hc2, ha2, -, rfl, hr2⟩ | ⟨hn, -⟩ | ⟨⟨c2, hc2, ha2, ho2⟩, -⟩)
    · have e1 := ij_c hx hc hc2 ha ha2
      subst e1
      exact ⟨hr2.trans hr.symm, rfl, RLe.i (RL_chg (h1R R1 h1) (L2 := L) (by omega) (gd_sh ⟨hz, hpl, hwt⟩)) (by omega)⟩
    · exact absurd ⟨c, hc, ha⟩ hn
    · have e1 := ij_c hx hc hc2 ha ha2
      subst e1
      exact absurd (opI_0.mpr (Int32.not_lt.mp ho2)) ho
  · rintro i Ex M' hi ⟨rfl, hh⟩ R1 h1 r R' hr2
    rcases i with - | - | i
    · obtain rfl : oobN = Ex := Option.some.inj hi
      rcases hh with ⟨-, hn⟩ | ⟨h9, -⟩
      · rcases hr2 with ⟨c2, hc2, ha2, -⟩ | ⟨-, rfl, rfl⟩ | ⟨⟨c2, hc2, ha2, -⟩, -⟩
        · exact absurd ⟨c2, hc2, ha2⟩ hn
        · exact ⟨⟨_, rfl⟩, rfl, RLe.i (RL_r H (nR_mt h1)) (by omega)⟩
        · exact absurd ⟨c2, hc2, ha2⟩ hn
      · exact absurd h9 (by decide)
    · obtain rfl : steN = Ex := Option.some.inj hi
      rcases hh with ⟨h9, -⟩ | ⟨-, c, hc, ha, hn⟩
      · exact absurd h9 (by decide)
      · rcases hr2 with ⟨c2, hc2, ha2, ho2, -⟩ | ⟨hn2, -, -⟩ | ⟨-, rfl, rfl⟩
        · have e1 := ij_c hx hc hc2 ha ha2
          subst e1
          exact absurd ho2 (Int32.not_lt.mpr (opI_0.mp hn))
        · exact absurd ⟨c, hc, ha⟩ hn2
        · exact ⟨⟨_, rfl⟩, rfl, RLe.i (RL_r H (nR_mt h1)) (by omega)⟩
    · cases hi
set_option maxHeartbeats 4000000 in
theorem pa_dropLeaves (l : Launch) (hst : l.stackTraces = false) (G : GT) {N : Mem} {L : Int} (H : RLe N (vw [20] N) L) (hL0 : 0 ≤ L) (hL : L + 300 < 2147483648) (a b : Int32) : PX l G N (L + 279) [oobN, argN] yX9_dropLeaves cX9_dropLeaves 3 (some .int) ({ frames := 7, cells := 8, slots := 48, locals := 104 } : Room) yX10_dropLeaves cX10_dropLeaves 3 (some .int) ({ frames := 3, cells := 0, slots := 0, locals := 65 } : Room) [iv a, iv b] := by
  obtain ⟨x, q, BP, be, nm, A0, B0, n, bs, u, o, h, k, H⟩ := H
  have H0 := H
  obtain ⟨⟨hq, hpn, hsn, hP⟩, ⟨hx, hv, hbe⟩, ⟨⟨hz, hpl, hwt⟩, hE⟩, ⟨hT, hn6, hby, hB, hn10, h11, h12⟩, ⟨ho1, hh1, ho8, hh8, hHR, hR4⟩, hws, ⟨hsv, hw5, hsave⟩, ⟨hk16, hk, hk2, hout⟩⟩ := H0
  have h1R : ∀ R1 : Mem, R1 0 = N 20 → RLw x N R1 L q BP be nm A0 B0 n bs u o h k := fun R1 e => RL_r H (nR_i e)
  refine ⟨_, _, fun R1 => _, (sp_X9_dropLeaves l hst G BP be nm x q o h a b N hpn hq hP hx ho1 hh1 ho8 hh8 hwt), fun R1 h1 => sp_X10_dropLeaves l G A0 x (N 3) (R1 0 4) h a b R1 (h1R R1 h1).2.2.1.2 hx rfl (h1R R1 h1).2.2.2.2.1.2.2.2.2.2 hh8, ?_, ?_, ?_, ?_⟩
  · rintro r M' ⟨c, -, -, -, -, hr⟩; exact ⟨_, hr⟩
  · rintro Ex M' ⟨-, ⟨rfl, -⟩ | ⟨rfl, -⟩⟩ <;> simp
  · rintro v M' ⟨c, hc, ha, hd, rfl, hr⟩ R1 h1 r R' (⟨c2, hc2, ha2, -, rfl, hr2⟩ | ⟨hn, -⟩ | ⟨⟨-, hn⟩, -⟩)
    · have e1 := ij_c hx hc hc2 ha ha2
      subst e1
      exact ⟨hr2.trans hr.symm, rfl, RLe.i (RL_chg (h1R R1 h1) (L2 := L + 9) (by omega) (gd_lv ⟨hz, hpl, hwt⟩ (by omega) hc hd.1 hd.2)) (by omega)⟩
    · exact absurd ⟨c, hc, ha⟩ hn
    · exact absurd hd hn
  · rintro i Ex M' hi ⟨rfl, hh⟩ R1 h1 r R' hr2
    rcases i with - | - | i
    · obtain rfl : oobN = Ex := Option.some.inj hi
      rcases hh with ⟨-, hn⟩ | ⟨h9, -⟩
      · rcases hr2 with ⟨c2, hc2, ha2, -⟩ | ⟨-, rfl, rfl⟩ | ⟨⟨ho, -⟩, -⟩
        · exact absurd ⟨c2, hc2, ha2⟩ hn
        · exact ⟨⟨_, rfl⟩, rfl, RLe.i (RL_r H (nR_mt h1)) (by omega)⟩
        · exact absurd ho hn
      · exact absurd h9 (by decide)
    · obtain rfl : argN = Ex := Option.some.inj hi
      rcases hh with ⟨h9, -⟩ | ⟨-, ho, hn⟩
      · exact absurd h9 (by decide)
      · rcases hr2 with ⟨c2, hc2, ha2, hd, -⟩ | ⟨hn2, -, -⟩ | ⟨-, rfl, rfl⟩
        · exact absurd hd hn
        · exact absurd ho hn2
        · exact ⟨⟨_, rfl⟩, rfl, RLe.i (RL_r H (nR_mt h1)) (by omega)⟩
    · cases hi
set_option maxHeartbeats 4000000 in
theorem pa_sweep (l : Launch) (hst : l.stackTraces = false) (G : GT) {N : Mem} {L : Int} (H : RLe N (vw [20] N) L) (hL0 : 0 ≤ L) (hL : L + 300 < 2147483648) (a : Int32) : PX l G N (L + 279) [oobN] yX9_sweep cX9_sweep 2 (some .int) ({ frames := 7, cells := 4, slots := 24, locals := 103 } : Room) yX10_sweep cX10_sweep 2 (some .int) ({ frames := 3, cells := 0, slots := 0, locals := 67 } : Room) [iv a] := by
  obtain ⟨x, q, BP, be, nm, A0, B0, n, bs, u, o, h, k, H⟩ := H
  have H0 := H
  obtain ⟨⟨hq, hpn, hsn, hP⟩, ⟨hx, hv, hbe⟩, ⟨⟨hz, hpl, hwt⟩, hE⟩, ⟨hT, hn6, hby, hB, hn10, h11, h12⟩, ⟨ho1, hh1, ho8, hh8, hHR, hR4⟩, hws, ⟨hsv, hw5, hsave⟩, ⟨hk16, hk, hk2, hout⟩⟩ := H0
  have h1R : ∀ R1 : Mem, R1 0 = N 20 → RLw x N R1 L q BP be nm A0 B0 n bs u o h k := fun R1 e => RL_r H (nR_i e)
  refine ⟨_, _, fun R1 => _, (sp_X9_sweep l hst G BP be nm x q o h a N hpn hq hP hx ho1 hh1 ho8 hh8 hwt), fun R1 h1 => sp_X10_sweep l G A0 x (N 3) (R1 0 4) h a R1 (h1R R1 h1).2.2.1.2 hx rfl (h1R R1 h1).2.2.2.2.1.2.2.2.2.2 hh8, ?_, ?_, ?_, ?_⟩
  · rintro r M' ⟨c, -, -, -, hr⟩; exact ⟨_, hr⟩
  · rintro Ex M' ⟨-, rfl, -⟩; exact List.mem_singleton.mpr rfl
  · rintro v M' ⟨c, hc, ha, rfl, hr⟩ R1 h1 r R' (⟨c2, hc2, ha2, rfl, hr2⟩ | ⟨hn, -⟩)
    · have e1 := ij_c hx hc hc2 ha ha2
      subst e1
      exact ⟨hr2.trans hr.symm, rfl, RLe.i (RL_chg (h1R R1 h1) (L2 := L) (by omega) (gd_sw ⟨hz, hpl, hwt⟩ hc)) (by omega)⟩
    · exact absurd ⟨c, hc, ha⟩ hn
  · rintro i Ex M' hi ⟨rfl, -, hn⟩ R1 h1 r R' (⟨c2, hc2, ha2, -⟩ | ⟨-, rfl, rfl⟩)
    · exact absurd ⟨c2, hc2, ha2⟩ hn
    · obtain rfl : i = 0 := by
        rcases i with - | i
        · rfl
        · cases hi
      exact ⟨⟨_, rfl⟩, rfl, RLe.i (RL_r H (nR_mt h1)) (by omega)⟩
set_option maxHeartbeats 4000000 in
theorem pa_walk (l : Launch) (hst : l.stackTraces = false) (G : GT) {N : Mem} {L : Int} (H : RLe N (vw [20] N) L) (hL0 : 0 ≤ L) (hL : L + 300 < 2147483648) (a b : Int32) : PX l G N (L + 279) [oobN, argN, steN] yX9_walk cX9_walk 3 (some .int) ({ frames := 7, cells := 14, slots := 84, locals := 104 } : Room) yX10_walk cX10_walk 5 (some .int) ({ frames := 4, cells := 0, slots := 0, locals := 87 } : Room) [iv a, iv b] := by
  obtain ⟨x, q, BP, be, nm, A0, B0, n, bs, u, o, h, k, H⟩ := H
  have H0 := H
  obtain ⟨⟨hq, hpn, hsn, hP⟩, ⟨hx, hv, hbe⟩, ⟨⟨hz, hpl, hwt⟩, hE⟩, ⟨hT, hn6, hby, hB, hn10, h11, h12⟩, ⟨ho1, hh1, ho8, hh8, hHR, hR4⟩, hws, ⟨hsv, hw5, hsave⟩, ⟨hk16, hk, hk2, hout⟩⟩ := H0
  have h1R : ∀ R1 : Mem, R1 0 = N 20 → RLw x N R1 L q BP be nm A0 B0 n bs u o h k := fun R1 e => RL_r H (nR_i e)
  refine ⟨_, _, fun R1 => _, (sp_X9_walk l hst G BP be nm x q o h a b N hpn hq hP hx ho1 hh1 ho8 hh8 hwt hbe hpl), fun R1 h1 => sp_X10_walk l G A0 x (N 3) (R1 0 4) h a b R1 (h1R R1 h1).2.2.1.2 hx rfl (h1R R1 h1).2.2.2.2.1.2.2.2.2.2 hh8 hpl, ?_, ?_, ?_, ?_⟩
  · rintro r M' ⟨b9, -, -, e, -, -, f, -, -, j, -, -, hr⟩; exact ⟨_, hr⟩
  · rintro Ex M' ⟨-, ⟨rfl, -⟩ | ⟨rfl, -⟩ | ⟨rfl, -⟩⟩ <;> simp
  · rintro v M' ⟨b9, hb9, ha, e, he, hd, f, hf, h5, j, hj, rfl, hr⟩ R1 h1 r R' (⟨b2, hb2, ha2, e2, he2, hd2, f2, hf2, h52, j2, hj2, rfl, hr2⟩ | ⟨hn, -⟩ | ⟨⟨-, hn⟩, -⟩ | ⟨⟨b2, hb2, ha2, e2, he2, hd2, f2, hf2, h52, hj2⟩, -⟩)
    · have e1 := ij_b hx hb9 hb2 ha ha2
      have e2 := ij_s (N := 4) (by decide) (Nat.le_of_lt he) (Nat.le_of_lt he2) hd hd2
      subst e1; subst e2
      have e3 := ij_c hx hf hf2 h5 h52
      subst e3
      obtain rfl : j = j2 := Option.some.inj (hj.symm.trans hj2)
      exact ⟨hr2.trans ((congrArg (fun z => some (iv z)) (if_pos rfl : upd (N 3 5) _ (nI j) _ = nI j)).symm.trans hr.symm), rfl, RLe.i (RL_chg (h1R R1 h1) (L2 := L) (by omega) (gd_wk ⟨hz, hpl, hwt⟩ (nbx_lt hx _ _ _ hj))) (by omega)⟩
    · exact absurd ⟨b9, hb9, ha⟩ hn
    · exact absurd (hd ▸ nI_4 he) hn
    · have e1 := ij_b hx hb9 hb2 ha ha2
      have e2 := ij_s (N := 4) (by decide) (Nat.le_of_lt he) (Nat.le_of_lt he2) hd hd2
      subst e1; subst e2
      have e3 := ij_c hx hf hf2 h5 h52
      subst e3
      exact absurd (hj.symm.trans hj2) (by simp)
  · rintro i Ex M' hi ⟨rfl, hh⟩ R1 h1 r R' hr2
    rcases i with - | - | - | i
    · obtain rfl : oobN = Ex := Option.some.inj hi
      rcases hh with ⟨-, hn⟩ | ⟨h9, -⟩ | ⟨h9, -⟩
      · rcases hr2 with ⟨c2, hc2, ha2, -⟩ | ⟨-, rfl, rfl⟩ | ⟨⟨ho, -⟩, -⟩ | ⟨⟨c2, hc2, ha2, -⟩, -⟩
        · exact absurd ⟨c2, hc2, ha2⟩ hn
        · exact ⟨⟨_, rfl⟩, rfl, RLe.i (RL_r H (nR_mt h1)) (by omega)⟩
        · exact absurd ho hn
        · exact absurd ⟨c2, hc2, ha2⟩ hn
      · exact absurd h9 (by decide)
      · exact absurd h9 (by decide)
    · obtain rfl : argN = Ex := Option.some.inj hi
      rcases hh with ⟨h9, -⟩ | ⟨-, ho, hn⟩ | ⟨h9, -⟩
      · exact absurd h9 (by decide)
      · rcases hr2 with ⟨c2, hc2, ha2, e2, he2, hd2, -⟩ | ⟨hn2, -, -⟩ | ⟨-, rfl, rfl⟩ | ⟨⟨c2, hc2, ha2, e2, he2, hd2, -⟩, -⟩
        · exact absurd (hd2 ▸ nI_4 he2) hn
        · exact absurd ho hn2
        · exact ⟨⟨_, rfl⟩, rfl, RLe.i (RL_r H (nR_mt h1)) (by omega)⟩
        · exact absurd (hd2 ▸ nI_4 he2) hn
      · exact absurd h9 (by decide)
    · obtain rfl : steN = Ex := Option.some.inj hi
      rcases hh with ⟨h9, -⟩ | ⟨h9, -⟩ | ⟨-, b9, hb9, ha, e, he, hd, f, hf, h5, hj⟩
      · exact absurd h9 (by decide)
      · exact absurd h9 (by decide)
      · rcases hr2 with ⟨b2, hb2, ha2, e2, he2, hd2, f2, hf2, h52, j2, hj2, -⟩ | ⟨hn2, -, -⟩ | ⟨⟨-, hn2⟩, -⟩ | ⟨-, rfl, rfl⟩
        · have e1 := ij_b hx hb9 hb2 ha ha2
          have e2 := ij_s (N := 4) (by decide) (Nat.le_of_lt he) (Nat.le_of_lt he2) hd hd2
          subst e1; subst e2
          have e3 := ij_c hx hf hf2 h5 h52
          subst e3
          exact absurd (hj2.symm.trans hj) (by simp)
        · exact absurd ⟨b9, hb9, ha⟩ hn2
        · exact absurd (hd ▸ nI_4 he) hn2
        · exact ⟨⟨_, rfl⟩, rfl, RLe.i (RL_r H (nR_mt h1)) (by omega)⟩
    · cases hi
set_option maxHeartbeats 4000000 in
theorem pa_splash (l : Launch) (hst : l.stackTraces = false) (G : GT) {N : Mem} {L : Int} (H : RLe N (vw [20] N) L) (hL0 : 0 ≤ L) (hL : L + 300 < 2147483648) (a : Int32) : PX l G N (L + 279) [oobN, steN] yX9_splash cX9_splash 2 (some .int) ({ frames := 7, cells := 10, slots := 60, locals := 103 } : Room) yX10_splash cX10_splash 3 (some .int) ({ frames := 4, cells := 0, slots := 0, locals := 84 } : Room) [iv a] := by
  obtain ⟨x, q, BP, be, nm, A0, B0, n, bs, u, o, h, k, H⟩ := H
  have H0 := H
  obtain ⟨⟨hq, hpn, hsn, hP⟩, ⟨hx, hv, hbe⟩, ⟨⟨hz, hpl, hwt⟩, hE⟩, ⟨hT, hn6, hby, hB, hn10, h11, h12⟩, ⟨ho1, hh1, ho8, hh8, hHR, hR4⟩, hws, ⟨hsv, hw5, hsave⟩, ⟨hk16, hk, hk2, hout⟩⟩ := H0
  have h1R : ∀ R1 : Mem, R1 0 = N 20 → RLw x N R1 L q BP be nm A0 B0 n bs u o h k := fun R1 e => RL_r H (nR_i e)
  refine ⟨_, _, fun R1 => _, (sp_X9_splash l hst G BP be nm x q o h a N hpn hq hP hx ho1 hh1 ho8 hh8 hwt hbe hpl), fun R1 h1 => sp_X10_splash l G A0 x (N 3) (R1 0 4) h a R1 (h1R R1 h1).2.2.1.2 hx rfl (h1R R1 h1).2.2.2.2.1.2.2.2.2.2 hh8 hpl, ?_, ?_, ?_, ?_⟩
  · rintro r M' ⟨b9, -, -, f, -, -, -, -, hr⟩; exact ⟨_, hr⟩
  · rintro Ex M' ⟨-, ⟨rfl, -⟩ | ⟨rfl, -⟩⟩ <;> simp
  · rintro v M' ⟨b9, hb9, ha, f, hf, h5, ho, rfl, hr⟩ R1 h1 r R' (⟨b2, hb2, ha2, f2, hf2, h52, -, rfl, hr2⟩ | ⟨hn, -⟩ | ⟨⟨b2, hb2, ha2, f2, hf2, h52, ho2⟩, -⟩)
    · have e1 := ij_b hx hb9 hb2 ha ha2
      subst e1
      have e3 := ij_c hx hf hf2 h5 h52
      subst e3
      exact ⟨hr2.trans hr.symm, rfl, RLe.i (RL_chg (h1R R1 h1) (L2 := L) (by omega) (gd_th hx ⟨hz, hpl, hwt⟩ hf)) (by omega)⟩
    · exact absurd ⟨b9, hb9, ha⟩ hn
    · have e1 := ij_b hx hb9 hb2 ha ha2
      subst e1
      have e3 := ij_c hx hf hf2 h5 h52
      subst e3
      exact absurd ((op_z (hz.1.2.2.2.2.1 _ hf)).mpr ho2) ho
  · rintro i Ex M' hi ⟨rfl, hh⟩ R1 h1 r R' hr2
    rcases i with - | - | i
    · obtain rfl : oobN = Ex := Option.some.inj hi
      rcases hh with ⟨-, hn⟩ | ⟨h9, -⟩
      · rcases hr2 with ⟨c2, hc2, ha2, -⟩ | ⟨-, rfl, rfl⟩ | ⟨⟨c2, hc2, ha2, -⟩, -⟩
        · exact absurd ⟨c2, hc2, ha2⟩ hn
        · exact ⟨⟨_, rfl⟩, rfl, RLe.i (RL_r H (nR_mt h1)) (by omega)⟩
        · exact absurd ⟨c2, hc2, ha2⟩ hn
      · exact absurd h9 (by decide)
    · obtain rfl : steN = Ex := Option.some.inj hi
      rcases hh with ⟨h9, -⟩ | ⟨-, b9, hb9, ha, f, hf, h5, hn⟩
      · exact absurd h9 (by decide)
      · rcases hr2 with ⟨b2, hb2, ha2, f2, hf2, h52, ho2, -⟩ | ⟨hn2, -, -⟩ | ⟨-, rfl, rfl⟩
        · have e1 := ij_b hx hb9 hb2 ha ha2
          subst e1
          have e3 := ij_c hx hf hf2 h5 h52
          subst e3
          exact absurd ((op_z (hz.1.2.2.2.2.1 _ hf)).mp hn) ho2
        · exact absurd ⟨b9, hb9, ha⟩ hn2
        · exact ⟨⟨_, rfl⟩, rfl, RLe.i (RL_r H (nR_mt h1)) (by omega)⟩
    · cases hi
set_option maxHeartbeats 4000000 in
theorem pa_passMinutes (l : Launch) (hst : l.stackTraces = false) (G : GT) {N : Mem} {L : Int} (H : RLe N (vw [20] N) L) (hL0 : 0 ≤ L) (hL : L + 300 < 2147483648) (a : Int32) : PX l G N (L + 279) [argN, steN] yX9_passMinutes cX9_passMinutes 3 (some .int) ({ frames := 7, cells := 6, slots := 36, locals := 118 } : Room) yX10_passMinutes cX10_passMinutes 3 (some .int) ({ frames := 8, cells := 0, slots := 0, locals := 177 } : Room) [iv a] := by
  obtain ⟨x, q, BP, be, nm, A0, B0, n, bs, u, o, h, k, H⟩ := H
  have H0 := H
  obtain ⟨⟨hq, hpn, hsn, hP⟩, ⟨hx, hv, hbe⟩, ⟨⟨hz, hpl, hwt⟩, hE⟩, ⟨hT, hn6, hby, hB, hn10, h11, h12⟩, ⟨ho1, hh1, ho8, hh8, hHR, hR4⟩, hws, ⟨hsv, hw5, hsave⟩, ⟨hk16, hk, hk2, hout⟩⟩ := H0
  have h1R : ∀ R1 : Mem, R1 0 = N 20 → RLw x N R1 L q BP be nm A0 B0 n bs u o h k := fun R1 e => RL_r H (nR_i e)
  refine ⟨_, _, fun R1 => _, (sp_X9_passMinutes l hst G BP be nm x q o h a N hpn hq hP hx ho1 hh1 ho8 hh8 hwt hbe hpl), fun R1 h1 => sp_X10_passMinutes l G A0 x (N 3) (R1 0 4) h a (1856 * (N 3 0 7).toInt) R1 (h1R R1 h1).2.2.1.2 hx rfl (h1R R1 h1).2.2.2.2.1.2.2.2.2.2 hh8 hpl hv hz.1 (by have := hz.2.1.2; omega), ?_, ?_, ?_, ?_⟩
  · rintro r M' ⟨t, -, -, -, -, -, hr⟩; exact ⟨_, hr⟩
  · rintro Ex M' ⟨-, ⟨rfl, -⟩ | ⟨rfl, -⟩⟩ <;> simp
  · rintro v M' ⟨t, ht, ha, hg1, hg, rfl, hr⟩ R1 h1 r R' (⟨t2, ht2, ha2, -, -, rfl, hr2⟩ | ⟨hn, -⟩ | ⟨⟨-, hn⟩, -⟩)
    · have e1 := ij_s (N := 60) (by decide) ht ht2 ha ha2
      subst e1
      exact ⟨hr2.trans hr.symm, rfl, RLe.i (RL_chg (h1R R1 h1) (L2 := L) (by omega) (gd_mn hx (by omega) ⟨hz, hpl, hwt⟩ ht (ps_b hz.2.1.1 hz.2.1.2 ht (ha ▸ hg)))) (by omega)⟩
    · exact absurd ⟨hg1, ha ▸ (nI_b (by decide) ht).2⟩ hn
    · exact absurd hn hg
  · rintro i Ex M' hi ⟨rfl, hh⟩ R1 h1 r R' hr2
    rcases i with - | - | i
    · obtain rfl : argN = Ex := Option.some.inj hi
      rcases hh with ⟨-, hn⟩ | ⟨h9, -⟩
      · rcases hr2 with ⟨t2, -, -, h9, -⟩ | ⟨-, rfl, rfl⟩ | ⟨⟨ho, -⟩, -⟩
        · exact absurd h9 hn
        · exact ⟨⟨_, rfl⟩, rfl, RLe.i (RL_r H (nR_mt h1)) (by omega)⟩
        · exact absurd ho hn
      · exact absurd h9 (by decide)
    · obtain rfl : steN = Ex := Option.some.inj hi
      rcases hh with ⟨h9, -⟩ | ⟨-, ho, hn⟩
      · exact absurd h9 (by decide)
      · rcases hr2 with ⟨t2, -, -, -, h9, -⟩ | ⟨hn2, -, -⟩ | ⟨-, rfl, rfl⟩
        · exact absurd hn h9
        · exact absurd ho hn2
        · exact ⟨⟨_, rfl⟩, rfl, RLe.i (RL_r H (nR_mt h1)) (by omega)⟩
    · cases hi
set_option maxHeartbeats 4000000 in
theorem pa_undo (l : Launch) (hst : l.stackTraces = false) (G : GT) {N : Mem} {L : Int} (H : RLe N (vw [20] N) L) (hL0 : 0 ≤ L) (hL : L + 300 < 2147483648) : PX l G N (L + 279) [nseN] yX9_undo cX9_undo 1 (some .int) ({ frames := 6, cells := 1, slots := 6, locals := 84 } : Room) yX10_undo cX10_undo 2 (some .int) ({ frames := 1, cells := 0, slots := 0, locals := 23 } : Room) [] := by
  obtain ⟨x, q, BP, be, nm, A0, B0, n, bs, u, o, h, k, H⟩ := H
  have H0 := H
  obtain ⟨⟨hq, hpn, hsn, hP⟩, ⟨hx, hv, hbe⟩, ⟨⟨hz, hpl, hwt⟩, hE⟩, ⟨hT, hn6, hby, hB, hn10, h11, h12⟩, ⟨ho1, hh1, ho8, hh8, hHR, hR4⟩, hws, ⟨hsv, hw5, hsave⟩, ⟨hk16, hk, hk2, hout⟩⟩ := H0
  have h1R : ∀ R1 : Mem, R1 0 = N 20 → RLw x N R1 L q BP be nm A0 B0 n bs u o h k := fun R1 e => RL_r H (nR_i e)
  refine ⟨_, _, fun R1 => _, (sp_X9_undo l hst G o h N ho1 hh1 ho8 hh8 hws), fun R1 h1 => sp_X10_undo l G (R1 0 4) (R1 0 1) h R1 rfl (h1R R1 h1).2.2.2.2.1.2.2.2.2.2 rfl hh8, ?_, ?_, ?_, ?_⟩
  · rintro r M' ⟨-, -, hr⟩; exact ⟨_, hr⟩
  · rintro Ex M' ⟨rfl, -⟩; exact List.mem_singleton.mpr rfl
  · rintro v M' ⟨h0, rfl, hr⟩ R1 h1 r R' (⟨hn, -⟩ | ⟨j, hj, rfl, hr2⟩)
    · omega
    · subst hj
      obtain ⟨A1, H1⟩ := RL_undo (h1R R1 h1)
      exact ⟨hr2.trans hr.symm, rfl, RLe.i H1 (by omega)⟩
  · rintro i Ex M' hi ⟨-, rfl, hn⟩ R1 h1 r R' (⟨-, rfl, rfl⟩ | ⟨j, hj, -⟩)
    · obtain rfl : i = 0 := by
        rcases i with - | i
        · rfl
        · cases hi
      exact ⟨⟨_, rfl⟩, rfl, RLe.i (RL_r H (nR_mt h1)) (by omega)⟩
    · omega
set_option maxHeartbeats 4000000 in
theorem pa_writeRow (l : Launch) (hst : l.stackTraces = false) (G : GT) {N : Mem} {L : Int} (H : RLe N (vw [20] N) L) (hL0 : 0 ≤ L) (hL : L + 300 < 2147483648) (a : Int32) : PX l G N (L + 279) [oobN] yX9_writeRow cX9_writeRow 4 (some .int) ({ frames := 6, cells := 4, slots := 24, locals := 82 } : Room) yX10_writeRow cX10_writeRow 3 (some .int) ({ frames := 3, cells := 0, slots := 0, locals := 64 } : Room) [iv a] := by
  obtain ⟨x, q, BP, be, nm, A0, B0, n, bs, u, o, h, k, H⟩ := H
  have H0 := H
  obtain ⟨⟨hq, hpn, hsn, hP⟩, ⟨hx, hv, hbe⟩, ⟨⟨hz, hpl, hwt⟩, hE⟩, ⟨hT, hn6, hby, hB, hn10, h11, h12⟩, ⟨ho1, hh1, ho8, hh8, hHR, hR4⟩, hws, ⟨hsv, hw5, hsave⟩, ⟨hk16, hk, hk2, hout⟩⟩ := H0
  have h1R : ∀ R1 : Mem, R1 0 = N 20 → RLw x N R1 L q BP be nm A0 B0 n bs u o h k := fun R1 e => RL_r H (nR_i e)
  have hw0 : ∀ c, c < x.1.2.2 → 0 ≤ N 3 1 c := fun c hc => i_le.mpr (hz.1.2.2.2.2.1 c hc)
  refine ⟨_, _, fun R1 => _, (sp_X9_writeRow l hst G BP be nm x q a N hpn hq hP hx), fun R1 h1 => sp_X10_writeRow l G A0 x (N 3) (R1 0 25) a R1 (h1R R1 h1).2.2.1.2 hx hw0 rfl, ?_, ?_, ?_, ?_⟩
  · rintro r M' ⟨c, -, -, -, hr⟩; exact ⟨_, hr⟩
  · rintro Ex M' ⟨rfl, -⟩; exact List.mem_singleton.mpr rfl
  · rintro v M' ⟨c, hc, ha, rfl, hr⟩ R1 h1 r R' (⟨c2, hc2, ha2, rfl, hr2⟩ | ⟨hn, -⟩)
    · have e1 := ij_s (N := 8) (by decide) (Nat.le_trans (Nat.le_of_lt hc) hx.1) (Nat.le_trans (Nat.le_of_lt hc2) hx.1) ha ha2
      subst e1
      refine ⟨hr2.trans (Eq.trans ?_ hr.symm), rfl, RLe.i (RL_write (h1R R1 h1)) (by omega)⟩
      rw [(woF_eq (o1 := R1 0 25) (o2 := N 0 9) x.1.2.1).1]
    · exact absurd ⟨c, hc, ha⟩ hn
  · rintro i Ex M' hi ⟨-, rfl, hn⟩ R1 h1 r R' (⟨c2, hc2, ha2, -⟩ | ⟨-, rfl, rfl⟩)
    · exact absurd ⟨c2, hc2, ha2⟩ hn
    · obtain rfl : i = 0 := by
        rcases i with - | i
        · rfl
        · cases hi
      exact ⟨⟨_, rfl⟩, rfl, RLe.i (RL_r H (nR_mt h1)) (by omega)⟩
set_option maxHeartbeats 4000000 in
theorem pa_restoreState (l : Launch) (hst : l.stackTraces = false) (G : GT) {N : Mem} {L : Int} (H : RLe N (vw [20] N) L) (hL0 : 0 ≤ L) (hL : L + 300 < 2147483648) : PX l G N (L + 279) [nseN] yX9_restoreState cX9_restoreState 1 (some .int) ({ frames := 6, cells := 1, slots := 6, locals := 82 } : Room) yX10_restoreState cX10_restoreState 1 (some .int) ({ frames := 1, cells := 0, slots := 0, locals := 23 } : Room) [] := by
  obtain ⟨x, q, BP, be, nm, A0, B0, n, bs, u, o, h, k, H⟩ := H
  have H0 := H
  obtain ⟨⟨hq, hpn, hsn, hP⟩, ⟨hx, hv, hbe⟩, ⟨⟨hz, hpl, hwt⟩, hE⟩, ⟨hT, hn6, hby, hB, hn10, h11, h12⟩, ⟨ho1, hh1, ho8, hh8, hHR, hR4⟩, hws, ⟨hsv, hw5, hsave⟩, ⟨hk16, hk, hk2, hout⟩⟩ := H0
  have h1R : ∀ R1 : Mem, R1 0 = N 20 → RLw x N R1 L q BP be nm A0 B0 n bs u o h k := fun R1 e => RL_r H (nR_i e)
  refine ⟨_, _, fun R1 => _, (sp_X9_restoreState l hst G N hw5), fun R1 h1 => sp_X10_restoreState l G (R1 0 1) (R1 0 3) R1 rfl rfl, ?_, ?_, ?_, ?_⟩
  · rintro r M' ⟨-, -, hr⟩; exact ⟨_, hr⟩
  · rintro Ex M' ⟨rfl, -⟩; exact List.mem_singleton.mpr rfl
  · rintro v M' ⟨h0, rfl, hr⟩ R1 h1 r R' (⟨-, rfl, hr2⟩ | ⟨hn, -⟩)
    · obtain ⟨A1, H1⟩ := RL_restore (h1R R1 h1) h0
      obtain ⟨-, A9, h9⟩ := (h1R R1 h1).2.2.2.2.2.2.1.2.2 h0
      refine ⟨hr2.trans (Eq.trans ?_ hr.symm), rfl, RLe.i H1 (by omega)⟩
      rw [show fil (R1 0 3) (R1 0 1) 443 0 = R1 0 3 0 from rfl, h9 0 (by decide)]
      rfl
    · exact absurd ((h1R R1 h1).2.2.2.2.2.2.1.1.trans hn) h0
  · rintro i Ex M' hi ⟨-, rfl, hn⟩ R1 h1 r R' (⟨h9, -⟩ | ⟨-, rfl, rfl⟩)
    · exact absurd ((h1R R1 h1).2.2.2.2.2.2.1.1.symm.trans hn) h9
    · obtain rfl : i = 0 := by
        rcases i with - | i
        · rfl
        · cases hi
      exact ⟨⟨_, rfl⟩, rfl, RLe.i (RL_r H (nR_mt h1)) (by omega)⟩
