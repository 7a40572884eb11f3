set_option maxHeartbeats 4000000 in
theorem pa_minute (l : Launch) (hst : l.stackTraces = false) (G : GT) {N : Mem} {L : Int} (H : RLe N (vw [20] N) L) (hL0 : 0 ≤ L) (hL : L + 300 < 2147483648) : PD kI9 l G N (L + 279) yX9_minute cX9_minute 1 (some .int) ({ frames := 0, cells := 0, slots := 0, locals := 0 } : Room) yX10_minute cX10_minute 1 (some .int) ({ frames := 1, cells := 0, slots := 0, locals := 21 } : Room) [] := by
  obtain ⟨x, q, BP, be, nm, A0, B0, n, bs, u, o, h, k, H⟩ := H
  have H0 := H
  obtain ⟨⟨hq, hpn, hsn, hP⟩, ⟨hx, hv, hbe⟩, ⟨⟨hz, hpl, hwt⟩, hE⟩, ⟨hT, hn6, hby, hB, hn10, h11, h12⟩, ⟨ho1, hh1, ho8, hh8, hHR, hR4⟩, hws, ⟨hsv, hw5, hsave⟩, ⟨hk16, hk, hk2, hout⟩⟩ := H0
  have h1R : ∀ R1 : Mem, R1 0 = N 20 → RLw x N R1 L q BP be nm A0 B0 n bs u o h k := fun R1 e => RL_r H (nR_i e)
  refine ⟨_, fun R1 => _, sp_X9_minute l G N, fun R1 h1 => sp_X10_minute l G A0 x (N 3) R1 (h1R R1 h1).2.2.1.2 hx, ?_⟩
  rintro r M' ⟨rfl, rfl⟩
  refine ⟨⟨_, rfl⟩, fun R1 h1 r2 R' hr => ?_⟩
  obtain ⟨rfl, rfl⟩ := hr
  exact ⟨rfl, RLe.i (RL_r H (nR_mt h1)) (by omega)⟩
set_option maxHeartbeats 4000000 in
theorem pa_rain (l : Launch) (hst : l.stackTraces = false) (G : GT) {N : Mem} {L : Int} (H : RLe N (vw [20] N) L) (hL0 : 0 ≤ L) (hL : L + 300 < 2147483648) : PD kI9 l G N (L + 279) yX9_rain cX9_rain 1 (some .int) ({ frames := 0, cells := 0, slots := 0, locals := 0 } : Room) yX10_rain cX10_rain 1 (some .int) ({ frames := 1, cells := 0, slots := 0, locals := 21 } : Room) [] := by
  obtain ⟨x, q, BP, be, nm, A0, B0, n, bs, u, o, h, k, H⟩ := H
  have H0 := H
  obtain ⟨⟨hq, hpn, hsn, hP⟩, ⟨hx, hv, hbe⟩, ⟨⟨hz, hpl, hwt⟩, hE⟩, ⟨hT, hn6, hby, hB, hn10, h11, h12⟩, ⟨ho1, hh1, ho8, hh8, hHR, hR4⟩, hws, ⟨hsv, hw5, hsave⟩, ⟨hk16, hk, hk2, hout⟩⟩ := H0
  have h1R : ∀ R1 : Mem, R1 0 = N 20 → RLw x N R1 L q BP be nm A0 B0 n bs u o h k := fun R1 e => RL_r H (nR_i e)
  refine ⟨_, fun R1 => _, sp_X9_rain l G N, fun R1 h1 => sp_X10_rain l G A0 x (N 3) R1 (h1R R1 h1).2.2.1.2 hx, ?_⟩
  rintro r M' ⟨rfl, rfl⟩
  refine ⟨⟨_, rfl⟩, fun R1 h1 r2 R' hr => ?_⟩
  obtain ⟨rfl, rfl⟩ := hr
  exact ⟨rfl, RLe.i (RL_r H (nR_mt h1)) (by omega)⟩
set_option maxHeartbeats 4000000 in
theorem pa_rained (l : Launch) (hst : l.stackTraces = false) (G : GT) {N : Mem} {L : Int} (H : RLe N (vw [20] N) L) (hL0 : 0 ≤ L) (hL : L + 300 < 2147483648) : PD kI9 l G N (L + 279) yX9_rained cX9_rained 1 (some .int) ({ frames := 0, cells := 0, slots := 0, locals := 0 } : Room) yX10_rained cX10_rained 1 (some .int) ({ frames := 1, cells := 0, slots := 0, locals := 21 } : Room) [] := by
  obtain ⟨x, q, BP, be, nm, A0, B0, n, bs, u, o, h, k, H⟩ := H
  have H0 := H
  obtain ⟨⟨hq, hpn, hsn, hP⟩, ⟨hx, hv, hbe⟩, ⟨⟨hz, hpl, hwt⟩, hE⟩, ⟨hT, hn6, hby, hB, hn10, h11, h12⟩, ⟨ho1, hh1, ho8, hh8, hHR, hR4⟩, hws, ⟨hsv, hw5, hsave⟩, ⟨hk16, hk, hk2, hout⟩⟩ := H0
  have h1R : ∀ R1 : Mem, R1 0 = N 20 → RLw x N R1 L q BP be nm A0 B0 n bs u o h k := fun R1 e => RL_r H (nR_i e)
  refine ⟨_, fun R1 => _, sp_X9_rained l G N, fun R1 h1 => sp_X10_rained l G A0 x (N 3) R1 (h1R R1 h1).2.2.1.2 hx, ?_⟩
  rintro r M' ⟨rfl, rfl⟩
  refine ⟨⟨_, rfl⟩, fun R1 h1 r2 R' hr => ?_⟩
  obtain ⟨rfl, rfl⟩ := hr
  exact ⟨rfl, RLe.i (RL_r H (nR_mt h1)) (by omega)⟩
set_option maxHeartbeats 4000000 in
theorem pa_fromHydrants (l : Launch) (hst : l.stackTraces = false) (G : GT) {N : Mem} {L : Int} (H : RLe N (vw [20] N) L) (hL0 : 0 ≤ L) (hL : L + 300 < 2147483648) : PD kI9 l G N (L + 279) yX9_fromHydrants cX9_fromHydrants 1 (some .int) ({ frames := 0, cells := 0, slots := 0, locals := 0 } : Room) yX10_fromHydrants cX10_fromHydrants 1 (some .int) ({ frames := 1, cells := 0, slots := 0, locals := 21 } : Room) [] := by
  obtain ⟨x, q, BP, be, nm, A0, B0, n, bs, u, o, h, k, H⟩ := H
  have H0 := H
  obtain ⟨⟨hq, hpn, hsn, hP⟩, ⟨hx, hv, hbe⟩, ⟨⟨hz, hpl, hwt⟩, hE⟩, ⟨hT, hn6, hby, hB, hn10, h11, h12⟩, ⟨ho1, hh1, ho8, hh8, hHR, hR4⟩, hws, ⟨hsv, hw5, hsave⟩, ⟨hk16, hk, hk2, hout⟩⟩ := H0
  have h1R : ∀ R1 : Mem, R1 0 = N 20 → RLw x N R1 L q BP be nm A0 B0 n bs u o h k := fun R1 e => RL_r H (nR_i e)
  refine ⟨_, fun R1 => _, sp_X9_fromHydrants l G N, fun R1 h1 => sp_X10_fromHydrants l G A0 x (N 3) R1 (h1R R1 h1).2.2.1.2 hx, ?_⟩
  rintro r M' ⟨rfl, rfl⟩
  refine ⟨⟨_, rfl⟩, fun R1 h1 r2 R' hr => ?_⟩
  obtain ⟨rfl, rfl⟩ := hr
  exact ⟨rfl, RLe.i (RL_r H (nR_mt h1)) (by omega)⟩
set_option maxHeartbeats 4000000 in
theorem pa_drained (l : Launch) (hst : l.stackTraces = false) (G : GT) {N : Mem} {L : Int} (H : RLe N (vw [20] N) L) (hL0 : 0 ≤ L) (hL : L + 300 < 2147483648) : PD kI9 l G N (L + 279) yX9_drained cX9_drained 1 (some .int) ({ frames := 0, cells := 0, slots := 0, locals := 0 } : Room) yX10_drained cX10_drained 1 (some .int) ({ frames := 1, cells := 0, slots := 0, locals := 21 } : Room) [] := by
  obtain ⟨x, q, BP, be, nm, A0, B0, n, bs, u, o, h, k, H⟩ := H
  have H0 := H
  obtain ⟨⟨hq, hpn, hsn, hP⟩, ⟨hx, hv, hbe⟩, ⟨⟨hz, hpl, hwt⟩, hE⟩, ⟨hT, hn6, hby, hB, hn10, h11, h12⟩, ⟨ho1, hh1, ho8, hh8, hHR, hR4⟩, hws, ⟨hsv, hw5, hsave⟩, ⟨hk16, hk, hk2, hout⟩⟩ := H0
  have h1R : ∀ R1 : Mem, R1 0 = N 20 → RLw x N R1 L q BP be nm A0 B0 n bs u o h k := fun R1 e => RL_r H (nR_i e)
  refine ⟨_, fun R1 => _, sp_X9_drained l G N, fun R1 h1 => sp_X10_drained l G A0 x (N 3) R1 (h1R R1 h1).2.2.1.2 hx, ?_⟩
  rintro r M' ⟨rfl, rfl⟩
  refine ⟨⟨_, rfl⟩, fun R1 h1 r2 R' hr => ?_⟩
  obtain ⟨rfl, rfl⟩ := hr
  exact ⟨rfl, RLe.i (RL_r H (nR_mt h1)) (by omega)⟩
set_option maxHeartbeats 4000000 in
theorem pa_evaporated (l : Launch) (hst : l.stackTraces = false) (G : GT) {N : Mem} {L : Int} (H : RLe N (vw [20] N) L) (hL0 : 0 ≤ L) (hL : L + 300 < 2147483648) : PD kI9 l G N (L + 279) yX9_evaporated cX9_evaporated 1 (some .int) ({ frames := 0, cells := 0, slots := 0, locals := 0 } : Room) yX10_evaporated cX10_evaporated 1 (some .int) ({ frames := 1, cells := 0, slots := 0, locals := 21 } : Room) [] := by
  obtain ⟨x, q, BP, be, nm, A0, B0, n, bs, u, o, h, k, H⟩ := H
  have H0 := H
  obtain ⟨⟨hq, hpn, hsn, hP⟩, ⟨hx, hv, hbe⟩, ⟨⟨hz, hpl, hwt⟩, hE⟩, ⟨hT, hn6, hby, hB, hn10, h11, h12⟩, ⟨ho1, hh1, ho8, hh8, hHR, hR4⟩, hws, ⟨hsv, hw5, hsave⟩, ⟨hk16, hk, hk2, hout⟩⟩ := H0
  have h1R : ∀ R1 : Mem, R1 0 = N 20 → RLw x N R1 L q BP be nm A0 B0 n bs u o h k := fun R1 e => RL_r H (nR_i e)
  refine ⟨_, fun R1 => _, sp_X9_evaporated l G N, fun R1 h1 => sp_X10_evaporated l G A0 x (N 3) R1 (h1R R1 h1).2.2.1.2 hx, ?_⟩
  rintro r M' ⟨rfl, rfl⟩
  refine ⟨⟨_, rfl⟩, fun R1 h1 r2 R' hr => ?_⟩
  obtain ⟨rfl, rfl⟩ := hr
  exact ⟨rfl, RLe.i (RL_r H (nR_mt h1)) (by omega)⟩
set_option maxHeartbeats 4000000 in
theorem pa_columnCount (l : Launch) (hst : l.stackTraces = false) (G : GT) {N : Mem} {L : Int} (H : RLe N (vw [20] N) L) (hL0 : 0 ≤ L) (hL : L + 300 < 2147483648) : PD kI9 l G N (L + 279) yX9_columnCount cX9_columnCount 1 (some .int) ({ frames := 0, cells := 0, slots := 0, locals := 0 } : Room) yX10_columnCount cX10_columnCount 1 (some .int) ({ frames := 1, cells := 0, slots := 0, locals := 21 } : Room) [] := by
  obtain ⟨x, q, BP, be, nm, A0, B0, n, bs, u, o, h, k, H⟩ := H
  have H0 := H
  obtain ⟨⟨hq, hpn, hsn, hP⟩, ⟨hx, hv, hbe⟩, ⟨⟨hz, hpl, hwt⟩, hE⟩, ⟨hT, hn6, hby, hB, hn10, h11, h12⟩, ⟨ho1, hh1, ho8, hh8, hHR, hR4⟩, hws, ⟨hsv, hw5, hsave⟩, ⟨hk16, hk, hk2, hout⟩⟩ := H0
  have h1R : ∀ R1 : Mem, R1 0 = N 20 → RLw x N R1 L q BP be nm A0 B0 n bs u o h k := fun R1 e => RL_r H (nR_i e)
  refine ⟨_, fun R1 => _, sp_X9_columnCount l G BP be nm x q N hpn hq hP hx, fun R1 h1 => sp_X10_columnCount l G A0 x (N 3) R1 (h1R R1 h1).2.2.1.2 hx, ?_⟩
  rintro r M' ⟨rfl, rfl⟩
  refine ⟨⟨_, rfl⟩, fun R1 h1 r2 R' hr => ?_⟩
  obtain ⟨rfl, rfl⟩ := hr
  exact ⟨rfl, RLe.i (RL_r H (nR_mt h1)) (by omega)⟩
set_option maxHeartbeats 4000000 in
theorem pa_rowCount (l : Launch) (hst : l.stackTraces = false) (G : GT) {N : Mem} {L : Int} (H : RLe N (vw [20] N) L) (hL0 : 0 ≤ L) (hL : L + 300 < 2147483648) : PD kI9 l G N (L + 279) yX9_rowCount cX9_rowCount 1 (some .int) ({ frames := 0, cells := 0, slots := 0, locals := 0 } : Room) yX10_rowCount cX10_rowCount 1 (some .int) ({ frames := 1, cells := 0, slots := 0, locals := 21 } : Room) [] := by
  obtain ⟨x, q, BP, be, nm, A0, B0, n, bs, u, o, h, k, H⟩ := H
  have H0 := H
  obtain ⟨⟨hq, hpn, hsn, hP⟩, ⟨hx, hv, hbe⟩, ⟨⟨hz, hpl, hwt⟩, hE⟩, ⟨hT, hn6, hby, hB, hn10, h11, h12⟩, ⟨ho1, hh1, ho8, hh8, hHR, hR4⟩, hws, ⟨hsv, hw5, hsave⟩, ⟨hk16, hk, hk2, hout⟩⟩ := H0
  have h1R : ∀ R1 : Mem, R1 0 = N 20 → RLw x N R1 L q BP be nm A0 B0 n bs u o h k := fun R1 e => RL_r H (nR_i e)
  refine ⟨_, fun R1 => _, sp_X9_rowCount l G BP be nm x q N hpn hq hP hx, fun R1 h1 => sp_X10_rowCount l G A0 x (N 3) R1 (h1R R1 h1).2.2.1.2 hx, ?_⟩
  rintro r M' ⟨rfl, rfl⟩
  refine ⟨⟨_, rfl⟩, fun R1 h1 r2 R' hr => ?_⟩
  obtain ⟨rfl, rfl⟩ := hr
  exact ⟨rfl, RLe.i (RL_r H (nR_mt h1)) (by omega)⟩
set_option maxHeartbeats 4000000 in
theorem pa_bootsCount (l : Launch) (hst : l.stackTraces = false) (G : GT) {N : Mem} {L : Int} (H : RLe N (vw [20] N) L) (hL0 : 0 ≤ L) (hL : L + 300 < 2147483648) : PD kI9 l G N (L + 279) yX9_bootsCount cX9_bootsCount 1 (some .int) ({ frames := 0, cells := 0, slots := 0, locals := 0 } : Room) yX10_bootsCount cX10_bootsCount 1 (some .int) ({ frames := 1, cells := 0, slots := 0, locals := 21 } : Room) [] := by
  obtain ⟨x, q, BP, be, nm, A0, B0, n, bs, u, o, h, k, H⟩ := H
  have H0 := H
  obtain ⟨⟨hq, hpn, hsn, hP⟩, ⟨hx, hv, hbe⟩, ⟨⟨hz, hpl, hwt⟩, hE⟩, ⟨hT, hn6, hby, hB, hn10, h11, h12⟩, ⟨ho1, hh1, ho8, hh8, hHR, hR4⟩, hws, ⟨hsv, hw5, hsave⟩, ⟨hk16, hk, hk2, hout⟩⟩ := H0
  have h1R : ∀ R1 : Mem, R1 0 = N 20 → RLw x N R1 L q BP be nm A0 B0 n bs u o h k := fun R1 e => RL_r H (nR_i e)
  refine ⟨_, fun R1 => _, sp_X9_bootsCount l G BP be nm x q N hpn hq hP hx, fun R1 h1 => sp_X10_bootsCount l G A0 x (N 3) R1 (h1R R1 h1).2.2.1.2 hx, ?_⟩
  rintro r M' ⟨rfl, rfl⟩
  refine ⟨⟨_, rfl⟩, fun R1 h1 r2 R' hr => ?_⟩
  obtain ⟨rfl, rfl⟩ := hr
  exact ⟨rfl, RLe.i (RL_r H (nR_mt h1)) (by omega)⟩
set_option maxHeartbeats 4000000 in
theorem pa_waterTotal (l : Launch) (hst : l.stackTraces = false) (G : GT) {N : Mem} {L : Int} (H : RLe N (vw [20] N) L) (hL0 : 0 ≤ L) (hL : L + 300 < 2147483648) : PD kI9 l G N (L + 279) yX9_waterTotal cX9_waterTotal 1 (some .int) ({ frames := 1, cells := 0, slots := 0, locals := 23 } : Room) yX10_waterTotal cX10_waterTotal 1 (some .int) ({ frames := 3, cells := 0, slots := 0, locals := 64 } : Room) [] := by
  obtain ⟨x, q, BP, be, nm, A0, B0, n, bs, u, o, h, k, H⟩ := H
  have H0 := H
  obtain ⟨⟨hq, hpn, hsn, hP⟩, ⟨hx, hv, hbe⟩, ⟨⟨hz, hpl, hwt⟩, hE⟩, ⟨hT, hn6, hby, hB, hn10, h11, h12⟩, ⟨ho1, hh1, ho8, hh8, hHR, hR4⟩, hws, ⟨hsv, hw5, hsave⟩, ⟨hk16, hk, hk2, hout⟩⟩ := H0
  have h1R : ∀ R1 : Mem, R1 0 = N 20 → RLw x N R1 L q BP be nm A0 B0 n bs u o h k := fun R1 e => RL_r H (nR_i e)
  refine ⟨_, fun R1 => _, sp_X9_waterTotal l G BP be nm x q N hpn hq hP hx, fun R1 h1 => sp_X10_waterTotal l G A0 x (N 3) R1 (h1R R1 h1).2.2.1.2 hx, ?_⟩
  rintro r M' ⟨rfl, rfl⟩
  refine ⟨⟨_, rfl⟩, fun R1 h1 r2 R' hr => ?_⟩
  obtain ⟨rfl, rfl⟩ := hr
  exact ⟨rfl, RLe.i (RL_r H (nR_mt h1)) (by omega)⟩
set_option maxHeartbeats 4000000 in
theorem pa_deepestCell (l : Launch) (hst : l.stackTraces = false) (G : GT) {N : Mem} {L : Int} (H : RLe N (vw [20] N) L) (hL0 : 0 ≤ L) (hL : L + 300 < 2147483648) : PD kI9 l G N (L + 279) yX9_deepestCell cX9_deepestCell 3 (some .int) ({ frames := 0, cells := 0, slots := 0, locals := 0 } : Room) yX10_deepestCell cX10_deepestCell 3 (some .int) ({ frames := 2, cells := 0, slots := 0, locals := 42 } : Room) [] := by
  obtain ⟨x, q, BP, be, nm, A0, B0, n, bs, u, o, h, k, H⟩ := H
  have H0 := H
  obtain ⟨⟨hq, hpn, hsn, hP⟩, ⟨hx, hv, hbe⟩, ⟨⟨hz, hpl, hwt⟩, hE⟩, ⟨hT, hn6, hby, hB, hn10, h11, h12⟩, ⟨ho1, hh1, ho8, hh8, hHR, hR4⟩, hws, ⟨hsv, hw5, hsave⟩, ⟨hk16, hk, hk2, hout⟩⟩ := H0
  have h1R : ∀ R1 : Mem, R1 0 = N 20 → RLw x N R1 L q BP be nm A0 B0 n bs u o h k := fun R1 e => RL_r H (nR_i e)
  refine ⟨_, fun R1 => _, sp_X9_deepestCell l G BP be nm x q N hpn hq hP hx, fun R1 h1 => sp_X10_deepestCell l G A0 x (N 3) R1 (h1R R1 h1).2.2.1.2 hx, ?_⟩
  rintro r M' ⟨rfl, rfl⟩
  refine ⟨⟨_, rfl⟩, fun R1 h1 r2 R' hr => ?_⟩
  obtain ⟨rfl, rfl⟩ := hr
  exact ⟨rfl, RLe.i (RL_r H (nR_mt h1)) (by omega)⟩
set_option maxHeartbeats 4000000 in
theorem pa_errorCode (l : Launch) (hst : l.stackTraces = false) (G : GT) {N : Mem} {L : Int} (H : RLe N (vw [20] N) L) (hL0 : 0 ≤ L) (hL : L + 300 < 2147483648) : PD kI9 l G N (L + 279) yX9_errorCode cX9_errorCode 1 (some .int) ({ frames := 0, cells := 0, slots := 0, locals := 0 } : Room) yX10_errorCode cX10_errorCode 1 (some .int) ({ frames := 0, cells := 0, slots := 0, locals := 0 } : Room) [] := by
  obtain ⟨x, q, BP, be, nm, A0, B0, n, bs, u, o, h, k, H⟩ := H
  have H0 := H
  obtain ⟨⟨hq, hpn, hsn, hP⟩, ⟨hx, hv, hbe⟩, ⟨⟨hz, hpl, hwt⟩, hE⟩, ⟨hT, hn6, hby, hB, hn10, h11, h12⟩, ⟨ho1, hh1, ho8, hh8, hHR, hR4⟩, hws, ⟨hsv, hw5, hsave⟩, ⟨hk16, hk, hk2, hout⟩⟩ := H0
  have h1R : ∀ R1 : Mem, R1 0 = N 20 → RLw x N R1 L q BP be nm A0 B0 n bs u o h k := fun R1 e => RL_r H (nR_i e)
  refine ⟨_, fun R1 => _, sp_X9_errorCode l G N, fun R1 h1 => sp_X10_errorCode l G R1, ?_⟩
  rintro r M' ⟨rfl, rfl⟩
  refine ⟨⟨_, rfl⟩, fun R1 h1 r2 R' hr => ?_⟩
  obtain ⟨rfl, rfl⟩ := hr
  exact ⟨by rw [(h1R R1 h1).2.2.2.1.2.2.2.2.2.1, hT]; rfl, RLe.i (RL_r H (nR_mt h1)) (by omega)⟩
set_option maxHeartbeats 4000000 in
theorem pa_errorOffset (l : Launch) (hst : l.stackTraces = false) (G : GT) {N : Mem} {L : Int} (H : RLe N (vw [20] N) L) (hL0 : 0 ≤ L) (hL : L + 300 < 2147483648) : PD kI9 l G N (L + 279) yX9_errorOffset cX9_errorOffset 1 (some .int) ({ frames := 0, cells := 0, slots := 0, locals := 0 } : Room) yX10_errorOffset cX10_errorOffset 1 (some .int) ({ frames := 0, cells := 0, slots := 0, locals := 0 } : Room) [] := by
  obtain ⟨x, q, BP, be, nm, A0, B0, n, bs, u, o, h, k, H⟩ := H
  have H0 := H
  obtain ⟨⟨hq, hpn, hsn, hP⟩, ⟨hx, hv, hbe⟩, ⟨⟨hz, hpl, hwt⟩, hE⟩, ⟨hT, hn6, hby, hB, hn10, h11, h12⟩, ⟨ho1, hh1, ho8, hh8, hHR, hR4⟩, hws, ⟨hsv, hw5, hsave⟩, ⟨hk16, hk, hk2, hout⟩⟩ := H0
  have h1R : ∀ R1 : Mem, R1 0 = N 20 → RLw x N R1 L q BP be nm A0 B0 n bs u o h k := fun R1 e => RL_r H (nR_i e)
  refine ⟨_, fun R1 => _, sp_X9_errorOffset l G N, fun R1 h1 => sp_X10_errorOffset l G R1, ?_⟩
  rintro r M' ⟨rfl, rfl⟩
  refine ⟨⟨_, rfl⟩, fun R1 h1 r2 R' hr => ?_⟩
  obtain ⟨rfl, rfl⟩ := hr
  exact ⟨by rw [(h1R R1 h1).2.2.2.1.2.2.2.2.2.2, hT]; rfl, RLe.i (RL_r H (nR_mt h1)) (by omega)⟩
set_option maxHeartbeats 4000000 in
theorem pa_meanWater (l : Launch) (hst : l.stackTraces = false) (G : GT) {N : Mem} {L : Int} (H : RLe N (vw [20] N) L) (hL0 : 0 ≤ L) (hL : L + 300 < 2147483648) : PD kD l G N (L + 279) yX9_meanWater cX9_meanWater 1 (some .double) ({ frames := 1, cells := 0, slots := 0, locals := 23 } : Room) yX10_meanWater cX10_meanWater 1 (some .double) ({ frames := 3, cells := 0, slots := 0, locals := 64 } : Room) [] := by
  obtain ⟨x, q, BP, be, nm, A0, B0, n, bs, u, o, h, k, H⟩ := H
  have H0 := H
  obtain ⟨⟨hq, hpn, hsn, hP⟩, ⟨hx, hv, hbe⟩, ⟨⟨hz, hpl, hwt⟩, hE⟩, ⟨hT, hn6, hby, hB, hn10, h11, h12⟩, ⟨ho1, hh1, ho8, hh8, hHR, hR4⟩, hws, ⟨hsv, hw5, hsave⟩, ⟨hk16, hk, hk2, hout⟩⟩ := H0
  have h1R : ∀ R1 : Mem, R1 0 = N 20 → RLw x N R1 L q BP be nm A0 B0 n bs u o h k := fun R1 e => RL_r H (nR_i e)
  have hc0 : 0 < x.1.2.2 := by rw [hx.2.2.1]; exact Nat.mul_pos (by have := hv.1; omega) (by have := hv.2; omega)
  refine ⟨_, fun R1 => _, sp_X9_meanWater l G BP be nm x q N hpn hq hP hx hc0, fun R1 h1 => sp_X10_meanWater l G A0 x (N 3) R1 (h1R R1 h1).2.2.1.2 hx hc0, ?_⟩
  rintro r M' ⟨rfl, rfl⟩
  refine ⟨⟨_, rfl⟩, fun R1 h1 r2 R' hr => ?_⟩
  obtain ⟨rfl, rfl⟩ := hr
  exact ⟨rfl, RLe.i (RL_r H (nR_mt h1)) (by omega)⟩
set_option maxHeartbeats 4000000 in
theorem pa_wetPart (l : Launch) (hst : l.stackTraces = false) (G : GT) {N : Mem} {L : Int} (H : RLe N (vw [20] N) L) (hL0 : 0 ≤ L) (hL : L + 300 < 2147483648) : PD kF l G N (L + 279) yX9_wetPart cX9_wetPart 3 (some .float) ({ frames := 0, cells := 0, slots := 0, locals := 0 } : Room) yX10_wetPart cX10_wetPart 3 (some .float) ({ frames := 3, cells := 0, slots := 0, locals := 63 } : Room) [] := by
  obtain ⟨x, q, BP, be, nm, A0, B0, n, bs, u, o, h, k, H⟩ := H
  have H0 := H
  obtain ⟨⟨hq, hpn, hsn, hP⟩, ⟨hx, hv, hbe⟩, ⟨⟨hz, hpl, hwt⟩, hE⟩, ⟨hT, hn6, hby, hB, hn10, h11, h12⟩, ⟨ho1, hh1, ho8, hh8, hHR, hR4⟩, hws, ⟨hsv, hw5, hsave⟩, ⟨hk16, hk, hk2, hout⟩⟩ := H0
  have h1R : ∀ R1 : Mem, R1 0 = N 20 → RLw x N R1 L q BP be nm A0 B0 n bs u o h k := fun R1 e => RL_r H (nR_i e)
  have hc0 : 0 < x.1.2.2 := by rw [hx.2.2.1]; exact Nat.mul_pos (by have := hv.1; omega) (by have := hv.2; omega)
  have hw0 : ∀ c, c < x.1.2.2 → 0 ≤ N 3 1 c := fun c hc => i_le.mpr (hz.1.2.2.2.2.1 c hc)
  refine ⟨_, fun R1 => _, sp_X9_wetPart l G BP be nm x q N hpn hq hP hx hc0, fun R1 h1 => sp_X10_wetPart l G A0 x (N 3) R1 (h1R R1 h1).2.2.1.2 hx hc0, ?_⟩
  rintro r M' ⟨rfl, rfl⟩
  refine ⟨⟨_, rfl, dq32 _ (by have := (PIv_z hx).1; omega) hc0⟩, fun R1 h1 r2 R' hr => ?_⟩
  obtain ⟨rfl, rfl⟩ := hr
  exact ⟨by rw [wt_wp hw0], RLe.i (RL_r H (nR_mt h1)) (by omega)⟩
set_option maxHeartbeats 4000000 in
theorem pa_puddleCount (l : Launch) (hst : l.stackTraces = false) (G : GT) {N : Mem} {L : Int} (H : RLe N (vw [20] N) L) (hL0 : 0 ≤ L) (hL : L + 300 < 2147483648) : PD kI9 l G N (L + 279) yX9_puddleCount cX9_puddleCount 1 (some .int) ({ frames := 4, cells := 0, slots := 0, locals := 94 } : Room) yX10_puddleCount cX10_puddleCount 1 (some .int) ({ frames := 5, cells := 0, slots := 0, locals := 120 } : Room) [] := by
  obtain ⟨x, q, BP, be, nm, A0, B0, n, bs, u, o, h, k, H⟩ := H
  have H0 := H
  obtain ⟨⟨hq, hpn, hsn, hP⟩, ⟨hx, hv, hbe⟩, ⟨⟨hz, hpl, hwt⟩, hE⟩, ⟨hT, hn6, hby, hB, hn10, h11, h12⟩, ⟨ho1, hh1, ho8, hh8, hHR, hR4⟩, hws, ⟨hsv, hw5, hsave⟩, ⟨hk16, hk, hk2, hout⟩⟩ := H0
  have h1R : ∀ R1 : Mem, R1 0 = N 20 → RLw x N R1 L q BP be nm A0 B0 n bs u o h k := fun R1 e => RL_r H (nR_i e)
  have hw0 : ∀ c, c < x.1.2.2 → 0 ≤ N 3 1 c := fun c hc => i_le.mpr (hz.1.2.2.2.2.1 c hc)
  refine ⟨_, fun R1 => _, sp_X9_puddleCount l G BP be nm x q N hpn hq hP hx hbe, fun R1 h1 => sp_X10_puddleCount l G A0 x (N 3) R1 (N 15 2) (N 15 3) (N 15 4) (h1R R1 h1).2.2.1.2 hx hw0, ?_⟩
  rintro r M' ⟨rfl, rfl⟩
  refine ⟨⟨_, rfl⟩, fun R1 h1 r2 R' hr => ?_⟩
  obtain ⟨⟨L9, rfl⟩, rfl⟩ := hr
  exact ⟨rfl, RLe.i (RL_c (RL_r (h1R R1 h1) (nR_ar (by omega))) (nC_1 hq (by omega))) (by omega)⟩
set_option maxHeartbeats 4000000 in
theorem pa_isConsistent (l : Launch) (hst : l.stackTraces = false) (G : GT) {N : Mem} {L : Int} (H : RLe N (vw [20] N) L) (hL0 : 0 ≤ L) (hL : L + 300 < 2147483648) : PD kI9 l G N (L + 279) yX9_isConsistent cX9_isConsistent 3 (some .boolean) ({ frames := 4, cells := 0, slots := 0, locals := 94 } : Room) yX10_isConsistent cX10_isConsistent 1 (some .boolean) ({ frames := 6, cells := 0, slots := 0, locals := 143 } : Room) [] := by
  obtain ⟨x, q, BP, be, nm, A0, B0, n, bs, u, o, h, k, H⟩ := H
  have H0 := H
  obtain ⟨⟨hq, hpn, hsn, hP⟩, ⟨hx, hv, hbe⟩, ⟨⟨hz, hpl, hwt⟩, hE⟩, ⟨hT, hn6, hby, hB, hn10, h11, h12⟩, ⟨ho1, hh1, ho8, hh8, hHR, hR4⟩, hws, ⟨hsv, hw5, hsave⟩, ⟨hk16, hk, hk2, hout⟩⟩ := H0
  have h1R : ∀ R1 : Mem, R1 0 = N 20 → RLw x N R1 L q BP be nm A0 B0 n bs u o h k := fun R1 e => RL_r H (nR_i e)
  have hw0 : ∀ c, c < x.1.2.2 → 0 ≤ N 3 1 c := fun c hc => i_le.mpr (hz.1.2.2.2.2.1 c hc)
  refine ⟨_, fun R1 => _, sp_X9_isConsistent l G BP be nm x q N hpn hq hP hx hbe hpl hw0, fun R1 h1 => sp_X10_isConsistent l G A0 x (N 3) R1 (N 15 2) (N 15 3) (N 15 4) (1856 * (N 3 0 7).toInt) (h1R R1 h1).2.2.1.2 hx hz.1 hpl, ?_⟩
  rintro r M' ⟨rfl, rfl⟩
  refine ⟨⟨_, rfl⟩, fun R1 h1 r2 R' hr => ?_⟩
  obtain ⟨⟨L9, rfl⟩, rfl⟩ := hr
  exact ⟨congrArg (fun z => some (iv z)) cs_eq, RLe.i (RL_c (RL_r (h1R R1 h1) (nR_ar (by omega))) (nC_1 hq (by omega))) (by omega)⟩
set_option maxHeartbeats 4000000 in
theorem pa_appendInput (l : Launch) (hst : l.stackTraces = false) (G : GT) {N : Mem} {L : Int} (H : RLe N (vw [20] N) L) (hL0 : 0 ≤ L) (hL : L + 300 < 2147483648) (a b d f g : Int32) : PD kI9 l G N (L + 279) yX9_appendInput cX9_appendInput 6 (some .int) ({ frames := 2, cells := 0, slots := 0, locals := 42 } : Room) yX10_appendInput cX10_appendInput 6 (some .int) ({ frames := 1, cells := 0, slots := 0, locals := 22 } : Room) [iv a, iv b, iv d, iv f, iv g] := by
  obtain ⟨x, q, BP, be, nm, A0, B0, n, bs, u, o, h, k, H⟩ := H
  have H0 := H
  obtain ⟨⟨hq, hpn, hsn, hP⟩, ⟨hx, hv, hbe⟩, ⟨⟨hz, hpl, hwt⟩, hE⟩, ⟨hT, hn6, hby, hB, hn10, h11, h12⟩, ⟨ho1, hh1, ho8, hh8, hHR, hR4⟩, hws, ⟨hsv, hw5, hsave⟩, ⟨hk16, hk, hk2, hout⟩⟩ := H0
  have h1R : ∀ R1 : Mem, R1 0 = N 20 → RLw x N R1 L q BP be nm A0 B0 n bs u o h k := fun R1 e => RL_r H (nR_i e)
  refine ⟨_, fun R1 => _, sp_X9_appendInput l G a b d f g N B0 n bs u hT hn6, fun R1 h1 => sp_X10_appendInput l G (R1 0 10) n a b d f g R1 rfl (h1R R1 h1).2.2.2.1.2.2.2.2.1 hn6, ?_⟩
  rintro r M' (⟨h9, rfl, rfl⟩ | ⟨h9, rfl, rfl⟩)
  · refine ⟨⟨_, rfl⟩, fun R1 h1 r2 R' hr => ?_⟩
    rcases hr with ⟨-, rfl, rfl⟩ | ⟨hn, -⟩
    · exact ⟨rfl, RLe.i (RL_append (h1R R1 h1) h9) (by omega)⟩
    · exact absurd h9 hn
  · refine ⟨⟨_, rfl⟩, fun R1 h1 r2 R' hr => ?_⟩
    rcases hr with ⟨hn, -⟩ | ⟨-, rfl, rfl⟩
    · exact absurd hn h9
    · exact ⟨rfl, RLe.i (RL_r H (nR_mt h1)) (by omega)⟩
set_option maxHeartbeats 4000000 in
theorem pa_truncateInput (l : Launch) (hst : l.stackTraces = false) (G : GT) {N : Mem} {L : Int} (H : RLe N (vw [20] N) L) (hL0 : 0 ≤ L) (hL : L + 300 < 2147483648) (a : Int32) : PD kI9 l G N (L + 279) yX9_truncateInput cX9_truncateInput 2 (some .boolean) ({ frames := 0, cells := 0, slots := 0, locals := 0 } : Room) yX10_truncateInput cX10_truncateInput 2 (some .boolean) ({ frames := 1, cells := 0, slots := 0, locals := 25 } : Room) [iv a] := by
  obtain ⟨x, q, BP, be, nm, A0, B0, n, bs, u, o, h, k, H⟩ := H
  have H0 := H
  obtain ⟨⟨hq, hpn, hsn, hP⟩, ⟨hx, hv, hbe⟩, ⟨⟨hz, hpl, hwt⟩, hE⟩, ⟨hT, hn6, hby, hB, hn10, h11, h12⟩, ⟨ho1, hh1, ho8, hh8, hHR, hR4⟩, hws, ⟨hsv, hw5, hsave⟩, ⟨hk16, hk, hk2, hout⟩⟩ := H0
  have h1R : ∀ R1 : Mem, R1 0 = N 20 → RLw x N R1 L q BP be nm A0 B0 n bs u o h k := fun R1 e => RL_r H (nR_i e)
  refine ⟨_, fun R1 => _, sp_X9_truncateInput l G a N n (by rw [hT]; rfl) hn6, fun R1 h1 => sp_X10_truncateInput l G a n R1 (h1R R1 h1).2.2.2.1.2.2.2.2.1 hn6, ?_⟩
  rintro r M' (⟨j, hj, rfl, rfl, rfl⟩ | ⟨h9, rfl, rfl⟩)
  · refine ⟨⟨_, rfl⟩, fun R1 h1 r2 R' hr => ?_⟩
    rcases hr with ⟨j2, hj2, e2, rfl, rfl⟩ | ⟨hn, -⟩
    · exact ⟨rfl, RLe.i (RL_trunc (h1R R1 h1) hj) (by omega)⟩
    · exact absurd ⟨j, hj, rfl⟩ hn
  · refine ⟨⟨_, rfl⟩, fun R1 h1 r2 R' hr => ?_⟩
    rcases hr with ⟨j2, hj2, e2, -⟩ | ⟨-, rfl, rfl⟩
    · exact absurd ⟨j2, hj2, e2⟩ h9
    · exact ⟨rfl, RLe.i (RL_r H (nR_mt h1)) (by omega)⟩
set_option maxHeartbeats 4000000 in
theorem pa_outputByte (l : Launch) (hst : l.stackTraces = false) (G : GT) {N : Mem} {L : Int} (H : RLe N (vw [20] N) L) (hL0 : 0 ≤ L) (hL : L + 300 < 2147483648) (a : Int32) : PD kI9 l G N (L + 279) yX9_outputByte cX9_outputByte 2 (some .int) ({ frames := 0, cells := 0, slots := 0, locals := 0 } : Room) yX10_outputByte cX10_outputByte 2 (some .int) ({ frames := 1, cells := 0, slots := 0, locals := 25 } : Room) [iv a] := by
  obtain ⟨x, q, BP, be, nm, A0, B0, n, bs, u, o, h, k, H⟩ := H
  have H0 := H
  obtain ⟨⟨hq, hpn, hsn, hP⟩, ⟨hx, hv, hbe⟩, ⟨⟨hz, hpl, hwt⟩, hE⟩, ⟨hT, hn6, hby, hB, hn10, h11, h12⟩, ⟨ho1, hh1, ho8, hh8, hHR, hR4⟩, hws, ⟨hsv, hw5, hsave⟩, ⟨hk16, hk, hk2, hout⟩⟩ := H0
  have h1R : ∀ R1 : Mem, R1 0 = N 20 → RLw x N R1 L q BP be nm A0 B0 n bs u o h k := fun R1 e => RL_r H (nR_i e)
  refine ⟨_, fun R1 => _, sp_X9_outputByte l G a N k hk hk16, fun R1 h1 => sp_X10_outputByte l G a (R1 0 25) k R1 rfl (h1R R1 h1).2.2.2.2.2.2.2.2.2.1 hk16, ?_⟩
  rintro r M' ⟨rfl, rfl⟩
  refine ⟨⟨_, rfl⟩, fun R1 h1 r2 R' hr => ?_⟩
  obtain ⟨rfl, rfl⟩ := hr
  exact ⟨congrArg (fun z => some (iv z)) (RL_byte (h1R R1 h1) a).symm, RLe.i (RL_r H (nR_mt h1)) (by omega)⟩
set_option maxHeartbeats 4000000 in
theorem pa_saveState (l : Launch) (hst : l.stackTraces = false) (G : GT) {N : Mem} {L : Int} (H : RLe N (vw [20] N) L) (hL0 : 0 ≤ L) (hL : L + 300 < 2147483648) : PD kI9 l G N (L + 279) yX9_saveState cX9_saveState 1 (some .int) ({ frames := 2, cells := 0, slots := 0, locals := 62 } : Room) yX10_saveState cX10_saveState 1 (some .int) ({ frames := 1, cells := 0, slots := 0, locals := 22 } : Room) [] := by
  obtain ⟨x, q, BP, be, nm, A0, B0, n, bs, u, o, h, k, H⟩ := H
  have H0 := H
  obtain ⟨⟨hq, hpn, hsn, hP⟩, ⟨hx, hv, hbe⟩, ⟨⟨hz, hpl, hwt⟩, hE⟩, ⟨hT, hn6, hby, hB, hn10, h11, h12⟩, ⟨ho1, hh1, ho8, hh8, hHR, hR4⟩, hws, ⟨hsv, hw5, hsave⟩, ⟨hk16, hk, hk2, hout⟩⟩ := H0
  have h1R : ∀ R1 : Mem, R1 0 = N 20 → RLw x N R1 L q BP be nm A0 B0 n bs u o h k := fun R1 e => RL_r H (nR_i e)
  refine ⟨_, fun R1 => _, sp_X9_saveState l G N hwt, fun R1 h1 => sp_X10_saveState l G (R1 0 1) (R1 0 3) R1 rfl rfl, ?_⟩
  rintro r M' ⟨rfl, rfl⟩
  refine ⟨⟨_, rfl⟩, fun R1 h1 r2 R' hr => ?_⟩
  obtain ⟨rfl, rfl⟩ := hr
  refine ⟨?_, RLe.i (RL_save (h1R R1 h1)) (by omega)⟩
  rw [(h1R R1 h1).2.2.1.2]
  rfl
set_option maxHeartbeats 4000000 in
theorem pa_loadSetup (l : Launch) (hst : l.stackTraces = false) (G : GT) {N : Mem} {L : Int} (H : RLe N (vw [20] N) L) (hL0 : 0 ≤ L) (hL : L + 300 < 2147483648) : PD kI9 l G N (L + 279) yX9_loadSetup cX9_loadSetup 3 (some .int) ({ frames := 7, cells := 0, slots := 0, locals := 150 } : Room) yX10_loadSetup cX10_loadSetup 1 (some .int) ({ frames := 7, cells := 0, slots := 0, locals := 151 } : Room) [] := by
  obtain ⟨x, q, BP, be, nm, A0, B0, n, bs, u, o, h, k, H⟩ := H
  have H0 := H
  obtain ⟨⟨hq, hpn, hsn, hP⟩, ⟨hx, hv, hbe⟩, ⟨⟨hz, hpl, hwt⟩, hE⟩, ⟨hT, hn6, hby, hB, hn10, h11, h12⟩, ⟨ho1, hh1, ho8, hh8, hHR, hR4⟩, hws, ⟨hsv, hw5, hsave⟩, ⟨hk16, hk, hk2, hout⟩⟩ := H0
  have h1R : ∀ R1 : Mem, R1 0 = N 20 → RLw x N R1 L q BP be nm A0 B0 n bs u o h k := fun R1 e => RL_r H (nR_i e)
  refine ⟨_, fun R1 => _, sp_X9_loadSetup l G BP be nm x q N hpn hq hP hx hsn B0 n bs u hT hn6 (fun i _ => hby i), fun R1 h1 => sp_X10_loadSetup l G (R1 0 10) n (R1 0 1) (R1 0 2) ((R1 0 0 14).toBitVec.toNat, R1 0 0 15, R1 0 0 13, R1 0 0 16, R1 0 0 17, R1 0 0 18) u (0, N (35 - q) 5, N (35 - q) 7, N (35 - q) 6, rw4 (N (35 - q) 8) (N (35 - q) 9) (N (35 - q) 10) (N (35 - q) 11)) (N (35 - q) 1) R1 rfl (h1R R1 h1).2.2.2.1.2.2.2.2.1 rfl rfl ⟨rfl, (nI_bv _).symm, rfl, rfl, rfl, rfl⟩ hn6, ?_⟩
  rintro r M' (⟨h9, rfl, rfl⟩ | ⟨h9, rfl, rfl⟩)
  · refine ⟨⟨_, rfl⟩, fun R1 h1 r2 R' hr => ?_⟩
    dsimp only at hr
    rw [rFr_c (h1R R1 h1).2.2.2.1.2.2.2.1] at hr
    rcases hr with hr | hr
    · obtain ⟨A1, H1⟩ := RL_load0 (h1R R1 h1) hr
      exact ⟨hr.2.1, RLe.i H1 (by omega)⟩
    · exact absurd h9 hr.1
  · refine ⟨⟨_, rfl⟩, fun R1 h1 r2 R' hr => ?_⟩
    dsimp only at hr
    rw [rFr_c (h1R R1 h1).2.2.2.1.2.2.2.1] at hr
    rcases hr with hr | hr
    · exact absurd hr.1 h9
    · obtain ⟨A1, H1⟩ := RL_load1 (h1R R1 h1) hL0 hr
      exact ⟨hr.2.1, RLe.i H1 (by omega)⟩
set_option maxHeartbeats 4000000 in
theorem pa_runScript (l : Launch) (hst : l.stackTraces = false) (G : GT) {N : Mem} {L : Int} (H : RLe N (vw [20] N) L) (hL0 : 0 ≤ L) (hL : L + 300 < 2147483648) : PD kI9 l G N (L + 279) yX9_runScript cX9_runScript 3 (some .int) ({ frames := 7, cells := 0, slots := 0, locals := 167 } : Room) yX10_runScript cX10_runScript 2 (some .int) ({ frames := 9, cells := 0, slots := 0, locals := 201 } : Room) [] := by
  obtain ⟨x, q, BP, be, nm, A0, B0, n, bs, u, o, h, k, H⟩ := H
  have H0 := H
  obtain ⟨⟨hq, hpn, hsn, hP⟩, ⟨hx, hv, hbe⟩, ⟨⟨hz, hpl, hwt⟩, hE⟩, ⟨hT, hn6, hby, hB, hn10, h11, h12⟩, ⟨ho1, hh1, ho8, hh8, hHR, hR4⟩, hws, ⟨hsv, hw5, hsave⟩, ⟨hk16, hk, hk2, hout⟩⟩ := H0
  have h1R : ∀ R1 : Mem, R1 0 = N 20 → RLw x N R1 L q BP be nm A0 B0 n bs u o h k := fun R1 e => RL_r H (nR_i e)
  refine ⟨_, fun R1 => _, sp_X9_runScript l G BP be nm x q o h N hpn hq hP hx ho1 hh1 ho8 hh8 hwt hbe hpl B0 n bs u hT hn6, fun R1 h1 => sp_X10_runScript l G (R1 0 10) n (R1 0 1) ((R1 0 0 14).toBitVec.toNat, R1 0 0 15, R1 0 0 13, R1 0 0 16, R1 0 0 17, R1 0 0 18) u A0 x (N 3) L (R1 0 4) h (N 2 1) (N 2 2, N 2 3, N 2 4) R1 rfl (h1R R1 h1).2.2.2.1.2.2.2.2.1 rfl (h1R R1 h1).2.2.1.2 hx hv hpl hz (by omega) rfl (h1R R1 h1).2.2.2.2.1.2.2.2.2.2 hh8 ⟨rfl, (nI_bv _).symm, rfl, rfl, rfl, rfl⟩ hn6, ?_⟩
  rintro r M' (⟨h9, rfl, rfl⟩ | ⟨h9, rfl, rfl⟩)
  · refine ⟨⟨_, rfl⟩, fun R1 h1 r2 R' hr => ?_⟩
    dsimp only at hr
    rw [scR_c (h1R R1 h1).2.2.2.1.2.2.2.1] at hr
    rcases hr with hr | hr
    · exact ⟨hr.2.1, RLe.i (RL_run0 (h1R R1 h1) hr) (by omega)⟩
    · exact absurd h9 hr.1
  · refine ⟨⟨_, rfl⟩, fun R1 h1 r2 R' hr => ?_⟩
    dsimp only at hr
    rw [scR_c (h1R R1 h1).2.2.2.1.2.2.2.1] at hr
    rcases hr with hr | hr
    · exact absurd hr.1 h9
    · exact ⟨hr.2.1, RLe.i (RL_run1 (h1R R1 h1) hr) (by omega)⟩
