/-! calls: the callee sees some of the caller's modules under numbers of its own -/
def mu (μ : List Nat) (j : Nat) : Nat := μ.getD j j
def ren (μ : List Nat) : AV → AV
  | .inl v => .inl v
  | .inr q => .inr (mu μ q.1, q.2)
def vw (μ : List Nat) (M : Mem) : Mem := fun j => M (mu μ j)
def CM (ks : List Nat) (lk : Nat → Nat → Nat) (ks' : List Nat) (lk' : Nat → Nat → Nat) (μ : List Nat) : Prop :=
  μ.length ≤ 90 ∧ (∀ j, j < ks'.length → mu μ j < ks.length ∧ ks'.getD j 0 = ks.getD (mu μ j) 0) ∧ (∀ i j, i < ks'.length → j < ks'.length → mu μ i = mu μ j → i = j) ∧ (∀ j, j < ks'.length → ks'.getD j 0 = 7 → ∀ i, i < 8 → mu μ (lk' j i) = lk (mu μ j) i) ∧ ∀ j, j < ks'.length → ks'.getD j 0 = 8 → μ = [] ∧ lk' = lk
abbrev cY (Y : LV) (ks' : List Nat) (lk' : Nat → Nat → Nat) (μ : List Nat) : LV := (ks', lk', fun j t => Y.2.2 (mu μ j) t)
theorem mu_big {μ : List Nat} {j : Nat} (h : μ.length ≤ j) : mu μ j = j := by
  unfold mu
  rw [List.getD_eq_getElem?_getD, List.getElem?_eq_none h]
  rfl
theorem fk_01 : ∀ κ, κ < 16 → κ ≠ 8 → ∀ k, k < 30 → fk κ k = 0 ∨ fk κ k = 1 := by decide +kernel
theorem FK_len : ∀ κ, κ < 16 → (FK.getD κ []).length ≤ 30 := by decide +kernel
theorem fk_small (κ k : Nat) (h8 : κ ≠ 8) : fk κ k = 0 ∨ fk κ k = 1 := by
  rcases Nat.lt_or_ge κ 16 with h | h
  · rcases Nat.lt_or_ge k 30 with h2 | h2
    · exact fk_01 κ h h8 k h2
    · left
      unfold fk
      rw [List.getD_eq_getElem?_getD, List.getElem?_eq_none (Nat.le_trans (FK_len κ h) h2)]
      rfl
  · left
    unfold fk
    rw [List.getD_eq_getElem?_getD (l := FK), List.getElem?_eq_none (show FK.length ≤ κ from h)]
    rfl
theorem ceY_ren {G : GT} {Y : LV} {ks' : List Nat} {lk' : Nat → Nat → Nat} {μ : List Nat} (hC : CM Y.1 Y.2.1 ks' lk' μ) {S : Nat → Nat → Int32} {j t : Nat} (hj : j < ks'.length) : ceY G (cY Y ks' lk' μ) S j t = ceY G Y S (mu μ j) t := by
  obtain ⟨h90, hk, hinj, h7, h8⟩ := hC
  have hkk : kdY (cY Y ks' lk' μ) j = kdY Y (mu μ j) := (hk j hj).2
  unfold ceY
  rw [hkk]
  cases ha : ae (kdY Y (mu μ j)) t with
  | some q =>
    have : ∀ f, arC (cY Y ks' lk' μ) q.1 j f = arC Y q.1 (mu μ j) f := by
      intro f
      obtain ⟨c, n⟩ := q
      rcases (show c = 0 ∨ c = 1 ∨ c = 2 ∨ c = 3 ∨ c = 4 ∨ 5 ≤ c by omega) with rfl | rfl | rfl | rfl | rfl | hc
      · rfl
      · rfl
      · rfl
      · rfl
      · have hk7 : ks'.getD j 0 = 7 := by
          rw [(hk j hj).2]
          have : kdY Y (mu μ j) < 16 := by
            rcases Nat.lt_or_ge (kdY Y (mu μ j)) 16 with h | h
            · exact h
            · exfalso
              unfold ae at ha
              rw [List.getD_eq_getElem?_getD, List.getElem?_eq_none (show AE.length ≤ kdY Y (mu μ j) from h)] at ha
              cases ha
          have h12 : ∀ κ, κ < 16 → ∀ q ∈ AE.getD κ [], q.2.1 = 4 → κ = 7 := by decide +kernel
          have hm : ∃ q ∈ AE.getD (kdY Y (mu μ j)) [], q.2.1 = 4 := by
            unfold ae at ha
            obtain ⟨l1, l2, he, -⟩ := List.lookup_eq_some_iff.mp ha
            exact ⟨(t, 4, n), by rw [he]; simp, rfl⟩
          obtain ⟨q, hq1, hq2⟩ := hm
          exact h12 _ this q hq1 hq2
        show Sum.inr (Sum.inr (Sum.inr (Sum.inr _))) = Sum.inr (Sum.inr (Sum.inr (Sum.inr _)))
        congr 4
        funext i
        show some (Y.2.2 (mu μ (lk' j (min i 7))) 0) = some (Y.2.2 (Y.2.1 (mu μ j) (min i 7)) 0)
        rw [h7 j hj hk7 (min i 7) (by omega)]
      · obtain ⟨c, rfl⟩ : ∃ c', c = c' + 5 := ⟨c - 5, by omega⟩
        show Sum.inr (Sum.inr (Sum.inr (Sum.inr _))) = Sum.inr (Sum.inr (Sum.inr (Sum.inr _)))
        congr 4
        funext i
        cases c with
        | zero => rfl
        | succ c =>
          cases c with
          | zero =>
            show (if f i < 0 then none else some (Y.2.2 (mu μ 98) (f i).toNatClampNeg)) = (if f i < 0 then none else some (Y.2.2 98 (f i).toNatClampNeg))
            rw [mu_big (by omega)]
          | succ c => rfl
    simp only [this]
  | none =>
    have hf : ∀ k, cv (cY Y ks' lk' μ) (fv (cY Y ks' lk' μ) j k S) = cv Y (fv Y (mu μ j) k S) := by
      intro k
      unfold fv
      rw [hkk]
      by_cases he : kdY Y (mu μ j) = 8
      · obtain ⟨rfl, rfl⟩ := h8 j hj ((hk j hj).2.trans he)
        rfl
      · rcases fk_small _ k he with h | h
        · rw [h]; rfl
        · rw [h]; rfl
    simp only [hf]
theorem ad_inj {G : GT} {Y : LV} {A : Nat → Prop} {M : Mem} (hD : va_D A (wl G Y M)) {a b : Nat × Nat} (ha : a ∈ KY Y) (hb : b ∈ KY Y) (h : Y.2.2 a.1 a.2 = Y.2.2 b.1 b.2) : a = b := by
  obtain ⟨i, hi⟩ := List.getElem?_of_mem ha
  obtain ⟨j, hj⟩ := List.getElem?_of_mem hb
  have h1 : (wl G Y M)[i]? = some (Y.2.2 a.1 a.2, ceY G Y (M a.1) a.1 a.2) := by unfold wl; rw [List.getElem?_map, hi]; rfl
  have h2 : (wl G Y M)[j]? = some (Y.2.2 b.1 b.2, ceY G Y (M b.1) b.1 b.2) := by unfold wl; rw [List.getElem?_map, hj]; rfl
  have := hD.1 i j _ _ h1 h2 h
  subst this
  exact Option.some.inj (hi.symm.trans hj)
theorem KY_ren {Y : LV} {ks' : List Nat} {lk' : Nat → Nat → Nat} {μ : List Nat} (hC : CM Y.1 Y.2.1 ks' lk' μ) {j t : Nat} (h : (j, t) ∈ KY (cY Y ks' lk' μ)) : j < ks'.length ∧ (mu μ j, t) ∈ KY Y := by
  obtain ⟨h1, h2⟩ := KY_mem.mp h
  refine ⟨h1, KY_mem.mpr ⟨(hC.2.1 j h1).1, ?_⟩⟩
  have h3 : kdY (cY Y ks' lk' μ) j = kdY Y (mu μ j) := (hC.2.1 j h1).2
  rw [← h3]
  exact h2
/-- any list of cells that stand among a world's -/
theorem va_P_of {D : va_G} {cl : List vw_C} {ws : va_W} {H : Heap} (h : ∀ q ∈ ws, va_at D cl q H) : va_P D cl ws H := fun k q hk => h q (List.mem_of_getElem? hk)
theorem va_P_at {D : va_G} {cl : List vw_C} {ws : va_W} {H : Heap} (h : va_P D cl ws H) {q : Nat × va_E} (hq : q ∈ ws) : va_at D cl q H := by
  obtain ⟨k, hk⟩ := List.getElem?_of_mem hq
  exact h k q hk
theorem wl_in {G : GT} {Y : LV} {M : Mem} {j t : Nat} (h : (j, t) ∈ KY Y) : (Y.2.2 j t, ceY G Y (M j) j t) ∈ wl G Y M := List.mem_map.mpr ⟨(j, t), h, rfl⟩
/-- the caller's modules behind the call: the callee's, and the others as they were -/
def Mrg (N : Nat) (μ : List Nat) (M M' M2 : Mem) : Prop := (∀ j, j < N → M2 (mu μ j) = M' j) ∧ ∀ g, (∀ j, j < N → mu μ j ≠ g) → M2 g = M g
theorem Mrg_0 {N : Nat} {μ : List Nat} {M : Mem} : Mrg N μ M (vw μ M) M := ⟨fun _ _ => rfl, fun _ _ => rfl⟩
theorem Mrg_1 {ks ks' : List Nat} {lk lk' : Nat → Nat → Nat} {μ : List Nat} (hC : CM ks lk ks' lk' μ) {M M' : Mem} {i : Nat} {Z : Nat → Nat → Int32} (hi : i < ks'.length) {M1 M2 : Mem} (h : Mrg ks'.length μ M M1 M2) : Mrg ks'.length μ M (setm M1 i Z) (setm M2 (mu μ i) Z) := by
  refine ⟨fun j hj => ?_, fun g hg => ?_⟩
  · by_cases he : j = i
    · subst he; rw [setm_s, setm_s]
    · rw [setm_n he, setm_n (fun e => he (hC.2.2.1 j i hj hi e)), h.1 j hj]
  · rw [setm_n (fun e => hg i hi e.symm), h.2 g hg]
section RC
variable {p : Program} {l : Launch} {e : Env} {R : Room} {s : State} {m : MethodId} {args : Array Value} {below : List Frame} {meth : Method} {c : Code} {G : GT} {Y : LV} {nL : Nat} {Q : State → Prop} {M : Mem} {k n pc : Nat} {L : List (Option AV)} {S : List AV} {cc : ByteArray} {own : String} {ret : Option FieldType}
/-- what the callee is told of the heap -/
theorem call_pre {ks' : List Nat} {lk' : Nat → Nat → Nat} {μ : List Nat} {as : List AV} (hC : CM Y.1 Y.2.1 ks' lk' μ) {H : Heap} {locs : List Loc} (hP : va_P G.1 vwCl (wl G Y M) H) (hS : va_S (AS Y s.heap.size) s.heap H locs) (hG : GF G Y (AS Y s.heap.size) s s.heap) (hD : ∀ M : Mem, va_D (AS Y s.heap.size) (wl G Y M)) {U : State} (hU : U.heap = H) (hW : s.WarmedH U.vm) : PCm G (cY Y ks' lk' μ) as (vw μ M) H.size (as.map (cv (cY Y ks' lk' μ))).toArray U := by
  refine ⟨rfl, by rw [hU], ?_, fun M' => ⟨?_, ?_⟩, ?_⟩
  · rw [hU]
    refine va_P_of ?_
    intro q hq
    obtain ⟨⟨j, t⟩, hk, rfl⟩ := List.mem_map.mp hq
    obtain ⟨h1, h2⟩ := KY_ren hC hk
    have := va_P_at hP (wl_in (G := G) (M := M) h2)
    show va_at _ _ (Y.2.2 (mu μ j) t, ceY G (cY Y ks' lk' μ) (M (mu μ j)) j t) H
    rw [ceY_ren hC h1]
    exact this
  · intro i j x y hx hy hxy
    unfold wl at hx hy
    rw [List.getElem?_map] at hx hy
    cases hi : (KY (cY Y ks' lk' μ))[i]? with
    | none => rw [hi] at hx; cases hx
    | some a =>
      cases hj : (KY (cY Y ks' lk' μ))[j]? with
      | none => rw [hj] at hy; cases hy
      | some b =>
        rw [hi] at hx; rw [hj] at hy
        have ea := Option.some.inj hx
        have eb := Option.some.inj hy
        subst ea; subst eb
        obtain ⟨a1, a2⟩ := a
        obtain ⟨b1, b2⟩ := b
        obtain ⟨ha1, ha2⟩ := KY_ren hC (List.mem_of_getElem? hi)
        obtain ⟨hb1, hb2⟩ := KY_ren hC (List.mem_of_getElem? hj)
        have h3 := ad_inj (hD M) ha2 hb2 hxy
        injection h3 with h4 h5
        have h6 := hC.2.2.1 a1 b1 ha1 hb1 h4
        subst h6
        have h7 : a2 = b2 := h5
        subst h7
        exact nd_inj (KY_nodup _) hi hj
  · intro k q hq
    obtain ⟨⟨j, t⟩, hk, rfl⟩ := List.mem_map.mp (List.mem_of_getElem? hq)
    exact Or.inl ⟨(j, t), hk, rfl⟩
  · refine GF.warm (s := s) hW ?_
    refine GF.heap (Y := Y) (A := AS Y s.heap.size) (H := s.heap) (fun i hi => ?_) ?_ ?_ hG
    · show (fun t => Y.2.2 (mu μ (97 + i)) t) = _
      rw [mu_big (by have := hC.1; omega)]
    · intro q hB
      rcases hB with ⟨⟨j, t⟩, hk, he⟩ | hB
      · exact Or.inl ⟨(mu μ j, t), (KY_ren hC hk).2, he⟩
      · exact Or.inr (Nat.le_trans hS.1 hB)
    · intro q hq hA
      rw [hU]
      exact hS.2.1 q hq hA
/-- and what the caller gets back -/
theorem call_post {ks' : List Nat} {lk' : Nat → Nat → Nat} {μ : List Nat} (hC : CM Y.1 Y.2.1 ks' lk' μ) {H H1 : Heap} (hP : va_P G.1 vwCl (wl G Y M) H) (hD : va_D (AS Y s.heap.size) (wl G Y M)) {M' M2 : Mem} (hM : Mrg ks'.length μ M M' M2) (hP1 : va_P G.1 vwCl (wl G (cY Y ks' lk' μ) M') H1) (hk1 : ∀ q : Nat, q < H.size → ¬ AS (cY Y ks' lk' μ) H.size q → H1[q]? = H[q]?) : va_P G.1 vwCl (wl G Y M2) H1 := by
  refine va_P_of ?_
  intro q hq
  obtain ⟨⟨g, t⟩, hk, rfl⟩ := List.mem_map.mp hq
  by_cases hg : ∃ j, j < ks'.length ∧ mu μ j = g
  · obtain ⟨j, hj, rfl⟩ := hg
    have h1 : (j, t) ∈ KY (cY Y ks' lk' μ) := by
      refine KY_mem.mpr ⟨hj, ?_⟩
      have h3 : kdY (cY Y ks' lk' μ) j = kdY Y (mu μ j) := (hC.2.1 j hj).2
      rw [h3]
      exact (KY_mem.mp hk).2
    have h2 := va_P_at hP1 (wl_in (G := G) (M := M') h1)
    rw [ceY_ren hC hj] at h2
    show va_at _ _ (Y.2.2 (mu μ j) t, ceY G Y (M2 (mu μ j)) (mu μ j) t) H1
    rw [hM.1 j hj]
    exact h2
  · have h0 := va_P_at hP (wl_in (G := G) (M := M) hk)
    show va_at _ _ (Y.2.2 g t, ceY G Y (M2 g) g t) H1
    rw [hM.2 g (fun j hj e => hg ⟨j, hj, e⟩)]
    refine h0.kept (hk1 _ h0.lt ?_)
    rintro (⟨⟨j, u⟩, hju, he⟩ | h)
    · obtain ⟨h3, h4⟩ := KY_ren hC hju
      have h5 := ad_inj hD h4 hk he
      injection h5 with h6 h7
      exact hg ⟨j, h3, h6⟩
    · have := h0.lt
      have : Y.2.2 g t < H.size := this
      omega
theorem AS_ren {ks' : List Nat} {lk' : Nat → Nat → Nat} {μ : List Nat} (hC : CM Y.1 Y.2.1 ks' lk' μ) {H : Heap} {sz : Nat} (hz : sz ≤ H.size) {q : Nat} (h : AS (cY Y ks' lk' μ) H.size q) : AS Y sz q := by
  rcases h with ⟨⟨j, t⟩, hk, he⟩ | h
  · exact Or.inl ⟨(mu μ j, t), (KY_ren hC hk).2, he⟩
  · exact Or.inr (Nat.le_trans hz h)
theorem big_good {y : MethodName} {b : ByteArray} {maxL : Nat} {ret : Option FieldType} (h : Cond.code y b maxL ret ∈ BIG) : GoodIn BIG (.code y b maxL ret :: BIG) := by
  intro w hw
  have hb : w ∈ BIG := (List.mem_cons.mp hw).elim (fun e => e ▸ h) id
  exact ⟨hb, good_of_word (List.mem_filter.mp hb).2⟩
theorem run_on {Y2 : LV} {μ : List Nat} {post : Option AV → Mem → Prop} {mc ms : Nat} {H : Heap} {locs : List Loc} {ls : Array Slot} {st : List Value} {ks' : List Nat} {lk' : Nat → Nat → Nat} {a : Array Value} (hC : CM Y.1 Y.2.1 ks' lk' μ) (hD : va_D (AS Y s.heap.size) (wl G Y M)) (hP : va_P G.1 vwCl (wl G Y M) H) (hS : va_S (AS Y s.heap.size) s.heap H locs) (hl : lv_has ls nL (lvl Y 0 L))
    (hr : va_Run p l e R s m args below meth c H locs k n mc ms (F0 m pc ls st) (S.map (cv Y)) (QCm G (cY Y ks' lk' μ) post H.size a) (AS (cY Y ks' lk' μ) H.size))
    (kk : ∀ r M', post r M' → ∃ M2, Mrg ks'.length μ M M' M2 ∧ WM p l e R s m args below meth c G Y nL Q M2 (k + mc) (n + ms) (pc + 3) L ((r.map (ren μ)).toList ++ S)) : W p l e R s m args below meth c H locs k n Q (F0 m pc ls st) := by
  intro T hT X
  obtain ⟨v, st₀, t, T', Lw, h0, X', hLf, e1, e2, ⟨⟨r, M', hv, hp, hP'⟩, hF⟩, go⟩ := hr T hT X
  obtain ⟨M2, hM2, hk⟩ := kk r M' hp
  have hv2 : v = r.map (cv (cY Y ks' lk' μ)) := by injection hv
  have hst : v.toList ++ S.map (cv Y) = ((r.map (ren μ)).toList ++ S).map (cv Y) := by
    rw [hv2]
    cases r with
    | none => rfl
    | some r =>
      rcases r with r | ⟨j, u⟩ <;> rfl
  have hz := hF.1
  have hk1 := hF.2
  rw [h0] at hz hk1
  have hPn := call_post (s := s) hC hP hD hM2 (H1 := T'.heap) (by rw [e1]; exact hP') (fun q h1 h2 => by rw [e1]; exact hk1 q h1 h2)
  have hSn : va_S (AS Y s.heap.size) s.heap T'.heap (locs ++ Lw) := by
    refine ⟨Nat.le_trans hS.1 (by rw [e1]; exact hz), fun q h1 h2 => ?_, fun q hq => ?_⟩
    · rw [e1, hk1 q (Nat.lt_of_lt_of_le h1 hS.1) (fun h => h2 (AS_ren hC hS.1 h))]
      exact hS.2.1 q h1 h2
    · rcases List.mem_append.mp hq with h | h
      · exact hS.2.2 q h
      · exact AS_ren hC hS.1 (hLf q h)
  obtain ⟨t2, a1, b1⟩ := hk T'.heap (locs ++ Lw) ls hPn hSn hl T' rfl X'
  rw [← hst] at a1
  exact ⟨t2, go t2 a1, b1⟩
theorem r_callV (E : EN p s m args meth c G Y cc own nL ret) {idx : Nat} {y : MethodName} {b : ByteArray} {maxL N : Nat} {ret' : Option FieldType} {rm : Room} {ks' : List Nat} {lk' : Nat → Nat → Nat} {as : List AV} {post : Option AV → Mem → Prop} {μ : List Nat} {st : List AV} {κ ci : Nat} {T : u_T} {NF : Nat}
    (hM : MC l G y b maxL ret' rm ks' lk' (rv 0 0 :: as) (vw μ M) post) (hy : MYo y b maxL ret' N) (hi : Cond.instanceMethod y ∈ BIG ∧ Cond.selects y.cls y y ∈ BIG) (hlk : Cond.methodLink own idx y ∈ BIG) (hC : CM Y.1 Y.2.1 ks' lk' μ) (hκ : κ < 16 ∧ oc κ = some ci ∧ vwCl[ci]? = some (y.cls, T, NF)) (hkd : kdY Y (mu μ 0) = κ) (hok : okb Y (mu μ 0) 0 = true)
    (hN : as.length = N) (hst : (as.map (ren μ)).reverse ++ rv (mu μ 0) 0 :: S = st) (hroom : rm.frames + 1 ≤ R.frames ∧ 8 + (maxL + 11) + rm.locals ≤ R.locals ∧ k + rm.cells ≤ R.cells ∧ n + rm.slots ≤ R.slots) (hst8 : (S.map fun v => if ac2 (some v) then 2 else 1).sum ≤ 8) (hd : decode cc pc = .ok (.invokevirtual idx, 3))
    (kk : ∀ r M', post r M' → ∃ M2, Mrg ks'.length μ M M' M2 ∧ WM p l e R s m args below meth c G Y nL Q M2 (k + rm.cells) (n + rm.slots) (pc + 3) L ((r.map (ren μ)).toList ++ S)) : WM p l e R s m args below meth c G Y nL Q M k n pc L st := by
  intro H locs ls hP hS hl
  obtain ⟨hx, hb, hml, hown, hts, hr, hlk0, hG, hD⟩ := E
  obtain ⟨hy1, hy2, hy3, hy4, hy5⟩ := hy
  obtain ⟨q0, hq, hw⟩ := wl_at (G := G) (M := M) (okb_ok hok)
  rw [ob_ce hkd hκ.1 hκ.2.1] at hw
  have hrcv := va_recv hG.2.1 hP hκ.2.2 hw
  have hcat : ∀ S : List AV, ((S.map (cv Y)).map fun v => v.category).sum = (S.map fun v => if ac2 (some v) then 2 else 1).sum := by
    intro S
    rw [List.map_map]
    congr 1
    refine List.map_congr_left (fun a _ => ?_)
    show (cv Y a).category = _
    cases h : ac2 (some a) with
    | true => rw [ac2_cv2 h]; rfl
    | false => rw [ac2_cv h]; rfl
  have hrun := va_runV (p := p) (l := l) (e := e) (R := R) (s := s) (m := m) (args := args) (below := below) (meth := meth) (c := c) (H := H) (locs := locs) (cells := k) (slots := n) (As := as.map (cv (cY Y ks' lk' μ))) (rest := S.map (cv Y)) (b := Y.2.2 (mu μ 0) 0) (own := own) (C := y.cls) (n := N) (nL := nL) (Ts := BIG) (g := F0 m pc ls (st.map (cv Y))) (index := idx)
    ⟨hx, hb, hml, hown, hts⟩ (hM (fun j t => Y.2.2 (mu μ j) t) H.size) (ret := ret')
    ⟨callB_of (ws' := BIG) N hts (big_good hy2) rfl rfl rfl (hts _ hy1) (hts _ hlk) ⟨hy3, hy4, hy5⟩ ⟨hroom.1, hroom.2.1⟩, hts _ hi.1, hts _ hi.2⟩
    ⟨PCm.blind, hrcv, fun U hU hW => call_pre (as := rv 0 0 :: as) hC hP hS hG hD hU hW⟩ rfl (by simpa using hN) hl.1
    (by
      show st.map (cv Y) = _
      rw [← hst, List.map_append, List.map_reverse, List.map_map]
      congr 2
      refine List.map_congr_left (fun a _ => ?_)
      rcases a with v | ⟨j, u⟩ <;> rfl)
    (lv_room (by rw [hcat]; exact hst8)) hd ⟨hroom.2.2.1, hroom.2.2.2⟩
  exact run_on (Y2 := Y) hC (hD M) hP hS hl hrun kk
theorem r_callS (E : EN p s m args meth c G Y cc own nL ret) {idx : Nat} {y : MethodName} {b : ByteArray} {maxL N : Nat} {ret' : Option FieldType} {rm : Room} {ks' : List Nat} {lk' : Nat → Nat → Nat} {as : List AV} {post : Option AV → Mem → Prop} {μ : List Nat} {st : List AV}
    (hM : MC l G y b maxL ret' rm ks' lk' as (vw μ M) post) (hy : MYo y b maxL ret' N) (hi : Cond.static y ∈ BIG) (hlk : Cond.methodLink own idx y ∈ BIG) (hC : CM Y.1 Y.2.1 ks' lk' μ)
    (hN : as.length = N) (hst : (as.map (ren μ)).reverse ++ S = st) (hroom : rm.frames + 1 ≤ R.frames ∧ 8 + (maxL + 11) + rm.locals ≤ R.locals ∧ k + rm.cells ≤ R.cells ∧ n + rm.slots ≤ R.slots) (hst8 : (S.map fun v => if ac2 (some v) then 2 else 1).sum ≤ 8) (hd : decode cc pc = .ok (.invokestatic idx, 3))
    (kk : ∀ r M', post r M' → ∃ M2, Mrg ks'.length μ M M' M2 ∧ WM p l e R s m args below meth c G Y nL Q M2 (k + rm.cells) (n + rm.slots) (pc + 3) L ((r.map (ren μ)).toList ++ S)) : WM p l e R s m args below meth c G Y nL Q M k n pc L st := by
  intro H locs ls hP hS hl
  obtain ⟨hx, hb, hml, hown, hts, hr, hlk0, hG, hD⟩ := E
  obtain ⟨hy1, hy2, hy3, hy4, hy5⟩ := hy
  have hcat : ∀ S : List AV, ((S.map (cv Y)).map fun v => v.category).sum = (S.map fun v => if ac2 (some v) then 2 else 1).sum := by
    intro S
    rw [List.map_map]
    congr 1
    refine List.map_congr_left (fun a _ => ?_)
    show (cv Y a).category = _
    cases h : ac2 (some a) with
    | true => rw [ac2_cv2 h]; rfl
    | false => rw [ac2_cv h]; rfl
  have hrun := va_runS (p := p) (l := l) (e := e) (R := R) (s := s) (m := m) (args := args) (below := below) (meth := meth) (c := c) (H := H) (locs := locs) (cells := k) (slots := n) (As := as.map (cv (cY Y ks' lk' μ))) (rest := S.map (cv Y)) (own := own) (n := N) (nL := nL) (Ts := BIG) (g := F0 m pc ls (st.map (cv Y))) (index := idx)
    ⟨hx, hb, hml, hown, hts⟩ (hM (fun j t => Y.2.2 (mu μ j) t) H.size) (ret := ret')
    ⟨callB_of (ws' := BIG) N hts (big_good hy2) rfl rfl rfl (hts _ hy1) (hts _ hlk) ⟨hy3, hy4, hy5⟩ ⟨hroom.1, hroom.2.1⟩, hts _ hi⟩
    ⟨PCm.blind, fun U hU hW => call_pre (as := as) hC hP hS hG hD hU hW⟩ rfl (by simpa using hN) hl.1
    (by
      show st.map (cv Y) = _
      rw [← hst, List.map_append, List.map_reverse, List.map_map]
      congr 2
      refine List.map_congr_left (fun a _ => ?_)
      rcases a with v | ⟨j, u⟩ <;> rfl)
    (lv_room (by rw [hcat]; exact hst8)) hd ⟨hroom.2.2.1, hroom.2.2.2⟩
  exact run_on (Y2 := Y) hC (hD M) hP hS hl hrun kk
end RC
