/-! a world grows by a module, and shrinks again; loops that use room -/
section RK
variable {p : Program} {l : Launch} {e : Env} {R : Room} {s : State} {m : MethodId} {args : Array Value} {below : List Frame} {meth : Method} {c : Code} {G : GT} {Y : LV} {nL : Nat} {Q : State → Prop} {M : Mem} {k n pc : Nat} {L : List (Option AV)} {S : List AV} {cc : ByteArray} {own : String} {ret : Option FieldType}
theorem r_wide {k2 n2 : Nat} (hk : k ≤ k2) (hn : n ≤ n2) (kk : WM p l e R s m args below meth c G Y nL Q M k2 n2 pc L S) : WM p l e R s m args below meth c G Y nL Q M k n pc L S := fun H locs ls hP hS hl => W.widen hk hn (kk H locs ls hP hS hl)
/-- a counted loop whose turns use room -/
theorem r_forK (N : Nat) (I : Nat → Prop) (kf nf : Nat → Nat) (Mi : Nat → Mem) (Li : Nat → List (Option AV)) (h0 : I 0) (hk : kf 0 = k) (hn : nf 0 = n) (hM : Mi 0 = M) (hL : Li 0 = L) (step : ∀ i, i < N → I i → (I (i + 1) → WM p l e R s m args below meth c G Y nL Q (Mi (i + 1)) (kf (i + 1)) (nf (i + 1)) pc (Li (i + 1)) S) → WM p l e R s m args below meth c G Y nL Q (Mi i) (kf i) (nf i) pc (Li i) S) (fin : I N → WM p l e R s m args below meth c G Y nL Q (Mi N) (kf N) (nf N) pc (Li N) S) : WM p l e R s m args below meth c G Y nL Q M k n pc L S := by
  have h : ∀ d i, i + d = N → I i → WM p l e R s m args below meth c G Y nL Q (Mi i) (kf i) (nf i) pc (Li i) S := by
    intro d
    induction d with
    | zero => intro i hi hI; have : i = N := by omega
              subst this; exact fin hI
    | succ d ih => intro i hi hI; exact step i (by omega) hI (ih (i + 1) (by omega))
  subst hM; subst hL; subst hk; subst hn
  exact h N 0 (by omega) h0
/-- .. whose state is any of those that have a property -/
theorem r_forX {β : Type} (N : Nat) (I : Nat → β → Prop) (kf nf : Nat → Nat) (Mi : Nat → β → Mem) (Li : Nat → β → List (Option AV)) (x : β) (h0 : I 0 x) (hk : kf 0 = k) (hn : nf 0 = n) (hM : Mi 0 x = M) (hL : Li 0 x = L) (step : ∀ i x, i < N → I i x → (∀ y, I (i + 1) y → WM p l e R s m args below meth c G Y nL Q (Mi (i + 1) y) (kf (i + 1)) (nf (i + 1)) pc (Li (i + 1) y) S) → WM p l e R s m args below meth c G Y nL Q (Mi i x) (kf i) (nf i) pc (Li i x) S) (fin : ∀ x, I N x → WM p l e R s m args below meth c G Y nL Q (Mi N x) (kf N) (nf N) pc (Li N x) S) : WM p l e R s m args below meth c G Y nL Q M k n pc L S := by
  have h : ∀ d i x, i + d = N → I i x → WM p l e R s m args below meth c G Y nL Q (Mi i x) (kf i) (nf i) pc (Li i x) S := by
    intro d
    induction d with
    | zero => intro i x hi hI; have : i = N := by omega
              subst this; exact fin x hI
    | succ d ih => intro i x hi hI; exact step i x (by omega) hI (fun y hy => ih (i + 1) y (by omega) hy)
  subst hM; subst hL; subst hk; subst hn
  exact h N 0 x (by omega) h0
/-- one module more -/
def eY (Y : LV) (κ : Nat) (qa : Nat → Nat) : LV := (Y.1 ++ [κ], Y.2.1, fun j t => if j = Y.1.length then qa t else Y.2.2 j t)
/-- what the old modules point to is old -/
def eOK (Y : LV) (M : Mem) : Prop := Y.1.length < 97 ∧ (∀ j, j < Y.1.length → kdY Y j = 7 → ∀ i, i < 8 → Y.2.1 j i ≠ Y.1.length) ∧ ∀ j, j < Y.1.length → kdY Y j = 8 → (∀ k, k < 30 → fk 8 k = 2 → Y.2.1 j k ≠ Y.1.length) ∧ (M j 0 9).toNatClampNeg ≠ Y.1.length ∧ (M j 0 10).toNatClampNeg ≠ Y.1.length
theorem eY_kd {κ : Nat} {qa : Nat → Nat} {j : Nat} (hj : j < Y.1.length) : kdY (eY Y κ qa) j = kdY Y j := by
  show (Y.1 ++ [κ]).getD j 0 = Y.1.getD j 0
  rw [List.getD_eq_getElem?_getD, List.getD_eq_getElem?_getD, List.getElem?_append_left hj]
theorem eY_kN {κ : Nat} {qa : Nat → Nat} : kdY (eY Y κ qa) Y.1.length = κ := by
  show (Y.1 ++ [κ]).getD Y.1.length 0 = κ
  rw [List.getD_eq_getElem?_getD, List.getElem?_append_right (Nat.le_refl _), Nat.sub_self]
  rfl
theorem eY_o {κ : Nat} {qa : Nat → Nat} {j : Nat} (hj : j ≠ Y.1.length) : (eY Y κ qa).2.2 j = Y.2.2 j := by
  funext t
  exact if_neg hj
theorem fk_8 : ∀ k, k < 30 → fk 8 k = 0 ∨ fk 8 k = 1 ∨ fk 8 k = 2 ∨ k = 9 ∨ k = 10 := by decide +kernel
theorem fk_n {κ k : Nat} (h : 30 ≤ k) : fk κ k = 0 := by
  unfold fk
  rcases Nat.lt_or_ge κ 16 with h1 | h1
  · rw [List.getD_eq_getElem?_getD, List.getElem?_eq_none (Nat.le_trans (FK_len κ h1) h)]
    rfl
  · rw [List.getD_eq_getElem?_getD (l := FK), List.getElem?_eq_none (show FK.length ≤ κ from h1)]
    rfl
theorem ceY_ext {κ : Nat} {qa : Nat → Nat} (hok : eOK Y M) {j t : Nat} (hj : j < Y.1.length) : ceY G (eY Y κ qa) (M j) j t = ceY G Y (M j) j t := by
  obtain ⟨h97, h7, h8⟩ := hok
  have hkk := eY_kd (κ := κ) (qa := qa) hj
  have hne : j ≠ Y.1.length := Nat.ne_of_lt hj
  unfold ceY
  rw [hkk]
  cases ha : ae (kdY Y j) t with
  | some q =>
    have : ∀ f, arC (eY Y κ qa) q.1 j f = arC Y q.1 j f := by
      intro f
      obtain ⟨c, n⟩ := q
      rcases (show c = 0 ∨ c = 1 ∨ c = 2 ∨ c = 3 ∨ c = 4 ∨ 5 ≤ c by omega) with rfl | rfl | rfl | rfl | rfl | hc
      · rfl
      · rfl
      · rfl
      · rfl
      · have hk7 : kdY Y j = 7 := by
          have : kdY Y j < 16 := by
            rcases Nat.lt_or_ge (kdY Y j) 16 with h | h
            · exact h
            · exfalso
              unfold ae at ha
              rw [List.getD_eq_getElem?_getD, List.getElem?_eq_none (show AE.length ≤ kdY Y j from h)] at ha
              cases ha
          have h12 : ∀ κ, κ < 16 → ∀ q ∈ AE.getD κ [], q.2.1 = 4 → κ = 7 := by decide +kernel
          have hm : ∃ q ∈ AE.getD (kdY Y j) [], q.2.1 = 4 := by
            unfold ae at ha
            obtain ⟨l1, l2, he, -⟩ := List.lookup_eq_some_iff.mp ha
            exact ⟨(t, 4, n), by rw [he]; simp, rfl⟩
          obtain ⟨q, hq1, hq2⟩ := hm
          exact h12 _ this q hq1 hq2
        show Sum.inr (Sum.inr (Sum.inr (Sum.inr _))) = Sum.inr (Sum.inr (Sum.inr (Sum.inr _)))
        congr 4
        funext i
        show some ((eY Y κ qa).2.2 (Y.2.1 j (min i 7)) 0) = some (Y.2.2 (Y.2.1 j (min i 7)) 0)
        rw [eY_o (h7 j hj hk7 (min i 7) (by omega))]
      · obtain ⟨c, rfl⟩ : ∃ c', c = c' + 5 := ⟨c - 5, by omega⟩
        show Sum.inr (Sum.inr (Sum.inr (Sum.inr _))) = Sum.inr (Sum.inr (Sum.inr (Sum.inr _)))
        congr 4
        funext i
        cases c with
        | zero =>
          show some ((eY Y κ qa).2.2 j (8 + i)) = some (Y.2.2 j (8 + i))
          rw [eY_o hne]
        | succ c =>
          cases c with
          | zero =>
            show (if f i < 0 then none else some ((eY Y κ qa).2.2 98 (f i).toNatClampNeg)) = (if f i < 0 then none else some (Y.2.2 98 (f i).toNatClampNeg))
            rw [eY_o (by omega)]
          | succ c =>
            show some ((eY Y κ qa).2.2 j (20 + 7 * (c + 1 + 1 + 5 - 7) + i)) = some (Y.2.2 j (20 + 7 * (c + 1 + 1 + 5 - 7) + i))
            rw [eY_o hne]
    simp only [this]
  | none =>
    have hf : ∀ k, cv (eY Y κ qa) (fv (eY Y κ qa) j k (M j)) = cv Y (fv Y j k (M j)) := by
      intro k
      unfold fv
      rw [hkk]
      by_cases he : kdY Y j = 8
      · obtain ⟨g2, g9, g10⟩ := h8 j hj he
        rw [he]
        rcases Nat.lt_or_ge k 30 with hk | hk
        · rcases h : fk 8 k with _ | _ | _ | z
          · rfl
          · show Value.ref ((eY Y κ qa).2.2 j (k + 1)) = Value.ref (Y.2.2 j (k + 1))
            rw [eY_o hne]
          · show Value.ref ((eY Y κ qa).2.2 (Y.2.1 j k) 0) = Value.ref (Y.2.2 (Y.2.1 j k) 0)
            rw [eY_o (g2 k hk h)]
          · show Value.ref ((eY Y κ qa).2.2 ((M j 0 k).toNatClampNeg) 0) = Value.ref (Y.2.2 ((M j 0 k).toNatClampNeg) 0)
            rcases fk_8 k hk with h1 | h1 | h1 | rfl | rfl
            · rw [h] at h1; omega
            · rw [h] at h1; omega
            · rw [h] at h1; omega
            · rw [eY_o g9]
            · rw [eY_o g10]
        · rw [fk_n hk]
          rfl
      · rcases fk_small _ k he with h | h
        · rw [h]; rfl
        · rw [h]
          show Value.ref ((eY Y κ qa).2.2 j (k + 1)) = Value.ref (Y.2.2 j (k + 1))
          rw [eY_o hne]
    simp only [hf]
theorem KY_ext {κ : Nat} {qa : Nat → Nat} : KY (eY Y κ qa) = KY Y ++ (KT κ).map (fun t => (Y.1.length, t)) := by
  have h : (eY Y κ qa).1.length = Y.1.length + 1 := by
    show (Y.1 ++ [κ]).length = _
    simp
  unfold KY
  rw [h, List.range_succ, List.flatMap_append]
  have h2 : ∀ (l : List Nat), (∀ j ∈ l, j < Y.1.length) → l.flatMap (fun j => (KT (kdY (eY Y κ qa) j)).map (fun t => (j, t))) = l.flatMap (fun j => (KT (kdY Y j)).map (fun t => (j, t))) := by
    intro l
    induction l with
    | nil => intro _; rfl
    | cons a t ih =>
      intro h
      rw [List.flatMap_cons, List.flatMap_cons, ih (fun j hj => h j (List.mem_cons_of_mem _ hj)), eY_kd (h a List.mem_cons_self)]
  rw [h2 _ (fun j hj => List.mem_range.mp hj)]
  refine congrArg (fun z => _ ++ z) ?_
  rw [List.flatMap_cons, List.flatMap_nil, List.append_nil, eY_kN]
theorem wl_ext {κ : Nat} {qa : Nat → Nat} {Z : Nat → Nat → Int32} (hok : eOK Y M) : wl G (eY Y κ qa) (setm M Y.1.length Z) = wl G Y M ++ (KT κ).map (fun t => (qa t, ceY G (eY Y κ qa) Z Y.1.length t)) := by
  unfold wl
  rw [KY_ext, List.map_append, List.map_map]
  congr 1
  · refine List.map_congr_left ?_
    rintro ⟨j, t⟩ hq
    have hj := (KY_mem.mp hq).1
    have hne : j ≠ Y.1.length := Nat.ne_of_lt hj
    show ((eY Y κ qa).2.2 j t, ceY G (eY Y κ qa) (setm M Y.1.length Z j) j t) = (Y.2.2 j t, ceY G Y (M j) j t)
    rw [setm_n hne, ceY_ext hok hj, eY_o hne]
  · refine List.map_congr_left (fun t _ => ?_)
    show ((eY Y κ qa).2.2 Y.1.length t, ceY G (eY Y κ qa) (setm M Y.1.length Z Y.1.length) Y.1.length t) = _
    rw [setm_s]
    congr 1
    exact if_pos rfl
/-- the larger world is as free as the smaller -/
theorem EN_ext {κ : Nat} {qa : Nat → Nat} {Z : Nat → Nat → Int32} (E : EN p s m args meth c G Y cc own nL ret) (hok : eOK Y M) (hD : va_D (AS Y s.heap.size) (wl G Y M ++ (KT κ).map (fun t => (qa t, ceY G (eY Y κ qa) Z Y.1.length t)))) : EN p s m args meth c G (eY Y κ qa) cc own nL ret ∧ (∀ z, AS (eY Y κ qa) s.heap.size z ↔ AS Y s.heap.size z) := by
  have hfr : ∀ t ∈ KT κ, s.heap.size ≤ qa t := by
    intro t ht
    obtain ⟨i, hi⟩ := List.getElem?_of_mem ht
    have h1 : (wl G Y M ++ (KT κ).map (fun t => (qa t, ceY G (eY Y κ qa) Z Y.1.length t)))[(wl G Y M).length + i]? = some (qa t, ceY G (eY Y κ qa) Z Y.1.length t) := by
      rw [List.getElem?_append_right (Nat.le_add_right _ _), Nat.add_sub_cancel_left, List.getElem?_map, hi]
      rfl
    rcases hD.2 _ _ h1 with ⟨x, hx, h2⟩ | h2
    · exfalso
      obtain ⟨i2, hi2⟩ := List.getElem?_of_mem hx
      have h3 : (wl G Y M)[i2]? = some (Y.2.2 x.1 x.2, ceY G Y (M x.1) x.1 x.2) := by unfold wl; rw [List.getElem?_map, hi2]; rfl
      have h4 := (List.getElem?_eq_some_iff.mp h3).1
      have h5 := hD.1 _ _ _ _ (show (wl G Y M ++ _)[i2]? = _ by rw [List.getElem?_append_left h4]; exact h3) h1 h2
      omega
    · exact h2
  have hAS : ∀ z, AS (eY Y κ qa) s.heap.size z ↔ AS Y s.heap.size z := by
    intro z
    constructor
    · rintro (⟨⟨j, t⟩, hx, hz⟩ | h)
      · rw [KY_ext] at hx
        rcases List.mem_append.mp hx with h | h
        · have hne : j ≠ Y.1.length := Nat.ne_of_lt (KY_mem.mp h).1
          exact Or.inl ⟨(j, t), h, by rw [← hz, eY_o hne]⟩
        · obtain ⟨t2, ht2, he⟩ := List.mem_map.mp h
          have e1 : Y.1.length = j := (Prod.mk.inj he).1
          have e2 : t2 = t := (Prod.mk.inj he).2
          have hz2 : qa t2 = z := by
            rw [← hz, ← e1, e2]
            exact (if_pos rfl).symm
          exact Or.inr (hz2 ▸ hfr t2 ht2)
      · exact Or.inr h
    · rintro (⟨⟨j, t⟩, hx, hz⟩ | h)
      · have hne : j ≠ Y.1.length := Nat.ne_of_lt (KY_mem.mp hx).1
        exact Or.inl ⟨(j, t), by rw [KY_ext]; exact List.mem_append_left _ hx, by rw [eY_o hne]; exact hz⟩
      · exact Or.inr h
  obtain ⟨hx, hb, hml, hown, hts, hr, hlk, hG, hD0⟩ := E
  have hG2 : GF G (eY Y κ qa) (AS (eY Y κ qa) s.heap.size) s s.heap := GF.heap (Y := Y) (A := AS Y s.heap.size) (H := s.heap) (fun i hi => eY_o (by have := hok.1; omega)) (fun q hq => (hAS q).mp hq) (fun _ _ _ => rfl) hG
  have hsame : ∀ (M' : Mem) (i : Nat) (x : Nat × va_E), (wl G (eY Y κ qa) M')[i]? = some x → ∃ y, (wl G Y M ++ (KT κ).map (fun t => (qa t, ceY G (eY Y κ qa) Z Y.1.length t)))[i]? = some (x.1, y) := by
    intro M' i x hx
    rw [← wl_ext hok]
    unfold wl at hx ⊢
    rw [List.getElem?_map] at hx ⊢
    cases hk : (KY (eY Y κ qa))[i]? with
    | none => rw [hk] at hx; cases hx
    | some z =>
      rw [hk] at hx
      have h2 := Option.some.inj hx
      subst h2
      exact ⟨_, rfl⟩
  refine ⟨⟨hx, hb, hml, hown, hts, hr, hlk, hG2, fun M' => ⟨fun i j x z h1 h2 h => ?_, fun i x h1 => ?_⟩⟩, hAS⟩
  · obtain ⟨y1, e1⟩ := hsame M' i x h1
    obtain ⟨y2, e2⟩ := hsame M' j z h2
    exact hD.1 i j _ _ e1 e2 h
  · obtain ⟨y1, e1⟩ := hsame M' i x h1
    exact (hAS _).mpr (hD.2 i (x.1, y1) e1)
/-- a new array of ints as a module of its own -/
theorem r_newI (E : EN p s m args meth c G Y cc own nL ret) {N κ : Nat} {x : Int32} (hd : decode cc pc = .ok (.newarray .int, 2)) (hw : Cond.arrayClass .int ∈ BIG) (hκ : KT κ = [0]) (hae : ae κ 0 = some (0, N)) (h0 : ¬ x < 0) (hN : x.toNatClampNeg = N) (hB : N * 4 ≤ 536870912) (hc : k + 1 ≤ R.cells) (hs : n + N ≤ R.slots) (hok : eOK Y M)
    (hL : ∀ qa, lvl (eY Y κ qa) 0 L = lvl Y 0 L) (hS9 : ∀ qa, S.map (cv (eY Y κ qa)) = S.map (cv Y))
    (kk : ∀ qa : Nat → Nat, EN p s m args meth c G (eY Y κ qa) cc own nL ret → (∀ z, AS (eY Y κ qa) s.heap.size z ↔ AS Y s.heap.size z) → WM p l e R s m args below meth c G (eY Y κ qa) nL Q (setm M Y.1.length (fun _ _ => 0)) (k + 1) (n + N) (pc + 2) L (rv Y.1.length 0 :: S)) : WM p l e R s m args below meth c G Y nL Q M k n pc L (iv x :: S) := by
  intro H locs ls hP hS hl
  have E0 := E
  obtain ⟨hx, hb, hml, hown, hts, hr, hlk, hG, hD⟩ := E
  refine va_newa (D := G.1) (a0 := (N, .inl (fun _ => 0))) hx hb (atype := .int) (hts _ hw) (ty := .int) rfl hG.2.1 hP (hD M) hS (fun q hq => Or.inr hq) (fun _ => rfl) h0 hN hB hc hs hd (fun q cA H1 hK1 hP1 hD1 hS1 => ?_)
  have e1 : s.vm.findClass ("[" ++ FieldType.int.toString) = some cA := (hK1.2 (tyG G).length (cA, .int) (by rw [List.getElem?_append_right (Nat.le_refl _), Nat.sub_self]; rfl)).2
  have e2 : s.vm.findClass ("[" ++ FieldType.int.toString) = some (G.2.1 0) := (hG.2.1.2 0 (G.2.1 0, .int) rfl).2
  have e3 : cA = G.2.1 0 := Option.some.inj (e1.symm.trans e2)
  subst e3
  have hX : wl G Y M ++ [(q, .inl (G.2.1 0, (N, .inl (fun _ => 0))))] = wl G Y M ++ (KT κ).map (fun t => ((fun _ => q) t, ceY G (eY Y κ (fun _ => q)) (fun _ _ => 0) Y.1.length t)) := by
    rw [hκ]
    show _ ++ [_] = _ ++ [(q, ceY G (eY Y κ (fun _ => q)) (fun _ _ => 0) Y.1.length 0)]
    congr 3
    unfold ceY
    rw [eY_kN, hae]
    rfl
  rw [hX] at hP1 hD1
  obtain ⟨E1, hAS⟩ := EN_ext E0 hok hD1
  have h2 := kk (fun _ => q) E1 hAS H1 locs ls (by rw [wl_ext hok]; exact hP1) ⟨hS1.1, fun z h1 h2 => hS1.2.1 z h1 (fun h => h2 ((hAS z).mpr h)), fun z hz => (hAS _).mpr (hS1.2.2 z hz)⟩ (by rw [hL]; exact hl)
  have h3 : (rv Y.1.length 0 :: S).map (cv (eY Y κ (fun _ => q))) = Value.ref q :: S.map (cv Y) := by
    rw [List.map_cons, hS9]
    congr 1
    show Value.ref (if Y.1.length = Y.1.length then q else _) = _
    rw [if_pos rfl]
  rw [h3] at h2
  exact h2
/-- .. and is no longer spoken of -/
theorem r_drop {κ : Nat} {qa : Nat → Nat} {M2 : Mem} (hAS : ∀ z, AS (eY Y κ qa) s.heap.size z ↔ AS Y s.heap.size z) (hM : ∀ j, j < Y.1.length → M2 j = M j) (hok : eOK Y M) (hL : lvl Y 0 L = lvl (eY Y κ qa) 0 L) (hS9 : S.map (cv Y) = S.map (cv (eY Y κ qa))) (kk : WM p l e R s m args below meth c G Y nL Q M2 k n pc L S) : WM p l e R s m args below meth c G (eY Y κ qa) nL Q M k n pc L S := by
  intro H locs ls hP hS hl
  rw [← hS9]
  refine kk H locs ls (va_P_of ?_) ⟨hS.1, fun z h1 h2 => hS.2.1 z h1 (fun h => h2 ((hAS z).mp h)), fun z hz => (hAS _).mp (hS.2.2 z hz)⟩ (by rw [hL]; exact hl)
  intro q hq
  obtain ⟨⟨j, t⟩, hk, rfl⟩ := List.mem_map.mp hq
  have hj := (KY_mem.mp hk).1
  have h1 : (j, t) ∈ KY (eY Y κ qa) := by rw [KY_ext]; exact List.mem_append_left _ hk
  have h2 := va_P_at hP (wl_in (G := G) (M := M) h1)
  rw [ceY_ext hok hj, eY_o (Nat.ne_of_lt hj)] at h2
  show va_at _ _ (Y.2.2 j t, ceY G Y (M2 j) j t) H
  rw [hM j hj]
  exact h2
end RK
theorem an_int : Cond.arrayClass .int ∈ BIG := bg_1 94 (by decide +kernel)
theorem eOK_KL {ad : Nat → Nat → Nat} {M : Mem} {κs : List Nat} (hκ : κs.length ≤ 4 ∧ ∀ κ ∈ κs, κ ≠ 7 ∧ κ ≠ 8) (h9 : (M 0 0 9).toNatClampNeg < 20) (h10 : (M 0 0 10).toNatClampNeg < 20) : eOK (KL ++ κs, lkC, ad) M := by
  have hlen : (KL ++ κs).length = 20 + κs.length := by rw [List.length_append]; rfl
  have hkd : ∀ j, j < (KL ++ κs).length → (KL ++ κs).getD j 0 = 7 ∨ (KL ++ κs).getD j 0 = 8 → j < 20 ∧ (KL ++ κs).getD j 0 = KL.getD j 0 := by
    intro j hj h
    rw [List.getD_eq_getElem?_getD] at h ⊢
    rcases Nat.lt_or_ge j KL.length with h1 | h1
    · rw [List.getElem?_append_left h1, List.getD_eq_getElem?_getD]
      exact ⟨h1, rfl⟩
    · exfalso
      rw [List.getElem?_append_right h1] at h
      have h2 : j - KL.length < κs.length := by rw [hlen] at hj; have : KL.length = 20 := rfl; omega
      rw [List.getElem?_eq_getElem h2] at h
      have h3 := hκ.2 _ (List.getElem_mem h2)
      rcases h with h | h
      · exact h3.1 h
      · exact h3.2 h
  have d7 : ∀ j, j < 20 → KL.getD j 0 = 7 → ∀ i, i < 8 → lkC j i < 20 := by decide +kernel
  have d8 : ∀ j, j < 20 → KL.getD j 0 = 8 → j = 0 ∧ ∀ k, k < 30 → fk 8 k = 2 → lkC j k < 20 := by decide +kernel
  refine ⟨by show (KL ++ κs).length < 97; omega, fun j hj h i hi => ?_, fun j hj h => ?_⟩
  · obtain ⟨h1, h2⟩ := hkd j hj (Or.inl h)
    have := d7 j h1 (h2 ▸ h) i hi
    show lkC j i ≠ (KL ++ κs).length
    omega
  · obtain ⟨h1, h2⟩ := hkd j hj (Or.inr h)
    obtain ⟨rfl, h3⟩ := d8 j h1 (h2 ▸ h)
    refine ⟨fun k hk hf => ?_, ?_, ?_⟩
    · have := h3 k hk hf
      show lkC 0 k ≠ (KL ++ κs).length
      omega
    · show _ ≠ (KL ++ κs).length
      omega
    · show _ ≠ (KL ++ κs).length
      omega
