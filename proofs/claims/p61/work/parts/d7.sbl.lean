/-! the law's StringBuilder: a module whose kind says its room; a world with explicit cells beside the modules -/
def SBk (κ N : Nat) : Prop := (κ = 12 ∧ N = 16) ∨ (κ = 13 ∧ N = 34) ∨ (κ = 14 ∧ N = 70) ∨ (κ = 15 ∧ N = 142)
def sbM (n : Nat) (f : Nat → Int32) : Nat → Nat → Int32 := fun t i => if t = 0 then (if i = 3 then nI n else 0) else if t = 1 then f i else 0
theorem SBk_q {κ N n w : Nat} (h : SBk κ N) (h1 : n ≤ N) (h2 : w ≤ 7) (h3 : n + w ≤ 142) : SBq N (n + w) := by
  unfold SBq
  rcases h with ⟨_, rfl⟩ | ⟨_, rfl⟩ | ⟨_, rfl⟩ | ⟨_, rfl⟩ <;> omega
theorem SBk_gr {κ N q : Nat} (h : SBk κ N) (h1 : q ≤ 142) : ∃ κ', SBk κ' (gr N q) := by
  unfold gr
  by_cases hq : q ≤ N
  · exact ⟨κ, by rw [if_pos hq]; exact h⟩
  · rw [if_neg hq]
    unfold SBk at h ⊢
    rcases h with ⟨_, rfl⟩ | ⟨_, rfl⟩ | ⟨_, rfl⟩ | ⟨_, rfl⟩
    · exact ⟨13, by omega⟩
    · exact ⟨14, by omega⟩
    · exact ⟨15, by omega⟩
    · omega
theorem setm_id {M : Mem} {j : Nat} : setm M j (M j) = M := by
  funext g
  unfold setm
  split
  · rename_i h; rw [h]
  · rfl
theorem sb_cells {G : GT} {Y : LV} {κ N n : Nat} {qa : Nat → Nat} {f : Nat → Int32} (hκ : SBk κ N) : (KT κ).map (fun t => (qa t, ceY G (eY Y κ qa) (sbM n f) Y.1.length t)) = [(qa 0, sO (qa 1) n), (qa 1, bA G N f)] := by
  have e1 : (eY Y κ qa).2.2 Y.1.length 1 = qa 1 := if_pos rfl
  have o : ∀ κ, κ = 12 ∨ κ = 13 ∨ κ = 14 ∨ κ = 15 → KT κ = [0, 1] ∧ ae κ 0 = none ∧ oc κ = some 1 ∧ fn κ = 4 ∧ fk κ 0 = 1 ∧ fk κ 1 = 0 ∧ fk κ 2 = 0 ∧ fk κ 3 = 0 := by
    rintro κ (rfl | rfl | rfl | rfl) <;> decide +kernel
  have o1 : ae κ 1 = some (1, N) := by rcases hκ with ⟨rfl, rfl⟩ | ⟨rfl, rfl⟩ | ⟨rfl, rfl⟩ | ⟨rfl, rfl⟩ <;> rfl
  obtain ⟨h1, h2, h3, h4, f0, f1, f2, f3⟩ := o κ (by unfold SBk at hκ; omega)
  rw [h1]
  show [(qa 0, ceY G (eY Y κ qa) (sbM n f) Y.1.length 0), (qa 1, ceY G (eY Y κ qa) (sbM n f) Y.1.length 1)] = _
  have c0 : ceY G (eY Y κ qa) (sbM n f) Y.1.length 0 = sO (qa 1) n := by
    unfold ceY
    rw [eY_kN, h2, h3, h4]
    show (Sum.inr (1, [cv (eY Y κ qa) (fv (eY Y κ qa) Y.1.length 0 (sbM n f)), cv (eY Y κ qa) (fv (eY Y κ qa) Y.1.length 1 (sbM n f)), cv (eY Y κ qa) (fv (eY Y κ qa) Y.1.length 2 (sbM n f)), cv (eY Y κ qa) (fv (eY Y κ qa) Y.1.length 3 (sbM n f))]) : va_E) = _
    unfold fv
    rw [eY_kN, f0, f1, f2, f3]
    show (Sum.inr (1, [Value.ref ((eY Y κ qa).2.2 Y.1.length 1), Value.int 0, Value.int 0, Value.int (nI n)]) : va_E) = _
    rw [e1]
  have c1 : ceY G (eY Y κ qa) (sbM n f) Y.1.length 1 = bA G N f := by
    unfold ceY
    rw [eY_kN, o1]
    rfl
  rw [c0, c1]
theorem sb_wl {G : GT} {Y : LV} {M : Mem} {κ N n : Nat} {qa : Nat → Nat} {f : Nat → Int32} (hok : eOK Y M) (hκ : SBk κ N) (h20 : M Y.1.length = sbM n f) : wl G (eY Y κ qa) M = wl G Y M ++ [(qa 0, sO (qa 1) n), (qa 1, bA G N f)] := by
  rw [← sb_cells (Y := Y) hκ, ← wl_ext hok, ← h20, setm_id]
theorem wl_same {G : GT} {Y : LV} {M M' : Mem} (h : ∀ j, j < Y.1.length → M' j = M j) : wl G Y M' = wl G Y M := wl_congr (fun j t hq => by rw [h j (KY_mem.mp hq).1])
theorem app_at {A : va_W} {cs : va_W} : ((List.range cs.length).map (A.length + ·)).map (fun i => (A ++ cs)[i]?) = cs.map some := by
  apply List.ext_getElem?
  intro i
  rw [List.map_map, List.getElem?_map, List.getElem?_map]
  rcases Nat.lt_or_ge i cs.length with h | h
  · rw [List.getElem?_range h]
    show some ((A ++ cs)[A.length + i]?) = _
    rw [List.getElem?_append_right (Nat.le_add_right _ _), Nat.add_sub_cancel_left, List.getElem?_eq_getElem h]
    rfl
  · rw [List.getElem?_eq_none (by simpa using h), List.getElem?_eq_none h]
    rfl
theorem app_at0 {A cs : va_W} : (List.range A.length).map (fun i => (A ++ cs)[i]?) = A.map some := by
  apply List.ext_getElem?
  intro i
  rw [List.getElem?_map, List.getElem?_map]
  rcases Nat.lt_or_ge i A.length with h | h
  · rw [List.getElem?_range h]
    show some ((A ++ cs)[i]?) = _
    rw [List.getElem?_append_left h, List.getElem?_eq_getElem h]
    rfl
  · rw [List.getElem?_eq_none (by simpa using h), List.getElem?_eq_none h]
    rfl
theorem va_nd_of : ∀ (l : List Nat), l.Nodup → va_nd l = true
  | [], _ => rfl
  | a :: t, h => by
    have h1 := List.nodup_cons.mp h
    show (decide (a ∉ t) && va_nd t) = true
    rw [va_nd_of t h1.2, decide_eq_true h1.1]
    rfl
theorem nd_range (n : Nat) : va_nd (List.range n) = true := va_nd_of _ List.nodup_range
theorem nd_shift (a n : Nat) : va_nd ((List.range n).map (a + ·)) = true := va_nd_of _ (by
  rw [List.Nodup, List.pairwise_map]
  exact List.Pairwise.imp (fun h e => h (Nat.add_left_cancel e)) (List.nodup_range (n := n)))
theorem shift_dis {a n : Nat} : ∀ i ∈ List.range a, i ∉ (List.range n).map (a + ·) := by
  intro i hi h
  obtain ⟨j, -, rfl⟩ := List.mem_map.mp h
  have := List.mem_range.mp hi
  omega
section SBL
variable {p : Program} {l : Launch} {e : Env} {R : Room} {s : State} {m : MethodId} {args : Array Value} {below : List Frame} {meth : Method} {c : Code} {G : GT} {ad : Nat → Nat → Nat} {nL : Nat} {Q : State → Prop} {M M0 : Mem} {k n pc : Nat} {L : List (Option AV)} {S : List AV} {cc : ByteArray} {own : String} {ret : Option FieldType} {tx : List Nat} {Z : Nat → Nat → Int32}
abbrev YK (ad : Nat → Nat → Nat) : LV := (KL, lkC, ad)
/-- the machine at pc with the text tx in the builder and Z in the law's object, wherever the builder's bytes are -/
def LWt (p : Program) (l : Launch) (e : Env) (R : Room) (s : State) (m : MethodId) (args : Array Value) (below : List Frame) (meth : Method) (c : Code) (G : GT) (ad : Nat → Nat → Nat) (cc : ByteArray) (own : String) (ret : Option FieldType) (nL : Nat) (Q : State → Prop) (M0 : Mem) (tx : List Nat) (Z : Nat → Nat → Int32) (k n pc : Nat) (L : List (Option AV)) (S : List AV) : Prop :=
  ∀ (κ N : Nat) (qa : Nat → Nat) (f : Nat → Int32) (M : Mem), SBk κ N → EN p s m args meth c G (eY (YK ad) κ qa) cc own nL ret → (∀ z, AS (eY (YK ad) κ qa) s.heap.size z ↔ AS (YK ad) s.heap.size z) → SBt N f tx → M 20 = sbM tx.length f → M 19 = Z → (∀ j, j < 19 → M j = M0 j) → WM p l e R s m args below meth c G (eY (YK ad) κ qa) nL Q M k n pc L S
theorem KL_20 : KL.length = 20 := rfl
theorem lw_wide {k2 n2 : Nat} (hk : k ≤ k2) (hn : n ≤ n2) (kk : LWt p l e R s m args below meth c G ad cc own ret nL Q M0 tx Z k2 n2 pc L S) : LWt p l e R s m args below meth c G ad cc own ret nL Q M0 tx Z k n pc L S := fun κ N qa f M h1 h2 h3 h4 h5 h6 h7 => r_wide hk hn (kk κ N qa f M h1 h2 h3 h4 h5 h6 h7)
theorem cv_eY {κ : Nat} {qa : Nat → Nat} {j t : Nat} (h : j ≠ 20) : cv (eY (YK ad) κ qa) (rv j t) = .ref (ad j t) := by
  show Value.ref ((eY (YK ad) κ qa).2.2 j t) = _
  rw [eY_o (by show j ≠ 20; exact h)]
/-- an append -/
theorem l_app {κ N : Nat} {qa : Nat → Nat} {f : Nat → Int32} (E0 : EN p s m args meth c G (YK ad) cc own nL ret) (hX : AX s) (h9 : (M0 0 0 9).toNatClampNeg < 20) (h10 : (M0 0 0 10).toNatClampNeg < 20) (hκ : SBk κ N) (E : EN p s m args meth c G (eY (YK ad) κ qa) cc own nL ret) (hAS : ∀ z, AS (eY (YK ad) κ qa) s.heap.size z ↔ AS (YK ad) s.heap.size z) (hSB : SBt N f tx) (h20 : M 20 = sbM tx.length f) (h19 : M 19 = Z) (hj : ∀ j, j < 19 → M j = M0 j)
    {idx : Nat} {y : MethodName} {b : ByteArray} {maxL : Nat} {as : List AV} {w : List Nat} {st : List AV} (hw : (tx ++ w).length ≤ 142)
    (hM : NC l G y b maxL (some (.object "java/lang/StringBuilder")) ({ frames := 5, cells := 1, slots := 142, locals := 112 } : Room) ad (.inl (.ref (qa 0)) :: as) [(qa 0, sO (qa 1) tx.length), (qa 1, bA G N f)] (SBp G (qa 0) tx N w)) (hyc : y.cls = "java/lang/StringBuilder") (hy : MYo y b maxL (some (.object "java/lang/StringBuilder")) as.length) (hi : Cond.instanceMethod y ∈ BIG ∧ Cond.selects y.cls y y ∈ BIG) (hlk : Cond.methodLink own idx y ∈ BIG)
    (hcv : as.map (cv (yz ad)) = as.map (cv (eY (YK ad) κ qa))) (hst : as.reverse ++ rv 20 0 :: S = st) (hroom : 6 ≤ R.frames ∧ 8 + (maxL + 11) + 112 ≤ R.locals ∧ k + 1 ≤ R.cells ∧ n + 142 ≤ R.slots) (hst8 : (S.map fun v => if ac2 (some v) then 2 else 1).sum ≤ 8) (hS9 : ∀ κ qa, S.map (cv (eY (YK ad) κ qa)) = S.map (cv (YK ad)))
    (hL9 : ∀ κ κ' (qa qa' : Nat → Nat), qa 0 = qa' 0 → lvl (eY (YK ad) κ qa) 0 L = lvl (eY (YK ad) κ' qa') 0 L) (hd : decode cc pc = .ok (.invokevirtual idx, 3))
    (kk : LWt p l e R s m args below meth c G ad cc own ret nL Q M0 (tx ++ w) Z (k + 1) (n + 142) (pc + 3) L (rv 20 0 :: S)) : WM p l e R s m args below meth c G (eY (YK ad) κ qa) nL Q M k n pc L st := by
  intro H locs ls hP hS hl
  have hok : eOK (YK ad) M := eOK_KL (κs := []) (by simp) (by rw [hj 0 (by decide)]; exact h9) (by rw [hj 0 (by decide)]; exact h10)
  have hwl := sb_wl (G := G) (qa := qa) hok hκ h20
  have hD0 := E.2.2.2.2.2.2.2.2 M
  rw [hwl] at hP hD0
  obtain ⟨hx, hb, hml, hown, hts, hr, hlk0, hG, hD⟩ := E
  obtain ⟨hy1, hy2, hy3, hy4, hy5⟩ := hy
  have hA : ∀ q : Nat, s.heap.size ≤ q → AS (eY (YK ad) κ qa) s.heap.size q := fun q hq => Or.inr hq
  have hGz : GF G (yz ad) (AS (eY (YK ad) κ qa) s.heap.size) s s.heap := GF.heap (Y := eY (YK ad) κ qa) (A := AS (eY (YK ad) κ qa) s.heap.size) (H := s.heap) (fun i hi => (eY_o (Y := YK ad) (by show 97 + i ≠ 20; omega)).symm) (fun _ h => h) (fun _ _ _ => rfl) hG
  generalize hA0 : wl G (YK ad) M = A0 at hP hD0
  have hC := app_at (A := A0) (cs := [(qa 0, sO (qa 1) tx.length), (qa 1, bA G N f)])
  have hR := app_at0 (A := A0) (cs := [(qa 0, sO (qa 1) tx.length), (qa 1, bA G N f)])
  have hq : (A0 ++ [(qa 0, sO (qa 1) tx.length), (qa 1, bA G N f)])[A0.length]? = some (qa 0, sO (qa 1) tx.length) := by
    rw [List.getElem?_append_right (Nat.le_refl _), Nat.sub_self]; rfl
  have hrcv := va_recv hG.2.1 hP (ci := 1) (q := (RJ4, TJ4, 4)) rfl hq
  have hc20 : cv (eY (YK ad) κ qa) (rv 20 0) = .ref (qa 0) := congrArg Value.ref (show (if 20 = KL.length then qa 0 else ad 20 0) = qa 0 from if_pos rfl)
  have hrun := va_runV (p := p) (l := l) (e := e) (R := R) (s := s) (m := m) (args := args) (below := below) (meth := meth) (c := c) (H := H) (locs := locs) (cells := k) (slots := n) (As := as.map (cv (yz ad))) (rest := S.map (cv (eY (YK ad) κ qa))) (b := qa 0) (own := own) (C := y.cls) (n := as.length) (nL := nL) (Ts := BIG) (g := F0 m pc ls (st.map (cv (eY (YK ad) κ qa)))) (index := idx)
    ⟨hx, hb, hml, hown, hts⟩ (hM H.size) (ret := some (.object "java/lang/StringBuilder"))
    ⟨callB_of (ws' := BIG) as.length hts (big_good hy2) rfl rfl rfl (hts _ hy1) (hts _ hlk) ⟨hy3, hy4, hy5⟩ ⟨hroom.1, hroom.2.1⟩, hts _ hi.1, hts _ hi.2⟩
    ⟨PNw.blind, by rw [hyc]; exact hrcv, fun U hU hW => z_pre (as := .inl (.ref (qa 0)) :: as) hC (nd_shift _ _) hP hD0 hS hA hX hGz hU hW⟩ rfl (by simp) hl.1
    (by
      show st.map (cv (eY (YK ad) κ qa)) = _
      rw [← hst, List.map_append, List.map_reverse, List.map_cons, hcv, hc20])
    (lv_room (by rw [cat_sum]; exact hst8)) hd ⟨hroom.2.2.1, hroom.2.2.2⟩
  refine z_on (Y := eY (YK ad) κ qa) hC hR (nd_range _) shift_dis hA hP hD0 hS hl hrun ?_
  rintro _ w2 ⟨rfl, b2, f2, rfl, hSB2⟩
  intro H1 locs1 ls1 hP1 hD1 hS1 hl1
  obtain ⟨κ2, hκ2⟩ := SBk_gr hκ hw
  obtain ⟨qb, hqb0, hqb1⟩ : ∃ qb : Nat → Nat, qb 0 = qa 0 ∧ qb 1 = b2 := ⟨fun t => if t = 0 then qa 0 else b2, rfl, rfl⟩
  rw [← hqb0, ← hqb1] at hP1 hD1
  have hok2 : eOK (YK ad) (setm M 20 (sbM (tx ++ w).length f2)) := eOK_KL (κs := []) (M := setm M 20 (sbM (tx ++ w).length f2)) (by simp) (by rw [setm_n (show (0 : Nat) ≠ 20 by decide), hj 0 (by decide)]; exact h9) (by rw [setm_n (show (0 : Nat) ≠ 20 by decide), hj 0 (by decide)]; exact h10)
  have hX1 : A0 ++ [(qb 0, sO (qb 1) (tx ++ w).length), (qb 1, bA G (gr N (tx ++ w).length) f2)] = wl G (eY (YK ad) κ2 qb) (setm M 20 (sbM (tx ++ w).length f2)) := by
    rw [← hA0, ← wl_same (M := M) (M' := setm M 20 (sbM (tx ++ w).length f2)) (fun j hj2 => setm_n (by have : j < 20 := hj2; omega))]
    exact (sb_wl (G := G) (qa := qb) hok2 hκ2 setm_s).symm
  have hD2 : va_D (AS (YK ad) s.heap.size) (wl G (YK ad) M ++ (KT κ2).map (fun t => (qb t, ceY G (eY (YK ad) κ2 qb) (sbM (tx ++ w).length f2) (YK ad).1.length t))) := by
    rw [sb_cells (Y := YK ad) hκ2, hA0]
    exact hD1.weaken (fun _ _ _ h => (hAS _).mp h)
  obtain ⟨E2, hAS2⟩ := EN_ext E0 hok hD2
  have h2 := kk κ2 _ qb f2 (setm M 20 (sbM (tx ++ w).length f2)) hκ2 E2 hAS2 hSB2 setm_s (by rw [setm_n (by decide)]; exact h19) (fun j hj2 => by rw [setm_n (by omega)]; exact hj j hj2) H1 locs1 ls1 (by rw [← hX1]; exact hP1) ⟨hS1.1, fun z g1 g2 => hS1.2.1 z g1 (fun g => g2 ((hAS2 z).mpr ((hAS z).mp g))), fun z hz => (hAS2 _).mpr ((hAS _).mp (hS1.2.2 z hz))⟩ (by rw [hL9 κ2 κ qb qa hqb0]; exact hl1)
  have h3 : (rv 20 0 :: S).map (cv (eY (YK ad) κ2 qb)) = Value.ref (qa 0) :: S.map (cv (eY (YK ad) κ qa)) := by
    rw [List.map_cons, hS9 κ2 qb, hS9 κ qa, ← hqb0]
    exact congrArg (· :: _) (congrArg Value.ref (show (if 20 = KL.length then qb 0 else ad 20 0) = qb 0 from if_pos rfl))
  rw [h3] at h2
  exact h2
end SBL
