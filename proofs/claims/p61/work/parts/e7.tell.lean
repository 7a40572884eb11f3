/-! toString(), and the call of told with the String that was made -/
theorem ceY_ad {G : GT} {ks : List Nat} {lk : Nat → Nat → Nat} {ad adt : Nat → Nat → Nat} {S : Nat → Nat → Int32} {j t : Nat} (hj : adt j = ad j) (h98 : adt 98 = ad 98) (h7 : ks.getD j 0 = 7 → ∀ i, i < 8 → adt (lk j i) = ad (lk j i)) (h8 : ks.getD j 0 = 8 → (∀ k, k < 30 → fk 8 k = 2 → adt (lk j k) = ad (lk j k)) ∧ adt (S 0 9).toNatClampNeg = ad (S 0 9).toNatClampNeg ∧ adt (S 0 10).toNatClampNeg = ad (S 0 10).toNatClampNeg) : ceY G (ks, lk, adt) S j t = ceY G (ks, lk, ad) S j t := by
  unfold ceY
  show (match ae (ks.getD j 0) t with | some q => _ | none => _) = (match ae (ks.getD j 0) t with | some q => _ | none => _)
  cases ha : ae (ks.getD j 0) t with
  | some q =>
    have : ∀ f, arC (ks, lk, adt) q.1 j f = arC (ks, lk, ad) q.1 j f := by
      intro f
      obtain ⟨c, n⟩ := q
      rcases (show c = 0 ∨ c = 1 ∨ c = 2 ∨ c = 3 ∨ c = 4 ∨ 5 ≤ c by omega) with rfl | rfl | rfl | rfl | rfl | hc
      · rfl
      · rfl
      · rfl
      · rfl
      · have hk7 : ks.getD j 0 = 7 := by
          have : ks.getD j 0 < 16 := by
            rcases Nat.lt_or_ge (ks.getD j 0) 16 with h | h
            · exact h
            · exfalso
              unfold ae at ha
              rw [List.getD_eq_getElem?_getD (l := AE), List.getElem?_eq_none (show AE.length ≤ ks.getD j 0 from h)] at ha
              cases ha
          have h12 : ∀ κ, κ < 16 → ∀ q ∈ AE.getD κ [], q.2.1 = 4 → κ = 7 := by decide +kernel
          have hm : ∃ q ∈ AE.getD (ks.getD j 0) [], q.2.1 = 4 := by
            unfold ae at ha
            obtain ⟨l1, l2, he, -⟩ := List.lookup_eq_some_iff.mp ha
            exact ⟨(t, 4, n), by rw [he]; simp, rfl⟩
          obtain ⟨q, hq1, hq2⟩ := hm
          exact h12 _ this q hq1 hq2
        show Sum.inr (Sum.inr (Sum.inr (Sum.inr _))) = Sum.inr (Sum.inr (Sum.inr (Sum.inr _)))
        congr 4
        funext i
        show some (adt (lk j (min i 7)) 0) = some (ad (lk j (min i 7)) 0)
        rw [h7 hk7 (min i 7) (by omega)]
      · obtain ⟨c, rfl⟩ : ∃ c', c = c' + 5 := ⟨c - 5, by omega⟩
        show Sum.inr (Sum.inr (Sum.inr (Sum.inr _))) = Sum.inr (Sum.inr (Sum.inr (Sum.inr _)))
        congr 4
        funext i
        cases c with
        | zero =>
          show some (adt j (8 + i)) = some (ad j (8 + i))
          rw [hj]
        | succ c =>
          cases c with
          | zero =>
            show (if f i < 0 then none else some (adt 98 (f i).toNatClampNeg)) = (if f i < 0 then none else some (ad 98 (f i).toNatClampNeg))
            rw [h98]
          | succ c =>
            show some (adt j (20 + 7 * (c + 1 + 1 + 5 - 7) + i)) = some (ad j (20 + 7 * (c + 1 + 1 + 5 - 7) + i))
            rw [hj]
    simp only [this]
  | none =>
    have hf : ∀ k, cv (ks, lk, adt) (fv (ks, lk, adt) j k S) = cv (ks, lk, ad) (fv (ks, lk, ad) j k S) := by
      intro k
      unfold fv
      show cv (ks, lk, adt) (match fk (ks.getD j 0) k with | 0 => _ | 1 => _ | 2 => _ | _ => _) = cv (ks, lk, ad) (match fk (ks.getD j 0) k with | 0 => _ | 1 => _ | 2 => _ | _ => _)
      by_cases he : ks.getD j 0 = 8
      · obtain ⟨g2, g9, g10⟩ := h8 he
        rw [he]
        rcases Nat.lt_or_ge k 30 with hk | hk
        · rcases h : fk 8 k with _ | _ | _ | z
          · rfl
          · show Value.ref (adt j (k + 1)) = Value.ref (ad j (k + 1))
            rw [hj]
          · show Value.ref (adt (lk j k) 0) = Value.ref (ad (lk j k) 0)
            rw [g2 k hk h]
          · show Value.ref (adt ((S 0 k).toNatClampNeg) 0) = Value.ref (ad ((S 0 k).toNatClampNeg) 0)
            rcases fk_8 k hk with h1 | h1 | h1 | rfl | rfl
            · rw [h] at h1; omega
            · rw [h] at h1; omega
            · rw [h] at h1; omega
            · rw [g9]
            · rw [g10]
        · rw [fk_n hk]
          rfl
      · rcases fk_small _ k he with h | h
        · rw [h]; rfl
        · rw [h]
          show Value.ref (adt j (k + 1)) = Value.ref (ad j (k + 1))
          rw [hj]
    have hf2 : (fun k => cv (ks, lk, adt) (fv (ks, lk, adt) j k S)) = fun k => cv (ks, lk, ad) (fv (ks, lk, ad) j k S) := funext hf
    exact congrArg (fun g : Nat → Value => (Sum.inr ((oc (ks.getD j 0)).getD 0, (List.range (fn (ks.getD j 0))).map g) : va_E)) hf2
theorem wl_ad {G : GT} {ad adt : Nat → Nat → Nat} {M : Mem} (h : ∀ j, j < 19 ∨ j = 98 → adt j = ad j) (h9 : (M 0 0 9).toNatClampNeg < 19) (h10 : (M 0 0 10).toNatClampNeg < 19) : wl G (KC, lkC, adt) M = wl G (KC, lkC, ad) M := by
  have d7 : ∀ j, j < 19 → KC.getD j 0 = 7 → ∀ i, i < 8 → lkC j i < 19 := by decide +kernel
  have d8 : ∀ j, j < 19 → KC.getD j 0 = 8 → j = 0 ∧ ∀ k, k < 30 → fk 8 k = 2 → lkC j k < 19 := by decide +kernel
  unfold wl
  refine List.map_congr_left ?_
  rintro ⟨j, t⟩ hq
  have hj : j < 19 := (KY_mem.mp hq).1
  show (adt j t, ceY G (KC, lkC, adt) (M j) j t) = (ad j t, ceY G (KC, lkC, ad) (M j) j t)
  rw [h j (Or.inl hj), ceY_ad (h j (Or.inl hj)) (h 98 (Or.inr rfl)) (fun h7 i hi => h _ (Or.inl (d7 j hj h7 i hi))) (fun h8 => by
    obtain ⟨rfl, g⟩ := d8 j hj h8
    exact ⟨fun k hk hf => h _ (Or.inl (g k hk hf)), h _ (Or.inl h9), h _ (Or.inl h10)⟩)]
theorem GXd_mk {G : GT} {s : State} {args : Array Value} {H : Heap} {t d n : Nat} {f : Nat → Int32} {A : Nat → Prop} (hts : ∀ w ∈ BIG, w.before args s = true) (hK : va_K G.1 vwCl (tyG G) s) (ht : va_at G.1 vwCl (t, .inr (0, [.ref d, .int 0, .int 0, .int 0])) H) (hd : va_at G.1 vwCl (d, bA G n f) H) (hA : ¬ A t) (hA2 : ¬ A d) : va_O "java/lang/String" t A s H ∧ va_OF "java/lang/String" "coder" "B" (.int 0) t A s H ∧ va_OF "java/lang/String" "value" "[B" (.ref d) t A s H ∧ va_T .byte d n (fun j => .int (f j)) A s H := by
  obtain ⟨r, hr, cell, q1, q2, q3, q4⟩ := ht
  obtain rfl : r = (RJ0, TJ0, 4) := (Option.some.inj hr).symm
  obtain ⟨hS, hfc, kC, hkC, hkind⟩ := hK.1 0 _ rfl
  refine ⟨⟨cell, q1, by rw [q3]; rfl, by rw [q2]; exact hfc, hA⟩, ?_, ?_, ?_⟩
  · obtain ⟨cf, kf, fi, f2, hi, hsl⟩ := hS 1 (by decide)
    exact ⟨cf, kf, fi, f2, cell, hi, (u_facts hfc hkC (u_lays hts inBJ0 (by decide)) hi).1, q1, by rw [q3]; exact fun h => (by cases h), by rw [hsl, q4 1 (by decide)]; rfl, hA⟩
  · obtain ⟨cf, kf, fi, f2, hi, hsl⟩ := hS 0 (by decide)
    exact ⟨cf, kf, fi, f2, cell, hi, (u_facts hfc hkC (u_lays hts inBJ0 (by decide)) hi).1, q1, by rw [q3]; exact fun h => (by cases h), by rw [hsl, q4 0 (by decide)]; rfl, hA⟩
  · have hc : H[d]? = some (vp_cell (G.2.1 1) (n, .inl f)) := hd
    have hz : (vp_cell (G.2.1 1) (n, .inl f)).slots.size = n := arrV_size _ _ _
    exact ⟨vp_cell (G.2.1 1) (n, .inl f), hc, (hK.2 1 (G.2.1 1, .byte) rfl).1 n (fun j => .int (f j)), fun q => (by cases q), by rw [hz]; exact Nat.le_refl _, congrArg Nat.toInt32 hz, fun j hj => arrV_read _ _ hj, hA2⟩
theorem va_Run.imp {p : Program} {l : Launch} {e : Env} {R : Room} {s : State} {m : MethodId} {args : Array Value} {below : List Frame} {meth : Method} {c : Code} {H : Heap} {locs : List Loc} {cells slots mc ms : Nat} {g : JFrame} {rest : List Value} {Qa Qb : State → Outcome → State → Prop} {fr fr2 : Addr → Prop} (h : va_Run p l e R s m args below meth c H locs cells slots mc ms g rest Qa fr) (hq : ∀ a b t, Qa a b t → Qb a b t) (hf : ∀ q, fr q → fr2 q) : va_Run p l e R s m args below meth c H locs cells slots mc ms g rest Qb fr2 := by
  intro T hT X
  obtain ⟨v, st₀, t, T', L, h0, X', hL, e1, e2, hQ, go⟩ := h T hT X
  exact ⟨v, st₀, t, T', L, h0, X', fun q hq => hf _ (hL q hq), e1, e2, hq _ _ _ hQ, go⟩
section TEL
variable {p : Program} {l : Launch} {e : Env} {s : State} {m : MethodId} {args : Array Value} {below : List Frame} {meth : Method} {c : Code} {G : GT} {ad : Nat → Nat → Nat} {Q : State → Prop} {M M0 : Mem} {k n : Nat} {tx : List Nat} {Z : Nat → Nat → Int32} {κ N : Nat} {qa : Nat → Nat} {f : Nat → Int32} {v9 : Int32}
/-- addresses with the made String where the told text stands -/
def adT (ad : Nat → Nat → Nat) (t d : Nat) : Nat → Nat → Nat := fun j u => if j = 97 ∧ u = 14 then t else if j = 99 ∧ u = 14 then d else ad j u
theorem adT_o {t d j : Nat} (h1 : j ≠ 97) (h2 : j ≠ 99) : adT ad t d j = ad j := by
  funext u
  unfold adT
  rw [if_neg (fun h => h1 h.1), if_neg (fun h => h2 h.1)]
theorem adT_u {t d j u : Nat} (h : u ≠ 14) : adT ad t d j u = ad j u := by
  unfold adT
  rw [if_neg (fun q => h q.2), if_neg (fun q => h q.2)]
set_option maxHeartbeats 4000000 in
theorem l_tell (C0 : LCx p s m args meth c G ad cL_law RL 9 (some .boolean) M0) (hκ : SBk κ N) (E : EN p s m args meth c G (eY (YK ad) κ qa) cL_law RL 9 (some .boolean)) (hAS : ∀ z, AS (eY (YK ad) κ qa) s.heap.size z ↔ AS (YK ad) s.heap.size z) (hSB : SBt N f tx) (h20 : M 20 = sbM tx.length f) (hj : ∀ j, j < 19 → M j = M0 j) {B0 : Nat → Nat → Int32} {bs : Nat → Int32} {t : TT} (hM1 : M0 1 = vTx B0 0 bs t) (h9 : (M0 0 0 9).toNatClampNeg < 19) (h10 : (M0 0 0 10).toNatClampNeg < 19) (hc7 : ∀ i, i < tx.length → tx.getD i 0 < 128) (h140 : tx.length ≤ 140) (hk : k ≤ 500000) (hn : n ≤ 7000000)
    (kk : ∀ b2 : Nat → Int32, (∀ i, i < tx.length → b2 i = nI (tx.getD i 0)) → WM p l e room_1 s m args below meth c G (YK ad) 9 Q (setm M 1 (vTx B0 tx.length b2 t)) (k + 10) (n + 186) 585 [some (rv 99 103), some (rv 0 0), some (rv 19 0), some (iv v9), none, none, none, none, none] []) : WM p l e room_1 s m args below meth c G (eY (YK ad) κ qa) 9 Q M k n 579 [some (rv 99 103), some (rv 0 0), some (rv 19 0), some (iv v9), none, none, none, none, none] [rv 20 0, rv 0 0] := by
  intro H locs ls hP hS hl
  obtain ⟨E0, hX, g9, g10⟩ := C0
  have hok : eOK (YK ad) M := eOK_KL (κs := []) (by simp) (by rw [hj 0 (by decide)]; exact g9) (by rw [hj 0 (by decide)]; exact g10)
  have hwl := sb_wl (G := G) (qa := qa) hok hκ h20
  have hD0 := E.2.2.2.2.2.2.2.2 M
  rw [hwl] at hP hD0
  obtain ⟨hx, hb, hml, hown, hts, hr, hlk0, hG, hD⟩ := E
  have hA : ∀ q : Nat, s.heap.size ≤ q → AS (eY (YK ad) κ qa) s.heap.size q := fun q hq => Or.inr hq
  have hGz : GF G (yz ad) (AS (eY (YK ad) κ qa) s.heap.size) s s.heap := GF.heap (Y := eY (YK ad) κ qa) (A := AS (eY (YK ad) κ qa) s.heap.size) (H := s.heap) (fun i hi => (eY_o (Y := YK ad) (by show 97 + i ≠ 20; omega)).symm) (fun _ h => h) (fun _ _ _ => rfl) hG
  generalize hA0 : wl G (YK ad) M = A0 at hP hD0
  have hC := app_at (A := A0) (cs := [(qa 0, sO (qa 1) tx.length), (qa 1, bA G N f)])
  have hR := app_at0 (A := A0) (cs := [(qa 0, sO (qa 1) tx.length), (qa 1, bA G N f)])
  have hq : (A0 ++ [(qa 0, sO (qa 1) tx.length), (qa 1, bA G N f)])[A0.length]? = some (qa 0, sO (qa 1) tx.length) := by
    rw [List.getElem?_append_right (Nat.le_refl _), Nat.sub_self]; rfl
  have hrcv := va_recv hG.2.1 hP (ci := 1) (q := (RJ4, TJ4, 4)) rfl hq
  have hc20 : cv (eY (YK ad) κ qa) (rv 20 0) = .ref (qa 0) := congrArg Value.ref (show (if 20 = KL.length then qa 0 else ad 20 0) = qa 0 from if_pos rfl)
  have hN142 : N ≤ 142 := by rcases hκ with ⟨_, rfl⟩ | ⟨_, rfl⟩ | ⟨_, rfl⟩ | ⟨_, rfl⟩ <;> decide
  have hrun := va_runV (p := p) (l := l) (e := e) (R := room_1) (s := s) (m := m) (args := args) (below := below) (meth := meth) (c := c) (H := H) (locs := locs) (cells := k) (slots := n) (As := []) (rest := [rv 0 0].map (cv (eY (YK ad) κ qa))) (b := qa 0) (own := RL) (C := RJ4) (n := 0) (nL := 9) (Ts := BIG) (g := F0 m 579 ls ([rv 20 0, rv 0 0].map (cv (eY (YK ad) κ qa)))) (index := 261)
    ⟨hx, hb, hml, hown, hts⟩ (sp_J4_toString l G ad (qa 0) (qa 1) tx.length N f hSB.1 hN142 hSB.2.1 H.size) (ret := some (.object "java/lang/String"))
    ⟨callB_of (ws' := BIG) 0 hts (big_good my_J4_toString_0e30d.2.1) rfl rfl rfl (hts _ my_J4_toString_0e30d.1) (hts _ ml_L_261) ⟨my_J4_toString_0e30d.2.2.1, my_J4_toString_0e30d.2.2.2.1, my_J4_toString_0e30d.2.2.2.2⟩ ⟨by decide, by decide⟩, hts _ iv_J4_toString_0e30d.1, hts _ iv_J4_toString_0e30d.2⟩
    ⟨PNw.blind, hrcv, fun U hU hW => z_pre (as := [.inl (.ref (qa 0))]) hC (nd_shift _ _) hP hD0 hS hA hX hGz hU hW⟩ rfl rfl hl.1
    (by
      show [rv 20 0, rv 0 0].map (cv (eY (YK ad) κ qa)) = _
      rw [List.map_cons, hc20]
      rfl)
    (Nat.le_of_ble_eq_true rfl) (dat dkL_law_k6 20 rfl) ⟨by show k + 2 ≤ 600086; omega, by show n + 146 ≤ 7301442; omega⟩
  refine z_on (Y := eY (YK ad) κ qa) (S := [rv 0 0]) (L := [some (rv 99 103), some (rv 0 0), some (rv 19 0), some (iv v9), none, none, none, none, none]) hC hR (nd_range _) shift_dis hA hP hD0 hS hl hrun ?_
  rintro _ w2 ⟨t0, d0, f2, rfl, rfl, hf2, hk2⟩
  intro H1 locs1 ls1 hP1 hD1 hS1 hl1
  have gt : va_at G.1 vwCl (t0, .inr (0, [.ref d0, .int 0, .int 0, .int 0])) H1 := va_P_at hP1 (List.mem_append_right _ List.mem_cons_self)
  have gd : va_at G.1 vwCl (d0, bA G tx.length f2) H1 := va_P_at hP1 (List.mem_append_right _ (by simp))
  have PA : va_P G.1 vwCl (wl G (YK ad) M) H1 := by
    rw [hA0]
    exact va_P_of (fun q hq => va_P_at hP1 (List.mem_append_left _ hq))
  have it : (A0 ++ [(t0, (.inr (0, [.ref d0, .int 0, .int 0, .int 0]) : va_E)), (qa 0, sO (qa 1) tx.length), (qa 1, bA G N f), (d0, bA G tx.length f2)])[A0.length]? = some (t0, .inr (0, [.ref d0, .int 0, .int 0, .int 0])) := by
    rw [List.getElem?_append_right (Nat.le_refl _), Nat.sub_self]; rfl
  have id0 : (A0 ++ [(t0, (.inr (0, [.ref d0, .int 0, .int 0, .int 0]) : va_E)), (qa 0, sO (qa 1) tx.length), (qa 1, bA G N f), (d0, bA G tx.length f2)])[A0.length + 3]? = some (d0, bA G tx.length f2) := by
    rw [List.getElem?_append_right (Nat.le_add_right _ _), Nat.add_sub_cancel_left]; rfl
  have hfresh : ∀ (i : Nat) (x : Nat × va_E), A0.length ≤ i → (A0 ++ [(t0, (.inr (0, [.ref d0, .int 0, .int 0, .int 0]) : va_E)), (qa 0, sO (qa 1) tx.length), (qa 1, bA G N f), (d0, bA G tx.length f2)])[i]? = some x → ¬ AS (KC, lkC, adT ad t0 d0) H1.size x.1 := by
    intro i x hi hx2 h
    rcases h with ⟨⟨j, u⟩, hju, he⟩ | h
    · have hj19 : j < 19 := (KY_mem.mp hju).1
      have hmem : (j, u) ∈ KY (YK ad) := KY_mem.mpr ⟨by show j < 20; omega, by
        have := (KY_mem.mp hju).2
        have e1 : kdY (YK ad) j = kdY (KC, lkC, adT ad t0 d0) j := ((cm_KL.2.1 j hj19).2).symm
        rw [e1]; exact this⟩
      obtain ⟨i2, hi2⟩ := List.getElem?_of_mem (wl_in (G := G) (M := M) hmem)
      rw [hA0] at hi2
      have hlt := (List.getElem?_eq_some_iff.mp hi2).1
      have e2 : adT ad t0 d0 j u = ad j u := by rw [adT_o (by omega) (by omega)]
      have h5 := hD1.1 i2 i _ _ (by rw [List.getElem?_append_left hlt]; exact hi2) hx2 (by show ad j u = x.1; rw [← e2]; exact he)
      omega
    · have := (hP1 i x hx2).lt
      omega
  have nt := hfresh _ _ (Nat.le_refl _) it
  have nd := hfresh _ _ (Nat.le_add_right _ 3) id0
  have hSk : va_S (AS (YK ad) s.heap.size) s.heap H1 locs1 := ⟨hS1.1, fun z g1 g2 => hS1.2.1 z g1 (fun g => g2 ((hAS z).mp g)), fun z hz => (hAS _).mp (hS1.2.2 z hz)⟩
  have hM1' : M 1 = vTx B0 0 bs t := (hj 1 (by decide)).trans hM1
  have hMs : M = setm M 1 (vTx B0 0 bs t) := by rw [← hM1', setm_id]
  have h9' : (M 0 0 9).toNatClampNeg < 19 := by rw [hj 0 (by decide)]; exact h9
  have h10' : (M 0 0 10).toNatClampNeg < 19 := by rw [hj 0 (by decide)]; exact h10
  have hASt : ∀ sz q, AS (KC, lkC, adT ad t0 d0) sz q ↔ AS (cY (YK ad) KC lkC []) sz q := by
    intro sz q
    constructor
    · rintro (⟨⟨j, u⟩, hju, he⟩ | h)
      · have hj19 : j < 19 := (KY_mem.mp hju).1
        exact Or.inl ⟨(j, u), hju, by rw [← he]; show ad j u = adT ad t0 d0 j u; rw [adT_o (by omega) (by omega)]⟩
      · exact Or.inr h
    · rintro (⟨⟨j, u⟩, hju, he⟩ | h)
      · have hj19 : j < 19 := (KY_mem.mp hju).1
        exact Or.inl ⟨(j, u), hju, by rw [← he]; show adT ad t0 d0 j u = ad j u; rw [adT_o (by omega) (by omega)]⟩
      · exact Or.inr h
  have hadw : ∀ j, j < 19 ∨ j = 98 → adT ad t0 d0 j = ad j := fun j hj2 => adT_o (by omega) (by omega)
  have hKd := sp_L_told l (G.1, G.2.1, G.2.2.1, (tx.length, f2)) h140 (fun i hi => ⟨tx.getD i 0, hc7 i hi, by show f2 i = _; rw [hk2 i hi]; exact hSB.2.2.1 i hi⟩) M (vw [] M) (B0 := B0) (bs := bs) (t := t) hMs h9' h10'
  have hrun2 := va_runS (p := p) (l := l) (e := e) (R := room_1) (s := s) (m := m) (args := args) (below := below) (meth := meth) (c := c) (H := H1) (locs := locs1) (cells := k + 2) (slots := n + 146) (As := [.ref (ad 0 0), .ref t0]) (rest := []) (own := RL) (n := 2) (nL := 9) (Ts := BIG) (g := F0 m 582 ls1 [.ref t0, .ref (ad 0 0)]) (index := 265)
    ⟨hx, hb, hml, hown, hts⟩ (hKd (adT ad t0 d0) H1.size) (ret := none)
    ⟨callB_of (ws' := BIG) 2 hts (big_good my_L_told.2.1) rfl rfl rfl (hts _ my_L_told.1) (hts _ ml_L_265) ⟨my_L_told.2.2.1, my_L_told.2.2.2.1, my_L_told.2.2.2.2⟩ ⟨by decide, by decide⟩, hts _ is_L_told⟩
    ⟨PCm.blind, fun U hU hW => by
      obtain ⟨c1, c2, c3, c4, c5⟩ := call_pre (as := [rv 0 0]) cm_KL PA hSk E0.2.2.2.2.2.2.2.1 E0.2.2.2.2.2.2.2.2 hU hW
      have hmap : ∀ M' : Mem, (wl (G.1, G.2.1, G.2.2.1, (tx.length, f2)) (KC, lkC, adT ad t0 d0) M').map Prod.fst = (wl G (cY (YK ad) KC lkC []) M').map Prod.fst := by
        intro M'
        unfold wl
        rw [List.map_map, List.map_map]
        refine List.map_congr_left ?_
        rintro ⟨j, u⟩ hq2
        have hj19 : j < 19 := (KY_mem.mp hq2).1
        show adT ad t0 d0 j u = ad j u
        rw [adT_o (by omega) (by omega)]
      have hwt : ∀ (M' : Mem) (i : Nat), ((wl (G.1, G.2.1, G.2.2.1, (tx.length, f2)) (KC, lkC, adT ad t0 d0) M')[i]?.map Prod.fst) = ((wl G (cY (YK ad) KC lkC []) M')[i]?.map Prod.fst) := fun M' i => by
        rw [← List.getElem?_map, ← List.getElem?_map, hmap M']
      refine ⟨?_, c2, ?_, fun M' => ⟨fun i j x y hx1 hy1 hxy => ?_, fun i x hx1 => ?_⟩, ?_⟩
      · show _ = ([Value.ref (adT ad t0 d0 0 0), Value.ref (adT ad t0 d0 97 14)] : List Value).toArray
        rw [adT_o (by decide) (by decide)]
        rfl
      · show va_P G.1 vwCl (wl G (KC, lkC, adT ad t0 d0) (vw [] M)) U.heap
        rw [wl_ad (M := vw [] M) hadw h9' h10']
        exact c3
      · have k1 := hwt M' i
        have k2 := hwt M' j
        rw [hx1] at k1
        rw [hy1] at k2
        obtain ⟨x', q1, q2⟩ := Option.map_eq_some_iff.mp k1.symm
        obtain ⟨y', r1, r2⟩ := Option.map_eq_some_iff.mp k2.symm
        exact (c4 M').1 i j x' y' q1 r1 (by rw [q2, r2]; exact hxy)
      · have k1 := hwt M' i
        rw [hx1] at k1
        obtain ⟨x', q1, q2⟩ := Option.map_eq_some_iff.mp k1.symm
        have := (c4 M').2 i x' q1
        rw [q2] at this
        exact (hASt _ _).mpr this
      · obtain ⟨e1, e2, e3, e4, e5⟩ := c5
        have hnar : ∀ q, AS (KC, lkC, adT ad t0 d0) H1.size q → AS (cY (YK ad) KC lkC []) H1.size q := fun q h => (hASt _ _).mp h
        refine ⟨e1, e2, fun i hi => ?_, ?_, ?_⟩
        · obtain ⟨s0, s1, s2, s3, s4⟩ := e3 i hi
          unfold GXs
          show vk_R _ _ _ (adT ad t0 d0 97 i) U ∧ va_O _ (adT ad t0 d0 97 i) _ U U.heap ∧ va_OF _ _ _ _ (adT ad t0 d0 97 i) _ U U.heap ∧ va_OF _ _ _ (.ref (adT ad t0 d0 99 i)) (adT ad t0 d0 97 i) _ U U.heap ∧ va_T _ (adT ad t0 d0 99 i) _ _ _ U U.heap
          rw [adT_u (by omega), adT_u (by omega)]
          exact ⟨s0, s1.narrow hnar, s2.narrow hnar, s3.narrow hnar, s4.narrow hnar⟩
        · obtain ⟨m1, m2, m3, m4⟩ := GXd_mk (A := AS (KC, lkC, adT ad t0 d0) H1.size) hts hG.2.1 gt gd nt nd
          have t97 : adT ad t0 d0 97 14 = t0 := if_pos ⟨rfl, rfl⟩
          have t99 : adT ad t0 d0 99 14 = d0 := (if_neg (by decide)).trans (if_pos ⟨rfl, rfl⟩)
          unfold GXd
          show va_O _ (adT ad t0 d0 97 14) _ U U.heap ∧ va_OF _ _ _ _ (adT ad t0 d0 97 14) _ U U.heap ∧ va_OF _ _ _ (.ref (adT ad t0 d0 99 14)) (adT ad t0 d0 97 14) _ U U.heap ∧ va_T _ (adT ad t0 d0 99 14) tx.length (fun j => .int (f2 j)) _ U U.heap
          rw [t97, t99, hU]
          exact ⟨va_O.moved hW.alike m1, va_OF.moved hW.alike m2, va_OF.moved hW.alike m3, va_T.moved hW.alike m4⟩
        · obtain ⟨z1, z2, z3, z4, z5, z6, z7, z8, z9⟩ := e5
          unfold GXz
          show va_Z _ _ _ _ _ U U.heap ∧ (va_Z _ _ _ (.ref (adT ad t0 d0 99 102)) _ U U.heap ∨ _) ∧ va_Z _ _ _ (.ref (adT ad t0 d0 99 100)) _ U U.heap ∧ va_T _ (adT ad t0 d0 99 100) _ _ _ U U.heap ∧ va_Z _ _ _ (.ref (adT ad t0 d0 99 101)) _ U U.heap ∧ va_T _ (adT ad t0 d0 99 101) _ _ _ U U.heap ∧ _ ∧ _ ∧ va_T _ (adT ad t0 d0 99 103) _ _ _ U U.heap
          rw [adT_u (by decide), adT_u (by decide), adT_u (by decide), adT_u (by decide)]
          exact ⟨z1.narrow hnar, z2.imp (fun h => h.narrow hnar) (fun h => h.narrow hnar), z3.narrow hnar, z4.narrow hnar, z5.narrow hnar, z6.narrow hnar, z7.narrow hnar, z8.narrow hnar, z9.narrow hnar⟩⟩ rfl rfl hl1.1 rfl (Nat.le_of_ble_eq_true rfl) (dat dkL_law_k6 21 rfl) ⟨by show k + 2 + 8 ≤ 600086; omega, by show n + 146 + 40 ≤ 7301442; omega⟩
  have hrun3 := va_Run.imp (Qb := QCm G (cY (YK ad) KC lkC []) (fun r M2 => r = none ∧ ∃ b2 : Nat → Int32, M2 = setm M 1 (vTx B0 tx.length b2 t) ∧ ∀ i, i < tx.length → b2 i = f2 i) H1.size #[.ref (ad 0 0), .ref t0]) (fr2 := AS (cY (YK ad) KC lkC []) H1.size) hrun2 (fun a b t1 hq => by
    obtain ⟨⟨r, M', q1, ⟨rfl, b2, rfl, q2⟩, q3⟩, q4⟩ := hq
    refine ⟨⟨none, _, q1, ⟨rfl, b2, rfl, q2⟩, ?_⟩, q4.1, fun q hq1 hq2 => q4.2 q hq1 (fun h => hq2 ((hASt _ _).mp h))⟩
    have e1 : wl G (KC, lkC, adT ad t0 d0) (setm M 1 (vTx B0 tx.length b2 t)) = wl G (KC, lkC, ad) (setm M 1 (vTx B0 tx.length b2 t)) := wl_ad hadw (by rw [setm_n (show (0 : Nat) ≠ 1 by decide)]; exact h9') (by rw [setm_n (show (0 : Nat) ≠ 1 by decide)]; exact h10')
    show va_P G.1 vwCl (wl G (KC, lkC, ad) _) _
    rw [← e1]
    exact q3) (fun q h => (hASt _ _).mp h)
  have hst2 : ((Option.map Sum.inl (some (Value.ref t0))).toList ++ [rv 0 0]).map (cv (eY (YK ad) κ qa)) = [Value.ref t0, Value.ref (ad 0 0)] := rfl
  rw [hst2]
  refine run_on (Y2 := YK ad) (Y := YK ad) (G := G) (M := M) (S := []) (L := [some (rv 99 103), some (rv 0 0), some (rv 19 0), some (iv v9), none, none, none, none, none]) cm_KL (E0.2.2.2.2.2.2.2.2 M) PA hSk hl1 hrun3 ?_
  rintro _ M' ⟨rfl, b2, rfl, hb2⟩
  refine ⟨_, Mrg_s1 rfl, ?_⟩
  exact kk b2 (fun i hi => by rw [hb2 i hi, hk2 i hi]; exact hSB.2.2.1 i hi)
end TEL
