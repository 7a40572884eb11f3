/-! the law's body: numbers, what its object holds, appends -/
section LNR
variable {p : Program} {l : Launch} {e : Env} {R : Room} {s : State} {m : MethodId} {args : Array Value} {below : List Frame} {meth : Method} {c : Code} {G : GT} {Y : LV} {nL : Nat} {Q : State → Prop} {M : Mem} {k n pc : Nat} {L : List (Option AV)} {S : List AV} {cc : ByteArray} {own : String} {ret : Option FieldType}
theorem l_iadd (E : EN p s m args meth c G Y cc own nL ret) {a b : Nat} (hd : decode cc pc = .ok (.iadd, 1)) (kk : WM p l e R s m args below meth c G Y nL Q M k n (pc + 1) L (iv (nI (a + b)) :: S)) : WM p l e R s m args below meth c G Y nL Q M k n pc L (iv (nI b) :: iv (nI a) :: S) := r_iadd E hd (by rw [nI_add]; exact kk)
theorem l_isub (E : EN p s m args meth c G Y cc own nL ret) {a b : Nat} (h : b ≤ a) (hd : decode cc pc = .ok (.isub, 1)) (kk : WM p l e R s m args below meth c G Y nL Q M k n (pc + 1) L (iv (nI (a - b)) :: S)) : WM p l e R s m args below meth c G Y nL Q M k n pc L (iv (nI b) :: iv (nI a) :: S) := r_isub E hd (by rw [pk_sub h]; exact kk)
theorem l_imul (E : EN p s m args meth c G Y cc own nL ret) {a b : Nat} (hd : decode cc pc = .ok (.imul, 1)) (kk : WM p l e R s m args below meth c G Y nL Q M k n (pc + 1) L (iv (nI (a * b)) :: S)) : WM p l e R s m args below meth c G Y nL Q M k n pc L (iv (nI b) :: iv (nI a) :: S) := r_imul E hd (by rw [pk_mul]; exact kk)
theorem l_irem (E : EN p s m args meth c G Y cc own nL ret) {a b : Nat} (ha : a < 2 ^ 31) (h0 : 0 < b) (hb : b < 2 ^ 31) (hd : decode cc pc = .ok (.irem, 1)) (kk : WM p l e R s m args below meth c G Y nL Q M k n (pc + 1) L (iv (nI (a % b)) :: S)) : WM p l e R s m args below meth c G Y nL Q M k n pc L (iv (nI b) :: iv (nI a) :: S) := r_irem E hd (nI_ne0 h0 hb) (by rw [pk_rem ha h0 hb]; exact kk)
theorem l_i2c (E : EN p s m args meth c G Y cc own nL ret) {a : Nat} (ha : a < 128) (hd : decode cc pc = .ok (.i2c, 1)) (kk : WM p l e R s m args below meth c G Y nL Q M k n (pc + 1) L (iv (nI a) :: S)) : WM p l e R s m args below meth c G Y nL Q M k n pc L (iv (nI a) :: S) := r_i2c E hd (by
  rw [(by decide +kernel : ∀ a, a < 128 → ((nI a).toUInt32 % 65536).toInt32 = nI a) a ha]; exact kk)
/-- a String constant, in a larger world -/
theorem l_ldc {κ : Nat} {qa : Nat → Nat} {ad : Nat → Nat → Nat} (E : EN p s m args meth c G (eY (YK ad) κ qa) cc own nL ret) {idx i : Nat} (hi : i < 14) (ho : JSo.getD i "" = own) (hk : JSk.getD i 0 = idx) (hd : decode cc pc = .ok (.ldc idx, 2)) (kk : WM p l e R s m args below meth c G (eY (YK ad) κ qa) nL Q M k n (pc + 2) L (rv 97 i :: S)) : WM p l e R s m args below meth c G (eY (YK ad) κ qa) nL Q M k n pc L S := q_ldc E hi ho hk hd kk
theorem l_ldcw (E : EN p s m args meth c G Y cc own nL ret) {idx i : Nat} (hi : i < 14) (ho : JSo.getD i "" = own) (hk : JSk.getD i 0 = idx) (hd : decode cc pc = .ok (.ldc_w idx, 3)) (kk : WM p l e R s m args below meth c G Y nL Q M k n (pc + 3) L (rv 97 i :: S)) : WM p l e R s m args below meth c G Y nL Q M k n pc L S := by
  intro H locs ls hP hS hl
  obtain ⟨hx, hb, hml, hown, hts, hr, hlk, ⟨hnw, hK, hX⟩, hD⟩ := E
  subst ho; subst hk
  intro T hT X
  obtain ⟨t, a1, b1⟩ := kk H locs ls hP hS hl T hT X
  exact ⟨t, X.ldcStringW hx hown (text := JSt.getD i "") (a := Y.2.2 97 i) (hX.1 i hi).1.1 (hX.1 i hi).1.2 (g := F0 m pc ls (S.map (cv Y))) rfl (by rw [hb]; exact hd) t a1, b1⟩
end LNR
/-- two-dimensional update -/
def upd2 (f : Nat → Nat → Int32) (r c : Nat) (y : Int32) : Nat → Nat → Int32 := fun a b => if a = r ∧ b = c then y else f a b
/-- the law's object while the setup is written: fields, heights, gutters, rows, columns and heights of the boots -/
def ZF (fl : Nat → Int32) (hi gu : Nat → Nat → Int32) (br bc tl : Nat → Int32) : Nat → Nat → Int32 := fun t k =>
  if t = 0 then fl k else if t = 8 then br k else if t = 9 then bc k else if t = 10 then tl k else if 20 ≤ t ∧ t < 27 then hi (t - 20) k else if 41 ≤ t ∧ t < 48 then gu (t - 41) k else 0
section ZFL
variable {fl : Nat → Int32} {hi gu : Nat → Nat → Int32} {br bc tl : Nat → Int32} {r k : Nat} {y : Int32}
theorem ZF_0 : ZF fl hi gu br bc tl 0 k = fl k := rfl
theorem ZF_8 : ZF fl hi gu br bc tl 8 k = br k := rfl
theorem ZF_9 : ZF fl hi gu br bc tl 9 k = bc k := rfl
theorem ZF_10 : ZF fl hi gu br bc tl 10 k = tl k := rfl
theorem ZF_h (hr : r < 7) : ZF fl hi gu br bc tl (20 + 7 * 0 + r) k = hi r k := by
  unfold ZF
  rw [if_neg (by omega), if_neg (by omega), if_neg (by omega), if_neg (by omega), if_pos (by omega), show 20 + 7 * 0 + r - 20 = r by omega]
theorem ZF_g (hr : r < 7) : ZF fl hi gu br bc tl (20 + 7 * 3 + r) k = gu r k := by
  unfold ZF
  rw [if_neg (by omega), if_neg (by omega), if_neg (by omega), if_neg (by omega), if_neg (by omega), if_pos (by omega), show 20 + 7 * 3 + r - 41 = r by omega]
theorem ZF_s0 : sett (ZF fl hi gu br bc tl) 0 (upd (ZF fl hi gu br bc tl 0) k y) = ZF (upd fl k y) hi gu br bc tl := by
  funext t i
  unfold sett
  by_cases h : t = 0
  · subst h; rfl
  · rw [if_neg h]; unfold ZF; rw [if_neg h, if_neg h]
theorem ZF_s8 : sett (ZF fl hi gu br bc tl) 8 (upd (ZF fl hi gu br bc tl 8) k y) = ZF fl hi gu (upd br k y) bc tl := by
  funext t i
  unfold sett
  by_cases h : t = 8
  · subst h; rfl
  · rw [if_neg h]; unfold ZF; rw [if_neg h, if_neg h]
theorem ZF_s9 : sett (ZF fl hi gu br bc tl) 9 (upd (ZF fl hi gu br bc tl 9) k y) = ZF fl hi gu br (upd bc k y) tl := by
  funext t i
  unfold sett
  by_cases h : t = 9
  · subst h; rfl
  · rw [if_neg h]; unfold ZF; rw [if_neg h, if_neg h]
theorem ZF_s10 : sett (ZF fl hi gu br bc tl) 10 (upd (ZF fl hi gu br bc tl 10) k y) = ZF fl hi gu br bc (upd tl k y) := by
  funext t i
  unfold sett
  by_cases h : t = 10
  · subst h; rfl
  · rw [if_neg h]; unfold ZF; rw [if_neg h, if_neg h]
theorem ZF_sh (hr : r < 7) : sett (ZF fl hi gu br bc tl) (20 + 7 * 0 + r) (upd (ZF fl hi gu br bc tl (20 + 7 * 0 + r)) k y) = ZF fl (upd2 hi r k y) gu br bc tl := by
  funext t i
  unfold sett
  by_cases h : t = 20 + 7 * 0 + r
  · subst h
    rw [if_pos rfl, ZF_h hr]
    unfold upd upd2
    by_cases hk : i = k
    · rw [if_pos hk, if_pos ⟨rfl, hk⟩]
    · rw [if_neg hk, if_neg (fun q => hk q.2), ZF_h hr]
  · rw [if_neg h]
    unfold ZF upd2
    have : ∀ z, 20 ≤ t ∧ t < 27 → (if t - 20 = r ∧ i = k then y else z) = z := fun z hz => if_neg (fun q => h (by omega))
    by_cases hz : 20 ≤ t ∧ t < 27
    · rw [this _ hz]
    · rw [if_neg hz, if_neg hz]
theorem ZF_sg (hr : r < 7) : sett (ZF fl hi gu br bc tl) (20 + 7 * 3 + r) (upd (ZF fl hi gu br bc tl (20 + 7 * 3 + r)) k y) = ZF fl hi (upd2 gu r k y) br bc tl := by
  funext t i
  unfold sett
  by_cases h : t = 20 + 7 * 3 + r
  · subst h
    rw [if_pos rfl, ZF_g hr]
    unfold upd upd2
    by_cases hk : i = k
    · rw [if_pos hk, if_pos ⟨rfl, hk⟩]
    · rw [if_neg hk, if_neg (fun q => hk q.2), ZF_g hr]
  · rw [if_neg h]
    unfold ZF upd2
    have : ∀ z, 41 ≤ t ∧ t < 48 → (if t - 41 = r ∧ i = k then y else z) = z := fun z hz => if_neg (fun q => h (by omega))
    by_cases hz : 41 ≤ t ∧ t < 48
    · rw [this _ hz]
    · rw [if_neg hz, if_neg hz]
end ZFL
/-- the law's addresses, the builder's object at z -/
abbrev Yz (ad : Nat → Nat → Nat) (z : Nat) : LV := (KL, lkC, fun j t => if j = 20 then z else ad j t)
section LAP
variable {p : Program} {l : Launch} {e : Env} {s : State} {m : MethodId} {args : Array Value} {below : List Frame} {meth : Method} {c : Code} {G : GT} {ad : Nat → Nat → Nat} {nL : Nat} {Q : State → Prop} {M M0 : Mem} {k n pc : Nat} {L : List (Option AV)} {cc : ByteArray} {own : String} {ret : Option FieldType} {tx : List Nat} {Z : Nat → Nat → Int32} {κ N : Nat} {qa : Nat → Nat} {f : Nat → Int32}
/-- what holds all through the law -/
def LCx (p : Program) (s : State) (m : MethodId) (args : Array Value) (meth : Method) (c : Code) (G : GT) (ad : Nat → Nat → Nat) (cc : ByteArray) (own : String) (nL : Nat) (ret : Option FieldType) (M0 : Mem) : Prop := EN p s m args meth c G (YK ad) cc own nL ret ∧ AX s ∧ (M0 0 0 9).toNatClampNeg < 20 ∧ (M0 0 0 10).toNatClampNeg < 20
/-- L names the builder's object at most -/
def LOK (L : List (Option AV)) : Prop := ∀ (ad : Nat → Nat → Nat) (κ : Nat) (qa : Nat → Nat), lvl (eY (YK ad) κ qa) 0 L = lvl (Yz ad (qa 0)) 0 L
theorem LOK.use (h : LOK L) : ∀ κ κ' (qa qa' : Nat → Nat), qa 0 = qa' 0 → lvl (eY (YK ad) κ qa) 0 L = lvl (eY (YK ad) κ' qa') 0 L := fun κ κ' qa qa' h2 => by rw [h, h, h2]
theorem l_appC (C : LCx p s m args meth c G ad cc own nL ret M0) (hκ : SBk κ N) (E : EN p s m args meth c G (eY (YK ad) κ qa) cc own nL ret) (hAS : ∀ z, AS (eY (YK ad) κ qa) s.heap.size z ↔ AS (YK ad) s.heap.size z) (hSB : SBt N f tx) (h20 : M 20 = sbM tx.length f) (h19 : M 19 = Z) (hj : ∀ j, j < 19 → M j = M0 j) {idx u : Nat} (hu : u < 128) (hw : tx.length + 1 ≤ 142) (hL : LOK L) (hlk : Cond.methodLink own idx yJ4_append_cf468 ∈ BIG) (hk : k + 1 ≤ 600086) (hn : n + 142 ≤ 7301442) (hd : decode cc pc = .ok (.invokevirtual idx, 3))
    (kk : LWt p l e room_1 s m args below meth c G ad cc own ret nL Q M0 (tx ++ [u]) Z (k + 1) (n + 142) (pc + 3) L [rv 20 0]) : WM p l e room_1 s m args below meth c G (eY (YK ad) κ qa) nL Q M k n pc L [iv (nI u), rv 20 0] :=
  l_app (w := [u]) C.1 C.2.1 C.2.2.1 C.2.2.2 hκ E hAS hSB h20 h19 hj (as := [iv (nI u)]) (by rw [List.length_append]; exact hw) (sp_J4_appendC l G ad (qa 0) (qa 1) N f tx u hu hSB (SBk_q hκ hSB.1 (by decide) hw)) rfl my_J4_append_cf468 iv_J4_append_cf468 hlk rfl rfl ⟨by decide, by decide, hk, hn⟩ (by decide) (fun _ _ => rfl) hL.use hd kk
theorem l_appI (C : LCx p s m args meth c G ad cc own nL ret M0) (hκ : SBk κ N) (E : EN p s m args meth c G (eY (YK ad) κ qa) cc own nL ret) (hAS : ∀ z, AS (eY (YK ad) κ qa) s.heap.size z ↔ AS (YK ad) s.heap.size z) (hSB : SBt N f tx) (h20 : M 20 = sbM tx.length f) (h19 : M 19 = Z) (hj : ∀ j, j < 19 → M j = M0 j) {idx v : Nat} (hv : v < 100) (hw : tx.length + 2 ≤ 142) (hL : LOK L) (hlk : Cond.methodLink own idx yJ4_append_bf812 ∈ BIG) (hk : k + 1 ≤ 600086) (hn : n + 142 ≤ 7301442) (hd : decode cc pc = .ok (.invokevirtual idx, 3))
    (kk : LWt p l e room_1 s m args below meth c G ad cc own ret nL Q M0 (tx ++ digs v) Z (k + 1) (n + 142) (pc + 3) L [rv 20 0]) : WM p l e room_1 s m args below meth c G (eY (YK ad) κ qa) nL Q M k n pc L [iv (nI v), rv 20 0] :=
  l_app (w := digs v) C.1 C.2.1 C.2.2.1 C.2.2.2 hκ E hAS hSB h20 h19 hj (as := [iv (nI v)]) (by rw [List.length_append]; have := digs_le v; omega) (sp_J4_appendI l G ad (qa 0) (qa 1) N f tx v hv hSB (SBk_q hκ hSB.1 (by have := digs_le v; omega) (by have := digs_le v; omega))) rfl my_J4_append_bf812 iv_J4_append_bf812 hlk rfl rfl ⟨by decide, by decide, hk, hn⟩ (by decide) (fun _ _ => rfl) hL.use hd kk
theorem l_appS (C : LCx p s m args meth c G ad cc own nL ret M0) (hκ : SBk κ N) (E : EN p s m args meth c G (eY (YK ad) κ qa) cc own nL ret) (hAS : ∀ z, AS (eY (YK ad) κ qa) s.heap.size z ↔ AS (YK ad) s.heap.size z) (hSB : SBt N f tx) (h20 : M 20 = sbM tx.length f) (h19 : M 19 = Z) (hj : ∀ j, j < 19 → M j = M0 j) {idx i : Nat} (hi : i < 14) (hi7 : (cS i).length ≤ 7) (hw : tx.length + 7 ≤ 142) (hL : LOK L) (hlk : Cond.methodLink own idx yJ4_append_15ec4 ∈ BIG) (hk : k + 1 ≤ 600086) (hn : n + 142 ≤ 7301442) (hd : decode cc pc = .ok (.invokevirtual idx, 3))
    (kk : LWt p l e room_1 s m args below meth c G ad cc own ret nL Q M0 (tx ++ cS i) Z (k + 1) (n + 142) (pc + 3) L [rv 20 0]) : WM p l e room_1 s m args below meth c G (eY (YK ad) κ qa) nL Q M k n pc L [rv 97 i, rv 20 0] :=
  l_app (w := cS i) C.1 C.2.1 C.2.2.1 C.2.2.2 hκ E hAS hSB h20 h19 hj (as := [rv 97 i]) (by rw [List.length_append]; omega) (sp_J4_appendS l G ad (qa 0) (qa 1) N f tx i hi hSB (by rw [← cS_len i hi]; exact SBk_q hκ hSB.1 hi7 (by omega))) rfl my_J4_append_15ec4 iv_J4_append_15ec4 hlk (by show [Value.ref (ad 97 i)] = [cv (eY (YK ad) κ qa) (rv 97 i)]; rw [cv_eY (by decide)]) rfl ⟨by decide, by decide, hk, hn⟩ (by decide) (fun _ _ => rfl) hL.use hd kk
/-- a store into the law's object -/
theorem l_set {Z2 : Nat → Nat → Int32} (h20 : M 20 = sbM tx.length f) (hj : ∀ j, j < 19 → M j = M0 j) : (setm M 19 Z2) 20 = sbM tx.length f ∧ (setm M 19 Z2) 19 = Z2 ∧ ∀ j, j < 19 → (setm M 19 Z2) j = M0 j := ⟨by rw [setm_n (by decide)]; exact h20, setm_s, fun j h => by rw [setm_n (by omega)]; exact hj j h⟩
end LAP
