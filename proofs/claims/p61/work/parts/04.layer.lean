/-- a name that only the whole library has: so the rounds stay over it -/
theorem wide_x : True := by
  have := @codeSync_his
  trivial
/-- what field k of module j holds -/
def fv (Y : LV) (j k : Nat) (S : Nat → Nat → Int32) : AV := match fk (kdY Y j) k with
  | 0 => iv (S 0 k)
  | 1 => rv j (k + 1)
  | 2 => rv (Y.2.1 j k) 0
  | _ => rv ((S 0 k).toNatClampNeg) 0
/-- what an array's place holds, where it is a reference -/
def rr (Y : LV) (c j i : Nat) (x : Int32) : Option Nat := match c with
  | 4 => some (Y.2.2 (Y.2.1 j (min i 7)) 0)
  | 5 => some (Y.2.2 j (8 + i))
  | 6 => if x < 0 then none else some (Y.2.2 98 x.toNatClampNeg)
  | c => some (Y.2.2 j (20 + 7 * (c - 7) + i))
def arC (Y : LV) (c j : Nat) (f : Nat → Int32) : (Nat → Int32) ⊕ (Nat → Int64) ⊕ (Nat → UInt32) ⊕ (Nat → UInt64) ⊕ (Nat → Option Nat) := match c with
  | 0 => .inl f
  | 1 => .inl f
  | 2 => .inl f
  | 3 => .inl f
  | c => .inr (.inr (.inr (.inr (fun i => rr Y c j i (f i)))))
def ceY (G : GT) (Y : LV) (S : Nat → Nat → Int32) (j t : Nat) : va_E := match ae (kdY Y j) t with
  | some q => .inl (G.2.1 q.1, (q.2, arC Y q.1 j (S t)))
  | none => .inr ((oc (kdY Y j)).getD 0, (List.range (fn (kdY Y j))).map (fun k => cv Y (fv Y j k S)))
def KY (Y : LV) : List (Nat × Nat) := (List.range Y.1.length).flatMap (fun j => (KT (kdY Y j)).map (fun t => (j, t)))
def wl (G : GT) (Y : LV) (M : Mem) : va_W := (KY Y).map (fun q => (Y.2.2 q.1 q.2, ceY G Y (M q.1) q.1 q.2))
/-- the addresses that a method may write -/
def AS (Y : LV) (sz : Nat) : Nat → Prop := fun a => (∃ q ∈ KY Y, Y.2.2 q.1 q.2 = a) ∨ sz ≤ a
abbrev tyG (G : GT) : List (ClassId × FieldType) := [(G.2.1 0, .int), (G.2.1 1, .byte), (G.2.1 2, .boolean), (G.2.1 3, .array .int), (G.2.1 4, .object "PuddleCity$State"), (G.2.1 5, .array .byte), (G.2.1 6, .object "PuddleCity$Verb"), (G.2.1 7, .array .int), (G.2.1 8, .array .int), (G.2.1 9, .array .int), (G.2.1 10, .array .int), (G.2.1 11, .array .int), (G.2.1 12, .array .int), (G.2.1 13, .array .int)]
def setm (M : Mem) (j : Nat) (S : Nat → Nat → Int32) : Mem := fun g => if g = j then S else M g
def sett (S : Nat → Nat → Int32) (t : Nat) (f : Nat → Int32) : Nat → Nat → Int32 := fun u => if u = t then f else S u
theorem KT_nd : ∀ κ, κ < 16 → (KT κ).Nodup := by decide +kernel
theorem KT_big (κ : Nat) (h : 16 ≤ κ) : KT κ = [] := by
  unfold KT oc
  rw [List.getD_eq_getElem?_getD (l := OC), List.getElem?_eq_none (show OC.length ≤ κ from h), List.getD_eq_getElem?_getD (l := AE), List.getElem?_eq_none (show AE.length ≤ κ from h)]
  rfl
theorem KT_nodup (κ : Nat) : (KT κ).Nodup := by
  rcases Nat.lt_or_ge κ 16 with h | h
  · exact KT_nd κ h
  · rw [KT_big κ h]; exact List.nodup_nil
theorem KY_mem {Y : LV} {j t : Nat} : (j, t) ∈ KY Y ↔ j < Y.1.length ∧ t ∈ KT (kdY Y j) := by
  unfold KY
  simp only [List.mem_flatMap, List.mem_range, List.mem_map, Prod.mk.injEq]
  constructor
  · rintro ⟨a, ha, b, hb, rfl, rfl⟩
    exact ⟨ha, hb⟩
  · rintro ⟨h1, h2⟩
    exact ⟨j, h1, t, h2, rfl, rfl⟩
theorem KY_nodup (Y : LV) : (KY Y).Nodup := by
  unfold KY List.Nodup
  rw [List.pairwise_flatMap]
  refine ⟨fun j _ => ?_, ?_⟩
  · rw [List.pairwise_map]
    exact List.Pairwise.imp (fun h e => h (by simpa using e)) (KT_nodup (kdY Y j))
  · refine List.Pairwise.imp ?_ (List.nodup_range (n := Y.1.length))
    intro a b hab x hx y hy e
    obtain ⟨_, _, rfl⟩ := List.mem_map.mp hx
    obtain ⟨_, _, e2⟩ := List.mem_map.mp hy
    rw [← e2] at e
    exact hab (by injection e)
/-- the module and the tag are this world's -/
def okY (Y : LV) (j t : Nat) : Prop := j < Y.1.length ∧ t ∈ KT (kdY Y j)
theorem wl_at {G : GT} {Y : LV} {M : Mem} {j t : Nat} (h : okY Y j t) : ∃ q0 : Nat, (KY Y)[q0]? = some (j, t) ∧ (wl G Y M)[q0]? = some (Y.2.2 j t, ceY G Y (M j) j t) := by
  obtain ⟨q0, hq⟩ := List.getElem?_of_mem (KY_mem.mpr h)
  refine ⟨q0, hq, ?_⟩
  unfold wl
  rw [List.getElem?_map, hq]
  rfl
theorem nd_inj {α : Type} {K : List α} (hn : K.Nodup) {i n : Nat} {k : α} (hi : K[i]? = some k) (hk : K[n]? = some k) : i = n := by
  obtain ⟨h1, e1⟩ := List.getElem?_eq_some_iff.mp hi
  obtain ⟨h2, e2⟩ := List.getElem?_eq_some_iff.mp hk
  have hp := List.pairwise_iff_getElem.mp hn
  rcases Nat.lt_trichotomy i n with h | h | h
  · exact absurd (e1.trans e2.symm) (hp i n h1 h2 h)
  · exact h
  · exact absurd (e2.trans e1.symm) (hp n i h2 h1 h)
theorem map_set {α β : Type} {K : List α} {f g : α → β} {i : Nat} {k : α} (hn : K.Nodup) (hi : K[i]? = some k) (hfg : ∀ a, a ≠ k → g a = f a) : (K.map f).set i (g k) = K.map g := by
  apply List.ext_getElem?
  intro n
  rw [List.getElem?_set]
  by_cases h : i = n
  · subst h
    obtain ⟨hlt, he⟩ := List.getElem?_eq_some_iff.mp hi
    rw [if_pos rfl, List.length_map, if_pos hlt, List.getElem?_map, hi]
    rfl
  · rw [if_neg h, List.getElem?_map, List.getElem?_map]
    cases hk : K[n]? with
    | none => rfl
    | some a =>
      have hne : a ≠ k := by
        intro e
        subst e
        exact h (nd_inj hn hi hk)
      simp [hfg a hne]
/-! what holds all through a method: the tables' words, the nest's links, the classes -/
/-! the String constants: class, entry, text, length, bytes -/
def JSo : List String := ["PuddleCity", "PuddleCity$Plan", "PuddleCity$Plan", "PuddleCity$Plan", "PuddleCity$Plan", "PuddleCity", "PuddleCity", "PuddleCity", "PuddleCity", "PuddleCity", "PuddleCityLaw", "PuddleCityLaw", "PuddleCityLaw", "PuddleCityLaw"]
def JSk : List Nat := [79, 85, 94, 99, 104, 328, 336, 332, 330, 341, 243, 255, 257, 259]
def JSt : List String := ["row 5 4 3;row 6 2 1;row 5 4 0;gutter 8 2;boots ann 0 2;boots bob 4 1;rain 1;", "row", "gutter", "boots", "rain", "no such cell", "outside its range", "no such puddle", "no such boots", "not possible as things are", "row", "gutter ", "boots ", "rain "]
def lenJS : List Nat := [76, 3, 6, 5, 4, 12, 17, 14, 13, 26, 3, 7, 6, 5]
def bytJS : List (List Int32) := [[114, 111, 119, 32, 53, 32, 52, 32, 51, 59, 114, 111, 119, 32, 54, 32, 50, 32, 49, 59, 114, 111, 119, 32, 53, 32, 52, 32, 48, 59, 103, 117, 116, 116, 101, 114, 32, 56, 32, 50, 59, 98, 111, 111, 116, 115, 32, 97, 110, 110, 32, 48, 32, 50, 59, 98, 111, 111, 116, 115, 32, 98, 111, 98, 32, 52, 32, 49, 59, 114, 97, 105, 110, 32, 49, 59], [114, 111, 119], [103, 117, 116, 116, 101, 114], [98, 111, 111, 116, 115], [114, 97, 105, 110], [110, 111, 32, 115, 117, 99, 104, 32, 99, 101, 108, 108], [111, 117, 116, 115, 105, 100, 101, 32, 105, 116, 115, 32, 114, 97, 110, 103, 101], [110, 111, 32, 115, 117, 99, 104, 32, 112, 117, 100, 100, 108, 101], [110, 111, 32, 115, 117, 99, 104, 32, 98, 111, 111, 116, 115], [110, 111, 116, 32, 112, 111, 115, 115, 105, 98, 108, 101, 32, 97, 115, 32, 116, 104, 105, 110, 103, 115, 32, 97, 114, 101], [114, 111, 119], [103, 117, 116, 116, 101, 114, 32], [98, 111, 111, 116, 115, 32], [114, 97, 105, 110, 32]]
/-- a String constant: the object at 97 i, its bytes at 99 i -/
def GXs (Y : LV) (A : Nat → Prop) (U : State) (H : Heap) (i : Nat) : Prop := vk_R (JSo.getD i "") (JSk.getD i 0) (JSt.getD i "") (Y.2.2 97 i) U ∧ va_O "java/lang/String" (Y.2.2 97 i) A U H ∧ va_OF "java/lang/String" "coder" "B" (.int 0) (Y.2.2 97 i) A U H ∧ va_OF "java/lang/String" "value" "[B" (.ref (Y.2.2 99 i)) (Y.2.2 97 i) A U H ∧ va_T .byte (Y.2.2 99 i) (lenJS.getD i 0) (fun j => .int ((bytJS.getD i []).getD j 0)) A U H
/-- the text that is told: the object at 97 14, its bytes at 99 14 -/
def GXd (G : GT) (Y : LV) (A : Nat → Prop) (U : State) (H : Heap) : Prop := va_O "java/lang/String" (Y.2.2 97 14) A U H ∧ va_OF "java/lang/String" "coder" "B" (.int 0) (Y.2.2 97 14) A U H ∧ va_OF "java/lang/String" "value" "[B" (.ref (Y.2.2 99 14)) (Y.2.2 97 14) A U H ∧ va_T .byte (Y.2.2 99 14) G.2.2.2.1 (fun j => .int (G.2.2.2.2 j)) A U H
def tenI : List Int32 := (List.range 100).map (fun i => Int32.ofNat (48 + i / 10))
def oneI : List Int32 := (List.range 100).map (fun i => Int32.ofNat (48 + i % 10))
/-- statics: 99 100 DigitTens, 99 101 DigitOnes, 99 102 the formatter; 99 103 the law's script -/
def GXz (G : GT) (Y : LV) (A : Nat → Prop) (U : State) (H : Heap) : Prop := va_Z "java/lang/String" "COMPACT_STRINGS" "Z" (.int 1) A U H ∧ (va_Z "jdk/internal/util/Preconditions" "SIOOBE_FORMATTER" "Ljava/util/function/BiFunction;" (.ref (Y.2.2 99 102)) A U H ∨ va_Z "jdk/internal/util/Preconditions" "SIOOBE_FORMATTER" "Ljava/util/function/BiFunction;" .null A U H) ∧ va_Z "java/lang/Integer" "DigitTens" "[B" (.ref (Y.2.2 99 100)) A U H ∧ va_T .byte (Y.2.2 99 100) 100 (fun j => .int (tenI.getD j 0)) A U H ∧ va_Z "java/lang/Integer" "DigitOnes" "[B" (.ref (Y.2.2 99 101)) A U H ∧ va_T .byte (Y.2.2 99 101) 100 (fun j => .int (oneI.getD j 0)) A U H ∧ vx_Zq Bundle.tN "UNASSIGNED_STACK" Bundle.steD A U H ∧ vx_Zq Bundle.tN "SUPPRESSED_SENTINEL" Bundle.listD A U H ∧ va_T .int (Y.2.2 99 103) G.2.2.1.1 (fun j => .int (G.2.2.1.2 j)) A U H
/-- the constants (Strings, statics) -/
def GX (G : GT) (Y : LV) (A : Nat → Prop) (U : State) (H : Heap) : Prop := (∀ i, i < 14 → GXs Y A U H i) ∧ GXd G Y A U H ∧ GXz G Y A U H
theorem GXs.moved {Y : LV} {A : Nat → Prop} {s U : State} {H : Heap} {i : Nat} (hvm : s.vm.Alike U.vm) (hR : vk_R (JSo.getD i "") (JSk.getD i 0) (JSt.getD i "") (Y.2.2 97 i) U) (h : GXs Y A s H i) : GXs Y A U H i := ⟨hR, va_O.moved hvm h.2.1, va_OF.moved hvm h.2.2.1, va_OF.moved hvm h.2.2.2.1, va_T.moved hvm h.2.2.2.2⟩
theorem GXd.moved {G : GT} {Y : LV} {A : Nat → Prop} {s U : State} {H : Heap} (hvm : s.vm.Alike U.vm) (h : GXd G Y A s H) : GXd G Y A U H := ⟨va_O.moved hvm h.1, va_OF.moved hvm h.2.1, va_OF.moved hvm h.2.2.1, va_T.moved hvm h.2.2.2⟩
theorem GXz.moved {G : GT} {Y : LV} {A : Nat → Prop} {s U : State} {H : Heap} (hvm : s.vm.Alike U.vm) (h : GXz G Y A s H) : GXz G Y A U H := by
  obtain ⟨h1, h2, h3, h4, h5, h6, h7, h8, h9⟩ := h
  exact ⟨va_Z.moved hvm h1, h2.imp (va_Z.moved hvm) (va_Z.moved hvm), va_Z.moved hvm h3, va_T.moved hvm h4, va_Z.moved hvm h5, va_T.moved hvm h6, vx_Zq.moved hvm h7, vx_Zq.moved hvm h8, va_T.moved hvm h9⟩
theorem GX.kept {G : GT} {Y Y2 : LV} {A B : Nat → Prop} {U : State} {H H1 : Heap} (hc : ∀ i, i < 3 → Y2.2.2 (97 + i) = Y.2.2 (97 + i)) (hB : ∀ q, B q → A q) (hq : ∀ q, q < H.size → ¬ A q → H1[q]? = H[q]?) (h : GX G Y A U H) : GX G Y2 B U H1 := by
  have c0 := hc 0 (by decide)
  have c2 := hc 2 (by decide)
  simp only [Nat.add_zero, Nat.reduceAdd] at c0 c2
  obtain ⟨hs, ⟨d1, d2, d3, d4⟩, h1, h2, h3, h4, h5, h6, h7, h8, h9⟩ := h
  refine ⟨fun i hi => ?_, ?_, ?_⟩
  · obtain ⟨g0, g1, g2, g3, g4⟩ := hs i hi
    unfold GXs
    rw [c0, c2]
    exact ⟨g0, (g1.kept hq).narrow hB, (g2.kept hq).narrow hB, (g3.kept hq).narrow hB, (g4.kept hq).narrow hB⟩
  · unfold GXd
    rw [c0, c2]
    exact ⟨(d1.kept hq).narrow hB, (d2.kept hq).narrow hB, (d3.kept hq).narrow hB, (d4.kept hq).narrow hB⟩
  · unfold GXz
    rw [c2]
    exact ⟨(h1.kept hq).narrow hB, h2.imp (fun h => (h.kept hq).narrow hB) (fun h => (h.kept hq).narrow hB), (h3.kept hq).narrow hB, (h4.kept hq).narrow hB, (h5.kept hq).narrow hB, (h6.kept hq).narrow hB, (h7.kept hq).narrow hB, (h8.kept hq).narrow hB, (h9.kept hq).narrow hB⟩
def GF (G : GT) (Y : LV) (A : Nat → Prop) (U : State) (H : Heap) : Prop := (∀ w ∈ NW, va_Nw w U) ∧ va_K G.1 vwCl (tyG G) U ∧ GX G Y A U H
def EN (p : Program) (s : State) (m : MethodId) (args : Array Value) (meth : Method) (c : Code) (G : GT) (Y : LV) (cc : ByteArray) (own : String) (nL : Nat) (ret : Option FieldType) : Prop :=
  p.tables.exec = Jvm.exec ∧ c.code = cc ∧ c.maxLocals = nL ∧ s.vm.findClass own = some m.cls ∧ (∀ w ∈ BIG, w.before args s = true) ∧ meth.sig.returnType = ret ∧ meth.locks = false ∧ GF G Y (AS Y s.heap.size) s s.heap ∧ (∀ M : Mem, va_D (AS Y s.heap.size) (wl G Y M))
def lvl (Y : LV) : Nat → List (Option AV) → List (Nat × Value)
  | _, [] => []
  | i, some v :: t => (i, cv Y v) :: lvl Y (i + 1) t
  | i, none :: t => lvl Y (i + 1) t
def WM (p : Program) (l : Launch) (e : Env) (R : Room) (s : State) (m : MethodId) (args : Array Value) (below : List Frame) (meth : Method) (c : Code) (G : GT) (Y : LV) (nL : Nat) (Q : State → Prop) (M : Mem) (k n : Nat) (pc : Nat) (L : List (Option AV)) (S : List AV) : Prop :=
  ∀ (H : Heap) (locs : List Loc) (ls : Array Slot), va_P G.1 vwCl (wl G Y M) H → va_S (AS Y s.heap.size) s.heap H locs → lv_has ls nL (lvl Y 0 L) → W p l e R s m args below meth c H locs k n Q (F0 m pc ls (S.map (cv Y)))
theorem lvl_mem {Y : LV} : ∀ (L : List (Option AV)) (i k : Nat) (w : Value), (k, w) ∈ lvl Y i L ↔ ∃ (n : Nat) (v : AV), L[n]? = some (some v) ∧ k = i + n ∧ w = cv Y v
  | [], i, k, w => by simp [lvl]
  | none :: t, i, k, w => by
    rw [show lvl Y i (none :: t) = lvl Y (i + 1) t from rfl, lvl_mem t (i + 1) k w]
    constructor
    · rintro ⟨n, v, h1, h2, h3⟩
      exact ⟨n + 1, v, h1, by omega, h3⟩
    · rintro ⟨n, v, h1, h2, h3⟩
      cases n with
      | zero => simp at h1
      | succ n => exact ⟨n, v, h1, by omega, h3⟩
  | some x :: t, i, k, w => by
    rw [show lvl Y i (some x :: t) = (i, cv Y x) :: lvl Y (i + 1) t from rfl, List.mem_cons, lvl_mem t (i + 1) k w]
    constructor
    · rintro (h | ⟨n, v, h1, h2, h3⟩)
      · injection h with h1 h2
        exact ⟨0, x, rfl, h1, h2⟩
      · exact ⟨n + 1, v, h1, by omega, h3⟩
    · rintro ⟨n, v, h1, h2, h3⟩
      cases n with
      | zero =>
        left
        have : x = v := by simpa using h1
        rw [h3, this, h2]; rfl
      | succ n => exact Or.inr ⟨n, v, h1, by omega, h3⟩
theorem lvl_at {Y : LV} {ls : Array Slot} {nL : Nat} {L : List (Option AV)} (h : lv_has ls nL (lvl Y 0 L)) {i : Nat} {v : AV} (hi : L[i]? = some (some v)) : ls[i]? = some (.val (cv Y v)) :=
  h.2.2 (i, cv Y v) ((lvl_mem L 0 i _).mpr ⟨i, v, hi, by omega, rfl⟩)
/-- two words? -/
def ac2 : Option AV → Bool
  | some (.inl (.long _)) => true
  | some (.inl (.double _)) => true
  | _ => false
theorem ac2_cv {Y : LV} {v : AV} (h : ac2 (some v) = false) : (cv Y v).category = 1 := by
  rcases v with v | q
  · cases v <;> first | rfl | (simp [ac2] at h)
  · rfl
theorem lv_mono {ls : Array Slot} {nL : Nat} {l l' : List (Nat × Value)} (h : lv_has ls nL l) (hm : ∀ q ∈ l', q ∈ l) : lv_has ls nL l' := ⟨h.1, h.2.1, fun q hq => h.2.2 q (hm q hq)⟩
theorem lvl_set {Y : LV} {ls : Array Slot} {nL : Nat} {L : List (Option AV)} {i : Nat} {v : AV} {w : Value} (hw : w = cv Y v) (hi : i < L.length) (hc : ∀ j, j + 1 = i → ac2 ((L[j]?).getD none) = false)
    (h : lv_has ls nL ((i, w) :: (lvl Y 0 L).filter (fun q => !(q.1 == i) && !(q.1 + 1 == i && q.2.category == 2)))) : lv_has ls nL (lvl Y 0 (L.set i (some v))) := by
  refine lv_mono h ?_
  rintro ⟨k, x⟩ hq
  obtain ⟨n, u, h1, h2, h3⟩ := (lvl_mem _ _ _ _).mp hq
  rw [List.getElem?_set] at h1
  by_cases he : i = n
  · subst he
    rw [if_pos rfl, if_pos hi] at h1
    have : v = u := by simpa using h1
    rw [h2, h3, hw, this, Nat.zero_add]
    exact List.mem_cons_self
  · rw [if_neg he] at h1
    refine List.mem_cons_of_mem _ (List.mem_filter.mpr ⟨(lvl_mem _ _ _ _).mpr ⟨n, u, h1, h2, h3⟩, ?_⟩)
    have hk : k = n := by omega
    subst hk
    have h4 : (k == i) = false := by simpa using fun e : k = i => he e.symm
    by_cases h5 : k + 1 = i
    · have h6 := hc k h5
      rw [h1] at h6
      have h7 := ac2_cv (Y := Y) h6
      simp [h4, h3, h7]
    · have h6 : (k + 1 == i) = false := by simpa using h5
      simp [h4, h6]
theorem dat {cc : ByteArray} {t : List (Nat × Instr × Nat)} (h : ∀ q ∈ t, decode cc q.1 = .ok (q.2.1, q.2.2)) (i : Nat) {pc len : Nat} {ins : Instr} (hi : t[i]? = some (pc, ins, len)) : decode cc pc = .ok (ins, len) := h (pc, ins, len) (List.mem_of_getElem? hi)
theorem hc_of {L : List (Option AV)} (i : Nat) {x : Option AV} (h : L[i]? = some x) (hx : ac2 x = false) : ∀ z, z + 1 = i + 1 → ac2 ((L[z]?).getD none) = false := by
  intro z hz
  have e : z = i := by omega
  subst e
  rw [h]
  exact hx
theorem hc_0 {L : List (Option AV)} : ∀ z, z + 1 = 0 → ac2 ((L[z]?).getD none) = false := fun z hz => absurd hz (Nat.succ_ne_zero z)
section RW
variable {p : Program} {l : Launch} {e : Env} {R : Room} {s : State} {m : MethodId} {args : Array Value} {below : List Frame} {meth : Method} {c : Code} {G : GT} {Y : LV} {nL : Nat} {Q : State → Prop} {M : Mem} {k n pc : Nat} {L : List (Option AV)} {S : List AV} {cc : ByteArray} {own : String} {ret : Option FieldType}
theorem r_iconst (E : EN p s m args meth c G Y cc own nL ret) {a : Int} {v : Int32} (hd : decode cc pc = .ok (.iconst a, 1)) (hv : Int32.ofInt a = v) (kk : WM p l e R s m args below meth c G Y nL Q M k n (pc + 1) L (iv v :: S)) : WM p l e R s m args below meth c G Y nL Q M k n pc L S := fun H locs ls hP hS hl => lv_iconst E.1 E.2.1 hd hv (kk H locs ls hP hS hl)
theorem r_bipush (E : EN p s m args meth c G Y cc own nL ret) {a : Int} {v : Int32} (hd : decode cc pc = .ok (.bipush a, 2)) (hv : (Int8.ofInt a).toInt32 = v) (kk : WM p l e R s m args below meth c G Y nL Q M k n (pc + 2) L (iv v :: S)) : WM p l e R s m args below meth c G Y nL Q M k n pc L S := fun H locs ls hP hS hl => lv_bipush E.1 E.2.1 hd hv (kk H locs ls hP hS hl)
theorem r_sipush (E : EN p s m args meth c G Y cc own nL ret) {a : Int} {v : Int32} (hd : decode cc pc = .ok (.sipush a, 3)) (hv : (Int16.ofInt a).toInt32 = v) (kk : WM p l e R s m args below meth c G Y nL Q M k n (pc + 3) L (iv v :: S)) : WM p l e R s m args below meth c G Y nL Q M k n pc L S := fun H locs ls hP hS hl => lv_sipush E.1 E.2.1 hd hv (kk H locs ls hP hS hl)
theorem r_lconst (E : EN p s m args meth c G Y cc own nL ret) {a : Fin 2} {v : Int64} (hd : decode cc pc = .ok (.lconst a, 1)) (hv : Int64.ofNat (a : Nat) = v) (kk : WM p l e R s m args below meth c G Y nL Q M k n (pc + 1) L (.inl (.long v) :: S)) : WM p l e R s m args below meth c G Y nL Q M k n pc L S := fun H locs ls hP hS hl => lv_lconst E.1 E.2.1 hd hv (kk H locs ls hP hS hl)
theorem r_iadd (E : EN p s m args meth c G Y cc own nL ret) {x y : Int32} (hd : decode cc pc = .ok (.iadd, 1)) (kk : WM p l e R s m args below meth c G Y nL Q M k n (pc + 1) L (iv (x + y) :: S)) : WM p l e R s m args below meth c G Y nL Q M k n pc L (iv y :: iv x :: S) := fun H locs ls hP hS hl => lv_iadd E.1 E.2.1 hd (kk H locs ls hP hS hl)
theorem r_isub (E : EN p s m args meth c G Y cc own nL ret) {x y : Int32} (hd : decode cc pc = .ok (.isub, 1)) (kk : WM p l e R s m args below meth c G Y nL Q M k n (pc + 1) L (iv (x - y) :: S)) : WM p l e R s m args below meth c G Y nL Q M k n pc L (iv y :: iv x :: S) := fun H locs ls hP hS hl => lv_isub E.1 E.2.1 hd (kk H locs ls hP hS hl)
theorem r_imul (E : EN p s m args meth c G Y cc own nL ret) {x y : Int32} (hd : decode cc pc = .ok (.imul, 1)) (kk : WM p l e R s m args below meth c G Y nL Q M k n (pc + 1) L (iv (x * y) :: S)) : WM p l e R s m args below meth c G Y nL Q M k n pc L (iv y :: iv x :: S) := fun H locs ls hP hS hl => lv_imul E.1 E.2.1 hd (kk H locs ls hP hS hl)
theorem r_iand (E : EN p s m args meth c G Y cc own nL ret) {x y : Int32} (hd : decode cc pc = .ok (.iand, 1)) (kk : WM p l e R s m args below meth c G Y nL Q M k n (pc + 1) L (iv (x &&& y) :: S)) : WM p l e R s m args below meth c G Y nL Q M k n pc L (iv y :: iv x :: S) := fun H locs ls hP hS hl => lv_iand E.1 E.2.1 hd (kk H locs ls hP hS hl)
theorem r_ishr (E : EN p s m args meth c G Y cc own nL ret) {x y : Int32} (hd : decode cc pc = .ok (.ishr, 1)) (kk : WM p l e R s m args below meth c G Y nL Q M k n (pc + 1) L (iv (x >>> (y &&& 31)) :: S)) : WM p l e R s m args below meth c G Y nL Q M k n pc L (iv y :: iv x :: S) := fun H locs ls hP hS hl => lv_ishr E.1 E.2.1 hd (kk H locs ls hP hS hl)
theorem r_ishl (E : EN p s m args meth c G Y cc own nL ret) {x y : Int32} (hd : decode cc pc = .ok (.ishl, 1)) (kk : WM p l e R s m args below meth c G Y nL Q M k n (pc + 1) L (iv (x <<< (y &&& 31)) :: S)) : WM p l e R s m args below meth c G Y nL Q M k n pc L (iv y :: iv x :: S) := fun H locs ls hP hS hl => lv_ishl E.1 E.2.1 hd (kk H locs ls hP hS hl)
theorem r_ior (E : EN p s m args meth c G Y cc own nL ret) {x y : Int32} (hd : decode cc pc = .ok (.ior, 1)) (kk : WM p l e R s m args below meth c G Y nL Q M k n (pc + 1) L (iv (x ||| y) :: S)) : WM p l e R s m args below meth c G Y nL Q M k n pc L (iv y :: iv x :: S) := fun H locs ls hP hS hl => lv_ior E.1 E.2.1 hd (kk H locs ls hP hS hl)
theorem r_idiv (E : EN p s m args meth c G Y cc own nL ret) {x y : Int32} (hd : decode cc pc = .ok (.idiv, 1)) (hne : ¬ y = 0) (kk : WM p l e R s m args below meth c G Y nL Q M k n (pc + 1) L (iv (x / y) :: S)) : WM p l e R s m args below meth c G Y nL Q M k n pc L (iv y :: iv x :: S) := fun H locs ls hP hS hl => lv_idiv E.1 E.2.1 hd hne (kk H locs ls hP hS hl)
theorem r_irem (E : EN p s m args meth c G Y cc own nL ret) {x y : Int32} (hd : decode cc pc = .ok (.irem, 1)) (hne : ¬ y = 0) (kk : WM p l e R s m args below meth c G Y nL Q M k n (pc + 1) L (iv (x - x / y * y) :: S)) : WM p l e R s m args below meth c G Y nL Q M k n pc L (iv y :: iv x :: S) := fun H locs ls hP hS hl => lv_irem E.1 E.2.1 hd hne (kk H locs ls hP hS hl)
theorem r_ineg (E : EN p s m args meth c G Y cc own nL ret) {x : Int32} (hd : decode cc pc = .ok (.ineg, 1)) (kk : WM p l e R s m args below meth c G Y nL Q M k n (pc + 1) L (iv (-x) :: S)) : WM p l e R s m args below meth c G Y nL Q M k n pc L (iv x :: S) := fun H locs ls hP hS hl => lv_ineg E.1 E.2.1 hd (kk H locs ls hP hS hl)
theorem r_i2b (E : EN p s m args meth c G Y cc own nL ret) {x : Int32} (hd : decode cc pc = .ok (.i2b, 1)) (kk : WM p l e R s m args below meth c G Y nL Q M k n (pc + 1) L (iv x.toInt8.toInt32 :: S)) : WM p l e R s m args below meth c G Y nL Q M k n pc L (iv x :: S) := fun H locs ls hP hS hl => lv_i2b E.1 E.2.1 hd rfl (kk H locs ls hP hS hl)
theorem r_i2c (E : EN p s m args meth c G Y cc own nL ret) {x : Int32} (hd : decode cc pc = .ok (.i2c, 1)) (kk : WM p l e R s m args below meth c G Y nL Q M k n (pc + 1) L (iv (x.toUInt32 % 65536).toInt32 :: S)) : WM p l e R s m args below meth c G Y nL Q M k n pc L (iv x :: S) := fun H locs ls hP hS hl => lv_i2c E.1 E.2.1 hd rfl (kk H locs ls hP hS hl)
theorem r_i2l (E : EN p s m args meth c G Y cc own nL ret) {x : Int32} (hd : decode cc pc = .ok (.i2l, 1)) (kk : WM p l e R s m args below meth c G Y nL Q M k n (pc + 1) L (.inl (.long x.toInt64) :: S)) : WM p l e R s m args below meth c G Y nL Q M k n pc L (iv x :: S) := fun H locs ls hP hS hl => lv_i2l E.1 E.2.1 hd rfl (kk H locs ls hP hS hl)
theorem r_iushr (E : EN p s m args meth c G Y cc own nL ret) {x y : Int32} (hd : decode cc pc = .ok (.iushr, 1)) (kk : WM p l e R s m args below meth c G Y nL Q M k n (pc + 1) L (iv (x.toUInt32 >>> (y.toUInt32 &&& Int32.toUInt32 31)).toInt32 :: S)) : WM p l e R s m args below meth c G Y nL Q M k n pc L (iv y :: iv x :: S) := fun H locs ls hP hS hl => lv_iushr E.1 E.2.1 hd rfl (kk H locs ls hP hS hl)
theorem r_lcmp (E : EN p s m args meth c G Y cc own nL ret) {x y : Int64} (hd : decode cc pc = .ok (.lcmp, 1)) (kk : WM p l e R s m args below meth c G Y nL Q M k n (pc + 1) L (iv (lg_cmp x y) :: S)) : WM p l e R s m args below meth c G Y nL Q M k n pc L (.inl (.long y) :: .inl (.long x) :: S) := fun H locs ls hP hS hl => W.lcmp E.1 E.2.1 hd (kk H locs ls hP hS hl)
theorem r_dup (E : EN p s m args meth c G Y cc own nL ret) {a : AV} (hd : decode cc pc = .ok (.dup, 1)) (hc : ac2 (some a) = false) (kk : WM p l e R s m args below meth c G Y nL Q M k n (pc + 1) L (a :: a :: S)) : WM p l e R s m args below meth c G Y nL Q M k n pc L (a :: S) := fun H locs ls hP hS hl => lv_dup E.1 E.2.1 hd (ac2_cv hc) (kk H locs ls hP hS hl)
theorem r_pop (E : EN p s m args meth c G Y cc own nL ret) {a : AV} (hd : decode cc pc = .ok (.pop, 1)) (hc : ac2 (some a) = false) (kk : WM p l e R s m args below meth c G Y nL Q M k n (pc + 1) L S) : WM p l e R s m args below meth c G Y nL Q M k n pc L (a :: S) := fun H locs ls hP hS hl => lv_pop E.1 E.2.1 hd (ac2_cv hc) (kk H locs ls hP hS hl)
theorem r_dup2 (E : EN p s m args meth c G Y cc own nL ret) {a b : AV} (hd : decode cc pc = .ok (.dup2, 1)) (hc : ac2 (some a) = false) (hc2 : ac2 (some b) = false) (kk : WM p l e R s m args below meth c G Y nL Q M k n (pc + 1) L (a :: b :: a :: b :: S)) : WM p l e R s m args below meth c G Y nL Q M k n pc L (a :: b :: S) := fun H locs ls hP hS hl => lv_dup2_11 E.1 E.2.1 hd (ac2_cv hc) (ac2_cv hc2) (kk H locs ls hP hS hl)
theorem r_null (E : EN p s m args meth c G Y cc own nL ret) (hd : decode cc pc = .ok (.aconst_null, 1)) (kk : WM p l e R s m args below meth c G Y nL Q M k n (pc + 1) L (.inl .null :: S)) : WM p l e R s m args below meth c G Y nL Q M k n pc L S := fun H locs ls hP hS hl => lv_null E.1 E.2.1 hd (kk H locs ls hP hS hl)
theorem r_i2d (E : EN p s m args meth c G Y cc own nL ret) {x : Int32} (hd : decode cc pc = .ok (.i2d, 1)) (kk : WM p l e R s m args below meth c G Y nL Q M k n (pc + 1) L (.inl (.double (FP.i2d x)) :: S)) : WM p l e R s m args below meth c G Y nL Q M k n pc L (iv x :: S) := fun H locs ls hP hS hl => lv_i2d E.1 E.2.1 hd (kk H locs ls hP hS hl)
theorem r_i2f (E : EN p s m args meth c G Y cc own nL ret) {x : Int32} (hd : decode cc pc = .ok (.i2f, 1)) (kk : WM p l e R s m args below meth c G Y nL Q M k n (pc + 1) L (.inl (.float (FP.i2f x)) :: S)) : WM p l e R s m args below meth c G Y nL Q M k n pc L (iv x :: S) := fun H locs ls hP hS hl => lv_i2f E.1 E.2.1 hd (kk H locs ls hP hS hl)
theorem r_goto (E : EN p s m args meth c G Y cc own nL ret) {off : Int} {tgt : Nat} (hd : decode cc pc = .ok (.goto off, 3)) (ht : (pc : Int) + off = (tgt : Int)) (kk : WM p l e R s m args below meth c G Y nL Q M k n tgt L S) : WM p l e R s m args below meth c G Y nL Q M k n pc L S := fun H locs ls hP hS hl => lv_goto E.1 E.2.1 hd ht (kk H locs ls hP hS hl)
theorem r_if_eq (E : EN p s m args meth c G Y cc own nL ret) {x : Int32} {off : Int} {tgt : Nat} (hd : decode cc pc = .ok (.ifCond .eq off, 3)) (ht : (pc : Int) + off = (tgt : Int)) (kt : x = 0 → WM p l e R s m args below meth c G Y nL Q M k n tgt L S) (kf : ¬ x = 0 → WM p l e R s m args below meth c G Y nL Q M k n (pc + 3) L S) : WM p l e R s m args below meth c G Y nL Q M k n pc L (iv x :: S) := fun H locs ls hP hS hl => lv_if_eq E.1 E.2.1 hd ht (fun h => kt h H locs ls hP hS hl) (fun h => kf h H locs ls hP hS hl)
theorem r_icmp_eq (E : EN p s m args meth c G Y cc own nL ret) {x y : Int32} {off : Int} {tgt : Nat} (hd : decode cc pc = .ok (.if_icmp .eq off, 3)) (ht : (pc : Int) + off = (tgt : Int)) (kt : x = y → WM p l e R s m args below meth c G Y nL Q M k n tgt L S) (kf : ¬ x = y → WM p l e R s m args below meth c G Y nL Q M k n (pc + 3) L S) : WM p l e R s m args below meth c G Y nL Q M k n pc L (iv y :: iv x :: S) := fun H locs ls hP hS hl => lv_icmp_eq E.1 E.2.1 hd ht (fun h => kt h H locs ls hP hS hl) (fun h => kf h H locs ls hP hS hl)
theorem r_if_ne (E : EN p s m args meth c G Y cc own nL ret) {x : Int32} {off : Int} {tgt : Nat} (hd : decode cc pc = .ok (.ifCond .ne off, 3)) (ht : (pc : Int) + off = (tgt : Int)) (kt : ¬ x = 0 → WM p l e R s m args below meth c G Y nL Q M k n tgt L S) (kf : x = 0 → WM p l e R s m args below meth c G Y nL Q M k n (pc + 3) L S) : WM p l e R s m args below meth c G Y nL Q M k n pc L (iv x :: S) := fun H locs ls hP hS hl => lv_if_ne E.1 E.2.1 hd ht (fun h => kt h H locs ls hP hS hl) (fun h => kf h H locs ls hP hS hl)
theorem r_icmp_ne (E : EN p s m args meth c G Y cc own nL ret) {x y : Int32} {off : Int} {tgt : Nat} (hd : decode cc pc = .ok (.if_icmp .ne off, 3)) (ht : (pc : Int) + off = (tgt : Int)) (kt : ¬ x = y → WM p l e R s m args below meth c G Y nL Q M k n tgt L S) (kf : x = y → WM p l e R s m args below meth c G Y nL Q M k n (pc + 3) L S) : WM p l e R s m args below meth c G Y nL Q M k n pc L (iv y :: iv x :: S) := fun H locs ls hP hS hl => lv_icmp_ne E.1 E.2.1 hd ht (fun h => kt h H locs ls hP hS hl) (fun h => kf h H locs ls hP hS hl)
theorem r_if_lt (E : EN p s m args meth c G Y cc own nL ret) {x : Int32} {off : Int} {tgt : Nat} (hd : decode cc pc = .ok (.ifCond .lt off, 3)) (ht : (pc : Int) + off = (tgt : Int)) (kt : x < 0 → WM p l e R s m args below meth c G Y nL Q M k n tgt L S) (kf : ¬ x < 0 → WM p l e R s m args below meth c G Y nL Q M k n (pc + 3) L S) : WM p l e R s m args below meth c G Y nL Q M k n pc L (iv x :: S) := fun H locs ls hP hS hl => lv_if_lt E.1 E.2.1 hd ht (fun h => kt h H locs ls hP hS hl) (fun h => kf h H locs ls hP hS hl)
theorem r_icmp_lt (E : EN p s m args meth c G Y cc own nL ret) {x y : Int32} {off : Int} {tgt : Nat} (hd : decode cc pc = .ok (.if_icmp .lt off, 3)) (ht : (pc : Int) + off = (tgt : Int)) (kt : x < y → WM p l e R s m args below meth c G Y nL Q M k n tgt L S) (kf : ¬ x < y → WM p l e R s m args below meth c G Y nL Q M k n (pc + 3) L S) : WM p l e R s m args below meth c G Y nL Q M k n pc L (iv y :: iv x :: S) := fun H locs ls hP hS hl => lv_icmp_lt E.1 E.2.1 hd ht (fun h => kt h H locs ls hP hS hl) (fun h => kf h H locs ls hP hS hl)
theorem r_if_ge (E : EN p s m args meth c G Y cc own nL ret) {x : Int32} {off : Int} {tgt : Nat} (hd : decode cc pc = .ok (.ifCond .ge off, 3)) (ht : (pc : Int) + off = (tgt : Int)) (kt : 0 ≤ x → WM p l e R s m args below meth c G Y nL Q M k n tgt L S) (kf : ¬ 0 ≤ x → WM p l e R s m args below meth c G Y nL Q M k n (pc + 3) L S) : WM p l e R s m args below meth c G Y nL Q M k n pc L (iv x :: S) := fun H locs ls hP hS hl => lv_if_ge E.1 E.2.1 hd ht (fun h => kt h H locs ls hP hS hl) (fun h => kf h H locs ls hP hS hl)
theorem r_icmp_ge (E : EN p s m args meth c G Y cc own nL ret) {x y : Int32} {off : Int} {tgt : Nat} (hd : decode cc pc = .ok (.if_icmp .ge off, 3)) (ht : (pc : Int) + off = (tgt : Int)) (kt : y ≤ x → WM p l e R s m args below meth c G Y nL Q M k n tgt L S) (kf : ¬ y ≤ x → WM p l e R s m args below meth c G Y nL Q M k n (pc + 3) L S) : WM p l e R s m args below meth c G Y nL Q M k n pc L (iv y :: iv x :: S) := fun H locs ls hP hS hl => lv_icmp_ge E.1 E.2.1 hd ht (fun h => kt h H locs ls hP hS hl) (fun h => kf h H locs ls hP hS hl)
theorem r_if_gt (E : EN p s m args meth c G Y cc own nL ret) {x : Int32} {off : Int} {tgt : Nat} (hd : decode cc pc = .ok (.ifCond .gt off, 3)) (ht : (pc : Int) + off = (tgt : Int)) (kt : 0 < x → WM p l e R s m args below meth c G Y nL Q M k n tgt L S) (kf : ¬ 0 < x → WM p l e R s m args below meth c G Y nL Q M k n (pc + 3) L S) : WM p l e R s m args below meth c G Y nL Q M k n pc L (iv x :: S) := fun H locs ls hP hS hl => lv_if_gt E.1 E.2.1 hd ht (fun h => kt h H locs ls hP hS hl) (fun h => kf h H locs ls hP hS hl)
theorem r_icmp_gt (E : EN p s m args meth c G Y cc own nL ret) {x y : Int32} {off : Int} {tgt : Nat} (hd : decode cc pc = .ok (.if_icmp .gt off, 3)) (ht : (pc : Int) + off = (tgt : Int)) (kt : y < x → WM p l e R s m args below meth c G Y nL Q M k n tgt L S) (kf : ¬ y < x → WM p l e R s m args below meth c G Y nL Q M k n (pc + 3) L S) : WM p l e R s m args below meth c G Y nL Q M k n pc L (iv y :: iv x :: S) := fun H locs ls hP hS hl => lv_icmp_gt E.1 E.2.1 hd ht (fun h => kt h H locs ls hP hS hl) (fun h => kf h H locs ls hP hS hl)
theorem r_if_le (E : EN p s m args meth c G Y cc own nL ret) {x : Int32} {off : Int} {tgt : Nat} (hd : decode cc pc = .ok (.ifCond .le off, 3)) (ht : (pc : Int) + off = (tgt : Int)) (kt : x ≤ 0 → WM p l e R s m args below meth c G Y nL Q M k n tgt L S) (kf : ¬ x ≤ 0 → WM p l e R s m args below meth c G Y nL Q M k n (pc + 3) L S) : WM p l e R s m args below meth c G Y nL Q M k n pc L (iv x :: S) := fun H locs ls hP hS hl => lv_if_le E.1 E.2.1 hd ht (fun h => kt h H locs ls hP hS hl) (fun h => kf h H locs ls hP hS hl)
theorem r_icmp_le (E : EN p s m args meth c G Y cc own nL ret) {x y : Int32} {off : Int} {tgt : Nat} (hd : decode cc pc = .ok (.if_icmp .le off, 3)) (ht : (pc : Int) + off = (tgt : Int)) (kt : x ≤ y → WM p l e R s m args below meth c G Y nL Q M k n tgt L S) (kf : ¬ x ≤ y → WM p l e R s m args below meth c G Y nL Q M k n (pc + 3) L S) : WM p l e R s m args below meth c G Y nL Q M k n pc L (iv y :: iv x :: S) := fun H locs ls hP hS hl => lv_icmp_le E.1 E.2.1 hd ht (fun h => kt h H locs ls hP hS hl) (fun h => kf h H locs ls hP hS hl)
theorem r_tableIn (E : EN p s m args meth c G Y cc own nL ret) {dflt lo hi : Int} {offs : Array Int} {len : Nat} {x : Int32} {off : Int} {tgt : Nat} (hd : decode cc pc = .ok (.tableswitch dflt lo hi offs, len)) (h1 : ¬ x.toInt < lo) (h2 : ¬ hi < x.toInt) (ho : offs[(x.toInt - lo).toNat]? = some off) (ht : (pc : Int) + off = (tgt : Int)) (kk : WM p l e R s m args below meth c G Y nL Q M k n tgt L S) : WM p l e R s m args below meth c G Y nL Q M k n pc L (iv x :: S) := fun H locs ls hP hS hl => lv_tableIn E.1 E.2.1 hd h1 h2 ho ht (kk H locs ls hP hS hl)
theorem r_tableOut (E : EN p s m args meth c G Y cc own nL ret) {dflt lo hi : Int} {offs : Array Int} {len : Nat} {x : Int32} {tgt : Nat} (hd : decode cc pc = .ok (.tableswitch dflt lo hi offs, len)) (h : x.toInt < lo ∨ hi < x.toInt) (ht : (pc : Int) + dflt = (tgt : Int)) (kk : WM p l e R s m args below meth c G Y nL Q M k n tgt L S) : WM p l e R s m args below meth c G Y nL Q M k n pc L (iv x :: S) := fun H locs ls hP hS hl => lv_tableOut E.1 E.2.1 hd h ht (kk H locs ls hP hS hl)
theorem r_iload_n (E : EN p s m args meth c G Y cc own nL ret) {a : Fin 4} {i : Nat} {x : Int32} (hd : decode cc pc = .ok (.iload_n a, 1)) (hi : (a : Nat) = i) (hL : L[i]? = some (some (iv x))) (kk : WM p l e R s m args below meth c G Y nL Q M k n (pc + 1) L (iv x :: S)) : WM p l e R s m args below meth c G Y nL Q M k n pc L S := fun H locs ls hP hS hl => lv_iload_n E.1 E.2.1 hd hi (lvl_at hl hL) (kk H locs ls hP hS hl)
theorem r_iload (E : EN p s m args meth c G Y cc own nL ret) {i : Nat} {x : Int32} (hd : decode cc pc = .ok (.iload i, 2)) (hL : L[i]? = some (some (iv x))) (kk : WM p l e R s m args below meth c G Y nL Q M k n (pc + 2) L (iv x :: S)) : WM p l e R s m args below meth c G Y nL Q M k n pc L S := fun H locs ls hP hS hl => lv_iload E.1 E.2.1 hd (lvl_at hl hL) (kk H locs ls hP hS hl)
theorem r_aload_n (E : EN p s m args meth c G Y cc own nL ret) {a : Fin 4} {i : Nat} {j t : Nat} (hd : decode cc pc = .ok (.aload_n a, 1)) (hi : (a : Nat) = i) (hL : L[i]? = some (some (rv j t))) (kk : WM p l e R s m args below meth c G Y nL Q M k n (pc + 1) L (rv j t :: S)) : WM p l e R s m args below meth c G Y nL Q M k n pc L S := fun H locs ls hP hS hl => lv_aload_n E.1 E.2.1 hd hi (lvl_at hl hL) (kk H locs ls hP hS hl)
theorem r_aload (E : EN p s m args meth c G Y cc own nL ret) {i : Nat} {j t : Nat} (hd : decode cc pc = .ok (.aload i, 2)) (hL : L[i]? = some (some (rv j t))) (kk : WM p l e R s m args below meth c G Y nL Q M k n (pc + 2) L (rv j t :: S)) : WM p l e R s m args below meth c G Y nL Q M k n pc L S := fun H locs ls hP hS hl => lv_aload E.1 E.2.1 hd (lvl_at hl hL) (kk H locs ls hP hS hl)
theorem r_lload_n (E : EN p s m args meth c G Y cc own nL ret) {a : Fin 4} {i : Nat} {x : Int64} (hd : decode cc pc = .ok (.lload_n a, 1)) (hi : (a : Nat) = i) (hL : L[i]? = some (some (.inl (.long x)))) (kk : WM p l e R s m args below meth c G Y nL Q M k n (pc + 1) L (.inl (.long x) :: S)) : WM p l e R s m args below meth c G Y nL Q M k n pc L S := fun H locs ls hP hS hl => lv_lload_n E.1 E.2.1 hd hi (lvl_at hl hL) (kk H locs ls hP hS hl)
theorem r_lload (E : EN p s m args meth c G Y cc own nL ret) {i : Nat} {x : Int64} (hd : decode cc pc = .ok (.lload i, 2)) (hL : L[i]? = some (some (.inl (.long x)))) (kk : WM p l e R s m args below meth c G Y nL Q M k n (pc + 2) L (.inl (.long x) :: S)) : WM p l e R s m args below meth c G Y nL Q M k n pc L S := fun H locs ls hP hS hl => lv_lload E.1 E.2.1 hd (lvl_at hl hL) (kk H locs ls hP hS hl)
theorem g_istore_n (E : EN p s m args meth c G Y cc own nL ret) {a : Fin 4} {i : Nat} {x : Int32} {L2 : List (Option AV)} (hd : decode cc pc = .ok (.istore_n a, 1)) (ha : (a : Nat) = i) (hi : i < L.length) (hn : L.length = nL) (hc : ∀ z, z + 1 = i → ac2 ((L[z]?).getD none) = false) (hL : L.set i (some (iv x)) = L2) (kk : WM p l e R s m args below meth c G Y nL Q M k n (pc + 1) L2 S) : WM p l e R s m args below meth c G Y nL Q M k n pc L (iv x :: S) := fun H locs ls hP hS hl => lv_istore_n E.1 E.2.1 hd ha hl (hn ▸ hi) rfl (fun ls2 hl2 => kk H locs ls2 hP hS (hL ▸ lvl_set rfl hi hc hl2))
theorem g_istore (E : EN p s m args meth c G Y cc own nL ret) {i : Nat} {x : Int32} {L2 : List (Option AV)} (hd : decode cc pc = .ok (.istore i, 2)) (hi : i < L.length) (hn : L.length = nL) (hc : ∀ z, z + 1 = i → ac2 ((L[z]?).getD none) = false) (hL : L.set i (some (iv x)) = L2) (kk : WM p l e R s m args below meth c G Y nL Q M k n (pc + 2) L2 S) : WM p l e R s m args below meth c G Y nL Q M k n pc L (iv x :: S) := fun H locs ls hP hS hl => lv_istore E.1 E.2.1 hd hl (hn ▸ hi) rfl (fun ls2 hl2 => kk H locs ls2 hP hS (hL ▸ lvl_set rfl hi hc hl2))
theorem g_astore_n (E : EN p s m args meth c G Y cc own nL ret) {a : Fin 4} {i : Nat} {j t : Nat} {L2 : List (Option AV)} (hd : decode cc pc = .ok (.astore_n a, 1)) (ha : (a : Nat) = i) (hi : i < L.length) (hn : L.length = nL) (hc : ∀ z, z + 1 = i → ac2 ((L[z]?).getD none) = false) (hL : L.set i (some (rv j t)) = L2) (kk : WM p l e R s m args below meth c G Y nL Q M k n (pc + 1) L2 S) : WM p l e R s m args below meth c G Y nL Q M k n pc L (rv j t :: S) := fun H locs ls hP hS hl => lv_astore_n E.1 E.2.1 hd ha hl (hn ▸ hi) rfl (fun ls2 hl2 => kk H locs ls2 hP hS (hL ▸ lvl_set rfl hi hc hl2))
theorem g_astore (E : EN p s m args meth c G Y cc own nL ret) {i : Nat} {j t : Nat} {L2 : List (Option AV)} (hd : decode cc pc = .ok (.astore i, 2)) (hi : i < L.length) (hn : L.length = nL) (hc : ∀ z, z + 1 = i → ac2 ((L[z]?).getD none) = false) (hL : L.set i (some (rv j t)) = L2) (kk : WM p l e R s m args below meth c G Y nL Q M k n (pc + 2) L2 S) : WM p l e R s m args below meth c G Y nL Q M k n pc L (rv j t :: S) := fun H locs ls hP hS hl => lv_astore E.1 E.2.1 hd hl (hn ▸ hi) rfl (fun ls2 hl2 => kk H locs ls2 hP hS (hL ▸ lvl_set rfl hi hc hl2))
theorem g_iinc (E : EN p s m args meth c G Y cc own nL ret) {i : Nat} {a : Int} {x : Int32} {L2 : List (Option AV)} (hd : decode cc pc = .ok (.iinc i a, 3)) (hL0 : L[i]? = some (some (iv x))) (hn : L.length = nL) (hc : ∀ z, z + 1 = i → ac2 ((L[z]?).getD none) = false) (hL : L.set i (some (iv (x + Int32.ofInt a))) = L2) (kk : WM p l e R s m args below meth c G Y nL Q M k n (pc + 3) L2 S) : WM p l e R s m args below meth c G Y nL Q M k n pc L S := fun H locs ls hP hS hl => by
  have hi : i < L.length := (List.getElem?_eq_some_iff.mp hL0).1
  obtain ⟨q0, hq0⟩ := List.getElem?_of_mem ((lvl_mem (Y := Y) L 0 i (cv Y (iv x))).mpr ⟨i, iv x, hL0, by omega, rfl⟩)
  exact lv_iinc E.1 E.2.1 hd hl hq0 rfl (hn ▸ hi) rfl (fun ls2 hl2 => kk H locs ls2 hP hS (hL ▸ lvl_set rfl hi hc hl2))
theorem r_istore_0 (E : EN p s m args meth c G Y cc own nL ret) {x : Int32} {x0 : Option AV} {t : List (Option AV)} (hd : decode cc pc = .ok (.istore_n 0, 1)) (hn : t.length + 1 = nL) (kk : WM p l e R s m args below meth c G Y nL Q M k n (pc + 1) (some (iv x) :: t) S) : WM p l e R s m args below meth c G Y nL Q M k n pc (x0 :: t) (iv x :: S) := g_istore_n (i := 0) E hd rfl (by simp only [List.length_cons]; omega) (by simp only [List.length_cons]; omega) hc_0 rfl kk
theorem r_astore_0 (E : EN p s m args meth c G Y cc own nL ret) {j u : Nat} {x0 : Option AV} {t : List (Option AV)} (hd : decode cc pc = .ok (.astore_n 0, 1)) (hn : t.length + 1 = nL) (kk : WM p l e R s m args below meth c G Y nL Q M k n (pc + 1) (some (rv j u) :: t) S) : WM p l e R s m args below meth c G Y nL Q M k n pc (x0 :: t) (rv j u :: S) := g_astore_n (i := 0) E hd rfl (by simp only [List.length_cons]; omega) (by simp only [List.length_cons]; omega) hc_0 rfl kk
theorem r_iinc_0 (E : EN p s m args meth c G Y cc own nL ret) {x : Int32} {a : Int} {zz : Option AV} {t : List (Option AV)} (hd : decode cc pc = .ok (.iinc 0 a, 3)) (hn : t.length + 1 = nL) (kk : WM p l e R s m args below meth c G Y nL Q M k n (pc + 3) (some (iv (x + Int32.ofInt a)) :: t) S) : WM p l e R s m args below meth c G Y nL Q M k n pc (some (iv x) :: t) S := g_iinc (i := 0) E hd rfl (by simp only [List.length_cons]; omega) hc_0 rfl kk
theorem r_istore_1 (E : EN p s m args meth c G Y cc own nL ret) {x : Int32} {x0 x1 : Option AV} {t : List (Option AV)} (hd : decode cc pc = .ok (.istore_n 1, 1)) (hn : t.length + 2 = nL) (hc : ac2 x0 = false) (kk : WM p l e R s m args below meth c G Y nL Q M k n (pc + 1) (x0 :: some (iv x) :: t) S) : WM p l e R s m args below meth c G Y nL Q M k n pc (x0 :: x1 :: t) (iv x :: S) := g_istore_n (i := 1) E hd rfl (by simp only [List.length_cons]; omega) (by simp only [List.length_cons]; omega) (hc_of 0 rfl hc) rfl kk
theorem r_astore_1 (E : EN p s m args meth c G Y cc own nL ret) {j u : Nat} {x0 x1 : Option AV} {t : List (Option AV)} (hd : decode cc pc = .ok (.astore_n 1, 1)) (hn : t.length + 2 = nL) (hc : ac2 x0 = false) (kk : WM p l e R s m args below meth c G Y nL Q M k n (pc + 1) (x0 :: some (rv j u) :: t) S) : WM p l e R s m args below meth c G Y nL Q M k n pc (x0 :: x1 :: t) (rv j u :: S) := g_astore_n (i := 1) E hd rfl (by simp only [List.length_cons]; omega) (by simp only [List.length_cons]; omega) (hc_of 0 rfl hc) rfl kk
theorem r_iinc_1 (E : EN p s m args meth c G Y cc own nL ret) {x : Int32} {a : Int} {x0 : Option AV} {t : List (Option AV)} (hd : decode cc pc = .ok (.iinc 1 a, 3)) (hn : t.length + 2 = nL) (hc : ac2 x0 = false) (kk : WM p l e R s m args below meth c G Y nL Q M k n (pc + 3) (x0 :: some (iv (x + Int32.ofInt a)) :: t) S) : WM p l e R s m args below meth c G Y nL Q M k n pc (x0 :: some (iv x) :: t) S := g_iinc (i := 1) E hd rfl (by simp only [List.length_cons]; omega) (hc_of 0 rfl hc) rfl kk
theorem r_istore_2 (E : EN p s m args meth c G Y cc own nL ret) {x : Int32} {x0 x1 x2 : Option AV} {t : List (Option AV)} (hd : decode cc pc = .ok (.istore_n 2, 1)) (hn : t.length + 3 = nL) (hc : ac2 x1 = false) (kk : WM p l e R s m args below meth c G Y nL Q M k n (pc + 1) (x0 :: x1 :: some (iv x) :: t) S) : WM p l e R s m args below meth c G Y nL Q M k n pc (x0 :: x1 :: x2 :: t) (iv x :: S) := g_istore_n (i := 2) E hd rfl (by simp only [List.length_cons]; omega) (by simp only [List.length_cons]; omega) (hc_of 1 rfl hc) rfl kk
theorem r_astore_2 (E : EN p s m args meth c G Y cc own nL ret) {j u : Nat} {x0 x1 x2 : Option AV} {t : List (Option AV)} (hd : decode cc pc = .ok (.astore_n 2, 1)) (hn : t.length + 3 = nL) (hc : ac2 x1 = false) (kk : WM p l e R s m args below meth c G Y nL Q M k n (pc + 1) (x0 :: x1 :: some (rv j u) :: t) S) : WM p l e R s m args below meth c G Y nL Q M k n pc (x0 :: x1 :: x2 :: t) (rv j u :: S) := g_astore_n (i := 2) E hd rfl (by simp only [List.length_cons]; omega) (by simp only [List.length_cons]; omega) (hc_of 1 rfl hc) rfl kk
theorem r_iinc_2 (E : EN p s m args meth c G Y cc own nL ret) {x : Int32} {a : Int} {x0 x1 : Option AV} {t : List (Option AV)} (hd : decode cc pc = .ok (.iinc 2 a, 3)) (hn : t.length + 3 = nL) (hc : ac2 x1 = false) (kk : WM p l e R s m args below meth c G Y nL Q M k n (pc + 3) (x0 :: x1 :: some (iv (x + Int32.ofInt a)) :: t) S) : WM p l e R s m args below meth c G Y nL Q M k n pc (x0 :: x1 :: some (iv x) :: t) S := g_iinc (i := 2) E hd rfl (by simp only [List.length_cons]; omega) (hc_of 1 rfl hc) rfl kk
theorem r_istore_3 (E : EN p s m args meth c G Y cc own nL ret) {x : Int32} {x0 x1 x2 x3 : Option AV} {t : List (Option AV)} (hd : decode cc pc = .ok (.istore_n 3, 1)) (hn : t.length + 4 = nL) (hc : ac2 x2 = false) (kk : WM p l e R s m args below meth c G Y nL Q M k n (pc + 1) (x0 :: x1 :: x2 :: some (iv x) :: t) S) : WM p l e R s m args below meth c G Y nL Q M k n pc (x0 :: x1 :: x2 :: x3 :: t) (iv x :: S) := g_istore_n (i := 3) E hd rfl (by simp only [List.length_cons]; omega) (by simp only [List.length_cons]; omega) (hc_of 2 rfl hc) rfl kk
theorem r_astore_3 (E : EN p s m args meth c G Y cc own nL ret) {j u : Nat} {x0 x1 x2 x3 : Option AV} {t : List (Option AV)} (hd : decode cc pc = .ok (.astore_n 3, 1)) (hn : t.length + 4 = nL) (hc : ac2 x2 = false) (kk : WM p l e R s m args below meth c G Y nL Q M k n (pc + 1) (x0 :: x1 :: x2 :: some (rv j u) :: t) S) : WM p l e R s m args below meth c G Y nL Q M k n pc (x0 :: x1 :: x2 :: x3 :: t) (rv j u :: S) := g_astore_n (i := 3) E hd rfl (by simp only [List.length_cons]; omega) (by simp only [List.length_cons]; omega) (hc_of 2 rfl hc) rfl kk
theorem r_iinc_3 (E : EN p s m args meth c G Y cc own nL ret) {x : Int32} {a : Int} {x0 x1 x2 : Option AV} {t : List (Option AV)} (hd : decode cc pc = .ok (.iinc 3 a, 3)) (hn : t.length + 4 = nL) (hc : ac2 x2 = false) (kk : WM p l e R s m args below meth c G Y nL Q M k n (pc + 3) (x0 :: x1 :: x2 :: some (iv (x + Int32.ofInt a)) :: t) S) : WM p l e R s m args below meth c G Y nL Q M k n pc (x0 :: x1 :: x2 :: some (iv x) :: t) S := g_iinc (i := 3) E hd rfl (by simp only [List.length_cons]; omega) (hc_of 2 rfl hc) rfl kk
theorem r_istore_4 (E : EN p s m args meth c G Y cc own nL ret) {x : Int32} {x0 x1 x2 x3 x4 : Option AV} {t : List (Option AV)} (hd : decode cc pc = .ok (.istore 4, 2)) (hn : t.length + 5 = nL) (hc : ac2 x3 = false) (kk : WM p l e R s m args below meth c G Y nL Q M k n (pc + 2) (x0 :: x1 :: x2 :: x3 :: some (iv x) :: t) S) : WM p l e R s m args below meth c G Y nL Q M k n pc (x0 :: x1 :: x2 :: x3 :: x4 :: t) (iv x :: S) := g_istore (i := 4) E hd (by simp only [List.length_cons]; omega) (by simp only [List.length_cons]; omega) (hc_of 3 rfl hc) rfl kk
theorem r_astore_4 (E : EN p s m args meth c G Y cc own nL ret) {j u : Nat} {x0 x1 x2 x3 x4 : Option AV} {t : List (Option AV)} (hd : decode cc pc = .ok (.astore 4, 2)) (hn : t.length + 5 = nL) (hc : ac2 x3 = false) (kk : WM p l e R s m args below meth c G Y nL Q M k n (pc + 2) (x0 :: x1 :: x2 :: x3 :: some (rv j u) :: t) S) : WM p l e R s m args below meth c G Y nL Q M k n pc (x0 :: x1 :: x2 :: x3 :: x4 :: t) (rv j u :: S) := g_astore (i := 4) E hd (by simp only [List.length_cons]; omega) (by simp only [List.length_cons]; omega) (hc_of 3 rfl hc) rfl kk
theorem r_iinc_4 (E : EN p s m args meth c G Y cc own nL ret) {x : Int32} {a : Int} {x0 x1 x2 x3 : Option AV} {t : List (Option AV)} (hd : decode cc pc = .ok (.iinc 4 a, 3)) (hn : t.length + 5 = nL) (hc : ac2 x3 = false) (kk : WM p l e R s m args below meth c G Y nL Q M k n (pc + 3) (x0 :: x1 :: x2 :: x3 :: some (iv (x + Int32.ofInt a)) :: t) S) : WM p l e R s m args below meth c G Y nL Q M k n pc (x0 :: x1 :: x2 :: x3 :: some (iv x) :: t) S := g_iinc (i := 4) E hd rfl (by simp only [List.length_cons]; omega) (hc_of 3 rfl hc) rfl kk
theorem r_istore_5 (E : EN p s m args meth c G Y cc own nL ret) {x : Int32} {x0 x1 x2 x3 x4 x5 : Option AV} {t : List (Option AV)} (hd : decode cc pc = .ok (.istore 5, 2)) (hn : t.length + 6 = nL) (hc : ac2 x4 = false) (kk : WM p l e R s m args below meth c G Y nL Q M k n (pc + 2) (x0 :: x1 :: x2 :: x3 :: x4 :: some (iv x) :: t) S) : WM p l e R s m args below meth c G Y nL Q M k n pc (x0 :: x1 :: x2 :: x3 :: x4 :: x5 :: t) (iv x :: S) := g_istore (i := 5) E hd (by simp only [List.length_cons]; omega) (by simp only [List.length_cons]; omega) (hc_of 4 rfl hc) rfl kk
theorem r_astore_5 (E : EN p s m args meth c G Y cc own nL ret) {j u : Nat} {x0 x1 x2 x3 x4 x5 : Option AV} {t : List (Option AV)} (hd : decode cc pc = .ok (.astore 5, 2)) (hn : t.length + 6 = nL) (hc : ac2 x4 = false) (kk : WM p l e R s m args below meth c G Y nL Q M k n (pc + 2) (x0 :: x1 :: x2 :: x3 :: x4 :: some (rv j u) :: t) S) : WM p l e R s m args below meth c G Y nL Q M k n pc (x0 :: x1 :: x2 :: x3 :: x4 :: x5 :: t) (rv j u :: S) := g_astore (i := 5) E hd (by simp only [List.length_cons]; omega) (by simp only [List.length_cons]; omega) (hc_of 4 rfl hc) rfl kk
theorem r_iinc_5 (E : EN p s m args meth c G Y cc own nL ret) {x : Int32} {a : Int} {x0 x1 x2 x3 x4 : Option AV} {t : List (Option AV)} (hd : decode cc pc = .ok (.iinc 5 a, 3)) (hn : t.length + 6 = nL) (hc : ac2 x4 = false) (kk : WM p l e R s m args below meth c G Y nL Q M k n (pc + 3) (x0 :: x1 :: x2 :: x3 :: x4 :: some (iv (x + Int32.ofInt a)) :: t) S) : WM p l e R s m args below meth c G Y nL Q M k n pc (x0 :: x1 :: x2 :: x3 :: x4 :: some (iv x) :: t) S := g_iinc (i := 5) E hd rfl (by simp only [List.length_cons]; omega) (hc_of 4 rfl hc) rfl kk
theorem r_istore_6 (E : EN p s m args meth c G Y cc own nL ret) {x : Int32} {x0 x1 x2 x3 x4 x5 x6 : Option AV} {t : List (Option AV)} (hd : decode cc pc = .ok (.istore 6, 2)) (hn : t.length + 7 = nL) (hc : ac2 x5 = false) (kk : WM p l e R s m args below meth c G Y nL Q M k n (pc + 2) (x0 :: x1 :: x2 :: x3 :: x4 :: x5 :: some (iv x) :: t) S) : WM p l e R s m args below meth c G Y nL Q M k n pc (x0 :: x1 :: x2 :: x3 :: x4 :: x5 :: x6 :: t) (iv x :: S) := g_istore (i := 6) E hd (by simp only [List.length_cons]; omega) (by simp only [List.length_cons]; omega) (hc_of 5 rfl hc) rfl kk
theorem r_astore_6 (E : EN p s m args meth c G Y cc own nL ret) {j u : Nat} {x0 x1 x2 x3 x4 x5 x6 : Option AV} {t : List (Option AV)} (hd : decode cc pc = .ok (.astore 6, 2)) (hn : t.length + 7 = nL) (hc : ac2 x5 = false) (kk : WM p l e R s m args below meth c G Y nL Q M k n (pc + 2) (x0 :: x1 :: x2 :: x3 :: x4 :: x5 :: some (rv j u) :: t) S) : WM p l e R s m args below meth c G Y nL Q M k n pc (x0 :: x1 :: x2 :: x3 :: x4 :: x5 :: x6 :: t) (rv j u :: S) := g_astore (i := 6) E hd (by simp only [List.length_cons]; omega) (by simp only [List.length_cons]; omega) (hc_of 5 rfl hc) rfl kk
theorem r_iinc_6 (E : EN p s m args meth c G Y cc own nL ret) {x : Int32} {a : Int} {x0 x1 x2 x3 x4 x5 : Option AV} {t : List (Option AV)} (hd : decode cc pc = .ok (.iinc 6 a, 3)) (hn : t.length + 7 = nL) (hc : ac2 x5 = false) (kk : WM p l e R s m args below meth c G Y nL Q M k n (pc + 3) (x0 :: x1 :: x2 :: x3 :: x4 :: x5 :: some (iv (x + Int32.ofInt a)) :: t) S) : WM p l e R s m args below meth c G Y nL Q M k n pc (x0 :: x1 :: x2 :: x3 :: x4 :: x5 :: some (iv x) :: t) S := g_iinc (i := 6) E hd rfl (by simp only [List.length_cons]; omega) (hc_of 5 rfl hc) rfl kk
theorem r_istore_7 (E : EN p s m args meth c G Y cc own nL ret) {x : Int32} {x0 x1 x2 x3 x4 x5 x6 x7 : Option AV} {t : List (Option AV)} (hd : decode cc pc = .ok (.istore 7, 2)) (hn : t.length + 8 = nL) (hc : ac2 x6 = false) (kk : WM p l e R s m args below meth c G Y nL Q M k n (pc + 2) (x0 :: x1 :: x2 :: x3 :: x4 :: x5 :: x6 :: some (iv x) :: t) S) : WM p l e R s m args below meth c G Y nL Q M k n pc (x0 :: x1 :: x2 :: x3 :: x4 :: x5 :: x6 :: x7 :: t) (iv x :: S) := g_istore (i := 7) E hd (by simp only [List.length_cons]; omega) (by simp only [List.length_cons]; omega) (hc_of 6 rfl hc) rfl kk
theorem r_astore_7 (E : EN p s m args meth c G Y cc own nL ret) {j u : Nat} {x0 x1 x2 x3 x4 x5 x6 x7 : Option AV} {t : List (Option AV)} (hd : decode cc pc = .ok (.astore 7, 2)) (hn : t.length + 8 = nL) (hc : ac2 x6 = false) (kk : WM p l e R s m args below meth c G Y nL Q M k n (pc + 2) (x0 :: x1 :: x2 :: x3 :: x4 :: x5 :: x6 :: some (rv j u) :: t) S) : WM p l e R s m args below meth c G Y nL Q M k n pc (x0 :: x1 :: x2 :: x3 :: x4 :: x5 :: x6 :: x7 :: t) (rv j u :: S) := g_astore (i := 7) E hd (by simp only [List.length_cons]; omega) (by simp only [List.length_cons]; omega) (hc_of 6 rfl hc) rfl kk
theorem r_iinc_7 (E : EN p s m args meth c G Y cc own nL ret) {x : Int32} {a : Int} {x0 x1 x2 x3 x4 x5 x6 : Option AV} {t : List (Option AV)} (hd : decode cc pc = .ok (.iinc 7 a, 3)) (hn : t.length + 8 = nL) (hc : ac2 x6 = false) (kk : WM p l e R s m args below meth c G Y nL Q M k n (pc + 3) (x0 :: x1 :: x2 :: x3 :: x4 :: x5 :: x6 :: some (iv (x + Int32.ofInt a)) :: t) S) : WM p l e R s m args below meth c G Y nL Q M k n pc (x0 :: x1 :: x2 :: x3 :: x4 :: x5 :: x6 :: some (iv x) :: t) S := g_iinc (i := 7) E hd rfl (by simp only [List.length_cons]; omega) (hc_of 6 rfl hc) rfl kk
theorem r_istore_8 (E : EN p s m args meth c G Y cc own nL ret) {x : Int32} {x0 x1 x2 x3 x4 x5 x6 x7 x8 : Option AV} {t : List (Option AV)} (hd : decode cc pc = .ok (.istore 8, 2)) (hn : t.length + 9 = nL) (hc : ac2 x7 = false) (kk : WM p l e R s m args below meth c G Y nL Q M k n (pc + 2) (x0 :: x1 :: x2 :: x3 :: x4 :: x5 :: x6 :: x7 :: some (iv x) :: t) S) : WM p l e R s m args below meth c G Y nL Q M k n pc (x0 :: x1 :: x2 :: x3 :: x4 :: x5 :: x6 :: x7 :: x8 :: t) (iv x :: S) := g_istore (i := 8) E hd (by simp only [List.length_cons]; omega) (by simp only [List.length_cons]; omega) (hc_of 7 rfl hc) rfl kk
theorem r_astore_8 (E : EN p s m args meth c G Y cc own nL ret) {j u : Nat} {x0 x1 x2 x3 x4 x5 x6 x7 x8 : Option AV} {t : List (Option AV)} (hd : decode cc pc = .ok (.astore 8, 2)) (hn : t.length + 9 = nL) (hc : ac2 x7 = false) (kk : WM p l e R s m args below meth c G Y nL Q M k n (pc + 2) (x0 :: x1 :: x2 :: x3 :: x4 :: x5 :: x6 :: x7 :: some (rv j u) :: t) S) : WM p l e R s m args below meth c G Y nL Q M k n pc (x0 :: x1 :: x2 :: x3 :: x4 :: x5 :: x6 :: x7 :: x8 :: t) (rv j u :: S) := g_astore (i := 8) E hd (by simp only [List.length_cons]; omega) (by simp only [List.length_cons]; omega) (hc_of 7 rfl hc) rfl kk
theorem r_iinc_8 (E : EN p s m args meth c G Y cc own nL ret) {x : Int32} {a : Int} {x0 x1 x2 x3 x4 x5 x6 x7 : Option AV} {t : List (Option AV)} (hd : decode cc pc = .ok (.iinc 8 a, 3)) (hn : t.length + 9 = nL) (hc : ac2 x7 = false) (kk : WM p l e R s m args below meth c G Y nL Q M k n (pc + 3) (x0 :: x1 :: x2 :: x3 :: x4 :: x5 :: x6 :: x7 :: some (iv (x + Int32.ofInt a)) :: t) S) : WM p l e R s m args below meth c G Y nL Q M k n pc (x0 :: x1 :: x2 :: x3 :: x4 :: x5 :: x6 :: x7 :: some (iv x) :: t) S := g_iinc (i := 8) E hd rfl (by simp only [List.length_cons]; omega) (hc_of 7 rfl hc) rfl kk
theorem r_istore_9 (E : EN p s m args meth c G Y cc own nL ret) {x : Int32} {x0 x1 x2 x3 x4 x5 x6 x7 x8 x9 : Option AV} {t : List (Option AV)} (hd : decode cc pc = .ok (.istore 9, 2)) (hn : t.length + 10 = nL) (hc : ac2 x8 = false) (kk : WM p l e R s m args below meth c G Y nL Q M k n (pc + 2) (x0 :: x1 :: x2 :: x3 :: x4 :: x5 :: x6 :: x7 :: x8 :: some (iv x) :: t) S) : WM p l e R s m args below meth c G Y nL Q M k n pc (x0 :: x1 :: x2 :: x3 :: x4 :: x5 :: x6 :: x7 :: x8 :: x9 :: t) (iv x :: S) := g_istore (i := 9) E hd (by simp only [List.length_cons]; omega) (by simp only [List.length_cons]; omega) (hc_of 8 rfl hc) rfl kk
theorem r_astore_9 (E : EN p s m args meth c G Y cc own nL ret) {j u : Nat} {x0 x1 x2 x3 x4 x5 x6 x7 x8 x9 : Option AV} {t : List (Option AV)} (hd : decode cc pc = .ok (.astore 9, 2)) (hn : t.length + 10 = nL) (hc : ac2 x8 = false) (kk : WM p l e R s m args below meth c G Y nL Q M k n (pc + 2) (x0 :: x1 :: x2 :: x3 :: x4 :: x5 :: x6 :: x7 :: x8 :: some (rv j u) :: t) S) : WM p l e R s m args below meth c G Y nL Q M k n pc (x0 :: x1 :: x2 :: x3 :: x4 :: x5 :: x6 :: x7 :: x8 :: x9 :: t) (rv j u :: S) := g_astore (i := 9) E hd (by simp only [List.length_cons]; omega) (by simp only [List.length_cons]; omega) (hc_of 8 rfl hc) rfl kk
theorem r_iinc_9 (E : EN p s m args meth c G Y cc own nL ret) {x : Int32} {a : Int} {x0 x1 x2 x3 x4 x5 x6 x7 x8 : Option AV} {t : List (Option AV)} (hd : decode cc pc = .ok (.iinc 9 a, 3)) (hn : t.length + 10 = nL) (hc : ac2 x8 = false) (kk : WM p l e R s m args below meth c G Y nL Q M k n (pc + 3) (x0 :: x1 :: x2 :: x3 :: x4 :: x5 :: x6 :: x7 :: x8 :: some (iv (x + Int32.ofInt a)) :: t) S) : WM p l e R s m args below meth c G Y nL Q M k n pc (x0 :: x1 :: x2 :: x3 :: x4 :: x5 :: x6 :: x7 :: x8 :: some (iv x) :: t) S := g_iinc (i := 9) E hd rfl (by simp only [List.length_cons]; omega) (hc_of 8 rfl hc) rfl kk
theorem r_istore_10 (E : EN p s m args meth c G Y cc own nL ret) {x : Int32} {x0 x1 x2 x3 x4 x5 x6 x7 x8 x9 x10 : Option AV} {t : List (Option AV)} (hd : decode cc pc = .ok (.istore 10, 2)) (hn : t.length + 11 = nL) (hc : ac2 x9 = false) (kk : WM p l e R s m args below meth c G Y nL Q M k n (pc + 2) (x0 :: x1 :: x2 :: x3 :: x4 :: x5 :: x6 :: x7 :: x8 :: x9 :: some (iv x) :: t) S) : WM p l e R s m args below meth c G Y nL Q M k n pc (x0 :: x1 :: x2 :: x3 :: x4 :: x5 :: x6 :: x7 :: x8 :: x9 :: x10 :: t) (iv x :: S) := g_istore (i := 10) E hd (by simp only [List.length_cons]; omega) (by simp only [List.length_cons]; omega) (hc_of 9 rfl hc) rfl kk
theorem r_astore_10 (E : EN p s m args meth c G Y cc own nL ret) {j u : Nat} {x0 x1 x2 x3 x4 x5 x6 x7 x8 x9 x10 : Option AV} {t : List (Option AV)} (hd : decode cc pc = .ok (.astore 10, 2)) (hn : t.length + 11 = nL) (hc : ac2 x9 = false) (kk : WM p l e R s m args below meth c G Y nL Q M k n (pc + 2) (x0 :: x1 :: x2 :: x3 :: x4 :: x5 :: x6 :: x7 :: x8 :: x9 :: some (rv j u) :: t) S) : WM p l e R s m args below meth c G Y nL Q M k n pc (x0 :: x1 :: x2 :: x3 :: x4 :: x5 :: x6 :: x7 :: x8 :: x9 :: x10 :: t) (rv j u :: S) := g_astore (i := 10) E hd (by simp only [List.length_cons]; omega) (by simp only [List.length_cons]; omega) (hc_of 9 rfl hc) rfl kk
theorem r_iinc_10 (E : EN p s m args meth c G Y cc own nL ret) {x : Int32} {a : Int} {x0 x1 x2 x3 x4 x5 x6 x7 x8 x9 : Option AV} {t : List (Option AV)} (hd : decode cc pc = .ok (.iinc 10 a, 3)) (hn : t.length + 11 = nL) (hc : ac2 x9 = false) (kk : WM p l e R s m args below meth c G Y nL Q M k n (pc + 3) (x0 :: x1 :: x2 :: x3 :: x4 :: x5 :: x6 :: x7 :: x8 :: x9 :: some (iv (x + Int32.ofInt a)) :: t) S) : WM p l e R s m args below meth c G Y nL Q M k n pc (x0 :: x1 :: x2 :: x3 :: x4 :: x5 :: x6 :: x7 :: x8 :: x9 :: some (iv x) :: t) S := g_iinc (i := 10) E hd rfl (by simp only [List.length_cons]; omega) (hc_of 9 rfl hc) rfl kk
theorem r_istore_11 (E : EN p s m args meth c G Y cc own nL ret) {x : Int32} {x0 x1 x2 x3 x4 x5 x6 x7 x8 x9 x10 x11 : Option AV} {t : List (Option AV)} (hd : decode cc pc = .ok (.istore 11, 2)) (hn : t.length + 12 = nL) (hc : ac2 x10 = false) (kk : WM p l e R s m args below meth c G Y nL Q M k n (pc + 2) (x0 :: x1 :: x2 :: x3 :: x4 :: x5 :: x6 :: x7 :: x8 :: x9 :: x10 :: some (iv x) :: t) S) : WM p l e R s m args below meth c G Y nL Q M k n pc (x0 :: x1 :: x2 :: x3 :: x4 :: x5 :: x6 :: x7 :: x8 :: x9 :: x10 :: x11 :: t) (iv x :: S) := g_istore (i := 11) E hd (by simp only [List.length_cons]; omega) (by simp only [List.length_cons]; omega) (hc_of 10 rfl hc) rfl kk
theorem r_astore_11 (E : EN p s m args meth c G Y cc own nL ret) {j u : Nat} {x0 x1 x2 x3 x4 x5 x6 x7 x8 x9 x10 x11 : Option AV} {t : List (Option AV)} (hd : decode cc pc = .ok (.astore 11, 2)) (hn : t.length + 12 = nL) (hc : ac2 x10 = false) (kk : WM p l e R s m args below meth c G Y nL Q M k n (pc + 2) (x0 :: x1 :: x2 :: x3 :: x4 :: x5 :: x6 :: x7 :: x8 :: x9 :: x10 :: some (rv j u) :: t) S) : WM p l e R s m args below meth c G Y nL Q M k n pc (x0 :: x1 :: x2 :: x3 :: x4 :: x5 :: x6 :: x7 :: x8 :: x9 :: x10 :: x11 :: t) (rv j u :: S) := g_astore (i := 11) E hd (by simp only [List.length_cons]; omega) (by simp only [List.length_cons]; omega) (hc_of 10 rfl hc) rfl kk
theorem r_iinc_11 (E : EN p s m args meth c G Y cc own nL ret) {x : Int32} {a : Int} {x0 x1 x2 x3 x4 x5 x6 x7 x8 x9 x10 : Option AV} {t : List (Option AV)} (hd : decode cc pc = .ok (.iinc 11 a, 3)) (hn : t.length + 12 = nL) (hc : ac2 x10 = false) (kk : WM p l e R s m args below meth c G Y nL Q M k n (pc + 3) (x0 :: x1 :: x2 :: x3 :: x4 :: x5 :: x6 :: x7 :: x8 :: x9 :: x10 :: some (iv (x + Int32.ofInt a)) :: t) S) : WM p l e R s m args below meth c G Y nL Q M k n pc (x0 :: x1 :: x2 :: x3 :: x4 :: x5 :: x6 :: x7 :: x8 :: x9 :: x10 :: some (iv x) :: t) S := g_iinc (i := 11) E hd rfl (by simp only [List.length_cons]; omega) (hc_of 10 rfl hc) rfl kk
theorem r_istore_12 (E : EN p s m args meth c G Y cc own nL ret) {x : Int32} {x0 x1 x2 x3 x4 x5 x6 x7 x8 x9 x10 x11 x12 : Option AV} {t : List (Option AV)} (hd : decode cc pc = .ok (.istore 12, 2)) (hn : t.length + 13 = nL) (hc : ac2 x11 = false) (kk : WM p l e R s m args below meth c G Y nL Q M k n (pc + 2) (x0 :: x1 :: x2 :: x3 :: x4 :: x5 :: x6 :: x7 :: x8 :: x9 :: x10 :: x11 :: some (iv x) :: t) S) : WM p l e R s m args below meth c G Y nL Q M k n pc (x0 :: x1 :: x2 :: x3 :: x4 :: x5 :: x6 :: x7 :: x8 :: x9 :: x10 :: x11 :: x12 :: t) (iv x :: S) := g_istore (i := 12) E hd (by simp only [List.length_cons]; omega) (by simp only [List.length_cons]; omega) (hc_of 11 rfl hc) rfl kk
theorem r_astore_12 (E : EN p s m args meth c G Y cc own nL ret) {j u : Nat} {x0 x1 x2 x3 x4 x5 x6 x7 x8 x9 x10 x11 x12 : Option AV} {t : List (Option AV)} (hd : decode cc pc = .ok (.astore 12, 2)) (hn : t.length + 13 = nL) (hc : ac2 x11 = false) (kk : WM p l e R s m args below meth c G Y nL Q M k n (pc + 2) (x0 :: x1 :: x2 :: x3 :: x4 :: x5 :: x6 :: x7 :: x8 :: x9 :: x10 :: x11 :: some (rv j u) :: t) S) : WM p l e R s m args below meth c G Y nL Q M k n pc (x0 :: x1 :: x2 :: x3 :: x4 :: x5 :: x6 :: x7 :: x8 :: x9 :: x10 :: x11 :: x12 :: t) (rv j u :: S) := g_astore (i := 12) E hd (by simp only [List.length_cons]; omega) (by simp only [List.length_cons]; omega) (hc_of 11 rfl hc) rfl kk
theorem r_iinc_12 (E : EN p s m args meth c G Y cc own nL ret) {x : Int32} {a : Int} {x0 x1 x2 x3 x4 x5 x6 x7 x8 x9 x10 x11 : Option AV} {t : List (Option AV)} (hd : decode cc pc = .ok (.iinc 12 a, 3)) (hn : t.length + 13 = nL) (hc : ac2 x11 = false) (kk : WM p l e R s m args below meth c G Y nL Q M k n (pc + 3) (x0 :: x1 :: x2 :: x3 :: x4 :: x5 :: x6 :: x7 :: x8 :: x9 :: x10 :: x11 :: some (iv (x + Int32.ofInt a)) :: t) S) : WM p l e R s m args below meth c G Y nL Q M k n pc (x0 :: x1 :: x2 :: x3 :: x4 :: x5 :: x6 :: x7 :: x8 :: x9 :: x10 :: x11 :: some (iv x) :: t) S := g_iinc (i := 12) E hd rfl (by simp only [List.length_cons]; omega) (hc_of 11 rfl hc) rfl kk
end RW
