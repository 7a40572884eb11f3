/-! THE LAYER: a method's world as modules. A module (number j, of a kind) is an object and the arrays that hang on it; tag 0 is the object, tag t > 0 the array of field t - 1 (or as AE says). What a module holds is a function tag → slot → Int32. References are pairs (module, tag). -/
abbrev AV : Type := Value ⊕ (Nat × Nat)
abbrev iv (x : Int32) : AV := .inl (.int x)
abbrev rv (j t : Nat) : AV := .inr (j, t)
abbrev Mem : Type := Nat → Nat → Nat → Int32
/-- kinds of the modules, links between modules, addresses -/
abbrev LV : Type := List Nat × (Nat → Nat → Nat) × (Nat → Nat → Nat)
/-- classes of objects and their slots; classes of arrays; the law's script (length, ints); the text that is told (length, bytes) -/
abbrev GT : Type := va_G × (Nat → ClassId) × (Nat × (Nat → Int32)) × (Nat × (Nat → Int32))
abbrev kdY (Y : LV) (j : Nat) : Nat := Y.1.getD j 0
abbrev adY (Y : LV) (j t : Nat) : Nat := Y.2.2 j t
def cv (Y : LV) : AV → Value
  | .inl v => v
  | .inr q => .ref (Y.2.2 q.1 q.2)
-- kinds: 1 State, 2 Plan, 3 Text, 4 Script, 5 Puddles, 6 Ways, 7 History, 8 PuddleCity, 9 PuddleCityLaw, 10 an int[5], 11 an int[40], 12 to 15 a StringBuilder with room for 16, 34, 70, 142
/-- of a kind: the object's class in vwCl -/
def OC : List (Option Nat) := [none, some 6, some 3, some 7, some 5, some 4, some 8, some 2, some 9, some 10, none, none, some 1, some 1, some 1, some 1]
/-- of a kind: its fields; 0 a number, 1 its own array, 2 a link, 3 a module by number -/
def FK : List (List Nat) := [[], [1,1,1,1,1,1,1,0,0,0,0,0,0,0,0], [1,1,1,1,1,1,1,0,0,0,0,0], [1,0,0,0,0,0,0,0], [1,1,1,1,0], [1,1,1,1,0], [1,1], [1,0,0], [2,2,2,2,2,2,2,2,1,3,3,0,0], [1,1,1,1,1,1,1,1,1,1,1,1,0,0,0,0,0,0,0,0,0], [], [], [1,0,0,0], [1,0,0,0], [1,0,0,0], [1,0,0,0]]
/-- of a kind: its arrays: tag, type (0 int, 1 byte, 2 boolean, 4 State, 5 byte[], 6 Verb, 7 to 13 int[], one for each of the law's seven), length -/
def AE : List (List (Nat × Nat × Nat)) := [[], [(1,0,64),(2,0,64),(3,0,64),(4,0,64),(5,0,4),(6,0,4),(7,2,4)], [(1,0,64),(2,0,64),(3,0,256),(4,5,4),(5,0,4),(6,0,4),(7,0,4),(8,1,6),(9,1,6),(10,1,6),(11,1,6)], [(1,1,600)], [(1,6,30),(2,0,30),(3,0,30),(4,0,30)], [(1,0,64),(2,0,64),(3,0,64),(4,0,64)], [(1,0,64),(2,0,64)], [(1,4,8)], [(9,1,16)], [(1,7,7),(2,8,7),(3,9,7),(4,10,7),(5,11,7),(6,12,7),(7,13,7),(8,0,2),(9,0,2),(10,0,2),(11,0,2),(12,2,2),(20,0,7),(21,0,7),(22,0,7),(23,0,7),(24,0,7),(25,0,7),(26,0,7),(27,0,7),(28,0,7),(29,0,7),(30,0,7),(31,0,7),(32,0,7),(33,0,7),(34,0,7),(35,0,7),(36,0,7),(37,0,7),(38,0,7),(39,0,7),(40,0,7),(41,0,7),(42,0,7),(43,0,7),(44,0,7),(45,0,7),(46,0,7),(47,0,7),(48,0,7),(49,0,7),(50,0,7),(51,0,7),(52,0,7),(53,0,7),(54,0,7),(55,0,7),(56,0,7),(57,0,7),(58,0,7),(59,0,7),(60,0,7),(61,0,7),(62,0,7),(63,0,7),(64,0,7),(65,0,7),(66,0,7),(67,0,7),(68,0,7)], [(0,0,5)], [(0,0,40)], [(1,1,16)], [(1,1,34)], [(1,1,70)], [(1,1,142)]]
def oc (κ : Nat) : Option Nat := OC.getD κ none
def fk (κ k : Nat) : Nat := (FK.getD κ []).getD k 0
def fn (κ : Nat) : Nat := (FK.getD κ []).length
def ae (κ t : Nat) : Option (Nat × Nat) := (AE.getD κ []).lookup t
/-- the tags of a kind -/
def KT (κ : Nat) : List Nat := (if (oc κ).isSome then [0] else []) ++ (AE.getD κ []).map (fun q => q.1)
def isNest (w : Cond) : Bool := match w with | .fieldLinkNest .. => true | .methodLinkNest .. => true | .castable .. => true | .declares _ => true | _ => false
def NW : List Cond := lw_tbl.filter isNest
def BIG : List Cond := lw_tbl.filter goodWord
/-- a field by its number in the class file of 'own' -/
def FL (own : String) (idx κ k : Nat) : Prop := ∃ (ci N : Nat) (C : String) (T : u_T) (ty0 : Nat → FieldType), κ < 16 ∧ oc κ = some ci ∧ fn κ = N ∧ vwCl[ci]? = some (C, T, N) ∧ (∀ w ∈ u_ws C T N, w ∈ BIG) ∧ (∀ k, k < N → parseFieldDescriptor (T k).2.2.1 = some (ty0 k)) ∧ (∀ a, a < N → ∀ b, b < N → a ≠ b → (T a).2.1 ≠ (T b).2.1) ∧ k < N ∧ (Cond.fieldLink own idx (T k).1 (T k).2.1 (T k).2.2.1 ∈ BIG ∨ ∃ host, Cond.fieldLinkNest own idx (T k).1 (T k).2.1 (T k).2.2.1 host ∈ NW)
/-- .. that is not final, and of this type -/
def FLt (own : String) (idx κ k : Nat) (ty : FieldType) : Prop := ∃ (ci N : Nat) (C : String) (T : u_T) (ty0 : Nat → FieldType), κ < 16 ∧ oc κ = some ci ∧ fn κ = N ∧ vwCl[ci]? = some (C, T, N) ∧ (∀ w ∈ u_ws C T N, w ∈ BIG) ∧ (∀ k, k < N → parseFieldDescriptor (T k).2.2.1 = some (ty0 k)) ∧ (∀ a, a < N → ∀ b, b < N → a ≠ b → (T a).2.1 ≠ (T b).2.1) ∧ k < N ∧ (Cond.fieldLink own idx (T k).1 (T k).2.1 (T k).2.2.1 ∈ BIG ∨ ∃ host, Cond.fieldLinkNest own idx (T k).1 (T k).2.1 (T k).2.2.1 host ∈ NW) ∧ (T k).2.2.2 = false ∧ parseFieldDescriptor (T k).2.2.1 = some ty
/-- of a method: its words -/
def MYo (y : MethodName) (b : ByteArray) (maxL : Nat) (ret : Option FieldType) (N : Nat) : Prop := Cond.initialized y.cls ∈ BIG ∧ Cond.code y b maxL ret ∈ BIG ∧ y.cls ≠ "java/lang/invoke/MethodHandle" ∧ y.cls ≠ "java/lang/invoke/VarHandle" ∧ (parseMethodDescriptor y.desc).map (fun d => d.parameters.length) = some N

theorem tb_1 {w : Cond} (h : w ∈ tables_1_1) : w ∈ lw_tbl := List.mem_append_right _ (show w ∈ tables_1_1 ++ (tables_1_2 ++ (tables_1_3 ++ (tables_1_4 ++ (tables_1_5 ++ tables_1_6)))) from List.mem_append_left _ h)
theorem bg_1 (i : Nat) {w : Cond} (h : tables_1_1[i]? = some w ∧ goodWord w = true) : w ∈ BIG := List.mem_filter.mpr ⟨tb_1 (List.mem_of_getElem? h.1), h.2⟩
theorem nw_1 (i : Nat) {w : Cond} (h : tables_1_1[i]? = some w ∧ isNest w = true) : w ∈ NW := List.mem_filter.mpr ⟨tb_1 (List.mem_of_getElem? h.1), h.2⟩
theorem tb_2 {w : Cond} (h : w ∈ tables_1_2) : w ∈ lw_tbl := List.mem_append_right _ (show w ∈ tables_1_1 ++ (tables_1_2 ++ (tables_1_3 ++ (tables_1_4 ++ (tables_1_5 ++ tables_1_6)))) from List.mem_append_right _ (List.mem_append_left _ h))
theorem bg_2 (i : Nat) {w : Cond} (h : tables_1_2[i]? = some w ∧ goodWord w = true) : w ∈ BIG := List.mem_filter.mpr ⟨tb_2 (List.mem_of_getElem? h.1), h.2⟩
theorem nw_2 (i : Nat) {w : Cond} (h : tables_1_2[i]? = some w ∧ isNest w = true) : w ∈ NW := List.mem_filter.mpr ⟨tb_2 (List.mem_of_getElem? h.1), h.2⟩
theorem tb_3 {w : Cond} (h : w ∈ tables_1_3) : w ∈ lw_tbl := List.mem_append_right _ (show w ∈ tables_1_1 ++ (tables_1_2 ++ (tables_1_3 ++ (tables_1_4 ++ (tables_1_5 ++ tables_1_6)))) from List.mem_append_right _ (List.mem_append_right _ (List.mem_append_left _ h)))
theorem bg_3 (i : Nat) {w : Cond} (h : tables_1_3[i]? = some w ∧ goodWord w = true) : w ∈ BIG := List.mem_filter.mpr ⟨tb_3 (List.mem_of_getElem? h.1), h.2⟩
theorem nw_3 (i : Nat) {w : Cond} (h : tables_1_3[i]? = some w ∧ isNest w = true) : w ∈ NW := List.mem_filter.mpr ⟨tb_3 (List.mem_of_getElem? h.1), h.2⟩
theorem tb_4 {w : Cond} (h : w ∈ tables_1_4) : w ∈ lw_tbl := List.mem_append_right _ (show w ∈ tables_1_1 ++ (tables_1_2 ++ (tables_1_3 ++ (tables_1_4 ++ (tables_1_5 ++ tables_1_6)))) from List.mem_append_right _ (List.mem_append_right _ (List.mem_append_right _ (List.mem_append_left _ h))))
theorem bg_4 (i : Nat) {w : Cond} (h : tables_1_4[i]? = some w ∧ goodWord w = true) : w ∈ BIG := List.mem_filter.mpr ⟨tb_4 (List.mem_of_getElem? h.1), h.2⟩
theorem nw_4 (i : Nat) {w : Cond} (h : tables_1_4[i]? = some w ∧ isNest w = true) : w ∈ NW := List.mem_filter.mpr ⟨tb_4 (List.mem_of_getElem? h.1), h.2⟩
theorem tb_5 {w : Cond} (h : w ∈ tables_1_5) : w ∈ lw_tbl := List.mem_append_right _ (show w ∈ tables_1_1 ++ (tables_1_2 ++ (tables_1_3 ++ (tables_1_4 ++ (tables_1_5 ++ tables_1_6)))) from List.mem_append_right _ (List.mem_append_right _ (List.mem_append_right _ (List.mem_append_right _ (List.mem_append_left _ h)))))
theorem bg_5 (i : Nat) {w : Cond} (h : tables_1_5[i]? = some w ∧ goodWord w = true) : w ∈ BIG := List.mem_filter.mpr ⟨tb_5 (List.mem_of_getElem? h.1), h.2⟩
theorem nw_5 (i : Nat) {w : Cond} (h : tables_1_5[i]? = some w ∧ isNest w = true) : w ∈ NW := List.mem_filter.mpr ⟨tb_5 (List.mem_of_getElem? h.1), h.2⟩
theorem tb_6 {w : Cond} (h : w ∈ tables_1_6) : w ∈ lw_tbl := List.mem_append_right _ (show w ∈ tables_1_1 ++ (tables_1_2 ++ (tables_1_3 ++ (tables_1_4 ++ (tables_1_5 ++ tables_1_6)))) from List.mem_append_right _ (List.mem_append_right _ (List.mem_append_right _ (List.mem_append_right _ (List.mem_append_right _ (h))))))
theorem bg_6 (i : Nat) {w : Cond} (h : tables_1_6[i]? = some w ∧ goodWord w = true) : w ∈ BIG := List.mem_filter.mpr ⟨tb_6 (List.mem_of_getElem? h.1), h.2⟩
theorem nw_6 (i : Nat) {w : Cond} (h : tables_1_6[i]? = some w ∧ isNest w = true) : w ∈ NW := List.mem_filter.mpr ⟨tb_6 (List.mem_of_getElem? h.1), h.2⟩
theorem bg_p (i : Nat) {w : Cond} (h : (k2_sels lw_privs)[i]? = some w ∧ goodWord w = true) : w ∈ BIG := List.mem_filter.mpr ⟨List.mem_append_left _ (List.mem_of_getElem? h.1), h.2⟩
theorem inBJ0 : ∀ w ∈ u_ws RJ0 TJ0 4, w ∈ BIG := fun w h => List.mem_filter.mpr ⟨inJ0 w h, (by decide +kernel : ∀ w ∈ u_ws RJ0 TJ0 4, goodWord w = true) w h⟩
theorem inBJ4 : ∀ w ∈ u_ws RJ4 TJ4 4, w ∈ BIG := fun w h => List.mem_filter.mpr ⟨inJ4 w h, (by decide +kernel : ∀ w ∈ u_ws RJ4 TJ4 4, goodWord w = true) w h⟩
theorem inB5 : ∀ w ∈ u_ws RX5 TX5 15, w ∈ BIG := fun w h => List.mem_filter.mpr ⟨inX5 w h, (by decide +kernel : ∀ w ∈ u_ws RX5 TX5 15, goodWord w = true) w h⟩
theorem inB2 : ∀ w ∈ u_ws RX2 TX2 12, w ∈ BIG := fun w h => List.mem_filter.mpr ⟨inX2 w h, (by decide +kernel : ∀ w ∈ u_ws RX2 TX2 12, goodWord w = true) w h⟩
theorem inB6 : ∀ w ∈ u_ws RX6 TX6 8, w ∈ BIG := fun w h => List.mem_filter.mpr ⟨inX6 w h, (by decide +kernel : ∀ w ∈ u_ws RX6 TX6 8, goodWord w = true) w h⟩
theorem inB4 : ∀ w ∈ u_ws RX4 TX4 5, w ∈ BIG := fun w h => List.mem_filter.mpr ⟨inX4 w h, (by decide +kernel : ∀ w ∈ u_ws RX4 TX4 5, goodWord w = true) w h⟩
theorem inB3 : ∀ w ∈ u_ws RX3 TX3 5, w ∈ BIG := fun w h => List.mem_filter.mpr ⟨inX3 w h, (by decide +kernel : ∀ w ∈ u_ws RX3 TX3 5, goodWord w = true) w h⟩
theorem inB8 : ∀ w ∈ u_ws RX8 TX8 2, w ∈ BIG := fun w h => List.mem_filter.mpr ⟨inX8 w h, (by decide +kernel : ∀ w ∈ u_ws RX8 TX8 2, goodWord w = true) w h⟩
theorem inB1 : ∀ w ∈ u_ws RX1 TX1 3, w ∈ BIG := fun w h => List.mem_filter.mpr ⟨inX1 w h, (by decide +kernel : ∀ w ∈ u_ws RX1 TX1 3, goodWord w = true) w h⟩
theorem inB9 : ∀ w ∈ u_ws RX9 TX9 13, w ∈ BIG := fun w h => List.mem_filter.mpr ⟨inX9 w h, (by decide +kernel : ∀ w ∈ u_ws RX9 TX9 13, goodWord w = true) w h⟩
theorem inBL : ∀ w ∈ u_ws RL TL 21, w ∈ BIG := fun w h => List.mem_filter.mpr ⟨inL w h, (by decide +kernel : ∀ w ∈ u_ws RL TL 21, goodWord w = true) w h⟩
theorem fl_X6_9 : FL RX6 9 3 0 := ⟨7, 8, RX6, TX6, tyX6, by decide, rfl, rfl, rfl, inB6, tyX6_ok, nmX6, by decide, Or.inl (bg_1 41 (by decide +kernel))⟩
theorem fl_X6_15 : FL RX6 15 3 1 := ⟨7, 8, RX6, TX6, tyX6, by decide, rfl, rfl, rfl, inB6, tyX6_ok, nmX6, by decide, Or.inl (bg_1 42 (by decide +kernel))⟩
theorem ft_X6_15 : FLt RX6 15 3 1 .int := ⟨7, 8, RX6, TX6, tyX6, by decide, rfl, rfl, rfl, inB6, tyX6_ok, nmX6, by decide, Or.inl (bg_1 42 (by decide +kernel)), rfl, by decide +kernel⟩
theorem fl_X9_96 : FL RX9 96 3 1 := ⟨7, 8, RX6, TX6, tyX6, by decide, rfl, rfl, rfl, inB6, tyX6_ok, nmX6, by decide, Or.inr ⟨"PuddleCity", nw_1 43 (by decide +kernel)⟩⟩
theorem ft_X9_96 : FLt RX9 96 3 1 .int := ⟨7, 8, RX6, TX6, tyX6, by decide, rfl, rfl, rfl, inB6, tyX6_ok, nmX6, by decide, Or.inr ⟨"PuddleCity", nw_1 43 (by decide +kernel)⟩, rfl, by decide +kernel⟩
theorem fl_X6_19 : FL RX6 19 3 2 := ⟨7, 8, RX6, TX6, tyX6, by decide, rfl, rfl, rfl, inB6, tyX6_ok, nmX6, by decide, Or.inl (bg_1 44 (by decide +kernel))⟩
theorem ft_X6_19 : FLt RX6 19 3 2 .int := ⟨7, 8, RX6, TX6, tyX6, by decide, rfl, rfl, rfl, inB6, tyX6_ok, nmX6, by decide, Or.inl (bg_1 44 (by decide +kernel)), rfl, by decide +kernel⟩
theorem fl_X6_22 : FL RX6 22 3 3 := ⟨7, 8, RX6, TX6, tyX6, by decide, rfl, rfl, rfl, inB6, tyX6_ok, nmX6, by decide, Or.inl (bg_1 45 (by decide +kernel))⟩
theorem ft_X6_22 : FLt RX6 22 3 3 .int := ⟨7, 8, RX6, TX6, tyX6, by decide, rfl, rfl, rfl, inB6, tyX6_ok, nmX6, by decide, Or.inl (bg_1 45 (by decide +kernel)), rfl, by decide +kernel⟩
theorem fl_X2_66 : FL RX2 66 3 3 := ⟨7, 8, RX6, TX6, tyX6, by decide, rfl, rfl, rfl, inB6, tyX6_ok, nmX6, by decide, Or.inr ⟨"PuddleCity", nw_1 46 (by decide +kernel)⟩⟩
theorem ft_X2_66 : FLt RX2 66 3 3 .int := ⟨7, 8, RX6, TX6, tyX6, by decide, rfl, rfl, rfl, inB6, tyX6_ok, nmX6, by decide, Or.inr ⟨"PuddleCity", nw_1 46 (by decide +kernel)⟩, rfl, by decide +kernel⟩
theorem fl_X6_25 : FL RX6 25 3 4 := ⟨7, 8, RX6, TX6, tyX6, by decide, rfl, rfl, rfl, inB6, tyX6_ok, nmX6, by decide, Or.inl (bg_1 47 (by decide +kernel))⟩
theorem ft_X6_25 : FLt RX6 25 3 4 .int := ⟨7, 8, RX6, TX6, tyX6, by decide, rfl, rfl, rfl, inB6, tyX6_ok, nmX6, by decide, Or.inl (bg_1 47 (by decide +kernel)), rfl, by decide +kernel⟩
theorem fl_X6_28 : FL RX6 28 3 5 := ⟨7, 8, RX6, TX6, tyX6, by decide, rfl, rfl, rfl, inB6, tyX6_ok, nmX6, by decide, Or.inl (bg_1 48 (by decide +kernel))⟩
theorem ft_X6_28 : FLt RX6 28 3 5 .int := ⟨7, 8, RX6, TX6, tyX6, by decide, rfl, rfl, rfl, inB6, tyX6_ok, nmX6, by decide, Or.inl (bg_1 48 (by decide +kernel)), rfl, by decide +kernel⟩
theorem fl_X2_113 : FL RX2 113 3 5 := ⟨7, 8, RX6, TX6, tyX6, by decide, rfl, rfl, rfl, inB6, tyX6_ok, nmX6, by decide, Or.inr ⟨"PuddleCity", nw_1 49 (by decide +kernel)⟩⟩
theorem ft_X2_113 : FLt RX2 113 3 5 .int := ⟨7, 8, RX6, TX6, tyX6, by decide, rfl, rfl, rfl, inB6, tyX6_ok, nmX6, by decide, Or.inr ⟨"PuddleCity", nw_1 49 (by decide +kernel)⟩, rfl, by decide +kernel⟩
theorem fl_X6_31 : FL RX6 31 3 6 := ⟨7, 8, RX6, TX6, tyX6, by decide, rfl, rfl, rfl, inB6, tyX6_ok, nmX6, by decide, Or.inl (bg_1 50 (by decide +kernel))⟩
theorem ft_X6_31 : FLt RX6 31 3 6 .int := ⟨7, 8, RX6, TX6, tyX6, by decide, rfl, rfl, rfl, inB6, tyX6_ok, nmX6, by decide, Or.inl (bg_1 50 (by decide +kernel)), rfl, by decide +kernel⟩
theorem fl_X6_34 : FL RX6 34 3 7 := ⟨7, 8, RX6, TX6, tyX6, by decide, rfl, rfl, rfl, inB6, tyX6_ok, nmX6, by decide, Or.inl (bg_1 51 (by decide +kernel))⟩
theorem ft_X6_34 : FLt RX6 34 3 7 .int := ⟨7, 8, RX6, TX6, tyX6, by decide, rfl, rfl, rfl, inB6, tyX6_ok, nmX6, by decide, Or.inl (bg_1 51 (by decide +kernel)), rfl, by decide +kernel⟩
theorem fl_X4_11 : FL RX4 11 4 0 := ⟨5, 5, RX4, TX4, tyX4, by decide, rfl, rfl, rfl, inB4, tyX4_ok, nmX4, by decide, Or.inl (bg_1 78 (by decide +kernel))⟩
theorem fl_X4_17 : FL RX4 17 4 1 := ⟨5, 5, RX4, TX4, tyX4, by decide, rfl, rfl, rfl, inB4, tyX4_ok, nmX4, by decide, Or.inl (bg_1 79 (by decide +kernel))⟩
theorem fl_X4_21 : FL RX4 21 4 2 := ⟨5, 5, RX4, TX4, tyX4, by decide, rfl, rfl, rfl, inB4, tyX4_ok, nmX4, by decide, Or.inl (bg_1 80 (by decide +kernel))⟩
theorem fl_X4_24 : FL RX4 24 4 3 := ⟨5, 5, RX4, TX4, tyX4, by decide, rfl, rfl, rfl, inB4, tyX4_ok, nmX4, by decide, Or.inl (bg_1 81 (by decide +kernel))⟩
theorem fl_X4_27 : FL RX4 27 4 4 := ⟨5, 5, RX4, TX4, tyX4, by decide, rfl, rfl, rfl, inB4, tyX4_ok, nmX4, by decide, Or.inl (bg_1 82 (by decide +kernel))⟩
theorem ft_X4_27 : FLt RX4 27 4 4 .int := ⟨5, 5, RX4, TX4, tyX4, by decide, rfl, rfl, rfl, inB4, tyX4_ok, nmX4, by decide, Or.inl (bg_1 82 (by decide +kernel)), rfl, by decide +kernel⟩
theorem fl_X5_9 : FL RX5 9 1 0 := ⟨6, 15, RX5, TX5, tyX5, by decide, rfl, rfl, rfl, inB5, tyX5_ok, nmX5, by decide, Or.inl (bg_1 101 (by decide +kernel))⟩
theorem fl_X3_39 : FL RX3 39 1 0 := ⟨6, 15, RX5, TX5, tyX5, by decide, rfl, rfl, rfl, inB5, tyX5_ok, nmX5, by decide, Or.inr ⟨"PuddleCity", nw_1 102 (by decide +kernel)⟩⟩
theorem fl_X9_148 : FL RX9 148 1 0 := ⟨6, 15, RX5, TX5, tyX5, by decide, rfl, rfl, rfl, inB5, tyX5_ok, nmX5, by decide, Or.inr ⟨"PuddleCity", nw_1 103 (by decide +kernel)⟩⟩
theorem fl_X5_15 : FL RX5 15 1 1 := ⟨6, 15, RX5, TX5, tyX5, by decide, rfl, rfl, rfl, inB5, tyX5_ok, nmX5, by decide, Or.inl (bg_1 104 (by decide +kernel))⟩
theorem fl_X9_151 : FL RX9 151 1 1 := ⟨6, 15, RX5, TX5, tyX5, by decide, rfl, rfl, rfl, inB5, tyX5_ok, nmX5, by decide, Or.inr ⟨"PuddleCity", nw_1 105 (by decide +kernel)⟩⟩
theorem fl_X5_18 : FL RX5 18 1 2 := ⟨6, 15, RX5, TX5, tyX5, by decide, rfl, rfl, rfl, inB5, tyX5_ok, nmX5, by decide, Or.inl (bg_1 106 (by decide +kernel))⟩
theorem fl_X9_161 : FL RX9 161 1 2 := ⟨6, 15, RX5, TX5, tyX5, by decide, rfl, rfl, rfl, inB5, tyX5_ok, nmX5, by decide, Or.inr ⟨"PuddleCity", nw_1 107 (by decide +kernel)⟩⟩
theorem fl_X5_21 : FL RX5 21 1 3 := ⟨6, 15, RX5, TX5, tyX5, by decide, rfl, rfl, rfl, inB5, tyX5_ok, nmX5, by decide, Or.inl (bg_1 108 (by decide +kernel))⟩
theorem fl_X9_164 : FL RX9 164 1 3 := ⟨6, 15, RX5, TX5, tyX5, by decide, rfl, rfl, rfl, inB5, tyX5_ok, nmX5, by decide, Or.inr ⟨"PuddleCity", nw_1 109 (by decide +kernel)⟩⟩
theorem fl_X5_24 : FL RX5 24 1 4 := ⟨6, 15, RX5, TX5, tyX5, by decide, rfl, rfl, rfl, inB5, tyX5_ok, nmX5, by decide, Or.inl (bg_1 110 (by decide +kernel))⟩
theorem fl_X9_228 : FL RX9 228 1 4 := ⟨6, 15, RX5, TX5, tyX5, by decide, rfl, rfl, rfl, inB5, tyX5_ok, nmX5, by decide, Or.inr ⟨"PuddleCity", nw_1 111 (by decide +kernel)⟩⟩
theorem fl_X5_27 : FL RX5 27 1 5 := ⟨6, 15, RX5, TX5, tyX5, by decide, rfl, rfl, rfl, inB5, tyX5_ok, nmX5, by decide, Or.inl (bg_1 112 (by decide +kernel))⟩
theorem fl_X9_238 : FL RX9 238 1 5 := ⟨6, 15, RX5, TX5, tyX5, by decide, rfl, rfl, rfl, inB5, tyX5_ok, nmX5, by decide, Or.inr ⟨"PuddleCity", nw_1 113 (by decide +kernel)⟩⟩
theorem fl_X5_30 : FL RX5 30 1 6 := ⟨6, 15, RX5, TX5, tyX5, by decide, rfl, rfl, rfl, inB5, tyX5_ok, nmX5, by decide, Or.inl (bg_1 114 (by decide +kernel))⟩
theorem fl_X9_234 : FL RX9 234 1 6 := ⟨6, 15, RX5, TX5, tyX5, by decide, rfl, rfl, rfl, inB5, tyX5_ok, nmX5, by decide, Or.inr ⟨"PuddleCity", nw_1 115 (by decide +kernel)⟩⟩
theorem fl_X5_34 : FL RX5 34 1 7 := ⟨6, 15, RX5, TX5, tyX5, by decide, rfl, rfl, rfl, inB5, tyX5_ok, nmX5, by decide, Or.inl (bg_1 116 (by decide +kernel))⟩
theorem ft_X5_34 : FLt RX5 34 1 7 .int := ⟨6, 15, RX5, TX5, tyX5, by decide, rfl, rfl, rfl, inB5, tyX5_ok, nmX5, by decide, Or.inl (bg_1 116 (by decide +kernel)), rfl, by decide +kernel⟩
theorem fl_X9_129 : FL RX9 129 1 7 := ⟨6, 15, RX5, TX5, tyX5, by decide, rfl, rfl, rfl, inB5, tyX5_ok, nmX5, by decide, Or.inr ⟨"PuddleCity", nw_1 117 (by decide +kernel)⟩⟩
theorem ft_X9_129 : FLt RX9 129 1 7 .int := ⟨6, 15, RX5, TX5, tyX5, by decide, rfl, rfl, rfl, inB5, tyX5_ok, nmX5, by decide, Or.inr ⟨"PuddleCity", nw_1 117 (by decide +kernel)⟩, rfl, by decide +kernel⟩
theorem fl_X5_38 : FL RX5 38 1 8 := ⟨6, 15, RX5, TX5, tyX5, by decide, rfl, rfl, rfl, inB5, tyX5_ok, nmX5, by decide, Or.inl (bg_1 118 (by decide +kernel))⟩
theorem ft_X5_38 : FLt RX5 38 1 8 .int := ⟨6, 15, RX5, TX5, tyX5, by decide, rfl, rfl, rfl, inB5, tyX5_ok, nmX5, by decide, Or.inl (bg_1 118 (by decide +kernel)), rfl, by decide +kernel⟩
theorem fl_X9_138 : FL RX9 138 1 8 := ⟨6, 15, RX5, TX5, tyX5, by decide, rfl, rfl, rfl, inB5, tyX5_ok, nmX5, by decide, Or.inr ⟨"PuddleCity", nw_1 119 (by decide +kernel)⟩⟩
theorem ft_X9_138 : FLt RX9 138 1 8 .int := ⟨6, 15, RX5, TX5, tyX5, by decide, rfl, rfl, rfl, inB5, tyX5_ok, nmX5, by decide, Or.inr ⟨"PuddleCity", nw_1 119 (by decide +kernel)⟩, rfl, by decide +kernel⟩
theorem fl_X5_41 : FL RX5 41 1 9 := ⟨6, 15, RX5, TX5, tyX5, by decide, rfl, rfl, rfl, inB5, tyX5_ok, nmX5, by decide, Or.inl (bg_1 120 (by decide +kernel))⟩
theorem ft_X5_41 : FLt RX5 41 1 9 .int := ⟨6, 15, RX5, TX5, tyX5, by decide, rfl, rfl, rfl, inB5, tyX5_ok, nmX5, by decide, Or.inl (bg_1 120 (by decide +kernel)), rfl, by decide +kernel⟩
theorem fl_X9_203 : FL RX9 203 1 9 := ⟨6, 15, RX5, TX5, tyX5, by decide, rfl, rfl, rfl, inB5, tyX5_ok, nmX5, by decide, Or.inr ⟨"PuddleCity", nw_1 121 (by decide +kernel)⟩⟩
theorem ft_X9_203 : FLt RX9 203 1 9 .int := ⟨6, 15, RX5, TX5, tyX5, by decide, rfl, rfl, rfl, inB5, tyX5_ok, nmX5, by decide, Or.inr ⟨"PuddleCity", nw_1 121 (by decide +kernel)⟩, rfl, by decide +kernel⟩
theorem fl_X5_44 : FL RX5 44 1 10 := ⟨6, 15, RX5, TX5, tyX5, by decide, rfl, rfl, rfl, inB5, tyX5_ok, nmX5, by decide, Or.inl (bg_1 122 (by decide +kernel))⟩
theorem ft_X5_44 : FLt RX5 44 1 10 .int := ⟨6, 15, RX5, TX5, tyX5, by decide, rfl, rfl, rfl, inB5, tyX5_ok, nmX5, by decide, Or.inl (bg_1 122 (by decide +kernel)), rfl, by decide +kernel⟩
theorem fl_X9_206 : FL RX9 206 1 10 := ⟨6, 15, RX5, TX5, tyX5, by decide, rfl, rfl, rfl, inB5, tyX5_ok, nmX5, by decide, Or.inr ⟨"PuddleCity", nw_1 123 (by decide +kernel)⟩⟩
theorem ft_X9_206 : FLt RX9 206 1 10 .int := ⟨6, 15, RX5, TX5, tyX5, by decide, rfl, rfl, rfl, inB5, tyX5_ok, nmX5, by decide, Or.inr ⟨"PuddleCity", nw_1 123 (by decide +kernel)⟩, rfl, by decide +kernel⟩
theorem fl_X5_47 : FL RX5 47 1 11 := ⟨6, 15, RX5, TX5, tyX5, by decide, rfl, rfl, rfl, inB5, tyX5_ok, nmX5, by decide, Or.inl (bg_1 124 (by decide +kernel))⟩
theorem ft_X5_47 : FLt RX5 47 1 11 .int := ⟨6, 15, RX5, TX5, tyX5, by decide, rfl, rfl, rfl, inB5, tyX5_ok, nmX5, by decide, Or.inl (bg_1 124 (by decide +kernel)), rfl, by decide +kernel⟩
theorem fl_X9_209 : FL RX9 209 1 11 := ⟨6, 15, RX5, TX5, tyX5, by decide, rfl, rfl, rfl, inB5, tyX5_ok, nmX5, by decide, Or.inr ⟨"PuddleCity", nw_1 125 (by decide +kernel)⟩⟩
theorem ft_X9_209 : FLt RX9 209 1 11 .int := ⟨6, 15, RX5, TX5, tyX5, by decide, rfl, rfl, rfl, inB5, tyX5_ok, nmX5, by decide, Or.inr ⟨"PuddleCity", nw_1 125 (by decide +kernel)⟩, rfl, by decide +kernel⟩
theorem fl_X5_50 : FL RX5 50 1 12 := ⟨6, 15, RX5, TX5, tyX5, by decide, rfl, rfl, rfl, inB5, tyX5_ok, nmX5, by decide, Or.inl (bg_1 126 (by decide +kernel))⟩
theorem ft_X5_50 : FLt RX5 50 1 12 .int := ⟨6, 15, RX5, TX5, tyX5, by decide, rfl, rfl, rfl, inB5, tyX5_ok, nmX5, by decide, Or.inl (bg_1 126 (by decide +kernel)), rfl, by decide +kernel⟩
theorem fl_X9_212 : FL RX9 212 1 12 := ⟨6, 15, RX5, TX5, tyX5, by decide, rfl, rfl, rfl, inB5, tyX5_ok, nmX5, by decide, Or.inr ⟨"PuddleCity", nw_1 127 (by decide +kernel)⟩⟩
theorem ft_X9_212 : FLt RX9 212 1 12 .int := ⟨6, 15, RX5, TX5, tyX5, by decide, rfl, rfl, rfl, inB5, tyX5_ok, nmX5, by decide, Or.inr ⟨"PuddleCity", nw_1 127 (by decide +kernel)⟩, rfl, by decide +kernel⟩
theorem fl_X5_53 : FL RX5 53 1 13 := ⟨6, 15, RX5, TX5, tyX5, by decide, rfl, rfl, rfl, inB5, tyX5_ok, nmX5, by decide, Or.inl (bg_1 128 (by decide +kernel))⟩
theorem ft_X5_53 : FLt RX5 53 1 13 .int := ⟨6, 15, RX5, TX5, tyX5, by decide, rfl, rfl, rfl, inB5, tyX5_ok, nmX5, by decide, Or.inl (bg_1 128 (by decide +kernel)), rfl, by decide +kernel⟩
theorem fl_X5_56 : FL RX5 56 1 14 := ⟨6, 15, RX5, TX5, tyX5, by decide, rfl, rfl, rfl, inB5, tyX5_ok, nmX5, by decide, Or.inl (bg_1 129 (by decide +kernel))⟩
theorem ft_X5_56 : FLt RX5 56 1 14 .int := ⟨6, 15, RX5, TX5, tyX5, by decide, rfl, rfl, rfl, inB5, tyX5_ok, nmX5, by decide, Or.inl (bg_1 129 (by decide +kernel)), rfl, by decide +kernel⟩
theorem fl_X1_11 : FL RX1 11 7 0 := ⟨2, 3, RX1, TX1, tyX1, by decide, rfl, rfl, rfl, inB1, tyX1_ok, nmX1, by decide, Or.inl (bg_1 171 (by decide +kernel))⟩
theorem fl_X1_17 : FL RX1 17 7 1 := ⟨2, 3, RX1, TX1, tyX1, by decide, rfl, rfl, rfl, inB1, tyX1_ok, nmX1, by decide, Or.inl (bg_1 172 (by decide +kernel))⟩
theorem ft_X1_17 : FLt RX1 17 7 1 .int := ⟨2, 3, RX1, TX1, tyX1, by decide, rfl, rfl, rfl, inB1, tyX1_ok, nmX1, by decide, Or.inl (bg_1 172 (by decide +kernel)), rfl, by decide +kernel⟩
theorem fl_X1_21 : FL RX1 21 7 2 := ⟨2, 3, RX1, TX1, tyX1, by decide, rfl, rfl, rfl, inB1, tyX1_ok, nmX1, by decide, Or.inl (bg_1 173 (by decide +kernel))⟩
theorem ft_X1_21 : FLt RX1 21 7 2 .int := ⟨2, 3, RX1, TX1, tyX1, by decide, rfl, rfl, rfl, inB1, tyX1_ok, nmX1, by decide, Or.inl (bg_1 173 (by decide +kernel)), rfl, by decide +kernel⟩
theorem fl_X3_9 : FL RX3 9 5 0 := ⟨4, 5, RX3, TX3, tyX3, by decide, rfl, rfl, rfl, inB3, tyX3_ok, nmX3, by decide, Or.inl (bg_1 187 (by decide +kernel))⟩
theorem fl_X9_187 : FL RX9 187 5 0 := ⟨4, 5, RX3, TX3, tyX3, by decide, rfl, rfl, rfl, inB3, tyX3_ok, nmX3, by decide, Or.inr ⟨"PuddleCity", nw_1 188 (by decide +kernel)⟩⟩
theorem fl_X3_15 : FL RX3 15 5 1 := ⟨4, 5, RX3, TX3, tyX3, by decide, rfl, rfl, rfl, inB3, tyX3_ok, nmX3, by decide, Or.inl (bg_1 189 (by decide +kernel))⟩
theorem fl_X9_193 : FL RX9 193 5 1 := ⟨4, 5, RX3, TX3, tyX3, by decide, rfl, rfl, rfl, inB3, tyX3_ok, nmX3, by decide, Or.inr ⟨"PuddleCity", nw_1 190 (by decide +kernel)⟩⟩
theorem fl_X3_18 : FL RX3 18 5 2 := ⟨4, 5, RX3, TX3, tyX3, by decide, rfl, rfl, rfl, inB3, tyX3_ok, nmX3, by decide, Or.inl (bg_1 191 (by decide +kernel))⟩
theorem fl_X9_196 : FL RX9 196 5 2 := ⟨4, 5, RX3, TX3, tyX3, by decide, rfl, rfl, rfl, inB3, tyX3_ok, nmX3, by decide, Or.inr ⟨"PuddleCity", nw_1 192 (by decide +kernel)⟩⟩
theorem fl_X3_21 : FL RX3 21 5 3 := ⟨4, 5, RX3, TX3, tyX3, by decide, rfl, rfl, rfl, inB3, tyX3_ok, nmX3, by decide, Or.inl (bg_1 193 (by decide +kernel))⟩
theorem fl_X3_24 : FL RX3 24 5 4 := ⟨4, 5, RX3, TX3, tyX3, by decide, rfl, rfl, rfl, inB3, tyX3_ok, nmX3, by decide, Or.inl (bg_1 194 (by decide +kernel))⟩
theorem ft_X3_24 : FLt RX3 24 5 4 .int := ⟨4, 5, RX3, TX3, tyX3, by decide, rfl, rfl, rfl, inB3, tyX3_ok, nmX3, by decide, Or.inl (bg_1 194 (by decide +kernel)), rfl, by decide +kernel⟩
theorem fl_X9_186 : FL RX9 186 5 4 := ⟨4, 5, RX3, TX3, tyX3, by decide, rfl, rfl, rfl, inB3, tyX3_ok, nmX3, by decide, Or.inr ⟨"PuddleCity", nw_1 195 (by decide +kernel)⟩⟩
theorem ft_X9_186 : FLt RX9 186 5 4 .int := ⟨4, 5, RX3, TX3, tyX3, by decide, rfl, rfl, rfl, inB3, tyX3_ok, nmX3, by decide, Or.inr ⟨"PuddleCity", nw_1 195 (by decide +kernel)⟩, rfl, by decide +kernel⟩
theorem fl_X8_9 : FL RX8 9 6 0 := ⟨8, 2, RX8, TX8, tyX8, by decide, rfl, rfl, rfl, inB8, tyX8_ok, nmX8, by decide, Or.inl (bg_1 213 (by decide +kernel))⟩
theorem fl_X8_15 : FL RX8 15 6 1 := ⟨8, 2, RX8, TX8, tyX8, by decide, rfl, rfl, rfl, inB8, tyX8_ok, nmX8, by decide, Or.inl (bg_1 214 (by decide +kernel))⟩
theorem fl_X2_9 : FL RX2 9 2 0 := ⟨3, 12, RX2, TX2, tyX2, by decide, rfl, rfl, rfl, inB2, tyX2_ok, nmX2, by decide, Or.inl (bg_1 228 (by decide +kernel))⟩
theorem fl_X9_144 : FL RX9 144 2 0 := ⟨3, 12, RX2, TX2, tyX2, by decide, rfl, rfl, rfl, inB2, tyX2_ok, nmX2, by decide, Or.inr ⟨"PuddleCity", nw_1 229 (by decide +kernel)⟩⟩
theorem fl_X5_142 : FL RX5 142 2 0 := ⟨3, 12, RX2, TX2, tyX2, by decide, rfl, rfl, rfl, inB2, tyX2_ok, nmX2, by decide, Or.inr ⟨"PuddleCity", nw_1 230 (by decide +kernel)⟩⟩
theorem fl_X2_15 : FL RX2 15 2 1 := ⟨3, 12, RX2, TX2, tyX2, by decide, rfl, rfl, rfl, inB2, tyX2_ok, nmX2, by decide, Or.inl (bg_1 231 (by decide +kernel))⟩
theorem fl_X5_117 : FL RX5 117 2 1 := ⟨3, 12, RX2, TX2, tyX2, by decide, rfl, rfl, rfl, inB2, tyX2_ok, nmX2, by decide, Or.inr ⟨"PuddleCity", nw_1 232 (by decide +kernel)⟩⟩
theorem fl_X2_18 : FL RX2 18 2 2 := ⟨3, 12, RX2, TX2, tyX2, by decide, rfl, rfl, rfl, inB2, tyX2_ok, nmX2, by decide, Or.inl (bg_1 233 (by decide +kernel))⟩
theorem fl_X2_23 : FL RX2 23 2 3 := ⟨3, 12, RX2, TX2, tyX2, by decide, rfl, rfl, rfl, inB2, tyX2_ok, nmX2, by decide, Or.inl (bg_1 234 (by decide +kernel))⟩
theorem fl_X2_26 : FL RX2 26 2 4 := ⟨3, 12, RX2, TX2, tyX2, by decide, rfl, rfl, rfl, inB2, tyX2_ok, nmX2, by decide, Or.inl (bg_1 235 (by decide +kernel))⟩
theorem fl_X2_29 : FL RX2 29 2 5 := ⟨3, 12, RX2, TX2, tyX2, by decide, rfl, rfl, rfl, inB2, tyX2_ok, nmX2, by decide, Or.inl (bg_1 236 (by decide +kernel))⟩
theorem fl_X5_133 : FL RX5 133 2 5 := ⟨3, 12, RX2, TX2, tyX2, by decide, rfl, rfl, rfl, inB2, tyX2_ok, nmX2, by decide, Or.inr ⟨"PuddleCity", nw_1 237 (by decide +kernel)⟩⟩
theorem fl_X2_32 : FL RX2 32 2 6 := ⟨3, 12, RX2, TX2, tyX2, by decide, rfl, rfl, rfl, inB2, tyX2_ok, nmX2, by decide, Or.inl (bg_1 238 (by decide +kernel))⟩
theorem fl_X5_65 : FL RX5 65 2 6 := ⟨3, 12, RX2, TX2, tyX2, by decide, rfl, rfl, rfl, inB2, tyX2_ok, nmX2, by decide, Or.inr ⟨"PuddleCity", nw_1 239 (by decide +kernel)⟩⟩
theorem fl_X2_35 : FL RX2 35 2 7 := ⟨3, 12, RX2, TX2, tyX2, by decide, rfl, rfl, rfl, inB2, tyX2_ok, nmX2, by decide, Or.inl (bg_2 0 (by decide +kernel))⟩
theorem ft_X2_35 : FLt RX2 35 2 7 .int := ⟨3, 12, RX2, TX2, tyX2, by decide, rfl, rfl, rfl, inB2, tyX2_ok, nmX2, by decide, Or.inl (bg_2 0 (by decide +kernel)), rfl, by decide +kernel⟩
theorem fl_X2_39 : FL RX2 39 2 8 := ⟨3, 12, RX2, TX2, tyX2, by decide, rfl, rfl, rfl, inB2, tyX2_ok, nmX2, by decide, Or.inl (bg_2 1 (by decide +kernel))⟩
theorem ft_X2_39 : FLt RX2 39 2 8 .int := ⟨3, 12, RX2, TX2, tyX2, by decide, rfl, rfl, rfl, inB2, tyX2_ok, nmX2, by decide, Or.inl (bg_2 1 (by decide +kernel)), rfl, by decide +kernel⟩
theorem fl_X2_42 : FL RX2 42 2 9 := ⟨3, 12, RX2, TX2, tyX2, by decide, rfl, rfl, rfl, inB2, tyX2_ok, nmX2, by decide, Or.inl (bg_2 2 (by decide +kernel))⟩
theorem ft_X2_42 : FLt RX2 42 2 9 .int := ⟨3, 12, RX2, TX2, tyX2, by decide, rfl, rfl, rfl, inB2, tyX2_ok, nmX2, by decide, Or.inl (bg_2 2 (by decide +kernel)), rfl, by decide +kernel⟩
theorem fl_X3_34 : FL RX3 34 2 9 := ⟨3, 12, RX2, TX2, tyX2, by decide, rfl, rfl, rfl, inB2, tyX2_ok, nmX2, by decide, Or.inr ⟨"PuddleCity", nw_2 3 (by decide +kernel)⟩⟩
theorem ft_X3_34 : FLt RX3 34 2 9 .int := ⟨3, 12, RX2, TX2, tyX2, by decide, rfl, rfl, rfl, inB2, tyX2_ok, nmX2, by decide, Or.inr ⟨"PuddleCity", nw_2 3 (by decide +kernel)⟩, rfl, by decide +kernel⟩
theorem fl_X9_106 : FL RX9 106 2 9 := ⟨3, 12, RX2, TX2, tyX2, by decide, rfl, rfl, rfl, inB2, tyX2_ok, nmX2, by decide, Or.inr ⟨"PuddleCity", nw_2 4 (by decide +kernel)⟩⟩
theorem ft_X9_106 : FLt RX9 106 2 9 .int := ⟨3, 12, RX2, TX2, tyX2, by decide, rfl, rfl, rfl, inB2, tyX2_ok, nmX2, by decide, Or.inr ⟨"PuddleCity", nw_2 4 (by decide +kernel)⟩, rfl, by decide +kernel⟩
theorem fl_X5_102 : FL RX5 102 2 9 := ⟨3, 12, RX2, TX2, tyX2, by decide, rfl, rfl, rfl, inB2, tyX2_ok, nmX2, by decide, Or.inr ⟨"PuddleCity", nw_2 5 (by decide +kernel)⟩⟩
theorem ft_X5_102 : FLt RX5 102 2 9 .int := ⟨3, 12, RX2, TX2, tyX2, by decide, rfl, rfl, rfl, inB2, tyX2_ok, nmX2, by decide, Or.inr ⟨"PuddleCity", nw_2 5 (by decide +kernel)⟩, rfl, by decide +kernel⟩
theorem fl_X2_45 : FL RX2 45 2 10 := ⟨3, 12, RX2, TX2, tyX2, by decide, rfl, rfl, rfl, inB2, tyX2_ok, nmX2, by decide, Or.inl (bg_2 6 (by decide +kernel))⟩
theorem ft_X2_45 : FLt RX2 45 2 10 .int := ⟨3, 12, RX2, TX2, tyX2, by decide, rfl, rfl, rfl, inB2, tyX2_ok, nmX2, by decide, Or.inl (bg_2 6 (by decide +kernel)), rfl, by decide +kernel⟩
theorem fl_X5_95 : FL RX5 95 2 10 := ⟨3, 12, RX2, TX2, tyX2, by decide, rfl, rfl, rfl, inB2, tyX2_ok, nmX2, by decide, Or.inr ⟨"PuddleCity", nw_2 7 (by decide +kernel)⟩⟩
theorem ft_X5_95 : FLt RX5 95 2 10 .int := ⟨3, 12, RX2, TX2, tyX2, by decide, rfl, rfl, rfl, inB2, tyX2_ok, nmX2, by decide, Or.inr ⟨"PuddleCity", nw_2 7 (by decide +kernel)⟩, rfl, by decide +kernel⟩
theorem fl_X9_215 : FL RX9 215 2 10 := ⟨3, 12, RX2, TX2, tyX2, by decide, rfl, rfl, rfl, inB2, tyX2_ok, nmX2, by decide, Or.inr ⟨"PuddleCity", nw_2 8 (by decide +kernel)⟩⟩
theorem ft_X9_215 : FLt RX9 215 2 10 .int := ⟨3, 12, RX2, TX2, tyX2, by decide, rfl, rfl, rfl, inB2, tyX2_ok, nmX2, by decide, Or.inr ⟨"PuddleCity", nw_2 8 (by decide +kernel)⟩, rfl, by decide +kernel⟩
theorem fl_X2_48 : FL RX2 48 2 11 := ⟨3, 12, RX2, TX2, tyX2, by decide, rfl, rfl, rfl, inB2, tyX2_ok, nmX2, by decide, Or.inl (bg_2 9 (by decide +kernel))⟩
theorem ft_X2_48 : FLt RX2 48 2 11 .int := ⟨3, 12, RX2, TX2, tyX2, by decide, rfl, rfl, rfl, inB2, tyX2_ok, nmX2, by decide, Or.inl (bg_2 9 (by decide +kernel)), rfl, by decide +kernel⟩
theorem fl_X5_70 : FL RX5 70 2 11 := ⟨3, 12, RX2, TX2, tyX2, by decide, rfl, rfl, rfl, inB2, tyX2_ok, nmX2, by decide, Or.inr ⟨"PuddleCity", nw_2 10 (by decide +kernel)⟩⟩
theorem ft_X5_70 : FLt RX5 70 2 11 .int := ⟨3, 12, RX2, TX2, tyX2, by decide, rfl, rfl, rfl, inB2, tyX2_ok, nmX2, by decide, Or.inr ⟨"PuddleCity", nw_2 10 (by decide +kernel)⟩, rfl, by decide +kernel⟩
theorem gs_J0_38 : Cond.fieldLink "java/lang/String" 38 "java/lang/String" "COMPACT_STRINGS" "Z" ∈ BIG := bg_2 49 (by decide +kernel)
theorem gs_J0_1053 : Cond.fieldLink "java/lang/String" 1053 "jdk/internal/util/Preconditions" "SIOOBE_FORMATTER" "Ljava/util/function/BiFunction;" ∈ BIG := bg_2 65 (by decide +kernel)
theorem gs_J2_44 : Cond.fieldLink "java/lang/StringUTF16" 44 "java/lang/StringUTF16" "$assertionsDisabled" "Z" ∈ BIG := bg_2 83 (by decide +kernel)
theorem gs_J2_59 : Cond.fieldLink "java/lang/StringUTF16" 59 "java/lang/StringUTF16" "HI_BYTE_SHIFT" "I" ∈ BIG := bg_2 85 (by decide +kernel)
theorem gs_J2_63 : Cond.fieldLink "java/lang/StringUTF16" 63 "java/lang/StringUTF16" "LO_BYTE_SHIFT" "I" ∈ BIG := bg_2 87 (by decide +kernel)
theorem fl_X9_10 : FL RX9 10 8 0 := ⟨9, 13, RX9, TX9, tyX9, by decide, rfl, rfl, rfl, inB9, tyX9_ok, nmX9, by decide, Or.inl (bg_2 210 (by decide +kernel))⟩
theorem fl_X9_19 : FL RX9 19 8 1 := ⟨9, 13, RX9, TX9, tyX9, by decide, rfl, rfl, rfl, inB9, tyX9_ok, nmX9, by decide, Or.inl (bg_2 211 (by decide +kernel))⟩
theorem fl_X9_26 : FL RX9 26 8 2 := ⟨9, 13, RX9, TX9, tyX9, by decide, rfl, rfl, rfl, inB9, tyX9_ok, nmX9, by decide, Or.inl (bg_2 212 (by decide +kernel))⟩
theorem fl_X9_30 : FL RX9 30 8 3 := ⟨9, 13, RX9, TX9, tyX9, by decide, rfl, rfl, rfl, inB9, tyX9_ok, nmX9, by decide, Or.inl (bg_2 213 (by decide +kernel))⟩
theorem fl_X9_33 : FL RX9 33 8 4 := ⟨9, 13, RX9, TX9, tyX9, by decide, rfl, rfl, rfl, inB9, tyX9_ok, nmX9, by decide, Or.inl (bg_2 214 (by decide +kernel))⟩
theorem fl_X9_39 : FL RX9 39 8 5 := ⟨9, 13, RX9, TX9, tyX9, by decide, rfl, rfl, rfl, inB9, tyX9_ok, nmX9, by decide, Or.inl (bg_2 215 (by decide +kernel))⟩
theorem fl_X9_46 : FL RX9 46 8 6 := ⟨9, 13, RX9, TX9, tyX9, by decide, rfl, rfl, rfl, inB9, tyX9_ok, nmX9, by decide, Or.inl (bg_2 216 (by decide +kernel))⟩
theorem fl_X9_53 : FL RX9 53 8 7 := ⟨9, 13, RX9, TX9, tyX9, by decide, rfl, rfl, rfl, inB9, tyX9_ok, nmX9, by decide, Or.inl (bg_2 217 (by decide +kernel))⟩
theorem fl_X9_57 : FL RX9 57 8 8 := ⟨9, 13, RX9, TX9, tyX9, by decide, rfl, rfl, rfl, inB9, tyX9_ok, nmX9, by decide, Or.inl (bg_2 218 (by decide +kernel))⟩
theorem fl_X9_64 : FL RX9 64 8 9 := ⟨9, 13, RX9, TX9, tyX9, by decide, rfl, rfl, rfl, inB9, tyX9_ok, nmX9, by decide, Or.inl (bg_2 219 (by decide +kernel))⟩
theorem ft_X9_64 : FLt RX9 64 8 9 (.object "PuddleCity$Plan") := ⟨9, 13, RX9, TX9, tyX9, by decide, rfl, rfl, rfl, inB9, tyX9_ok, nmX9, by decide, Or.inl (bg_2 219 (by decide +kernel)), rfl, by decide +kernel⟩
theorem fl_X9_68 : FL RX9 68 8 10 := ⟨9, 13, RX9, TX9, tyX9, by decide, rfl, rfl, rfl, inB9, tyX9_ok, nmX9, by decide, Or.inl (bg_2 220 (by decide +kernel))⟩
theorem ft_X9_68 : FLt RX9 68 8 10 (.object "PuddleCity$Plan") := ⟨9, 13, RX9, TX9, tyX9, by decide, rfl, rfl, rfl, inB9, tyX9_ok, nmX9, by decide, Or.inl (bg_2 220 (by decide +kernel)), rfl, by decide +kernel⟩
theorem fl_X9_71 : FL RX9 71 8 11 := ⟨9, 13, RX9, TX9, tyX9, by decide, rfl, rfl, rfl, inB9, tyX9_ok, nmX9, by decide, Or.inl (bg_2 221 (by decide +kernel))⟩
theorem ft_X9_71 : FLt RX9 71 8 11 .boolean := ⟨9, 13, RX9, TX9, tyX9, by decide, rfl, rfl, rfl, inB9, tyX9_ok, nmX9, by decide, Or.inl (bg_2 221 (by decide +kernel)), rfl, by decide +kernel⟩
theorem fl_X9_75 : FL RX9 75 8 12 := ⟨9, 13, RX9, TX9, tyX9, by decide, rfl, rfl, rfl, inB9, tyX9_ok, nmX9, by decide, Or.inl (bg_2 222 (by decide +kernel))⟩
theorem ft_X9_75 : FLt RX9 75 8 12 .int := ⟨9, 13, RX9, TX9, tyX9, by decide, rfl, rfl, rfl, inB9, tyX9_ok, nmX9, by decide, Or.inl (bg_2 222 (by decide +kernel)), rfl, by decide +kernel⟩
theorem fl_L_9 : FL RL 9 9 0 := ⟨10, 21, RL, TL, tyL, by decide, rfl, rfl, rfl, inBL, tyL_ok, nmL, by decide, Or.inl (bg_3 26 (by decide +kernel))⟩
theorem fl_L_14 : FL RL 14 9 1 := ⟨10, 21, RL, TL, tyL, by decide, rfl, rfl, rfl, inBL, tyL_ok, nmL, by decide, Or.inl (bg_3 27 (by decide +kernel))⟩
theorem fl_L_17 : FL RL 17 9 2 := ⟨10, 21, RL, TL, tyL, by decide, rfl, rfl, rfl, inBL, tyL_ok, nmL, by decide, Or.inl (bg_3 28 (by decide +kernel))⟩
theorem fl_L_20 : FL RL 20 9 3 := ⟨10, 21, RL, TL, tyL, by decide, rfl, rfl, rfl, inBL, tyL_ok, nmL, by decide, Or.inl (bg_3 29 (by decide +kernel))⟩
theorem fl_L_23 : FL RL 23 9 4 := ⟨10, 21, RL, TL, tyL, by decide, rfl, rfl, rfl, inBL, tyL_ok, nmL, by decide, Or.inl (bg_3 30 (by decide +kernel))⟩
theorem fl_L_26 : FL RL 26 9 5 := ⟨10, 21, RL, TL, tyL, by decide, rfl, rfl, rfl, inBL, tyL_ok, nmL, by decide, Or.inl (bg_3 31 (by decide +kernel))⟩
theorem fl_L_29 : FL RL 29 9 6 := ⟨10, 21, RL, TL, tyL, by decide, rfl, rfl, rfl, inBL, tyL_ok, nmL, by decide, Or.inl (bg_3 32 (by decide +kernel))⟩
theorem fl_L_32 : FL RL 32 9 7 := ⟨10, 21, RL, TL, tyL, by decide, rfl, rfl, rfl, inBL, tyL_ok, nmL, by decide, Or.inl (bg_3 33 (by decide +kernel))⟩
theorem fl_L_36 : FL RL 36 9 8 := ⟨10, 21, RL, TL, tyL, by decide, rfl, rfl, rfl, inBL, tyL_ok, nmL, by decide, Or.inl (bg_3 34 (by decide +kernel))⟩
theorem fl_L_39 : FL RL 39 9 9 := ⟨10, 21, RL, TL, tyL, by decide, rfl, rfl, rfl, inBL, tyL_ok, nmL, by decide, Or.inl (bg_3 35 (by decide +kernel))⟩
theorem fl_L_42 : FL RL 42 9 10 := ⟨10, 21, RL, TL, tyL, by decide, rfl, rfl, rfl, inBL, tyL_ok, nmL, by decide, Or.inl (bg_3 36 (by decide +kernel))⟩
theorem fl_L_45 : FL RL 45 9 11 := ⟨10, 21, RL, TL, tyL, by decide, rfl, rfl, rfl, inBL, tyL_ok, nmL, by decide, Or.inl (bg_3 37 (by decide +kernel))⟩
theorem fl_L_95 : FL RL 95 9 12 := ⟨10, 21, RL, TL, tyL, by decide, rfl, rfl, rfl, inBL, tyL_ok, nmL, by decide, Or.inl (bg_3 38 (by decide +kernel))⟩
theorem ft_L_95 : FLt RL 95 9 12 .int := ⟨10, 21, RL, TL, tyL, by decide, rfl, rfl, rfl, inBL, tyL_ok, nmL, by decide, Or.inl (bg_3 38 (by decide +kernel)), rfl, by decide +kernel⟩
theorem fl_L_98 : FL RL 98 9 13 := ⟨10, 21, RL, TL, tyL, by decide, rfl, rfl, rfl, inBL, tyL_ok, nmL, by decide, Or.inl (bg_3 39 (by decide +kernel))⟩
theorem ft_L_98 : FLt RL 98 9 13 .int := ⟨10, 21, RL, TL, tyL, by decide, rfl, rfl, rfl, inBL, tyL_ok, nmL, by decide, Or.inl (bg_3 39 (by decide +kernel)), rfl, by decide +kernel⟩
theorem fl_L_116 : FL RL 116 9 14 := ⟨10, 21, RL, TL, tyL, by decide, rfl, rfl, rfl, inBL, tyL_ok, nmL, by decide, Or.inl (bg_3 40 (by decide +kernel))⟩
theorem ft_L_116 : FLt RL 116 9 14 .int := ⟨10, 21, RL, TL, tyL, by decide, rfl, rfl, rfl, inBL, tyL_ok, nmL, by decide, Or.inl (bg_3 40 (by decide +kernel)), rfl, by decide +kernel⟩
theorem fl_L_101 : FL RL 101 9 15 := ⟨10, 21, RL, TL, tyL, by decide, rfl, rfl, rfl, inBL, tyL_ok, nmL, by decide, Or.inl (bg_3 41 (by decide +kernel))⟩
theorem ft_L_101 : FLt RL 101 9 15 .int := ⟨10, 21, RL, TL, tyL, by decide, rfl, rfl, rfl, inBL, tyL_ok, nmL, by decide, Or.inl (bg_3 41 (by decide +kernel)), rfl, by decide +kernel⟩
theorem fl_L_92 : FL RL 92 9 16 := ⟨10, 21, RL, TL, tyL, by decide, rfl, rfl, rfl, inBL, tyL_ok, nmL, by decide, Or.inl (bg_3 42 (by decide +kernel))⟩
theorem ft_L_92 : FLt RL 92 9 16 .int := ⟨10, 21, RL, TL, tyL, by decide, rfl, rfl, rfl, inBL, tyL_ok, nmL, by decide, Or.inl (bg_3 42 (by decide +kernel)), rfl, by decide +kernel⟩
theorem fl_L_104 : FL RL 104 9 17 := ⟨10, 21, RL, TL, tyL, by decide, rfl, rfl, rfl, inBL, tyL_ok, nmL, by decide, Or.inl (bg_3 43 (by decide +kernel))⟩
theorem ft_L_104 : FLt RL 104 9 17 .int := ⟨10, 21, RL, TL, tyL, by decide, rfl, rfl, rfl, inBL, tyL_ok, nmL, by decide, Or.inl (bg_3 43 (by decide +kernel)), rfl, by decide +kernel⟩
theorem fl_L_107 : FL RL 107 9 18 := ⟨10, 21, RL, TL, tyL, by decide, rfl, rfl, rfl, inBL, tyL_ok, nmL, by decide, Or.inl (bg_3 44 (by decide +kernel))⟩
theorem ft_L_107 : FLt RL 107 9 18 .int := ⟨10, 21, RL, TL, tyL, by decide, rfl, rfl, rfl, inBL, tyL_ok, nmL, by decide, Or.inl (bg_3 44 (by decide +kernel)), rfl, by decide +kernel⟩
theorem fl_L_88 : FL RL 88 9 19 := ⟨10, 21, RL, TL, tyL, by decide, rfl, rfl, rfl, inBL, tyL_ok, nmL, by decide, Or.inl (bg_3 45 (by decide +kernel))⟩
theorem ft_L_88 : FLt RL 88 9 19 .int := ⟨10, 21, RL, TL, tyL, by decide, rfl, rfl, rfl, inBL, tyL_ok, nmL, by decide, Or.inl (bg_3 45 (by decide +kernel)), rfl, by decide +kernel⟩
theorem fl_L_113 : FL RL 113 9 20 := ⟨10, 21, RL, TL, tyL, by decide, rfl, rfl, rfl, inBL, tyL_ok, nmL, by decide, Or.inl (bg_3 46 (by decide +kernel))⟩
theorem ft_L_113 : FLt RL 113 9 20 .int := ⟨10, 21, RL, TL, tyL, by decide, rfl, rfl, rfl, inBL, tyL_ok, nmL, by decide, Or.inl (bg_3 46 (by decide +kernel)), rfl, by decide +kernel⟩
theorem gs_J5_18 : Cond.fieldLink "java/lang/AbstractStringBuilder" 18 "java/lang/String" "COMPACT_STRINGS" "Z" ∈ BIG := bg_5 64 (by decide +kernel)
theorem gs_J5_15 : Cond.fieldLink "java/lang/AbstractStringBuilder" 15 "java/lang/AbstractStringBuilder" "value" "[B" ∈ BIG := bg_5 72 (by decide +kernel)
theorem gs_J5_22 : Cond.fieldLink "java/lang/AbstractStringBuilder" 22 "java/lang/AbstractStringBuilder" "coder" "B" ∈ BIG := bg_5 73 (by decide +kernel)
theorem gs_J0_1048 : Cond.fieldLink "java/lang/String" 1048 "java/lang/AbstractStringBuilder" "maybeLatin1" "Z" ∈ BIG := bg_5 74 (by decide +kernel)
theorem gs_J5_79 : Cond.fieldLink "java/lang/AbstractStringBuilder" 79 "java/lang/AbstractStringBuilder" "count" "I" ∈ BIG := bg_5 75 (by decide +kernel)
theorem gs_J6_83 : Cond.fieldLink "java/lang/Integer" 83 "java/lang/Integer" "DigitOnes" "[B" ∈ BIG := bg_5 206 (by decide +kernel)
theorem gs_J6_87 : Cond.fieldLink "java/lang/Integer" 87 "java/lang/Integer" "DigitTens" "[B" ∈ BIG := bg_5 208 (by decide +kernel)
theorem gs_J2_403 : Cond.fieldLink "java/lang/StringUTF16" 403 "java/lang/Integer" "DigitOnes" "[B" ∈ BIG := bg_5 216 (by decide +kernel)
theorem gs_J2_407 : Cond.fieldLink "java/lang/StringUTF16" 407 "java/lang/Integer" "DigitTens" "[B" ∈ BIG := bg_5 217 (by decide +kernel)
theorem gs_J0_9 : Cond.fieldLink "java/lang/String" 9 "java/lang/String" "value" "[B" ∈ BIG := bg_6 24 (by decide +kernel)
theorem gs_J0_15 : Cond.fieldLink "java/lang/String" 15 "java/lang/String" "coder" "B" ∈ BIG := bg_6 25 (by decide +kernel)
