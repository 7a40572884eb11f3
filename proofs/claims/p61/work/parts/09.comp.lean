def cmb (ks : List Nat) (lk : Nat → Nat → Nat) (ks' : List Nat) (lk' : Nat → Nat → Nat) (μ : List Nat) : Bool :=
  decide (μ.length ≤ 90) && (List.range ks'.length).all (fun j => decide (mu μ j < ks.length) && (ks'.getD j 0 == ks.getD (mu μ j) 0) && (List.range ks'.length).all (fun i => !(mu μ i == mu μ j) || (i == j)) && (!(ks'.getD j 0 == 7) || (List.range 8).all (fun i => mu μ (lk' j i) == lk (mu μ j) i)) && !(ks'.getD j 0 == 8))
theorem cm_of {ks : List Nat} {lk : Nat → Nat → Nat} {ks' : List Nat} {lk' : Nat → Nat → Nat} {μ : List Nat} (h : cmb ks lk ks' lk' μ = true) : CM ks lk ks' lk' μ := by
  unfold cmb at h
  rw [Bool.and_eq_true, decide_eq_true_eq, List.all_eq_true] at h
  obtain ⟨h1, h2⟩ := h
  have h3 : ∀ j, j < ks'.length → _ := fun j hj => h2 j (List.mem_range.mpr hj)
  simp only [Bool.and_eq_true, decide_eq_true_eq, beq_iff_eq, List.all_eq_true, List.mem_range, Bool.or_eq_true, Bool.not_eq_true', beq_eq_false_iff_ne, ne_eq] at h3
  refine ⟨h1, fun j hj => ⟨(h3 j hj).1.1.1.1, (h3 j hj).1.1.1.2⟩, fun i j hi hj he => ?_, fun j hj h7 i hi => ?_, fun j hj h8 => absurd h8 (h3 j hj).2⟩
  · exact ((h3 j hj).1.1.2 i hi).resolve_left (fun q => q he)
  · exact ((h3 j hj).1.2).resolve_left (fun q => q h7) i hi
theorem cm_id {ks : List Nat} {lk : Nat → Nat → Nat} : CM ks lk ks lk [] := by
  have hm : ∀ j, mu [] j = j := fun j => rfl
  exact ⟨by simp, fun j hj => ⟨hj, rfl⟩, fun i j _ _ h => h, fun j _ _ i _ => rfl, fun j _ _ => ⟨rfl, rfl⟩⟩
theorem MC.mono {l : Launch} {G : GT} {y : MethodName} {b : ByteArray} {maxL : Nat} {ret : Option FieldType} {rm : Room} {ks : List Nat} {lk : Nat → Nat → Nat} {as : List AV} {M : Mem} {post post' : Option AV → Mem → Prop} (h : MC l G y b maxL ret rm ks lk as M post) (hp : ∀ r M', post r M' → post' r M') : MC l G y b maxL ret rm ks lk as M post' := by
  intro ad sz p e ha hc hk s m args below hf happ hP hK
  obtain ⟨n, o, h1, h2, h3, ⟨⟨r, M', q1, q2, q3⟩, q4⟩, q5⟩ := h ad sz p e ha hc hk s m args below hf happ hP hK
  exact ⟨n, o, h1, h2, h3, ⟨⟨r, M', q1, hp r M' q2, q3⟩, q4⟩, q5⟩
theorem m1_of {A0 : Nat → Nat → Int32} {M : Mem} (h0 : M 0 = A0) : m1 A0 M = M := by
  funext j; unfold m1; split
  · rename_i h; rw [h, h0]
  · rfl
theorem m2_of {A0 A1 : Nat → Nat → Int32} {M : Mem} (h0 : M 0 = A0) (h1 : M 1 = A1) : m2 A0 A1 M = M := by
  funext j; unfold m2; split
  · rename_i h; rw [h, h0]
  · split
    · rename_i h; rw [h, h1]
    · rfl
theorem m3_of {A0 A1 A2 : Nat → Nat → Int32} {M : Mem} (h0 : M 0 = A0) (h1 : M 1 = A1) (h2 : M 2 = A2) : m3 A0 A1 A2 M = M := by
  funext j; unfold m3; split
  · rename_i h; rw [h, h0]
  · split
    · rename_i h; rw [h, h1]
    · split
      · rename_i h; rw [h, h2]
      · rfl
theorem Mrg_e {N : Nat} {μ : List Nat} {M M1 M2 : Mem} {i : Nat} {Z : Nat → Nat → Int32} (hinj : ∀ j, j < N → mu μ j = mu μ i → j = i) (hi : i < N) (hE : setm M (mu μ i) Z = M2) (h1 : M1 = setm (vw μ M) i Z) : Mrg N μ M M1 M2 := by
  subst hE; subst h1
  refine ⟨fun j hj => ?_, fun g hg => ?_⟩
  · by_cases he : j = i
    · subst he; rw [setm_s, setm_s]
    · rw [setm_n he, setm_n (fun e => he (hinj j hj e))]; rfl
  · rw [setm_n (fun e => hg i hi e.symm)]
theorem Mrg_z {N : Nat} {μ : List Nat} {M M1 : Mem} (h : M1 = vw μ M) : Mrg N μ M M1 M := by subst h; exact Mrg_0
def imax (x y : Int32) : Int32 := if x < y then y else x
def imin (x y : Int32) : Int32 := if y < x then y else x
def hcI (x : Int32) (n : Nat) : Int32 := if x < 0 then 0 else if nI n ≤ x then 0 else 1
theorem hcI_in {c n : Nat} (h : c < n) (hn : n ≤ 64) : hcI (nI c) n = 1 := by
  unfold hcI
  rw [if_neg (nI_pos (by omega)), if_neg (nI_ge h (by omega))]
def sm (f : Nat → Int32) : Nat → Int32 | 0 => 0 | n + 1 => sm f n + f n
theorem sm_add (a : Int32) (f : Nat → Int32) (i : Nat) : a + sm f i + f i = a + sm f (i + 1) := Int32.add_assoc a (sm f i) (f i)
theorem sm_0 (a : Int32) (f : Nat → Int32) : a + sm f 0 = a := Int32.add_zero a
section RM
variable {p : Program} {l : Launch} {e : Env} {R : Room} {s : State} {m : MethodId} {args : Array Value} {below : List Frame} {meth : Method} {c : Code} {G : GT} {Y : LV} {nL : Nat} {Q : State → Prop} {M : Mem} {k n pc : Nat} {L : List (Option AV)} {S : List AV} {cc : ByteArray} {own : String} {ret : Option FieldType}
theorem cat_sum : ∀ S : List AV, ((S.map (cv Y)).map fun v => v.category).sum = (S.map fun v => if ac2 (some v) then 2 else 1).sum := by
  intro S
  rw [List.map_map]
  congr 1
  refine List.map_congr_left (fun a _ => ?_)
  show (cv Y a).category = _
  cases h : ac2 (some a) with
  | true => rw [ac2_cv2 h]; rfl
  | false => rw [ac2_cv h]; rfl
theorem w_max1 : Cond.static Lib.Math.max.name ∈ BIG := is_J9_max_7cf53
theorem w_max2 : Cond.initialized "java/lang/Math" ∈ BIG := my_J9_max_7cf53.1
theorem w_max3 : Cond.code Lib.Math.max.name Lib.Math.max.code 2 (some .int) ∈ BIG := my_J9_max_7cf53.2.1
theorem w_min1 : Cond.static Lib.Math.min.name ∈ BIG := is_J9_min_7cf53
theorem w_min3 : Cond.code Lib.Math.min.name Lib.Math.min.code 2 (some .int) ∈ BIG := my_J9_min_7cf53.2.1
theorem r_mmax (E : EN p s m args meth c G Y cc own nL ret) {idx : Nat} {x y : Int32} (hlk : Cond.methodLink own idx Lib.Math.max.name ∈ BIG) (hR : 1 ≤ R.frames ∧ (S.map fun v => if ac2 (some v) then 2 else 1).sum + 13 ≤ R.locals ∧ k ≤ R.cells ∧ n ≤ R.slots) (hd : decode cc pc = .ok (.invokestatic idx, 3)) (kk : WM p l e R s m args below meth c G Y nL Q M k n (pc + 3) L (iv (imax x y) :: S)) : WM p l e R s m args below meth c G Y nL Q M k n pc L (iv y :: iv x :: S) := by
  intro H locs ls hP hS hl
  obtain ⟨hx, hb, hml, hown, hts, hr, hlk0, hG, hD⟩ := E
  exact va_mmax hx hb (hml.trans hl.1.symm) hown (hts _ hlk) (hts _ w_max1) (hts _ w_max2) (hts _ w_max3) hR.1 (by rw [cat_sum]; exact hR.2.1) hR.2.2.1 hR.2.2.2 hd (kk H locs ls hP hS hl)
theorem r_mmin (E : EN p s m args meth c G Y cc own nL ret) {idx : Nat} {x y : Int32} (hlk : Cond.methodLink own idx Lib.Math.min.name ∈ BIG) (hR : 1 ≤ R.frames ∧ (S.map fun v => if ac2 (some v) then 2 else 1).sum + 13 ≤ R.locals ∧ k ≤ R.cells ∧ n ≤ R.slots) (hd : decode cc pc = .ok (.invokestatic idx, 3)) (kk : WM p l e R s m args below meth c G Y nL Q M k n (pc + 3) L (iv (imin x y) :: S)) : WM p l e R s m args below meth c G Y nL Q M k n pc L (iv y :: iv x :: S) := by
  intro H locs ls hP hS hl
  obtain ⟨hx, hb, hml, hown, hts, hr, hlk0, hG, hD⟩ := E
  exact va_mmin hx hb (hml.trans hl.1.symm) hown (hts _ hlk) (hts _ w_min1) (hts _ w_max2) (hts _ w_min3) hR.1 (by rw [cat_sum]; exact hR.2.1) hR.2.2.1 hR.2.2.2 hd (kk H locs ls hP hS hl)
end RM
def LW : List (Option AV) → List (Option AV) → Prop
  | [], [] => True
  | none :: t', _ :: t => LW t' t
  | some a :: t', b :: t => b = some a ∧ LW t' t
  | _, _ => False
theorem LW_at : ∀ (L' L : List (Option AV)), LW L' L → ∀ (i : Nat) (v : AV), L'[i]? = some (some v) → L[i]? = some (some v)
  | [], [], _, i, v, h => by simp at h
  | none :: t', x :: t, hL, i, v, h => by
    cases i with
    | zero => simp at h
    | succ i => exact LW_at t' t hL i v h
  | some a :: t', b :: t, hL, i, v, h => by
    cases i with
    | zero =>
      have : a = v := by simpa using h
      subst this
      simp [hL.1]
    | succ i => exact LW_at t' t hL.2 i v h
  | none :: _, [], hL, _, _, _ => hL.elim
  | some _ :: _, [], hL, _, _, _ => hL.elim
  | [], _ :: _, hL, _, _, _ => hL.elim
section RB
variable {p : Program} {l : Launch} {e : Env} {R : Room} {s : State} {m : MethodId} {args : Array Value} {below : List Frame} {meth : Method} {c : Code} {G : GT} {Y : LV} {nL : Nat} {Q : State → Prop} {M : Mem} {k n pc : Nat} {L : List (Option AV)} {S : List AV}
/-- back to a loop's head: the modules said otherwise, some locals forgotten -/
theorem r_back {M2 : Mem} {L2 : List (Option AV)} (hM : M2 = M) (hL : LW L2 L) (kk : WM p l e R s m args below meth c G Y nL Q M2 k n pc L2 S) : WM p l e R s m args below meth c G Y nL Q M k n pc L S := by
  subst hM
  intro H locs ls hP hS hl
  refine kk H locs ls hP hS (lv_mono hl ?_)
  rintro ⟨z, x⟩ hq
  obtain ⟨i, v, h1, h2, h3⟩ := (lvl_mem _ _ _ _).mp hq
  exact (lvl_mem _ _ _ _).mpr ⟨i, v, LW_at _ _ hL i v h1, h2, h3⟩
end RB
def oI : Option Nat → Int32
  | none => -1
  | some k => nI k
def opI (x : Int32) : Int32 := if x ≤ 0 then 0 else 1
/-- the lowest of the first d neighbours -/
def loF (nb : Nat → Nat → Option Nat) (lev : Nat → Int32) (c : Nat) : Nat → Option Nat
  | 0 => none
  | d + 1 => match nb c d with
    | none => loF nb lev c d
    | some o => match loF nb lev c d with
      | none => some o
      | some b => if lev o < lev b then some o else some b
def lvF (lev : Nat → Int32) : Option Nat → Int32
  | none => 0
  | some b => lev b
theorem loF_n {nb : Nat → Nat → Option Nat} {lev : Nat → Int32} {c d : Nat} (h : nb c d = none) : loF nb lev c (d + 1) = loF nb lev c d := by simp only [loF, h]
theorem loF_a {nb : Nat → Nat → Option Nat} {lev : Nat → Int32} {c d o : Nat} (h : nb c d = some o) (h2 : oI (loF nb lev c d) = -1 ∨ lev o < lvF lev (loF nb lev c d)) (hb : ∀ b, loF nb lev c d = some b → b < 4096) : loF nb lev c (d + 1) = some o := by
  simp only [loF, h]
  cases hb2 : loF nb lev c d with
  | none => rfl
  | some b =>
    rcases h2 with h2 | h2
    · rw [hb2] at h2
      exfalso
      have h3 := congrArg Int32.toInt h2
      have h4 := hb b hb2
      rw [show oI (some b) = nI b from rfl, nI_toInt (by omega)] at h3
      have : (-1 : Int32).toInt = -1 := by decide
      omega
    · rw [hb2] at h2
      exact if_pos h2
theorem loF_b {nb : Nat → Nat → Option Nat} {lev : Nat → Int32} {c d o : Nat} (h : nb c d = some o) (h1 : ¬ oI (loF nb lev c d) = -1) (h2 : ¬ lev o < lvF lev (loF nb lev c d)) : loF nb lev c (d + 1) = loF nb lev c d := by
  simp only [loF, h]
  cases hb2 : loF nb lev c d with
  | none => rw [hb2] at h1; exact absurd rfl h1
  | some b => rw [hb2] at h2; exact if_neg h2
theorem loF_lt {nb : Nat → Nat → Option Nat} {lev : Nat → Int32} {c n : Nat} (hn : ∀ d k, nb c d = some k → k < n) : ∀ d b, loF nb lev c d = some b → b < n
  | 0, b, h => by simp [loF] at h
  | d + 1, b, h => by
    cases h1 : nb c d with
    | none => rw [loF_n h1] at h; exact loF_lt hn d b h
    | some o =>
      cases h2 : loF nb lev c d with
      | none => simp only [loF, h1, h2] at h; cases h; exact hn d _ h1
      | some b2 =>
        simp only [loF, h1, h2] at h
        split at h
        · cases h; exact hn d _ h1
        · cases h; exact loF_lt hn d _ h2
theorem i32_nlt {a b : Int32} (h : b ≤ a) : ¬ a < b := fun q => absurd (Int32.lt_of_lt_of_le q h) (Int32.lt_irrefl)
theorem i32_lt {a b : Int32} (h : ¬ b ≤ a) : a < b := Int32.not_le.mp h
/-- what flows, by the fall and the water there -/
def flA (df wc : Int32) : Int32 := if 0 < df then imin (df / 2) wc else 0
def flO (he w : Nat → Int32) (c : Nat) : Option Nat → Int32
  | none => 0
  | some l => flA (he c + w c - he l - w l) (w c)
theorem hcI_m1 {n : Nat} : hcI (-1) n = 0 := by unfold hcI; rw [if_pos (by decide)]
/-! the minute, in numbers -/
theorem fil_same {g f : Nat → Int32} {i : Nat} (h : g i = f i) : fil g f (i + 1) = fil g f i := by
  funext k
  unfold fil
  by_cases h1 : k < i
  · rw [if_pos h1, if_pos (by omega)]
  · rw [if_neg h1]
    by_cases h2 : k < i + 1
    · rw [if_pos h2]
      have : k = i := by omega
      subst this; exact h
    · rw [if_neg h2]
theorem sm_same (a : Int32) {f : Nat → Int32} {i : Nat} (h : f i = 0) : a + sm f (i + 1) = a + sm f i := by
  show a + (sm f i + f i) = _
  rw [h, Int32.add_zero]
theorem sm_next (a : Int32) {f : Nat → Int32} {i : Nat} {v : Int32} (h : v = f i) : a + sm f (i + 1) = a + sm f i + v := by
  rw [h, sm_add]
theorem opI_0 {x : Int32} : opI x = 0 ↔ x ≤ 0 := by
  unfold opI
  by_cases h : x ≤ 0
  · rw [if_pos h]; exact ⟨fun _ => h, fun _ => rfl⟩
  · rw [if_neg h]; exact ⟨fun q => absurd q (by decide), fun q => absurd q h⟩
def oW (ht hr w : Nat → Int32) (k : Nat) : Int32 := if ht k ≤ 0 then w k else w k + hr k
def oR (ht hr : Nat → Int32) (k : Nat) : Int32 := if ht k ≤ 0 then hr k else if ht k - 1 = 0 then 0 else hr k
def oT (ht : Nat → Int32) (k : Nat) : Int32 := if ht k ≤ 0 then ht k else ht k - 1
def oF (ht hr : Nat → Int32) (k : Nat) : Int32 := if ht k ≤ 0 then 0 else hr k
/-- water flows from cell c: water and leaves -/
def fwS (he gu : Nat → Int32) (nb : Nat → Nat → Option Nat) (x : (Nat → Int32) × (Nat → Int32)) (c : Nat) : (Nat → Int32) × (Nat → Int32) :=
  match loF nb (fun k => he k + x.1 k) c 4 with
  | none => x
  | some o => if flO he x.1 c (some o) ≤ 0 then x else
    (upd (upd x.1 c (x.1 c - flO he x.1 c (some o))) o (upd x.1 c (x.1 c - flO he x.1 c (some o)) o + flO he x.1 c (some o)),
     if 0 < x.2 c ∧ gu c = 0 then upd (upd x.2 c (x.2 c - 1)) o (upd x.2 c (x.2 c - 1) o + 1) else x.2)
def fwN (he gu : Nat → Int32) (nb : Nat → Nat → Option Nat) (x : (Nat → Int32) × (Nat → Int32)) : Nat → (Nat → Int32) × (Nat → Int32)
  | 0 => x
  | i + 1 => fwS he gu nb (fwN he gu nb x i) i
theorem fwS_0 {he gu : Nat → Int32} {nb : Nat → Nat → Option Nat} {x : (Nat → Int32) × (Nat → Int32)} {c : Nat} (h : loF nb (fun k => he k + x.1 k) c 4 = none) : fwS he gu nb x c = x := by unfold fwS; rw [h]
theorem fwS_1 {he gu : Nat → Int32} {nb : Nat → Nat → Option Nat} {x : (Nat → Int32) × (Nat → Int32)} {c o : Nat} (h : loF nb (fun k => he k + x.1 k) c 4 = some o) (h2 : flO he x.1 c (some o) ≤ 0) : fwS he gu nb x c = x := by unfold fwS; rw [h]; exact if_pos h2
theorem fwS_2 {he gu : Nat → Int32} {nb : Nat → Nat → Option Nat} {x : (Nat → Int32) × (Nat → Int32)} {c o : Nat} (h : loF nb (fun k => he k + x.1 k) c 4 = some o) (h2 : ¬ flO he x.1 c (some o) ≤ 0) : fwS he gu nb x c = (upd (upd x.1 c (x.1 c - flO he x.1 c (some o))) o (upd x.1 c (x.1 c - flO he x.1 c (some o)) o + flO he x.1 c (some o)), if 0 < x.2 c ∧ gu c = 0 then upd (upd x.2 c (x.2 c - 1)) o (upd x.2 c (x.2 c - 1) o + 1) else x.2) := by unfold fwS; rw [h]; exact if_neg h2
theorem i32_nle {a b : Int32} (h : ¬ a ≤ b) : b < a := Int32.not_le.mp h
def dU (gu lv w : Nat → Int32) (k : Nat) : Int32 := imin (imax (gu k - lv k) 0) (w k)
def eW (w : Nat → Int32) (k : Nat) : Int32 := if w k ≤ 0 then w k else w k - 1
def eE (w : Nat → Int32) (k : Nat) : Int32 := if w k ≤ 0 then 0 else 1
def wtF (w pl bh wt : Nat → Int32) (b : Nat) : Int32 := if bh b < w (pl b).toNatClampNeg then 1 else wt b
theorem oR_a {ht hr : Nat → Int32} {i : Nat} (h : ¬ ht i ≤ 0) (h2 : ¬ ht i - 1 = 0) : oR ht hr i = hr i := by unfold oR; rw [if_neg h, if_neg h2]
theorem oR_b {ht hr : Nat → Int32} {i : Nat} (h : ¬ ht i ≤ 0) (h2 : ht i - 1 = 0) : oR ht hr i = 0 := by unfold oR; rw [if_neg h, if_pos h2]
theorem fw_if1 {y gu : Nat → Int32} {i : Nat} {α : Type} {A B : α} (h : y i ≤ 0) : (if 0 < y i ∧ gu i = 0 then A else B) = B := if_neg (fun q => i32_nlt h q.1)
theorem fw_if2 {y gu : Nat → Int32} {i : Nat} {α : Type} {A B : α} (h : ¬ gu i = 0) : (if 0 < y i ∧ gu i = 0 then A else B) = B := if_neg (fun q => h q.2)
theorem fw_if3 {y gu : Nat → Int32} {i : Nat} {α : Type} {A B : α} (h : ¬ y i ≤ 0) (h2 : gu i = 0) : (if 0 < y i ∧ gu i = 0 then A else B) = A := if_pos ⟨i32_nle h, h2⟩
theorem oW_u {ht hr w : Nat → Int32} {i : Nat} (h : ¬ ht i ≤ 0) : w i + hr i = oW ht hr w i := by unfold oW; rw [if_neg h]
theorem oT_u {ht : Nat → Int32} {i : Nat} (h : ¬ ht i ≤ 0) : ht i - 1 = oT ht i := by unfold oT; rw [if_neg h]
def mw1 (n : Nat) (T : Nat → Nat → Int32) : Nat → Int32 := fil (fun k => T 1 k + T 0 8) (T 1) n
def mw2 (n : Nat) (T : Nat → Nat → Int32) : Nat → Int32 := fil (oW (T 4) (T 3) (mw1 n T)) (mw1 n T) n
def mf3 (n : Nat) (he gu : Nat → Int32) (nb : Nat → Nat → Option Nat) (T : Nat → Nat → Int32) : (Nat → Int32) × (Nat → Int32) := fwN he gu nb (mw2 n T, T 2) n
def mw4 (n : Nat) (he gu : Nat → Int32) (nb : Nat → Nat → Option Nat) (T : Nat → Nat → Int32) : Nat → Int32 := fil (fun k => (mf3 n he gu nb T).1 k - dU gu (mf3 n he gu nb T).2 (mf3 n he gu nb T).1 k) (mf3 n he gu nb T).1 n
def mz (T : Nat → Nat → Int32) : Int32 := (T 0 7 + 1) - (T 0 7 + 1) / 10 * 10
def mw5 (n : Nat) (he gu : Nat → Int32) (nb : Nat → Nat → Option Nat) (T : Nat → Nat → Int32) : Nat → Int32 := if mz T = 0 then fil (eW (mw4 n he gu nb T)) (mw4 n he gu nb T) n else mw4 n he gu nb T
/-- one minute of a State module -/
def mnS (n bcn : Nat) (he gu bh : Nat → Int32) (nb : Nat → Nat → Option Nat) (T : Nat → Nat → Int32) : Nat → Nat → Int32 :=
  vS T (T 0 7 + 1) (T 0 8) (T 0 9 + T 0 8 * nI n) (T 0 10 + sm (oF (T 4) (T 3)) n) (T 0 11 + sm (dU gu (mf3 n he gu nb T).2 (mf3 n he gu nb T).1) n) (if mz T = 0 then T 0 12 + sm (eE (mw4 n he gu nb T)) n else T 0 12) (T 0 13) (T 0 14)
    (mw5 n he gu nb T) (mf3 n he gu nb T).2 (fil (oR (T 4) (T 3)) (T 3) n) (fil (oT (T 4)) (T 4) n) (T 5) (T 6) (fil (wtF (mw5 n he gu nb T) (T 5) bh (T 7)) (T 7) bcn)
def mnN (n bcn : Nat) (he gu bh : Nat → Int32) (nb : Nat → Nat → Option Nat) (T : Nat → Nat → Int32) : Nat → Nat → Nat → Int32
  | 0 => T
  | i + 1 => mnS n bcn he gu bh nb (mnN n bcn he gu bh nb T i)
theorem mnN_5 {n bcn : Nat} {he gu bh : Nat → Int32} {nb : Nat → Nat → Option Nat} {T : Nat → Nat → Int32} : ∀ i, mnN n bcn he gu bh nb T i 5 = T 5
  | 0 => rfl
  | i + 1 => (mnN_5 (n := n) (bcn := bcn) (he := he) (gu := gu) (bh := bh) (nb := nb) (T := T) i)
theorem wt_1 {w pl bh wt : Nat → Int32} {b q : Nat} (hq : pl b = nI q) (h6 : q < 64) (h : bh b < w q) : wtF w pl bh wt b = 1 := by
  unfold wtF
  rw [hq, nI_clamp (by omega), if_pos h]
theorem wt_2 {w pl bh wt : Nat → Int32} {b q : Nat} (hq : pl b = nI q) (h6 : q < 64) (h : ¬ bh b < w q) : wtF w pl bh wt b = wt b := by
  unfold wtF
  rw [hq, nI_clamp (by omega), if_neg h]
theorem wt_s {w pl bh wt : Nat → Int32} {b q : Nat} (hq : pl b = nI q) (h6 : q < 64) : (if bh b < w q then upd (fil (wtF w pl bh wt) wt b) b 1 else fil (wtF w pl bh wt) wt b) = fil (wtF w pl bh wt) wt (b + 1) := by
  by_cases h : bh b < w q
  · rw [if_pos h, fil_upd (wt_1 hq h6 h).symm]
  · rw [if_neg h, fil_same (wt_2 hq h6 h)]
theorem ml_X5_73 : Cond.methodLink RX5 73 arraycopyName ∈ BIG := bg_4 9 (by decide +kernel)
theorem ml_X6_79 : Cond.methodLink RX6 79 arraycopyName ∈ BIG := bg_2 189 (by decide +kernel)
theorem w_ac1 : Cond.static arraycopyName ∈ BIG := bg_2 190 (by decide +kernel)
theorem w_ac2 : Cond.native arraycopyName ∈ BIG := bg_2 191 (by decide +kernel)
theorem w_ac3 : Cond.initialized "java/lang/System" ∈ BIG := bg_1 15 (by decide +kernel)
theorem arrV_congr {cA : ClassId} {N : Nat} {f g : Nat → Value} (h : ∀ i, i < N → f i = g i) : arrV cA N f = arrV cA N g := by
  unfold arrV
  congr 1
  congr 1
  funext j
  exact h j.val j.isLt
theorem arC_congr {Y : LV} {cA : ClassId} {N c j : Nat} {f g : Nat → Int32} (h : ∀ i, i < N → f i = g i) : vp_cell cA (N, arC Y c j f) = vp_cell cA (N, arC Y c j g) := by
  rcases (show c = 0 ∨ c = 1 ∨ c = 2 ∨ c = 3 ∨ 4 ≤ c by omega) with rfl | rfl | rfl | rfl | hc
  · show arrV cA N (fun i => .int (f i)) = arrV cA N (fun i => .int (g i))
    exact arrV_congr (fun i hi => by rw [h i hi])
  · show arrV cA N (fun i => .int (f i)) = arrV cA N (fun i => .int (g i))
    exact arrV_congr (fun i hi => by rw [h i hi])
  · show arrV cA N (fun i => .int (f i)) = arrV cA N (fun i => .int (g i))
    exact arrV_congr (fun i hi => by rw [h i hi])
  · show arrV cA N (fun i => .int (f i)) = arrV cA N (fun i => .int (g i))
    exact arrV_congr (fun i hi => by rw [h i hi])
  · obtain ⟨c, rfl⟩ : ∃ c', c = c' + 4 := ⟨c - 4, by omega⟩
    show arrV cA N (fun i => va_rf (rr Y (c + 4) j i (f i))) = arrV cA N (fun i => va_rf (rr Y (c + 4) j i (g i)))
    exact arrV_congr (fun i hi => by rw [h i hi])
section RT
variable {p : Program} {l : Launch} {e : Env} {R : Room} {s : State} {m : MethodId} {args : Array Value} {below : List Frame} {meth : Method} {c : Code} {G : GT} {Y : LV} {nL : Nat} {Q : State → Prop} {M : Mem} {k n pc : Nat} {L : List (Option AV)} {S : List AV} {cc : ByteArray} {own : String} {ret : Option FieldType}
/-- what lies beyond an array's end may be said as one likes -/
theorem va_P_range {M' : Mem} {H : Heap} (h : ∀ j t, (j, t) ∈ KY Y → (∀ c N, ae (kdY Y j) t = some (c, N) → ∀ i, i < N → M' j t i = M j t i) ∧ (ae (kdY Y j) t = none → M' j t = M j t)) (hP : va_P G.1 vwCl (wl G Y M) H) : va_P G.1 vwCl (wl G Y M') H := by
  refine va_P_of ?_
  intro q hq
  obtain ⟨⟨j, t⟩, hk, rfl⟩ := List.mem_map.mp hq
  have h0 := va_P_at hP (wl_in (G := G) (M := M) hk)
  obtain ⟨h1, h2⟩ := h j t hk
  show va_at _ _ (Y.2.2 j t, ceY G Y (M' j) j t) H
  cases ha : ae (kdY Y j) t with
  | some q =>
    rw [ar_ce ha] at h0 ⊢
    show H[Y.2.2 j t]? = some (vp_cell (G.2.1 q.1) (q.2, arC Y q.1 j (M' j t)))
    rw [arC_congr (h1 q.1 q.2 ha)]
    exact h0
  | none => rw [ceY_congr (KY_mem.mp hk).2 (h2 ha)]; exact h0
theorem r_range {c1 : Code} {M2 : Mem} {j t c N : Nat} {f : Nat → Int32} (ha : ae (kdY Y j) t = some (c, N)) (h : ∀ i, i < N → f i = M j t i) (hs : setm M j (sett (M j) t f) = M2) (kk : WM p l e R s m args below meth c1 G Y nL Q M2 k n pc L S) : WM p l e R s m args below meth c1 G Y nL Q M k n pc L S := by
  intro H locs ls hP hS hl
  refine kk H locs ls ?_ hS hl
  subst hs
  refine va_P_range ?_ hP
  intro j' t' hk
  by_cases h1 : j' = j
  · subst h1
    rw [setm_s]
    by_cases h2 : t' = t
    · subst h2
      rw [sett_s]
      exact ⟨fun c' N' hc i hi => by rw [ha] at hc; cases hc; exact h i hi, fun hn => by rw [ha] at hn; cases hn⟩
    · rw [sett_n h2]
      exact ⟨fun _ _ _ _ _ => rfl, fun _ => rfl⟩
  · rw [setm_n h1]
    exact ⟨fun _ _ _ _ _ => rfl, fun _ => rfl⟩
def tyc : Nat → FieldType
  | 0 => .int
  | 1 => .byte
  | _ => .boolean
theorem q_acopy (E : EN p s m args meth c G Y cc own nL ret) {idx j1 t1 j2 t2 ca N1 N2 a b z : Nat} {f g f2 : Nat → Int32} {M2 : Mem} {x1 x2 x3 : Int32} (hlk : Cond.methodLink own idx arraycopyName ∈ BIG) (hd : decode cc pc = .ok (.invokestatic idx, 3)) (ha1 : ae (kdY Y j1) t1 = some (ca, N1)) (ha2 : ae (kdY Y j2) t2 = some (ca, N2)) (hc : ca < 3) (hj1 : okb Y j1 t1 = true) (hj2 : okb Y j2 t2 = true) (hg1 : M j1 t1 = f) (hg2 : M j2 t2 = g) (hx1 : x1 = nI a) (hx2 : x2 = nI b) (hx3 : x3 = nI z) (h4 : a + z ≤ N1) (h5 : b + z ≤ N2) (hN : N1 ≤ 4096 ∧ N2 ≤ 4096) (hfit : ∀ i, i < z → fits (tyc ca) (.int (f (a + i))) = true) (hR : 1 ≤ R.frames ∧ (S.map fun v => if ac2 (some v) then 2 else 1).sum + (nativeFrameWords "java/lang/System" "arraycopy" 5 + 11) ≤ R.locals) (hf2 : ∀ i, i < N2 → f2 i = va_cpy f g a b z i) (hs : setm M j2 (sett (M j2) t2 f2) = M2) (kk : WM p l e R s m args below meth c G Y nL Q M2 k n (pc + 3) L S) : WM p l e R s m args below meth c G Y nL Q M k n pc L (iv x3 :: iv x2 :: rv j2 t2 :: iv x1 :: rv j1 t1 :: S) := by
  subst hx1; subst hx2; subst hx3
  intro H locs ls hP hS hl
  have E0 := E
  obtain ⟨hx, hb, hml, hown, hts, hr, hlk0, ⟨hnw, hK, hX⟩, hD⟩ := E
  obtain ⟨q0, hq0, hw0⟩ := wl_at (G := G) (M := M) (okb_ok hj1)
  obtain ⟨q1, hq1, hw1⟩ := wl_at (G := G) (M := M) (okb_ok hj2)
  rw [ar_ce ha1] at hw0
  rw [ar_ce ha2] at hw1
  have hcl : ∀ u, u ≤ 4096 → (nI u).toNatClampNeg = u := fun u hu => nI_clamp (by omega)
  have hty : ∃ ty, (tyG G)[ca]? = some (G.2.1 ca, ty) ∧ refKind ty = false ∧ ty = tyc ca := by
    rcases (show ca = 0 ∨ ca = 1 ∨ ca = 2 by omega) with rfl | rfl | rfl <;> exact ⟨_, rfl, rfl, rfl⟩
  obtain ⟨ty, hty1, hty2, rfl⟩ := hty
  have hai : ∀ j (u : Nat → Int32), arC Y ca j u = .inl u := by
    intro j u
    rcases (show ca = 0 ∨ ca = 1 ∨ ca = 2 by omega) with rfl | rfl | rfl <;> rfl
  rw [hai] at hw0 hw1
  refine va_copyi (D := G.1) hx hb (hml.trans hl.1.symm) hown (hts _ hlk) (hts _ w_ac2) (hts _ w_ac1) (hts _ w_ac3) hK hP (hD M) hS q0 q1 ca ca hw0 hw1 hty1 hty1 hty2 (nI_pos (by omega)) (nI_pos (by omega)) (nI_pos (by omega)) (by rw [hcl a (by omega), hcl z (by omega)]; exact h4) (by rw [hcl b (by omega), hcl z (by omega)]; exact h5) (by rw [hcl a (by omega), hcl z (by omega), hg1]; exact hfit) hR.1 (by rw [cat_sum]; exact hR.2) hd (fun H1 locs1 hP1 _ hS1 => ?_)
  rw [hcl a (by omega), hcl b (by omega), hcl z (by omega), hg1, hg2, wl_set hq1 (f := va_cpy f g a b z) ((ar_ce ha2 _).trans (by rw [sett_s, hai]))] at hP1
  exact r_range (M := setm M j2 (sett (M j2) t2 (va_cpy f g a b z))) (M2 := M2) ha2 (by rw [setm_s, sett_s]; exact hf2) (by rw [setm_s, setm_setm, sett_sett]; exact hs) kk H1 locs1 ls hP1 hS1 hl
end RT
theorem cpy_all {f g : Nat → Int32} {N i : Nat} (h : i < N) : f i = va_cpy f g 0 0 N i := by
  unfold va_cpy
  rw [if_pos ⟨Nat.zero_le _, by omega⟩]
  congr 1
  omega
theorem fv_c {Y : LV} {j k : Nat} {S S' : Nat → Nat → Int32} (h : (fk (kdY Y j) k ≠ 1 ∧ fk (kdY Y j) k ≠ 2) → S' 0 k = S 0 k) : fv Y j k S' = fv Y j k S := by
  by_cases h1 : fk (kdY Y j) k = 1
  · unfold fv
    simp only [h1]
  · by_cases h2 : fk (kdY Y j) k = 2
    · unfold fv
      simp only [h2]
    · have h3 := h ⟨h1, h2⟩
      unfold fv
      rw [h3]
section RO
variable {p : Program} {l : Launch} {e : Env} {R : Room} {s : State} {m : MethodId} {args : Array Value} {below : List Frame} {meth : Method} {c : Code} {G : GT} {Y : LV} {nL : Nat} {Q : State → Prop} {M : Mem} {k n pc : Nat} {L : List (Option AV)} {S : List AV}
theorem va_P_objs {M' : Mem} {H : Heap} (h : ∀ j t, (j, t) ∈ KY Y → (∀ c N, ae (kdY Y j) t = some (c, N) → ∀ i, i < N → M' j t i = M j t i) ∧ (ae (kdY Y j) t = none → ∀ k, k < fn (kdY Y j) → (fk (kdY Y j) k ≠ 1 ∧ fk (kdY Y j) k ≠ 2) → M' j 0 k = M j 0 k)) (hP : va_P G.1 vwCl (wl G Y M) H) : va_P G.1 vwCl (wl G Y M') H := by
  refine va_P_of ?_
  intro q hq
  obtain ⟨⟨j, t⟩, hk, rfl⟩ := List.mem_map.mp hq
  have h0 := va_P_at hP (wl_in (G := G) (M := M) hk)
  obtain ⟨h1, h2⟩ := h j t hk
  show va_at _ _ (Y.2.2 j t, ceY G Y (M' j) j t) H
  cases ha : ae (kdY Y j) t with
  | some q =>
    rw [ar_ce ha] at h0 ⊢
    show H[Y.2.2 j t]? = some (vp_cell (G.2.1 q.1) (q.2, arC Y q.1 j (M' j t)))
    rw [arC_congr (h1 q.1 q.2 ha)]
    exact h0
  | none =>
    have h3 : ceY G Y (M' j) j t = ceY G Y (M j) j t := by
      unfold ceY
      rw [ha]
      show Sum.inr (_, _) = Sum.inr (_, _)
      congr 2
      refine List.map_congr_left (fun k hk => ?_)
      have hk2 := List.mem_range.mp hk
      rw [fv_c (fun hf => h2 ha k hk2 hf)]
    rw [h3]
    exact h0
theorem r_objs {M2 : Mem} (h : ∀ j t, (j, t) ∈ KY Y → (∀ c N, ae (kdY Y j) t = some (c, N) → ∀ i, i < N → M2 j t i = M j t i) ∧ (ae (kdY Y j) t = none → ∀ k, k < fn (kdY Y j) → (fk (kdY Y j) k ≠ 1 ∧ fk (kdY Y j) k ≠ 2) → M2 j 0 k = M j 0 k)) (kk : WM p l e R s m args below meth c G Y nL Q M2 k n pc L S) : WM p l e R s m args below meth c G Y nL Q M k n pc L S :=
  fun H locs ls hP hS hl => kk H locs ls (va_P_objs h hP) hS hl
end RO
theorem fkS : ∀ k, k < 15 → (fk 1 k ≠ 1 ∧ fk 1 k ≠ 2) → 7 ≤ k := by decide +kernel
/-- a State module: what isn't in the heap may be another's -/
theorem eqS {Y : LV} {M M2 : Mem} {j0 : Nat} (hk0 : kdY Y j0 = 1) {B B2 : Nat → Nat → Int32} {a7 a8 a9 a10 a11 a12 a13 a14 : Int32} {b1 b2 b3 b4 b5 b6 b7 : Nat → Int32} (h1 : M j0 = vS B a7 a8 a9 a10 a11 a12 a13 a14 b1 b2 b3 b4 b5 b6 b7) (h2 : M2 = setm M j0 (vS B2 a7 a8 a9 a10 a11 a12 a13 a14 b1 b2 b3 b4 b5 b6 b7)) : ∀ j t, (j, t) ∈ KY Y → (∀ c N, ae (kdY Y j) t = some (c, N) → ∀ i, i < N → M2 j t i = M j t i) ∧ (ae (kdY Y j) t = none → ∀ k, k < fn (kdY Y j) → (fk (kdY Y j) k ≠ 1 ∧ fk (kdY Y j) k ≠ 2) → M2 j 0 k = M j 0 k) := by
  subst h2
  intro j t hk
  by_cases hj : j = j0
  · subst hj
    rw [setm_s, h1, hk0]
    have ht := (KY_mem.mp hk).2
    rw [hk0] at ht
    constructor
    · intro c N hc i _
      have : t = 0 ∨ t = 1 ∨ t = 2 ∨ t = 3 ∨ t = 4 ∨ t = 5 ∨ t = 6 ∨ t = 7 := by
        have h9 : ∀ t ∈ KT 1, t < 8 := by decide +kernel
        have := h9 t ht
        omega
      rcases this with rfl | rfl | rfl | rfl | rfl | rfl | rfl | rfl
      · cases (show (none : Option (Nat × Nat)) = some (c, N) from hc)
      all_goals rfl
    · intro _ k hk2 hf
      have h7 := fkS k hk2 hf
      have h15 : k < 15 := hk2
      have : k = 7 ∨ k = 8 ∨ k = 9 ∨ k = 10 ∨ k = 11 ∨ k = 12 ∨ k = 13 ∨ k = 14 := by omega
      rcases this with rfl | rfl | rfl | rfl | rfl | rfl | rfl | rfl <;> rfl
  · rw [setm_n hj]
    exact ⟨fun _ _ _ _ _ => rfl, fun _ _ _ _ => rfl⟩
def cO (ht : Nat → Int32) (k : Nat) : Int32 := if ht k ≤ 0 then 0 else 1
/-- a splash: the water and what was thrown, behind d directions -/
def thW (nb : Nat → Nat → Option Nat) (q : Nat) (f : Int32) (w : Nat → Int32) : Nat → (Nat → Int32) × Int32
  | 0 => (w, 0)
  | d + 1 => match nb q d with
    | none => thW nb q f w d
    | some o => (upd (thW nb q f w d).1 o ((thW nb q f w d).1 o + f), (thW nb q f w d).2 + f)
theorem thW_n {nb : Nat → Nat → Option Nat} {q d : Nat} {f : Int32} {w : Nat → Int32} (h : nb q d = none) : thW nb q f w (d + 1) = thW nb q f w d := by simp only [thW, h]
theorem thW_s {nb : Nat → Nat → Option Nat} {q d o : Nat} {f : Int32} {w : Nat → Int32} (h : nb q d = some o) : thW nb q f w (d + 1) = (upd (thW nb q f w d).1 o ((thW nb q f w d).1 o + f), (thW nb q f w d).2 + f) := by simp only [thW, h]
/-! texts: signs, tokens -/
def bi (x : Bool) : Int32 := if x then 1 else 0
def cB (x : Int32) : Bool := decide (x = 32) || decide (x = 10)
def cL (x : Int32) : Bool := !decide (x < 97) && !decide (122 < x)
def cD (x : Int32) : Bool := !decide (x < 48) && !decide (57 < x)
def scn (P : Int32 → Bool) (b : Nat → Int32) : Nat → Nat → Nat
  | 0, p => p
  | d + 1, p => if P (b p) then scn P b d (p + 1) else p
/-- the first place from p on, below n, whose sign isn't a P; n if none -/
def scan (P : Int32 → Bool) (b : Nat → Int32) (n p : Nat) : Nat := scn P b (n - p) p
theorem scan_go {P : Int32 → Bool} {b : Nat → Int32} {n p : Nat} (h : p < n) (hP : P (b p) = true) : scan P b n (p + 1) = scan P b n p := by
  unfold scan
  obtain ⟨d, hd⟩ : ∃ d, n - p = d + 1 := ⟨n - p - 1, by omega⟩
  rw [hd, show n - (p + 1) = d by omega]
  show _ = if P (b p) then _ else _
  rw [if_pos hP]
theorem scan_no {P : Int32 → Bool} {b : Nat → Int32} {n p : Nat} (h : p < n) (hP : P (b p) = false) : scan P b n p = p := by
  unfold scan
  obtain ⟨d, hd⟩ : ∃ d, n - p = d + 1 := ⟨n - p - 1, by omega⟩
  rw [hd]
  show (if P (b p) then _ else _) = _
  rw [if_neg (by rw [hP]; decide)]
theorem scan_end {P : Int32 → Bool} {b : Nat → Int32} {n p : Nat} (h : n ≤ p) : scan P b n p = p := by
  unfold scan
  rw [show n - p = 0 by omega]
  rfl
theorem scn_le {P : Int32 → Bool} {b : Nat → Int32} : ∀ d p, p ≤ scn P b d p ∧ scn P b d p ≤ p + d
  | 0, p => ⟨Nat.le_refl _, Nat.le_refl _⟩
  | d + 1, p => by
    show p ≤ (if P (b p) then scn P b d (p + 1) else p) ∧ (if P (b p) then scn P b d (p + 1) else p) ≤ p + (d + 1)
    by_cases h : P (b p)
    · rw [if_pos h]
      have := scn_le (P := P) (b := b) d (p + 1)
      omega
    · rw [if_neg h]; omega
theorem scan_le {P : Int32 → Bool} {b : Nat → Int32} {n p : Nat} (h : p ≤ n) : p ≤ scan P b n p ∧ scan P b n p ≤ n := by
  have := scn_le (P := P) (b := b) (n - p) p
  unfold scan
  omega
theorem scan_lt {P : Int32 → Bool} {b : Nat → Int32} {n p : Nat} (h : p < n) (hP : P (b p) = true) : p < scan P b n p := by
  rw [← scan_go h hP]
  have := scan_le (P := P) (b := b) (n := n) (p := p + 1) (by omega)
  omega
/-- the number spelled by d digits from s on -/
def nvF (b : Nat → Int32) (s : Nat) : Nat → Int32
  | 0 => 0
  | d + 1 => 10 * nvF b s d + b (s + d) - 48
def tS (b : Nat → Int32) (n p : Nat) : Nat := scan cB b n p
def tP (b : Nat → Int32) (n p : Nat) : Nat := if n ≤ tS b n p then tS b n p else if cL (b (tS b n p)) then scan cL b n (tS b n p) else if cD (b (tS b n p)) then scan cD b n (tS b n p) else tS b n p + 1
def wK (s e : Nat) : Int32 := if e - s ≤ 8 then 1 else 4
def dK (s e : Nat) : Int32 := if e - s ≤ 2 then 2 else 4
def tK (b : Nat → Int32) (n p : Nat) : Int32 := if n ≤ tS b n p then 0 else if cL (b (tS b n p)) then wK (tS b n p) (scan cL b n (tS b n p)) else if cD (b (tS b n p)) then dK (tS b n p) (scan cD b n (tS b n p)) else if b (tS b n p) = 59 then 3 else 4
def tV (b : Nat → Int32) (n p : Nat) (va : Int32) : Int32 := if n ≤ tS b n p then va else if cL (b (tS b n p)) then va else if cD (b (tS b n p)) then nvF b (tS b n p) (scan cD b n (tS b n p) - tS b n p) else va
theorem bi_0 {x : Bool} (h : bi x = 0) : x = false := by cases x <;> first | rfl | (exact absurd h (by decide))
theorem bi_1 {x : Bool} (h : ¬ bi x = 0) : x = true := by cases x <;> first | rfl | (exact absurd rfl h)
def feI (c a b : Int32) : Int32 := if c = 0 then a else b
def tnC (b : Nat → Int32) (n p : Nat) (va lo hi : Int32) : Int32 := if tK b n p = 2 then (if tV b n p va < lo then 2 else if hi < tV b n p va then 2 else 0) else 1
def tmC (b : Nat → Int32) (n p : Nat) : Int32 := if tK b n p = 1 then (if tP b n p - tS b n p ≤ 6 then 0 else 1) else 1
def tsC (b : Nat → Int32) (n p : Nat) : Int32 := if tK b n p = 3 then 0 else 1
theorem feI_0 {a b : Int32} : feI 0 a b = a := if_pos rfl
theorem feI_1 {a b : Int32} : feI 1 a b = b := if_neg (by decide)
theorem feI_2 {a b : Int32} : feI 2 a b = b := if_neg (by decide)
theorem tS_le {b : Nat → Int32} {n p : Nat} (h : p ≤ n) : p ≤ tS b n p ∧ tS b n p ≤ n := scan_le h
theorem tP_le {b : Nat → Int32} {n p : Nat} (h : p ≤ n) : tS b n p ≤ tP b n p ∧ tP b n p ≤ n := by
  have h1 := tS_le (b := b) h
  unfold tP
  split
  · omega
  · split
    · exact scan_le (by omega)
    · split
      · exact scan_le (by omega)
      · omega
/-! the search for a puddle's cells: labels, queue, how many are queued -/
abbrev BT : Type := (Nat → Int32) × (Nat → Int32) × Nat
def bD (nb : Nat → Nat → Option Nat) (w : Nat → Int32) (ct : Int32) (q d : Nat) (x : BT) : BT := match nb q d with
  | none => x
  | some o => if x.1 o = -1 ∧ 0 < w o ∧ x.2.2 < 64 then (upd x.1 o ct, upd x.2.1 x.2.2 (nI o), x.2.2 + 1) else x
def bN (nb : Nat → Nat → Option Nat) (w : Nat → Int32) (ct : Int32) (q : Nat) (x : BT) : Nat → BT
  | 0 => x
  | d + 1 => bD nb w ct q d (bN nb w ct q x d)
theorem bD_0 {nb : Nat → Nat → Option Nat} {w : Nat → Int32} {ct : Int32} {q d : Nat} {x : BT} (h : nb q d = none) : bD nb w ct q d x = x := by unfold bD; rw [h]
theorem bD_1 {nb : Nat → Nat → Option Nat} {w : Nat → Int32} {ct : Int32} {q d o : Nat} {x : BT} (h : nb q d = some o) (h2 : ¬ (x.1 o = -1 ∧ 0 < w o ∧ x.2.2 < 64)) : bD nb w ct q d x = x := by unfold bD; rw [h]; exact if_neg h2
theorem bD_2 {nb : Nat → Nat → Option Nat} {w : Nat → Int32} {ct : Int32} {q d o : Nat} {x : BT} (h : nb q d = some o) (h1 : x.1 o = -1) (h2 : 0 < w o) (h3 : x.2.2 < 64) : bD nb w ct q d x = (upd x.1 o ct, upd x.2.1 x.2.2 (nI o), x.2.2 + 1) := by unfold bD; rw [h]; exact if_pos ⟨h1, h2, h3⟩
/-- the queue holds cells -/
def bOK (n : Nat) (x : BT) : Prop := x.2.2 ≤ 64 ∧ ∀ i, i < x.2.2 → ∃ q, q < n ∧ x.2.1 i = nI q
theorem bD_ok {nb : Nat → Nat → Option Nat} {w : Nat → Int32} {ct : Int32} {q d n : Nat} {x : BT} (hn : ∀ c d k, nb c d = some k → k < n) (hx : bOK n x) : bOK n (bD nb w ct q d x) := by
  cases h : nb q d with
  | none => rw [bD_0 h]; exact hx
  | some o =>
    by_cases h2 : x.1 o = -1 ∧ 0 < w o ∧ x.2.2 < 64
    · rw [bD_2 h h2.1 h2.2.1 h2.2.2]
      refine ⟨h2.2.2, fun i hi => ?_⟩
      have hi2 : i < x.2.2 + 1 := hi
      by_cases he : i = x.2.2
      · subst he
        exact ⟨o, hn q d o h, by simp [upd]⟩
      · obtain ⟨q2, h3, h4⟩ := hx.2 i (by omega)
        exact ⟨q2, h3, by simp [upd, he, h4]⟩
    · rw [bD_1 h h2]; exact hx
theorem bN_ok {nb : Nat → Nat → Option Nat} {w : Nat → Int32} {ct : Int32} {q n : Nat} {x : BT} (hn : ∀ c d k, nb c d = some k → k < n) (hx : bOK n x) : ∀ d, bOK n (bN nb w ct q x d)
  | 0 => hx
  | d + 1 => bD_ok hn (bN_ok hn hx d)
/-- the puddle's numbers: the search, sizes, waters -/
abbrev BS : Type := BT × (Nat → Int32) × (Nat → Int32)
def bS (nb : Nat → Nat → Option Nat) (w : Nat → Int32) (k : Nat) (s : BS) (done : Nat) : BS :=
  (bN nb w (nI k) (s.1.2.1 done).toNatClampNeg s.1 4, upd s.2.1 k (s.2.1 k + 1), upd s.2.2 k (s.2.2 k + w (s.1.2.1 done).toNatClampNeg))
def bF (nb : Nat → Nat → Option Nat) (w : Nat → Int32) (k : Nat) : Nat → Nat → BS → BS
  | 0, _, s => s
  | f + 1, done, s => if done < s.1.2.2 then bF nb w k f (done + 1) (bS nb w k s done) else s
theorem bF_go {nb : Nat → Nat → Option Nat} {w : Nat → Int32} {k done : Nat} {s : BS} (h : done < s.1.2.2) (h2 : done < 64) : bF nb w k (64 - (done + 1)) (done + 1) (bS nb w k s done) = bF nb w k (64 - done) done s := by
  obtain ⟨f, hf⟩ : ∃ f, 64 - done = f + 1 := ⟨64 - done - 1, by omega⟩
  rw [hf, show 64 - (done + 1) = f by omega]
  exact (if_pos h).symm
theorem bF_no {nb : Nat → Nat → Option Nat} {w : Nat → Int32} {k done : Nat} {s : BS} (h : ¬ done < s.1.2.2) : bF nb w k (64 - done) done s = s := by
  cases 64 - done with
  | zero => rfl
  | succ f => exact if_neg h
theorem bF_end {nb : Nat → Nat → Option Nat} {w : Nat → Int32} {k done : Nat} {s : BS} (h : 64 ≤ done) : bF nb w k (64 - done) done s = s := by
  rw [show 64 - done = 0 by omega]; rfl
/-- all puddles: how many, labels, sizes, waters, queue -/
abbrev PT : Type := Nat × (Nat → Int32) × (Nat → Int32) × (Nat → Int32) × (Nat → Int32)
def pF (nb : Nat → Nat → Option Nat) (w : Nat → Int32) (s : PT) (c : Nat) : BS := bF nb w s.1 64 0 ((upd s.2.1 c (nI s.1), upd s.2.2.2.2 0 (nI c), 1), upd s.2.2.1 s.1 0, upd s.2.2.2.1 s.1 0)
def pS (nb : Nat → Nat → Option Nat) (w : Nat → Int32) (s : PT) (c : Nat) : PT := if 0 < w c ∧ s.2.1 c = -1 then (s.1 + 1, (pF nb w s c).1.1, (pF nb w s c).2.1, (pF nb w s c).2.2, (pF nb w s c).1.2.1) else s
def pN (nb : Nat → Nat → Option Nat) (w : Nat → Int32) (s : PT) : Nat → PT
  | 0 => s
  | i + 1 => pS nb w (pN nb w s i) i
theorem pS_0 {nb : Nat → Nat → Option Nat} {w : Nat → Int32} {s : PT} {c : Nat} (h : ¬ (0 < w c ∧ s.2.1 c = -1)) : pS nb w s c = s := if_neg h
theorem pS_1 {nb : Nat → Nat → Option Nat} {w : Nat → Int32} {s : PT} {c : Nat} (h : 0 < w c) (h2 : s.2.1 c = -1) : pS nb w s c = (s.1 + 1, (pF nb w s c).1.1, (pF nb w s c).2.1, (pF nb w s c).2.2, (pF nb w s c).1.2.1) := if_pos ⟨h, h2⟩
theorem pN_le {nb : Nat → Nat → Option Nat} {w : Nat → Int32} {s : PT} (h : s.1 = 0) : ∀ i, (pN nb w s i).1 ≤ i
  | 0 => by show s.1 ≤ 0; omega
  | i + 1 => by
    have ih := pN_le (nb := nb) (w := w) h i
    show (pS nb w (pN nb w s i) i).1 ≤ i + 1
    unfold pS
    split
    · show (pN nb w s i).1 + 1 ≤ i + 1; omega
    · omega
/-- the search for ways: steps, queue, how many are queued -/
def wD (nb : Nat → Nat → Option Nat) (w : Nat → Int32) (h : Int32) (q d : Nat) (x : BT) : BT := match nb q d with
  | none => x
  | some o => if x.1 o = -1 ∧ w o ≤ h ∧ x.2.2 < 64 then (upd x.1 o (x.1 q + 1), upd x.2.1 x.2.2 (nI o), x.2.2 + 1) else x
def wN (nb : Nat → Nat → Option Nat) (w : Nat → Int32) (h : Int32) (q : Nat) (x : BT) : Nat → BT
  | 0 => x
  | d + 1 => wD nb w h q d (wN nb w h q x d)
theorem wD_0 {nb : Nat → Nat → Option Nat} {w : Nat → Int32} {h : Int32} {q d : Nat} {x : BT} (hz : nb q d = none) : wD nb w h q d x = x := by unfold wD; rw [hz]
theorem wD_1 {nb : Nat → Nat → Option Nat} {w : Nat → Int32} {h : Int32} {q d o : Nat} {x : BT} (hz : nb q d = some o) (h2 : ¬ (x.1 o = -1 ∧ w o ≤ h ∧ x.2.2 < 64)) : wD nb w h q d x = x := by unfold wD; rw [hz]; exact if_neg h2
theorem wD_2 {nb : Nat → Nat → Option Nat} {w : Nat → Int32} {h : Int32} {q d o : Nat} {x : BT} (hz : nb q d = some o) (h1 : x.1 o = -1) (h2 : w o ≤ h) (h3 : x.2.2 < 64) : wD nb w h q d x = (upd x.1 o (x.1 q + 1), upd x.2.1 x.2.2 (nI o), x.2.2 + 1) := by unfold wD; rw [hz]; exact if_pos ⟨h1, h2, h3⟩
theorem wD_ok {nb : Nat → Nat → Option Nat} {w : Nat → Int32} {h : Int32} {q d n : Nat} {x : BT} (hn : ∀ c d k, nb c d = some k → k < n) (hx : bOK n x) : bOK n (wD nb w h q d x) := by
  cases hz : nb q d with
  | none => rw [wD_0 hz]; exact hx
  | some o =>
    by_cases h2 : x.1 o = -1 ∧ w o ≤ h ∧ x.2.2 < 64
    · rw [wD_2 hz h2.1 h2.2.1 h2.2.2]
      refine ⟨h2.2.2, fun i hi => ?_⟩
      have hi2 : i < x.2.2 + 1 := hi
      by_cases he : i = x.2.2
      · subst he
        exact ⟨o, hn q d o hz, by simp [upd]⟩
      · obtain ⟨q2, h3, h4⟩ := hx.2 i (by omega)
        exact ⟨q2, h3, by simp [upd, he, h4]⟩
    · rw [wD_1 hz h2]; exact hx
theorem wN_ok {nb : Nat → Nat → Option Nat} {w : Nat → Int32} {h : Int32} {q n : Nat} {x : BT} (hn : ∀ c d k, nb c d = some k → k < n) (hx : bOK n x) : ∀ d, bOK n (wN nb w h q x d)
  | 0 => hx
  | d + 1 => wD_ok hn (wN_ok hn hx d)
def wS (nb : Nat → Nat → Option Nat) (w : Nat → Int32) (h : Int32) (x : BT) (done : Nat) : BT := wN nb w h (x.2.1 done).toNatClampNeg x 4
def wF (nb : Nat → Nat → Option Nat) (w : Nat → Int32) (h : Int32) : Nat → Nat → BT → BT
  | 0, _, s => s
  | f + 1, done, s => if done < s.2.2 then wF nb w h f (done + 1) (wS nb w h s done) else s
theorem wF_go {nb : Nat → Nat → Option Nat} {w : Nat → Int32} {h : Int32} {done : Nat} {s : BT} (h1 : done < s.2.2) (h2 : done < 64) : wF nb w h (64 - (done + 1)) (done + 1) (wS nb w h s done) = wF nb w h (64 - done) done s := by
  obtain ⟨f, hf⟩ : ∃ f, 64 - done = f + 1 := ⟨64 - done - 1, by omega⟩
  rw [hf, show 64 - (done + 1) = f by omega]
  exact (if_pos h1).symm
theorem wF_no {nb : Nat → Nat → Option Nat} {w : Nat → Int32} {h : Int32} {done : Nat} {s : BT} (h1 : ¬ done < s.2.2) : wF nb w h (64 - done) done s = s := by
  cases 64 - done with
  | zero => rfl
  | succ f => exact if_neg h1
theorem wF_end {nb : Nat → Nat → Option Nat} {w : Nat → Int32} {h : Int32} {done : Nat} {s : BT} (h1 : 64 ≤ done) : wF nb w h (64 - done) done s = s := by
  rw [show 64 - done = 0 by omega]; rfl
def lkH : Nat → Nat → Nat := fun _ i => 2 + i
theorem pm1_x {A0 Z : Nat → Nat → Int32} {M0 : Mem} {g : Nat} (h : g ≠ 0) : setm (m1 A0 M0) g Z = m1 A0 (setm M0 g Z) := by
  funext j
  unfold setm m1
  by_cases h1 : j = g
  · subst h1; simp [h]
  · simp [h1]
section RQ2
variable {p : Program} {l : Launch} {e : Env} {R : Room} {s : State} {m : MethodId} {args : Array Value} {below : List Frame} {meth : Method} {c : Code} {G : GT} {Y : LV} {nL : Nat} {Q : State → Prop} {M : Mem} {k n pc : Nat} {L : List (Option AV)} {S : List AV} {cc : ByteArray} {own : String} {ret : Option FieldType}
theorem q_aalS (E : EN p s m args meth c G Y cc own nL ret) {j t N i : Nat} {x : Int32} (hd : decode cc pc = .ok (.aaload, 1)) (ha : ae (kdY Y j) t = some (4, N)) (hj : okb Y j t = true) (hN : N ≤ 4096) (hx : x = nI i) (hi : i < N) (kk : WM p l e R s m args below meth c G Y nL Q M k n (pc + 1) L (rv (Y.2.1 j (min i 7)) 0 :: S)) : WM p l e R s m args below meth c G Y nL Q M k n pc L (iv x :: rv j t :: S) := by
  intro H locs ls hP hS hl
  obtain ⟨hx0, hb, hml, hown, hts, hr, hlk, ⟨hnw, hK, hX⟩, hD⟩ := E
  obtain ⟨q0, hq, hw⟩ := wl_at (G := G) (M := M) (okb_ok hj)
  rw [ar_ce ha] at hw
  refine va_aldq (D := G.1) (C := "PuddleCity$State") hx0 hb hK hP q0 4 hw rfl (vp_nI hx hi hN) hd ?_
  rw [cl_nI hx hi hN]
  exact kk H locs ls hP hS hl
theorem q_aalN (E : EN p s m args meth c G Y cc own nL ret) {j t N i : Nat} {x : Int32} (hd : decode cc pc = .ok (.aaload, 1)) (ha : ae (kdY Y j) t = some (5, N)) (hj : okb Y j t = true) (hN : N ≤ 4096) (hx : x = nI i) (hi : i < N) (kk : WM p l e R s m args below meth c G Y nL Q M k n (pc + 1) L (rv j (8 + i) :: S)) : WM p l e R s m args below meth c G Y nL Q M k n pc L (iv x :: rv j t :: S) := by
  intro H locs ls hP hS hl
  obtain ⟨hx0, hb, hml, hown, hts, hr, hlk, ⟨hnw, hK, hX⟩, hD⟩ := E
  obtain ⟨q0, hq, hw⟩ := wl_at (G := G) (M := M) (okb_ok hj)
  rw [ar_ce ha] at hw
  have hin := vp_nI hx hi hN
  have hlt : x.toNatClampNeg < N := Nat.not_le.mp fun q => hin (Or.inr q)
  refine W.aald (v := .ref (Y.2.2 j (8 + i))) (ty := .array .byte) hx0 hb (hP q0 _ hw) ((hK.2 5 _ rfl).1 N (fun z => va_rf (rr Y 5 j z (M j t z)))) rfl (fun q => by cases q) (by show ¬ (x < 0 ∨ (arrV _ _ _).slots.size ≤ _); rw [arrV_size]; exact hin) (by show (arrV _ _ _).slots[_]? = _; rw [arrV_read _ _ hlt, cl_nI hx hi hN]; rfl) rfl rfl hd (kk H locs ls hP hS hl)
theorem r_ifnull (E : EN p s m args meth c G Y cc own nL ret) {j t : Nat} {off : Int} (hd : decode cc pc = .ok (.ifnull off, 3)) (kk : WM p l e R s m args below meth c G Y nL Q M k n (pc + 3) L S) : WM p l e R s m args below meth c G Y nL Q M k n pc L (rv j t :: S) := fun H locs ls hP hS hl => lv_ifnull E.1 E.2.1 hd (kk H locs ls hP hS hl)
theorem r_ifnonnull (E : EN p s m args meth c G Y cc own nL ret) {j t : Nat} {off : Int} {tgt : Nat} (hd : decode cc pc = .ok (.ifnonnull off, 3)) (ht : (pc : Int) + off = (tgt : Int)) (kk : WM p l e R s m args below meth c G Y nL Q M k n tgt L S) : WM p l e R s m args below meth c G Y nL Q M k n pc L (rv j t :: S) := fun H locs ls hP hS hl => lv_ifnonnull E.1 E.2.1 hd ht (kk H locs ls hP hS hl)
end RQ2
theorem rem8 {a : Nat} (h : a < 100) : nI a - nI a / 8 * 8 = nI (a % 8) := by rw [show (8 : Int32) = nI 8 from rfl]; exact pk_rem (by omega) (by omega) (by omega)
/-! reading a plan: the text's place, kind, start, value, fault, fault's place -/
abbrev TT : Type := Nat × Int32 × Int32 × Int32 × Int32 × Int32
def tNx (b : Nat → Int32) (n : Nat) (t : TT) : TT := (tP b n t.1, tK b n t.1, nI (tS b n t.1), tV b n t.1 t.2.2.2.1, t.2.2.2.2.1, t.2.2.2.2.2)
def tFl (c : Int32) (t : TT) : TT := (t.1, t.2.1, t.2.2.1, t.2.2.2.1, c, t.2.2.1)
def tTk (C : Int32) (b : Nat → Int32) (n : Nat) (t : TT) : TT := (tP b n t.1, tK b n t.1, nI (tS b n t.1), tV b n t.1 t.2.2.2.1, feI C t.2.2.2.2.1 C, feI C t.2.2.2.2.2 (nI (tS b n t.1)))
theorem fe_n {c : Int32} (h : feI c 1 0 ≠ 0) : c = 0 := by
  by_cases hc : c = 0
  · exact hc
  · exact absurd (if_neg hc) h
theorem fe_z {c : Int32} (h : feI c 1 0 = 0) : c ≠ 0 := by
  intro hc
  subst hc
  exact absurd h (by decide)
/-- taking a semicolon at the statement's end: the answer, the text -/
def tSm (b : Nat → Int32) (n : Nat) (t : TT) : Int32 × TT := (feI (tsC b n t.1) 1 0, tTk (tsC b n t.1) b n t)
/-- rain: the answer, the text, the first rain -/
def rRn (b : Nat → Int32) (n : Nat) (t : TT) (fr : Int32) : (Int32 × TT) × Int32 :=
  if tnC b n t.1 t.2.2.2.1 0 9 = 0 then (tSm b n (tTk 0 b n t), tV b n t.1 t.2.2.2.1) else ((0, tTk (tnC b n t.1 t.2.2.2.1 0 9) b n t), fr)
/-- a gutter: the answer, the text, the gutters -/
def rGt2 (b : Nat → Int32) (n : Nat) (t : TT) (c : Nat) (gu : Nat → Int32) : (Int32 × TT) × (Nat → Int32) :=
  if tnC b n t.1 t.2.2.2.1 1 9 = 0 then (tSm b n (tTk 0 b n t), upd gu c (tV b n t.1 t.2.2.2.1)) else ((0, tTk (tnC b n t.1 t.2.2.2.1 1 9) b n t), gu)
def rGt (b : Nat → Int32) (n : Nat) (t : TT) (z : Nat) (gu : Nat → Int32) : (Int32 × TT) × (Nat → Int32) :=
  if tnC b n t.1 t.2.2.2.1 0 (nI z - 1) = 0 then rGt2 b n (tTk 0 b n t) (tV b n t.1 t.2.2.2.1).toNatClampNeg gu else ((0, tTk (tnC b n t.1 t.2.2.2.1 0 (nI z - 1)) b n t), gu)
theorem nI_ex {x : Int32} {z : Nat} (hz : z < 2 ^ 30) (h0 : 0 ≤ x) (h1 : x ≤ nI z - 1) : ∃ q, q < z ∧ x = nI q := by
  obtain ⟨j, hj, rfl⟩ := nI_of (Int32.not_lt.mpr h0)
  refine ⟨j, ?_, rfl⟩
  cases z with
  | zero => exact absurd (Int32.lt_of_le_of_lt h1 (by decide)) (nI_pos hj)
  | succ k =>
    rw [nI_pred k] at h1
    have := (nI_leI hj (by omega)).mp h1
    omega
theorem tnC_in {b : Nat → Int32} {n p : Nat} {va lo hi : Int32} (h : tnC b n p va lo hi = 0) : lo ≤ tV b n p va ∧ tV b n p va ≤ hi := by
  unfold tnC at h
  by_cases h1 : tK b n p = 2
  · rw [if_pos h1] at h
    by_cases h2 : tV b n p va < lo
    · rw [if_pos h2] at h; exact absurd h (by decide)
    · rw [if_neg h2] at h
      by_cases h3 : hi < tV b n p va
      · rw [if_pos h3] at h; exact absurd h (by decide)
      · exact ⟨Int32.not_lt.mp h2, Int32.not_lt.mp h3⟩
  · rw [if_neg h1] at h; exact absurd h (by decide)
theorem fe_b {c : Int32} : narrow .boolean (.int (feI c 1 0)) = .int (feI c 1 0) := by
  unfold feI
  by_cases h : c = 0
  · rw [if_pos h]; rfl
  · rw [if_neg h]; rfl
/-! the neighbours in a grid -/
def gN (u v r c k : Nat) : Nat → Option Nat
  | 0 => if 0 < r then some (k - v) else none
  | 1 => if c + 1 < v then some (k + 1) else none
  | 2 => if r + 1 < u then some (k + v) else none
  | _ => if 0 < c then some (k - 1) else none
def gnb (u v k d : Nat) : Option Nat := if k < u * v then gN u v (k / v) (k % v) k d else none
def gB (u v x : Nat) : Int32 := oI (gnb u v (x / 4) (x % 4))
theorem gnb_rc {u v r c : Nat} (hr : r < u) (hc : c < v) (d : Nat) : gnb u v (r * v + c) d = gN u v r c (r * v + c) d := by
  have h1 : (r + 1) * v ≤ u * v := Nat.mul_le_mul_right v hr
  rw [Nat.succ_mul] at h1
  unfold gnb
  rw [if_pos (by omega), Nat.mul_comm r v, Nat.mul_add_div (by omega), Nat.div_eq_of_lt hc, Nat.mul_add_mod, Nat.mod_eq_of_lt hc, Nat.add_zero]
theorem gB_K {u v r c K d : Nat} (hK : K = r * v + c) (hr : r < u) (hc : c < v) (hd : d < 4) : gB u v (K * 4 + d) = oI (gN u v r c K d) := by
  unfold gB
  rw [show (K * 4 + d) / 4 = K by omega, show (K * 4 + d) % 4 = d by omega, hK, gnb_rc hr hc]
theorem gnb_lt {u v : Nat} : ∀ k d o, gnb u v k d = some o → o < u * v := by
  intro k d o h
  unfold gnb at h
  by_cases hk : k < u * v
  · rw [if_pos hk] at h
    have hv : 0 < v := Nat.pos_of_ne_zero fun q => by subst q; simp at hk
    have hd := Nat.div_add_mod k v
    have hm := Nat.mod_lt k hv
    have hr : k / v < u := Nat.div_lt_of_lt_mul (by rw [Nat.mul_comm]; exact hk)
    generalize k / v = r at h hd hr
    generalize k % v = c at h hd hm
    have h1 : (r + 1) * v ≤ u * v := Nat.mul_le_mul_right v hr
    rw [Nat.succ_mul, Nat.mul_comm r v] at h1
    match d with
    | 0 =>
      simp only [gN] at h
      split at h
      · cases h; omega
      · cases h
    | 1 =>
      simp only [gN] at h
      split at h
      · cases h; omega
      · cases h
    | 2 =>
      simp only [gN] at h
      split at h
      · rename_i h3
        have h2 : (r + 2) * v ≤ u * v := Nat.mul_le_mul_right v h3
        rw [Nat.add_mul, Nat.mul_comm r v] at h2
        cases h; omega
      · cases h
    | (e + 3) =>
      simp only [gN] at h
      split at h
      · cases h; omega
      · cases h
  · rw [if_neg hk] at h; cases h
theorem pk_m4 {a : Nat} : nI a * 4 = nI (a * 4) := pk_mul a 4
theorem nI_sb {a b : Nat} (h : b ≤ a) : nI a - nI b = nI (a - b) := by
  rw [show nI a = nI (a - b) + nI b by rw [nI_add]; congr 1; omega]
  exact Int32.add_sub_cancel _ _
theorem gx {P : Prop} [Decidable P] {a : Nat} (h : P) : oI (if P then some a else none) = nI a := by rw [if_pos h]; rfl
theorem gy {P : Prop} [Decidable P] {a : Nat} (h : ¬ P) : oI (if P then some a else none) = -1 := by rw [if_neg h]; rfl
theorem gB4 {u v r c K : Nat} {f : Nat → Int32} {x0 x1 x2 x3 : Int32} (hK : K = r * v + c) (hr : r < u) (hc : c < v) (h0 : x0 = oI (gN u v r c K 0)) (h1 : x1 = oI (gN u v r c K 1)) (h2 : x2 = oI (gN u v r c K 2)) (h3 : x3 = oI (gN u v r c K 3)) :
    fil (gB u v) f ((r * v + (c + 1)) * 4) = upd (upd (upd (upd (fil (gB u v) f (K * 4)) (K * 4) x0) (K * 4 + 1) x1) (K * 4 + 2) x2) (K * 4 + 3) x3 := by
  have e0 : x0 = gB u v (K * 4) := h0.trans (gB_K (d := 0) hK hr hc (by decide)).symm
  rw [fil_upd e0, fil_upd (h1.trans (gB_K (d := 1) hK hr hc (by decide)).symm), fil_upd (h2.trans (gB_K (d := 2) hK hr hc (by decide)).symm), fil_upd (h3.trans (gB_K (d := 3) hK hr hc (by decide)).symm)]
  congr 1
  omega
theorem pz {i : Nat} (h : ¬ nI i ≤ 0) : 0 < i := Nat.pos_of_ne_zero fun q => by subst q; exact h (by decide)
section
variable {b : Nat → Int32} {n p z : Nat} {ki st va ec eo : Int32} {gu : Nat → Int32}
theorem rGt_0 (h : tnC b n p va 0 (nI z - 1) ≠ 0) : rGt b n (p, ki, st, va, ec, eo) z gu = ((0, tTk (tnC b n p va 0 (nI z - 1)) b n (p, ki, st, va, ec, eo)), gu) := if_neg h
theorem rGt_1 (h : tnC b n p va 0 (nI z - 1) = 0) (h2 : tnC b n (tP b n p) (tV b n p va) 1 9 ≠ 0) : rGt b n (p, ki, st, va, ec, eo) z gu = ((0, tTk (tnC b n (tP b n p) (tV b n p va) 1 9) b n (tTk 0 b n (p, ki, st, va, ec, eo))), gu) := (if_pos h).trans (if_neg h2)
theorem rGt_2 {q : Nat} (h : tnC b n p va 0 (nI z - 1) = 0) (hq : tV b n p va = nI q) (hq2 : q < 64) (h2 : tnC b n (tP b n p) (tV b n p va) 1 9 = 0) : rGt b n (p, ki, st, va, ec, eo) z gu = (tSm b n (tTk 0 b n (tTk 0 b n (p, ki, st, va, ec, eo))), upd gu q (tV b n (tP b n p) (tV b n p va))) := by
  have e : rGt b n (p, ki, st, va, ec, eo) z gu = (tSm b n (tTk 0 b n (tTk 0 b n (p, ki, st, va, ec, eo))), upd gu (tV b n p va).toNatClampNeg (tV b n (tP b n p) (tV b n p va))) := (if_pos h).trans (if_pos h2)
  rw [e, show (tV b n p va).toNatClampNeg = q by rw [hq, nI_clamp (by omega)]]
end
/-! a row of heights -/
abbrev RW : Type := Nat × Nat × (Nat → Int32) × TT
def rwF (b : Nat → Int32) (n z lea : Nat) : Nat → Nat → (Nat → Int32) → TT → RW
  | 0, c, he, t => (2, c, he, t)
  | f + 1, c, he, t => if tK b n t.1 = 3 ∧ lea ≤ c then (1, c, he, tNx b n t) else if tK b n t.1 ≠ 2 then (0, c, he, tFl 1 (tNx b n t)) else if 9 < tV b n t.1 t.2.2.2.1 then (0, c, he, tFl 2 (tNx b n t)) else rwF b n z lea f (c + 1) (upd he (z + c) (tV b n t.1 t.2.2.2.1)) (tNx b n t)
section
variable {b : Nat → Int32} {n z lea mo c : Nat} {he : Nat → Int32} {t : TT}
theorem rwF_1 (h : c < mo) (h3 : tK b n t.1 = 3) (hl : lea ≤ c) : rwF b n z lea (mo - c) c he t = (1, c, he, tNx b n t) := by
  obtain ⟨f, hf⟩ : ∃ f, mo - c = f + 1 := ⟨mo - c - 1, by omega⟩
  rw [hf]; exact if_pos ⟨h3, hl⟩
theorem rwF_2 (h : c < mo) (h3 : ¬ (tK b n t.1 = 3 ∧ lea ≤ c)) (h2 : tK b n t.1 ≠ 2) : rwF b n z lea (mo - c) c he t = (0, c, he, tFl 1 (tNx b n t)) := by
  obtain ⟨f, hf⟩ : ∃ f, mo - c = f + 1 := ⟨mo - c - 1, by omega⟩
  rw [hf]; exact (if_neg h3).trans (if_pos h2)
theorem rwF_3 (h : c < mo) (h2 : tK b n t.1 = 2) (h9 : 9 < tV b n t.1 t.2.2.2.1) : rwF b n z lea (mo - c) c he t = (0, c, he, tFl 2 (tNx b n t)) := by
  obtain ⟨f, hf⟩ : ∃ f, mo - c = f + 1 := ⟨mo - c - 1, by omega⟩
  rw [hf]; exact (if_neg (fun q => absurd (h2.symm.trans q.1) (by decide))).trans ((if_neg (fun q => q h2)).trans (if_pos h9))
theorem rwF_go (h : c < mo) (h2 : tK b n t.1 = 2) (h9 : ¬ 9 < tV b n t.1 t.2.2.2.1) : rwF b n z lea (mo - (c + 1)) (c + 1) (upd he (z + c) (tV b n t.1 t.2.2.2.1)) (tNx b n t) = rwF b n z lea (mo - c) c he t := by
  obtain ⟨f, hf⟩ : ∃ f, mo - c = f + 1 := ⟨mo - c - 1, by omega⟩
  rw [hf, show mo - (c + 1) = f by omega]; exact ((if_neg (fun q => absurd (h2.symm.trans q.1) (by decide))).trans ((if_neg (fun q => q h2)).trans (if_neg h9))).symm
theorem rwF_no (h : mo ≤ c) : rwF b n z lea (mo - c) c he t = (2, c, he, t) := by rw [show mo - c = 0 by omega]; rfl
end
/-- a row: the answer, the text, the heights, how many rows, columns, cells -/
def rRw (b : Nat → Int32) (n : Nat) (t : TT) (u v z lea mo : Nat) (he : Nat → Int32) : (Int32 × TT) × (Nat → Int32) × Nat × Nat × Nat :=
  if 8 ≤ u then ((0, tFl 4 t), he, (u, v, z)) else
    match rwF b n z lea mo 0 he t with
    | (1, c, he2, t2) => ((1, t2), he2, (u + 1, c, (u + 1) * c))
    | (2, _, he2, t2) => (tSm b n t2, he2, (u + 1, mo, (u + 1) * mo))
    | (_, _, he2, t2) => ((0, t2), he2, (u, v, z))
section
variable {b : Nat → Int32} {n u v z lea mo c : Nat} {he he2 : Nat → Int32} {t t2 : TT}
theorem rRw_f (h : 8 ≤ u) : rRw b n t u v z lea mo he = ((0, tFl 4 t), he, (u, v, z)) := if_pos h
theorem rRw_0 (h : u < 8) (e : (0, c, he2, t2) = rwF b n z lea mo 0 he t) : rRw b n t u v z lea mo he = ((0, t2), he2, (u, v, z)) := by
  unfold rRw; rw [if_neg (by omega), ← e]; rfl
theorem rRw_1 (h : u < 8) (e : (1, c, he2, t2) = rwF b n z lea mo 0 he t) : rRw b n t u v z lea mo he = ((1, t2), he2, (u + 1, c, (u + 1) * c)) := by
  unfold rRw; rw [if_neg (by omega), ← e]; rfl
theorem rRw_2 (h : u < 8) (e : (2, c, he2, t2) = rwF b n z lea mo 0 he t) : rRw b n t u v z lea mo he = (tSm b n t2, he2, (u + 1, mo, (u + 1) * mo)) := by
  unfold rRw; rw [if_neg (by omega), ← e]; rfl
end
theorem imin_l {a b : Nat} (h : a ≤ b) (hb : b < 2 ^ 31) : imin (nI a) (nI b) = nI a := if_neg (nI_nlt h hb)
/-- the token is the name f of L letters -/
def isN (b : Nat → Int32) (s P : Nat) (f : Nat → Int32) (L : Nat) : Int32 := if P - s = L ∧ L ≤ 6 ∧ ∀ i, i < L → b (s + i) = f i then 1 else 0
def rw4 (n0 n1 n2 n3 : Nat → Int32) (k : Nat) : Nat → Int32 := if k = 0 then n0 else if k = 1 then n1 else if k = 2 then n2 else n3
/-- the first i whose g isn't 0, or -1 -/
def nmS (g : Nat → Int32) : Nat → Nat → Int32
  | 0, _ => -1
  | f + 1, i => if g i = 0 then nmS g f (i + 1) else nI i
theorem nmS_go {g : Nat → Int32} {N i : Nat} (h : i < N) (h0 : g i = 0) : nmS g (N - (i + 1)) (i + 1) = nmS g (N - i) i := by
  obtain ⟨f, hf⟩ : ∃ f, N - i = f + 1 := ⟨N - i - 1, by omega⟩
  rw [hf, show N - (i + 1) = f by omega]; exact (if_pos h0).symm
theorem nmS_hit {g : Nat → Int32} {N i : Nat} (h : i < N) (h0 : g i ≠ 0) : nmS g (N - i) i = nI i := by
  obtain ⟨f, hf⟩ : ∃ f, N - i = f + 1 := ⟨N - i - 1, by omega⟩
  rw [hf]; exact if_neg h0
theorem nmS_no {g : Nat → Int32} {N : Nat} : nmS g (N - N) N = -1 := by rw [Nat.sub_self]; rfl
/-- is the token the name of boots i? -/
def gNm (bs : Nat → Int32) (s P : Nat) (n0 n1 n2 n3 : Nat → Int32) (nlN : Nat → Nat) (i : Nat) : Int32 := isN bs s P (rw4 n0 n1 n2 n3 i) (nlN i)
theorem tmC_in {b : Nat → Int32} {n p : Nat} (h : tmC b n p = 0) : tP b n p - tS b n p ≤ 6 := by
  unfold tmC at h
  by_cases h1 : tK b n p = 1
  · rw [if_pos h1] at h
    by_cases h2 : tP b n p - tS b n p ≤ 6
    · exact h2
    · rw [if_neg h2] at h; exact absurd h (by decide)
  · rw [if_neg h1] at h; exact absurd h (by decide)
/-- boots as read: how many, names' lengths, places, heights, names -/
abbrev BB : Type := Nat × (Nat → Int32) × (Nat → Int32) × (Nat → Int32) × (Nat → Nat → Int32)
/-- the name of the token goes to row k -/
def cpR (b : Nat → Int32) (s P k : Nat) (r : Nat → Nat → Int32) (j : Nat) : Nat → Int32 := if k = j then va_cpy b (r j) s 0 (P - s) else r j
def rBt (b : Nat → Int32) (n : Nat) (t : TT) (z : Nat) (nlN : Nat → Nat) : BB → (Int32 × TT) × BB
  | (k, nl, fp, bh, r) =>
    if 4 ≤ k then ((0, tFl 4 t), (k, nl, fp, bh, r)) else
    if tmC b n t.1 ≠ 0 then ((0, tTk (tmC b n t.1) b n t), (k, nl, fp, bh, r)) else
    if nmS (fun i => isN b (tS b n t.1) (tP b n t.1) (r i) (nlN i)) k 0 ≠ -1 then ((0, tFl 3 (tTk 0 b n t)), (k, nl, fp, bh, r)) else
    if tnC b n (tTk 0 b n t).1 (tTk 0 b n t).2.2.2.1 0 (nI z - 1) ≠ 0 then ((0, tTk (tnC b n (tTk 0 b n t).1 (tTk 0 b n t).2.2.2.1 0 (nI z - 1)) b n (tTk 0 b n t)), (k, upd nl k (nI (tP b n t.1 - tS b n t.1)), fp, bh, cpR b (tS b n t.1) (tP b n t.1) k r)) else
    if tnC b n (tTk 0 b n (tTk 0 b n t)).1 (tTk 0 b n (tTk 0 b n t)).2.2.2.1 1 9 ≠ 0 then ((0, tTk (tnC b n (tTk 0 b n (tTk 0 b n t)).1 (tTk 0 b n (tTk 0 b n t)).2.2.2.1 1 9) b n (tTk 0 b n (tTk 0 b n t))), (k, upd nl k (nI (tP b n t.1 - tS b n t.1)), upd fp k (tTk 0 b n (tTk 0 b n t)).2.2.2.1, bh, cpR b (tS b n t.1) (tP b n t.1) k r)) else
    (tSm b n (tTk 0 b n (tTk 0 b n (tTk 0 b n t))), (k + 1, upd nl k (nI (tP b n t.1 - tS b n t.1)), upd fp k (tTk 0 b n (tTk 0 b n t)).2.2.2.1, upd bh k (tTk 0 b n (tTk 0 b n (tTk 0 b n t))).2.2.2.1, cpR b (tS b n t.1) (tP b n t.1) k r))
/-! a whole plan, as read -/
/-- is the token (of kind ki, from s to P) the word w? -/
def isW (b : Nat → Int32) (ki : Int32) (s P : Nat) (w : List Int32) : Int32 := if ki = 1 ∧ P - s = w.length ∧ ∀ i, i < w.length → b (s + i) = w.getD i 0 then 1 else 0
/-- rows, columns, cells; heights; gutters; first rain; boots -/
abbrev PP : Type := (Nat × Nat × Nat) × (Nat → Int32) × (Nat → Int32) × Int32 × BB
def tW (b : Nat → Int32) (t : TT) (w : List Int32) : Int32 := isW b t.2.1 t.2.2.1.toNatClampNeg t.1 w
def wRow : List Int32 := [114, 111, 119]
def wGutter : List Int32 := [103, 117, 116, 116, 101, 114]
def wBoots : List Int32 := [98, 111, 111, 116, 115]
def wRain : List Int32 := [114, 97, 105, 110]
def leO (u v : Nat) : Nat := if u = 0 then 2 else v
def moO (u v : Nat) : Nat := if u = 0 then 8 else v
def rSt (b : Nat → Int32) (n : Nat) (t : TT) : PP → (Int32 × TT) × PP
  | ((u, v, z), he, gu, fr, bb) =>
    if tW b t wRow = 1 then ((rRw b n t u v z (leO u v) (moO u v) he).1, ((rRw b n t u v z (leO u v) (moO u v) he).2.2, (rRw b n t u v z (leO u v) (moO u v) he).2.1, gu, fr, bb))
    else if tW b t wGutter = 1 then ((rGt b n t z gu).1, ((u, v, z), he, (rGt b n t z gu).2, fr, bb))
    else if tW b t wBoots = 1 then ((rBt b n t z (fun i => (bb.2.1 i).toNatClampNeg) bb).1, ((u, v, z), he, gu, fr, (rBt b n t z (fun i => (bb.2.1 i).toNatClampNeg) bb).2))
    else if tW b t wRain = 1 then ((rRn b n t fr).1, ((u, v, z), he, gu, (rRn b n t fr).2, bb))
    else ((0, tFl 1 t), ((u, v, z), he, gu, fr, bb))
/-- statement after statement, to the text's end -/
def rSs (b : Nat → Int32) (n : Nat) : Nat → TT → PP → (Int32 × TT) × PP
  | 0, t, x => ((1, t), x)
  | f + 1, t, x => if t.2.1 = 0 then ((1, t), x) else if (rSt b n t x).1.1 = 0 then rSt b n t x else rSs b n f (tNx b n (rSt b n t x).1.2) (rSt b n t x).2
/-- the whole text: rewind, next, the statements, two rows or more -/
def rFr (b : Nat → Int32) (n : Nat) (t : TT) (bb : BB) (he : Nat → Int32) : (Int32 × TT) × PP :=
  let y := rSs b n 600 (tNx b n (0, t.2.1, t.2.2.1, t.2.2.2.1, 0, -1)) ((0, 0, 0), he, (fun _ => 0), 0, (0, bb.2))
  if y.1.1 = 0 then y else if y.2.1.1 < 2 then ((0, tFl 5 y.1.2), y.2) else y
section
variable {b : Nat → Int32} {n : Nat}
theorem tK_lt {p : Nat} (hp : p ≤ n) (h : tK b n p ≠ 0) : p < tP b n p := by
  have h1 := tS_le (b := b) hp
  by_cases h2 : n ≤ tS b n p
  · exact absurd (if_pos h2) h
  · have h3 : tS b n p < n := by omega
    unfold tP
    rw [if_neg h2]
    split
    · rename_i hl
      have := scan_lt (P := cL) (b := b) h3 hl
      omega
    · split
      · rename_i hd
        have := scan_lt (P := cD) (b := b) h3 hd
        omega
      · omega
theorem tSm_lt {t : TT} (hp : t.1 ≤ n) (h : (tSm b n t).1 ≠ 0) : t.1 < (tSm b n t).2.1 := by
  have h1 : tsC b n t.1 = 0 := fe_n h
  refine tK_lt hp fun q => ?_
  unfold tsC at h1
  rw [if_neg (by rw [q]; decide)] at h1
  exact absurd h1 (by decide)
end
theorem op_b {x : Int32} : narrow .boolean (.int (opI x)) = .int (opI x) := by
  unfold opI
  by_cases h : x ≤ 0
  · rw [if_pos h]; rfl
  · rw [if_neg h]; rfl
