/-! the law's puddles: marks by cells -/
section RL4
variable {p : Program} {l : Launch} {e : Env} {R : Room} {s : State} {m : MethodId} {args : Array Value} {below : List Frame} {meth : Method} {c : Code} {G : GT} {Y : LV} {nL : Nat} {Q : State → Prop} {M : Mem} {k n pc : Nat} {L : List (Option AV)} {S : List AV} {cc : ByteArray} {own : String} {ret : Option FieldType}
theorem r_ldcI (E : EN p s m args meth c G Y cc own nL ret) {idx : Nat} {v : Int32} (hw : Cond.constant own idx v ∈ BIG) (hd : decode cc pc = .ok (.ldc idx, 2)) (kk : WM p l e R s m args below meth c G Y nL Q M k n (pc + 2) L (iv v :: S)) : WM p l e R s m args below meth c G Y nL Q M k n pc L S := fun H locs ls hP hS hl => lv_ldc E.1 E.2.1 E.2.2.2.1 (E.2.2.2.2.1 _ hw) hd (kk H locs ls hP hS hl)
end RL4
theorem cn_L_123 : Cond.constant "PuddleCityLaw" 123 100000 ∈ BIG := bg_4 170 (by decide +kernel)
/-- marks over a content -/
def LK (B : Nat → Nat → Int32) (x : PP) (mk : Nat → Int32) : Nat → Nat → Int32 := fun t k => if (62 ≤ t ∧ t < 69) ∧ inC x (t - 62) k then mk (clC x (t - 62) k) else B t k
theorem LK_in {B : Nat → Nat → Int32} {x : PP} {mk : Nat → Int32} {r c : Nat} (hr : r < 7) (h : inC x r c) : LK B x mk (20 + 7 * 6 + r) c = mk (clC x r c) := by
  unfold LK
  rw [show 20 + 7 * 6 + r - 62 = r by omega, if_pos ⟨by omega, h⟩]
theorem LK_lo {B : Nat → Nat → Int32} {x : PP} {mk : Nat → Int32} {t k : Nat} (h : t < 62) : LK B x mk t k = B t k := by
  unfold LK
  exact if_neg (fun q => by have := q.1; omega)
theorem LK_W {B : Nat → Nat → Int32} {x : PP} {mk : Nat → Int32} (h : WLi B x) : WLi (LK B x mk) x := fun r c hr hc hn => by
  rw [LK_lo (by omega), LK_lo (by omega)]
  exact h r c hr hc hn
theorem LK_R {B : Nat → Nat → Int32} {x : PP} {T : Nat → Nat → Int32} {mk : Nat → Int32} (hw : LWi x) (h : RTi B x T) : RTi (LK B x mk) x T := fun r c hin hz => by
  have := (LW_r hw hin).1
  rw [LK_lo (by omega)]
  exact h r c hin hz
theorem LK_s {B : Nat → Nat → Int32} {x : PP} {T : Nat → Nat → Int32} {mk : Nat → Int32} {r c : Nat} {v : Int32} (hr : r < 7) (hin : inC x r c) : sett (LE (LK B x mk) x T) (20 + 7 * 6 + r) (upd (LE (LK B x mk) x T (20 + 7 * 6 + r)) c v) = LE (LK B x (upd mk (clC x r c) v)) x T := by
  rw [LE_sB (Or.inr rfl) hr]
  refine congrArg (fun Z => LE Z x T) ?_
  funext t k
  by_cases ht : t = 20 + 7 * 6 + r
  · subst ht
    rw [sett_s]
    by_cases hk : k = c
    · subst hk
      rw [LK_in hr hin]
      exact (if_pos rfl).trans (if_pos rfl).symm
    · rw [show upd (LE (LK B x mk) x T (20 + 7 * 6 + r)) c v k = LE (LK B x mk) x T (20 + 7 * 6 + r) k from if_neg hk, LE_raw (Or.inr rfl) hr]
      unfold LK
      rw [show 20 + 7 * 6 + r - 62 = r by omega]
      by_cases h : (62 ≤ 20 + 7 * 6 + r ∧ 20 + 7 * 6 + r < 69) ∧ inC x r k
      · rw [if_pos h, if_pos h]
        exact (if_neg (fun q => hk (clC_inj h.2 hin q).2)).symm
      · rw [if_neg h, if_neg h]
  · rw [sett_n ht]
    unfold LK
    by_cases h : (62 ≤ t ∧ t < 69) ∧ inC x (t - 62) k
    · rw [if_pos h, if_pos h]
      refine (if_neg (fun q => ht ?_)).symm
      have := (clC_inj h.2 hin q).1
      have := h.1
      omega
    · rw [if_neg h, if_neg h]
/-- a mark: none, or a small number -/
def MKi (n : Nat) (mk : Nat → Int32) : Prop := ∀ e, e < n → mk e = -1 ∨ ∃ j : Nat, j < 64 ∧ mk e = nI j
theorem MK_0 {n : Nat} {mk : Nat → Int32} (h : MKi n mk) {e : Nat} (he : e < n) : mk e < 0 ↔ mk e = -1 := by
  rcases h e he with h1 | ⟨j, hj, h1⟩
  · rw [h1]; exact ⟨fun _ => rfl, fun _ => by decide⟩
  · rw [h1]
    exact ⟨fun q => absurd q (nI_pos (by omega)), fun q => absurd q (nI_m1 (by omega))⟩
def um (mk : Nat → Int32) (e : Nat) : Bool := decide (mk e = -1)
theorem um_1 {mk : Nat → Int32} {e : Nat} : um mk e = true ↔ mk e = -1 := decide_eq_true_iff
/-- what filling from cell c does to the marks -/
def FSp (x : PP) (w : Nat → Int32) (p : Nat → Nat) (c : Nat) (v : Int32) (m m' : Nat → Int32) : Prop :=
  (∀ e, e < x.1.2.2 → ¬ m e = -1 → m' e = m e) ∧ (∀ e, e < x.1.2.2 → m e = -1 → ¬ m' e = -1 → m' e = v ∧ 0 < w e ∧ p e = p c) ∧ (0 < w c → ¬ m' c = -1) ∧
  (∀ e, e < x.1.2.2 → m e = -1 → ¬ m' e = -1 → ∀ d o, d < 4 → nbx x e d = some o → 0 < w o → ¬ m' o = -1) ∧ (¬ 0 < w c → ∀ e, e < x.1.2.2 → m' e = m e)
/-- on the way: i of c's neighbours are done -/
def FIn (x : PP) (w : Nat → Int32) (p : Nat → Nat) (c : Nat) (v : Int32) (m : Nat → Int32) (i : Nat) (m' : Nat → Int32) : Prop :=
  MKi x.1.2.2 m' ∧ (∀ e, e < x.1.2.2 → ¬ m e = -1 → m' e = m e) ∧ m' c = v ∧ (∀ e, e < x.1.2.2 → m e = -1 → ¬ m' e = -1 → m' e = v ∧ 0 < w e ∧ p e = p c) ∧
  (∀ d o, d < i → nbx x c d = some o → 0 < w o → ¬ m' o = -1) ∧ (∀ e, e < x.1.2.2 → ¬ e = c → m e = -1 → ¬ m' e = -1 → ∀ d o, d < 4 → nbx x e d = some o → 0 < w o → ¬ m' o = -1)
section
variable {x : PP} {w : Nat → Int32} {p : Nat → Nat} {c : Nat} {v : Int32} {m m' m2 : Nat → Int32}
theorem v_ne {j : Nat} (hj : j < 64) : ¬ nI j = -1 := nI_m1 (by omega)
theorem FIn_0 {j : Nat} (hj : j < 64) (hm : MKi x.1.2.2 m) (hc : c < x.1.2.2) (h1 : m c = -1) (hw : 0 < w c) : FIn x w p c (nI j) m 0 (upd m c (nI j)) := by
  refine ⟨fun e he => ?_, fun e he h => ?_, upd_at, fun e he h h2 => ?_, fun d o hd => by omega, fun e he hne h h2 => ?_⟩
  · by_cases h : e = c
    · subst h; exact Or.inr ⟨j, hj, upd_at⟩
    · rw [upd_ne h]; exact hm e he
  · exact upd_ne (fun q => h (by rw [q]; exact h1))
  · by_cases h3 : e = c
    · subst h3; exact ⟨upd_at, hw, rfl⟩
    · rw [upd_ne h3] at h2; exact absurd h h2
  · rw [upd_ne hne] at h2; exact absurd h h2
theorem FIn_s {j i o : Nat} (hj : j < 64) (hlt : ∀ c d o, nbx x c d = some o → o < x.1.2.2) (hp : ∀ d o, d < 4 → nbx x c d = some o → 0 < w o → p o = p c) (hF : FIn x w p c (nI j) m i m') (hi : i < 4) (hn : nbx x c i = some o) (hm2 : MKi x.1.2.2 m2) (hS : FSp x w p o (nI j) m' m2) (hc : c < x.1.2.2) : FIn x w p c (nI j) m (i + 1) m2 := by
  obtain ⟨f0, f1, f2, f3, f4, f5⟩ := hF
  obtain ⟨s1, s2, s3, s4, s5⟩ := hS
  have hv := v_ne hj
  refine ⟨hm2, fun e he h => ?_, ?_, fun e he h h2 => ?_, fun d q hd hq hw => ?_, fun e he hne h h2 d q hd hq hw => ?_⟩
  · rw [s1 e he (by rw [f1 e he h]; exact h), f1 e he h]
  · rw [s1 c hc (by rw [f2]; exact hv), f2]
  · by_cases h3 : m' e = -1
    · obtain ⟨g1, g2, g3⟩ := s2 e he h3 h2
      refine ⟨g1, g2, ?_⟩
      by_cases hwo : 0 < w o
      · rw [g3, hp i o hi hn hwo]
      · exact absurd ((s5 hwo e he).trans h3) h2
    · rw [s1 e he h3]; exact f3 e he h h3
  · by_cases h3 : d = i
    · subst h3
      rw [hn] at hq
      cases hq
      exact s3 hw
    · have h4 := f4 d q (by omega) hq hw
      rw [s1 q (hlt _ _ _ hq) h4]; exact h4
  · by_cases h3 : m' e = -1
    · exact s4 e he h3 h2 d q hd hq hw
    · have h4 := f5 e he hne h h3 d q hd hq hw
      rw [s1 q (hlt _ _ _ hq) h4]; exact h4
theorem FIn_n {j i : Nat} (hF : FIn x w p c (nI j) m i m') (hn : nbx x c i = none) : FIn x w p c (nI j) m (i + 1) m' := by
  obtain ⟨f0, f1, f2, f3, f4, f5⟩ := hF
  refine ⟨f0, f1, f2, f3, fun d q hd hq hw => ?_, f5⟩
  by_cases h3 : d = i
  · subst h3
    rw [hn] at hq
    cases hq
  · exact f4 d q (by omega) hq hw
theorem FIn_4 {j : Nat} (hj : j < 64) (hw0 : 0 < w c) (hF : FIn x w p c (nI j) m 4 m') : FSp x w p c (nI j) m m' := by
  obtain ⟨f0, f1, f2, f3, f4, f5⟩ := hF
  refine ⟨f1, f3, fun _ => by rw [f2]; exact v_ne hj, fun e he h h2 d q hd hq hw => ?_, fun h => absurd hw0 h⟩
  by_cases h3 : e = c
  · subst h3; exact f4 d q hd hq hw
  · exact f5 e he h3 h h2 d q hd hq hw
theorem FSp_r {v : Int32} (h : ¬ 0 < w c ∨ ¬ m c = -1) : FSp x w p c v m m := ⟨fun _ _ _ => rfl, fun e _ h1 h2 => absurd h1 h2, fun hw => h.elim (fun q => absurd hw q) id, fun e _ h1 h2 => absurd h1 h2, fun _ _ _ => rfl⟩
/-- fewer cells are without a mark -/
theorem um_le : ∀ n, (∀ e, e < n → m' e = -1 → m e = -1) → kN (um m') n ≤ kN (um m) n
  | 0, _ => Nat.le_refl _
  | n + 1, h => by
    have ih := um_le n (fun e he => h e (by omega))
    have s1 := kN_s (um m) n
    have s2 := kN_s (um m') n
    by_cases h1 : um m' n = true
    · rw [kN_1 h1, kN_1 (um_1.mpr (h n (by omega) (um_1.mp h1)))]; omega
    · rw [kN_0 h1]; omega
theorem um_up {n j : Nat} (hj : j < 64) (hc : c < n) (h1 : m c = -1) : kN (um (upd m c (nI j))) n + 1 = kN (um m) n := by
  refine (kN_up (b := um (upd m c (nI j))) (b' := um m) (o := c) (fun q => v_ne hj ?_) (um_1.mpr h1) hc (fun e he hne => ?_)).symm
  · have := um_1.mp q
    rw [upd_at] at this
    exact this
  · unfold um
    rw [upd_ne hne]
end
/-- filling, with at most u cells unmarked -/
def FC (l : Launch) (G : GT) (B : Nat → Nat → Int32) (x : PP) (T : Nat → Nat → Int32) (p9 : Nat → Nat) (j9 u : Nat) : Prop := ∀ (mk : Nat → Int32) (r c : Nat) (M : Mem), M 0 = (LE (LK B x mk) x T) → MKi x.1.2.2 mk → r < 7 → c < 7 → kN (um mk) x.1.2.2 ≤ u → MC l G yL_fill cL_fill 5 none (({ frames := u + 1, cells := 0, slots := 0, locals := 24 * u + 20 } : Room)) [9] lk0 [rv 0 0, iv (nI r), iv (nI c), iv (nI j9)] M (fun r9 M2 => r9 = none ∧ ∃ m2, MKi x.1.2.2 m2 ∧ (¬ inC x r c → m2 = mk) ∧ (inC x r c → FSp x (T 1) p9 (clC x r c) (nI j9) mk m2) ∧ M2 = setm M 0 (LE (LK B x m2) x T))

set_option maxRecDepth 100000 in
set_option maxHeartbeats 8000000 in
theorem sp_L_fill0 (l : Launch) (G : GT) (B : Nat → Nat → Int32) (x : PP) (T : Nat → Nat → Int32) (p9 : Nat → Nat) (j9 u : Nat) (mk : Nat → Int32) (r c : Nat) (M : Mem) (hA0 : M 0 = (LE (LK B x mk) x T)) (hx : PIv x) (hw : LWi x) (hB : WLi B x) (hh : HTi x) (hT : WBi x T) (hP : pdP (nbx x) (T 1) x.1.2.2 p9) (hj : j9 < 64) (ih : ∀ v, v + 1 = u → FC l G B x T p9 j9 v) (hmk : MKi x.1.2.2 mk) (hr : r < 7) (hc : c < 7) (hu : kN (um mk) x.1.2.2 ≤ u) : MC l G yL_fill cL_fill 5 none ({ frames := u + 1, cells := 0, slots := 0, locals := 24 * u + 20 } : Room) [9] lk0 [rv 0 0, iv (nI r), iv (nI c), iv (nI j9)] (M) (fun r9 M2 => r9 = none ∧ ∃ m2, MKi x.1.2.2 m2 ∧ (¬ inC x r c → m2 = mk) ∧ (inC x r c → FSp x (T 1) p9 (clC x r c) (nI j9) mk m2) ∧ M2 = setm M 0 (LE (LK B x m2) x T)) := by
  obtain ⟨M0, rfl⟩ : ∃ M0, M = m1 ((LE (LK B x mk) x T)) M0 := ⟨M, (m1_of hA0).symm⟩
  clear hA0
  refine MC.of RL [some (rv 0 0), some (iv (nI r)), some (iv (nI c)), some (iv (nI j9)), none] 1 (by decide +kernel) rfl rfl rfl ?_
  intro pp ee ss mm aa bb me cd ad E
  by_cases hin : inC x r c
  ·
    obtain ⟨⟨hr1, hr5⟩, hc1, hc5⟩ := LW_r hw hin
    have hk := clC_lt hx.2.2.1 hin
    have hh1 := hh _ hk
    have hW := WB_k hT hk
    refine r_aload_n E (dat dkL_fill 0 rfl) rfl rfl ?_
    refine q_geta E fl_L_9 (dat dkL_fill 1 rfl) rfl rfl rfl ?_
    refine r_iload_n E (dat dkL_fill 2 rfl) rfl rfl ?_
    refine q_laa (a := 0) E (dat dkL_fill 3 rfl) rfl rfl rfl (by decide) rfl (by omega) ?_
    refine r_iload_n E (dat dkL_fill 4 rfl) rfl rfl ?_
    refine q_ialv E (dat dkL_fill 5 rfl) (lae (by decide) (by omega)) (lok (Nat.le_of_ble_eq_true rfl) rfl (by decide) (by omega)) (by decide) rfl (by omega) (gh1_0 (LE_h (by omega) hin)) ?_
    refine r_ldcI E cn_L_123 (dat dkL_fill 6 rfl) ?_
    refine r_icmp_eq (tgt := 35) E (dat dkL_fill 7 rfl) rfl (fun h10 => ?_) (fun h10 => ?_)
    ·
      exact absurd h10 (fun q => by rw [q] at hh1; have : (100000 : Int32).toInt = 100000 := rfl; omega)
    ·
      refine r_aload_n E (dat dkL_fill 8 rfl) rfl rfl ?_
      refine q_geta E fl_L_14 (dat dkL_fill 9 rfl) rfl rfl rfl ?_
      refine r_iload_n E (dat dkL_fill 10 rfl) rfl rfl ?_
      refine q_laa (a := 1) E (dat dkL_fill 11 rfl) rfl rfl rfl (by decide) rfl (by omega) ?_
      refine r_iload_n E (dat dkL_fill 12 rfl) rfl rfl ?_
      refine q_ialv E (dat dkL_fill 13 rfl) (lae (by decide) (by omega)) (lok (Nat.le_of_ble_eq_true rfl) rfl (by decide) (by omega)) (by decide) rfl (by omega) (gh1_0 (LE_w (by omega) hin)) ?_
      refine r_if_eq (tgt := 35) E (dat dkL_fill 14 rfl) rfl (fun h21 => ?_) (fun h21 => ?_)
      ·
        have hre : ¬ 0 < T 1 (clC x r c) ∨ ¬ mk (clC x r c) = -1 := Or.inl (fun q => by rw [h21] at q; exact absurd q (by decide))
        refine r_vreturn E (dat dkL_fill 22 rfl) (Nat.zero_le _) (Nat.zero_le _) ?_
        exact ⟨rfl, mk, hmk, fun hq => absurd hin hq, fun _ => FSp_r hre, by rw [pm1_0]⟩
      ·
        have hw1 : 0 < T 1 (clC x r c) := i_lt.mpr (by have := i_0; have : ¬ (T 1 (clC x r c)).toInt = 0 := fun q => h21 (Int32.toInt_inj.mp (q.trans i_0.symm)); omega)
        refine r_aload_n E (dat dkL_fill 15 rfl) rfl rfl ?_
        refine q_geta E fl_L_29 (dat dkL_fill 16 rfl) rfl rfl rfl ?_
        refine r_iload_n E (dat dkL_fill 17 rfl) rfl rfl ?_
        refine q_laa (a := 6) E (dat dkL_fill 18 rfl) rfl rfl rfl (by decide) rfl (by omega) ?_
        refine r_iload_n E (dat dkL_fill 19 rfl) rfl rfl ?_
        refine q_ialv E (dat dkL_fill 20 rfl) (lae (by decide) (by omega)) (lok (Nat.le_of_ble_eq_true rfl) rfl (by decide) (by omega)) (by decide) rfl (by omega) (gh1_0 ((LE_raw (Or.inr rfl) (by omega)).trans (LK_in (by omega) hin))) ?_
        refine r_if_lt (tgt := 36) E (dat dkL_fill 21 rfl) rfl (fun h32 => ?_) (fun h32 => ?_)
        ·
          have hmk1 := (MK_0 hmk hk).mp h32
          have hun := um_up hj hk hmk1
          refine r_aload_n E (dat dkL_fill 23 rfl) rfl rfl ?_
          refine q_geta E fl_L_29 (dat dkL_fill 24 rfl) rfl rfl rfl ?_
          refine r_iload_n E (dat dkL_fill 25 rfl) rfl rfl ?_
          refine q_laa (a := 6) E (dat dkL_fill 26 rfl) rfl rfl rfl (by decide) rfl (by omega) ?_
          refine r_iload_n E (dat dkL_fill 27 rfl) rfl rfl ?_
          refine r_iload_n E (dat dkL_fill 28 rfl) rfl rfl ?_
          refine q_iasv E (dat dkL_fill 29 rfl) (lae (by decide) (by omega)) (lok (Nat.le_of_ble_eq_true rfl) rfl (by decide) (by omega)) (by decide) rfl (by omega) (sa1_0 (LK_s (by omega) hin)) ?_
          refine r_iconst (v := 0) E (dat dkL_fill 30 rfl) rfl ?_
          refine r_istore_4 E (dat dkL_fill 31 rfl) rfl rfl ?_
          refine r_while (β := Nat × (Nat → Int32)) (fun x9 => 4 - x9.1) (fun x9 => x9.1 ≤ 4 ∧ FIn x (T 1) p9 (clC x r c) (nI j9) mk x9.1 x9.2) (fun x9 => m1 (LE (LK B x x9.2) x T) M0) (fun x9 => [some (rv 0 0), some (iv (nI r)), some (iv (nI c)), some (iv (nI j9)), some (iv (nI x9.1))]) (0, upd mk (clC x r c) (nI j9)) ⟨Nat.zero_le 4, FIn_0 hj hmk hk hmk1 hw1⟩ rfl rfl ?_
          rintro ⟨i, m9⟩ ⟨hi4, hF⟩ kk
          replace hF : FIn x (T 1) p9 (clC x r c) (nI j9) mk i m9 := hF
          replace hi4 : i ≤ 4 := hi4
          refine r_iload E (dat dkL_fill 32 rfl) rfl ?_
          refine r_iconst (v := 4) E (dat dkL_fill 33 rfl) rfl ?_
          refine q_icmp_ge (tgt := 79) E (dat dkL_fill 34 rfl) rfl rfl (b := 4) rfl (by omega) (by omega) (fun h51 => ?_) (fun h51 => ?_)
          ·
            have hi : i = 4 := by omega
            subst hi
            refine r_vreturn E (dat dkL_fill 48 rfl) (Nat.zero_le _) (Nat.zero_le _) ?_
            exact ⟨rfl, m9, hF.1, fun hq => absurd hin hq, fun _ => FIn_4 hj hw1 hF, by rw [pm1_0]⟩
          ·
            obtain ⟨v, hv⟩ : ∃ v, v + 1 = u := ⟨u - 1, by omega⟩
            have hcnt : kN (um m9) x.1.2.2 ≤ v := by
              have h5 := um_le (m := upd mk (clC x r c) (nI j9)) (m' := m9) x.1.2.2 (fun e he h6 => by
                by_cases h7 : e = clC x r c
                · subst h7; rw [hF.2.2.1] at h6; exact absurd h6 (v_ne hj)
                · rw [upd_ne h7]
                  by_cases h8 : mk e = -1
                  · exact h8
                  · rw [hF.2.1 e he h8] at h6; exact h6)
              omega
            have hb1 := @dR_b r i
            have hb2 := @dC_b c i
            refine r_aload_n E (dat dkL_fill 35 rfl) rfl rfl ?_
            refine r_iload_n E (dat dkL_fill 36 rfl) rfl rfl ?_
            refine r_iload E (dat dkL_fill 37 rfl) rfl ?_
            refine r_callS (μ := []) E (sp_L_down l G i _ (by omega)) my_L_down is_L_down ml_L_69 cm_nil rfl rfl ⟨by show 0 + 1 ≤ u + 1; omega, by show 8 + (1 + 11) + 0 ≤ 24 * u + 20; omega, Nat.zero_le _, Nat.zero_le _⟩ (Nat.le_of_ble_eq_true rfl) (dat dkL_fill 38 rfl) ?_
            rintro _ _ ⟨rfl, rfl⟩
            refine ⟨_, Mrg_z rfl, ?_⟩
            refine r_iadd E (dat dkL_fill 39 rfl) ?_
            rw [dn_r hr1]
            refine r_iload_n E (dat dkL_fill 40 rfl) rfl rfl ?_
            refine r_iload E (dat dkL_fill 41 rfl) rfl ?_
            refine r_callS (μ := []) E (sp_L_right l G i _ (by omega)) my_L_right is_L_right ml_L_73 cm_nil rfl rfl ⟨by show 0 + 1 ≤ u + 1; omega, by show 8 + (1 + 11) + 0 ≤ 24 * u + 20; omega, Nat.zero_le _, Nat.zero_le _⟩ (Nat.le_of_ble_eq_true rfl) (dat dkL_fill 42 rfl) ?_
            rintro _ _ ⟨rfl, rfl⟩
            refine ⟨_, Mrg_z rfl, ?_⟩
            refine r_iadd E (dat dkL_fill 43 rfl) ?_
            rw [rt_c hc1]
            refine r_iload_n E (dat dkL_fill 44 rfl) rfl rfl ?_
            refine r_callV (κ := 9) (μ := [0]) E (ih v hv m9 (dR r i) (dC c i) _ rfl hF.1 (by omega) (by omega) hcnt) my_L_fill iv_L_fill ml_L_124 (cm_of rfl) ⟨by decide, rfl, rfl⟩ rfl rfl rfl rfl ⟨by show v + 1 + 1 ≤ u + 1; omega, by show 8 + (5 + 11) + (24 * v + 20) ≤ 24 * u + 20; omega, Nat.zero_le _, Nat.zero_le _⟩ (Nat.le_of_ble_eq_true rfl) (dat dkL_fill 45 rfl) ?_
            rintro _ _ ⟨rfl, m2, hm2, hA2, hB2, rfl⟩
            refine ⟨_, Mrg_e (by decide) (by decide) pm1_0 rfl, ?_⟩
            refine q_iinc_4 E (dat dkL_fill 46 rfl) rfl rfl ?_
            refine r_goto (tgt := 48) E (dat dkL_fill 47 rfl) rfl ?_
            refine kk (i + 1, m2) ⟨by show i + 1 ≤ 4; omega, ?_⟩ (by show 4 - (i + 1) < 4 - i; omega)
            show FIn x (T 1) p9 (clC x r c) (nI j9) mk (i + 1) m2
            by_cases hin2 : inC x (dR r i) (dC c i)
            · have hn := nbx_d hx hin (w := i) (by omega)
              rw [if_pos hin2] at hn
              exact FIn_s hj (nbx_lt hx) (fun d o hd ho hwo => hP.2 _ d o hk hd ho hw1 hwo) hF (by omega) hn hm2 (hB2 hin2) hk
            · have hn := nbx_d hx hin (w := i) (by omega)
              rw [if_neg hin2] at hn
              rw [hA2 hin2]
              exact FIn_n hF hn
        ·
          have hre : ¬ 0 < T 1 (clC x r c) ∨ ¬ mk (clC x r c) = -1 := Or.inr (fun q => h32 ((MK_0 hmk hk).mpr q))
          refine r_vreturn E (dat dkL_fill 22 rfl) (Nat.zero_le _) (Nat.zero_le _) ?_
          exact ⟨rfl, mk, hmk, fun hq => absurd hin hq, fun _ => FSp_r hre, by rw [pm1_0]⟩
  ·
    refine r_aload_n E (dat dkL_fill 0 rfl) rfl rfl ?_
    refine q_geta E fl_L_9 (dat dkL_fill 1 rfl) rfl rfl rfl ?_
    refine r_iload_n E (dat dkL_fill 2 rfl) rfl rfl ?_
    refine q_laa (a := 0) E (dat dkL_fill 3 rfl) rfl rfl rfl (by decide) rfl (by omega) ?_
    refine r_iload_n E (dat dkL_fill 4 rfl) rfl rfl ?_
    refine q_ialv E (dat dkL_fill 5 rfl) (lae (by decide) (by omega)) (lok (Nat.le_of_ble_eq_true rfl) rfl (by decide) (by omega)) (by decide) rfl (by omega) (gh1_0 ((LE_out (by decide) hr hin).trans (LK_W hB r c hr hc hin).1)) ?_
    refine r_ldcI E cn_L_123 (dat dkL_fill 6 rfl) ?_
    refine r_icmp_eq (tgt := 35) E (dat dkL_fill 7 rfl) rfl (fun h10 => ?_) (fun h10 => ?_)
    ·
      refine r_vreturn E (dat dkL_fill 22 rfl) (Nat.zero_le _) (Nat.zero_le _) ?_
      exact ⟨rfl, mk, hmk, fun _ => rfl, fun hq => absurd hq hin, by rw [pm1_0]⟩
    ·
      exact absurd rfl h10

/-- filling from any place -/
theorem sp_L_fill (l : Launch) (G : GT) (B : Nat → Nat → Int32) (x : PP) (T : Nat → Nat → Int32) (p9 : Nat → Nat) (j9 : Nat) (hx : PIv x) (hw : LWi x) (hB : WLi B x) (hh : HTi x) (hT : WBi x T) (hP : pdP (nbx x) (T 1) x.1.2.2 p9) (hj : j9 < 64) : ∀ u, FC l G B x T p9 j9 u
  | 0 => fun mk r c M hM hmk hr hc hu => sp_L_fill0 l G B x T p9 j9 0 mk r c M hM hx hw hB hh hT hP hj (fun v hv => by omega) hmk hr hc hu
  | u + 1 => fun mk r c M hM hmk hr hc hu => sp_L_fill0 l G B x T p9 j9 (u + 1) mk r c M hM hx hw hB hh hT hP hj (fun v hv => by obtain rfl : v = u := Nat.succ.inj hv; exact sp_L_fill l G B x T p9 j9 hx hw hB hh hT hP hj v) hmk hr hc hu
