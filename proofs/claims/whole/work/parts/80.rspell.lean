/-! the reference's parser: names spelled and found, cells, gutters -/
def PS3 (M M2 : Mem) : Prop := M2 0 20 = M 0 20 ∧ M2 0 21 = M 0 21 ∧ M2 0 0 21 = M 0 0 21
theorem PS3_r {M : Mem} : PS3 M M := ⟨rfl, rfl, rfl⟩
theorem PS3_t {M M1 M2 : Mem} (h : PS3 M M1) (g : PS3 M1 M2) : PS3 M M2 := ⟨g.1.trans h.1, g.2.1.trans h.2.1, g.2.2.trans h.2.2⟩
theorem PS_3 {M M2 : Mem} (h : PS M M2) : PS3 M M2 := ⟨h.2.2.1, h.2.2.2.1, h.2.2.2.2⟩
/-- the name spelled -/
def sPl (M : Mem) (b : Nat → Int32) (s L : Nat) : Prop := M 0 0 8 = nI L ∧ ∀ i, i < L → M 0 8 i = b (s + i)
theorem Mrg_pk3 {M M9 : Mem} {A : Nat → Int32} {t : TT} {X : Mem → Prop} (hX : ∀ Z Z2 : Mem, Z 0 = Z2 0 → X Z → X Z2) (h : PK (vw [] M) M9 A t) (g : PS3 (vw [] M) M9) (x : X M9) : ∃ M2, Mrg 1 [] M M9 M2 ∧ kq M M2 ∧ M2 0 1 = A ∧ TI M2 t ∧ PS3 M M2 ∧ X M2 := ⟨setm M 0 (M9 0), Mrg_m0, h.1, h.2.1, h.2.2, g, hX M9 _ rfl x⟩
theorem sPl_X {b : Nat → Int32} {s L : Nat} {P : Prop} : ∀ Z Z2 : Mem, Z 0 = Z2 0 → (P → sPl Z b s L) → (P → sPl Z2 b s L) := fun Z Z2 h x p => by
  obtain ⟨x1, x2⟩ := x p
  unfold sPl
  rw [← h]
  exact ⟨x1, x2⟩
theorem T_X : ∀ Z Z2 : Mem, Z 0 = Z2 0 → True → True := fun _ _ _ _ => trivial
/-- the boots of a name -/
def sB (sp f : Nat → Int32) (e : Prop) [Decidable e] (k : Nat) : Int32 := if e ∧ ∀ q, q < k → f q = sp q then 1 else 0
section SB
variable {sp f : Nat → Int32} {k L : Nat}
theorem sB_s {e : Prop} [Decidable e] (h : ¬ sB sp f e k = 0) : e ∧ ∀ q, q < k → f q = sp q := by
  unfold sB at h
  by_cases h2 : e ∧ ∀ q, q < k → f q = sp q
  · exact h2
  · rw [if_neg h2] at h; exact absurd rfl h
theorem sB_1 {e : Prop} [Decidable e] (h : ¬ sB sp f e k = 0) (h2 : f k = sp k) : sB sp f e (k + 1) = 1 := by
  obtain ⟨h3, h4⟩ := sB_s h
  refine if_pos ⟨h3, fun q hq => ?_⟩
  by_cases hqk : q = k
  · rw [hqk]; exact h2
  · exact h4 q (by omega)
theorem sB_n {e : Prop} [Decidable e] (h2 : ¬ f k = sp k) (hk : k < L) : sB sp f e L = 0 := if_neg fun q => h2 (q.2 k hk)
theorem sB_0 {e : Prop} [Decidable e] (h : sB sp f e k = 0) (hk : k ≤ L) : sB sp f e L = 0 := by
  refine if_neg fun q => ?_
  have : sB sp f e k = 1 := if_pos ⟨q.1, fun j hj => q.2 j (by omega)⟩
  rw [this] at h
  exact absurd h (by decide)
theorem sB_i {e : Prop} [Decidable e] : sB sp f e 0 = if e then 1 else 0 := by
  unfold sB
  by_cases h : e
  · rw [if_pos h, if_pos ⟨h, fun q hq => absurd hq (Nat.not_lt_zero q)⟩]
  · rw [if_neg h, if_neg fun q => h q.1]
end SB
theorem mEx_s {a k : Int32} {t : TT} : (mEx a k t).2.2.1 = t.2.2.1 := by
  unfold mEx
  split
  · split <;> rfl
  · rfl
theorem mNe_i {t : TT} {lo hi : Int32} (h : (mNe t lo hi).2.2.2.2.1 = 0) : t.2.2.2.2.1 = 0 ∧ mNv t lo hi = t.2.2.2.1 ∧ lo ≤ t.2.2.2.1 ∧ t.2.2.2.1 ≤ hi := by
  have h0 : mNv t lo hi = t.2.2.2.1 := if_pos h
  unfold mNe at h
  by_cases hf : t.2.2.2.2.1 = 0
  · refine ⟨hf, h0, ?_⟩
    by_cases hk : t.2.1 = 2
    · rw [if_pos hk, mEx_n (a := 1) (by decide), iw_31] at h
      by_cases c1 : t.2.2.2.1 < lo
      · rw [if_pos c1, mEx_0 hf] at h; exact absurd h (by show ¬ (2 : Int32) = 0; decide)
      · rw [if_neg c1] at h
        by_cases c2 : hi < t.2.2.2.1
        · rw [if_pos c2, mEx_0 hf] at h; exact absurd h (by show ¬ (2 : Int32) = 0; decide)
        · exact ⟨Int32.not_lt.mp c1, Int32.not_lt.mp c2⟩
    · rw [if_neg hk, mEx_x (t := mEx 0 1 t) (by rw [mEx_0 hf]; exact (by decide : (0 : Int32) < 1)), mEx_0 hf] at h
      exact absurd h (by show ¬ (1 : Int32) = 0; decide)
  · have e1 : ∀ (a k : Int32), mEx a k t = t := fun a k => if_neg hf
    rw [e1, e1] at h
    exact absurd h hf
set_option maxRecDepth 100000 in
set_option maxHeartbeats 8000000 in
theorem sp_X10_spellName (l : Launch) (G : GT) (bs : Nat → Int32) (n : Nat) (A : Nat → Int32) (t : TT) (s : Nat) (M : Mem) (hB : M 0 10 = bs) (hn : M 0 0 10 = nI n) (hA : M 0 1 = A) (hT : TI M t) (hG : TG n t) (hn6 : n ≤ 600) (hs : s ≤ t.1) (hs2 : t.2.2.1 = nI s) : MC l G yX10_spellName cX10_spellName 2 none ({ frames := 1, cells := 0, slots := 0, locals := 22 } : Room) [9] lk0 [rv 0 0] (M) (fun r M2 => r = none ∧ PK M M2 A (mEx (if t.2.1 = 1 ∧ t.1 - s ≤ 6 then 1 else 0) 1 t) ∧ PS3 M M2 ∧ ((mEx (if t.2.1 = 1 ∧ t.1 - s ≤ 6 then 1 else 0) 1 t).2.2.2.2.1 = 0 → sPl M2 bs s (t.1 - s))) := by
  refine MC.of RX10 [some (rv 0 0), none] 1 (by decide +kernel) rfl rfl rfl ?_
  intro pp ee ss mm aa bb me cd ad E
  have hk : kq M M := kq_r
  have hS : PS M M := PS_r
  
  by_cases hw : t.2.1 = 1 ∧ t.1 - s ≤ 6
  ·
    have hp6 := hG.1
    have h13 := hT.1.trans hs2
    have hw2 := hw.2
    rw [show (if t.2.1 = 1 ∧ t.1 - s ≤ 6 then 1 else 0) = (1 : Int32) from if_pos hw]
    refine r_aload_n E (dat dkX10_spellName 0 rfl) rfl rfl ?_
    refine r_aload_n E (dat dkX10_spellName 1 rfl) rfl rfl ?_
    refine q_getn E fl_X10_174 (dat dkX10_spellName 2 rfl) rfl rfl rfl (show (_ : Int32) = _ from hT.2.2.1) ?_
    refine r_iconst (v := 1) E (dat dkX10_spellName 3 rfl) rfl ?_
    refine r_icmp_ne (tgt := 27) E (dat dkX10_spellName 4 rfl) rfl (fun h6 => ?_) (fun h6 => ?_)
    ·
      exact absurd hw.1 h6
    ·
      refine r_aload_n E (dat dkX10_spellName 5 rfl) rfl rfl ?_
      refine q_getn E fl_X10_168 (dat dkX10_spellName 6 rfl) rfl rfl rfl (show (_ : Int32) = _ from hT.2.1) ?_
      refine r_aload_n E (dat dkX10_spellName 7 rfl) rfl rfl ?_
      refine q_getn E fl_X10_171 (dat dkX10_spellName 8 rfl) rfl rfl rfl (show (_ : Int32) = nI s from h13) ?_
      refine r_isub E (dat dkX10_spellName 9 rfl) ?_
      refine r_bipush (v := 6) E (dat dkX10_spellName 10 rfl) rfl ?_
      refine q_icmp_gt (tgt := 27) E (dat dkX10_spellName 11 rfl) rfl (nI_sb hs) (b := 6) rfl (by omega) (by omega) (fun h20 => ?_) (fun h20 => ?_)
      ·
        omega
      ·
        refine r_iconst (v := 1) E (dat dkX10_spellName 12 rfl) rfl ?_
        refine r_goto (tgt := 28) E (dat dkX10_spellName 13 rfl) rfl ?_
        refine r_iconst (v := 1) E (dat dkX10_spellName 15 rfl) rfl ?_
        refine r_callV (κ := 9) (μ := []) E (px_ex l G bs n _ _ (1) (1) _ hB hn hA hT hG hn6) my_X10_expect iv_X10_expect ml_X10_194 cm_id ⟨by decide, rfl, rfl⟩ rfl rfl rfl rfl (by decide) (Nat.le_of_ble_eq_true rfl) (dat dkX10_spellName 16 rfl) ?_
        rintro _ M9 ⟨rfl, hp9, hs9⟩
        obtain ⟨Ma, hMr, hk9, hA, hT, hS9⟩ := Mrg_pk hp9 hs9
        replace hB := (hk9.2.2.2.1).trans hB
        replace hn := (hk9.2.2.2.2.2.2.2.2.1).trans hn
        replace hk := kq_t hk hk9
        replace hS := PS_t hS hS9
        replace hG := TG_ex (a := 1) (k := 1) (by decide) hG
        refine ⟨_, hMr, ?_⟩
        clear hp9 hs9 hMr hk9 hS9
        obtain ⟨sp0, hsp0⟩ : ∃ sp0, Ma 0 8 = sp0 := ⟨_, rfl⟩
        have hm1 : mEx 1 1 t = t := mEx_n (a := 1) (by decide)
        rw [hm1] at hT hG ⊢
        replace h13 := hT.1.trans hs2
        refine r_aload_n E (dat dkX10_spellName 17 rfl) rfl rfl ?_
        refine r_aload_n E (dat dkX10_spellName 18 rfl) rfl rfl ?_
        refine q_getn E fl_X10_165 (dat dkX10_spellName 19 rfl) rfl rfl rfl (show (_ : Int32) = _ from hT.2.2.2.2.1) ?_
        by_cases hf0 : t.2.2.2.2.1 = 0
        ·
          refine r_if_ne (tgt := 52) E (dat dkX10_spellName 20 rfl) rfl (fun h37 => ?_) (fun h37 => ?_)
          ·
            exact absurd hf0 h37
          ·
            refine r_aload_n E (dat dkX10_spellName 21 rfl) rfl rfl ?_
            refine q_getn E fl_X10_168 (dat dkX10_spellName 22 rfl) rfl rfl rfl (show (_ : Int32) = _ from hT.2.1) ?_
            refine r_aload_n E (dat dkX10_spellName 23 rfl) rfl rfl ?_
            refine q_getn E fl_X10_171 (dat dkX10_spellName 24 rfl) rfl rfl rfl (show (_ : Int32) = nI s from h13) ?_
            refine r_isub E (dat dkX10_spellName 25 rfl) ?_
            rw [nI_sb hs]
            refine r_goto (tgt := 53) E (dat dkX10_spellName 26 rfl) rfl ?_
            refine q_putn E ft_X10_54 (dat dkX10_spellName 28 rfl) rfl rfl rfl rfl ?_
            refine r_iconst (v := 0) E (dat dkX10_spellName 29 rfl) rfl ?_
            refine r_istore_1 E (dat dkX10_spellName 30 rfl) rfl rfl ?_
            refine r_for ((t.1 - s)) (fun _ => True) (fun i => ar 8 (fM Ma 8 (nI ((t.1 - s)))) (fil (fun i => bs (s + i)) sp0 i)) (fun i => [some (rv 0 0), some (iv (nI i))]) trivial (by rw [fil_0]; exact ar_of hsp0) rfl ?_ ?_
            · intro i hi hI kk
              refine r_iload_n E (dat dkX10_spellName 31 rfl) rfl rfl ?_
              refine r_aload_n E (dat dkX10_spellName 32 rfl) rfl rfl ?_
              refine q_getn E fl_X10_54 (dat dkX10_spellName 33 rfl) rfl rfl rfl rfl ?_
              refine q_icmp_ge (tgt := 89) E (dat dkX10_spellName 34 rfl) rfl rfl rfl (by omega) (by omega) (fun h63 => ?_) (fun h63 => ?_)
              ·
                omega
              ·
                refine r_aload_n E (dat dkX10_spellName 35 rfl) rfl rfl ?_
                refine q_geta E fl_X10_22 (dat dkX10_spellName 36 rfl) rfl rfl rfl ?_
                refine r_iload_n E (dat dkX10_spellName 37 rfl) rfl rfl ?_
                refine r_aload_n E (dat dkX10_spellName 38 rfl) rfl rfl ?_
                refine q_geta E fl_X10_25 (dat dkX10_spellName 39 rfl) rfl rfl rfl ?_
                refine r_aload_n E (dat dkX10_spellName 40 rfl) rfl rfl ?_
                refine q_getn E fl_X10_171 (dat dkX10_spellName 41 rfl) rfl rfl rfl (show (_ : Int32) = nI s from h13) ?_
                refine r_iload_n E (dat dkX10_spellName 42 rfl) rfl rfl ?_
                refine r_iadd E (dat dkX10_spellName 43 rfl) ?_
                refine q_bald E (dat dkX10_spellName 44 rfl) rfl rfl (by decide) (show (_ : Nat → Int32) = _ from hB) (nI_add _ _) (by omega) ?_
                refine q_iast E (dat dkX10_spellName 45 rfl) rfl rfl (by decide) rfl (fun _ => ar_s) rfl (by omega) ?_
                refine q_iinc_1 E (dat dkX10_spellName 46 rfl) rfl rfl ?_
                refine r_goto (tgt := 58) E (dat dkX10_spellName 47 rfl) rfl ?_
                rw [← fil_upd (f := sp0) (g := fun i => bs (s + i)) (i := i) (v := bs (s + i)) rfl] at kk
                exact kk trivial
            · intro hI
              refine r_iload_n E (dat dkX10_spellName 31 rfl) rfl rfl ?_
              refine r_aload_n E (dat dkX10_spellName 32 rfl) rfl rfl ?_
              refine q_getn E fl_X10_54 (dat dkX10_spellName 33 rfl) rfl rfl rfl rfl ?_
              refine q_icmp_ge (tgt := 89) E (dat dkX10_spellName 34 rfl) rfl rfl rfl (by omega) (by omega) (fun h63 => ?_) (fun h63 => ?_)
              ·
                refine r_vreturn E (dat dkX10_spellName 48 rfl) (by decide) (by decide) ?_
                refine ⟨rfl, ⟨hk, hA, hT⟩, (show PS3 M Ma from PS_3 hS), fun hz => ?_⟩
                exact ⟨rfl, fun i hi => (show fil (fun i => bs (s + i)) sp0 (t.1 - s) i = bs (s + i) from if_pos hi)⟩
              ·
                omega
        ·
          refine r_if_ne (tgt := 52) E (dat dkX10_spellName 20 rfl) rfl (fun h37 => ?_) (fun h37 => ?_)
          ·
            refine r_iconst (v := 0) E (dat dkX10_spellName 27 rfl) rfl ?_
            refine q_putn E ft_X10_54 (dat dkX10_spellName 28 rfl) rfl rfl rfl rfl ?_
            refine r_iconst (v := 0) E (dat dkX10_spellName 29 rfl) rfl ?_
            refine r_istore_1 E (dat dkX10_spellName 30 rfl) rfl rfl ?_
            refine r_for (0) (fun _ => True) (fun i => ar 8 (fM Ma 8 (nI (0))) (fil (fun i => bs (s + i)) sp0 i)) (fun i => [some (rv 0 0), some (iv (nI i))]) trivial (by rw [fil_0]; exact ar_of hsp0) rfl ?_ ?_
            · intro i hi hI kk
              refine r_iload_n E (dat dkX10_spellName 31 rfl) rfl rfl ?_
              refine r_aload_n E (dat dkX10_spellName 32 rfl) rfl rfl ?_
              refine q_getn E fl_X10_54 (dat dkX10_spellName 33 rfl) rfl rfl rfl rfl ?_
              refine q_icmp_ge (tgt := 89) E (dat dkX10_spellName 34 rfl) rfl rfl rfl (by omega) (by omega) (fun h63 => ?_) (fun h63 => ?_)
              ·
                omega
              ·
                refine r_aload_n E (dat dkX10_spellName 35 rfl) rfl rfl ?_
                refine q_geta E fl_X10_22 (dat dkX10_spellName 36 rfl) rfl rfl rfl ?_
                refine r_iload_n E (dat dkX10_spellName 37 rfl) rfl rfl ?_
                refine r_aload_n E (dat dkX10_spellName 38 rfl) rfl rfl ?_
                refine q_geta E fl_X10_25 (dat dkX10_spellName 39 rfl) rfl rfl rfl ?_
                refine r_aload_n E (dat dkX10_spellName 40 rfl) rfl rfl ?_
                refine q_getn E fl_X10_171 (dat dkX10_spellName 41 rfl) rfl rfl rfl (show (_ : Int32) = nI s from h13) ?_
                refine r_iload_n E (dat dkX10_spellName 42 rfl) rfl rfl ?_
                refine r_iadd E (dat dkX10_spellName 43 rfl) ?_
                refine q_bald E (dat dkX10_spellName 44 rfl) rfl rfl (by decide) (show (_ : Nat → Int32) = _ from hB) (nI_add _ _) (by omega) ?_
                refine q_iast E (dat dkX10_spellName 45 rfl) rfl rfl (by decide) rfl (fun _ => ar_s) rfl (by omega) ?_
                refine q_iinc_1 E (dat dkX10_spellName 46 rfl) rfl rfl ?_
                refine r_goto (tgt := 58) E (dat dkX10_spellName 47 rfl) rfl ?_
                rw [← fil_upd (f := sp0) (g := fun i => bs (s + i)) (i := i) (v := bs (s + i)) rfl] at kk
                exact kk trivial
            · intro hI
              refine r_iload_n E (dat dkX10_spellName 31 rfl) rfl rfl ?_
              refine r_aload_n E (dat dkX10_spellName 32 rfl) rfl rfl ?_
              refine q_getn E fl_X10_54 (dat dkX10_spellName 33 rfl) rfl rfl rfl rfl ?_
              refine q_icmp_ge (tgt := 89) E (dat dkX10_spellName 34 rfl) rfl rfl rfl (by omega) (by omega) (fun h63 => ?_) (fun h63 => ?_)
              ·
                refine r_vreturn E (dat dkX10_spellName 48 rfl) (by decide) (by decide) ?_
                refine ⟨rfl, ⟨hk, hA, hT⟩, (show PS3 M Ma from PS_3 hS), fun hz => ?_⟩
                exact absurd hz hf0
              ·
                omega
          ·
            exact absurd (by first | exact h37 | exact Decidable.not_not.mp h37) hf0
  ·
    have hp6 := hG.1
    have h13 := hT.1.trans hs2
    rw [show (if t.2.1 = 1 ∧ t.1 - s ≤ 6 then 1 else 0) = (0 : Int32) from if_neg hw]
    have hx0 : ¬ (mEx 0 1 t).2.2.2.2.1 = 0 := by
      by_cases hf0 : t.2.2.2.2.1 = 0
      · rw [mEx_0 hf0]; exact (by decide : ¬ (1 : Int32) = 0)
      · rw [show mEx 0 1 t = t from if_neg hf0]; exact hf0
    refine r_aload_n E (dat dkX10_spellName 0 rfl) rfl rfl ?_
    refine r_aload_n E (dat dkX10_spellName 1 rfl) rfl rfl ?_
    refine q_getn E fl_X10_174 (dat dkX10_spellName 2 rfl) rfl rfl rfl (show (_ : Int32) = _ from hT.2.2.1) ?_
    refine r_iconst (v := 1) E (dat dkX10_spellName 3 rfl) rfl ?_
    refine r_icmp_ne (tgt := 27) E (dat dkX10_spellName 4 rfl) rfl (fun h6 => ?_) (fun h6 => ?_)
    ·
      refine r_iconst (v := 0) E (dat dkX10_spellName 14 rfl) rfl ?_
      refine r_iconst (v := 1) E (dat dkX10_spellName 15 rfl) rfl ?_
      refine r_callV (κ := 9) (μ := []) E (px_ex l G bs n _ _ (0) (1) _ hB hn hA hT hG hn6) my_X10_expect iv_X10_expect ml_X10_194 cm_id ⟨by decide, rfl, rfl⟩ rfl rfl rfl rfl (by decide) (Nat.le_of_ble_eq_true rfl) (dat dkX10_spellName 16 rfl) ?_
      rintro _ M9 ⟨rfl, hp9, hs9⟩
      obtain ⟨Ma, hMr, hk9, hA, hT, hS9⟩ := Mrg_pk hp9 hs9
      replace hB := (hk9.2.2.2.1).trans hB
      replace hn := (hk9.2.2.2.2.2.2.2.2.1).trans hn
      replace hk := kq_t hk hk9
      replace hS := PS_t hS hS9
      replace hG := TG_ex (a := 0) (k := 1) (by decide) hG
      refine ⟨_, hMr, ?_⟩
      clear hp9 hs9 hMr hk9 hS9
      obtain ⟨sp0, hsp0⟩ : ∃ sp0, Ma 0 8 = sp0 := ⟨_, rfl⟩
      replace h13 := hT.1.trans (mEx_s.trans hs2)
      refine r_aload_n E (dat dkX10_spellName 17 rfl) rfl rfl ?_
      refine r_aload_n E (dat dkX10_spellName 18 rfl) rfl rfl ?_
      refine q_getn E fl_X10_165 (dat dkX10_spellName 19 rfl) rfl rfl rfl (show (_ : Int32) = _ from hT.2.2.2.2.1) ?_
      refine r_if_ne (tgt := 52) E (dat dkX10_spellName 20 rfl) rfl (fun h37 => ?_) (fun h37 => ?_)
      ·
        refine r_iconst (v := 0) E (dat dkX10_spellName 27 rfl) rfl ?_
        refine q_putn E ft_X10_54 (dat dkX10_spellName 28 rfl) rfl rfl rfl rfl ?_
        refine r_iconst (v := 0) E (dat dkX10_spellName 29 rfl) rfl ?_
        refine r_istore_1 E (dat dkX10_spellName 30 rfl) rfl rfl ?_
        refine r_for (0) (fun _ => True) (fun i => ar 8 (fM Ma 8 (nI (0))) (fil (fun i => bs (s + i)) sp0 i)) (fun i => [some (rv 0 0), some (iv (nI i))]) trivial (by rw [fil_0]; exact ar_of hsp0) rfl ?_ ?_
        · intro i hi hI kk
          refine r_iload_n E (dat dkX10_spellName 31 rfl) rfl rfl ?_
          refine r_aload_n E (dat dkX10_spellName 32 rfl) rfl rfl ?_
          refine q_getn E fl_X10_54 (dat dkX10_spellName 33 rfl) rfl rfl rfl rfl ?_
          refine q_icmp_ge (tgt := 89) E (dat dkX10_spellName 34 rfl) rfl rfl rfl (by omega) (by omega) (fun h63 => ?_) (fun h63 => ?_)
          ·
            omega
          ·
            refine r_aload_n E (dat dkX10_spellName 35 rfl) rfl rfl ?_
            refine q_geta E fl_X10_22 (dat dkX10_spellName 36 rfl) rfl rfl rfl ?_
            refine r_iload_n E (dat dkX10_spellName 37 rfl) rfl rfl ?_
            refine r_aload_n E (dat dkX10_spellName 38 rfl) rfl rfl ?_
            refine q_geta E fl_X10_25 (dat dkX10_spellName 39 rfl) rfl rfl rfl ?_
            refine r_aload_n E (dat dkX10_spellName 40 rfl) rfl rfl ?_
            refine q_getn E fl_X10_171 (dat dkX10_spellName 41 rfl) rfl rfl rfl (show (_ : Int32) = nI s from h13) ?_
            refine r_iload_n E (dat dkX10_spellName 42 rfl) rfl rfl ?_
            refine r_iadd E (dat dkX10_spellName 43 rfl) ?_
            refine q_bald E (dat dkX10_spellName 44 rfl) rfl rfl (by decide) (show (_ : Nat → Int32) = _ from hB) (nI_add _ _) (by omega) ?_
            refine q_iast E (dat dkX10_spellName 45 rfl) rfl rfl (by decide) rfl (fun _ => ar_s) rfl (by omega) ?_
            refine q_iinc_1 E (dat dkX10_spellName 46 rfl) rfl rfl ?_
            refine r_goto (tgt := 58) E (dat dkX10_spellName 47 rfl) rfl ?_
            rw [← fil_upd (f := sp0) (g := fun i => bs (s + i)) (i := i) (v := bs (s + i)) rfl] at kk
            exact kk trivial
        · intro hI
          refine r_iload_n E (dat dkX10_spellName 31 rfl) rfl rfl ?_
          refine r_aload_n E (dat dkX10_spellName 32 rfl) rfl rfl ?_
          refine q_getn E fl_X10_54 (dat dkX10_spellName 33 rfl) rfl rfl rfl rfl ?_
          refine q_icmp_ge (tgt := 89) E (dat dkX10_spellName 34 rfl) rfl rfl rfl (by omega) (by omega) (fun h63 => ?_) (fun h63 => ?_)
          ·
            refine r_vreturn E (dat dkX10_spellName 48 rfl) (by decide) (by decide) ?_
            refine ⟨rfl, ⟨hk, hA, hT⟩, (show PS3 M Ma from PS_3 hS), fun hz => ?_⟩
            exact absurd hz hx0
          ·
            omega
      ·
        exact absurd (by first | exact h37 | exact Decidable.not_not.mp h37) hx0
    ·
      refine r_aload_n E (dat dkX10_spellName 5 rfl) rfl rfl ?_
      refine q_getn E fl_X10_168 (dat dkX10_spellName 6 rfl) rfl rfl rfl (show (_ : Int32) = _ from hT.2.1) ?_
      refine r_aload_n E (dat dkX10_spellName 7 rfl) rfl rfl ?_
      refine q_getn E fl_X10_171 (dat dkX10_spellName 8 rfl) rfl rfl rfl (show (_ : Int32) = nI s from h13) ?_
      refine r_isub E (dat dkX10_spellName 9 rfl) ?_
      refine r_bipush (v := 6) E (dat dkX10_spellName 10 rfl) rfl ?_
      refine q_icmp_gt (tgt := 27) E (dat dkX10_spellName 11 rfl) rfl (nI_sb hs) (b := 6) rfl (by omega) (by omega) (fun h20 => ?_) (fun h20 => ?_)
      ·
        refine r_iconst (v := 0) E (dat dkX10_spellName 14 rfl) rfl ?_
        refine r_iconst (v := 1) E (dat dkX10_spellName 15 rfl) rfl ?_
        refine r_callV (κ := 9) (μ := []) E (px_ex l G bs n _ _ (0) (1) _ hB hn hA hT hG hn6) my_X10_expect iv_X10_expect ml_X10_194 cm_id ⟨by decide, rfl, rfl⟩ rfl rfl rfl rfl (by decide) (Nat.le_of_ble_eq_true rfl) (dat dkX10_spellName 16 rfl) ?_
        rintro _ M9 ⟨rfl, hp9, hs9⟩
        obtain ⟨Ma, hMr, hk9, hA, hT, hS9⟩ := Mrg_pk hp9 hs9
        replace hB := (hk9.2.2.2.1).trans hB
        replace hn := (hk9.2.2.2.2.2.2.2.2.1).trans hn
        replace hk := kq_t hk hk9
        replace hS := PS_t hS hS9
        replace hG := TG_ex (a := 0) (k := 1) (by decide) hG
        refine ⟨_, hMr, ?_⟩
        clear hp9 hs9 hMr hk9 hS9
        obtain ⟨sp0, hsp0⟩ : ∃ sp0, Ma 0 8 = sp0 := ⟨_, rfl⟩
        replace h13 := hT.1.trans (mEx_s.trans hs2)
        refine r_aload_n E (dat dkX10_spellName 17 rfl) rfl rfl ?_
        refine r_aload_n E (dat dkX10_spellName 18 rfl) rfl rfl ?_
        refine q_getn E fl_X10_165 (dat dkX10_spellName 19 rfl) rfl rfl rfl (show (_ : Int32) = _ from hT.2.2.2.2.1) ?_
        refine r_if_ne (tgt := 52) E (dat dkX10_spellName 20 rfl) rfl (fun h37 => ?_) (fun h37 => ?_)
        ·
          refine r_iconst (v := 0) E (dat dkX10_spellName 27 rfl) rfl ?_
          refine q_putn E ft_X10_54 (dat dkX10_spellName 28 rfl) rfl rfl rfl rfl ?_
          refine r_iconst (v := 0) E (dat dkX10_spellName 29 rfl) rfl ?_
          refine r_istore_1 E (dat dkX10_spellName 30 rfl) rfl rfl ?_
          refine r_for (0) (fun _ => True) (fun i => ar 8 (fM Ma 8 (nI (0))) (fil (fun i => bs (s + i)) sp0 i)) (fun i => [some (rv 0 0), some (iv (nI i))]) trivial (by rw [fil_0]; exact ar_of hsp0) rfl ?_ ?_
          · intro i hi hI kk
            refine r_iload_n E (dat dkX10_spellName 31 rfl) rfl rfl ?_
            refine r_aload_n E (dat dkX10_spellName 32 rfl) rfl rfl ?_
            refine q_getn E fl_X10_54 (dat dkX10_spellName 33 rfl) rfl rfl rfl rfl ?_
            refine q_icmp_ge (tgt := 89) E (dat dkX10_spellName 34 rfl) rfl rfl rfl (by omega) (by omega) (fun h63 => ?_) (fun h63 => ?_)
            ·
              omega
            ·
              refine r_aload_n E (dat dkX10_spellName 35 rfl) rfl rfl ?_
              refine q_geta E fl_X10_22 (dat dkX10_spellName 36 rfl) rfl rfl rfl ?_
              refine r_iload_n E (dat dkX10_spellName 37 rfl) rfl rfl ?_
              refine r_aload_n E (dat dkX10_spellName 38 rfl) rfl rfl ?_
              refine q_geta E fl_X10_25 (dat dkX10_spellName 39 rfl) rfl rfl rfl ?_
              refine r_aload_n E (dat dkX10_spellName 40 rfl) rfl rfl ?_
              refine q_getn E fl_X10_171 (dat dkX10_spellName 41 rfl) rfl rfl rfl (show (_ : Int32) = nI s from h13) ?_
              refine r_iload_n E (dat dkX10_spellName 42 rfl) rfl rfl ?_
              refine r_iadd E (dat dkX10_spellName 43 rfl) ?_
              refine q_bald E (dat dkX10_spellName 44 rfl) rfl rfl (by decide) (show (_ : Nat → Int32) = _ from hB) (nI_add _ _) (by omega) ?_
              refine q_iast E (dat dkX10_spellName 45 rfl) rfl rfl (by decide) rfl (fun _ => ar_s) rfl (by omega) ?_
              refine q_iinc_1 E (dat dkX10_spellName 46 rfl) rfl rfl ?_
              refine r_goto (tgt := 58) E (dat dkX10_spellName 47 rfl) rfl ?_
              rw [← fil_upd (f := sp0) (g := fun i => bs (s + i)) (i := i) (v := bs (s + i)) rfl] at kk
              exact kk trivial
          · intro hI
            refine r_iload_n E (dat dkX10_spellName 31 rfl) rfl rfl ?_
            refine r_aload_n E (dat dkX10_spellName 32 rfl) rfl rfl ?_
            refine q_getn E fl_X10_54 (dat dkX10_spellName 33 rfl) rfl rfl rfl rfl ?_
            refine q_icmp_ge (tgt := 89) E (dat dkX10_spellName 34 rfl) rfl rfl rfl (by omega) (by omega) (fun h63 => ?_) (fun h63 => ?_)
            ·
              refine r_vreturn E (dat dkX10_spellName 48 rfl) (by decide) (by decide) ?_
              refine ⟨rfl, ⟨hk, hA, hT⟩, (show PS3 M Ma from PS_3 hS), fun hz => ?_⟩
              exact absurd hz hx0
            ·
              omega
        ·
          exact absurd (by first | exact h37 | exact Decidable.not_not.mp h37) hx0
      ·
        exact absurd ⟨by first | exact h6 | exact Decidable.not_not.mp h6, by omega⟩ hw
