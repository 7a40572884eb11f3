theorem Mrg_ee {N : Nat} {μ : List Nat} {M M1 M2 : Mem} {i j : Nat} {Z Z' : Nat → Nat → Int32} (hinj : ∀ a, a < N → ∀ b, b < N → mu μ a = mu μ b → a = b) (hi : i < N) (hj : j < N) (hE : setm (setm M (mu μ i) Z) (mu μ j) Z' = M2) (h1 : M1 = setm (setm (vw μ M) i Z) j Z') : Mrg N μ M M1 M2 := by
  subst hE; subst h1
  refine ⟨fun a ha => ?_, fun g hg => ?_⟩
  · by_cases h2 : a = j
    · subst h2; rw [setm_s, setm_s]
    · rw [setm_n h2, setm_n (fun e => h2 (hinj a ha j hj e))]
      by_cases h3 : a = i
      · subst h3; rw [setm_s, setm_s]
      · rw [setm_n h3, setm_n (fun e => h3 (hinj a ha i hi e))]; rfl
  · rw [setm_n (fun e => hg j hj e.symm), setm_n (fun e => hg i hi e.symm)]
theorem pm2_01 {A0 A1 Z Z' : Nat → Nat → Int32} {M0 : Mem} : setm (setm (m2 A0 A1 M0) 0 Z) 1 Z' = m2 Z Z' M0 := by rw [pm2_0, pm2_1]
theorem pm3_01 {A0 A1 A2 Z Z' : Nat → Nat → Int32} {M0 : Mem} : setm (setm (m3 A0 A1 A2 M0) 0 Z) 1 Z' = m3 Z Z' A2 M0 := by rw [pm3_0, pm3_1]
theorem isW_1 {b : Nat → Int32} {ki : Int32} {s P : Nat} {w : List Int32} (h1 : ki = 1) (h2 : P - s = w.length) (h3 : ∀ i, i < w.length → b (s + i) = w.getD i 0) : isW b ki s P w = 1 := if_pos ⟨h1, h2, h3⟩
theorem isW_0 {b : Nat → Int32} {ki : Int32} {s P : Nat} {w : List Int32} (h : ¬ (ki = 1 ∧ P - s = w.length ∧ ∀ i, i < w.length → b (s + i) = w.getD i 0)) : isW b ki s P w = 0 := if_neg h
theorem isW_b {b : Nat → Int32} {ki : Int32} {s P : Nat} {w : List Int32} : isW b ki s P w = 0 ∨ isW b ki s P w = 1 := by
  unfold isW
  split
  · exact Or.inr rfl
  · exact Or.inl rfl
/-- bs, behind k signs of the text i put at n -/
def paF (bs : Nat → Int32) (n i k : Nat) : Nat → Int32 := fun j => if n ≤ j ∧ j < n + k then bJS i (j - n) else bs j
theorem paF_0 {bs : Nat → Int32} {n i : Nat} : paF bs n i 0 = bs := by
  funext j
  unfold paF
  rw [if_neg (by omega)]
theorem paF_s {bs : Nat → Int32} {n i k : Nat} {x : Int32} (hx : x = bJS i k) : upd (paF bs n i k) (n + k) x = paF bs n i (k + 1) := by
  subst hx
  funext j
  unfold upd paF
  by_cases h : j = n + k
  · subst h
    rw [if_pos rfl, if_pos (by omega), Nat.add_sub_cancel_left]
  · rw [if_neg h]
    by_cases h2 : n ≤ j ∧ j < n + k
    · rw [if_pos h2, if_pos (by omega)]
    · rw [if_neg h2, if_neg (by omega)]
theorem ch_by : ∀ i, i < 14 → ∀ b ∈ bytJS.getD i [], b.toInt8.toInt32 = b := by decide +kernel
theorem ch_b {i a : Nat} (hi : i < 14) (ha : a < lenJS.getD i 0) : (bJS i a).toInt8.toInt32 = bJS i a := ch_by i hi _ (ch_mem hi ha)
set_option maxRecDepth 100000 in
set_option maxHeartbeats 4000000 in
theorem sp_X6_isWord (l : Launch) (G : GT) (B0 : Nat → Nat → Int32) (n P s : Nat) (ki va ec eo : Int32) (bs : Nat → Int32) (i : Nat) (M : Mem) (hA0 : M 0 = (vT B0 (nI n) (nI P) ki (nI s) va ec eo bs)) (hi : i < 14) (hsP : s ≤ P) (hP : P ≤ n) (hn : n ≤ 600) : MC l G yX6_isWord cX6_isWord 3 (some .boolean) ({ frames := 4, cells := 0, slots := 0, locals := 85 } : Room) [3] lk0 [rv 0 0, rv 97 i] (M) (fun r M2 => r = some (iv (isW bs ki s P (bytJS.getD i []))) ∧ M2 = M) := by
  obtain ⟨M0, rfl⟩ : ∃ M0, M = m1 ((vT B0 (nI n) (nI P) ki (nI s) va ec eo bs)) M0 := ⟨M, (m1_of hA0).symm⟩
  clear hA0
  refine MC.of RX6 [some (rv 0 0), some (rv 97 i), none] 1 (by decide +kernel) rfl rfl rfl ?_
  intro pp ee ss mm aa bb me cd ad E
  have hle := lenJS_le i hi
  have hlen := ch_len i hi
  refine r_aload_n E (dat dkX6_isWord 0 rfl) rfl rfl ?_
  refine q_getn E fl_X6_22 (dat dkX6_isWord 1 rfl) rfl rfl rfl (go1_0 gfT_3) ?_
  refine r_iconst (v := 1) E (dat dkX6_isWord 2 rfl) rfl ?_
  refine r_icmp_ne (tgt := 24) E (dat dkX6_isWord 3 rfl) rfl (fun h5 => ?_) (fun h5 => ?_)
  ·
    refine r_iconst (v := 0) E (dat dkX6_isWord 12 rfl) rfl ?_
    refine r_zreturn E (dat dkX6_isWord 13 rfl) rfl (by decide) (by decide) ?_
    refine ⟨?_, rfl⟩
    first
      | rw [isW_0 (fun q => h5 q.1)]
      | rw [isW_0 (fun q => by (have h1 := q.2.1; omega))]
  ·
    refine r_aload_n E (dat dkX6_isWord 4 rfl) rfl rfl ?_
    refine q_getn E fl_X6_19 (dat dkX6_isWord 5 rfl) rfl rfl rfl (go1_0 gfT_2) ?_
    refine r_aload_n E (dat dkX6_isWord 6 rfl) rfl rfl ?_
    refine q_getn E fl_X6_25 (dat dkX6_isWord 7 rfl) rfl rfl rfl (go1_0 gfT_4) ?_
    refine r_isub E (dat dkX6_isWord 8 rfl) ?_
    refine r_aload_n E (dat dkX6_isWord 9 rfl) rfl rfl ?_
    refine r_callK E (sp_J0_length_8abf5 l G i _ hi) (KRC_s E (by omega)) my_J0_length_8abf5 iv_J0_length_8abf5 ml_X6_41  rfl rfl (by decide) (Nat.le_of_ble_eq_true rfl) (dat dkX6_isWord 10 rfl) ?_
    rintro _ _ ⟨rfl, hM⟩
    refine ⟨hM, ?_⟩
    clear hM
    refine q_icmp_eq (tgt := 26) E (dat dkX6_isWord 11 rfl) rfl (nI_sb hsP) rfl (by omega) (by omega) (fun h21 => ?_) (fun h21 => ?_)
    ·
      refine r_iconst (v := 0) E (dat dkX6_isWord 14 rfl) rfl ?_
      refine r_istore_2 E (dat dkX6_isWord 15 rfl) rfl rfl ?_
      refine r_for ((lenJS.getD i 0)) (fun k => ∀ q, q < k → bs (s + q) = bJS i q) (fun k => m1 (vT B0 (nI n) (nI P) ki (nI s) va ec eo bs) M0) (fun k => [some (rv 0 0), some (rv 97 i), some (iv (nI k))]) (fun q hq => absurd hq (Nat.not_lt_zero q)) rfl rfl ?_ ?_
      · intro k hk hI kk
        refine r_iload_n E (dat dkX6_isWord 16 rfl) rfl rfl ?_
        refine r_aload_n E (dat dkX6_isWord 17 rfl) rfl rfl ?_
        refine r_callK E (sp_J0_length_8abf5 l G i _ hi) (KRC_s E (by omega)) my_J0_length_8abf5 iv_J0_length_8abf5 ml_X6_41  rfl rfl (by decide) (Nat.le_of_ble_eq_true rfl) (dat dkX6_isWord 18 rfl) ?_
        rintro _ _ ⟨rfl, hM⟩
        refine ⟨hM, ?_⟩
        clear hM
        refine q_icmp_ge (tgt := 63) E (dat dkX6_isWord 19 rfl) rfl rfl rfl (by omega) (by omega) (fun h33 => ?_) (fun h33 => ?_)
        ·
          omega
        ·
          refine r_aload_n E (dat dkX6_isWord 20 rfl) rfl rfl ?_
          refine q_geta E fl_X6_9 (dat dkX6_isWord 21 rfl) rfl rfl rfl ?_
          refine r_aload_n E (dat dkX6_isWord 22 rfl) rfl rfl ?_
          refine q_getn E fl_X6_25 (dat dkX6_isWord 23 rfl) rfl rfl rfl (go1_0 gfT_4) ?_
          refine r_iload_n E (dat dkX6_isWord 24 rfl) rfl rfl ?_
          refine r_iadd E (dat dkX6_isWord 25 rfl) ?_
          refine q_bald E (dat dkX6_isWord 26 rfl) rfl rfl (by decide) (gg1_0 gaT_1) (nI_add _ _) (show s + k < 600 by omega) ?_
          refine r_aload_n E (dat dkX6_isWord 27 rfl) rfl rfl ?_
          refine r_iload_n E (dat dkX6_isWord 28 rfl) rfl rfl ?_
          refine r_callK E (sp_J0_charAt_5068e l G i k _ hi hk) (KRC_s E (by omega)) my_J0_charAt_5068e iv_J0_charAt_5068e ml_X6_46  rfl rfl (by decide) (Nat.le_of_ble_eq_true rfl) (dat dkX6_isWord 29 rfl) ?_
          rintro _ _ ⟨rfl, hM⟩
          refine ⟨hM, ?_⟩
          clear hM
          refine r_icmp_eq (tgt := 57) E (dat dkX6_isWord 30 rfl) rfl (fun h52 => ?_) (fun h52 => ?_)
          ·
            refine q_iinc_2 E (dat dkX6_isWord 33 rfl) rfl rfl ?_
            refine r_goto (tgt := 28) E (dat dkX6_isWord 34 rfl) rfl ?_
            refine kk (fun q hq => ?_)
            by_cases hqk : q = k
            · subst hqk; exact h52
            · exact hI q (by omega)
          ·
            refine r_iconst (v := 0) E (dat dkX6_isWord 31 rfl) rfl ?_
            refine r_zreturn E (dat dkX6_isWord 32 rfl) rfl (by decide) (by decide) ?_
            refine ⟨?_, rfl⟩
            rw [isW_0 (fun q => h52 (q.2.2 k (by omega)))]
      · intro hI
        refine r_iload_n E (dat dkX6_isWord 16 rfl) rfl rfl ?_
        refine r_aload_n E (dat dkX6_isWord 17 rfl) rfl rfl ?_
        refine r_callK E (sp_J0_length_8abf5 l G i _ hi) (KRC_s E (by omega)) my_J0_length_8abf5 iv_J0_length_8abf5 ml_X6_41  rfl rfl (by decide) (Nat.le_of_ble_eq_true rfl) (dat dkX6_isWord 18 rfl) ?_
        rintro _ _ ⟨rfl, hM⟩
        refine ⟨hM, ?_⟩
        clear hM
        refine q_icmp_ge (tgt := 63) E (dat dkX6_isWord 19 rfl) rfl rfl rfl (by omega) (by omega) (fun h33 => ?_) (fun h33 => ?_)
        ·
          refine r_iconst (v := 1) E (dat dkX6_isWord 35 rfl) rfl ?_
          refine r_zreturn E (dat dkX6_isWord 36 rfl) rfl (by decide) (by decide) ?_
          refine ⟨?_, rfl⟩
          rw [isW_1 (by first | exact h5 | exact Decidable.not_not.mp h5) (by omega) (fun q hq => hI q (by omega))]
        ·
          omega
    ·
      refine r_iconst (v := 0) E (dat dkX6_isWord 12 rfl) rfl ?_
      refine r_zreturn E (dat dkX6_isWord 13 rfl) rfl (by decide) (by decide) ?_
      refine ⟨?_, rfl⟩
      first
        | rw [isW_0 (fun q => h5 q.1)]
        | rw [isW_0 (fun q => by (have h1 := q.2.1; omega))]

set_option maxRecDepth 100000 in
set_option maxHeartbeats 4000000 in
theorem sp_X6_putAll (l : Launch) (G : GT) (B0 : Nat → Nat → Int32) (n : Nat) (po ki st va ec eo : Int32) (bs : Nat → Int32) (i : Nat) (M : Mem) (hA0 : M 0 = (vT B0 (nI n) po ki st va ec eo bs)) (hi : i < 14) (hn : n + lenJS.getD i 0 ≤ 600) : MC l G yX6_putAll cX6_putAll 3 none ({ frames := 4, cells := 0, slots := 0, locals := 85 } : Room) [3] lk0 [rv 0 0, rv 97 i] (M) (fun r M2 => r = none ∧ M2 = setm M 0 (vT B0 (nI (n + lenJS.getD i 0)) po ki st va ec eo (paF bs n i (lenJS.getD i 0)))) := by
  obtain ⟨M0, rfl⟩ : ∃ M0, M = m1 ((vT B0 (nI n) po ki st va ec eo bs)) M0 := ⟨M, (m1_of hA0).symm⟩
  clear hA0
  refine MC.of RX6 [some (rv 0 0), some (rv 97 i), none] 1 (by decide +kernel) rfl rfl rfl ?_
  intro pp ee ss mm aa bb me cd ad E
  have hle := lenJS_le i hi
  refine r_iconst (v := 0) E (dat dkX6_putAll 0 rfl) rfl ?_
  refine r_istore_2 E (dat dkX6_putAll 1 rfl) rfl rfl ?_
  refine r_for ((lenJS.getD i 0)) (fun _ => True) (fun k => m1 (vT B0 (nI (n + k)) po ki st va ec eo (paF bs n i k)) M0) (fun k => [some (rv 0 0), some (rv 97 i), some (iv (nI k))]) trivial (by rw [paF_0]; rfl) rfl ?_ ?_
  · intro k hk hI kk
    refine r_iload_n E (dat dkX6_putAll 2 rfl) rfl rfl ?_
    refine r_aload_n E (dat dkX6_putAll 3 rfl) rfl rfl ?_
    refine r_callK E (sp_J0_length_8abf5 l G i _ hi) (KRC_s E (by omega)) my_J0_length_8abf5 iv_J0_length_8abf5 ml_X6_41  rfl rfl (by decide) (Nat.le_of_ble_eq_true rfl) (dat dkX6_putAll 4 rfl) ?_
    rintro _ _ ⟨rfl, hM⟩
    refine ⟨hM, ?_⟩
    clear hM
    refine q_icmp_ge (tgt := 26) E (dat dkX6_putAll 5 rfl) rfl rfl rfl (by omega) (by omega) (fun h7 => ?_) (fun h7 => ?_)
    ·
      omega
    ·
      refine r_aload_n E (dat dkX6_putAll 6 rfl) rfl rfl ?_
      refine r_aload_n E (dat dkX6_putAll 7 rfl) rfl rfl ?_
      refine r_iload_n E (dat dkX6_putAll 8 rfl) rfl rfl ?_
      refine r_callK E (sp_J0_charAt_5068e l G i k _ hi hk) (KRC_s E (by omega)) my_J0_charAt_5068e iv_J0_charAt_5068e ml_X6_46  rfl rfl (by decide) (Nat.le_of_ble_eq_true rfl) (dat dkX6_putAll 9 rfl) ?_
      rintro _ _ ⟨rfl, hM⟩
      refine ⟨hM, ?_⟩
      clear hM
      refine r_i2b E (dat dkX6_putAll 10 rfl) ?_
      rw [ch_b hi hk]
      refine r_callV (κ := 3) (μ := [0]) E (sp_X6_put l G B0 (n + k) po ki st va ec eo (paF bs n i k) (bJS i k) _ rfl (ch_b hi hk) (by omega)) my_X6_put iv_X6_put ml_X6_37 (cm_of rfl) ⟨by decide, rfl, rfl⟩ rfl rfl rfl rfl (by decide) (Nat.le_of_ble_eq_true rfl) (dat dkX6_putAll 11 rfl) ?_
      rintro _ _ ⟨rfl, rfl⟩
      refine ⟨_, Mrg_e (by decide) (by decide) pm1_0 rfl, ?_⟩
      refine q_iinc_2 E (dat dkX6_putAll 12 rfl) rfl rfl ?_
      refine r_goto (tgt := 2) E (dat dkX6_putAll 13 rfl) rfl ?_
      rw [paF_s rfl]
      exact kk trivial
  · intro hI
    refine r_iload_n E (dat dkX6_putAll 2 rfl) rfl rfl ?_
    refine r_aload_n E (dat dkX6_putAll 3 rfl) rfl rfl ?_
    refine r_callK E (sp_J0_length_8abf5 l G i _ hi) (KRC_s E (by omega)) my_J0_length_8abf5 iv_J0_length_8abf5 ml_X6_41  rfl rfl (by decide) (Nat.le_of_ble_eq_true rfl) (dat dkX6_putAll 4 rfl) ?_
    rintro _ _ ⟨rfl, hM⟩
    refine ⟨hM, ?_⟩
    clear hM
    refine q_icmp_ge (tgt := 26) E (dat dkX6_putAll 5 rfl) rfl rfl rfl (by omega) (by omega) (fun h7 => ?_) (fun h7 => ?_)
    ·
      refine r_vreturn E (dat dkX6_putAll 14 rfl) (by decide) (by decide) ?_
      exact ⟨rfl, by rw [pm1_0]⟩
    ·
      omega
