/-- start, end, token and value of the reference's text -/
def txM (M : Mem) (s p k v : Int32) : Mem := setm M 0 (sett (M 0) 0 (fun j => if j = 13 then s else if j = 14 then p else if j = 15 then k else if j = 16 then v else M 0 0 j))
theorem tx_of {M : Mem} : txM M (M 0 0 13) (M 0 0 14) (M 0 0 15) (M 0 0 16) = M := by
  funext g
  unfold txM setm
  split
  · rename_i h; subst h
    funext u
    unfold sett
    split
    · rename_i h; subst h
      funext j
      split
      · rename_i h; rw [h]
      · split
        · rename_i h; rw [h]
        · split
          · rename_i h; rw [h]
          · split
            · rename_i h; rw [h]
            · rfl
    · rfl
  · rfl
theorem tx_tx {M : Mem} {s p k v s2 p2 k2 v2 : Int32} : txM (txM M s p k v) s2 p2 k2 v2 = txM M s2 p2 k2 v2 := by
  show setm (txM M s p k v) 0 _ = setm M 0 _
  unfold txM
  rw [setm_setm, setm_s]
  congr 1
  funext u
  unfold sett
  by_cases h : u = 0
  · rw [if_pos h, if_pos h, if_pos rfl]
    funext j
    by_cases h1 : j = 13
    · rw [if_pos h1, if_pos h1]
    · rw [if_neg h1, if_neg h1]
      by_cases h2 : j = 14
      · rw [if_pos h2, if_neg h1, if_pos h2]
      · rw [if_neg h2, if_neg h2]
        by_cases h3 : j = 15
        · rw [if_pos h3, if_neg h1, if_neg h2, if_pos h3]
        · rw [if_neg h3, if_neg h3]
          by_cases h4 : j = 16
          · rw [if_pos h4, if_neg h1, if_neg h2, if_neg h3, if_pos h4]
          · rw [if_neg h4, if_neg h4, if_neg h1, if_neg h2, if_neg h3, if_neg h4]
  · rw [if_neg h, if_neg h, if_neg h]
theorem tx_13 {M : Mem} {s p k v : Int32} : txM M s p k v 0 0 13 = s := rfl
theorem tx_p13 {M : Mem} {s p k v w : Int32} : setm (txM M s p k v) 0 (sett (txM M s p k v 0) 0 (upd (txM M s p k v 0 0) 13 w)) = txM M w p k v := by
  unfold txM
  rw [setm_setm, setm_s]
  congr 1
  funext u
  unfold sett
  by_cases h : u = 0
  · rw [if_pos h, if_pos h, if_pos rfl]
    funext j
    unfold upd
    dsimp only
    by_cases h1 : j = 13
    · subst h1; rfl
    · rw [if_neg h1]
      first
        | rfl
        | (by_cases g1 : j = 13 <;> by_cases g2 : j = 14 <;> by_cases g3 : j = 15 <;> by_cases g4 : j = 16 <;> simp [g1, g2, g3, g4] <;> omega)
  · rw [if_neg h, if_neg h, if_neg h]
theorem tx_14 {M : Mem} {s p k v : Int32} : txM M s p k v 0 0 14 = p := rfl
theorem tx_p14 {M : Mem} {s p k v w : Int32} : setm (txM M s p k v) 0 (sett (txM M s p k v 0) 0 (upd (txM M s p k v 0 0) 14 w)) = txM M s w k v := by
  unfold txM
  rw [setm_setm, setm_s]
  congr 1
  funext u
  unfold sett
  by_cases h : u = 0
  · rw [if_pos h, if_pos h, if_pos rfl]
    funext j
    unfold upd
    dsimp only
    by_cases h1 : j = 14
    · subst h1; rfl
    · rw [if_neg h1]
      first
        | rfl
        | (by_cases g1 : j = 13 <;> by_cases g2 : j = 14 <;> by_cases g3 : j = 15 <;> by_cases g4 : j = 16 <;> simp [g1, g2, g3, g4] <;> omega)
  · rw [if_neg h, if_neg h, if_neg h]
theorem tx_15 {M : Mem} {s p k v : Int32} : txM M s p k v 0 0 15 = k := rfl
theorem tx_p15 {M : Mem} {s p k v w : Int32} : setm (txM M s p k v) 0 (sett (txM M s p k v 0) 0 (upd (txM M s p k v 0 0) 15 w)) = txM M s p w v := by
  unfold txM
  rw [setm_setm, setm_s]
  congr 1
  funext u
  unfold sett
  by_cases h : u = 0
  · rw [if_pos h, if_pos h, if_pos rfl]
    funext j
    unfold upd
    dsimp only
    by_cases h1 : j = 15
    · subst h1; rfl
    · rw [if_neg h1]
      first
        | rfl
        | (by_cases g1 : j = 13 <;> by_cases g2 : j = 14 <;> by_cases g3 : j = 15 <;> by_cases g4 : j = 16 <;> simp [g1, g2, g3, g4] <;> omega)
  · rw [if_neg h, if_neg h, if_neg h]
theorem tx_16 {M : Mem} {s p k v : Int32} : txM M s p k v 0 0 16 = v := rfl
theorem tx_p16 {M : Mem} {s p k v w : Int32} : setm (txM M s p k v) 0 (sett (txM M s p k v 0) 0 (upd (txM M s p k v 0 0) 16 w)) = txM M s p k w := by
  unfold txM
  rw [setm_setm, setm_s]
  congr 1
  funext u
  unfold sett
  by_cases h : u = 0
  · rw [if_pos h, if_pos h, if_pos rfl]
    funext j
    unfold upd
    dsimp only
    by_cases h1 : j = 16
    · subst h1; rfl
    · rw [if_neg h1]
      first
        | rfl
        | (by_cases g1 : j = 13 <;> by_cases g2 : j = 14 <;> by_cases g3 : j = 15 <;> by_cases g4 : j = 16 <;> simp [g1, g2, g3, g4] <;> omega)
  · rw [if_neg h, if_neg h, if_neg h]
theorem cB_a {x : Int32} (h : x = 32) : cB x = true := by subst h; rfl
theorem cB_b {x : Int32} (h : x = 10) : cB x = true := by subst h; rfl
theorem cB_c {x : Int32} (h1 : ¬ x = 32) (h2 : ¬ x = 10) : cB x = false := by
  unfold cB
  rw [decide_eq_false h1, decide_eq_false h2]; rfl
/-- the reference's value: the first two digits alone -/
def mV (b : Nat → Int32) (n p : Nat) (va : Int32) : Int32 := if n ≤ tS b n p then va else if cL (b (tS b n p)) then va else if cD (b (tS b n p)) then nvF b (tS b n p) (min (scan cD b n (tS b n p) - tS b n p) 2) else va
theorem nv_s {b : Nat → Int32} {s y : Nat} (hs : s ≤ y) (h : y - s < 2) : 10 * nvF b s (min (y - s) 2) + b y - 48 = nvF b s (min (y + 1 - s) 2) := by
  rw [Nat.min_eq_left (by omega), Nat.min_eq_left (by omega), show y + 1 - s = (y - s) + 1 by omega]
  show _ = 10 * nvF b s (y - s) + b (s + (y - s)) - 48
  rw [show s + (y - s) = y by omega]
theorem nv_k {b : Nat → Int32} {s y : Nat} (h : 2 ≤ y - s) : nvF b s (min (y - s) 2) = nvF b s (min (y + 1 - s) 2) := by
  rw [Nat.min_eq_right h, Nat.min_eq_right (by omega)]
theorem bi_f {p : Prop} [Decidable p] {q : Bool} (h : bi (decide p && q) = 0) : ¬ p ∨ q = false := by
  by_cases hp : p
  · rw [decide_eq_true hp, Bool.true_and] at h; exact Or.inr (bi_0 h)
  · exact Or.inl hp
theorem bi_t {p : Prop} [Decidable p] {q : Bool} (h : ¬ bi (decide p && q) = 0) : p ∧ q = true := by
  have := bi_1 h
  rw [Bool.and_eq_true, decide_eq_true_eq] at this
  exact this
set_option maxRecDepth 100000 in
set_option maxHeartbeats 16000000 in
theorem sp_X10_advanceToken (l : Launch) (G : GT) (bs : Nat → Int32) (n p : Nat) (va k0 : Int32) (M : Mem) (hB : M 0 10 = bs) (hn : M 0 0 10 = nI n) (hp : M 0 0 14 = nI p) (hk : M 0 0 15 = k0) (hv : M 0 0 16 = va) (hf : M 0 0 17 = 0) (hpn : p ≤ n) (hn6 : n ≤ 600) : MC l G yX10_advanceToken cX10_advanceToken 1 none ({ frames := 2, cells := 0, slots := 0, locals := 46 } : Room) [9] lk0 [rv 0 0] (M) (fun r M2 => r = none ∧ M2 = txM M (nI (tS bs n p)) (nI (tP bs n p)) (tK bs n p) (mV bs n p va)) := by
  refine MC.of RX10 [some (rv 0 0)] 0 (by decide +kernel) rfl rfl rfl ?_
  intro pp ee ss mm aa bb me cd ad E
  obtain ⟨M0, s0, rfl, hB0, hn0, hf0⟩ : ∃ M0 s0, M = txM M0 s0 (nI p) k0 va ∧ M0 0 10 = bs ∧ M0 0 0 10 = nI n ∧ M0 0 0 17 = 0 := ⟨M, M 0 0 13, by rw [← hp, ← hk, ← hv]; exact tx_of.symm, hB, hn, hf⟩
  clear hB hn hp hk hv hf
  
  refine r_aload_n E (dat dkX10_advanceToken 0 rfl) rfl rfl ?_
  refine q_getn E fl_X10_165 (dat dkX10_advanceToken 1 rfl) rfl rfl rfl (show txM M0 _ _ _ _ 0 0 17 = 0 from hf0) ?_
  refine r_if_le (tgt := 8) E (dat dkX10_advanceToken 2 rfl) rfl (fun h4 => ?_) (fun h4 => ?_)
  ·
    refine r_aload_n E (dat dkX10_advanceToken 4 rfl) rfl rfl ?_
    refine r_aload_n E (dat dkX10_advanceToken 5 rfl) rfl rfl ?_
    refine q_getn E fl_X10_168 (dat dkX10_advanceToken 6 rfl) rfl rfl rfl tx_14 ?_
    refine q_putn E ft_X10_171 (dat dkX10_advanceToken 7 rfl) rfl rfl rfl rfl ?_
    refine r_while (β := Nat) (fun x => n - x) (fun x => p ≤ x ∧ x ≤ n ∧ scan cB bs n x = scan cB bs n p) (fun x => txM M0 (nI x) (nI p) k0 va) (fun x => [some (rv 0 0)]) (p) ⟨Nat.le_refl p, hpn, rfl⟩ tx_p13.symm rfl ?_
    intro x hI kk
    refine r_aload_n E (dat dkX10_advanceToken 8 rfl) rfl rfl ?_
    refine q_getn E fl_X10_171 (dat dkX10_advanceToken 9 rfl) rfl rfl rfl tx_13 ?_
    refine r_aload_n E (dat dkX10_advanceToken 10 rfl) rfl rfl ?_
    refine q_getn E fl_X10_148 (dat dkX10_advanceToken 11 rfl) rfl rfl rfl (show txM M0 _ _ _ _ 0 0 10 = nI n from hn0) ?_
    refine q_icmp_ge (tgt := 68) E (dat dkX10_advanceToken 12 rfl) rfl rfl rfl (by omega) (by omega) (fun h24 => ?_) (fun h24 => ?_)
    ·
      have he : x = tS bs n p := by
        unfold tS
        rw [← hI.2.2]
        first
          | exact (scan_end h24).symm
          | exact (scan_no h24 (cB_c h38 h52)).symm
      refine r_aload_n E (dat dkX10_advanceToken 34 rfl) rfl rfl ?_
      refine r_aload_n E (dat dkX10_advanceToken 35 rfl) rfl rfl ?_
      refine q_getn E fl_X10_171 (dat dkX10_advanceToken 36 rfl) rfl rfl rfl tx_13 ?_
      refine q_putn E ft_X10_168 (dat dkX10_advanceToken 37 rfl) rfl rfl rfl rfl ?_
      rw [tx_p14]
      refine r_aload_n E (dat dkX10_advanceToken 38 rfl) rfl rfl ?_
      refine q_getn E fl_X10_171 (dat dkX10_advanceToken 39 rfl) rfl rfl rfl tx_13 ?_
      refine r_aload_n E (dat dkX10_advanceToken 40 rfl) rfl rfl ?_
      refine q_getn E fl_X10_148 (dat dkX10_advanceToken 41 rfl) rfl rfl rfl (show txM M0 _ _ _ _ 0 0 10 = nI n from hn0) ?_
      refine q_icmp_ne (tgt := 95) E (dat dkX10_advanceToken 42 rfl) rfl rfl rfl (by omega) (by omega) (fun h84 => ?_) (fun h84 => ?_)
      ·
        refine r_aload_n E (dat dkX10_advanceToken 47 rfl) rfl rfl ?_
        refine r_aload_n E (dat dkX10_advanceToken 48 rfl) rfl rfl ?_
        refine q_getn E fl_X10_171 (dat dkX10_advanceToken 49 rfl) rfl rfl rfl tx_13 ?_
        refine r_callV (κ := 9) (μ := []) E (sp_X10_isLetter l G bs n x _ hB0 hn0 hn6 (by omega)) my_X10_isLetter iv_X10_isLetter ml_X10_177 cm_id ⟨by decide, rfl, rfl⟩ rfl rfl rfl rfl (by decide) (Nat.le_of_ble_eq_true rfl) (dat dkX10_advanceToken 50 rfl) ?_
        rintro _ _ ⟨rfl, rfl⟩
        refine ⟨_, Mrg_z rfl, ?_⟩
        refine r_if_eq (tgt := 156) E (dat dkX10_advanceToken 51 rfl) rfl (fun h103 => ?_) (fun h103 => ?_)
        ·
          refine r_aload_n E (dat dkX10_advanceToken 77 rfl) rfl rfl ?_
          refine r_aload_n E (dat dkX10_advanceToken 78 rfl) rfl rfl ?_
          refine q_getn E fl_X10_171 (dat dkX10_advanceToken 79 rfl) rfl rfl rfl tx_13 ?_
          refine r_callV (κ := 9) (μ := []) E (sp_X10_isDigit l G bs n x _ hB0 hn0 hn6 (by omega)) my_X10_isDigit iv_X10_isDigit ml_X10_180 cm_id ⟨by decide, rfl, rfl⟩ rfl rfl rfl rfl (by decide) (Nat.le_of_ble_eq_true rfl) (dat dkX10_advanceToken 80 rfl) ?_
          rintro _ _ ⟨rfl, rfl⟩
          refine ⟨_, Mrg_z rfl, ?_⟩
          refine r_if_eq (tgt := 265) E (dat dkX10_advanceToken 81 rfl) rfl (fun h164 => ?_) (fun h164 => ?_)
          ·
            refine r_aload_n E (dat dkX10_advanceToken 134 rfl) rfl rfl ?_
            refine r_aload_n E (dat dkX10_advanceToken 135 rfl) rfl rfl ?_
            refine q_geta E fl_X10_25 (dat dkX10_advanceToken 136 rfl) rfl rfl rfl ?_
            refine r_aload_n E (dat dkX10_advanceToken 137 rfl) rfl rfl ?_
            refine q_getn E fl_X10_171 (dat dkX10_advanceToken 138 rfl) rfl rfl rfl tx_13 ?_
            refine q_bald E (dat dkX10_advanceToken 139 rfl) rfl rfl (by decide) (show txM M0 _ _ _ _ 0 10 = bs from hB0) rfl (by omega) ?_
            refine r_bipush (v := 59) E (dat dkX10_advanceToken 140 rfl) rfl ?_
            refine r_icmp_ne (tgt := 284) E (dat dkX10_advanceToken 141 rfl) rfl (fun h277 => ?_) (fun h277 => ?_)
            ·
              refine r_iconst (v := 4) E (dat dkX10_advanceToken 144 rfl) rfl ?_
              refine q_putn E ft_X10_174 (dat dkX10_advanceToken 145 rfl) rfl rfl rfl rfl ?_
              rw [tx_p15]
              refine r_aload_n E (dat dkX10_advanceToken 146 rfl) rfl rfl ?_
              refine r_dup E (dat dkX10_advanceToken 147 rfl) rfl ?_
              refine q_getn E fl_X10_168 (dat dkX10_advanceToken 148 rfl) rfl rfl rfl tx_14 ?_
              refine r_iconst (v := 1) E (dat dkX10_advanceToken 149 rfl) rfl ?_
              refine r_iadd E (dat dkX10_advanceToken 150 rfl) ?_
              refine q_putn E ft_X10_168 (dat dkX10_advanceToken 151 rfl) rfl rfl rfl rfl ?_
              first
                | rw [tx_p14, show nI x + 1 = nI (x + 1) from nI_1 x]
                | skip
              refine r_vreturn E (dat dkX10_advanceToken 152 rfl) (by decide) (by decide) ?_
              refine ⟨rfl, ?_⟩
              rw [tx_tx]
              unfold tP tK mV wK dK
              rw [← he]
              first
                | (simp only [show n ≤ x by omega, if_true]; done)
                | (have hc := (bi_t h103).2; simp only [show ¬ n ≤ x by omega, hc, if_true, if_false]; rw [← he2]; first | (rw [if_pos (by omega)]; done) | (rw [if_neg (by omega)]; done))
                | (have hc := (bi_f h103).resolve_left (by omega); have hd := (bi_t h164).2; simp only [show ¬ n ≤ x by omega, hc, hd, if_true, if_false, Bool.false_eq_true]; rw [← he2]; first | (rw [if_pos (by omega)]; done) | (rw [if_neg (by omega)]; done))
                | (have hc := (bi_f h103).resolve_left (by omega); have hd := (bi_f h164).resolve_left (by omega); simp only [show ¬ n ≤ x by omega, hc, hd, if_true, if_false, Bool.false_eq_true]; first | (rw [if_pos (by first | exact h277 | exact Decidable.not_not.mp h277)]; done) | (rw [if_neg h277]; done))
            ·
              refine r_iconst (v := 3) E (dat dkX10_advanceToken 142 rfl) rfl ?_
              refine r_goto (tgt := 285) E (dat dkX10_advanceToken 143 rfl) rfl ?_
              refine q_putn E ft_X10_174 (dat dkX10_advanceToken 145 rfl) rfl rfl rfl rfl ?_
              rw [tx_p15]
              refine r_aload_n E (dat dkX10_advanceToken 146 rfl) rfl rfl ?_
              refine r_dup E (dat dkX10_advanceToken 147 rfl) rfl ?_
              refine q_getn E fl_X10_168 (dat dkX10_advanceToken 148 rfl) rfl rfl rfl tx_14 ?_
              refine r_iconst (v := 1) E (dat dkX10_advanceToken 149 rfl) rfl ?_
              refine r_iadd E (dat dkX10_advanceToken 150 rfl) ?_
              refine q_putn E ft_X10_168 (dat dkX10_advanceToken 151 rfl) rfl rfl rfl rfl ?_
              first
                | rw [tx_p14, show nI x + 1 = nI (x + 1) from nI_1 x]
                | skip
              refine r_vreturn E (dat dkX10_advanceToken 152 rfl) (by decide) (by decide) ?_
              refine ⟨rfl, ?_⟩
              rw [tx_tx]
              unfold tP tK mV wK dK
              rw [← he]
              first
                | (simp only [show n ≤ x by omega, if_true]; done)
                | (have hc := (bi_t h103).2; simp only [show ¬ n ≤ x by omega, hc, if_true, if_false]; rw [← he2]; first | (rw [if_pos (by omega)]; done) | (rw [if_neg (by omega)]; done))
                | (have hc := (bi_f h103).resolve_left (by omega); have hd := (bi_t h164).2; simp only [show ¬ n ≤ x by omega, hc, hd, if_true, if_false, Bool.false_eq_true]; rw [← he2]; first | (rw [if_pos (by omega)]; done) | (rw [if_neg (by omega)]; done))
                | (have hc := (bi_f h103).resolve_left (by omega); have hd := (bi_f h164).resolve_left (by omega); simp only [show ¬ n ≤ x by omega, hc, hd, if_true, if_false, Bool.false_eq_true]; first | (rw [if_pos (by first | exact h277 | exact Decidable.not_not.mp h277)]; done) | (rw [if_neg h277]; done))
          ·
            refine r_aload_n E (dat dkX10_advanceToken 82 rfl) rfl rfl ?_
            refine r_iconst (v := 0) E (dat dkX10_advanceToken 83 rfl) rfl ?_
            refine q_putn E ft_X10_183 (dat dkX10_advanceToken 84 rfl) rfl rfl rfl rfl ?_
            refine r_while (β := Nat) (fun y => n - y) (fun y => x ≤ y ∧ y ≤ n ∧ scan cD bs n y = scan cD bs n x) (fun y => txM M0 (nI x) (nI y) k0 (nvF bs x (min (y - x) 2))) (fun y => [some (rv 0 0)]) (x) ⟨Nat.le_refl x, hI.2.1, rfl⟩ (by rw [tx_p16, Nat.sub_self]; rfl) rfl ?_
            intro y hJ kk2
            refine r_aload_n E (dat dkX10_advanceToken 85 rfl) rfl rfl ?_
            refine r_aload_n E (dat dkX10_advanceToken 86 rfl) rfl rfl ?_
            refine q_getn E fl_X10_168 (dat dkX10_advanceToken 87 rfl) rfl rfl rfl tx_14 ?_
            refine r_callV (κ := 9) (μ := []) E (sp_X10_isDigit l G bs n y _ hB0 hn0 hn6 (by omega)) my_X10_isDigit iv_X10_isDigit ml_X10_180 cm_id ⟨by decide, rfl, rfl⟩ rfl rfl rfl rfl (by decide) (Nat.le_of_ble_eq_true rfl) (dat dkX10_advanceToken 88 rfl) ?_
            rintro _ _ ⟨rfl, rfl⟩
            refine ⟨_, Mrg_z rfl, ?_⟩
            refine r_if_eq (tgt := 240) E (dat dkX10_advanceToken 89 rfl) rfl (fun h180 => ?_) (fun h180 => ?_)
            ·
              have he2 : y = scan cD bs n x := by
                rw [← hJ.2.2]
                rcases bi_f h180 with q | q
                · exact (scan_end (by omega)).symm
                · by_cases q2 : y < n
                  · exact (scan_no q2 q).symm
                  · exact (scan_end (by omega)).symm
              refine r_aload_n E (dat dkX10_advanceToken 121 rfl) rfl rfl ?_
              refine r_aload_n E (dat dkX10_advanceToken 122 rfl) rfl rfl ?_
              refine q_getn E fl_X10_168 (dat dkX10_advanceToken 123 rfl) rfl rfl rfl tx_14 ?_
              refine r_aload_n E (dat dkX10_advanceToken 124 rfl) rfl rfl ?_
              refine q_getn E fl_X10_171 (dat dkX10_advanceToken 125 rfl) rfl rfl rfl tx_13 ?_
              refine r_isub E (dat dkX10_advanceToken 126 rfl) ?_
              refine r_iconst (v := 2) E (dat dkX10_advanceToken 127 rfl) rfl ?_
              refine q_icmp_le (tgt := 258) E (dat dkX10_advanceToken 128 rfl) rfl (pk_sub hJ.1) (b := 2) rfl (by omega) (by omega) (fun h251 => ?_) (fun h251 => ?_)
              ·
                refine r_iconst (v := 2) E (dat dkX10_advanceToken 131 rfl) rfl ?_
                refine q_putn E ft_X10_174 (dat dkX10_advanceToken 132 rfl) rfl rfl rfl rfl ?_
                rw [tx_p15]
                refine r_goto (tgt := 298) E (dat dkX10_advanceToken 133 rfl) rfl ?_
                first
                  | rw [tx_p14, show nI x + 1 = nI (x + 1) from nI_1 x]
                  | skip
                refine r_vreturn E (dat dkX10_advanceToken 152 rfl) (by decide) (by decide) ?_
                refine ⟨rfl, ?_⟩
                rw [tx_tx]
                unfold tP tK mV wK dK
                rw [← he]
                first
                  | (simp only [show n ≤ x by omega, if_true]; done)
                  | (have hc := (bi_t h103).2; simp only [show ¬ n ≤ x by omega, hc, if_true, if_false]; rw [← he2]; first | (rw [if_pos (by omega)]; done) | (rw [if_neg (by omega)]; done))
                  | (have hc := (bi_f h103).resolve_left (by omega); have hd := (bi_t h164).2; simp only [show ¬ n ≤ x by omega, hc, hd, if_true, if_false, Bool.false_eq_true]; rw [← he2]; first | (rw [if_pos (by omega)]; done) | (rw [if_neg (by omega)]; done))
                  | (have hc := (bi_f h103).resolve_left (by omega); have hd := (bi_f h164).resolve_left (by omega); simp only [show ¬ n ≤ x by omega, hc, hd, if_true, if_false, Bool.false_eq_true]; first | (rw [if_pos (by first | exact h277 | exact Decidable.not_not.mp h277)]; done) | (rw [if_neg h277]; done))
              ·
                refine r_iconst (v := 4) E (dat dkX10_advanceToken 129 rfl) rfl ?_
                refine r_goto (tgt := 259) E (dat dkX10_advanceToken 130 rfl) rfl ?_
                refine q_putn E ft_X10_174 (dat dkX10_advanceToken 132 rfl) rfl rfl rfl rfl ?_
                rw [tx_p15]
                refine r_goto (tgt := 298) E (dat dkX10_advanceToken 133 rfl) rfl ?_
                first
                  | rw [tx_p14, show nI x + 1 = nI (x + 1) from nI_1 x]
                  | skip
                refine r_vreturn E (dat dkX10_advanceToken 152 rfl) (by decide) (by decide) ?_
                refine ⟨rfl, ?_⟩
                rw [tx_tx]
                unfold tP tK mV wK dK
                rw [← he]
                first
                  | (simp only [show n ≤ x by omega, if_true]; done)
                  | (have hc := (bi_t h103).2; simp only [show ¬ n ≤ x by omega, hc, if_true, if_false]; rw [← he2]; first | (rw [if_pos (by omega)]; done) | (rw [if_neg (by omega)]; done))
                  | (have hc := (bi_f h103).resolve_left (by omega); have hd := (bi_t h164).2; simp only [show ¬ n ≤ x by omega, hc, hd, if_true, if_false, Bool.false_eq_true]; rw [← he2]; first | (rw [if_pos (by omega)]; done) | (rw [if_neg (by omega)]; done))
                  | (have hc := (bi_f h103).resolve_left (by omega); have hd := (bi_f h164).resolve_left (by omega); simp only [show ¬ n ≤ x by omega, hc, hd, if_true, if_false, Bool.false_eq_true]; first | (rw [if_pos (by first | exact h277 | exact Decidable.not_not.mp h277)]; done) | (rw [if_neg h277]; done))
            ·
              refine r_aload_n E (dat dkX10_advanceToken 90 rfl) rfl rfl ?_
              refine r_aload_n E (dat dkX10_advanceToken 91 rfl) rfl rfl ?_
              refine q_getn E fl_X10_168 (dat dkX10_advanceToken 92 rfl) rfl rfl rfl tx_14 ?_
              refine r_aload_n E (dat dkX10_advanceToken 93 rfl) rfl rfl ?_
              refine q_getn E fl_X10_171 (dat dkX10_advanceToken 94 rfl) rfl rfl rfl tx_13 ?_
              refine r_isub E (dat dkX10_advanceToken 95 rfl) ?_
              refine r_iconst (v := 2) E (dat dkX10_advanceToken 96 rfl) rfl ?_
              refine q_icmp_ge (tgt := 220) E (dat dkX10_advanceToken 97 rfl) rfl (pk_sub hJ.1) (b := 2) rfl (by omega) (by omega) (fun h194 => ?_) (fun h194 => ?_)
              ·
                refine r_aload_n E (dat dkX10_advanceToken 111 rfl) rfl rfl ?_
                refine q_getn E fl_X10_183 (dat dkX10_advanceToken 112 rfl) rfl rfl rfl tx_16 ?_
                refine q_putn E ft_X10_183 (dat dkX10_advanceToken 113 rfl) rfl rfl rfl rfl ?_
                rw [tx_p16]
                refine r_aload_n E (dat dkX10_advanceToken 114 rfl) rfl rfl ?_
                refine r_dup E (dat dkX10_advanceToken 115 rfl) rfl ?_
                refine q_getn E fl_X10_168 (dat dkX10_advanceToken 116 rfl) rfl rfl rfl tx_14 ?_
                refine r_iconst (v := 1) E (dat dkX10_advanceToken 117 rfl) rfl ?_
                refine r_iadd E (dat dkX10_advanceToken 118 rfl) ?_
                refine q_putn E ft_X10_168 (dat dkX10_advanceToken 119 rfl) rfl rfl rfl rfl ?_
                rw [tx_p14, show nI y + 1 = nI (y + 1) from nI_1 y]
                refine r_goto (tgt := 172) E (dat dkX10_advanceToken 120 rfl) rfl ?_
                first
                  | rw [nv_s hJ.1 h194]
                  | rw [nv_k h194]
                exact kk2 (y + 1) ⟨by omega, by have := (bi_t h180).1; omega, (scan_go (bi_t h180).1 (bi_t h180).2).trans hJ.2.2⟩ (by have := (bi_t h180).1; omega)
              ·
                refine r_bipush (v := 10) E (dat dkX10_advanceToken 98 rfl) rfl ?_
                refine r_aload_n E (dat dkX10_advanceToken 99 rfl) rfl rfl ?_
                refine q_getn E fl_X10_183 (dat dkX10_advanceToken 100 rfl) rfl rfl rfl tx_16 ?_
                refine r_imul E (dat dkX10_advanceToken 101 rfl) ?_
                refine r_aload_n E (dat dkX10_advanceToken 102 rfl) rfl rfl ?_
                refine q_geta E fl_X10_25 (dat dkX10_advanceToken 103 rfl) rfl rfl rfl ?_
                refine r_aload_n E (dat dkX10_advanceToken 104 rfl) rfl rfl ?_
                refine q_getn E fl_X10_168 (dat dkX10_advanceToken 105 rfl) rfl rfl rfl tx_14 ?_
                refine q_bald E (dat dkX10_advanceToken 106 rfl) rfl rfl (by decide) (show txM M0 _ _ _ _ 0 10 = bs from hB0) rfl (by have := (bi_t h180).1; omega) ?_
                refine r_iadd E (dat dkX10_advanceToken 107 rfl) ?_
                refine r_bipush (v := 48) E (dat dkX10_advanceToken 108 rfl) rfl ?_
                refine r_isub E (dat dkX10_advanceToken 109 rfl) ?_
                refine r_goto (tgt := 224) E (dat dkX10_advanceToken 110 rfl) rfl ?_
                refine q_putn E ft_X10_183 (dat dkX10_advanceToken 113 rfl) rfl rfl rfl rfl ?_
                rw [tx_p16]
                refine r_aload_n E (dat dkX10_advanceToken 114 rfl) rfl rfl ?_
                refine r_dup E (dat dkX10_advanceToken 115 rfl) rfl ?_
                refine q_getn E fl_X10_168 (dat dkX10_advanceToken 116 rfl) rfl rfl rfl tx_14 ?_
                refine r_iconst (v := 1) E (dat dkX10_advanceToken 117 rfl) rfl ?_
                refine r_iadd E (dat dkX10_advanceToken 118 rfl) ?_
                refine q_putn E ft_X10_168 (dat dkX10_advanceToken 119 rfl) rfl rfl rfl rfl ?_
                rw [tx_p14, show nI y + 1 = nI (y + 1) from nI_1 y]
                refine r_goto (tgt := 172) E (dat dkX10_advanceToken 120 rfl) rfl ?_
                first
                  | rw [nv_s hJ.1 h194]
                  | rw [nv_k h194]
                exact kk2 (y + 1) ⟨by omega, by have := (bi_t h180).1; omega, (scan_go (bi_t h180).1 (bi_t h180).2).trans hJ.2.2⟩ (by have := (bi_t h180).1; omega)
        ·
          refine r_while (β := Nat) (fun y => n - y) (fun y => x ≤ y ∧ y ≤ n ∧ scan cL bs n y = scan cL bs n x) (fun y => txM M0 (nI x) (nI y) k0 va) (fun y => [some (rv 0 0)]) (x) ⟨Nat.le_refl x, hI.2.1, rfl⟩ rfl rfl ?_
          intro y hJ kk2
          refine r_aload_n E (dat dkX10_advanceToken 52 rfl) rfl rfl ?_
          refine r_aload_n E (dat dkX10_advanceToken 53 rfl) rfl rfl ?_
          refine q_getn E fl_X10_168 (dat dkX10_advanceToken 54 rfl) rfl rfl rfl tx_14 ?_
          refine r_callV (κ := 9) (μ := []) E (sp_X10_isLetter l G bs n y _ hB0 hn0 hn6 (by omega)) my_X10_isLetter iv_X10_isLetter ml_X10_177 cm_id ⟨by decide, rfl, rfl⟩ rfl rfl rfl rfl (by decide) (Nat.le_of_ble_eq_true rfl) (dat dkX10_advanceToken 55 rfl) ?_
          rintro _ _ ⟨rfl, rfl⟩
          refine ⟨_, Mrg_z rfl, ?_⟩
          refine r_if_eq (tgt := 130) E (dat dkX10_advanceToken 56 rfl) rfl (fun h114 => ?_) (fun h114 => ?_)
          ·
            have he2 : y = scan cL bs n x := by
              rw [← hJ.2.2]
              rcases bi_f h114 with q | q
              · exact (scan_end (by omega)).symm
              · by_cases q2 : y < n
                · exact (scan_no q2 q).symm
                · exact (scan_end (by omega)).symm
            refine r_aload_n E (dat dkX10_advanceToken 64 rfl) rfl rfl ?_
            refine r_aload_n E (dat dkX10_advanceToken 65 rfl) rfl rfl ?_
            refine q_getn E fl_X10_168 (dat dkX10_advanceToken 66 rfl) rfl rfl rfl tx_14 ?_
            refine r_aload_n E (dat dkX10_advanceToken 67 rfl) rfl rfl ?_
            refine q_getn E fl_X10_171 (dat dkX10_advanceToken 68 rfl) rfl rfl rfl tx_13 ?_
            refine r_isub E (dat dkX10_advanceToken 69 rfl) ?_
            refine r_bipush (v := 8) E (dat dkX10_advanceToken 70 rfl) rfl ?_
            refine q_icmp_le (tgt := 149) E (dat dkX10_advanceToken 71 rfl) rfl (pk_sub hJ.1) (b := 8) rfl (by omega) (by omega) (fun h142 => ?_) (fun h142 => ?_)
            ·
              refine r_iconst (v := 1) E (dat dkX10_advanceToken 74 rfl) rfl ?_
              refine q_putn E ft_X10_174 (dat dkX10_advanceToken 75 rfl) rfl rfl rfl rfl ?_
              rw [tx_p15]
              refine r_goto (tgt := 298) E (dat dkX10_advanceToken 76 rfl) rfl ?_
              first
                | rw [tx_p14, show nI x + 1 = nI (x + 1) from nI_1 x]
                | skip
              refine r_vreturn E (dat dkX10_advanceToken 152 rfl) (by decide) (by decide) ?_
              refine ⟨rfl, ?_⟩
              rw [tx_tx]
              unfold tP tK mV wK dK
              rw [← he]
              first
                | (simp only [show n ≤ x by omega, if_true]; done)
                | (have hc := (bi_t h103).2; simp only [show ¬ n ≤ x by omega, hc, if_true, if_false]; rw [← he2]; first | (rw [if_pos (by omega)]; done) | (rw [if_neg (by omega)]; done))
                | (have hc := (bi_f h103).resolve_left (by omega); have hd := (bi_t h164).2; simp only [show ¬ n ≤ x by omega, hc, hd, if_true, if_false, Bool.false_eq_true]; rw [← he2]; first | (rw [if_pos (by omega)]; done) | (rw [if_neg (by omega)]; done))
                | (have hc := (bi_f h103).resolve_left (by omega); have hd := (bi_f h164).resolve_left (by omega); simp only [show ¬ n ≤ x by omega, hc, hd, if_true, if_false, Bool.false_eq_true]; first | (rw [if_pos (by first | exact h277 | exact Decidable.not_not.mp h277)]; done) | (rw [if_neg h277]; done))
            ·
              refine r_iconst (v := 4) E (dat dkX10_advanceToken 72 rfl) rfl ?_
              refine r_goto (tgt := 150) E (dat dkX10_advanceToken 73 rfl) rfl ?_
              refine q_putn E ft_X10_174 (dat dkX10_advanceToken 75 rfl) rfl rfl rfl rfl ?_
              rw [tx_p15]
              refine r_goto (tgt := 298) E (dat dkX10_advanceToken 76 rfl) rfl ?_
              first
                | rw [tx_p14, show nI x + 1 = nI (x + 1) from nI_1 x]
                | skip
              refine r_vreturn E (dat dkX10_advanceToken 152 rfl) (by decide) (by decide) ?_
              refine ⟨rfl, ?_⟩
              rw [tx_tx]
              unfold tP tK mV wK dK
              rw [← he]
              first
                | (simp only [show n ≤ x by omega, if_true]; done)
                | (have hc := (bi_t h103).2; simp only [show ¬ n ≤ x by omega, hc, if_true, if_false]; rw [← he2]; first | (rw [if_pos (by omega)]; done) | (rw [if_neg (by omega)]; done))
                | (have hc := (bi_f h103).resolve_left (by omega); have hd := (bi_t h164).2; simp only [show ¬ n ≤ x by omega, hc, hd, if_true, if_false, Bool.false_eq_true]; rw [← he2]; first | (rw [if_pos (by omega)]; done) | (rw [if_neg (by omega)]; done))
                | (have hc := (bi_f h103).resolve_left (by omega); have hd := (bi_f h164).resolve_left (by omega); simp only [show ¬ n ≤ x by omega, hc, hd, if_true, if_false, Bool.false_eq_true]; first | (rw [if_pos (by first | exact h277 | exact Decidable.not_not.mp h277)]; done) | (rw [if_neg h277]; done))
          ·
            refine r_aload_n E (dat dkX10_advanceToken 57 rfl) rfl rfl ?_
            refine r_dup E (dat dkX10_advanceToken 58 rfl) rfl ?_
            refine q_getn E fl_X10_168 (dat dkX10_advanceToken 59 rfl) rfl rfl rfl tx_14 ?_
            refine r_iconst (v := 1) E (dat dkX10_advanceToken 60 rfl) rfl ?_
            refine r_iadd E (dat dkX10_advanceToken 61 rfl) ?_
            refine q_putn E ft_X10_168 (dat dkX10_advanceToken 62 rfl) rfl rfl rfl rfl ?_
            rw [tx_p14, show nI y + 1 = nI (y + 1) from nI_1 y]
            refine r_goto (tgt := 106) E (dat dkX10_advanceToken 63 rfl) rfl ?_
            exact kk2 (y + 1) ⟨by omega, by have := (bi_t h114).1; omega, (scan_go (bi_t h114).1 (bi_t h114).2).trans hJ.2.2⟩ (by have := (bi_t h114).1; omega)
      ·
        refine r_aload_n E (dat dkX10_advanceToken 43 rfl) rfl rfl ?_
        refine r_iconst (v := 0) E (dat dkX10_advanceToken 44 rfl) rfl ?_
        refine q_putn E ft_X10_174 (dat dkX10_advanceToken 45 rfl) rfl rfl rfl rfl ?_
        rw [tx_p15]
        refine r_goto (tgt := 298) E (dat dkX10_advanceToken 46 rfl) rfl ?_
        first
          | rw [tx_p14, show nI x + 1 = nI (x + 1) from nI_1 x]
          | skip
        refine r_vreturn E (dat dkX10_advanceToken 152 rfl) (by decide) (by decide) ?_
        refine ⟨rfl, ?_⟩
        rw [tx_tx]
        unfold tP tK mV wK dK
        rw [← he]
        first
          | (simp only [show n ≤ x by omega, if_true]; done)
          | (have hc := (bi_t h103).2; simp only [show ¬ n ≤ x by omega, hc, if_true, if_false]; rw [← he2]; first | (rw [if_pos (by omega)]; done) | (rw [if_neg (by omega)]; done))
          | (have hc := (bi_f h103).resolve_left (by omega); have hd := (bi_t h164).2; simp only [show ¬ n ≤ x by omega, hc, hd, if_true, if_false, Bool.false_eq_true]; rw [← he2]; first | (rw [if_pos (by omega)]; done) | (rw [if_neg (by omega)]; done))
          | (have hc := (bi_f h103).resolve_left (by omega); have hd := (bi_f h164).resolve_left (by omega); simp only [show ¬ n ≤ x by omega, hc, hd, if_true, if_false, Bool.false_eq_true]; first | (rw [if_pos (by first | exact h277 | exact Decidable.not_not.mp h277)]; done) | (rw [if_neg h277]; done))
    ·
      refine r_aload_n E (dat dkX10_advanceToken 13 rfl) rfl rfl ?_
      refine q_geta E fl_X10_25 (dat dkX10_advanceToken 14 rfl) rfl rfl rfl ?_
      refine r_aload_n E (dat dkX10_advanceToken 15 rfl) rfl rfl ?_
      refine q_getn E fl_X10_171 (dat dkX10_advanceToken 16 rfl) rfl rfl rfl tx_13 ?_
      refine q_bald E (dat dkX10_advanceToken 17 rfl) rfl rfl (by decide) (show txM M0 _ _ _ _ 0 10 = bs from hB0) rfl (by omega) ?_
      refine r_bipush (v := 32) E (dat dkX10_advanceToken 18 rfl) rfl ?_
      refine r_icmp_eq (tgt := 55) E (dat dkX10_advanceToken 19 rfl) rfl (fun h38 => ?_) (fun h38 => ?_)
      ·
        refine r_aload_n E (dat dkX10_advanceToken 27 rfl) rfl rfl ?_
        refine r_dup E (dat dkX10_advanceToken 28 rfl) rfl ?_
        refine q_getn E fl_X10_171 (dat dkX10_advanceToken 29 rfl) rfl rfl rfl tx_13 ?_
        refine r_iconst (v := 1) E (dat dkX10_advanceToken 30 rfl) rfl ?_
        refine r_iadd E (dat dkX10_advanceToken 31 rfl) ?_
        refine q_putn E ft_X10_171 (dat dkX10_advanceToken 32 rfl) rfl rfl rfl rfl ?_
        rw [tx_p13, show nI x + 1 = nI (x + 1) from nI_1 x]
        refine r_goto (tgt := 16) E (dat dkX10_advanceToken 33 rfl) rfl ?_
        exact kk (x + 1) ⟨by omega, by omega, (scan_go h24 (by first | exact cB_a h38 | exact cB_b (by first | exact h52 | exact Decidable.not_not.mp h52))).trans hI.2.2⟩ (by omega)
      ·
        refine r_aload_n E (dat dkX10_advanceToken 20 rfl) rfl rfl ?_
        refine q_geta E fl_X10_25 (dat dkX10_advanceToken 21 rfl) rfl rfl rfl ?_
        refine r_aload_n E (dat dkX10_advanceToken 22 rfl) rfl rfl ?_
        refine q_getn E fl_X10_171 (dat dkX10_advanceToken 23 rfl) rfl rfl rfl tx_13 ?_
        refine q_bald E (dat dkX10_advanceToken 24 rfl) rfl rfl (by decide) (show txM M0 _ _ _ _ 0 10 = bs from hB0) rfl (by omega) ?_
        refine r_bipush (v := 10) E (dat dkX10_advanceToken 25 rfl) rfl ?_
        refine r_icmp_ne (tgt := 68) E (dat dkX10_advanceToken 26 rfl) rfl (fun h52 => ?_) (fun h52 => ?_)
        ·
          have he : x = tS bs n p := by
            unfold tS
            rw [← hI.2.2]
            first
              | exact (scan_end h24).symm
              | exact (scan_no h24 (cB_c h38 h52)).symm
          refine r_aload_n E (dat dkX10_advanceToken 34 rfl) rfl rfl ?_
          refine r_aload_n E (dat dkX10_advanceToken 35 rfl) rfl rfl ?_
          refine q_getn E fl_X10_171 (dat dkX10_advanceToken 36 rfl) rfl rfl rfl tx_13 ?_
          refine q_putn E ft_X10_168 (dat dkX10_advanceToken 37 rfl) rfl rfl rfl rfl ?_
          rw [tx_p14]
          refine r_aload_n E (dat dkX10_advanceToken 38 rfl) rfl rfl ?_
          refine q_getn E fl_X10_171 (dat dkX10_advanceToken 39 rfl) rfl rfl rfl tx_13 ?_
          refine r_aload_n E (dat dkX10_advanceToken 40 rfl) rfl rfl ?_
          refine q_getn E fl_X10_148 (dat dkX10_advanceToken 41 rfl) rfl rfl rfl (show txM M0 _ _ _ _ 0 0 10 = nI n from hn0) ?_
          refine q_icmp_ne (tgt := 95) E (dat dkX10_advanceToken 42 rfl) rfl rfl rfl (by omega) (by omega) (fun h84 => ?_) (fun h84 => ?_)
          ·
            refine r_aload_n E (dat dkX10_advanceToken 47 rfl) rfl rfl ?_
            refine r_aload_n E (dat dkX10_advanceToken 48 rfl) rfl rfl ?_
            refine q_getn E fl_X10_171 (dat dkX10_advanceToken 49 rfl) rfl rfl rfl tx_13 ?_
            refine r_callV (κ := 9) (μ := []) E (sp_X10_isLetter l G bs n x _ hB0 hn0 hn6 (by omega)) my_X10_isLetter iv_X10_isLetter ml_X10_177 cm_id ⟨by decide, rfl, rfl⟩ rfl rfl rfl rfl (by decide) (Nat.le_of_ble_eq_true rfl) (dat dkX10_advanceToken 50 rfl) ?_
            rintro _ _ ⟨rfl, rfl⟩
            refine ⟨_, Mrg_z rfl, ?_⟩
            refine r_if_eq (tgt := 156) E (dat dkX10_advanceToken 51 rfl) rfl (fun h103 => ?_) (fun h103 => ?_)
            ·
              refine r_aload_n E (dat dkX10_advanceToken 77 rfl) rfl rfl ?_
              refine r_aload_n E (dat dkX10_advanceToken 78 rfl) rfl rfl ?_
              refine q_getn E fl_X10_171 (dat dkX10_advanceToken 79 rfl) rfl rfl rfl tx_13 ?_
              refine r_callV (κ := 9) (μ := []) E (sp_X10_isDigit l G bs n x _ hB0 hn0 hn6 (by omega)) my_X10_isDigit iv_X10_isDigit ml_X10_180 cm_id ⟨by decide, rfl, rfl⟩ rfl rfl rfl rfl (by decide) (Nat.le_of_ble_eq_true rfl) (dat dkX10_advanceToken 80 rfl) ?_
              rintro _ _ ⟨rfl, rfl⟩
              refine ⟨_, Mrg_z rfl, ?_⟩
              refine r_if_eq (tgt := 265) E (dat dkX10_advanceToken 81 rfl) rfl (fun h164 => ?_) (fun h164 => ?_)
              ·
                refine r_aload_n E (dat dkX10_advanceToken 134 rfl) rfl rfl ?_
                refine r_aload_n E (dat dkX10_advanceToken 135 rfl) rfl rfl ?_
                refine q_geta E fl_X10_25 (dat dkX10_advanceToken 136 rfl) rfl rfl rfl ?_
                refine r_aload_n E (dat dkX10_advanceToken 137 rfl) rfl rfl ?_
                refine q_getn E fl_X10_171 (dat dkX10_advanceToken 138 rfl) rfl rfl rfl tx_13 ?_
                refine q_bald E (dat dkX10_advanceToken 139 rfl) rfl rfl (by decide) (show txM M0 _ _ _ _ 0 10 = bs from hB0) rfl (by omega) ?_
                refine r_bipush (v := 59) E (dat dkX10_advanceToken 140 rfl) rfl ?_
                refine r_icmp_ne (tgt := 284) E (dat dkX10_advanceToken 141 rfl) rfl (fun h277 => ?_) (fun h277 => ?_)
                ·
                  refine r_iconst (v := 4) E (dat dkX10_advanceToken 144 rfl) rfl ?_
                  refine q_putn E ft_X10_174 (dat dkX10_advanceToken 145 rfl) rfl rfl rfl rfl ?_
                  rw [tx_p15]
                  refine r_aload_n E (dat dkX10_advanceToken 146 rfl) rfl rfl ?_
                  refine r_dup E (dat dkX10_advanceToken 147 rfl) rfl ?_
                  refine q_getn E fl_X10_168 (dat dkX10_advanceToken 148 rfl) rfl rfl rfl tx_14 ?_
                  refine r_iconst (v := 1) E (dat dkX10_advanceToken 149 rfl) rfl ?_
                  refine r_iadd E (dat dkX10_advanceToken 150 rfl) ?_
                  refine q_putn E ft_X10_168 (dat dkX10_advanceToken 151 rfl) rfl rfl rfl rfl ?_
                  first
                    | rw [tx_p14, show nI x + 1 = nI (x + 1) from nI_1 x]
                    | skip
                  refine r_vreturn E (dat dkX10_advanceToken 152 rfl) (by decide) (by decide) ?_
                  refine ⟨rfl, ?_⟩
                  rw [tx_tx]
                  unfold tP tK mV wK dK
                  rw [← he]
                  first
                    | (simp only [show n ≤ x by omega, if_true]; done)
                    | (have hc := (bi_t h103).2; simp only [show ¬ n ≤ x by omega, hc, if_true, if_false]; rw [← he2]; first | (rw [if_pos (by omega)]; done) | (rw [if_neg (by omega)]; done))
                    | (have hc := (bi_f h103).resolve_left (by omega); have hd := (bi_t h164).2; simp only [show ¬ n ≤ x by omega, hc, hd, if_true, if_false, Bool.false_eq_true]; rw [← he2]; first | (rw [if_pos (by omega)]; done) | (rw [if_neg (by omega)]; done))
                    | (have hc := (bi_f h103).resolve_left (by omega); have hd := (bi_f h164).resolve_left (by omega); simp only [show ¬ n ≤ x by omega, hc, hd, if_true, if_false, Bool.false_eq_true]; first | (rw [if_pos (by first | exact h277 | exact Decidable.not_not.mp h277)]; done) | (rw [if_neg h277]; done))
                ·
                  refine r_iconst (v := 3) E (dat dkX10_advanceToken 142 rfl) rfl ?_
                  refine r_goto (tgt := 285) E (dat dkX10_advanceToken 143 rfl) rfl ?_
                  refine q_putn E ft_X10_174 (dat dkX10_advanceToken 145 rfl) rfl rfl rfl rfl ?_
                  rw [tx_p15]
                  refine r_aload_n E (dat dkX10_advanceToken 146 rfl) rfl rfl ?_
                  refine r_dup E (dat dkX10_advanceToken 147 rfl) rfl ?_
                  refine q_getn E fl_X10_168 (dat dkX10_advanceToken 148 rfl) rfl rfl rfl tx_14 ?_
                  refine r_iconst (v := 1) E (dat dkX10_advanceToken 149 rfl) rfl ?_
                  refine r_iadd E (dat dkX10_advanceToken 150 rfl) ?_
                  refine q_putn E ft_X10_168 (dat dkX10_advanceToken 151 rfl) rfl rfl rfl rfl ?_
                  first
                    | rw [tx_p14, show nI x + 1 = nI (x + 1) from nI_1 x]
                    | skip
                  refine r_vreturn E (dat dkX10_advanceToken 152 rfl) (by decide) (by decide) ?_
                  refine ⟨rfl, ?_⟩
                  rw [tx_tx]
                  unfold tP tK mV wK dK
                  rw [← he]
                  first
                    | (simp only [show n ≤ x by omega, if_true]; done)
                    | (have hc := (bi_t h103).2; simp only [show ¬ n ≤ x by omega, hc, if_true, if_false]; rw [← he2]; first | (rw [if_pos (by omega)]; done) | (rw [if_neg (by omega)]; done))
                    | (have hc := (bi_f h103).resolve_left (by omega); have hd := (bi_t h164).2; simp only [show ¬ n ≤ x by omega, hc, hd, if_true, if_false, Bool.false_eq_true]; rw [← he2]; first | (rw [if_pos (by omega)]; done) | (rw [if_neg (by omega)]; done))
                    | (have hc := (bi_f h103).resolve_left (by omega); have hd := (bi_f h164).resolve_left (by omega); simp only [show ¬ n ≤ x by omega, hc, hd, if_true, if_false, Bool.false_eq_true]; first | (rw [if_pos (by first | exact h277 | exact Decidable.not_not.mp h277)]; done) | (rw [if_neg h277]; done))
              ·
                refine r_aload_n E (dat dkX10_advanceToken 82 rfl) rfl rfl ?_
                refine r_iconst (v := 0) E (dat dkX10_advanceToken 83 rfl) rfl ?_
                refine q_putn E ft_X10_183 (dat dkX10_advanceToken 84 rfl) rfl rfl rfl rfl ?_
                refine r_while (β := Nat) (fun y => n - y) (fun y => x ≤ y ∧ y ≤ n ∧ scan cD bs n y = scan cD bs n x) (fun y => txM M0 (nI x) (nI y) k0 (nvF bs x (min (y - x) 2))) (fun y => [some (rv 0 0)]) (x) ⟨Nat.le_refl x, hI.2.1, rfl⟩ (by rw [tx_p16, Nat.sub_self]; rfl) rfl ?_
                intro y hJ kk2
                refine r_aload_n E (dat dkX10_advanceToken 85 rfl) rfl rfl ?_
                refine r_aload_n E (dat dkX10_advanceToken 86 rfl) rfl rfl ?_
                refine q_getn E fl_X10_168 (dat dkX10_advanceToken 87 rfl) rfl rfl rfl tx_14 ?_
                refine r_callV (κ := 9) (μ := []) E (sp_X10_isDigit l G bs n y _ hB0 hn0 hn6 (by omega)) my_X10_isDigit iv_X10_isDigit ml_X10_180 cm_id ⟨by decide, rfl, rfl⟩ rfl rfl rfl rfl (by decide) (Nat.le_of_ble_eq_true rfl) (dat dkX10_advanceToken 88 rfl) ?_
                rintro _ _ ⟨rfl, rfl⟩
                refine ⟨_, Mrg_z rfl, ?_⟩
                refine r_if_eq (tgt := 240) E (dat dkX10_advanceToken 89 rfl) rfl (fun h180 => ?_) (fun h180 => ?_)
                ·
                  have he2 : y = scan cD bs n x := by
                    rw [← hJ.2.2]
                    rcases bi_f h180 with q | q
                    · exact (scan_end (by omega)).symm
                    · by_cases q2 : y < n
                      · exact (scan_no q2 q).symm
                      · exact (scan_end (by omega)).symm
                  refine r_aload_n E (dat dkX10_advanceToken 121 rfl) rfl rfl ?_
                  refine r_aload_n E (dat dkX10_advanceToken 122 rfl) rfl rfl ?_
                  refine q_getn E fl_X10_168 (dat dkX10_advanceToken 123 rfl) rfl rfl rfl tx_14 ?_
                  refine r_aload_n E (dat dkX10_advanceToken 124 rfl) rfl rfl ?_
                  refine q_getn E fl_X10_171 (dat dkX10_advanceToken 125 rfl) rfl rfl rfl tx_13 ?_
                  refine r_isub E (dat dkX10_advanceToken 126 rfl) ?_
                  refine r_iconst (v := 2) E (dat dkX10_advanceToken 127 rfl) rfl ?_
                  refine q_icmp_le (tgt := 258) E (dat dkX10_advanceToken 128 rfl) rfl (pk_sub hJ.1) (b := 2) rfl (by omega) (by omega) (fun h251 => ?_) (fun h251 => ?_)
                  ·
                    refine r_iconst (v := 2) E (dat dkX10_advanceToken 131 rfl) rfl ?_
                    refine q_putn E ft_X10_174 (dat dkX10_advanceToken 132 rfl) rfl rfl rfl rfl ?_
                    rw [tx_p15]
                    refine r_goto (tgt := 298) E (dat dkX10_advanceToken 133 rfl) rfl ?_
                    first
                      | rw [tx_p14, show nI x + 1 = nI (x + 1) from nI_1 x]
                      | skip
                    refine r_vreturn E (dat dkX10_advanceToken 152 rfl) (by decide) (by decide) ?_
                    refine ⟨rfl, ?_⟩
                    rw [tx_tx]
                    unfold tP tK mV wK dK
                    rw [← he]
                    first
                      | (simp only [show n ≤ x by omega, if_true]; done)
                      | (have hc := (bi_t h103).2; simp only [show ¬ n ≤ x by omega, hc, if_true, if_false]; rw [← he2]; first | (rw [if_pos (by omega)]; done) | (rw [if_neg (by omega)]; done))
                      | (have hc := (bi_f h103).resolve_left (by omega); have hd := (bi_t h164).2; simp only [show ¬ n ≤ x by omega, hc, hd, if_true, if_false, Bool.false_eq_true]; rw [← he2]; first | (rw [if_pos (by omega)]; done) | (rw [if_neg (by omega)]; done))
                      | (have hc := (bi_f h103).resolve_left (by omega); have hd := (bi_f h164).resolve_left (by omega); simp only [show ¬ n ≤ x by omega, hc, hd, if_true, if_false, Bool.false_eq_true]; first | (rw [if_pos (by first | exact h277 | exact Decidable.not_not.mp h277)]; done) | (rw [if_neg h277]; done))
                  ·
                    refine r_iconst (v := 4) E (dat dkX10_advanceToken 129 rfl) rfl ?_
                    refine r_goto (tgt := 259) E (dat dkX10_advanceToken 130 rfl) rfl ?_
                    refine q_putn E ft_X10_174 (dat dkX10_advanceToken 132 rfl) rfl rfl rfl rfl ?_
                    rw [tx_p15]
                    refine r_goto (tgt := 298) E (dat dkX10_advanceToken 133 rfl) rfl ?_
                    first
                      | rw [tx_p14, show nI x + 1 = nI (x + 1) from nI_1 x]
                      | skip
                    refine r_vreturn E (dat dkX10_advanceToken 152 rfl) (by decide) (by decide) ?_
                    refine ⟨rfl, ?_⟩
                    rw [tx_tx]
                    unfold tP tK mV wK dK
                    rw [← he]
                    first
                      | (simp only [show n ≤ x by omega, if_true]; done)
                      | (have hc := (bi_t h103).2; simp only [show ¬ n ≤ x by omega, hc, if_true, if_false]; rw [← he2]; first | (rw [if_pos (by omega)]; done) | (rw [if_neg (by omega)]; done))
                      | (have hc := (bi_f h103).resolve_left (by omega); have hd := (bi_t h164).2; simp only [show ¬ n ≤ x by omega, hc, hd, if_true, if_false, Bool.false_eq_true]; rw [← he2]; first | (rw [if_pos (by omega)]; done) | (rw [if_neg (by omega)]; done))
                      | (have hc := (bi_f h103).resolve_left (by omega); have hd := (bi_f h164).resolve_left (by omega); simp only [show ¬ n ≤ x by omega, hc, hd, if_true, if_false, Bool.false_eq_true]; first | (rw [if_pos (by first | exact h277 | exact Decidable.not_not.mp h277)]; done) | (rw [if_neg h277]; done))
                ·
                  refine r_aload_n E (dat dkX10_advanceToken 90 rfl) rfl rfl ?_
                  refine r_aload_n E (dat dkX10_advanceToken 91 rfl) rfl rfl ?_
                  refine q_getn E fl_X10_168 (dat dkX10_advanceToken 92 rfl) rfl rfl rfl tx_14 ?_
                  refine r_aload_n E (dat dkX10_advanceToken 93 rfl) rfl rfl ?_
                  refine q_getn E fl_X10_171 (dat dkX10_advanceToken 94 rfl) rfl rfl rfl tx_13 ?_
                  refine r_isub E (dat dkX10_advanceToken 95 rfl) ?_
                  refine r_iconst (v := 2) E (dat dkX10_advanceToken 96 rfl) rfl ?_
                  refine q_icmp_ge (tgt := 220) E (dat dkX10_advanceToken 97 rfl) rfl (pk_sub hJ.1) (b := 2) rfl (by omega) (by omega) (fun h194 => ?_) (fun h194 => ?_)
                  ·
                    refine r_aload_n E (dat dkX10_advanceToken 111 rfl) rfl rfl ?_
                    refine q_getn E fl_X10_183 (dat dkX10_advanceToken 112 rfl) rfl rfl rfl tx_16 ?_
                    refine q_putn E ft_X10_183 (dat dkX10_advanceToken 113 rfl) rfl rfl rfl rfl ?_
                    rw [tx_p16]
                    refine r_aload_n E (dat dkX10_advanceToken 114 rfl) rfl rfl ?_
                    refine r_dup E (dat dkX10_advanceToken 115 rfl) rfl ?_
                    refine q_getn E fl_X10_168 (dat dkX10_advanceToken 116 rfl) rfl rfl rfl tx_14 ?_
                    refine r_iconst (v := 1) E (dat dkX10_advanceToken 117 rfl) rfl ?_
                    refine r_iadd E (dat dkX10_advanceToken 118 rfl) ?_
                    refine q_putn E ft_X10_168 (dat dkX10_advanceToken 119 rfl) rfl rfl rfl rfl ?_
                    rw [tx_p14, show nI y + 1 = nI (y + 1) from nI_1 y]
                    refine r_goto (tgt := 172) E (dat dkX10_advanceToken 120 rfl) rfl ?_
                    first
                      | rw [nv_s hJ.1 h194]
                      | rw [nv_k h194]
                    exact kk2 (y + 1) ⟨by omega, by have := (bi_t h180).1; omega, (scan_go (bi_t h180).1 (bi_t h180).2).trans hJ.2.2⟩ (by have := (bi_t h180).1; omega)
                  ·
                    refine r_bipush (v := 10) E (dat dkX10_advanceToken 98 rfl) rfl ?_
                    refine r_aload_n E (dat dkX10_advanceToken 99 rfl) rfl rfl ?_
                    refine q_getn E fl_X10_183 (dat dkX10_advanceToken 100 rfl) rfl rfl rfl tx_16 ?_
                    refine r_imul E (dat dkX10_advanceToken 101 rfl) ?_
                    refine r_aload_n E (dat dkX10_advanceToken 102 rfl) rfl rfl ?_
                    refine q_geta E fl_X10_25 (dat dkX10_advanceToken 103 rfl) rfl rfl rfl ?_
                    refine r_aload_n E (dat dkX10_advanceToken 104 rfl) rfl rfl ?_
                    refine q_getn E fl_X10_168 (dat dkX10_advanceToken 105 rfl) rfl rfl rfl tx_14 ?_
                    refine q_bald E (dat dkX10_advanceToken 106 rfl) rfl rfl (by decide) (show txM M0 _ _ _ _ 0 10 = bs from hB0) rfl (by have := (bi_t h180).1; omega) ?_
                    refine r_iadd E (dat dkX10_advanceToken 107 rfl) ?_
                    refine r_bipush (v := 48) E (dat dkX10_advanceToken 108 rfl) rfl ?_
                    refine r_isub E (dat dkX10_advanceToken 109 rfl) ?_
                    refine r_goto (tgt := 224) E (dat dkX10_advanceToken 110 rfl) rfl ?_
                    refine q_putn E ft_X10_183 (dat dkX10_advanceToken 113 rfl) rfl rfl rfl rfl ?_
                    rw [tx_p16]
                    refine r_aload_n E (dat dkX10_advanceToken 114 rfl) rfl rfl ?_
                    refine r_dup E (dat dkX10_advanceToken 115 rfl) rfl ?_
                    refine q_getn E fl_X10_168 (dat dkX10_advanceToken 116 rfl) rfl rfl rfl tx_14 ?_
                    refine r_iconst (v := 1) E (dat dkX10_advanceToken 117 rfl) rfl ?_
                    refine r_iadd E (dat dkX10_advanceToken 118 rfl) ?_
                    refine q_putn E ft_X10_168 (dat dkX10_advanceToken 119 rfl) rfl rfl rfl rfl ?_
                    rw [tx_p14, show nI y + 1 = nI (y + 1) from nI_1 y]
                    refine r_goto (tgt := 172) E (dat dkX10_advanceToken 120 rfl) rfl ?_
                    first
                      | rw [nv_s hJ.1 h194]
                      | rw [nv_k h194]
                    exact kk2 (y + 1) ⟨by omega, by have := (bi_t h180).1; omega, (scan_go (bi_t h180).1 (bi_t h180).2).trans hJ.2.2⟩ (by have := (bi_t h180).1; omega)
            ·
              refine r_while (β := Nat) (fun y => n - y) (fun y => x ≤ y ∧ y ≤ n ∧ scan cL bs n y = scan cL bs n x) (fun y => txM M0 (nI x) (nI y) k0 va) (fun y => [some (rv 0 0)]) (x) ⟨Nat.le_refl x, hI.2.1, rfl⟩ rfl rfl ?_
              intro y hJ kk2
              refine r_aload_n E (dat dkX10_advanceToken 52 rfl) rfl rfl ?_
              refine r_aload_n E (dat dkX10_advanceToken 53 rfl) rfl rfl ?_
              refine q_getn E fl_X10_168 (dat dkX10_advanceToken 54 rfl) rfl rfl rfl tx_14 ?_
              refine r_callV (κ := 9) (μ := []) E (sp_X10_isLetter l G bs n y _ hB0 hn0 hn6 (by omega)) my_X10_isLetter iv_X10_isLetter ml_X10_177 cm_id ⟨by decide, rfl, rfl⟩ rfl rfl rfl rfl (by decide) (Nat.le_of_ble_eq_true rfl) (dat dkX10_advanceToken 55 rfl) ?_
              rintro _ _ ⟨rfl, rfl⟩
              refine ⟨_, Mrg_z rfl, ?_⟩
              refine r_if_eq (tgt := 130) E (dat dkX10_advanceToken 56 rfl) rfl (fun h114 => ?_) (fun h114 => ?_)
              ·
                have he2 : y = scan cL bs n x := by
                  rw [← hJ.2.2]
                  rcases bi_f h114 with q | q
                  · exact (scan_end (by omega)).symm
                  · by_cases q2 : y < n
                    · exact (scan_no q2 q).symm
                    · exact (scan_end (by omega)).symm
                refine r_aload_n E (dat dkX10_advanceToken 64 rfl) rfl rfl ?_
                refine r_aload_n E (dat dkX10_advanceToken 65 rfl) rfl rfl ?_
                refine q_getn E fl_X10_168 (dat dkX10_advanceToken 66 rfl) rfl rfl rfl tx_14 ?_
                refine r_aload_n E (dat dkX10_advanceToken 67 rfl) rfl rfl ?_
                refine q_getn E fl_X10_171 (dat dkX10_advanceToken 68 rfl) rfl rfl rfl tx_13 ?_
                refine r_isub E (dat dkX10_advanceToken 69 rfl) ?_
                refine r_bipush (v := 8) E (dat dkX10_advanceToken 70 rfl) rfl ?_
                refine q_icmp_le (tgt := 149) E (dat dkX10_advanceToken 71 rfl) rfl (pk_sub hJ.1) (b := 8) rfl (by omega) (by omega) (fun h142 => ?_) (fun h142 => ?_)
                ·
                  refine r_iconst (v := 1) E (dat dkX10_advanceToken 74 rfl) rfl ?_
                  refine q_putn E ft_X10_174 (dat dkX10_advanceToken 75 rfl) rfl rfl rfl rfl ?_
                  rw [tx_p15]
                  refine r_goto (tgt := 298) E (dat dkX10_advanceToken 76 rfl) rfl ?_
                  first
                    | rw [tx_p14, show nI x + 1 = nI (x + 1) from nI_1 x]
                    | skip
                  refine r_vreturn E (dat dkX10_advanceToken 152 rfl) (by decide) (by decide) ?_
                  refine ⟨rfl, ?_⟩
                  rw [tx_tx]
                  unfold tP tK mV wK dK
                  rw [← he]
                  first
                    | (simp only [show n ≤ x by omega, if_true]; done)
                    | (have hc := (bi_t h103).2; simp only [show ¬ n ≤ x by omega, hc, if_true, if_false]; rw [← he2]; first | (rw [if_pos (by omega)]; done) | (rw [if_neg (by omega)]; done))
                    | (have hc := (bi_f h103).resolve_left (by omega); have hd := (bi_t h164).2; simp only [show ¬ n ≤ x by omega, hc, hd, if_true, if_false, Bool.false_eq_true]; rw [← he2]; first | (rw [if_pos (by omega)]; done) | (rw [if_neg (by omega)]; done))
                    | (have hc := (bi_f h103).resolve_left (by omega); have hd := (bi_f h164).resolve_left (by omega); simp only [show ¬ n ≤ x by omega, hc, hd, if_true, if_false, Bool.false_eq_true]; first | (rw [if_pos (by first | exact h277 | exact Decidable.not_not.mp h277)]; done) | (rw [if_neg h277]; done))
                ·
                  refine r_iconst (v := 4) E (dat dkX10_advanceToken 72 rfl) rfl ?_
                  refine r_goto (tgt := 150) E (dat dkX10_advanceToken 73 rfl) rfl ?_
                  refine q_putn E ft_X10_174 (dat dkX10_advanceToken 75 rfl) rfl rfl rfl rfl ?_
                  rw [tx_p15]
                  refine r_goto (tgt := 298) E (dat dkX10_advanceToken 76 rfl) rfl ?_
                  first
                    | rw [tx_p14, show nI x + 1 = nI (x + 1) from nI_1 x]
                    | skip
                  refine r_vreturn E (dat dkX10_advanceToken 152 rfl) (by decide) (by decide) ?_
                  refine ⟨rfl, ?_⟩
                  rw [tx_tx]
                  unfold tP tK mV wK dK
                  rw [← he]
                  first
                    | (simp only [show n ≤ x by omega, if_true]; done)
                    | (have hc := (bi_t h103).2; simp only [show ¬ n ≤ x by omega, hc, if_true, if_false]; rw [← he2]; first | (rw [if_pos (by omega)]; done) | (rw [if_neg (by omega)]; done))
                    | (have hc := (bi_f h103).resolve_left (by omega); have hd := (bi_t h164).2; simp only [show ¬ n ≤ x by omega, hc, hd, if_true, if_false, Bool.false_eq_true]; rw [← he2]; first | (rw [if_pos (by omega)]; done) | (rw [if_neg (by omega)]; done))
                    | (have hc := (bi_f h103).resolve_left (by omega); have hd := (bi_f h164).resolve_left (by omega); simp only [show ¬ n ≤ x by omega, hc, hd, if_true, if_false, Bool.false_eq_true]; first | (rw [if_pos (by first | exact h277 | exact Decidable.not_not.mp h277)]; done) | (rw [if_neg h277]; done))
              ·
                refine r_aload_n E (dat dkX10_advanceToken 57 rfl) rfl rfl ?_
                refine r_dup E (dat dkX10_advanceToken 58 rfl) rfl ?_
                refine q_getn E fl_X10_168 (dat dkX10_advanceToken 59 rfl) rfl rfl rfl tx_14 ?_
                refine r_iconst (v := 1) E (dat dkX10_advanceToken 60 rfl) rfl ?_
                refine r_iadd E (dat dkX10_advanceToken 61 rfl) ?_
                refine q_putn E ft_X10_168 (dat dkX10_advanceToken 62 rfl) rfl rfl rfl rfl ?_
                rw [tx_p14, show nI y + 1 = nI (y + 1) from nI_1 y]
                refine r_goto (tgt := 106) E (dat dkX10_advanceToken 63 rfl) rfl ?_
                exact kk2 (y + 1) ⟨by omega, by have := (bi_t h114).1; omega, (scan_go (bi_t h114).1 (bi_t h114).2).trans hJ.2.2⟩ (by have := (bi_t h114).1; omega)
          ·
            refine r_aload_n E (dat dkX10_advanceToken 43 rfl) rfl rfl ?_
            refine r_iconst (v := 0) E (dat dkX10_advanceToken 44 rfl) rfl ?_
            refine q_putn E ft_X10_174 (dat dkX10_advanceToken 45 rfl) rfl rfl rfl rfl ?_
            rw [tx_p15]
            refine r_goto (tgt := 298) E (dat dkX10_advanceToken 46 rfl) rfl ?_
            first
              | rw [tx_p14, show nI x + 1 = nI (x + 1) from nI_1 x]
              | skip
            refine r_vreturn E (dat dkX10_advanceToken 152 rfl) (by decide) (by decide) ?_
            refine ⟨rfl, ?_⟩
            rw [tx_tx]
            unfold tP tK mV wK dK
            rw [← he]
            first
              | (simp only [show n ≤ x by omega, if_true]; done)
              | (have hc := (bi_t h103).2; simp only [show ¬ n ≤ x by omega, hc, if_true, if_false]; rw [← he2]; first | (rw [if_pos (by omega)]; done) | (rw [if_neg (by omega)]; done))
              | (have hc := (bi_f h103).resolve_left (by omega); have hd := (bi_t h164).2; simp only [show ¬ n ≤ x by omega, hc, hd, if_true, if_false, Bool.false_eq_true]; rw [← he2]; first | (rw [if_pos (by omega)]; done) | (rw [if_neg (by omega)]; done))
              | (have hc := (bi_f h103).resolve_left (by omega); have hd := (bi_f h164).resolve_left (by omega); simp only [show ¬ n ≤ x by omega, hc, hd, if_true, if_false, Bool.false_eq_true]; first | (rw [if_pos (by first | exact h277 | exact Decidable.not_not.mp h277)]; done) | (rw [if_neg h277]; done))
        ·
          refine r_aload_n E (dat dkX10_advanceToken 27 rfl) rfl rfl ?_
          refine r_dup E (dat dkX10_advanceToken 28 rfl) rfl ?_
          refine q_getn E fl_X10_171 (dat dkX10_advanceToken 29 rfl) rfl rfl rfl tx_13 ?_
          refine r_iconst (v := 1) E (dat dkX10_advanceToken 30 rfl) rfl ?_
          refine r_iadd E (dat dkX10_advanceToken 31 rfl) ?_
          refine q_putn E ft_X10_171 (dat dkX10_advanceToken 32 rfl) rfl rfl rfl rfl ?_
          rw [tx_p13, show nI x + 1 = nI (x + 1) from nI_1 x]
          refine r_goto (tgt := 16) E (dat dkX10_advanceToken 33 rfl) rfl ?_
          exact kk (x + 1) ⟨by omega, by omega, (scan_go h24 (by first | exact cB_a h38 | exact cB_b (by first | exact h52 | exact Decidable.not_not.mp h52))).trans hI.2.2⟩ (by omega)
  ·
    exact absurd (by decide) h4
